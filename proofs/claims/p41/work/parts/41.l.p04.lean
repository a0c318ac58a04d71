set_option maxHeartbeats 4000000 in
set_option maxRecDepth 100000 in
theorem m_imageK (l : Launch) (D : va_G) (Y : Nat → ClassId) (Z : Nat → Nat) (sz : Nat) (o : Nat) (a : Nat → Nat) (I : Nat → Int32) (J : Nat → Int64) (F : Nat → Nat → Int32) (G : Nat → Nat → Int64) (p1 : Int32) (hk0 : TO (F 0)) (hk1 : IMG (F 47)) : Met l yX11_image (.code yX11_image cX11_image 3 (some .int) :: GW) ({ frames := 1, cells := 0, slots := 0, locals := 25 }) (va_Pc [.ref o, .int p1] (CP D Y Z (MW Y o a I J F G) sz)) (QG (S := Int32 × (Nat → Int32) × (Nat → Int32)) (fun u => some (.int u.1)) (fun u => IMG u.2.1 ∧ (((0 ≤ p1.toInt ∧ p1.toInt ≤ 3) ∧ u.1 = (F 0) 0 ∧ IMP p1.toNatClampNeg (F 0) (F 47) (F 48) u.2.1 u.2.2) ∨ (¬ (0 ≤ p1.toInt ∧ p1.toInt ≤ 3) ∧ u.1.toInt = -1 ∧ u.2.1 = (F 47) ∧ u.2.2 = (F 48)))) (fun u => CB D (MW Y o a I J (vf_upd (vf_upd F 47 u.2.1) 48 u.2.2) G) (va_A (MW Y o a I J F G) sz)) (va_A (MW Y o a I J F G) sz)) 0 0 (va_A (MW Y o a I J F G) sz) := by
  refine Met.ofW (cc := cX11_image) (maxL := 3) (ret := (some .int)) (by decide) rfl ?_
  intro p e s m args below meth c s₁ B hml hv
  obtain ⟨rfl, hsz, hP, hKN, hD0⟩ := hv
  have hx := B.exec
  have hb := B.bytes
  have hr := B.returns
  have hts := atoms_spec (ws := .code yX11_image cX11_image 3 (some .int) :: GW) B.pre
  have hg : ∀ w ∈ GW, w.before _ s = true := fun w h => hts w (List.mem_cons_of_mem _ h)
  have hown : s.vm.findClass RX11 = some m.cls := findClass_of_methodNamed B.named
  have hlocks := B.notSynchronized
  subst hsz
  have hD := hD0.self (sz := s.heap.size)
  generalize hAe : va_A (MW Y o a I J F G) s.heap.size = A at hD ⊢
  have hA : ∀ q : Nat, s.heap.size ≤ q → A q := fun q h => by rw [← hAe]; exact Or.inr h
  clear hAe hD0 hts B
  have hl := lv_entry ([.ref o, .int p1]) (n := 3) (Nat.le_of_ble_eq_true rfl)
  rw [lg_entry_eq]
  generalize (lg_sl ([.ref o, .int p1]) ++ List.replicate (3 - (lg_sl ([.ref o, .int p1])).length) Slot.unset).toArray = ls at hl ⊢
  have hl : lv_has ls 3 [(0, .ref o), (1, .int p1)] := hl
  refine w_start (A0 := A) hP (fun H locs hP hS => ?_)
  refine lv_iload_n hx hb dX11_image_0 rfl (lv_at hl 1 rfl) ?_
  have j1 := rgI p1
  have j2 := Int32.toInt_toInt64 p1
  refine lv_i2l (v := p1.toInt64) hx hb dX11_image_1 (rfl) ?_
  refine lv_lconst (v := 0) hx hb dX11_image_2 (by decide) ?_
  refine lv_ldc2 (v := 3) hx hb hown (hg _ kw_1912) dX11_image_3 ?_
  have zl0 : (0 : Int64).toInt = 0 := by decide
  have zl3 : (3 : Int64).toInt = 3 := by decide
  refine cg0 (rn_S (As := [.long p1.toInt64, .long 0, .long 3]) (rest := []) (m_in l D Y Z H.size   p1.toInt64 0 3 ) ⟨hx, hb, hml, hown, hg⟩ lk_X11_99 ⟨CP.blind, CP.at nilP hKN (nilD (A := fun _ => True))⟩ ⟨⟨rfl, rfl⟩, ⟨Nat.le_of_ble_eq_true rfl, Nat.le_of_ble_eq_true rfl⟩, ⟨Nat.le_of_ble_eq_true rfl, Nat.le_of_ble_eq_true rfl⟩⟩ hl.1 rfl (Nat.le_of_ble_eq_true rfl) dX11_image_6) hP hS hA (fun u3 H locs w4 hP hS => ?_)
  obtain ⟨hw6, hw7⟩ : (((0 : Int64).toInt ≤ p1.toInt64.toInt ∧ p1.toInt64.toInt ≤ (3 : Int64).toInt ∧ u3.toInt = 1) ∨ (¬ ((0 : Int64).toInt ≤ p1.toInt64.toInt ∧ p1.toInt64.toInt ≤ (3 : Int64).toInt) ∧ u3.toInt = 0)) ∧ (0 ≤ u3.toInt ∧ u3.toInt ≤ 1) := w4
  refine W.eq (g2 := F0 m 9 ls [.int u3]) rfl ?_
  rcases (show u3.toInt = 1 ∨ u3.toInt = 0 by omega) with c8 | c8
  · obtain rfl : u3 = 1 := i_is c8 (by decide)
    have zi1 : (1 : Int32).toInt = 1 := by decide
    refine W.eq (g2 := F0 m 9 ls [.int 1]) rfl ?_
    refine lv_if_ne (tgt := 14) hx hb dX11_image_9 (by decide) (fun c9 => ?_) (fun c9 => ?_)
    rotate_left
    · exact absurd c9 (by decide)
    refine lv_aload_n hx hb dX11_image_14 rfl (lv_at hl 0 rfl) ?_
    refine va_get (D := D) (ci := 11) (v := .ref (a 48)) (C := RX11) (T := TX11) (N := 49) hx hb hg inGX11 hown hKN.1 hP 0 rfl rfl 48 (by decide) (hg _ kw_1256) (fun _ h9 => h9) rfl dX11_image_15 ?_
    refine lv_iload_n hx hb dX11_image_18 rfl (lv_at hl 1 rfl) ?_
    refine lv_iconst (v := 1) hx hb dX11_image_19 (by decide) ?_
    refine va_zast hx hb hKN.1 hP hD hS 28 3 rfl rfl (vp_in_iff.mpr ⟨by omega, by omega⟩) dX11_image_20 (fun H locs hP hD hS => ?_)
    obtain ⟨f10, ef10, hP, hD⟩ : ∃ f10 : Nat → Int32, f10 = upd (F 48) p1.toNatClampNeg (vp_nar .boolean 1) ∧ va_P D vwCl (MW Y o a I J (vf_upd F 48 f10) G) H ∧ va_D A (MW Y o a I J (vf_upd F 48 f10) G) := ⟨_, rfl, hP, hD⟩
    refine lv_iconst (v := 0) hx hb dX11_image_21 (by decide) ?_
    refine lv_istore_n (lv' := [(2, .int 0), (0, .ref o), (1, .int p1)]) hx hb dX11_image_22 rfl hl (by decide) rfl (fun ls hl => ?_)
    have zi0 : (0 : Int32).toInt = 0 := by decide
    refine w_loop (σ := Int32 × (Nat → Int32)) (fun xx H locs ls => match xx with | (g17, f18) => va_P D vwCl (MW Y o a I J (vf_upd (vf_upd F 47 f18) 48 f10) G) H ∧ va_D A (MW Y o a I J (vf_upd (vf_upd F 47 f18) 48 f10) G) ∧ va_S A s.heap H locs ∧ lv_has ls 3 [(2, .int g17), (0, .ref o), (1, .int p1)] ∧ (0 ≤ g17.toInt ∧ g17.toInt ≤ 7533) ∧ (∀ n : Nat, (n : Int) < g17.toInt → f18 (7533 * (p1.toInt).toNat + n) = (F 0) n) ∧ (∀ j : Nat, j < 4 → j ≠ (p1.toInt).toNat → ∀ n, n < 7533 → f18 (7533 * j + n) = F 47 (7533 * j + n))) (fun xx => match xx with | (g17, f18) => (7533 - g17.toInt).toNat) (0, (F 47)) ⟨hP, hD, hS, lv_sub hl [0, 1, 2] rfl, by omega, (fun n h => by omega), (fun _ _ _ _ _ => rfl)⟩ (fun xx H locs ls hI ih => ?_)
    obtain ⟨g17, f18⟩ := xx
    obtain ⟨hP, hD, hS, hl, hq27, hr28, hr29⟩ := hI
    have ih30 := ih
    refine lv_iload_n hx hb dX11_image_23 rfl (lv_at hl 0 rfl) ?_
    refine lv_sipush (v := 7533) hx hb dX11_image_24 (by decide) ?_
    refine lv_icmp_ge (tgt := 54) hx hb dX11_image_27 (by decide) (fun c31 => ?_) (fun c31 => ?_)
    · skip
      have c31 := i_le (show (7533 : Int32).toInt = 7533 by decide) (Eq.refl g17.toInt) c31
      have t32 := IMG_end hk1 hk0 hr28 (by omega) hr29
      refine lv_aload_n hx hb dX11_image_54 rfl (lv_at hl 1 rfl) ?_
      refine va_get (D := D) (ci := 11) (v := .ref (a 0)) (C := RX11) (T := TX11) (N := 49) hx hb hg inGX11 hown hKN.1 hP 0 rfl rfl 0 (by decide) (hg _ kw_1208) (fun _ h9 => h9) rfl dX11_image_55 ?_
      refine lv_iconst (v := 0) hx hb dX11_image_58 (by decide) ?_
      refine va_iald hx hb hKN.1 hP 1 0 rfl rfl (show ¬ ((0 : Int32) < 0 ∨ 7533 ≤ (0 : Int32).toNatClampNeg) by decide) dX11_image_59 ?_
      refine lv_topi (fun v33 ev33 => ?_)
      have ev33 : v33 = (F 0) 0 := ev33
      have kv33 := TO_0 hk0
      rw [← ev33] at kv33
      have qv33 := congrArg Int32.toInt ev33
      refine W.widen (k := 0) (n := 0) (Nat.le_of_ble_eq_true rfl) (Nat.le_of_ble_eq_true rfl) ?_
      exact W.iret (v := v33) hx hb hr (fun t ht hW => ⟨⟨(v33, f18, f10), rfl, ⟨t32, (show (((0 ≤ p1.toInt ∧ p1.toInt ≤ 3) ∧ v33 = (F 0) 0 ∧ IMP p1.toNatClampNeg (F 0) (F 47) (F 48) f18 f10) ∨ (¬ (0 ≤ p1.toInt ∧ p1.toInt ≤ 3) ∧ v33.toInt = -1 ∧ f18 = (F 47) ∧ f10 = (F 48))) from (Or.inl ⟨⟨by omega, by omega⟩, ev33, IMP_mk (i := p1) hr28 (by omega) hr29 ef10 (by decide) rfl (by omega)⟩))⟩, CB.mk ht hP hD⟩, hS.F ht⟩) hS.2.2 dX11_image_60
    · skip
      have c31 := i_nle (show (7533 : Int32).toInt = 7533 by decide) (Eq.refl g17.toInt) c31
      refine lv_aload_n hx hb dX11_image_30 rfl (lv_at hl 1 rfl) ?_
      refine va_get (D := D) (ci := 11) (v := .ref (a 47)) (C := RX11) (T := TX11) (N := 49) hx hb hg inGX11 hown hKN.1 hP 0 rfl rfl 47 (by decide) (hg _ kw_1255) (fun _ h9 => h9) rfl dX11_image_31 ?_
      refine lv_sipush (v := 7533) hx hb dX11_image_34 (by decide) ?_
      refine lv_iload_n hx hb dX11_image_37 rfl (lv_at hl 2 rfl) ?_
      refine lv_imul hx hb dX11_image_38 ?_
      refine lv_topi (fun v34 ev34 => ?_)
      have hv34 := i_mul (show (7533 : Int32).toInt = 7533 by decide) (Eq.refl p1.toInt) ev34 (by omega) (by omega)
      refine lv_iload_n hx hb dX11_image_39 rfl (lv_at hl 0 rfl) ?_
      refine lv_iadd hx hb dX11_image_40 ?_
      refine lv_topi (fun v35 ev35 => ?_)
      have hv35 := i_add (Eq.refl v34.toInt) (Eq.refl g17.toInt) ev35 (by omega) (by omega)
      refine lv_aload_n hx hb dX11_image_41 rfl (lv_at hl 1 rfl) ?_
      refine va_get (D := D) (ci := 11) (v := .ref (a 0)) (C := RX11) (T := TX11) (N := 49) hx hb hg inGX11 hown hKN.1 hP 0 rfl rfl 0 (by decide) (hg _ kw_1208) (fun _ h9 => h9) rfl dX11_image_42 ?_
      refine lv_iload_n hx hb dX11_image_45 rfl (lv_at hl 0 rfl) ?_
      refine va_iald hx hb hKN.1 hP 1 0 rfl rfl (vp_in_iff.mpr ⟨by omega, by omega⟩) dX11_image_46 ?_
      refine lv_topi (fun v36 ev36 => ?_)
      have ev36 : v36 = (F 0) g17.toNatClampNeg := ev36
      refine va_iast hx hb hKN.1 hP hD hS 27 0 rfl rfl (vp_in_iff.mpr ⟨by omega, by omega⟩) dX11_image_47 (fun H locs hP hD hS => ?_)
      obtain ⟨f37, ef37, hP, hD⟩ : ∃ f37 : Nat → Int32, f37 = upd f18 v35.toNatClampNeg v36 ∧ va_P D vwCl (MW Y o a I J (vf_upd (vf_upd F 47 f37) 48 f10) G) H ∧ va_D A (MW Y o a I J (vf_upd (vf_upd F 47 f37) 48 f10) G) := ⟨_, rfl, hP, hD⟩
      have t38c := IC_s (K := p1.toInt.toNat) (i := g17) (idx := v35) (j := g17.toInt + 1) hr28 ef37 (by omega) (by omega) ev36 rfl
      have t38o := IO_s (K := p1.toInt.toNat) (i := g17) (idx := v35) hr29 ef37 (by omega) (by omega) (by omega)
      obtain ⟨v39, ev39⟩ : ∃ y : Int32, y = g17 + 1 := ⟨_, rfl⟩
      have hv39 := i_add (Eq.refl g17.toInt) (show (1 : Int32).toInt = 1 by decide) ev39 (by omega) (by omega)
      refine lv_iinc (v := v39) (lv' := [(2, .int v39), (0, .ref o), (1, .int p1)]) hx hb dX11_image_48 hl (k := 0) rfl (by rw [ev39]; rfl) (by decide) rfl (fun ls hl => ?_)
      refine lv_goto (tgt := 23) hx hb dX11_image_51 (by decide) ?_
      exact ih30 (v39, f37) H locs ls (by show (7533 - v39.toInt).toNat < (7533 - g17.toInt).toNat; omega) ⟨hP, hD, hS, lv_sub hl [0, 1, 2] rfl, by omega, (fun n h => t38c n (by omega)), t38o⟩
  · obtain rfl : u3 = 0 := i_is c8 (by decide)
    have zi0 : (0 : Int32).toInt = 0 := by decide
    refine W.eq (g2 := F0 m 9 ls [.int 0]) rfl ?_
    refine lv_if_ne (tgt := 14) hx hb dX11_image_9 (by decide) (fun c40 => ?_) (fun c40 => ?_)
    · exact absurd c40 (by decide)
    refine lv_iconst (v := (-1)) hx hb dX11_image_12 (by decide) ?_
    refine W.widen (k := 0) (n := 0) (Nat.le_of_ble_eq_true rfl) (Nat.le_of_ble_eq_true rfl) ?_
    have zim1 : ((-1) : Int32).toInt = -1 := by decide
    exact W.iret (v := (-1)) hx hb hr (fun t ht hW => ⟨⟨((-1), (F 47), (F 48)), rfl, ⟨hk1, (show (((0 ≤ p1.toInt ∧ p1.toInt ≤ 3) ∧ (-1) = (F 0) 0 ∧ IMP p1.toNatClampNeg (F 0) (F 47) (F 48) (F 47) (F 48)) ∨ (¬ (0 ≤ p1.toInt ∧ p1.toInt ≤ 3) ∧ ((-1) : Int32).toInt = -1 ∧ (F 47) = (F 47) ∧ (F 48) = (F 48))) from (Or.inr ⟨by omega, by decide, rfl, rfl⟩))⟩, CB.mk ht hP hD⟩, hS.F ht⟩) hS.2.2 dX11_image_13
set_option maxHeartbeats 4000000 in
set_option maxRecDepth 100000 in
theorem m_backK (l : Launch) (D : va_G) (Y : Nat → ClassId) (Z : Nat → Nat) (sz : Nat) (o : Nat) (a : Nat → Nat) (I : Nat → Int32) (J : Nat → Int64) (F : Nat → Nat → Int32) (G : Nat → Nat → Int64) (p1 : Int32) (hk0 : TO (F 0)) (hk1 : IMG (F 47)) : Met l yX11_back (.code yX11_back cX11_back 3 (some .int) :: GW) ({ frames := 1, cells := 0, slots := 0, locals := 25 }) (va_Pc [.ref o, .int p1] (CP D Y Z (MW Y o a I J F G) sz)) (QG (S := Int32 × (Nat → Int32)) (fun u => some (.int u.1)) (fun u => TO u.2 ∧ ((((0 ≤ p1.toInt ∧ p1.toInt ≤ 3) ∧ ((F 48) p1.toNatClampNeg).toInt ≠ 0) ∧ u.1 = u.2 0 ∧ ∀ n : Nat, n < 7533 → u.2 n = (F 47) (7533 * p1.toNatClampNeg + n)) ∨ (¬ ((0 ≤ p1.toInt ∧ p1.toInt ≤ 3) ∧ ((F 48) p1.toNatClampNeg).toInt ≠ 0) ∧ u.1.toInt = -1 ∧ u.2 = (F 0)))) (fun u => CB D (MW Y o a I J (vf_upd F 0 u.2) G) (va_A (MW Y o a I J F G) sz)) (va_A (MW Y o a I J F G) sz)) 0 0 (va_A (MW Y o a I J F G) sz) := by
  refine Met.ofW (cc := cX11_back) (maxL := 3) (ret := (some .int)) (by decide) rfl ?_
  intro p e s m args below meth c s₁ B hml hv
  obtain ⟨rfl, hsz, hP, hKN, hD0⟩ := hv
  have hx := B.exec
  have hb := B.bytes
  have hr := B.returns
  have hts := atoms_spec (ws := .code yX11_back cX11_back 3 (some .int) :: GW) B.pre
  have hg : ∀ w ∈ GW, w.before _ s = true := fun w h => hts w (List.mem_cons_of_mem _ h)
  have hown : s.vm.findClass RX11 = some m.cls := findClass_of_methodNamed B.named
  have hlocks := B.notSynchronized
  subst hsz
  have hD := hD0.self (sz := s.heap.size)
  generalize hAe : va_A (MW Y o a I J F G) s.heap.size = A at hD ⊢
  have hA : ∀ q : Nat, s.heap.size ≤ q → A q := fun q h => by rw [← hAe]; exact Or.inr h
  clear hAe hD0 hts B
  have hl := lv_entry ([.ref o, .int p1]) (n := 3) (Nat.le_of_ble_eq_true rfl)
  rw [lg_entry_eq]
  generalize (lg_sl ([.ref o, .int p1]) ++ List.replicate (3 - (lg_sl ([.ref o, .int p1])).length) Slot.unset).toArray = ls at hl ⊢
  have hl : lv_has ls 3 [(0, .ref o), (1, .int p1)] := hl
  refine w_start (A0 := A) hP (fun H locs hP hS => ?_)
  refine lv_iload_n hx hb dX11_back_0 rfl (lv_at hl 1 rfl) ?_
  have j1 := rgI p1
  have j2 := Int32.toInt_toInt64 p1
  refine lv_i2l (v := p1.toInt64) hx hb dX11_back_1 (rfl) ?_
  refine lv_lconst (v := 0) hx hb dX11_back_2 (by decide) ?_
  refine lv_ldc2 (v := 3) hx hb hown (hg _ kw_1912) dX11_back_3 ?_
  have zl0 : (0 : Int64).toInt = 0 := by decide
  have zl3 : (3 : Int64).toInt = 3 := by decide
  refine cg0 (rn_S (As := [.long p1.toInt64, .long 0, .long 3]) (rest := []) (m_in l D Y Z H.size   p1.toInt64 0 3 ) ⟨hx, hb, hml, hown, hg⟩ lk_X11_99 ⟨CP.blind, CP.at nilP hKN (nilD (A := fun _ => True))⟩ ⟨⟨rfl, rfl⟩, ⟨Nat.le_of_ble_eq_true rfl, Nat.le_of_ble_eq_true rfl⟩, ⟨Nat.le_of_ble_eq_true rfl, Nat.le_of_ble_eq_true rfl⟩⟩ hl.1 rfl (Nat.le_of_ble_eq_true rfl) dX11_back_6) hP hS hA (fun u3 H locs w4 hP hS => ?_)
  obtain ⟨hw6, hw7⟩ : (((0 : Int64).toInt ≤ p1.toInt64.toInt ∧ p1.toInt64.toInt ≤ (3 : Int64).toInt ∧ u3.toInt = 1) ∨ (¬ ((0 : Int64).toInt ≤ p1.toInt64.toInt ∧ p1.toInt64.toInt ≤ (3 : Int64).toInt) ∧ u3.toInt = 0)) ∧ (0 ≤ u3.toInt ∧ u3.toInt ≤ 1) := w4
  refine W.eq (g2 := F0 m 9 ls [.int u3]) rfl ?_
  rcases (show u3.toInt = 1 ∨ u3.toInt = 0 by omega) with c8 | c8
  · obtain rfl : u3 = 1 := i_is c8 (by decide)
    have zi1 : (1 : Int32).toInt = 1 := by decide
    refine W.eq (g2 := F0 m 9 ls [.int 1]) rfl ?_
    refine lv_if_eq (tgt := 21) hx hb dX11_back_9 (by decide) (fun c9 => ?_) (fun c9 => ?_)
    · exact absurd c9 (by decide)
    refine lv_aload_n hx hb dX11_back_12 rfl (lv_at hl 0 rfl) ?_
    refine va_get (D := D) (ci := 11) (v := .ref (a 48)) (C := RX11) (T := TX11) (N := 49) hx hb hg inGX11 hown hKN.1 hP 0 rfl rfl 48 (by decide) (hg _ kw_1256) (fun _ h9 => h9) rfl dX11_back_13 ?_
    refine lv_iload_n hx hb dX11_back_16 rfl (lv_at hl 1 rfl) ?_
    refine va_zald hx hb hKN.1 hP 28 3 rfl rfl (vp_in_iff.mpr ⟨by omega, by omega⟩) dX11_back_17 ?_
    refine lv_topi (fun v10 ev10 => ?_)
    have ev10 : v10 = (F 48) p1.toNatClampNeg := ev10
    have qv10 := congrArg Int32.toInt ev10
    have j11 := rgI v10
    refine lv_if_ne (tgt := 23) hx hb dX11_back_18 (by decide) (fun c12 => ?_) (fun c12 => ?_)
    · skip
      have c12 := i_ne (Eq.refl v10.toInt) (show (0 : Int32).toInt = 0 by decide) c12
      refine lv_iconst (v := 0) hx hb dX11_back_23 (by decide) ?_
      refine lv_istore_n (lv' := [(2, .int 0), (0, .ref o), (1, .int p1)]) hx hb dX11_back_24 rfl hl (by decide) rfl (fun ls hl => ?_)
      have zi0 : (0 : Int32).toInt = 0 := by decide
      refine w_loop (σ := Int32 × (Nat → Int32)) (fun xx H locs ls => match xx with | (g19, f20) => va_P D vwCl (MW Y o a I J (vf_upd F 0 f20) G) H ∧ va_D A (MW Y o a I J (vf_upd F 0 f20) G) ∧ va_S A s.heap H locs ∧ lv_has ls 3 [(2, .int g19), (0, .ref o), (1, .int p1)] ∧ (0 ≤ g19.toInt ∧ g19.toInt ≤ 7533) ∧ (∀ n : Nat, (n : Int) < g19.toInt → f20 n = (F 47) (7533 * (p1.toInt).toNat + n))) (fun xx => match xx with | (g19, f20) => (7533 - g19.toInt).toNat) (0, (F 0)) ⟨hP, hD, hS, lv_sub hl [0, 1, 2] rfl, by omega, (fun n h => by omega)⟩ (fun xx H locs ls hI ih => ?_)
      obtain ⟨g19, f20⟩ := xx
      obtain ⟨hP, hD, hS, hl, hq29, hr30⟩ := hI
      have ih31 := ih
      refine lv_iload_n hx hb dX11_back_25 rfl (lv_at hl 0 rfl) ?_
      refine lv_sipush (v := 7533) hx hb dX11_back_26 (by decide) ?_
      refine lv_icmp_ge (tgt := 56) hx hb dX11_back_29 (by decide) (fun c32 => ?_) (fun c32 => ?_)
      · skip
        have c32 := i_le (show (7533 : Int32).toInt = 7533 by decide) (Eq.refl g19.toInt) c32
        have t33 := BC_end hk1 (by omega) hr30 (by omega)
        refine lv_aload_n hx hb dX11_back_56 rfl (lv_at hl 1 rfl) ?_
        refine va_get (D := D) (ci := 11) (v := .ref (a 0)) (C := RX11) (T := TX11) (N := 49) hx hb hg inGX11 hown hKN.1 hP 0 rfl rfl 0 (by decide) (hg _ kw_1208) (fun _ h9 => h9) rfl dX11_back_57 ?_
        refine lv_iconst (v := 0) hx hb dX11_back_60 (by decide) ?_
        refine va_iald hx hb hKN.1 hP 1 0 rfl rfl (show ¬ ((0 : Int32) < 0 ∨ 7533 ≤ (0 : Int32).toNatClampNeg) by decide) dX11_back_61 ?_
        refine lv_topi (fun v34 ev34 => ?_)
        have ev34 : v34 = f20 0 := ev34
        have kv34 := TO_0 t33
        rw [← ev34] at kv34
        have qv34 := congrArg Int32.toInt ev34
        refine W.widen (k := 0) (n := 0) (Nat.le_of_ble_eq_true rfl) (Nat.le_of_ble_eq_true rfl) ?_
        exact W.iret (v := v34) hx hb hr (fun t ht hW => ⟨⟨(v34, f20), rfl, ⟨t33, (show ((((0 ≤ p1.toInt ∧ p1.toInt ≤ 3) ∧ ((F 48) p1.toNatClampNeg).toInt ≠ 0) ∧ v34 = f20 0 ∧ ∀ n : Nat, n < 7533 → f20 n = (F 47) (7533 * p1.toNatClampNeg + n)) ∨ (¬ ((0 ≤ p1.toInt ∧ p1.toInt ≤ 3) ∧ ((F 48) p1.toNatClampNeg).toInt ≠ 0) ∧ v34.toInt = -1 ∧ f20 = (F 0))) from (Or.inl ⟨by omega, ev34, BK_mk (i := p1) hr30 (by omega) (by omega)⟩))⟩, CB.mk ht hP hD⟩, hS.F ht⟩) hS.2.2 dX11_back_62
      · skip
        have c32 := i_nle (show (7533 : Int32).toInt = 7533 by decide) (Eq.refl g19.toInt) c32
        refine lv_aload_n hx hb dX11_back_32 rfl (lv_at hl 1 rfl) ?_
        refine va_get (D := D) (ci := 11) (v := .ref (a 0)) (C := RX11) (T := TX11) (N := 49) hx hb hg inGX11 hown hKN.1 hP 0 rfl rfl 0 (by decide) (hg _ kw_1208) (fun _ h9 => h9) rfl dX11_back_33 ?_
        refine lv_iload_n hx hb dX11_back_36 rfl (lv_at hl 0 rfl) ?_
        refine lv_aload_n hx hb dX11_back_37 rfl (lv_at hl 1 rfl) ?_
        refine va_get (D := D) (ci := 11) (v := .ref (a 47)) (C := RX11) (T := TX11) (N := 49) hx hb hg inGX11 hown hKN.1 hP 0 rfl rfl 47 (by decide) (hg _ kw_1255) (fun _ h9 => h9) rfl dX11_back_38 ?_
        refine lv_sipush (v := 7533) hx hb dX11_back_41 (by decide) ?_
        refine lv_iload_n hx hb dX11_back_44 rfl (lv_at hl 2 rfl) ?_
        refine lv_imul hx hb dX11_back_45 ?_
        refine lv_topi (fun v35 ev35 => ?_)
        have hv35 := i_mul (show (7533 : Int32).toInt = 7533 by decide) (Eq.refl p1.toInt) ev35 (by omega) (by omega)
        refine lv_iload_n hx hb dX11_back_46 rfl (lv_at hl 0 rfl) ?_
        refine lv_iadd hx hb dX11_back_47 ?_
        refine lv_topi (fun v36 ev36 => ?_)
        have hv36 := i_add (Eq.refl v35.toInt) (Eq.refl g19.toInt) ev36 (by omega) (by omega)
        refine va_iald hx hb hKN.1 hP 27 0 rfl rfl (vp_in_iff.mpr ⟨by omega, by omega⟩) dX11_back_48 ?_
        refine lv_topi (fun v37 ev37 => ?_)
        have ev37 : v37 = (F 47) v36.toNatClampNeg := ev37
        refine va_iast hx hb hKN.1 hP hD hS 1 0 rfl rfl (vp_in_iff.mpr ⟨by omega, by omega⟩) dX11_back_49 (fun H locs hP hD hS => ?_)
        obtain ⟨f38, ef38, hP, hD⟩ : ∃ f38 : Nat → Int32, f38 = upd f20 g19.toNatClampNeg v37 ∧ va_P D vwCl (MW Y o a I J (vf_upd F 0 f38) G) H ∧ va_D A (MW Y o a I J (vf_upd F 0 f38) G) := ⟨_, rfl, hP, hD⟩
        have t39 := BC_s (K := p1.toInt.toNat) (i := g19) (idx := v36) (j := g19.toInt + 1) hr30 ef38 (by omega) (by omega) ev37 rfl
        obtain ⟨v40, ev40⟩ : ∃ y : Int32, y = g19 + 1 := ⟨_, rfl⟩
        have hv40 := i_add (Eq.refl g19.toInt) (show (1 : Int32).toInt = 1 by decide) ev40 (by omega) (by omega)
        refine lv_iinc (v := v40) (lv' := [(2, .int v40), (0, .ref o), (1, .int p1)]) hx hb dX11_back_50 hl (k := 0) rfl (by rw [ev40]; rfl) (by decide) rfl (fun ls hl => ?_)
        refine lv_goto (tgt := 25) hx hb dX11_back_53 (by decide) ?_
        exact ih31 (v40, f38) H locs ls (by show (7533 - v40.toInt).toNat < (7533 - g19.toInt).toNat; omega) ⟨hP, hD, hS, lv_sub hl [0, 1, 2] rfl, by omega, (fun n h => t39 n (by omega))⟩
    · skip
      have c12 := i_eq (Eq.refl v10.toInt) (show (0 : Int32).toInt = 0 by decide) c12
      refine lv_iconst (v := (-1)) hx hb dX11_back_21 (by decide) ?_
      refine W.widen (k := 0) (n := 0) (Nat.le_of_ble_eq_true rfl) (Nat.le_of_ble_eq_true rfl) ?_
      have zim1 : ((-1) : Int32).toInt = -1 := by decide
      exact W.iret (v := (-1)) hx hb hr (fun t ht hW => ⟨⟨((-1), (F 0)), rfl, ⟨hk0, (show ((((0 ≤ p1.toInt ∧ p1.toInt ≤ 3) ∧ ((F 48) p1.toNatClampNeg).toInt ≠ 0) ∧ (-1) = (F 0) 0 ∧ ∀ n : Nat, n < 7533 → (F 0) n = (F 47) (7533 * p1.toNatClampNeg + n)) ∨ (¬ ((0 ≤ p1.toInt ∧ p1.toInt ≤ 3) ∧ ((F 48) p1.toNatClampNeg).toInt ≠ 0) ∧ ((-1) : Int32).toInt = -1 ∧ (F 0) = (F 0))) from (Or.inr ⟨by omega, by decide, rfl⟩))⟩, CB.mk ht hP hD⟩, hS.F ht⟩) hS.2.2 dX11_back_22
  · obtain rfl : u3 = 0 := i_is c8 (by decide)
    have zi0 : (0 : Int32).toInt = 0 := by decide
    refine W.eq (g2 := F0 m 9 ls [.int 0]) rfl ?_
    refine lv_if_eq (tgt := 21) hx hb dX11_back_9 (by decide) (fun c41 => ?_) (fun c41 => ?_)
    rotate_left
    · exact absurd c41 (by decide)
    refine lv_iconst (v := (-1)) hx hb dX11_back_21 (by decide) ?_
    refine W.widen (k := 0) (n := 0) (Nat.le_of_ble_eq_true rfl) (Nat.le_of_ble_eq_true rfl) ?_
    have zim1 : ((-1) : Int32).toInt = -1 := by decide
    exact W.iret (v := (-1)) hx hb hr (fun t ht hW => ⟨⟨((-1), (F 0)), rfl, ⟨hk0, (show ((((0 ≤ p1.toInt ∧ p1.toInt ≤ 3) ∧ ((F 48) p1.toNatClampNeg).toInt ≠ 0) ∧ (-1) = (F 0) 0 ∧ ∀ n : Nat, n < 7533 → (F 0) n = (F 47) (7533 * p1.toNatClampNeg + n)) ∨ (¬ ((0 ≤ p1.toInt ∧ p1.toInt ≤ 3) ∧ ((F 48) p1.toNatClampNeg).toInt ≠ 0) ∧ ((-1) : Int32).toInt = -1 ∧ (F 0) = (F 0))) from (Or.inr ⟨by omega, by decide, rfl⟩))⟩, CB.mk ht hP hD⟩, hS.F ht⟩) hS.2.2 dX11_back_22
