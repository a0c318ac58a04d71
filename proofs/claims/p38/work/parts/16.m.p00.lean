set_option maxHeartbeats 4000000 in
set_option maxRecDepth 100000 in
theorem m_push (l : Launch) (D : va_G) (Y : Nat → ClassId) (Z : Nat → Nat) (sz : Nat) (o : Nat) (a : Nat → Nat) (I : Nat → Int32) (J : Nat → Int64) (F : Nat → Nat → Int32) (G : Nat → Nat → Int64) (p1 : Int64) (hk_0 : (0 ≤ (I 26).toInt ∧ (I 26).toInt ≤ 63)) : Met l yX11_push (.code yX11_push cX11_push 3 none :: GW) ({ frames := 0, cells := 0, slots := 0, locals := 0 }) (va_Pc [.ref o, .long p1] (CP D Y Z (MW Y o a I J F G) sz)) (QG (S := Int32 × (Nat → Int64)) (fun _ => none) (fun u => (u.1.toInt = (I 26).toInt + 1) ∧ (0 ≤ u.1.toInt ∧ u.1.toInt ≤ 64)) (fun u => CB D (MW Y o a (upd I 26 u.1) J F (vf_upd G 25 u.2)) (va_A (MW Y o a I J F G) sz)) (va_A (MW Y o a I J F G) sz)) 0 0 (va_A (MW Y o a I J F G) sz) := by
  refine Met.ofW (cc := cX11_push) (maxL := 3) (ret := none) (by decide) rfl ?_
  intro p e s m args below meth c s₁ B hml hv
  obtain ⟨rfl, hsz, hP, hKN, hD0⟩ := hv
  have hx := B.exec
  have hb := B.bytes
  have hr := B.returns
  have hts := atoms_spec (ws := .code yX11_push cX11_push 3 none :: GW) B.pre
  have hg : ∀ w ∈ GW, w.before _ s = true := fun w h => hts w (List.mem_cons_of_mem _ h)
  have hown : s.vm.findClass RX11 = some m.cls := findClass_of_methodNamed B.named
  have hlocks := B.notSynchronized
  subst hsz
  have hD := hD0.self (sz := s.heap.size)
  generalize hAe : va_A (MW Y o a I J F G) s.heap.size = A at hD ⊢
  have hA : ∀ q : Nat, s.heap.size ≤ q → A q := fun q h => by rw [← hAe]; exact Or.inr h
  clear hAe hD0 hts B
  have hl := lv_entry ([.ref o, .long p1]) (n := 3) (Nat.le_of_ble_eq_true rfl)
  rw [lg_entry_eq]
  generalize (lg_sl ([.ref o, .long p1]) ++ List.replicate (3 - (lg_sl ([.ref o, .long p1])).length) Slot.unset).toArray = ls at hl ⊢
  have hl : lv_has ls 3 [(0, .ref o), (1, .long p1)] := hl
  refine w_start (A0 := A) hP (fun H locs hP hS => ?_)
  refine lv_aload_n hx hb dX11_push_0 rfl (lv_at hl 0 rfl) ?_
  refine va_get (D := D) (ci := 11) (v := .ref (a 25)) (C := RX11) (T := TX11) (N := 49) hx hb hg inGX11 hown hKN.1 hP 0 rfl rfl 25 (by decide) (hg _ kw_1233) (fun _ h9 => h9) rfl dX11_push_1 ?_
  refine lv_aload_n hx hb dX11_push_4 rfl (lv_at hl 0 rfl) ?_
  refine va_get (D := D) (ci := 11) (v := .int (I 26)) (C := RX11) (T := TX11) (N := 49) hx hb hg inGX11 hown hKN.1 hP 0 rfl rfl 26 (by decide) (hg _ kw_1234) (fun _ h9 => h9) rfl dX11_push_5 ?_
  refine lv_lload_n hx hb dX11_push_8 rfl (lv_at hl 1 rfl) ?_
  refine va_last hx hb hKN.1 hP hD hS 17 1 rfl rfl (vp_in_iff.mpr ⟨by omega, by omega⟩) dX11_push_9 (fun H locs hP hD hS => ?_)
  obtain ⟨f1, ef1, hP, hD⟩ : ∃ f1 : Nat → Int64, f1 = vp_updL (G 25) ((I 26).toNatClampNeg) p1 ∧ va_P D vwCl (MW Y o a I J F (vf_upd G 25 f1)) H ∧ va_D A (MW Y o a I J F (vf_upd G 25 f1)) := ⟨_, rfl, hP, hD⟩
  refine lv_aload_n hx hb dX11_push_10 rfl (lv_at hl 0 rfl) ?_
  refine lv_dup hx hb dX11_push_11 rfl ?_
  refine va_get (D := D) (ci := 11) (v := .int (I 26)) (C := RX11) (T := TX11) (N := 49) hx hb hg inGX11 hown hKN.1 hP 0 rfl rfl 26 (by decide) (hg _ kw_1234) (fun _ h9 => h9) rfl dX11_push_12 ?_
  refine lv_iconst (v := 1) hx hb dX11_push_15 (by decide) ?_
  refine lv_iadd hx hb dX11_push_16 ?_
  refine lv_topi (fun v2 ev2 => ?_)
  have hv2 := i_add (Eq.refl (I 26).toInt) (show (1 : Int32).toInt = 1 by decide) ev2 (by omega) (by omega)
  refine va_put (D := D) (ci := 11) (v := .int v2) (ty := .int) (C := RX11) (T := TX11) (N := 49) hx hb hg inGX11 tyX11 tyX11_ok nmX11 hown hKN.1 hP hD hS 0 rfl rfl 26 (by decide) (hg _ kw_1234) (fun _ h9 => h9) rfl (by decide +kernel) rfl rfl (Nat.le_of_ble_eq_true rfl) dX11_push_17 (fun H locs hP hD hS => ?_)
  have hP : va_P D vwCl (MW Y o a (upd I 26 v2) J F (vf_upd G 25 f1)) H := hP
  have hD : va_D A (MW Y o a (upd I 26 v2) J F (vf_upd G 25 f1)) := hD
  refine W.widen (k := 0) (n := 0) (Nat.le_of_ble_eq_true rfl) (Nat.le_of_ble_eq_true rfl) ?_
  exact W.vret hx hb hr (fun t ht hW => ⟨⟨(v2, f1), rfl, ⟨(show (v2.toInt = (I 26).toInt + 1) by omega), (show (0 ≤ v2.toInt ∧ v2.toInt ≤ 64) by omega)⟩, CB.mk ht hP hD⟩, hS.F ht⟩) hS.2.2 dX11_push_20
set_option maxHeartbeats 4000000 in
set_option maxRecDepth 100000 in
theorem m_pop (l : Launch) (D : va_G) (Y : Nat → ClassId) (Z : Nat → Nat) (sz : Nat) (o : Nat) (a : Nat → Nat) (I : Nat → Int32) (J : Nat → Int64) (F : Nat → Nat → Int32) (G : Nat → Nat → Int64) (hk_0 : (1 ≤ (I 26).toInt ∧ (I 26).toInt ≤ 64)) : Met l yX11_pop (.code yX11_pop cX11_pop 1 (some .long) :: GW) ({ frames := 0, cells := 0, slots := 0, locals := 0 }) (va_Pc [.ref o] (CP D Y Z (MW Y o a I J F G) sz)) (QG (S := Int64 × Int32) (fun u => some (.long u.1)) (fun u => (u.2.toInt = (I 26).toInt - 1) ∧ (0 ≤ u.2.toInt ∧ u.2.toInt ≤ 64)) (fun u => CB D (MW Y o a (upd I 26 u.2) J F G) (va_A (MW Y o a I J F G) sz)) (va_A (MW Y o a I J F G) sz)) 0 0 (va_A (MW Y o a I J F G) sz) := by
  refine Met.ofW (cc := cX11_pop) (maxL := 1) (ret := (some .long)) (by decide) rfl ?_
  intro p e s m args below meth c s₁ B hml hv
  obtain ⟨rfl, hsz, hP, hKN, hD0⟩ := hv
  have hx := B.exec
  have hb := B.bytes
  have hr := B.returns
  have hts := atoms_spec (ws := .code yX11_pop cX11_pop 1 (some .long) :: GW) B.pre
  have hg : ∀ w ∈ GW, w.before _ s = true := fun w h => hts w (List.mem_cons_of_mem _ h)
  have hown : s.vm.findClass RX11 = some m.cls := findClass_of_methodNamed B.named
  have hlocks := B.notSynchronized
  subst hsz
  have hD := hD0.self (sz := s.heap.size)
  generalize hAe : va_A (MW Y o a I J F G) s.heap.size = A at hD ⊢
  have hA : ∀ q : Nat, s.heap.size ≤ q → A q := fun q h => by rw [← hAe]; exact Or.inr h
  clear hAe hD0 hts B
  have hl := lv_entry ([.ref o]) (n := 1) (Nat.le_of_ble_eq_true rfl)
  rw [lg_entry_eq]
  generalize (lg_sl ([.ref o]) ++ List.replicate (1 - (lg_sl ([.ref o])).length) Slot.unset).toArray = ls at hl ⊢
  have hl : lv_has ls 1 [(0, .ref o)] := hl
  refine w_start (A0 := A) hP (fun H locs hP hS => ?_)
  refine lv_aload_n hx hb dX11_pop_0 rfl (lv_at hl 0 rfl) ?_
  refine lv_dup hx hb dX11_pop_1 rfl ?_
  refine va_get (D := D) (ci := 11) (v := .int (I 26)) (C := RX11) (T := TX11) (N := 49) hx hb hg inGX11 hown hKN.1 hP 0 rfl rfl 26 (by decide) (hg _ kw_1234) (fun _ h9 => h9) rfl dX11_pop_2 ?_
  refine lv_iconst (v := 1) hx hb dX11_pop_5 (by decide) ?_
  refine lv_isub hx hb dX11_pop_6 ?_
  refine lv_topi (fun v1 ev1 => ?_)
  have hv1 := i_sub (Eq.refl (I 26).toInt) (show (1 : Int32).toInt = 1 by decide) ev1 (by omega) (by omega)
  refine va_put (D := D) (ci := 11) (v := .int v1) (ty := .int) (C := RX11) (T := TX11) (N := 49) hx hb hg inGX11 tyX11 tyX11_ok nmX11 hown hKN.1 hP hD hS 0 rfl rfl 26 (by decide) (hg _ kw_1234) (fun _ h9 => h9) rfl (by decide +kernel) rfl rfl (Nat.le_of_ble_eq_true rfl) dX11_pop_7 (fun H locs hP hD hS => ?_)
  have hP : va_P D vwCl (MW Y o a (upd I 26 v1) J F G) H := hP
  have hD : va_D A (MW Y o a (upd I 26 v1) J F G) := hD
  refine lv_aload_n hx hb dX11_pop_10 rfl (lv_at hl 0 rfl) ?_
  refine va_get (D := D) (ci := 11) (v := .ref (a 25)) (C := RX11) (T := TX11) (N := 49) hx hb hg inGX11 hown hKN.1 hP 0 rfl rfl 25 (by decide) (hg _ kw_1233) (fun _ h9 => h9) rfl dX11_pop_11 ?_
  refine lv_aload_n hx hb dX11_pop_14 rfl (lv_at hl 0 rfl) ?_
  refine va_get (D := D) (ci := 11) (v := .int v1) (C := RX11) (T := TX11) (N := 49) hx hb hg inGX11 hown hKN.1 hP 0 rfl rfl 26 (by decide) (hg _ kw_1234) (fun _ h9 => h9) rfl dX11_pop_15 ?_
  refine va_lald hx hb hKN.1 hP 17 1 rfl rfl (vp_in_iff.mpr ⟨by omega, by omega⟩) dX11_pop_18 ?_
  refine lv_topl (fun v2 ev2 => ?_)
  have ev2 : v2 = (G 25) v1.toNatClampNeg := ev2
  refine W.widen (k := 0) (n := 0) (Nat.le_of_ble_eq_true rfl) (Nat.le_of_ble_eq_true rfl) ?_
  exact W.lret (v := v2) hx hb hr (fun t ht hW => ⟨⟨(v2, v1), rfl, ⟨(show (v1.toInt = (I 26).toInt - 1) by omega), (show (0 ≤ v1.toInt ∧ v1.toInt ≤ 64) by omega)⟩, CB.mk ht hP hD⟩, hS.F ht⟩) hS.2.2 dX11_pop_19
set_option maxHeartbeats 4000000 in
set_option maxRecDepth 100000 in
theorem m_reckons (l : Launch) (D : va_G) (Y : Nat → ClassId) (Z : Nat → Nat) (sz : Nat) (o : Nat) (a : Nat → Nat) (I : Nat → Int32) (J : Nat → Int64) (F : Nat → Nat → Int32) (G : Nat → Nat → Int64) (p1 : Int32) (p2 : Int32) (p3 : Int32) (hk_0 : (0 ≤ p1.toInt ∧ p1.toInt ≤ 17)) (hk_1 : (0 ≤ p2.toInt ∧ p2.toInt ≤ 400)) (hk_2 : (0 ≤ p3.toInt ∧ p3.toInt ≤ 400)) (hk_3 : (p2.toInt ≤ p3.toInt)) (hr_WF : wf (F 5) (400 * (p1.toInt).toNat + (p2.toInt).toNat) ((p3.toInt).toNat - (p2.toInt).toNat) 1) : Met l yX11_reckons (.code yX11_reckons cX11_reckons 11 (some .long) :: GW) ({ frames := 1, cells := 0, slots := 0, locals := 24 }) (va_Pc [.ref o, .int p1, .int p2, .int p3] (CP D Y Z (MW Y o a I J F G) sz)) (QG (S := Int64 × Int32 × (Nat → Int64)) (fun u => some (.long u.1)) (fun u => True) (fun u => CB D (MW Y o a (upd I 26 u.2.1) J F (vf_upd G 25 u.2.2)) (va_A (MW Y o a I J F G) sz)) (va_A (MW Y o a I J F G) sz)) 0 0 (va_A (MW Y o a I J F G) sz) := by
  refine Met.ofW (cc := cX11_reckons) (maxL := 11) (ret := (some .long)) (by decide) rfl ?_
  intro p e s m args below meth c s₁ B hml hv
  obtain ⟨rfl, hsz, hP, hKN, hD0⟩ := hv
  have hx := B.exec
  have hb := B.bytes
  have hr := B.returns
  have hts := atoms_spec (ws := .code yX11_reckons cX11_reckons 11 (some .long) :: GW) B.pre
  have hg : ∀ w ∈ GW, w.before _ s = true := fun w h => hts w (List.mem_cons_of_mem _ h)
  have hown : s.vm.findClass RX11 = some m.cls := findClass_of_methodNamed B.named
  have hlocks := B.notSynchronized
  subst hsz
  have hD := hD0.self (sz := s.heap.size)
  generalize hAe : va_A (MW Y o a I J F G) s.heap.size = A at hD ⊢
  have hA : ∀ q : Nat, s.heap.size ≤ q → A q := fun q h => by rw [← hAe]; exact Or.inr h
  clear hAe hD0 hts B
  have hl := lv_entry ([.ref o, .int p1, .int p2, .int p3]) (n := 11) (Nat.le_of_ble_eq_true rfl)
  rw [lg_entry_eq]
  generalize (lg_sl ([.ref o, .int p1, .int p2, .int p3]) ++ List.replicate (11 - (lg_sl ([.ref o, .int p1, .int p2, .int p3])).length) Slot.unset).toArray = ls at hl ⊢
  have hl : lv_has ls 11 [(0, .ref o), (1, .int p1), (2, .int p2), (3, .int p3)] := hl
  refine w_start (A0 := A) hP (fun H locs hP hS => ?_)
  refine lv_aload_n hx hb dX11_reckons_0 rfl (lv_at hl 0 rfl) ?_
  refine lv_iconst (v := 0) hx hb dX11_reckons_1 (by decide) ?_
  refine va_put (D := D) (ci := 11) (v := .int 0) (ty := .int) (C := RX11) (T := TX11) (N := 49) hx hb hg inGX11 tyX11 tyX11_ok nmX11 hown hKN.1 hP hD hS 0 rfl rfl 26 (by decide) (hg _ kw_1234) (fun _ h9 => h9) rfl (by decide +kernel) rfl rfl (Nat.le_of_ble_eq_true rfl) dX11_reckons_2 (fun H locs hP hD hS => ?_)
  have hP : va_P D vwCl (MW Y o a (upd I 26 0) J F G) H := hP
  have hD : va_D A (MW Y o a (upd I 26 0) J F G) := hD
  refine lv_iload_n hx hb dX11_reckons_5 rfl (lv_at hl 2 rfl) ?_
  refine lv_istore (lv' := [(4, .int p2), (0, .ref o), (1, .int p1), (2, .int p2), (3, .int p3)]) hx hb dX11_reckons_6 hl (by decide) rfl (fun ls hl => ?_)
  have zi0 : (0 : Int32).toInt = 0 := by decide
  refine w_loop (σ := Int32 × Int32 × (Nat → Int64)) (fun xx H locs ls => match xx with | (g67, g68, f69) => va_P D vwCl (MW Y o a (upd I 26 g68) J F (vf_upd G 25 f69)) H ∧ va_D A (MW Y o a (upd I 26 g68) J F (vf_upd G 25 f69)) ∧ va_S A s.heap H locs ∧ lv_has ls 11 [(4, .int g67), (0, .ref o), (1, .int p1), (2, .int p2), (3, .int p3)] ∧ (0 ≤ g67.toInt ∧ g67.toInt ≤ 400) ∧ (p2.toInt ≤ g67.toInt) ∧ (g67.toInt ≤ p3.toInt) ∧ (0 ≤ g68.toInt ∧ g68.toInt ≤ 64) ∧ wf (F 5) (400 * (p1.toInt).toNat + (p2.toInt).toNat) ((g67.toInt).toNat - (p2.toInt).toNat) (g68.toInt).toNat) (fun xx => match xx with | (g67, g68, f69) => (400 - g67.toInt).toNat) (p2, 0, (G 25)) ⟨hP, hD, hS, lv_sub hl [0, 1, 2, 3, 4] rfl, by omega, by omega, by omega, by omega, (wf_m (show wf (F 5) (400 * p1.toInt.toNat + p2.toInt.toNat) 0 0 from rfl) rfl (by omega) (by omega))⟩ (fun xx H locs ls hI ih => ?_)
  obtain ⟨g67, g68, f69⟩ := xx
  obtain ⟨hP, hD, hS, hl, hq136, hq137, hq138, hq139, hr140⟩ := hI
  have ih141 := ih
  refine lv_iload hx hb dX11_reckons_8 (lv_at hl 0 rfl) ?_
  refine lv_iload_n hx hb dX11_reckons_10 rfl (lv_at hl 4 rfl) ?_
  refine lv_icmp_ge (tgt := 135) hx hb dX11_reckons_11 (by decide) (fun c142 => ?_) (fun c142 => ?_)
  · skip
    have c142 := i_le (Eq.refl p3.toInt) (Eq.refl g67.toInt) c142
    have t143 : g68.toInt.toNat = 1 := wf_det (wf_m hr140 rfl (by omega) rfl) hr_WF
    refine lv_aload_n hx hb dX11_reckons_135 rfl (lv_at hl 1 rfl) ?_
    refine cga (rn_V (As := []) (rest := []) (b := o) (m_pop l D Y Z H.size o a (upd I 26 g68) J F (vf_upd G 25 f69)   (show (1 ≤ g68.toInt ∧ g68.toInt ≤ 64) by omega)) ⟨hx, hb, hml, hown, hg⟩ lk_X11_354 ⟨CP.blind, va_recv hKN.1 hP (ci := 11) (q0 := 0) rfl rfl, CP.at hP hKN hD⟩ ⟨⟨rfl, rfl⟩, ⟨Nat.le_of_ble_eq_true rfl, Nat.le_of_ble_eq_true rfl⟩, ⟨Nat.le_of_ble_eq_true rfl, Nat.le_of_ble_eq_true rfl⟩⟩ hl.1 rfl (Nat.le_of_ble_eq_true rfl) dX11_reckons_136) hP hD hS hA (fun u144 H locs w145 hP hD hS => ?_)
    obtain ⟨u146, u147⟩ := u144
    obtain ⟨hw148, hw149⟩ : (u147.toInt = g68.toInt - 1) ∧ (0 ≤ u147.toInt ∧ u147.toInt ≤ 64) := w145
    refine W.eq (g2 := F0 m 139 ls [.long u146]) rfl ?_
    have hP : va_P D vwCl (MW Y o a (upd I 26 u147) J F (vf_upd G 25 f69)) H := hP
    have hD : va_D A (MW Y o a (upd I 26 u147) J F (vf_upd G 25 f69)) := hD
    refine W.widen (k := 0) (n := 0) (Nat.le_of_ble_eq_true rfl) (Nat.le_of_ble_eq_true rfl) ?_
    exact W.lret (v := u146) hx hb hr (fun t ht hW => ⟨⟨(u146, u147, f69), rfl, trivial, CB.mk ht hP hD⟩, hS.F ht⟩) hS.2.2 dX11_reckons_139
  · skip
    have c142 := i_nle (Eq.refl p3.toInt) (Eq.refl g67.toInt) c142
    obtain ⟨t150d, t150w, t150s⟩ := wf_at hr_WF hr140 (by omega)
    refine lv_aload_n hx hb dX11_reckons_14 rfl (lv_at hl 1 rfl) ?_
    refine va_get (D := D) (ci := 11) (v := .ref (a 5)) (C := RX11) (T := TX11) (N := 49) hx hb hg inGX11 hown hKN.1 hP 0 rfl rfl 5 (by decide) (hg _ kw_1213) (fun _ h9 => h9) rfl dX11_reckons_15 ?_
    refine lv_sipush (v := 400) hx hb dX11_reckons_18 (by decide) ?_
    refine lv_iload_n hx hb dX11_reckons_21 rfl (lv_at hl 2 rfl) ?_
    refine lv_imul hx hb dX11_reckons_22 ?_
    refine lv_topi (fun v151 ev151 => ?_)
    have hv151 := i_mul (show (400 : Int32).toInt = 400 by decide) (Eq.refl p1.toInt) ev151 (by omega) (by omega)
    refine lv_iload hx hb dX11_reckons_23 (lv_at hl 0 rfl) ?_
    refine lv_iadd hx hb dX11_reckons_25 ?_
    refine lv_topi (fun v152 ev152 => ?_)
    have hv152 := i_add (Eq.refl v151.toInt) (Eq.refl g67.toInt) ev152 (by omega) (by omega)
    refine va_iald hx hb hKN.1 hP 5 0 rfl rfl (vp_in_iff.mpr ⟨by omega, by omega⟩) dX11_reckons_26 ?_
    refine lv_topi (fun v153 ev153 => ?_)
    have ev153 : v153 = (F 5) v152.toNatClampNeg := ev153
    have qv153 := congrArg Int32.toInt ev153
    have t150c := clampI (x := v152) (by omega)
    have t150t := stp_at (i := v152) (x := v153) t150s ev153 (by omega)
    refine lv_bipush (v := 15) hx hb dX11_reckons_27 (by decide) ?_
    refine lv_iand hx hb dX11_reckons_29 ?_
    refine lv_topi (fun v154 ev154 => ?_)
    have hv154 := i_and (show (15 : Int32).toInt = 15 by decide) ev154 (by decide)
    refine lv_istore (lv' := [(5, .int v154), (4, .int g67), (0, .ref o), (1, .int p1), (2, .int p2), (3, .int p3)]) hx hb dX11_reckons_30 hl (by decide) rfl (fun ls hl => ?_)
    refine lv_aload_n hx hb dX11_reckons_32 rfl (lv_at hl 2 rfl) ?_
    refine va_get (D := D) (ci := 11) (v := .ref (a 5)) (C := RX11) (T := TX11) (N := 49) hx hb hg inGX11 hown hKN.1 hP 0 rfl rfl 5 (by decide) (hg _ kw_1213) (fun _ h9 => h9) rfl dX11_reckons_33 ?_
    refine lv_sipush (v := 400) hx hb dX11_reckons_36 (by decide) ?_
    refine lv_iload_n hx hb dX11_reckons_39 rfl (lv_at hl 3 rfl) ?_
    refine lv_imul hx hb dX11_reckons_40 ?_
    refine lv_topi (fun v155 ev155 => ?_)
    have hv155 := i_mul (show (400 : Int32).toInt = 400 by decide) (Eq.refl p1.toInt) ev155 (by omega) (by omega)
    refine lv_iload hx hb dX11_reckons_41 (lv_at hl 1 rfl) ?_
    refine lv_iadd hx hb dX11_reckons_43 ?_
    refine lv_topi (fun v156 ev156 => ?_)
    have hv156 := i_add (Eq.refl v155.toInt) (Eq.refl g67.toInt) ev156 (by omega) (by omega)
    refine va_iald hx hb hKN.1 hP 5 0 rfl rfl (vp_in_iff.mpr ⟨by omega, by omega⟩) dX11_reckons_44 ?_
    refine lv_topi (fun v157 ev157 => ?_)
    have ev157 : v157 = (F 5) v156.toNatClampNeg := ev157
    have qv157 := congrArg Int32.toInt ev157
    have t150x : v157 = v153 := by rw [ev157, ev153, show v156 = v152 from Int32.toInt_inj.mp (by omega)]
    refine lv_iconst (v := 4) hx hb dX11_reckons_45 (by decide) ?_
    refine lv_ishr hx hb dX11_reckons_46 ?_
    refine lv_topi (fun v158 ev158 => ?_)
    have hv158 := i_shr (p := 16) 4 ev158 (by decide) (by decide)
    refine lv_istore (lv' := [(6, .int v158), (5, .int v154), (4, .int g67), (0, .ref o), (1, .int p1), (2, .int p2), (3, .int p3)]) hx hb dX11_reckons_47 hl (by decide) rfl (fun ls hl => ?_)
    have t150p : v154.toInt = (v153 &&& 15).toInt := by rw [ev154]
    have t150q : v158.toInt = (v153 >>> (4 &&& 31)).toInt := by rw [ev158, t150x]
    unfold stp at t150t
    refine lv_iload hx hb dX11_reckons_49 (lv_at hl 1 rfl) ?_
    refine lv_if_ne (tgt := 64) hx hb dX11_reckons_51 (by decide) (fun c159 => ?_) (fun c159 => ?_)
    · skip
      have c159 := i_ne (Eq.refl v154.toInt) (show (0 : Int32).toInt = 0 by decide) c159
      refine lv_iload hx hb dX11_reckons_64 (lv_at hl 1 rfl) ?_
      refine lv_iconst (v := 1) hx hb dX11_reckons_66 (by decide) ?_
      refine lv_icmp_ne (tgt := 84) hx hb dX11_reckons_67 (by decide) (fun c160 => ?_) (fun c160 => ?_)
      · skip
        have c160 := i_ne (Eq.refl v154.toInt) (show (1 : Int32).toInt = 1 by decide) c160
        refine lv_iload hx hb dX11_reckons_84 (lv_at hl 1 rfl) ?_
        refine lv_bipush (v := 11) hx hb dX11_reckons_86 (by decide) ?_
        refine lv_icmp_ne (tgt := 104) hx hb dX11_reckons_88 (by decide) (fun c161 => ?_) (fun c161 => ?_)
        · skip
          have c161 := i_ne (Eq.refl v154.toInt) (show (11 : Int32).toInt = 11 by decide) c161
          refine lv_aload_n hx hb dX11_reckons_104 rfl (lv_at hl 3 rfl) ?_
          refine cga (rn_V (As := []) (rest := []) (b := o) (m_pop l D Y Z H.size o a (upd I 26 g68) J F (vf_upd G 25 f69)   (show (1 ≤ g68.toInt ∧ g68.toInt ≤ 64) by omega)) ⟨hx, hb, hml, hown, hg⟩ lk_X11_354 ⟨CP.blind, va_recv hKN.1 hP (ci := 11) (q0 := 0) rfl rfl, CP.at hP hKN hD⟩ ⟨⟨rfl, rfl⟩, ⟨Nat.le_of_ble_eq_true rfl, Nat.le_of_ble_eq_true rfl⟩, ⟨Nat.le_of_ble_eq_true rfl, Nat.le_of_ble_eq_true rfl⟩⟩ hl.1 rfl (Nat.le_of_ble_eq_true rfl) dX11_reckons_105) hP hD hS hA (fun u162 H locs w163 hP hD hS => ?_)
          obtain ⟨u164, u165⟩ := u162
          obtain ⟨hw166, hw167⟩ : (u165.toInt = g68.toInt - 1) ∧ (0 ≤ u165.toInt ∧ u165.toInt ≤ 64) := w163
          refine W.eq (g2 := F0 m 108 ls [.long u164]) rfl ?_
          have hP : va_P D vwCl (MW Y o a (upd I 26 u165) J F (vf_upd G 25 f69)) H := hP
          have hD : va_D A (MW Y o a (upd I 26 u165) J F (vf_upd G 25 f69)) := hD
          refine lv_lstore (lv' := [(7, .long u164), (6, .int v158), (5, .int v154), (4, .int g67), (0, .ref o), (1, .int p1), (2, .int p2), (3, .int p3)]) hx hb dX11_reckons_108 hl (by decide) rfl (fun ls hl => ?_)
          refine lv_aload_n hx hb dX11_reckons_110 rfl (lv_at hl 4 rfl) ?_
          refine cga (rn_V (As := []) (rest := []) (b := o) (m_pop l D Y Z H.size o a (upd I 26 u165) J F (vf_upd G 25 f69)   (show (1 ≤ u165.toInt ∧ u165.toInt ≤ 64) by omega)) ⟨hx, hb, hml, hown, hg⟩ lk_X11_354 ⟨CP.blind, va_recv hKN.1 hP (ci := 11) (q0 := 0) rfl rfl, CP.at hP hKN hD⟩ ⟨⟨rfl, rfl⟩, ⟨Nat.le_of_ble_eq_true rfl, Nat.le_of_ble_eq_true rfl⟩, ⟨Nat.le_of_ble_eq_true rfl, Nat.le_of_ble_eq_true rfl⟩⟩ hl.1 rfl (Nat.le_of_ble_eq_true rfl) dX11_reckons_111) hP hD hS hA (fun u168 H locs w169 hP hD hS => ?_)
          obtain ⟨u170, u171⟩ := u168
          obtain ⟨hw172, hw173⟩ : (u171.toInt = u165.toInt - 1) ∧ (0 ≤ u171.toInt ∧ u171.toInt ≤ 64) := w169
          refine W.eq (g2 := F0 m 114 ls [.long u170]) rfl ?_
          have hP : va_P D vwCl (MW Y o a (upd I 26 u171) J F (vf_upd G 25 f69)) H := hP
          have hD : va_D A (MW Y o a (upd I 26 u171) J F (vf_upd G 25 f69)) := hD
          refine lv_lstore (lv' := [(9, .long u170), (7, .long u164), (6, .int v158), (5, .int v154), (4, .int g67), (0, .ref o), (1, .int p1), (2, .int p2), (3, .int p3)]) hx hb dX11_reckons_114 hl (by decide) rfl (fun ls hl => ?_)
          refine lv_aload_n hx hb dX11_reckons_116 rfl (lv_at hl 5 rfl) ?_
          refine lv_iload hx hb dX11_reckons_117 (lv_at hl 3 rfl) ?_
          refine lv_lload hx hb dX11_reckons_119 (lv_at hl 0 rfl) ?_
          refine lv_lload hx hb dX11_reckons_121 (lv_at hl 1 rfl) ?_
          refine cg0 (rn_S (As := [.int v154, .long u170, .long u164]) (rest := [.ref o]) (m_one l D Y Z H.size   v154 u170 u164 ) ⟨hx, hb, hml, hown, hg⟩ lk_X11_358 ⟨CP.blind, CP.at nilP hKN (nilD (A := fun _ => True))⟩ ⟨⟨rfl, rfl⟩, ⟨Nat.le_of_ble_eq_true rfl, Nat.le_of_ble_eq_true rfl⟩, ⟨Nat.le_of_ble_eq_true rfl, Nat.le_of_ble_eq_true rfl⟩⟩ hl.1 rfl (Nat.le_of_ble_eq_true rfl) dX11_reckons_123) hP hS hA (fun u174 H locs w175 hP hS => ?_)
          refine W.eq (g2 := F0 m 126 ls [.long u174, .ref o]) rfl ?_
          refine cga (rn_V (As := [.long u174]) (rest := []) (b := o) (m_push l D Y Z H.size o a (upd I 26 u171) J F (vf_upd G 25 f69)  u174 (show (0 ≤ u171.toInt ∧ u171.toInt ≤ 63) by omega)) ⟨hx, hb, hml, hown, hg⟩ lk_X11_350 ⟨CP.blind, va_recv hKN.1 hP (ci := 11) (q0 := 0) rfl rfl, CP.at hP hKN hD⟩ ⟨⟨rfl, rfl⟩, ⟨Nat.le_of_ble_eq_true rfl, Nat.le_of_ble_eq_true rfl⟩, ⟨Nat.le_of_ble_eq_true rfl, Nat.le_of_ble_eq_true rfl⟩⟩ hl.1 rfl (Nat.le_of_ble_eq_true rfl) dX11_reckons_126) hP hD hS hA (fun u177 H locs w178 hP hD hS => ?_)
          obtain ⟨u179, f180⟩ := u177
          obtain ⟨hw181, hw182⟩ : (u179.toInt = u171.toInt + 1) ∧ (0 ≤ u179.toInt ∧ u179.toInt ≤ 64) := w178
          refine W.eq (g2 := F0 m 129 ls []) rfl ?_
          have hP : va_P D vwCl (MW Y o a (upd I 26 u179) J F (vf_upd G 25 f180)) H := hP
          have hD : va_D A (MW Y o a (upd I 26 u179) J F (vf_upd G 25 f180)) := hD
          obtain ⟨v183, ev183⟩ : ∃ y : Int32, y = g67 + 1 := ⟨_, rfl⟩
          have hv183 := i_add (Eq.refl g67.toInt) (show (1 : Int32).toInt = 1 by decide) ev183 (by omega) (by omega)
          refine lv_iinc (v := v183) (lv' := [(4, .int v183), (9, .long u170), (7, .long u164), (6, .int v158), (5, .int v154), (0, .ref o), (1, .int p1), (2, .int p2), (3, .int p3)]) hx hb dX11_reckons_129 hl (k := 4) rfl (by rw [ev183]; rfl) (by decide) rfl (fun ls hl => ?_)
          refine lv_goto (tgt := 8) hx hb dX11_reckons_132 (by decide) ?_
          exact ih141 (v183, u179, f180) H locs ls (by show (400 - v183.toInt).toNat < (400 - g67.toInt).toNat; omega) ⟨hP, hD, hS, lv_sub hl [0, 5, 6, 7, 8] rfl, by omega, by omega, by omega, by omega, (wf_m t150w rfl (by omega) (by omega))⟩
        · skip
          have c161 := i_eq (Eq.refl v154.toInt) (show (11 : Int32).toInt = 11 by decide) c161
          refine lv_aload_n hx hb dX11_reckons_91 rfl (lv_at hl 3 rfl) ?_
          refine lv_lconst (v := 1) hx hb dX11_reckons_92 (by decide) ?_
          refine lv_aload_n hx hb dX11_reckons_93 rfl (lv_at hl 3 rfl) ?_
          refine cga (rn_V (As := []) (rest := [.long 1, .ref o]) (b := o) (m_pop l D Y Z H.size o a (upd I 26 g68) J F (vf_upd G 25 f69)   (show (1 ≤ g68.toInt ∧ g68.toInt ≤ 64) by omega)) ⟨hx, hb, hml, hown, hg⟩ lk_X11_354 ⟨CP.blind, va_recv hKN.1 hP (ci := 11) (q0 := 0) rfl rfl, CP.at hP hKN hD⟩ ⟨⟨rfl, rfl⟩, ⟨Nat.le_of_ble_eq_true rfl, Nat.le_of_ble_eq_true rfl⟩, ⟨Nat.le_of_ble_eq_true rfl, Nat.le_of_ble_eq_true rfl⟩⟩ hl.1 rfl (Nat.le_of_ble_eq_true rfl) dX11_reckons_94) hP hD hS hA (fun u184 H locs w185 hP hD hS => ?_)
          obtain ⟨u186, u187⟩ := u184
          obtain ⟨hw188, hw189⟩ : (u187.toInt = g68.toInt - 1) ∧ (0 ≤ u187.toInt ∧ u187.toInt ≤ 64) := w185
          refine W.eq (g2 := F0 m 97 ls [.long u186, .long 1, .ref o]) rfl ?_
          have hP : va_P D vwCl (MW Y o a (upd I 26 u187) J F (vf_upd G 25 f69)) H := hP
          have hD : va_D A (MW Y o a (upd I 26 u187) J F (vf_upd G 25 f69)) := hD
          refine lv_lsub hx hb dX11_reckons_97 ?_
          refine lv_topl (fun v190 ev190 => ?_)
          refine cga (rn_V (As := [.long v190]) (rest := []) (b := o) (m_push l D Y Z H.size o a (upd I 26 u187) J F (vf_upd G 25 f69)  v190 (show (0 ≤ u187.toInt ∧ u187.toInt ≤ 63) by omega)) ⟨hx, hb, hml, hown, hg⟩ lk_X11_350 ⟨CP.blind, va_recv hKN.1 hP (ci := 11) (q0 := 0) rfl rfl, CP.at hP hKN hD⟩ ⟨⟨rfl, rfl⟩, ⟨Nat.le_of_ble_eq_true rfl, Nat.le_of_ble_eq_true rfl⟩, ⟨Nat.le_of_ble_eq_true rfl, Nat.le_of_ble_eq_true rfl⟩⟩ hl.1 rfl (Nat.le_of_ble_eq_true rfl) dX11_reckons_98) hP hD hS hA (fun u191 H locs w192 hP hD hS => ?_)
          obtain ⟨u193, f194⟩ := u191
          obtain ⟨hw195, hw196⟩ : (u193.toInt = u187.toInt + 1) ∧ (0 ≤ u193.toInt ∧ u193.toInt ≤ 64) := w192
          refine W.eq (g2 := F0 m 101 ls []) rfl ?_
          have hP : va_P D vwCl (MW Y o a (upd I 26 u193) J F (vf_upd G 25 f194)) H := hP
          have hD : va_D A (MW Y o a (upd I 26 u193) J F (vf_upd G 25 f194)) := hD
          refine lv_goto (tgt := 129) hx hb dX11_reckons_101 (by decide) ?_
          obtain ⟨v197, ev197⟩ : ∃ y : Int32, y = g67 + 1 := ⟨_, rfl⟩
          have hv197 := i_add (Eq.refl g67.toInt) (show (1 : Int32).toInt = 1 by decide) ev197 (by omega) (by omega)
          refine lv_iinc (v := v197) (lv' := [(4, .int v197), (6, .int v158), (5, .int v154), (0, .ref o), (1, .int p1), (2, .int p2), (3, .int p3)]) hx hb dX11_reckons_129 hl (k := 2) rfl (by rw [ev197]; rfl) (by decide) rfl (fun ls hl => ?_)
          refine lv_goto (tgt := 8) hx hb dX11_reckons_132 (by decide) ?_
          exact ih141 (v197, u193, f194) H locs ls (by show (400 - v197.toInt).toNat < (400 - g67.toInt).toNat; omega) ⟨hP, hD, hS, lv_sub hl [0, 3, 4, 5, 6] rfl, by omega, by omega, by omega, by omega, (wf_m t150w rfl (by omega) (by omega))⟩
      · skip
        have c160 := i_eq (Eq.refl v154.toInt) (show (1 : Int32).toInt = 1 by decide) c160
        refine lv_aload_n hx hb dX11_reckons_70 rfl (lv_at hl 3 rfl) ?_
        refine lv_aload_n hx hb dX11_reckons_71 rfl (lv_at hl 3 rfl) ?_
        refine va_get (D := D) (ci := 11) (v := .ref (a 27)) (C := RX11) (T := TX11) (N := 49) hx hb hg inGX11 hown hKN.1 hP 0 rfl rfl 27 (by decide) (hg _ kw_1235) (fun _ h9 => h9) rfl dX11_reckons_72 ?_
        refine lv_iload hx hb dX11_reckons_75 (lv_at hl 0 rfl) ?_
        refine va_lald hx hb hKN.1 hP 18 1 rfl rfl (vp_in_iff.mpr ⟨by omega, by omega⟩) dX11_reckons_77 ?_
        refine lv_topl (fun v198 ev198 => ?_)
        have ev198 : v198 = (G 27) v158.toNatClampNeg := ev198
        refine cga (rn_V (As := [.long v198]) (rest := []) (b := o) (m_push l D Y Z H.size o a (upd I 26 g68) J F (vf_upd G 25 f69)  v198 (show (0 ≤ g68.toInt ∧ g68.toInt ≤ 63) by omega)) ⟨hx, hb, hml, hown, hg⟩ lk_X11_350 ⟨CP.blind, va_recv hKN.1 hP (ci := 11) (q0 := 0) rfl rfl, CP.at hP hKN hD⟩ ⟨⟨rfl, rfl⟩, ⟨Nat.le_of_ble_eq_true rfl, Nat.le_of_ble_eq_true rfl⟩, ⟨Nat.le_of_ble_eq_true rfl, Nat.le_of_ble_eq_true rfl⟩⟩ hl.1 rfl (Nat.le_of_ble_eq_true rfl) dX11_reckons_78) hP hD hS hA (fun u199 H locs w200 hP hD hS => ?_)
        obtain ⟨u201, f202⟩ := u199
        obtain ⟨hw203, hw204⟩ : (u201.toInt = g68.toInt + 1) ∧ (0 ≤ u201.toInt ∧ u201.toInt ≤ 64) := w200
        refine W.eq (g2 := F0 m 81 ls []) rfl ?_
        have hP : va_P D vwCl (MW Y o a (upd I 26 u201) J F (vf_upd G 25 f202)) H := hP
        have hD : va_D A (MW Y o a (upd I 26 u201) J F (vf_upd G 25 f202)) := hD
        refine lv_goto (tgt := 129) hx hb dX11_reckons_81 (by decide) ?_
        obtain ⟨v205, ev205⟩ : ∃ y : Int32, y = g67 + 1 := ⟨_, rfl⟩
        have hv205 := i_add (Eq.refl g67.toInt) (show (1 : Int32).toInt = 1 by decide) ev205 (by omega) (by omega)
        refine lv_iinc (v := v205) (lv' := [(4, .int v205), (6, .int v158), (5, .int v154), (0, .ref o), (1, .int p1), (2, .int p2), (3, .int p3)]) hx hb dX11_reckons_129 hl (k := 2) rfl (by rw [ev205]; rfl) (by decide) rfl (fun ls hl => ?_)
        refine lv_goto (tgt := 8) hx hb dX11_reckons_132 (by decide) ?_
        exact ih141 (v205, u201, f202) H locs ls (by show (400 - v205.toInt).toNat < (400 - g67.toInt).toNat; omega) ⟨hP, hD, hS, lv_sub hl [0, 3, 4, 5, 6] rfl, by omega, by omega, by omega, by omega, (wf_m t150w rfl (by omega) (by omega))⟩
    · skip
      have c159 := i_eq (Eq.refl v154.toInt) (show (0 : Int32).toInt = 0 by decide) c159
      refine lv_aload_n hx hb dX11_reckons_54 rfl (lv_at hl 3 rfl) ?_
      refine lv_iload hx hb dX11_reckons_55 (lv_at hl 0 rfl) ?_
      have j206 := Int32.toInt_toInt64 v158
      refine lv_i2l (v := v158.toInt64) hx hb dX11_reckons_57 (rfl) ?_
      refine cga (rn_V (As := [.long v158.toInt64]) (rest := []) (b := o) (m_push l D Y Z H.size o a (upd I 26 g68) J F (vf_upd G 25 f69)  v158.toInt64 (show (0 ≤ g68.toInt ∧ g68.toInt ≤ 63) by omega)) ⟨hx, hb, hml, hown, hg⟩ lk_X11_350 ⟨CP.blind, va_recv hKN.1 hP (ci := 11) (q0 := 0) rfl rfl, CP.at hP hKN hD⟩ ⟨⟨rfl, rfl⟩, ⟨Nat.le_of_ble_eq_true rfl, Nat.le_of_ble_eq_true rfl⟩, ⟨Nat.le_of_ble_eq_true rfl, Nat.le_of_ble_eq_true rfl⟩⟩ hl.1 rfl (Nat.le_of_ble_eq_true rfl) dX11_reckons_58) hP hD hS hA (fun u207 H locs w208 hP hD hS => ?_)
      obtain ⟨u209, f210⟩ := u207
      obtain ⟨hw211, hw212⟩ : (u209.toInt = g68.toInt + 1) ∧ (0 ≤ u209.toInt ∧ u209.toInt ≤ 64) := w208
      refine W.eq (g2 := F0 m 61 ls []) rfl ?_
      have hP : va_P D vwCl (MW Y o a (upd I 26 u209) J F (vf_upd G 25 f210)) H := hP
      have hD : va_D A (MW Y o a (upd I 26 u209) J F (vf_upd G 25 f210)) := hD
      refine lv_goto (tgt := 129) hx hb dX11_reckons_61 (by decide) ?_
      obtain ⟨v213, ev213⟩ : ∃ y : Int32, y = g67 + 1 := ⟨_, rfl⟩
      have hv213 := i_add (Eq.refl g67.toInt) (show (1 : Int32).toInt = 1 by decide) ev213 (by omega) (by omega)
      refine lv_iinc (v := v213) (lv' := [(4, .int v213), (6, .int v158), (5, .int v154), (0, .ref o), (1, .int p1), (2, .int p2), (3, .int p3)]) hx hb dX11_reckons_129 hl (k := 2) rfl (by rw [ev213]; rfl) (by decide) rfl (fun ls hl => ?_)
      refine lv_goto (tgt := 8) hx hb dX11_reckons_132 (by decide) ?_
      exact ih141 (v213, u209, f210) H locs ls (by show (400 - v213.toInt).toNat < (400 - g67.toInt).toNat; omega) ⟨hP, hD, hS, lv_sub hl [0, 3, 4, 5, 6] rfl, by omega, by omega, by omega, by omega, (wf_m t150w rfl (by omega) (by omega))⟩
set_option maxHeartbeats 4000000 in
set_option maxRecDepth 100000 in
theorem m_isHolding (l : Launch) (D : va_G) (Y : Nat → ClassId) (Z : Nat → Nat) (sz : Nat) (o : Nat) (a : Nat → Nat) (I : Nat → Int32) (J : Nat → Int64) (F : Nat → Nat → Int32) (G : Nat → Nat → Int64) (p1 : Int32) (p2 : Int32) (hk_0 : (0 ≤ p1.toInt ∧ p1.toInt ≤ 17)) (hk_1 : (0 ≤ p2.toInt ∧ p2.toInt ≤ 11)) (hr_CL : CLok (F 7) (F 5) (p1.toInt).toNat (p2.toInt).toNat 400) : Met l yX11_isHolding (.code yX11_isHolding cX11_isHolding 4 (some .boolean) :: GW) ({ frames := 2, cells := 0, slots := 0, locals := 54 }) (va_Pc [.ref o, .int p1, .int p2] (CP D Y Z (MW Y o a I J F G) sz)) (QG (S := Int32 × Int32 × (Nat → Int64)) (fun u => some (.int u.1)) (fun u => (0 ≤ u.1.toInt ∧ u.1.toInt ≤ 1)) (fun u => CB D (MW Y o a (upd I 26 u.2.1) J F (vf_upd G 25 u.2.2)) (va_A (MW Y o a I J F G) sz)) (va_A (MW Y o a I J F G) sz)) 0 0 (va_A (MW Y o a I J F G) sz) := by
  refine Met.ofW (cc := cX11_isHolding) (maxL := 4) (ret := (some .boolean)) (by decide) rfl ?_
  intro p e s m args below meth c s₁ B hml hv
  obtain ⟨rfl, hsz, hP, hKN, hD0⟩ := hv
  have hx := B.exec
  have hb := B.bytes
  have hr := B.returns
  have hts := atoms_spec (ws := .code yX11_isHolding cX11_isHolding 4 (some .boolean) :: GW) B.pre
  have hg : ∀ w ∈ GW, w.before _ s = true := fun w h => hts w (List.mem_cons_of_mem _ h)
  have hown : s.vm.findClass RX11 = some m.cls := findClass_of_methodNamed B.named
  have hlocks := B.notSynchronized
  subst hsz
  have hD := hD0.self (sz := s.heap.size)
  generalize hAe : va_A (MW Y o a I J F G) s.heap.size = A at hD ⊢
  have hA : ∀ q : Nat, s.heap.size ≤ q → A q := fun q h => by rw [← hAe]; exact Or.inr h
  clear hAe hD0 hts B
  have hl := lv_entry ([.ref o, .int p1, .int p2]) (n := 4) (Nat.le_of_ble_eq_true rfl)
  rw [lg_entry_eq]
  generalize (lg_sl ([.ref o, .int p1, .int p2]) ++ List.replicate (4 - (lg_sl ([.ref o, .int p1, .int p2])).length) Slot.unset).toArray = ls at hl ⊢
  have hl : lv_has ls 4 [(0, .ref o), (1, .int p1), (2, .int p2)] := hl
  refine w_start (A0 := A) hP (fun H locs hP hS => ?_)
  obtain ⟨ca, cb, ce, c1, c2, c3, c4, c5, c6, c7, c8⟩ := id hr_CL
  have c9 := c4.1
  refine lv_bipush (v := 60) hx hb dX11_isHolding_0 (by decide) ?_
  refine lv_iload_n hx hb dX11_isHolding_2 rfl (lv_at hl 1 rfl) ?_
  refine lv_imul hx hb dX11_isHolding_3 ?_
  refine lv_topi (fun v1 ev1 => ?_)
  have hv1 := i_mul (show (60 : Int32).toInt = 60 by decide) (Eq.refl p1.toInt) ev1 (by omega) (by omega)
  refine lv_iconst (v := 5) hx hb dX11_isHolding_4 (by decide) ?_
  refine lv_iload_n hx hb dX11_isHolding_5 rfl (lv_at hl 2 rfl) ?_
  refine lv_imul hx hb dX11_isHolding_6 ?_
  refine lv_topi (fun v2 ev2 => ?_)
  have hv2 := i_mul (show (5 : Int32).toInt = 5 by decide) (Eq.refl p2.toInt) ev2 (by omega) (by omega)
  refine lv_iadd hx hb dX11_isHolding_7 ?_
  refine lv_topi (fun v3 ev3 => ?_)
  have hv3 := i_add (Eq.refl v1.toInt) (Eq.refl v2.toInt) ev3 (by omega) (by omega)
  refine lv_istore_n (lv' := [(3, .int v3), (0, .ref o), (1, .int p1), (2, .int p2)]) hx hb dX11_isHolding_8 rfl hl (by decide) rfl (fun ls hl => ?_)
  refine lv_aload_n hx hb dX11_isHolding_9 rfl (lv_at hl 1 rfl) ?_
  refine va_get (D := D) (ci := 11) (v := .ref (a 7)) (C := RX11) (T := TX11) (N := 49) hx hb hg inGX11 hown hKN.1 hP 0 rfl rfl 7 (by decide) (hg _ kw_1215) (fun _ h9 => h9) rfl dX11_isHolding_10 ?_
  refine lv_iload_n hx hb dX11_isHolding_13 rfl (lv_at hl 0 rfl) ?_
  refine lv_iconst (v := 3) hx hb dX11_isHolding_14 (by decide) ?_
  refine lv_iadd hx hb dX11_isHolding_15 ?_
  refine lv_topi (fun v4 ev4 => ?_)
  have hv4 := i_add (Eq.refl v3.toInt) (show (3 : Int32).toInt = 3 by decide) ev4 (by omega) (by omega)
  refine va_iald hx hb hKN.1 hP 7 0 rfl rfl (vp_in_iff.mpr ⟨by omega, by omega⟩) dX11_isHolding_16 ?_
  refine lv_topi (fun v5 ev5 => ?_)
  have ev5 : v5 = (F 7) v4.toNatClampNeg := ev5
  have qv5 := congrArg Int32.toInt ev5
  have kv5 : v5.toInt = (F 7 (60 * p1.toInt.toNat + 5 * p2.toInt.toNat + 3)).toInt := by rw [ev5, show v4.toNatClampNeg = 60 * p1.toInt.toNat + 5 * p2.toInt.toNat + 3 by have c := clampI (x := v4) (by omega); omega]
  have j6 := rgI v5
  refine lv_if_lt (tgt := 46) hx hb dX11_isHolding_17 (by decide) (fun c7 => ?_) (fun c7 => ?_)
  · skip
    have c7 := i_lt (Eq.refl v5.toInt) (show (0 : Int32).toInt = 0 by decide) c7
    refine lv_iconst (v := 1) hx hb dX11_isHolding_46 (by decide) ?_
    refine lv_goto (tgt := 51) hx hb dX11_isHolding_47 (by decide) ?_
    refine W.widen (k := 0) (n := 0) (Nat.le_of_ble_eq_true rfl) (Nat.le_of_ble_eq_true rfl) ?_
    have zi1 : (1 : Int32).toInt = 1 := by decide
    exact W.zret (v := 1) hx hb hr (by decide) (fun t ht hW => ⟨⟨(1, (I 26), (G 25)), rfl, ((show (0 ≤ (1 : Int32).toInt ∧ (1 : Int32).toInt ≤ 1) by omega)), CB.mk ht hP hD⟩, hS.F ht⟩) hS.2.2 dX11_isHolding_51
  · skip
    have c7 := i_nlt (Eq.refl v5.toInt) (show (0 : Int32).toInt = 0 by decide) c7
    refine lv_aload_n hx hb dX11_isHolding_20 rfl (lv_at hl 1 rfl) ?_
    refine lv_iload_n hx hb dX11_isHolding_21 rfl (lv_at hl 2 rfl) ?_
    refine lv_aload_n hx hb dX11_isHolding_22 rfl (lv_at hl 1 rfl) ?_
    refine va_get (D := D) (ci := 11) (v := .ref (a 7)) (C := RX11) (T := TX11) (N := 49) hx hb hg inGX11 hown hKN.1 hP 0 rfl rfl 7 (by decide) (hg _ kw_1215) (fun _ h9 => h9) rfl dX11_isHolding_23 ?_
    refine lv_iload_n hx hb dX11_isHolding_26 rfl (lv_at hl 0 rfl) ?_
    refine lv_iconst (v := 3) hx hb dX11_isHolding_27 (by decide) ?_
    refine lv_iadd hx hb dX11_isHolding_28 ?_
    refine lv_topi (fun v8 ev8 => ?_)
    have hv8 := i_add (Eq.refl v3.toInt) (show (3 : Int32).toInt = 3 by decide) ev8 (by omega) (by omega)
    refine va_iald hx hb hKN.1 hP 7 0 rfl rfl (vp_in_iff.mpr ⟨by omega, by omega⟩) dX11_isHolding_29 ?_
    refine lv_topi (fun v9 ev9 => ?_)
    have ev9 : v9 = (F 7) v8.toNatClampNeg := ev9
    have qv9 := congrArg Int32.toInt ev9
    have kv9 : v9.toInt = (F 7 (60 * p1.toInt.toNat + 5 * p2.toInt.toNat + 3)).toInt := by rw [ev9, show v8.toNatClampNeg = 60 * p1.toInt.toNat + 5 * p2.toInt.toNat + 3 by have c := clampI (x := v8) (by omega); omega]
    obtain ⟨ca3, ca4, ca5⟩ := c8.resolve_left (by omega)
    have ca6 := ca5.1
    refine lv_aload_n hx hb dX11_isHolding_30 rfl (lv_at hl 1 rfl) ?_
    refine va_get (D := D) (ci := 11) (v := .ref (a 7)) (C := RX11) (T := TX11) (N := 49) hx hb hg inGX11 hown hKN.1 hP 0 rfl rfl 7 (by decide) (hg _ kw_1215) (fun _ h9 => h9) rfl dX11_isHolding_31 ?_
    refine lv_iload_n hx hb dX11_isHolding_34 rfl (lv_at hl 0 rfl) ?_
    refine lv_iconst (v := 4) hx hb dX11_isHolding_35 (by decide) ?_
    refine lv_iadd hx hb dX11_isHolding_36 ?_
    refine lv_topi (fun v10 ev10 => ?_)
    have hv10 := i_add (Eq.refl v3.toInt) (show (4 : Int32).toInt = 4 by decide) ev10 (by omega) (by omega)
    refine va_iald hx hb hKN.1 hP 7 0 rfl rfl (vp_in_iff.mpr ⟨by omega, by omega⟩) dX11_isHolding_37 ?_
    refine lv_topi (fun v11 ev11 => ?_)
    have ev11 : v11 = (F 7) v10.toNatClampNeg := ev11
    have qv11 := congrArg Int32.toInt ev11
    have kv11 : v11.toInt = (F 7 (60 * p1.toInt.toNat + 5 * p2.toInt.toNat + 4)).toInt := by rw [ev11, show v10.toNatClampNeg = 60 * p1.toInt.toNat + 5 * p2.toInt.toNat + 4 by have c := clampI (x := v10) (by omega); omega]
    refine cga (rn_V (As := [.int p1, .int v9, .int v11]) (rest := []) (b := o) (m_reckons l D Y Z H.size o a I J F G  p1 v9 v11 (show (0 ≤ p1.toInt ∧ p1.toInt ≤ 17) by omega) (show (0 ≤ v9.toInt ∧ v9.toInt ≤ 400) by omega) (show (0 ≤ v11.toInt ∧ v11.toInt ≤ 400) by omega) (show (v9.toInt ≤ v11.toInt) by omega) (SEG_wf ca5 (by omega) (by omega))) ⟨hx, hb, hml, hown, hg⟩ lk_X11_362 ⟨CP.blind, va_recv hKN.1 hP (ci := 11) (q0 := 0) rfl rfl, CP.at hP hKN hD⟩ ⟨⟨rfl, rfl⟩, ⟨Nat.le_of_ble_eq_true rfl, Nat.le_of_ble_eq_true rfl⟩, ⟨Nat.le_of_ble_eq_true rfl, Nat.le_of_ble_eq_true rfl⟩⟩ hl.1 rfl (Nat.le_of_ble_eq_true rfl) dX11_isHolding_38) hP hD hS hA (fun u12 H locs w13 hP hD hS => ?_)
    obtain ⟨u14, u15, f16⟩ := u12
    refine W.eq (g2 := F0 m 41 ls [.long u14]) rfl ?_
    have hP : va_P D vwCl (MW Y o a (upd I 26 u15) J F (vf_upd G 25 f16)) H := hP
    have hD : va_D A (MW Y o a (upd I 26 u15) J F (vf_upd G 25 f16)) := hD
    refine lv_lconst (v := 1) hx hb dX11_isHolding_41 (by decide) ?_
    refine W.lcmp hx hb dX11_isHolding_42 ?_
    refine lv_if_ne (tgt := 50) hx hb dX11_isHolding_43 (by decide) (fun c17 => ?_) (fun c17 => ?_)
    · skip
      have c17 := l_ne (Eq.refl u14.toInt) (show (1 : Int64).toInt = 1 by decide) c17
      refine lv_iconst (v := 0) hx hb dX11_isHolding_50 (by decide) ?_
      refine W.widen (k := 0) (n := 0) (Nat.le_of_ble_eq_true rfl) (Nat.le_of_ble_eq_true rfl) ?_
      have zi0 : (0 : Int32).toInt = 0 := by decide
      exact W.zret (v := 0) hx hb hr (by decide) (fun t ht hW => ⟨⟨(0, u15, f16), rfl, ((show (0 ≤ (0 : Int32).toInt ∧ (0 : Int32).toInt ≤ 1) by omega)), CB.mk ht hP hD⟩, hS.F ht⟩) hS.2.2 dX11_isHolding_51
    · skip
      have c17 := l_eq (Eq.refl u14.toInt) (show (1 : Int64).toInt = 1 by decide) c17
      refine lv_iconst (v := 1) hx hb dX11_isHolding_46 (by decide) ?_
      refine lv_goto (tgt := 51) hx hb dX11_isHolding_47 (by decide) ?_
      refine W.widen (k := 0) (n := 0) (Nat.le_of_ble_eq_true rfl) (Nat.le_of_ble_eq_true rfl) ?_
      have zi1 : (1 : Int32).toInt = 1 := by decide
      exact W.zret (v := 1) hx hb hr (by decide) (fun t ht hW => ⟨⟨(1, u15, f16), rfl, ((show (0 ≤ (1 : Int32).toInt ∧ (1 : Int32).toInt ≤ 1) by omega)), CB.mk ht hP hD⟩, hS.F ht⟩) hS.2.2 dX11_isHolding_51
set_option maxHeartbeats 4000000 in
set_option maxRecDepth 100000 in
theorem m_summed (l : Launch) (D : va_G) (Y : Nat → ClassId) (Z : Nat → Nat) (sz : Nat) (o : Nat) (a : Nat → Nat) (I : Nat → Int32) (J : Nat → Int64) (F : Nat → Nat → Int32) (G : Nat → Nat → Int64) (p1 : Int32) (p2 : Int32) (hk_0 : (0 ≤ p1.toInt ∧ p1.toInt ≤ 17)) (hk_1 : (0 ≤ p2.toInt ∧ p2.toInt ≤ 11)) (hr_CL : CLok (F 7) (F 5) (p1.toInt).toNat (p2.toInt).toNat 400) : Met l yX11_summed (.code yX11_summed cX11_summed 4 (some .long) :: GW) ({ frames := 2, cells := 0, slots := 0, locals := 54 }) (va_Pc [.ref o, .int p1, .int p2] (CP D Y Z (MW Y o a I J F G) sz)) (QG (S := Int64 × Int32 × (Nat → Int64)) (fun u => some (.long u.1)) (fun u => True) (fun u => CB D (MW Y o a (upd I 26 u.2.1) J F (vf_upd G 25 u.2.2)) (va_A (MW Y o a I J F G) sz)) (va_A (MW Y o a I J F G) sz)) 0 0 (va_A (MW Y o a I J F G) sz) := by
  refine Met.ofW (cc := cX11_summed) (maxL := 4) (ret := (some .long)) (by decide) rfl ?_
  intro p e s m args below meth c s₁ B hml hv
  obtain ⟨rfl, hsz, hP, hKN, hD0⟩ := hv
  have hx := B.exec
  have hb := B.bytes
  have hr := B.returns
  have hts := atoms_spec (ws := .code yX11_summed cX11_summed 4 (some .long) :: GW) B.pre
  have hg : ∀ w ∈ GW, w.before _ s = true := fun w h => hts w (List.mem_cons_of_mem _ h)
  have hown : s.vm.findClass RX11 = some m.cls := findClass_of_methodNamed B.named
  have hlocks := B.notSynchronized
  subst hsz
  have hD := hD0.self (sz := s.heap.size)
  generalize hAe : va_A (MW Y o a I J F G) s.heap.size = A at hD ⊢
  have hA : ∀ q : Nat, s.heap.size ≤ q → A q := fun q h => by rw [← hAe]; exact Or.inr h
  clear hAe hD0 hts B
  have hl := lv_entry ([.ref o, .int p1, .int p2]) (n := 4) (Nat.le_of_ble_eq_true rfl)
  rw [lg_entry_eq]
  generalize (lg_sl ([.ref o, .int p1, .int p2]) ++ List.replicate (4 - (lg_sl ([.ref o, .int p1, .int p2])).length) Slot.unset).toArray = ls at hl ⊢
  have hl : lv_has ls 4 [(0, .ref o), (1, .int p1), (2, .int p2)] := hl
  refine w_start (A0 := A) hP (fun H locs hP hS => ?_)
  obtain ⟨ca, cb, ce, c1, c2, c3, c4, c5, c6, c7, c8⟩ := id hr_CL
  have c9 := c4.1
  refine lv_bipush (v := 60) hx hb dX11_summed_0 (by decide) ?_
  refine lv_iload_n hx hb dX11_summed_2 rfl (lv_at hl 1 rfl) ?_
  refine lv_imul hx hb dX11_summed_3 ?_
  refine lv_topi (fun v1 ev1 => ?_)
  have hv1 := i_mul (show (60 : Int32).toInt = 60 by decide) (Eq.refl p1.toInt) ev1 (by omega) (by omega)
  refine lv_iconst (v := 5) hx hb dX11_summed_4 (by decide) ?_
  refine lv_iload_n hx hb dX11_summed_5 rfl (lv_at hl 2 rfl) ?_
  refine lv_imul hx hb dX11_summed_6 ?_
  refine lv_topi (fun v2 ev2 => ?_)
  have hv2 := i_mul (show (5 : Int32).toInt = 5 by decide) (Eq.refl p2.toInt) ev2 (by omega) (by omega)
  refine lv_iadd hx hb dX11_summed_7 ?_
  refine lv_topi (fun v3 ev3 => ?_)
  have hv3 := i_add (Eq.refl v1.toInt) (Eq.refl v2.toInt) ev3 (by omega) (by omega)
  refine lv_istore_n (lv' := [(3, .int v3), (0, .ref o), (1, .int p1), (2, .int p2)]) hx hb dX11_summed_8 rfl hl (by decide) rfl (fun ls hl => ?_)
  refine lv_aload_n hx hb dX11_summed_9 rfl (lv_at hl 1 rfl) ?_
  refine lv_iload_n hx hb dX11_summed_10 rfl (lv_at hl 2 rfl) ?_
  refine lv_aload_n hx hb dX11_summed_11 rfl (lv_at hl 1 rfl) ?_
  refine va_get (D := D) (ci := 11) (v := .ref (a 7)) (C := RX11) (T := TX11) (N := 49) hx hb hg inGX11 hown hKN.1 hP 0 rfl rfl 7 (by decide) (hg _ kw_1215) (fun _ h9 => h9) rfl dX11_summed_12 ?_
  refine lv_iload_n hx hb dX11_summed_15 rfl (lv_at hl 0 rfl) ?_
  refine lv_iconst (v := 1) hx hb dX11_summed_16 (by decide) ?_
  refine lv_iadd hx hb dX11_summed_17 ?_
  refine lv_topi (fun v4 ev4 => ?_)
  have hv4 := i_add (Eq.refl v3.toInt) (show (1 : Int32).toInt = 1 by decide) ev4 (by omega) (by omega)
  refine va_iald hx hb hKN.1 hP 7 0 rfl rfl (vp_in_iff.mpr ⟨by omega, by omega⟩) dX11_summed_18 ?_
  refine lv_topi (fun v5 ev5 => ?_)
  have ev5 : v5 = (F 7) v4.toNatClampNeg := ev5
  have qv5 := congrArg Int32.toInt ev5
  have kv5 : v5.toInt = (F 7 (60 * p1.toInt.toNat + 5 * p2.toInt.toNat + 1)).toInt := by rw [ev5, show v4.toNatClampNeg = 60 * p1.toInt.toNat + 5 * p2.toInt.toNat + 1 by have c := clampI (x := v4) (by omega); omega]
  refine lv_aload_n hx hb dX11_summed_19 rfl (lv_at hl 1 rfl) ?_
  refine va_get (D := D) (ci := 11) (v := .ref (a 7)) (C := RX11) (T := TX11) (N := 49) hx hb hg inGX11 hown hKN.1 hP 0 rfl rfl 7 (by decide) (hg _ kw_1215) (fun _ h9 => h9) rfl dX11_summed_20 ?_
  refine lv_iload_n hx hb dX11_summed_23 rfl (lv_at hl 0 rfl) ?_
  refine lv_iconst (v := 2) hx hb dX11_summed_24 (by decide) ?_
  refine lv_iadd hx hb dX11_summed_25 ?_
  refine lv_topi (fun v6 ev6 => ?_)
  have hv6 := i_add (Eq.refl v3.toInt) (show (2 : Int32).toInt = 2 by decide) ev6 (by omega) (by omega)
  refine va_iald hx hb hKN.1 hP 7 0 rfl rfl (vp_in_iff.mpr ⟨by omega, by omega⟩) dX11_summed_26 ?_
  refine lv_topi (fun v7 ev7 => ?_)
  have ev7 : v7 = (F 7) v6.toNatClampNeg := ev7
  have qv7 := congrArg Int32.toInt ev7
  have kv7 : v7.toInt = (F 7 (60 * p1.toInt.toNat + 5 * p2.toInt.toNat + 2)).toInt := by rw [ev7, show v6.toNatClampNeg = 60 * p1.toInt.toNat + 5 * p2.toInt.toNat + 2 by have c := clampI (x := v6) (by omega); omega]
  refine cga (rn_V (As := [.int p1, .int v5, .int v7]) (rest := []) (b := o) (m_reckons l D Y Z H.size o a I J F G  p1 v5 v7 (show (0 ≤ p1.toInt ∧ p1.toInt ≤ 17) by omega) (show (0 ≤ v5.toInt ∧ v5.toInt ≤ 400) by omega) (show (0 ≤ v7.toInt ∧ v7.toInt ≤ 400) by omega) (show (v5.toInt ≤ v7.toInt) by omega) (SEG_wf c4 (by omega) (by omega))) ⟨hx, hb, hml, hown, hg⟩ lk_X11_362 ⟨CP.blind, va_recv hKN.1 hP (ci := 11) (q0 := 0) rfl rfl, CP.at hP hKN hD⟩ ⟨⟨rfl, rfl⟩, ⟨Nat.le_of_ble_eq_true rfl, Nat.le_of_ble_eq_true rfl⟩, ⟨Nat.le_of_ble_eq_true rfl, Nat.le_of_ble_eq_true rfl⟩⟩ hl.1 rfl (Nat.le_of_ble_eq_true rfl) dX11_summed_27) hP hD hS hA (fun u8 H locs w9 hP hD hS => ?_)
  obtain ⟨u10, u11, f12⟩ := u8
  refine W.eq (g2 := F0 m 30 ls [.long u10]) rfl ?_
  have hP : va_P D vwCl (MW Y o a (upd I 26 u11) J F (vf_upd G 25 f12)) H := hP
  have hD : va_D A (MW Y o a (upd I 26 u11) J F (vf_upd G 25 f12)) := hD
  refine W.widen (k := 0) (n := 0) (Nat.le_of_ble_eq_true rfl) (Nat.le_of_ble_eq_true rfl) ?_
  exact W.lret (v := u10) hx hb hr (fun t ht hW => ⟨⟨(u10, u11, f12), rfl, trivial, CB.mk ht hP hD⟩, hS.F ht⟩) hS.2.2 dX11_summed_30
