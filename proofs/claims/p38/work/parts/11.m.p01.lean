set_option maxHeartbeats 4000000 in
set_option maxRecDepth 100000 in
theorem m_means (l : Launch) (D : va_G) (Y : Nat → ClassId) (Z : Nat → Nat) (sz : Nat) (o : Nat) (a : Nat → Nat) (I : Nat → Int32) (J : Nat → Int64) (F : Nat → Nat → Int32) (G : Nat → Nat → Int64) (hk0 : TO (F 0)) : Met l yX11_means (.code yX11_means cX11_means 2 none :: GW) ({ frames := 2, cells := 0, slots := 0, locals := 52 }) (va_Pc [.ref o] (CP D Y Z (MW Y o a I J F G) sz)) (QG (S := (Nat → Int32)) (fun _ => none) (fun u => True) (fun u => CB D (MW Y o a I J (vf_upd F 1 u) G) (va_A (MW Y o a I J F G) sz)) (va_A (MW Y o a I J F G) sz)) 0 0 (va_A (MW Y o a I J F G) sz) := by
  refine Met.ofW (cc := cX11_means) (maxL := 2) (ret := none) (by decide) rfl ?_
  intro p e s m args below meth c s₁ B hml hv
  obtain ⟨rfl, hsz, hP, hKN, hD0⟩ := hv
  have hx := B.exec
  have hb := B.bytes
  have hr := B.returns
  have hts := atoms_spec (ws := .code yX11_means cX11_means 2 none :: GW) B.pre
  have hg : ∀ w ∈ GW, w.before _ s = true := fun w h => hts w (List.mem_cons_of_mem _ h)
  have hown : s.vm.findClass RX11 = some m.cls := findClass_of_methodNamed B.named
  have hlocks := B.notSynchronized
  subst hsz
  have hD := hD0.self (sz := s.heap.size)
  generalize hAe : va_A (MW Y o a I J F G) s.heap.size = A at hD ⊢
  have hA : ∀ q : Nat, s.heap.size ≤ q → A q := fun q h => by rw [← hAe]; exact Or.inr h
  clear hAe hD0 hts B
  have hl := lv_entry ([.ref o]) (n := 2) (Nat.le_of_ble_eq_true rfl)
  rw [lg_entry_eq]
  generalize (lg_sl ([.ref o]) ++ List.replicate (2 - (lg_sl ([.ref o])).length) Slot.unset).toArray = ls at hl ⊢
  have hl : lv_has ls 2 [(0, .ref o)] := hl
  refine w_start (A0 := A) hP (fun H locs hP hS => ?_)
  refine lv_iconst (v := 0) hx hb dX11_means_0 (by decide) ?_
  refine lv_istore_n (lv' := [(1, .int 0), (0, .ref o)]) hx hb dX11_means_1 rfl hl (by decide) rfl (fun ls hl => ?_)
  have zi0 : (0 : Int32).toInt = 0 := by decide
  refine w_loop (σ := Int32 × (Nat → Int32)) (fun xx H locs ls => match xx with | (g14, f15) => va_P D vwCl (MW Y o a I J (vf_upd F 1 f15) G) H ∧ va_D A (MW Y o a I J (vf_upd F 1 f15) G) ∧ va_S A s.heap H locs ∧ lv_has ls 2 [(1, .int g14), (0, .ref o)] ∧ (0 ≤ g14.toInt ∧ g14.toInt ≤ 12)) (fun xx => match xx with | (g14, f15) => (12 - g14.toInt).toNat) (0, (F 1)) ⟨hP, hD, hS, lv_sub hl [0, 1] rfl, by omega⟩ (fun xx H locs ls hI ih => ?_)
  obtain ⟨g14, f15⟩ := xx
  obtain ⟨hP, hD, hS, hl, hq31⟩ := hI
  have ih32 := ih
  refine lv_iload_n hx hb dX11_means_2 rfl (lv_at hl 0 rfl) ?_
  refine lv_aload_n hx hb dX11_means_3 rfl (lv_at hl 1 rfl) ?_
  refine va_get (D := D) (ci := 11) (v := .ref (a 0)) (C := RX11) (T := TX11) (N := 49) hx hb hg inGX11 hown hKN.1 hP 0 rfl rfl 0 (by decide) (hg _ kw_1208) (fun _ h9 => h9) rfl dX11_means_4 ?_
  refine lv_iconst (v := 0) hx hb dX11_means_7 (by decide) ?_
  refine va_iald hx hb hKN.1 hP 1 0 rfl rfl (show ¬ ((0 : Int32) < 0 ∨ 7533 ≤ (0 : Int32).toNatClampNeg) by decide) dX11_means_8 ?_
  refine lv_topi (fun v33 ev33 => ?_)
  have ev33 : v33 = (F 0) 0 := ev33
  have kv33 := TO_0 hk0
  rw [← ev33] at kv33
  have qv33 := congrArg Int32.toInt ev33
  refine lv_icmp_ge (tgt := 33) hx hb dX11_means_9 (by decide) (fun c41 => ?_) (fun c41 => ?_)
  · skip
    have c41 := i_le (Eq.refl v33.toInt) (Eq.refl g14.toInt) c41
    refine W.widen (k := 0) (n := 0) (Nat.le_of_ble_eq_true rfl) (Nat.le_of_ble_eq_true rfl) ?_
    exact W.vret hx hb hr (fun t ht hW => ⟨⟨f15, rfl, trivial, CB.mk ht hP hD⟩, hS.F ht⟩) hS.2.2 dX11_means_33
  · skip
    have c41 := i_nle (Eq.refl v33.toInt) (Eq.refl g14.toInt) c41
    refine lv_aload_n hx hb dX11_means_12 rfl (lv_at hl 1 rfl) ?_
    refine va_get (D := D) (ci := 11) (v := .ref (a 1)) (C := RX11) (T := TX11) (N := 49) hx hb hg inGX11 hown hKN.1 hP 0 rfl rfl 1 (by decide) (hg _ kw_1209) (fun _ h9 => h9) rfl dX11_means_13 ?_
    refine lv_iload_n hx hb dX11_means_16 rfl (lv_at hl 0 rfl) ?_
    refine lv_aload_n hx hb dX11_means_17 rfl (lv_at hl 1 rfl) ?_
    refine lv_iload_n hx hb dX11_means_18 rfl (lv_at hl 0 rfl) ?_
    refine lv_iconst (v := 0) hx hb dX11_means_19 (by decide) ?_
    refine lv_sipush (v := 599) hx hb dX11_means_20 (by decide) ?_
    have zi0 : (0 : Int32).toInt = 0 := by decide
    have zi599 : (599 : Int32).toInt = 599 := by decide
    refine cga (rn_V (As := [.int g14, .int 0, .int 599]) (rest := [.int g14, .ref (a 1)]) (b := o) (m_meanOf l D Y Z H.size o a I J (vf_upd F 1 f15) G  g14 0 599 (show (0 ≤ g14.toInt ∧ g14.toInt ≤ 11) by omega) hk0) ⟨hx, hb, hml, hown, hg⟩ lk_X11_144 ⟨CP.blind, va_recv hKN.1 hP (ci := 11) (q0 := 0) rfl rfl, CP.at hP hKN hD⟩ ⟨⟨rfl, rfl⟩, ⟨Nat.le_of_ble_eq_true rfl, Nat.le_of_ble_eq_true rfl⟩, ⟨Nat.le_of_ble_eq_true rfl, Nat.le_of_ble_eq_true rfl⟩⟩ hl.1 rfl (Nat.le_of_ble_eq_true rfl) dX11_means_23) hP hD hS hA (fun u42 H locs w43 hP hD hS => ?_)
    have w43 : (0 = 0) := w43
    have hw45 := w43
    refine W.eq (g2 := F0 m 26 ls [.int u42, .int g14, .ref (a 1)]) rfl ?_
    have hP : va_P D vwCl (MW Y o a I J (vf_upd F 1 f15) G) H := hP
    have hD : va_D A (MW Y o a I J (vf_upd F 1 f15) G) := hD
    refine va_iast hx hb hKN.1 hP hD hS 2 0 rfl rfl (vp_in_iff.mpr ⟨by omega, by omega⟩) dX11_means_26 (fun H locs hP hD hS => ?_)
    obtain ⟨f46, ef46, hP, hD⟩ : ∃ f46 : Nat → Int32, f46 = upd f15 g14.toNatClampNeg u42 ∧ va_P D vwCl (MW Y o a I J (vf_upd F 1 f46) G) H ∧ va_D A (MW Y o a I J (vf_upd F 1 f46) G) := ⟨_, rfl, hP, hD⟩
    obtain ⟨v47, ev47⟩ : ∃ y : Int32, y = g14 + 1 := ⟨_, rfl⟩
    have hv47 := i_add (Eq.refl g14.toInt) (show (1 : Int32).toInt = 1 by decide) ev47 (by omega) (by omega)
    refine lv_iinc (v := v47) (lv' := [(1, .int v47), (0, .ref o)]) hx hb dX11_means_27 hl (k := 0) rfl (by rw [ev47]; rfl) (by decide) rfl (fun ls hl => ?_)
    refine lv_goto (tgt := 2) hx hb dX11_means_30 (by decide) ?_
    exact ih32 (v47, f46) H locs ls (by show (12 - v47.toInt).toNat < (12 - g14.toInt).toNat; omega) ⟨hP, hD, hS, lv_sub hl [0, 1] rfl, by omega⟩
set_option maxHeartbeats 4000000 in
set_option maxRecDepth 100000 in
theorem m_isMasked (l : Launch) (D : va_G) (Y : Nat → ClassId) (Z : Nat → Nat) (sz : Nat) (o : Nat) (a : Nat → Nat) (I : Nat → Int32) (J : Nat → Int64) (F : Nat → Nat → Int32) (G : Nat → Nat → Int64) (p1 : Int32) (p2 : Int32) (hk_0 : (0 ≤ p1.toInt ∧ p1.toInt ≤ 7)) (hk_1 : (0 ≤ p2.toInt ∧ p2.toInt ≤ 599)) (hk0 : TO (F 0)) : Met l yX11_isMasked (.code yX11_isMasked cX11_isMasked 6 (some .boolean) :: GW) ({ frames := 1, cells := 0, slots := 0, locals := 22 }) (va_Pc [.ref o, .int p1, .int p2] (CP D Y Z (MW Y o a I J F G) sz)) (QG (S := Int32) (fun u => some (.int u)) (fun u => (0 ≤ u.toInt ∧ u.toInt ≤ 1)) (fun u => CB D (MW Y o a I J F G) (va_A (MW Y o a I J F G) sz)) (va_A (MW Y o a I J F G) sz)) 0 0 (va_A (MW Y o a I J F G) sz) := by
  refine Met.ofW (cc := cX11_isMasked) (maxL := 6) (ret := (some .boolean)) (by decide) rfl ?_
  intro p e s m args below meth c s₁ B hml hv
  obtain ⟨rfl, hsz, hP, hKN, hD0⟩ := hv
  have hx := B.exec
  have hb := B.bytes
  have hr := B.returns
  have hts := atoms_spec (ws := .code yX11_isMasked cX11_isMasked 6 (some .boolean) :: GW) B.pre
  have hg : ∀ w ∈ GW, w.before _ s = true := fun w h => hts w (List.mem_cons_of_mem _ h)
  have hown : s.vm.findClass RX11 = some m.cls := findClass_of_methodNamed B.named
  have hlocks := B.notSynchronized
  subst hsz
  have hD := hD0.self (sz := s.heap.size)
  generalize hAe : va_A (MW Y o a I J F G) s.heap.size = A at hD ⊢
  have hA : ∀ q : Nat, s.heap.size ≤ q → A q := fun q h => by rw [← hAe]; exact Or.inr h
  clear hAe hD0 hts B
  have hl := lv_entry ([.ref o, .int p1, .int p2]) (n := 6) (Nat.le_of_ble_eq_true rfl)
  rw [lg_entry_eq]
  generalize (lg_sl ([.ref o, .int p1, .int p2]) ++ List.replicate (6 - (lg_sl ([.ref o, .int p1, .int p2])).length) Slot.unset).toArray = ls at hl ⊢
  have hl : lv_has ls 6 [(0, .ref o), (1, .int p1), (2, .int p2)] := hl
  refine w_start (A0 := A) hP (fun H locs hP hS => ?_)
  refine lv_aload_n hx hb dX11_isMasked_0 rfl (lv_at hl 0 rfl) ?_
  refine va_get (D := D) (ci := 11) (v := .ref (a 0)) (C := RX11) (T := TX11) (N := 49) hx hb hg inGX11 hown hKN.1 hP 0 rfl rfl 0 (by decide) (hg _ kw_1208) (fun _ h9 => h9) rfl dX11_isMasked_1 ?_
  refine lv_sipush (v := 7517) hx hb dX11_isMasked_4 (by decide) ?_
  refine lv_iconst (v := 2) hx hb dX11_isMasked_7 (by decide) ?_
  refine lv_iload_n hx hb dX11_isMasked_8 rfl (lv_at hl 1 rfl) ?_
  refine lv_imul hx hb dX11_isMasked_9 ?_
  refine lv_topi (fun v1 ev1 => ?_)
  have hv1 := i_mul (show (2 : Int32).toInt = 2 by decide) (Eq.refl p1.toInt) ev1 (by omega) (by omega)
  refine lv_iadd hx hb dX11_isMasked_10 ?_
  refine lv_topi (fun v2 ev2 => ?_)
  have hv2 := i_add (show (7517 : Int32).toInt = 7517 by decide) (Eq.refl v1.toInt) ev2 (by omega) (by omega)
  refine va_iald hx hb hKN.1 hP 1 0 rfl rfl (vp_in_iff.mpr ⟨by omega, by omega⟩) dX11_isMasked_11 ?_
  refine lv_topi (fun v3 ev3 => ?_)
  have ev3 : v3 = (F 0) v2.toNatClampNeg := ev3
  refine lv_istore_n (lv' := [(3, .int v3), (0, .ref o), (1, .int p1), (2, .int p2)]) hx hb dX11_isMasked_12 rfl hl (by decide) rfl (fun ls hl => ?_)
  refine lv_iconst (v := 0) hx hb dX11_isMasked_13 (by decide) ?_
  refine lv_istore (lv' := [(4, .int 0), (3, .int v3), (0, .ref o), (1, .int p1), (2, .int p2)]) hx hb dX11_isMasked_14 hl (by decide) rfl (fun ls hl => ?_)
  refine lv_iconst (v := 0) hx hb dX11_isMasked_16 (by decide) ?_
  refine lv_istore (lv' := [(5, .int 0), (4, .int 0), (3, .int v3), (0, .ref o), (1, .int p1), (2, .int p2)]) hx hb dX11_isMasked_17 hl (by decide) rfl (fun ls hl => ?_)
  have zi0 : (0 : Int32).toInt = 0 := by decide
  refine w_loop (σ := Int32 × Int32) (fun xx H locs ls => match xx with | (g95, g96) => va_P D vwCl (MW Y o a I J F G) H ∧ va_D A (MW Y o a I J F G) ∧ va_S A s.heap H locs ∧ lv_has ls 6 [(5, .int g95), (4, .int g96), (3, .int v3), (0, .ref o), (1, .int p1), (2, .int p2)] ∧ (0 ≤ g95.toInt ∧ g95.toInt ≤ 12)) (fun xx => match xx with | (g95, g96) => (12 - g95.toInt).toNat) (0, 0) ⟨hP, hD, hS, lv_sub hl [0, 1, 2, 3, 4, 5] rfl, by omega⟩ (fun xx H locs ls hI ih => ?_)
  obtain ⟨g95, g96⟩ := xx
  obtain ⟨hP, hD, hS, hl, hq190⟩ := hI
  have ih191 := ih
  refine lv_iload hx hb dX11_isMasked_19 (lv_at hl 0 rfl) ?_
  refine lv_aload_n hx hb dX11_isMasked_21 rfl (lv_at hl 3 rfl) ?_
  refine va_get (D := D) (ci := 11) (v := .ref (a 0)) (C := RX11) (T := TX11) (N := 49) hx hb hg inGX11 hown hKN.1 hP 0 rfl rfl 0 (by decide) (hg _ kw_1208) (fun _ h9 => h9) rfl dX11_isMasked_22 ?_
  refine lv_iconst (v := 0) hx hb dX11_isMasked_25 (by decide) ?_
  refine va_iald hx hb hKN.1 hP 1 0 rfl rfl (show ¬ ((0 : Int32) < 0 ∨ 7533 ≤ (0 : Int32).toNatClampNeg) by decide) dX11_isMasked_26 ?_
  refine lv_topi (fun v192 ev192 => ?_)
  have ev192 : v192 = (F 0) 0 := ev192
  have kv192 := TO_0 hk0
  rw [← ev192] at kv192
  have qv192 := congrArg Int32.toInt ev192
  refine lv_icmp_ge (tgt := 101) hx hb dX11_isMasked_27 (by decide) (fun c239 => ?_) (fun c239 => ?_)
  · skip
    have c239 := i_le (Eq.refl v192.toInt) (Eq.refl g95.toInt) c239
    refine lv_iload_n hx hb dX11_isMasked_101 rfl (lv_at hl 2 rfl) ?_
    have j244 := rgI v3
    refine lv_if_le (tgt := 115) hx hb dX11_isMasked_102 (by decide) (fun c245 => ?_) (fun c245 => ?_)
    · skip
      have c245 := i_le (Eq.refl v3.toInt) (show (0 : Int32).toInt = 0 by decide) c245
      refine lv_iconst (v := 0) hx hb dX11_isMasked_115 (by decide) ?_
      refine W.widen (k := 0) (n := 0) (Nat.le_of_ble_eq_true rfl) (Nat.le_of_ble_eq_true rfl) ?_
      have zi0 : (0 : Int32).toInt = 0 := by decide
      exact W.zret (v := 0) hx hb hr (by decide) (fun t ht hW => ⟨⟨0, rfl, ((show (0 ≤ (0 : Int32).toInt ∧ (0 : Int32).toInt ≤ 1) by omega)), CB.mk ht hP hD⟩, hS.F ht⟩) hS.2.2 dX11_isMasked_116
    · skip
      have c245 := i_nle (Eq.refl v3.toInt) (show (0 : Int32).toInt = 0 by decide) c245
      refine lv_iload hx hb dX11_isMasked_105 (lv_at hl 1 rfl) ?_
      refine lv_iload_n hx hb dX11_isMasked_107 rfl (lv_at hl 2 rfl) ?_
      have j248 := rgI g96
      refine lv_icmp_lt (tgt := 115) hx hb dX11_isMasked_108 (by decide) (fun c249 => ?_) (fun c249 => ?_)
      · skip
        have c249 := i_lt (Eq.refl g96.toInt) (Eq.refl v3.toInt) c249
        refine lv_iconst (v := 0) hx hb dX11_isMasked_115 (by decide) ?_
        refine W.widen (k := 0) (n := 0) (Nat.le_of_ble_eq_true rfl) (Nat.le_of_ble_eq_true rfl) ?_
        have zi0 : (0 : Int32).toInt = 0 := by decide
        exact W.zret (v := 0) hx hb hr (by decide) (fun t ht hW => ⟨⟨0, rfl, ((show (0 ≤ (0 : Int32).toInt ∧ (0 : Int32).toInt ≤ 1) by omega)), CB.mk ht hP hD⟩, hS.F ht⟩) hS.2.2 dX11_isMasked_116
      · skip
        have c249 := i_nlt (Eq.refl g96.toInt) (Eq.refl v3.toInt) c249
        refine lv_iconst (v := 1) hx hb dX11_isMasked_111 (by decide) ?_
        refine lv_goto (tgt := 116) hx hb dX11_isMasked_112 (by decide) ?_
        refine W.widen (k := 0) (n := 0) (Nat.le_of_ble_eq_true rfl) (Nat.le_of_ble_eq_true rfl) ?_
        have zi1 : (1 : Int32).toInt = 1 := by decide
        exact W.zret (v := 1) hx hb hr (by decide) (fun t ht hW => ⟨⟨1, rfl, ((show (0 ≤ (1 : Int32).toInt ∧ (1 : Int32).toInt ≤ 1) by omega)), CB.mk ht hP hD⟩, hS.F ht⟩) hS.2.2 dX11_isMasked_116
  · skip
    have c239 := i_nle (Eq.refl v192.toInt) (Eq.refl g95.toInt) c239
    refine lv_iload hx hb dX11_isMasked_30 (lv_at hl 1 rfl) ?_
    refine lv_aload_n hx hb dX11_isMasked_32 rfl (lv_at hl 3 rfl) ?_
    refine lv_iload hx hb dX11_isMasked_33 (lv_at hl 0 rfl) ?_
    refine lv_iconst (v := 1) hx hb dX11_isMasked_35 (by decide) ?_
    have zi1 : (1 : Int32).toInt = 1 := by decide
    refine cga (rn_V (As := [.int g95, .int 1]) (rest := [.int g96]) (b := o) (m_starOf1 l D Y Z H.size o a I J F G  g95 (show (0 ≤ g95.toInt ∧ g95.toInt ≤ 11) by omega) hk0) ⟨hx, hb, hml, hown, hg⟩ lk_X11_120 ⟨CP.blind, va_recv hKN.1 hP (ci := 11) (q0 := 0) rfl rfl, CP.at hP hKN hD⟩ ⟨⟨rfl, rfl⟩, ⟨Nat.le_of_ble_eq_true rfl, Nat.le_of_ble_eq_true rfl⟩, ⟨Nat.le_of_ble_eq_true rfl, Nat.le_of_ble_eq_true rfl⟩⟩ hl.1 rfl (Nat.le_of_ble_eq_true rfl) dX11_isMasked_36) hP hD hS hA (fun u250 H locs w251 hP hD hS => ?_)
    have w251 : (0 ≤ u250.toInt ∧ u250.toInt ≤ 7) := w251
    have hw253 := w251
    refine W.eq (g2 := F0 m 39 ls [.int u250, .int g96]) rfl ?_
    have hP : va_P D vwCl (MW Y o a I J F G) H := hP
    have hD : va_D A (MW Y o a I J F G) := hD
    refine lv_iload_n hx hb dX11_isMasked_39 rfl (lv_at hl 4 rfl) ?_
    refine w_join (σ := Int32) (pcJ := 92) (kJ := 0) (nJ := 0) (stk := fun xx => match xx with | g272 => [.int g272, .int g96]) (fun xx H locs ls => match xx with | g272 => va_P D vwCl (MW Y o a I J F G) H ∧ va_D A (MW Y o a I J F G) ∧ va_S A s.heap H locs ∧ lv_has ls 6 [(5, .int g95), (4, .int g96), (3, .int v3), (0, .ref o), (1, .int p1), (2, .int p2)] ∧ (0 ≤ g272.toInt ∧ g272.toInt ≤ 1)) (fun xx H locs ls hI => ?_) (fun jn273 => ?_)
    · skip
      revert hI
      generalize xx = g272
      intro hI
      obtain ⟨hP, hD, hS, hl, hq274⟩ := hI
      refine W.eq (g2 := F0 m 92 ls [.int g272, .int g96]) rfl ?_
      refine lv_iadd hx hb dX11_isMasked_92 ?_
      refine lv_topi (fun v275 ev275 => ?_)
      refine lv_istore (lv' := [(4, .int v275), (5, .int g95), (3, .int v3), (0, .ref o), (1, .int p1), (2, .int p2)]) hx hb dX11_isMasked_93 hl (by decide) rfl (fun ls hl => ?_)
      obtain ⟨v276, ev276⟩ : ∃ y : Int32, y = g95 + 1 := ⟨_, rfl⟩
      have hv276 := i_add (Eq.refl g95.toInt) (show (1 : Int32).toInt = 1 by decide) ev276 (by omega) (by omega)
      refine lv_iinc (v := v276) (lv' := [(5, .int v276), (4, .int v275), (3, .int v3), (0, .ref o), (1, .int p1), (2, .int p2)]) hx hb dX11_isMasked_95 hl (k := 1) rfl (by rw [ev276]; rfl) (by decide) rfl (fun ls hl => ?_)
      refine lv_goto (tgt := 19) hx hb dX11_isMasked_98 (by decide) ?_
      exact ih191 (v276, v275) H locs ls (by show (12 - v276.toInt).toNat < (12 - g95.toInt).toNat; omega) ⟨hP, hD, hS, lv_sub hl [0, 1, 2, 3, 4, 5] rfl, by omega⟩
    · skip
      refine lv_icmp_ne (tgt := 91) hx hb dX11_isMasked_40 (by decide) (fun c277 => ?_) (fun c277 => ?_)
      · skip
        have c277 := i_ne (Eq.refl u250.toInt) (Eq.refl p1.toInt) c277
        refine lv_iconst (v := 0) hx hb dX11_isMasked_91 (by decide) ?_
        have zi0 : (0 : Int32).toInt = 0 := by decide
        refine W.widen (k := 0) (n := 0) (Nat.le_of_ble_eq_true rfl) (Nat.le_of_ble_eq_true rfl) ?_
        exact jn273 (0) H locs ls ⟨hP, hD, hS, lv_sub hl [0, 1, 2, 3, 4, 5] rfl, by omega⟩
      · skip
        have c277 := i_eq (Eq.refl u250.toInt) (Eq.refl p1.toInt) c277
        refine lv_aload_n hx hb dX11_isMasked_43 rfl (lv_at hl 3 rfl) ?_
        refine lv_iload hx hb dX11_isMasked_44 (lv_at hl 0 rfl) ?_
        refine lv_iload_n hx hb dX11_isMasked_46 rfl (lv_at hl 5 rfl) ?_
        refine cga (rn_V (As := [.int g95, .int p2]) (rest := [.int g96]) (b := o) (m_rowAt l D Y Z H.size o a I J F G  g95 p2 (show (0 ≤ g95.toInt ∧ g95.toInt ≤ 11) by omega) (show (0 ≤ p2.toInt ∧ p2.toInt ≤ 599) by omega) hk0) ⟨hx, hb, hml, hown, hg⟩ lk_X11_130 ⟨CP.blind, va_recv hKN.1 hP (ci := 11) (q0 := 0) rfl rfl, CP.at hP hKN hD⟩ ⟨⟨rfl, rfl⟩, ⟨Nat.le_of_ble_eq_true rfl, Nat.le_of_ble_eq_true rfl⟩, ⟨Nat.le_of_ble_eq_true rfl, Nat.le_of_ble_eq_true rfl⟩⟩ hl.1 rfl (Nat.le_of_ble_eq_true rfl) dX11_isMasked_47) hP hD hS hA (fun u278 H locs w279 hP hD hS => ?_)
        have w279 : (-100000 ≤ u278.toInt ∧ u278.toInt ≤ 100000) := w279
        have hw281 := w279
        refine W.eq (g2 := F0 m 50 ls [.int u278, .int g96]) rfl ?_
        have hP : va_P D vwCl (MW Y o a I J F G) H := hP
        have hD : va_D A (MW Y o a I J F G) := hD
        refine lv_ldc (v := (-100000)) hx hb hown (hg _ kw_1367) dX11_isMasked_50 ?_
        refine lv_icmp_eq (tgt := 91) hx hb dX11_isMasked_52 (by decide) (fun c282 => ?_) (fun c282 => ?_)
        · skip
          have c282 := i_eq (Eq.refl u278.toInt) (show ((-100000) : Int32).toInt = -100000 by decide) c282
          refine lv_iconst (v := 0) hx hb dX11_isMasked_91 (by decide) ?_
          have zi0 : (0 : Int32).toInt = 0 := by decide
          refine W.widen (k := 0) (n := 0) (Nat.le_of_ble_eq_true rfl) (Nat.le_of_ble_eq_true rfl) ?_
          exact jn273 (0) H locs ls ⟨hP, hD, hS, lv_sub hl [0, 1, 2, 3, 4, 5] rfl, by omega⟩
        · skip
          have c282 := i_ne (Eq.refl u278.toInt) (show ((-100000) : Int32).toInt = -100000 by decide) c282
          refine lv_aload_n hx hb dX11_isMasked_55 rfl (lv_at hl 3 rfl) ?_
          refine lv_iload hx hb dX11_isMasked_56 (lv_at hl 0 rfl) ?_
          refine lv_iload_n hx hb dX11_isMasked_58 rfl (lv_at hl 5 rfl) ?_
          refine cga (rn_V (As := [.int g95, .int p2]) (rest := [.int g96]) (b := o) (m_rowAt l D Y Z H.size o a I J F G  g95 p2 (show (0 ≤ g95.toInt ∧ g95.toInt ≤ 11) by omega) (show (0 ≤ p2.toInt ∧ p2.toInt ≤ 599) by omega) hk0) ⟨hx, hb, hml, hown, hg⟩ lk_X11_130 ⟨CP.blind, va_recv hKN.1 hP (ci := 11) (q0 := 0) rfl rfl, CP.at hP hKN hD⟩ ⟨⟨rfl, rfl⟩, ⟨Nat.le_of_ble_eq_true rfl, Nat.le_of_ble_eq_true rfl⟩, ⟨Nat.le_of_ble_eq_true rfl, Nat.le_of_ble_eq_true rfl⟩⟩ hl.1 rfl (Nat.le_of_ble_eq_true rfl) dX11_isMasked_59) hP hD hS hA (fun u283 H locs w284 hP hD hS => ?_)
          have w284 : (-100000 ≤ u283.toInt ∧ u283.toInt ≤ 100000) := w284
          have hw286 := w284
          refine W.eq (g2 := F0 m 62 ls [.int u283, .int g96]) rfl ?_
          have hP : va_P D vwCl (MW Y o a I J F G) H := hP
          have hD : va_D A (MW Y o a I J F G) := hD
          refine lv_aload_n hx hb dX11_isMasked_62 rfl (lv_at hl 3 rfl) ?_
          refine va_get (D := D) (ci := 11) (v := .ref (a 1)) (C := RX11) (T := TX11) (N := 49) hx hb hg inGX11 hown hKN.1 hP 0 rfl rfl 1 (by decide) (hg _ kw_1209) (fun _ h9 => h9) rfl dX11_isMasked_63 ?_
          refine lv_iload hx hb dX11_isMasked_66 (lv_at hl 0 rfl) ?_
          refine va_iald hx hb hKN.1 hP 2 0 rfl rfl (vp_in_iff.mpr ⟨by omega, by omega⟩) dX11_isMasked_68 ?_
          refine lv_topi (fun v287 ev287 => ?_)
          have ev287 : v287 = (F 1) g95.toNatClampNeg := ev287
          refine lv_aload_n hx hb dX11_isMasked_69 rfl (lv_at hl 3 rfl) ?_
          refine va_get (D := D) (ci := 11) (v := .ref (a 0)) (C := RX11) (T := TX11) (N := 49) hx hb hg inGX11 hown hKN.1 hP 0 rfl rfl 0 (by decide) (hg _ kw_1208) (fun _ h9 => h9) rfl dX11_isMasked_70 ?_
          refine lv_sipush (v := 7517) hx hb dX11_isMasked_73 (by decide) ?_
          refine lv_iconst (v := 2) hx hb dX11_isMasked_76 (by decide) ?_
          refine lv_iload_n hx hb dX11_isMasked_77 rfl (lv_at hl 4 rfl) ?_
          refine lv_imul hx hb dX11_isMasked_78 ?_
          refine lv_topi (fun v288 ev288 => ?_)
          have hv288 := i_mul (show (2 : Int32).toInt = 2 by decide) (Eq.refl p1.toInt) ev288 (by omega) (by omega)
          refine lv_iadd hx hb dX11_isMasked_79 ?_
          refine lv_topi (fun v289 ev289 => ?_)
          have hv289 := i_add (show (7517 : Int32).toInt = 7517 by decide) (Eq.refl v288.toInt) ev289 (by omega) (by omega)
          refine lv_iconst (v := 1) hx hb dX11_isMasked_80 (by decide) ?_
          refine lv_iadd hx hb dX11_isMasked_81 ?_
          refine lv_topi (fun v290 ev290 => ?_)
          have hv290 := i_add (Eq.refl v289.toInt) (show (1 : Int32).toInt = 1 by decide) ev290 (by omega) (by omega)
          refine va_iald hx hb hKN.1 hP 1 0 rfl rfl (vp_in_iff.mpr ⟨by omega, by omega⟩) dX11_isMasked_82 ?_
          refine lv_topi (fun v291 ev291 => ?_)
          have ev291 : v291 = (F 0) v290.toNatClampNeg := ev291
          refine lv_isub hx hb dX11_isMasked_83 ?_
          refine lv_topi (fun v292 ev292 => ?_)
          have j293 := rgI v292
          refine lv_icmp_ge (tgt := 91) hx hb dX11_isMasked_84 (by decide) (fun c294 => ?_) (fun c294 => ?_)
          · skip
            have c294 := i_le (Eq.refl v292.toInt) (Eq.refl u283.toInt) c294
            refine lv_iconst (v := 0) hx hb dX11_isMasked_91 (by decide) ?_
            have zi0 : (0 : Int32).toInt = 0 := by decide
            refine W.widen (k := 0) (n := 0) (Nat.le_of_ble_eq_true rfl) (Nat.le_of_ble_eq_true rfl) ?_
            exact jn273 (0) H locs ls ⟨hP, hD, hS, lv_sub hl [0, 1, 2, 3, 4, 5] rfl, by omega⟩
          · skip
            have c294 := i_nle (Eq.refl v292.toInt) (Eq.refl u283.toInt) c294
            refine lv_iconst (v := 1) hx hb dX11_isMasked_87 (by decide) ?_
            refine lv_goto (tgt := 92) hx hb dX11_isMasked_88 (by decide) ?_
            refine W.widen (k := 0) (n := 0) (Nat.le_of_ble_eq_true rfl) (Nat.le_of_ble_eq_true rfl) ?_
            exact jn273 (1) H locs ls ⟨hP, hD, hS, lv_sub hl [0, 1, 2, 3, 4, 5] rfl, by omega⟩
set_option maxHeartbeats 4000000 in
set_option maxRecDepth 100000 in
theorem m_seenAt (l : Launch) (D : va_G) (Y : Nat → ClassId) (Z : Nat → Nat) (sz : Nat) (o : Nat) (a : Nat → Nat) (I : Nat → Int32) (J : Nat → Int64) (F : Nat → Nat → Int32) (G : Nat → Nat → Int64) (p1 : Int32) (p2 : Int32) (p3 : Int32) (hk_0 : (0 ≤ p1.toInt ∧ p1.toInt ≤ 11)) (hk_1 : (0 ≤ p2.toInt ∧ p2.toInt ≤ 599)) (hk_2 : (0 ≤ p3.toInt ∧ p3.toInt ≤ 5)) (hk0 : TO (F 0)) : Met l yX11_seenAt (.code yX11_seenAt cX11_seenAt 6 (some .int) :: GW) ({ frames := 2, cells := 0, slots := 0, locals := 52 }) (va_Pc [.ref o, .int p1, .int p2, .int p3] (CP D Y Z (MW Y o a I J F G) sz)) (QG (S := Int32) (fun u => some (.int u)) (fun u => (-100000 ≤ u.toInt ∧ u.toInt ≤ 100000)) (fun u => CB D (MW Y o a I J F G) (va_A (MW Y o a I J F G) sz)) (va_A (MW Y o a I J F G) sz)) 0 0 (va_A (MW Y o a I J F G) sz) := by
  refine Met.ofW (cc := cX11_seenAt) (maxL := 6) (ret := (some .int)) (by decide) rfl ?_
  intro p e s m args below meth c s₁ B hml hv
  obtain ⟨rfl, hsz, hP, hKN, hD0⟩ := hv
  have hx := B.exec
  have hb := B.bytes
  have hr := B.returns
  have hts := atoms_spec (ws := .code yX11_seenAt cX11_seenAt 6 (some .int) :: GW) B.pre
  have hg : ∀ w ∈ GW, w.before _ s = true := fun w h => hts w (List.mem_cons_of_mem _ h)
  have hown : s.vm.findClass RX11 = some m.cls := findClass_of_methodNamed B.named
  have hlocks := B.notSynchronized
  subst hsz
  have hD := hD0.self (sz := s.heap.size)
  generalize hAe : va_A (MW Y o a I J F G) s.heap.size = A at hD ⊢
  have hA : ∀ q : Nat, s.heap.size ≤ q → A q := fun q h => by rw [← hAe]; exact Or.inr h
  clear hAe hD0 hts B
  have hl := lv_entry ([.ref o, .int p1, .int p2, .int p3]) (n := 6) (Nat.le_of_ble_eq_true rfl)
  rw [lg_entry_eq]
  generalize (lg_sl ([.ref o, .int p1, .int p2, .int p3]) ++ List.replicate (6 - (lg_sl ([.ref o, .int p1, .int p2, .int p3])).length) Slot.unset).toArray = ls at hl ⊢
  have hl : lv_has ls 6 [(0, .ref o), (1, .int p1), (2, .int p2), (3, .int p3)] := hl
  refine w_start (A0 := A) hP (fun H locs hP hS => ?_)
  refine lv_iload_n hx hb dX11_seenAt_0 rfl (lv_at hl 3 rfl) ?_
  refine lv_iconst (v := 2) hx hb dX11_seenAt_1 (by decide) ?_
  refine w_join (σ := Int32 × Int32 × Int32 × Int32) (pcJ := 60) (kJ := 0) (nJ := 0) (stk := fun xx => match xx with | (g17, g18, g19, g20) => [.int g20]) (fun xx H locs ls => match xx with | (g17, g18, g19, g20) => va_P D vwCl (MW Y o a I J F G) H ∧ va_D A (MW Y o a I J F G) ∧ va_S A s.heap H locs ∧ lv_has ls 6 [(0, .ref o), (1, .int g17), (2, .int g18), (3, .int g19)] ∧ (0 ≤ g17.toInt ∧ g17.toInt ≤ 11) ∧ (0 ≤ g18.toInt ∧ g18.toInt ≤ 599) ∧ (0 ≤ g19.toInt ∧ g19.toInt ≤ 5) ∧ (0 ≤ g20.toInt ∧ g20.toInt ≤ 599)) (fun xx H locs ls hI => ?_) (fun jn21 => ?_)
  · skip
    obtain ⟨g17, g18, g19, g20⟩ := xx
    obtain ⟨hP, hD, hS, hl, hq22, hq23, hq24, hq25⟩ := hI
    refine W.eq (g2 := F0 m 60 ls [.int g20]) rfl ?_
    refine lv_istore (lv' := [(4, .int g20), (0, .ref o), (1, .int g17), (2, .int g18), (3, .int g19)]) hx hb dX11_seenAt_60 hl (by decide) rfl (fun ls hl => ?_)
    refine lv_aload_n hx hb dX11_seenAt_62 rfl (lv_at hl 1 rfl) ?_
    refine lv_iload_n hx hb dX11_seenAt_63 rfl (lv_at hl 2 rfl) ?_
    refine lv_iload hx hb dX11_seenAt_64 (lv_at hl 0 rfl) ?_
    refine cga (rn_V (As := [.int g17, .int g20]) (rest := []) (b := o) (m_rowAt l D Y Z H.size o a I J F G  g17 g20 (show (0 ≤ g17.toInt ∧ g17.toInt ≤ 11) by omega) (show (0 ≤ g20.toInt ∧ g20.toInt ≤ 599) by omega) hk0) ⟨hx, hb, hml, hown, hg⟩ lk_X11_130 ⟨CP.blind, va_recv hKN.1 hP (ci := 11) (q0 := 0) rfl rfl, CP.at hP hKN hD⟩ ⟨⟨rfl, rfl⟩, ⟨Nat.le_of_ble_eq_true rfl, Nat.le_of_ble_eq_true rfl⟩, ⟨Nat.le_of_ble_eq_true rfl, Nat.le_of_ble_eq_true rfl⟩⟩ hl.1 rfl (Nat.le_of_ble_eq_true rfl) dX11_seenAt_66) hP hD hS hA (fun u26 H locs w27 hP hD hS => ?_)
    have w27 : (-100000 ≤ u26.toInt ∧ u26.toInt ≤ 100000) := w27
    have hw29 := w27
    refine W.eq (g2 := F0 m 69 ls [.int u26]) rfl ?_
    have hP : va_P D vwCl (MW Y o a I J F G) H := hP
    have hD : va_D A (MW Y o a I J F G) := hD
    refine lv_istore (lv' := [(5, .int u26), (4, .int g20), (0, .ref o), (1, .int g17), (2, .int g18), (3, .int g19)]) hx hb dX11_seenAt_69 hl (by decide) rfl (fun ls hl => ?_)
    refine lv_iload hx hb dX11_seenAt_71 (lv_at hl 0 rfl) ?_
    refine lv_ldc (v := (-100000)) hx hb hown (hg _ kw_1367) dX11_seenAt_73 ?_
    refine lv_icmp_eq (tgt := 92) hx hb dX11_seenAt_75 (by decide) (fun c30 => ?_) (fun c30 => ?_)
    · skip
      have c30 := i_eq (Eq.refl u26.toInt) (show ((-100000) : Int32).toInt = -100000 by decide) c30
      refine lv_iload hx hb dX11_seenAt_92 (lv_at hl 0 rfl) ?_
      refine W.widen (k := 0) (n := 0) (Nat.le_of_ble_eq_true rfl) (Nat.le_of_ble_eq_true rfl) ?_
      exact W.iret (v := u26) hx hb hr (fun t ht hW => ⟨⟨u26, rfl, ((show (-100000 ≤ u26.toInt ∧ u26.toInt ≤ 100000) by omega)), CB.mk ht hP hD⟩, hS.F ht⟩) hS.2.2 dX11_seenAt_94
    · skip
      have c30 := i_ne (Eq.refl u26.toInt) (show ((-100000) : Int32).toInt = -100000 by decide) c30
      refine lv_iload_n hx hb dX11_seenAt_78 rfl (lv_at hl 5 rfl) ?_
      refine lv_if_eq (tgt := 92) hx hb dX11_seenAt_79 (by decide) (fun c31 => ?_) (fun c31 => ?_)
      · skip
        have c31 := i_eq (Eq.refl g19.toInt) (show (0 : Int32).toInt = 0 by decide) c31
        refine lv_iload hx hb dX11_seenAt_92 (lv_at hl 0 rfl) ?_
        refine W.widen (k := 0) (n := 0) (Nat.le_of_ble_eq_true rfl) (Nat.le_of_ble_eq_true rfl) ?_
        exact W.iret (v := u26) hx hb hr (fun t ht hW => ⟨⟨u26, rfl, ((show (-100000 ≤ u26.toInt ∧ u26.toInt ≤ 100000) by omega)), CB.mk ht hP hD⟩, hS.F ht⟩) hS.2.2 dX11_seenAt_94
      · skip
        have c31 := i_ne (Eq.refl g19.toInt) (show (0 : Int32).toInt = 0 by decide) c31
        refine lv_iload_n hx hb dX11_seenAt_82 rfl (lv_at hl 5 rfl) ?_
        refine lv_iconst (v := 2) hx hb dX11_seenAt_83 (by decide) ?_
        refine lv_icmp_eq (tgt := 92) hx hb dX11_seenAt_84 (by decide) (fun c32 => ?_) (fun c32 => ?_)
        · skip
          have c32 := i_eq (Eq.refl g19.toInt) (show (2 : Int32).toInt = 2 by decide) c32
          refine lv_iload hx hb dX11_seenAt_92 (lv_at hl 0 rfl) ?_
          refine W.widen (k := 0) (n := 0) (Nat.le_of_ble_eq_true rfl) (Nat.le_of_ble_eq_true rfl) ?_
          exact W.iret (v := u26) hx hb hr (fun t ht hW => ⟨⟨u26, rfl, ((show (-100000 ≤ u26.toInt ∧ u26.toInt ≤ 100000) by omega)), CB.mk ht hP hD⟩, hS.F ht⟩) hS.2.2 dX11_seenAt_94
        · skip
          have c32 := i_ne (Eq.refl g19.toInt) (show (2 : Int32).toInt = 2 by decide) c32
          refine lv_iload_n hx hb dX11_seenAt_87 rfl (lv_at hl 5 rfl) ?_
          refine lv_iconst (v := 5) hx hb dX11_seenAt_88 (by decide) ?_
          refine lv_icmp_ne (tgt := 95) hx hb dX11_seenAt_89 (by decide) (fun c33 => ?_) (fun c33 => ?_)
          · skip
            have c33 := i_ne (Eq.refl g19.toInt) (show (5 : Int32).toInt = 5 by decide) c33
            refine lv_iload_n hx hb dX11_seenAt_95 rfl (lv_at hl 5 rfl) ?_
            refine lv_iconst (v := 1) hx hb dX11_seenAt_96 (by decide) ?_
            refine lv_icmp_ne (tgt := 104) hx hb dX11_seenAt_97 (by decide) (fun c34 => ?_) (fun c34 => ?_)
            · skip
              have c34 := i_ne (Eq.refl g19.toInt) (show (1 : Int32).toInt = 1 by decide) c34
              refine lv_iload_n hx hb dX11_seenAt_104 rfl (lv_at hl 5 rfl) ?_
              refine lv_iconst (v := 4) hx hb dX11_seenAt_105 (by decide) ?_
              refine lv_icmp_ne (tgt := 131) hx hb dX11_seenAt_106 (by decide) (fun c35 => ?_) (fun c35 => ?_)
              · skip
                have c35 := i_ne (Eq.refl g19.toInt) (show (4 : Int32).toInt = 4 by decide) c35
                refine lv_iload hx hb dX11_seenAt_131 (lv_at hl 0 rfl) ?_
                have j36 := Int32.toInt_toInt64 u26
                refine lv_i2l (v := u26.toInt64) hx hb dX11_seenAt_133 (rfl) ?_
                refine lv_aload_n hx hb dX11_seenAt_134 rfl (lv_at hl 2 rfl) ?_
                refine lv_iload_n hx hb dX11_seenAt_135 rfl (lv_at hl 3 rfl) ?_
                refine lv_iload_n hx hb dX11_seenAt_136 rfl (lv_at hl 4 rfl) ?_
                refine lv_aload_n hx hb dX11_seenAt_137 rfl (lv_at hl 2 rfl) ?_
                refine va_get (D := D) (ci := 11) (v := .ref (a 0)) (C := RX11) (T := TX11) (N := 49) hx hb hg inGX11 hown hKN.1 hP 0 rfl rfl 0 (by decide) (hg _ kw_1208) (fun _ h9 => h9) rfl dX11_seenAt_138 ?_
                refine lv_sipush (v := 7515) hx hb dX11_seenAt_141 (by decide) ?_
                refine va_iald hx hb hKN.1 hP 1 0 rfl rfl (show ¬ ((7515 : Int32) < 0 ∨ 7533 ≤ (7515 : Int32).toNatClampNeg) by decide) dX11_seenAt_144 ?_
                refine lv_topi (fun v37 ev37 => ?_)
                have ev37 : v37 = (F 0) 7515 := ev37
                have kv37 := TO_7515 hk0
                rw [← ev37] at kv37
                have qv37 := congrArg Int32.toInt ev37
                refine lv_isub hx hb dX11_seenAt_145 ?_
                refine lv_topi (fun v38 ev38 => ?_)
                have hv38 := i_sub (Eq.refl g18.toInt) (Eq.refl v37.toInt) ev38 (by omega) (by omega)
                refine lv_iload_n hx hb dX11_seenAt_146 rfl (lv_at hl 4 rfl) ?_
                refine lv_aload_n hx hb dX11_seenAt_147 rfl (lv_at hl 2 rfl) ?_
                refine va_get (D := D) (ci := 11) (v := .ref (a 0)) (C := RX11) (T := TX11) (N := 49) hx hb hg inGX11 hown hKN.1 hP 0 rfl rfl 0 (by decide) (hg _ kw_1208) (fun _ h9 => h9) rfl dX11_seenAt_148 ?_
                refine lv_sipush (v := 7515) hx hb dX11_seenAt_151 (by decide) ?_
                refine va_iald hx hb hKN.1 hP 1 0 rfl rfl (show ¬ ((7515 : Int32) < 0 ∨ 7533 ≤ (7515 : Int32).toNatClampNeg) by decide) dX11_seenAt_154 ?_
                refine lv_topi (fun v39 ev39 => ?_)
                have ev39 : v39 = (F 0) 7515 := ev39
                have kv39 := TO_7515 hk0
                rw [← ev39] at kv39
                have qv39 := congrArg Int32.toInt ev39
                refine lv_iadd hx hb dX11_seenAt_155 ?_
                refine lv_topi (fun v40 ev40 => ?_)
                have hv40 := i_add (Eq.refl g18.toInt) (Eq.refl v39.toInt) ev40 (by omega) (by omega)
                refine cga (rn_V (As := [.int g17, .int v38, .int v40]) (rest := [.long u26.toInt64]) (b := o) (m_meanOf l D Y Z H.size o a I J F G  g17 v38 v40 (show (0 ≤ g17.toInt ∧ g17.toInt ≤ 11) by omega) hk0) ⟨hx, hb, hml, hown, hg⟩ lk_X11_144 ⟨CP.blind, va_recv hKN.1 hP (ci := 11) (q0 := 0) rfl rfl, CP.at hP hKN hD⟩ ⟨⟨rfl, rfl⟩, ⟨Nat.le_of_ble_eq_true rfl, Nat.le_of_ble_eq_true rfl⟩, ⟨Nat.le_of_ble_eq_true rfl, Nat.le_of_ble_eq_true rfl⟩⟩ hl.1 rfl (Nat.le_of_ble_eq_true rfl) dX11_seenAt_156) hP hD hS hA (fun u41 H locs w42 hP hD hS => ?_)
                have w42 : (0 = 0) := w42
                have hw44 := w42
                refine W.eq (g2 := F0 m 159 ls [.int u41, .long u26.toInt64]) rfl ?_
                have hP : va_P D vwCl (MW Y o a I J F G) H := hP
                have hD : va_D A (MW Y o a I J F G) := hD
                have j45 := rgI u41
                have j46 := Int32.toInt_toInt64 u41
                refine lv_i2l (v := u41.toInt64) hx hb dX11_seenAt_159 (rfl) ?_
                refine lv_lsub hx hb dX11_seenAt_160 ?_
                refine lv_topl (fun v47 ev47 => ?_)
                have hv47 := l_sub (Int32.toInt_toInt64 u26) (Int32.toInt_toInt64 u41) ev47 (by omega) (by omega)
                refine lv_ldc2 (v := (-30000)) hx hb hown (hg _ kw_1379) dX11_seenAt_161 ?_
                refine lv_ldc2 (v := 30000) hx hb hown (hg _ kw_1380) dX11_seenAt_164 ?_
                have zlm30000 : ((-30000) : Int64).toInt = -30000 := by decide
                have zl30000 : (30000 : Int64).toInt = 30000 := by decide
                refine cg0 (rn_S (As := [.long v47, .long (-30000), .long 30000]) (rest := []) (m_heldB l D Y Z H.size   v47 (-30000) 30000 (show (-1000000000000000 ≤ v47.toInt ∧ v47.toInt ≤ 1000000000000000) by omega) (show (-100000 ≤ ((-30000) : Int64).toInt ∧ ((-30000) : Int64).toInt ≤ 100000) by omega) (show (-100000 ≤ (30000 : Int64).toInt ∧ (30000 : Int64).toInt ≤ 100000) by omega) (show (((-30000) : Int64).toInt ≤ (30000 : Int64).toInt) by omega)) ⟨hx, hb, hml, hown, hg⟩ lk_X11_148 ⟨CP.blind, CP.at nilP hKN (nilD (A := fun _ => True))⟩ ⟨⟨rfl, rfl⟩, ⟨Nat.le_of_ble_eq_true rfl, Nat.le_of_ble_eq_true rfl⟩, ⟨Nat.le_of_ble_eq_true rfl, Nat.le_of_ble_eq_true rfl⟩⟩ hl.1 rfl (Nat.le_of_ble_eq_true rfl) dX11_seenAt_167) hP hS hA (fun u48 H locs w49 hP hS => ?_)
                have w49 : (((-30000) : Int64).toInt ≤ u48.toInt ∧ u48.toInt ≤ (30000 : Int64).toInt) ∧ (-100000 ≤ u48.toInt ∧ u48.toInt ≤ 100000) := w49
                obtain ⟨hw51, hw52⟩ := w49
                refine W.eq (g2 := F0 m 170 ls [.long u48]) rfl ?_
                refine lv_l2i (v := u48.toInt32) hx hb dX11_seenAt_170 rfl ?_
                refine lv_topi (fun v53 ev53 => ?_)
                have hv53 := l_i (Eq.refl u48.toInt) ev53 (by omega) (by omega)
                refine W.widen (k := 0) (n := 0) (Nat.le_of_ble_eq_true rfl) (Nat.le_of_ble_eq_true rfl) ?_
                exact W.iret (v := v53) hx hb hr (fun t ht hW => ⟨⟨v53, rfl, ((show (-100000 ≤ v53.toInt ∧ v53.toInt ≤ 100000) by omega)), CB.mk ht hP hD⟩, hS.F ht⟩) hS.2.2 dX11_seenAt_171
              · skip
                have c35 := i_eq (Eq.refl g19.toInt) (show (4 : Int32).toInt = 4 by decide) c35
                refine lv_aload_n hx hb dX11_seenAt_109 rfl (lv_at hl 2 rfl) ?_
                refine lv_aload_n hx hb dX11_seenAt_110 rfl (lv_at hl 2 rfl) ?_
                refine lv_iload_n hx hb dX11_seenAt_111 rfl (lv_at hl 3 rfl) ?_
                refine lv_iconst (v := 1) hx hb dX11_seenAt_112 (by decide) ?_
                have zi1 : (1 : Int32).toInt = 1 := by decide
                refine cga (rn_V (As := [.int g17, .int 1]) (rest := [.ref o]) (b := o) (m_starOf1 l D Y Z H.size o a I J F G  g17 (show (0 ≤ g17.toInt ∧ g17.toInt ≤ 11) by omega) hk0) ⟨hx, hb, hml, hown, hg⟩ lk_X11_120 ⟨CP.blind, va_recv hKN.1 hP (ci := 11) (q0 := 0) rfl rfl, CP.at hP hKN hD⟩ ⟨⟨rfl, rfl⟩, ⟨Nat.le_of_ble_eq_true rfl, Nat.le_of_ble_eq_true rfl⟩, ⟨Nat.le_of_ble_eq_true rfl, Nat.le_of_ble_eq_true rfl⟩⟩ hl.1 rfl (Nat.le_of_ble_eq_true rfl) dX11_seenAt_113) hP hD hS hA (fun u54 H locs w55 hP hD hS => ?_)
                have w55 : (0 ≤ u54.toInt ∧ u54.toInt ≤ 7) := w55
                have hw57 := w55
                refine W.eq (g2 := F0 m 116 ls [.int u54, .ref o]) rfl ?_
                have hP : va_P D vwCl (MW Y o a I J F G) H := hP
                have hD : va_D A (MW Y o a I J F G) := hD
                refine lv_iload_n hx hb dX11_seenAt_116 rfl (lv_at hl 4 rfl) ?_
                refine cga (rn_V (As := [.int u54, .int g18]) (rest := []) (b := o) (m_isMasked l D Y Z H.size o a I J F G  u54 g18 (show (0 ≤ u54.toInt ∧ u54.toInt ≤ 7) by omega) (show (0 ≤ g18.toInt ∧ g18.toInt ≤ 599) by omega) hk0) ⟨hx, hb, hml, hown, hg⟩ lk_X11_140 ⟨CP.blind, va_recv hKN.1 hP (ci := 11) (q0 := 0) rfl rfl, CP.at hP hKN hD⟩ ⟨⟨rfl, rfl⟩, ⟨Nat.le_of_ble_eq_true rfl, Nat.le_of_ble_eq_true rfl⟩, ⟨Nat.le_of_ble_eq_true rfl, Nat.le_of_ble_eq_true rfl⟩⟩ hl.1 rfl (Nat.le_of_ble_eq_true rfl) dX11_seenAt_117) hP hD hS hA (fun u58 H locs w59 hP hD hS => ?_)
                have w59 : (0 ≤ u58.toInt ∧ u58.toInt ≤ 1) := w59
                have hw61 := w59
                refine W.eq (g2 := F0 m 120 ls [.int u58]) rfl ?_
                have hP : va_P D vwCl (MW Y o a I J F G) H := hP
                have hD : va_D A (MW Y o a I J F G) := hD
                rcases (show u58.toInt = 1 ∨ u58.toInt = 0 by omega) with c62 | c62
                · obtain rfl : u58 = 1 := i_is c62 (by decide)
                  refine W.eq (g2 := F0 m 120 ls [.int 1]) rfl ?_
                  refine lv_if_eq (tgt := 128) hx hb dX11_seenAt_120 (by decide) (fun c64 => ?_) (fun c64 => ?_)
                  · exact absurd c64 (by decide)
                  refine lv_ldc (v := (-100000)) hx hb hown (hg _ kw_1367) dX11_seenAt_123 ?_
                  refine lv_goto (tgt := 130) hx hb dX11_seenAt_125 (by decide) ?_
                  refine W.widen (k := 0) (n := 0) (Nat.le_of_ble_eq_true rfl) (Nat.le_of_ble_eq_true rfl) ?_
                  have zim100000 : ((-100000) : Int32).toInt = -100000 := by decide
                  exact W.iret (v := (-100000)) hx hb hr (fun t ht hW => ⟨⟨(-100000), rfl, ((show (-100000 ≤ ((-100000) : Int32).toInt ∧ ((-100000) : Int32).toInt ≤ 100000) by omega)), CB.mk ht hP hD⟩, hS.F ht⟩) hS.2.2 dX11_seenAt_130
                · obtain rfl : u58 = 0 := i_is c62 (by decide)
                  have zi0 : (0 : Int32).toInt = 0 := by decide
                  refine W.eq (g2 := F0 m 120 ls [.int 0]) rfl ?_
                  refine lv_if_eq (tgt := 128) hx hb dX11_seenAt_120 (by decide) (fun c66 => ?_) (fun c66 => ?_)
                  rotate_left
                  · exact absurd c66 (by decide)
                  refine lv_iload hx hb dX11_seenAt_128 (lv_at hl 0 rfl) ?_
                  refine W.widen (k := 0) (n := 0) (Nat.le_of_ble_eq_true rfl) (Nat.le_of_ble_eq_true rfl) ?_
                  exact W.iret (v := u26) hx hb hr (fun t ht hW => ⟨⟨u26, rfl, ((show (-100000 ≤ u26.toInt ∧ u26.toInt ≤ 100000) by omega)), CB.mk ht hP hD⟩, hS.F ht⟩) hS.2.2 dX11_seenAt_130
            · skip
              have c34 := i_eq (Eq.refl g19.toInt) (show (1 : Int32).toInt = 1 by decide) c34
              refine lv_iload hx hb dX11_seenAt_100 (lv_at hl 0 rfl) ?_
              refine lv_ineg hx hb dX11_seenAt_102 ?_
              refine lv_topi (fun v67 ev67 => ?_)
              have hv67 := i_neg (Eq.refl u26.toInt) ev67 (by omega) (by omega)
              refine W.widen (k := 0) (n := 0) (Nat.le_of_ble_eq_true rfl) (Nat.le_of_ble_eq_true rfl) ?_
              exact W.iret (v := v67) hx hb hr (fun t ht hW => ⟨⟨v67, rfl, ((show (-100000 ≤ v67.toInt ∧ v67.toInt ≤ 100000) by omega)), CB.mk ht hP hD⟩, hS.F ht⟩) hS.2.2 dX11_seenAt_103
          · skip
            have c33 := i_eq (Eq.refl g19.toInt) (show (5 : Int32).toInt = 5 by decide) c33
            refine lv_iload hx hb dX11_seenAt_92 (lv_at hl 0 rfl) ?_
            refine W.widen (k := 0) (n := 0) (Nat.le_of_ble_eq_true rfl) (Nat.le_of_ble_eq_true rfl) ?_
            exact W.iret (v := u26) hx hb hr (fun t ht hW => ⟨⟨u26, rfl, ((show (-100000 ≤ u26.toInt ∧ u26.toInt ≤ 100000) by omega)), CB.mk ht hP hD⟩, hS.F ht⟩) hS.2.2 dX11_seenAt_94
  · skip
    refine lv_icmp_ne (tgt := 25) hx hb dX11_seenAt_2 (by decide) (fun c68 => ?_) (fun c68 => ?_)
    · skip
      have c68 := i_ne (Eq.refl p3.toInt) (show (2 : Int32).toInt = 2 by decide) c68
      refine lv_iload_n hx hb dX11_seenAt_25 rfl (lv_at hl 3 rfl) ?_
      refine lv_iconst (v := 5) hx hb dX11_seenAt_26 (by decide) ?_
      refine lv_icmp_ne (tgt := 59) hx hb dX11_seenAt_27 (by decide) (fun c69 => ?_) (fun c69 => ?_)
      · skip
        have c69 := i_ne (Eq.refl p3.toInt) (show (5 : Int32).toInt = 5 by decide) c69
        refine lv_iload_n hx hb dX11_seenAt_59 rfl (lv_at hl 2 rfl) ?_
        refine W.widen (k := 0) (n := 0) (Nat.le_of_ble_eq_true rfl) (Nat.le_of_ble_eq_true rfl) ?_
        exact jn21 (p1, p2, p3, p2) H locs ls ⟨hP, hD, hS, lv_sub hl [0, 1, 2, 3] rfl, by omega, by omega, by omega, by omega⟩
      · skip
        have c69 := i_eq (Eq.refl p3.toInt) (show (5 : Int32).toInt = 5 by decide) c69
        refine lv_aload_n hx hb dX11_seenAt_30 rfl (lv_at hl 0 rfl) ?_
        refine va_get (D := D) (ci := 11) (v := .ref (a 0)) (C := RX11) (T := TX11) (N := 49) hx hb hg inGX11 hown hKN.1 hP 0 rfl rfl 0 (by decide) (hg _ kw_1208) (fun _ h9 => h9) rfl dX11_seenAt_31 ?_
        refine lv_sipush (v := 7516) hx hb dX11_seenAt_34 (by decide) ?_
        refine va_iald hx hb hKN.1 hP 1 0 rfl rfl (show ¬ ((7516 : Int32) < 0 ∨ 7533 ≤ (7516 : Int32).toNatClampNeg) by decide) dX11_seenAt_37 ?_
        refine lv_topi (fun v70 ev70 => ?_)
        have ev70 : v70 = (F 0) 7516 := ev70
        have kv70 := TO_7516 hk0
        rw [← ev70] at kv70
        have qv70 := congrArg Int32.toInt ev70
        refine lv_iload_n hx hb dX11_seenAt_38 rfl (lv_at hl 2 rfl) ?_
        refine lv_sipush (v := 150) hx hb dX11_seenAt_39 (by decide) ?_
        have zi150 : (150 : Int32).toInt = 150 := by decide
        refine lv_idiv hx hb dX11_seenAt_42 (i_nz (show (150 : Int32).toInt = 150 by decide) (by omega)) ?_
        refine lv_topi (fun v71 ev71 => ?_)
        have hv71 := i_div (Eq.refl p2.toInt) (show (150 : Int32).toInt = 150 by decide) ev71 (by omega) (by omega)
        refine cg0 (rn_S (As := [.int v70, .int v71]) (rest := []) (m_seasonAt l D Y Z H.size   v70 v71 (show (0 ≤ v70.toInt ∧ v70.toInt ≤ 23) by omega) (show (0 ≤ v71.toInt ∧ v71.toInt ≤ 3) by omega)) ⟨hx, hb, hml, hown, hg⟩ lk_X11_137 ⟨CP.blind, CP.at nilP hKN (nilD (A := fun _ => True))⟩ ⟨⟨rfl, rfl⟩, ⟨Nat.le_of_ble_eq_true rfl, Nat.le_of_ble_eq_true rfl⟩, ⟨Nat.le_of_ble_eq_true rfl, Nat.le_of_ble_eq_true rfl⟩⟩ hl.1 rfl (Nat.le_of_ble_eq_true rfl) dX11_seenAt_43) hP hS hA (fun u72 H locs w73 hP hS => ?_)
        have w73 : (0 ≤ u72.toInt ∧ u72.toInt ≤ 3) := w73
        have hw75 := w73
        refine W.eq (g2 := F0 m 46 ls [.int u72]) rfl ?_
        refine lv_sipush (v := 150) hx hb dX11_seenAt_46 (by decide) ?_
        refine lv_imul hx hb dX11_seenAt_49 ?_
        refine lv_topi (fun v76 ev76 => ?_)
        have hv76 := i_mul (Eq.refl u72.toInt) (show (150 : Int32).toInt = 150 by decide) ev76 (by omega) (by omega)
        refine lv_iload_n hx hb dX11_seenAt_50 rfl (lv_at hl 2 rfl) ?_
        refine lv_sipush (v := 150) hx hb dX11_seenAt_51 (by decide) ?_
        refine lv_irem hx hb dX11_seenAt_54 (i_nz (show (150 : Int32).toInt = 150 by decide) (by omega)) ?_
        refine lv_topi (fun v77 ev77 => ?_)
        have hv77 := i_rem (Eq.refl p2.toInt) (show (150 : Int32).toInt = 150 by decide) ev77 (by omega) (by omega)
        refine lv_iadd hx hb dX11_seenAt_55 ?_
        refine lv_topi (fun v78 ev78 => ?_)
        have hv78 := i_add (Eq.refl v76.toInt) (Eq.refl v77.toInt) ev78 (by omega) (by omega)
        refine lv_goto (tgt := 60) hx hb dX11_seenAt_56 (by decide) ?_
        refine W.widen (k := 0) (n := 0) (Nat.le_of_ble_eq_true rfl) (Nat.le_of_ble_eq_true rfl) ?_
        exact jn21 (p1, p2, p3, v78) H locs ls ⟨hP, hD, hS, lv_sub hl [0, 1, 2, 3] rfl, by omega, by omega, by omega, by omega⟩
    · skip
      have c68 := i_eq (Eq.refl p3.toInt) (show (2 : Int32).toInt = 2 by decide) c68
      refine lv_iconst (v := 3) hx hb dX11_seenAt_5 (by decide) ?_
      refine lv_iload_n hx hb dX11_seenAt_6 rfl (lv_at hl 2 rfl) ?_
      refine lv_sipush (v := 150) hx hb dX11_seenAt_7 (by decide) ?_
      have zi150 : (150 : Int32).toInt = 150 := by decide
      refine lv_idiv hx hb dX11_seenAt_10 (i_nz (show (150 : Int32).toInt = 150 by decide) (by omega)) ?_
      refine lv_topi (fun v79 ev79 => ?_)
      have hv79 := i_div (Eq.refl p2.toInt) (show (150 : Int32).toInt = 150 by decide) ev79 (by omega) (by omega)
      refine lv_isub hx hb dX11_seenAt_11 ?_
      refine lv_topi (fun v80 ev80 => ?_)
      have hv80 := i_sub (show (3 : Int32).toInt = 3 by decide) (Eq.refl v79.toInt) ev80 (by omega) (by omega)
      refine lv_sipush (v := 150) hx hb dX11_seenAt_12 (by decide) ?_
      refine lv_imul hx hb dX11_seenAt_15 ?_
      refine lv_topi (fun v81 ev81 => ?_)
      have hv81 := i_mul (Eq.refl v80.toInt) (show (150 : Int32).toInt = 150 by decide) ev81 (by omega) (by omega)
      refine lv_iload_n hx hb dX11_seenAt_16 rfl (lv_at hl 2 rfl) ?_
      refine lv_sipush (v := 150) hx hb dX11_seenAt_17 (by decide) ?_
      refine lv_irem hx hb dX11_seenAt_20 (i_nz (show (150 : Int32).toInt = 150 by decide) (by omega)) ?_
      refine lv_topi (fun v82 ev82 => ?_)
      have hv82 := i_rem (Eq.refl p2.toInt) (show (150 : Int32).toInt = 150 by decide) ev82 (by omega) (by omega)
      refine lv_iadd hx hb dX11_seenAt_21 ?_
      refine lv_topi (fun v83 ev83 => ?_)
      have hv83 := i_add (Eq.refl v81.toInt) (Eq.refl v82.toInt) ev83 (by omega) (by omega)
      refine lv_goto (tgt := 60) hx hb dX11_seenAt_22 (by decide) ?_
      refine W.widen (k := 0) (n := 0) (Nat.le_of_ble_eq_true rfl) (Nat.le_of_ble_eq_true rfl) ?_
      exact jn21 (p1, p2, p3, v83) H locs ls ⟨hP, hD, hS, lv_sub hl [0, 1, 2, 3] rfl, by omega, by omega, by omega, by omega⟩
set_option maxHeartbeats 4000000 in
set_option maxRecDepth 100000 in
theorem m_at (l : Launch) (D : va_G) (Y : Nat → ClassId) (Z : Nat → Nat) (sz : Nat) (o : Nat) (a : Nat → Nat) (I : Nat → Int32) (J : Nat → Int64) (F : Nat → Nat → Int32) (G : Nat → Nat → Int64) (p1 : Int32) (p2 : Int32) (p3 : Int32) (hk0 : TO (F 0)) : Met l yX11_at (.code yX11_at cX11_at 4 (some .int) :: GW) ({ frames := 3, cells := 0, slots := 0, locals := 77 }) (va_Pc [.ref o, .int p1, .int p2, .int p3] (CP D Y Z (MW Y o a I J F G) sz)) (QG (S := Int32 × (Nat → Int32)) (fun u => some (.int u.1)) (fun u => True) (fun u => CB D (MW Y o a I J (vf_upd F 1 u.2) G) (va_A (MW Y o a I J F G) sz)) (va_A (MW Y o a I J F G) sz)) 0 0 (va_A (MW Y o a I J F G) sz) := by
  refine Met.ofW (cc := cX11_at) (maxL := 4) (ret := (some .int)) (by decide) rfl ?_
  intro p e s m args below meth c s₁ B hml hv
  obtain ⟨rfl, hsz, hP, hKN, hD0⟩ := hv
  have hx := B.exec
  have hb := B.bytes
  have hr := B.returns
  have hts := atoms_spec (ws := .code yX11_at cX11_at 4 (some .int) :: GW) B.pre
  have hg : ∀ w ∈ GW, w.before _ s = true := fun w h => hts w (List.mem_cons_of_mem _ h)
  have hown : s.vm.findClass RX11 = some m.cls := findClass_of_methodNamed B.named
  have hlocks := B.notSynchronized
  subst hsz
  have hD := hD0.self (sz := s.heap.size)
  generalize hAe : va_A (MW Y o a I J F G) s.heap.size = A at hD ⊢
  have hA : ∀ q : Nat, s.heap.size ≤ q → A q := fun q h => by rw [← hAe]; exact Or.inr h
  clear hAe hD0 hts B
  have hl := lv_entry ([.ref o, .int p1, .int p2, .int p3]) (n := 4) (Nat.le_of_ble_eq_true rfl)
  rw [lg_entry_eq]
  generalize (lg_sl ([.ref o, .int p1, .int p2, .int p3]) ++ List.replicate (4 - (lg_sl ([.ref o, .int p1, .int p2, .int p3])).length) Slot.unset).toArray = ls at hl ⊢
  have hl : lv_has ls 4 [(0, .ref o), (1, .int p1), (2, .int p2), (3, .int p3)] := hl
  refine w_start (A0 := A) hP (fun H locs hP hS => ?_)
  refine lv_aload_n hx hb dX11_at_0 rfl (lv_at hl 0 rfl) ?_
  refine lv_iload_n hx hb dX11_at_1 rfl (lv_at hl 1 rfl) ?_
  refine cga (rn_V (As := [.int p1]) (rest := []) (b := o) (m_isStar l D Y Z H.size o a I J F G  p1 hk0) ⟨hx, hb, hml, hown, hg⟩ lk_X11_108 ⟨CP.blind, va_recv hKN.1 hP (ci := 11) (q0 := 0) rfl rfl, CP.at hP hKN hD⟩ ⟨⟨rfl, rfl⟩, ⟨Nat.le_of_ble_eq_true rfl, Nat.le_of_ble_eq_true rfl⟩, ⟨Nat.le_of_ble_eq_true rfl, Nat.le_of_ble_eq_true rfl⟩⟩ hl.1 rfl (Nat.le_of_ble_eq_true rfl) dX11_at_2) hP hD hS hA (fun u1 H locs w2 hP hD hS => ?_)
  have w2 : ((0 ≤ p1.toInt ∧ p1.toInt ≤ 11 ∧ p1.toInt < ((F 0) 0).toInt ∧ u1.toInt = 1) ∨ (¬ (0 ≤ p1.toInt ∧ p1.toInt < ((F 0) 0).toInt) ∧ u1.toInt = 0)) ∧ (0 ≤ u1.toInt ∧ u1.toInt ≤ 1) := w2
  obtain ⟨hw4, hw5⟩ := w2
  refine W.eq (g2 := F0 m 5 ls [.int u1]) rfl ?_
  have hP : va_P D vwCl (MW Y o a I J F G) H := hP
  have hD : va_D A (MW Y o a I J F G) := hD
  rcases (show u1.toInt = 1 ∨ u1.toInt = 0 by omega) with c6 | c6
  · obtain rfl : u1 = 1 := i_is c6 (by decide)
    have zi1 : (1 : Int32).toInt = 1 := by decide
    refine W.eq (g2 := F0 m 5 ls [.int 1]) rfl ?_
    refine lv_if_eq (tgt := 27) hx hb dX11_at_5 (by decide) (fun c7 => ?_) (fun c7 => ?_)
    · exact absurd c7 (by decide)
    refine lv_iload_n hx hb dX11_at_8 rfl (lv_at hl 2 rfl) ?_
    refine cg0 (rn_S (As := [.int p2]) (rest := []) (m_isHour l D Y Z H.size   p2 ) ⟨hx, hb, hml, hown, hg⟩ lk_X11_112 ⟨CP.blind, CP.at nilP hKN (nilD (A := fun _ => True))⟩ ⟨⟨rfl, rfl⟩, ⟨Nat.le_of_ble_eq_true rfl, Nat.le_of_ble_eq_true rfl⟩, ⟨Nat.le_of_ble_eq_true rfl, Nat.le_of_ble_eq_true rfl⟩⟩ hl.1 rfl (Nat.le_of_ble_eq_true rfl) dX11_at_9) hP hS hA (fun u8 H locs w9 hP hS => ?_)
    have w9 : ((0 ≤ p2.toInt ∧ p2.toInt ≤ 599 ∧ u8.toInt = 1) ∨ (¬ (0 ≤ p2.toInt ∧ p2.toInt ≤ 599) ∧ u8.toInt = 0)) ∧ (0 ≤ u8.toInt ∧ u8.toInt ≤ 1) := w9
    obtain ⟨hw11, hw12⟩ := w9
    refine W.eq (g2 := F0 m 12 ls [.int u8]) rfl ?_
    rcases (show u8.toInt = 1 ∨ u8.toInt = 0 by omega) with c13 | c13
    · obtain rfl : u8 = 1 := i_is c13 (by decide)
      refine W.eq (g2 := F0 m 12 ls [.int 1]) rfl ?_
      refine lv_if_eq (tgt := 27) hx hb dX11_at_12 (by decide) (fun c14 => ?_) (fun c14 => ?_)
      · exact absurd c14 (by decide)
      refine lv_iload_n hx hb dX11_at_15 rfl (lv_at hl 3 rfl) ?_
      have j15 := rgI p3
      have j16 := Int32.toInt_toInt64 p3
      refine lv_i2l (v := p3.toInt64) hx hb dX11_at_16 (rfl) ?_
      refine lv_lconst (v := 0) hx hb dX11_at_17 (by decide) ?_
      refine lv_ldc2 (v := 5) hx hb hown (hg _ kw_1409) dX11_at_18 ?_
      have zl0 : (0 : Int64).toInt = 0 := by decide
      have zl5 : (5 : Int64).toInt = 5 := by decide
      refine cg0 (rn_S (As := [.long p3.toInt64, .long 0, .long 5]) (rest := []) (m_in l D Y Z H.size   p3.toInt64 0 5 ) ⟨hx, hb, hml, hown, hg⟩ lk_X11_99 ⟨CP.blind, CP.at nilP hKN (nilD (A := fun _ => True))⟩ ⟨⟨rfl, rfl⟩, ⟨Nat.le_of_ble_eq_true rfl, Nat.le_of_ble_eq_true rfl⟩, ⟨Nat.le_of_ble_eq_true rfl, Nat.le_of_ble_eq_true rfl⟩⟩ hl.1 rfl (Nat.le_of_ble_eq_true rfl) dX11_at_21) hP hS hA (fun u17 H locs w18 hP hS => ?_)
      have w18 : (((0 : Int64).toInt ≤ p3.toInt64.toInt ∧ p3.toInt64.toInt ≤ (5 : Int64).toInt ∧ u17.toInt = 1) ∨ (¬ ((0 : Int64).toInt ≤ p3.toInt64.toInt ∧ p3.toInt64.toInt ≤ (5 : Int64).toInt) ∧ u17.toInt = 0)) ∧ (0 ≤ u17.toInt ∧ u17.toInt ≤ 1) := w18
      obtain ⟨hw20, hw21⟩ := w18
      refine W.eq (g2 := F0 m 24 ls [.int u17]) rfl ?_
      rcases (show u17.toInt = 1 ∨ u17.toInt = 0 by omega) with c22 | c22
      · obtain rfl : u17 = 1 := i_is c22 (by decide)
        refine W.eq (g2 := F0 m 24 ls [.int 1]) rfl ?_
        refine lv_if_ne (tgt := 30) hx hb dX11_at_24 (by decide) (fun c23 => ?_) (fun c23 => ?_)
        rotate_left
        · exact absurd c23 (by decide)
        refine lv_aload_n hx hb dX11_at_30 rfl (lv_at hl 0 rfl) ?_
        refine cga (rn_V (As := []) (rest := []) (b := o) (m_means l D Y Z H.size o a I J F G   hk0) ⟨hx, hb, hml, hown, hg⟩ lk_X11_154 ⟨CP.blind, va_recv hKN.1 hP (ci := 11) (q0 := 0) rfl rfl, CP.at hP hKN hD⟩ ⟨⟨rfl, rfl⟩, ⟨Nat.le_of_ble_eq_true rfl, Nat.le_of_ble_eq_true rfl⟩, ⟨Nat.le_of_ble_eq_true rfl, Nat.le_of_ble_eq_true rfl⟩⟩ hl.1 rfl (Nat.le_of_ble_eq_true rfl) dX11_at_31) hP hD hS hA (fun u24 H locs w25 hP hD hS => ?_)
        refine W.eq (g2 := F0 m 34 ls []) rfl ?_
        have hP : va_P D vwCl (MW Y o a I J (vf_upd F 1 u24) G) H := hP
        have hD : va_D A (MW Y o a I J (vf_upd F 1 u24) G) := hD
        refine lv_aload_n hx hb dX11_at_34 rfl (lv_at hl 0 rfl) ?_
        refine lv_iload_n hx hb dX11_at_35 rfl (lv_at hl 1 rfl) ?_
        refine lv_iload_n hx hb dX11_at_36 rfl (lv_at hl 2 rfl) ?_
        refine lv_iload_n hx hb dX11_at_37 rfl (lv_at hl 3 rfl) ?_
        refine cga (rn_V (As := [.int p1, .int p2, .int p3]) (rest := []) (b := o) (m_seenAt l D Y Z H.size o a I J (vf_upd F 1 u24) G  p1 p2 p3 (show (0 ≤ p1.toInt ∧ p1.toInt ≤ 11) by omega) (show (0 ≤ p2.toInt ∧ p2.toInt ≤ 599) by omega) (show (0 ≤ p3.toInt ∧ p3.toInt ≤ 5) by omega) hk0) ⟨hx, hb, hml, hown, hg⟩ lk_X11_157 ⟨CP.blind, va_recv hKN.1 hP (ci := 11) (q0 := 0) rfl rfl, CP.at hP hKN hD⟩ ⟨⟨rfl, rfl⟩, ⟨Nat.le_of_ble_eq_true rfl, Nat.le_of_ble_eq_true rfl⟩, ⟨Nat.le_of_ble_eq_true rfl, Nat.le_of_ble_eq_true rfl⟩⟩ hl.1 rfl (Nat.le_of_ble_eq_true rfl) dX11_at_38) hP hD hS hA (fun u27 H locs w28 hP hD hS => ?_)
        have w28 : (-100000 ≤ u27.toInt ∧ u27.toInt ≤ 100000) := w28
        have hw30 := w28
        refine W.eq (g2 := F0 m 41 ls [.int u27]) rfl ?_
        have hP : va_P D vwCl (MW Y o a I J (vf_upd F 1 u24) G) H := hP
        have hD : va_D A (MW Y o a I J (vf_upd F 1 u24) G) := hD
        refine W.widen (k := 0) (n := 0) (Nat.le_of_ble_eq_true rfl) (Nat.le_of_ble_eq_true rfl) ?_
        exact W.iret (v := u27) hx hb hr (fun t ht hW => ⟨⟨(u27, u24), rfl, trivial, CB.mk ht hP hD⟩, hS.F ht⟩) hS.2.2 dX11_at_41
      · obtain rfl : u17 = 0 := i_is c22 (by decide)
        have zi0 : (0 : Int32).toInt = 0 := by decide
        refine W.eq (g2 := F0 m 24 ls [.int 0]) rfl ?_
        refine lv_if_ne (tgt := 30) hx hb dX11_at_24 (by decide) (fun c31 => ?_) (fun c31 => ?_)
        · exact absurd c31 (by decide)
        refine lv_ldc (v := (-200000)) hx hb hown (hg _ kw_1381) dX11_at_27 ?_
        refine W.widen (k := 0) (n := 0) (Nat.le_of_ble_eq_true rfl) (Nat.le_of_ble_eq_true rfl) ?_
        have zim200000 : ((-200000) : Int32).toInt = -200000 := by decide
        exact W.iret (v := (-200000)) hx hb hr (fun t ht hW => ⟨⟨((-200000), (F 1)), rfl, trivial, CB.mk ht hP hD⟩, hS.F ht⟩) hS.2.2 dX11_at_29
    · obtain rfl : u8 = 0 := i_is c13 (by decide)
      have zi0 : (0 : Int32).toInt = 0 := by decide
      refine W.eq (g2 := F0 m 12 ls [.int 0]) rfl ?_
      refine lv_if_eq (tgt := 27) hx hb dX11_at_12 (by decide) (fun c32 => ?_) (fun c32 => ?_)
      rotate_left
      · exact absurd c32 (by decide)
      refine lv_ldc (v := (-200000)) hx hb hown (hg _ kw_1381) dX11_at_27 ?_
      refine W.widen (k := 0) (n := 0) (Nat.le_of_ble_eq_true rfl) (Nat.le_of_ble_eq_true rfl) ?_
      have zim200000 : ((-200000) : Int32).toInt = -200000 := by decide
      exact W.iret (v := (-200000)) hx hb hr (fun t ht hW => ⟨⟨((-200000), (F 1)), rfl, trivial, CB.mk ht hP hD⟩, hS.F ht⟩) hS.2.2 dX11_at_29
  · obtain rfl : u1 = 0 := i_is c6 (by decide)
    have zi0 : (0 : Int32).toInt = 0 := by decide
    refine W.eq (g2 := F0 m 5 ls [.int 0]) rfl ?_
    refine lv_if_eq (tgt := 27) hx hb dX11_at_5 (by decide) (fun c33 => ?_) (fun c33 => ?_)
    rotate_left
    · exact absurd c33 (by decide)
    refine lv_ldc (v := (-200000)) hx hb hown (hg _ kw_1381) dX11_at_27 ?_
    refine W.widen (k := 0) (n := 0) (Nat.le_of_ble_eq_true rfl) (Nat.le_of_ble_eq_true rfl) ?_
    have zim200000 : ((-200000) : Int32).toInt = -200000 := by decide
    exact W.iret (v := (-200000)) hx hb hr (fun t ht hW => ⟨⟨((-200000), (F 1)), rfl, trivial, CB.mk ht hP hD⟩, hS.F ht⟩) hS.2.2 dX11_at_29
set_option maxHeartbeats 4000000 in
set_option maxRecDepth 100000 in
theorem m_isDip (l : Launch) (D : va_G) (Y : Nat → ClassId) (Z : Nat → Nat) (sz : Nat) (o : Nat) (a : Nat → Nat) (I : Nat → Int32) (J : Nat → Int64) (F : Nat → Nat → Int32) (G : Nat → Nat → Int64) (p1 : Int32) (p2 : Int32) (hk_0 : (0 ≤ p1.toInt ∧ p1.toInt ≤ 39)) (hk_1 : (0 ≤ p2.toInt ∧ p2.toInt ≤ 599)) (hk_2 : (p1.toInt < ((F 0) 1).toInt)) (hk0 : TO (F 0)) : Met l yX11_isDip (.code yX11_isDip cX11_isDip 4 (some .boolean) :: GW) ({ frames := 1, cells := 0, slots := 0, locals := 22 }) (va_Pc [.ref o, .int p1, .int p2] (CP D Y Z (MW Y o a I J F G) sz)) (QG (S := Int32) (fun u => some (.int u)) (fun u => (0 ≤ u.toInt ∧ u.toInt ≤ 1)) (fun u => CB D (MW Y o a I J F G) (va_A (MW Y o a I J F G) sz)) (va_A (MW Y o a I J F G) sz)) 0 0 (va_A (MW Y o a I J F G) sz) := by
  refine Met.ofW (cc := cX11_isDip) (maxL := 4) (ret := (some .boolean)) (by decide) rfl ?_
  intro p e s m args below meth c s₁ B hml hv
  obtain ⟨rfl, hsz, hP, hKN, hD0⟩ := hv
  have hx := B.exec
  have hb := B.bytes
  have hr := B.returns
  have hts := atoms_spec (ws := .code yX11_isDip cX11_isDip 4 (some .boolean) :: GW) B.pre
  have hg : ∀ w ∈ GW, w.before _ s = true := fun w h => hts w (List.mem_cons_of_mem _ h)
  have hown : s.vm.findClass RX11 = some m.cls := findClass_of_methodNamed B.named
  have hlocks := B.notSynchronized
  subst hsz
  have hD := hD0.self (sz := s.heap.size)
  generalize hAe : va_A (MW Y o a I J F G) s.heap.size = A at hD ⊢
  have hA : ∀ q : Nat, s.heap.size ≤ q → A q := fun q h => by rw [← hAe]; exact Or.inr h
  clear hAe hD0 hts B
  have hl := lv_entry ([.ref o, .int p1, .int p2]) (n := 4) (Nat.le_of_ble_eq_true rfl)
  rw [lg_entry_eq]
  generalize (lg_sl ([.ref o, .int p1, .int p2]) ++ List.replicate (4 - (lg_sl ([.ref o, .int p1, .int p2])).length) Slot.unset).toArray = ls at hl ⊢
  have hl : lv_has ls 4 [(0, .ref o), (1, .int p1), (2, .int p2)] := hl
  refine w_start (A0 := A) hP (fun H locs hP hS => ?_)
  refine lv_iload_n hx hb dX11_isDip_0 rfl (lv_at hl 2 rfl) ?_
  refine lv_aload_n hx hb dX11_isDip_1 rfl (lv_at hl 0 rfl) ?_
  refine lv_iload_n hx hb dX11_isDip_2 rfl (lv_at hl 1 rfl) ?_
  refine lv_iconst (v := 2) hx hb dX11_isDip_3 (by decide) ?_
  have zi2 : (2 : Int32).toInt = 2 := by decide
  refine cga (rn_V (As := [.int p1, .int 2]) (rest := [.int p2]) (b := o) (m_worldOf2 l D Y Z H.size o a I J F G  p1 (show (0 ≤ p1.toInt ∧ p1.toInt ≤ 39) by omega) hk0) ⟨hx, hb, hml, hown, hg⟩ lk_X11_166 ⟨CP.blind, va_recv hKN.1 hP (ci := 11) (q0 := 0) rfl rfl, CP.at hP hKN hD⟩ ⟨⟨rfl, rfl⟩, ⟨Nat.le_of_ble_eq_true rfl, Nat.le_of_ble_eq_true rfl⟩, ⟨Nat.le_of_ble_eq_true rfl, Nat.le_of_ble_eq_true rfl⟩⟩ hl.1 rfl (Nat.le_of_ble_eq_true rfl) dX11_isDip_4) hP hD hS hA (fun u1 H locs w2 hP hD hS => ?_)
  have w2 : (0 ≤ u1.toInt ∧ u1.toInt ≤ 30000) := w2
  have hw4 := w2
  refine W.eq (g2 := F0 m 7 ls [.int u1, .int p2]) rfl ?_
  have hP : va_P D vwCl (MW Y o a I J F G) H := hP
  have hD : va_D A (MW Y o a I J F G) := hD
  refine lv_isub hx hb dX11_isDip_7 ?_
  refine lv_topi (fun v5 ev5 => ?_)
  have hv5 := i_sub (Eq.refl p2.toInt) (Eq.refl u1.toInt) ev5 (by omega) (by omega)
  refine lv_istore_n (lv' := [(3, .int v5), (0, .ref o), (1, .int p1), (2, .int p2)]) hx hb dX11_isDip_8 rfl hl (by decide) rfl (fun ls hl => ?_)
  refine lv_iload_n hx hb dX11_isDip_9 rfl (lv_at hl 0 rfl) ?_
  refine lv_if_lt (tgt := 34) hx hb dX11_isDip_10 (by decide) (fun c18 => ?_) (fun c18 => ?_)
  · skip
    have c18 := i_lt (Eq.refl v5.toInt) (show (0 : Int32).toInt = 0 by decide) c18
    refine lv_iconst (v := 0) hx hb dX11_isDip_34 (by decide) ?_
    refine W.widen (k := 0) (n := 0) (Nat.le_of_ble_eq_true rfl) (Nat.le_of_ble_eq_true rfl) ?_
    have zi0 : (0 : Int32).toInt = 0 := by decide
    exact W.zret (v := 0) hx hb hr (by decide) (fun t ht hW => ⟨⟨0, rfl, ((show (0 ≤ (0 : Int32).toInt ∧ (0 : Int32).toInt ≤ 1) by omega)), CB.mk ht hP hD⟩, hS.F ht⟩) hS.2.2 dX11_isDip_35
  · skip
    have c18 := i_nlt (Eq.refl v5.toInt) (show (0 : Int32).toInt = 0 by decide) c18
    refine lv_iload_n hx hb dX11_isDip_13 rfl (lv_at hl 0 rfl) ?_
    refine lv_aload_n hx hb dX11_isDip_14 rfl (lv_at hl 1 rfl) ?_
    refine lv_iload_n hx hb dX11_isDip_15 rfl (lv_at hl 2 rfl) ?_
    refine lv_iconst (v := 1) hx hb dX11_isDip_16 (by decide) ?_
    have zi1 : (1 : Int32).toInt = 1 := by decide
    refine cga (rn_V (As := [.int p1, .int 1]) (rest := [.int v5]) (b := o) (m_worldOf1 l D Y Z H.size o a I J F G  p1 (show (0 ≤ p1.toInt ∧ p1.toInt ≤ 39) by omega) hk0) ⟨hx, hb, hml, hown, hg⟩ lk_X11_166 ⟨CP.blind, va_recv hKN.1 hP (ci := 11) (q0 := 0) rfl rfl, CP.at hP hKN hD⟩ ⟨⟨rfl, rfl⟩, ⟨Nat.le_of_ble_eq_true rfl, Nat.le_of_ble_eq_true rfl⟩, ⟨Nat.le_of_ble_eq_true rfl, Nat.le_of_ble_eq_true rfl⟩⟩ hl.1 rfl (Nat.le_of_ble_eq_true rfl) dX11_isDip_17) hP hD hS hA (fun u19 H locs w20 hP hD hS => ?_)
    have w20 : (p1.toInt < ((F 0) 1).toInt → 2 ≤ u19.toInt) := w20
    have hw22 := w20
    refine W.eq (g2 := F0 m 20 ls [.int u19, .int v5]) rfl ?_
    have hP : va_P D vwCl (MW Y o a I J F G) H := hP
    have hD : va_D A (MW Y o a I J F G) := hD
    refine lv_irem hx hb dX11_isDip_20 (i_nz (Eq.refl u19.toInt) (by omega)) ?_
    refine lv_topi (fun v23 ev23 => ?_)
    refine lv_aload_n hx hb dX11_isDip_21 rfl (lv_at hl 1 rfl) ?_
    refine lv_iload_n hx hb dX11_isDip_22 rfl (lv_at hl 2 rfl) ?_
    refine lv_iconst (v := 3) hx hb dX11_isDip_23 (by decide) ?_
    have zi3 : (3 : Int32).toInt = 3 := by decide
    refine cga (rn_V (As := [.int p1, .int 3]) (rest := [.int v23]) (b := o) (m_worldOf3 l D Y Z H.size o a I J F G  p1 (show (0 ≤ p1.toInt ∧ p1.toInt ≤ 39) by omega) hk0) ⟨hx, hb, hml, hown, hg⟩ lk_X11_166 ⟨CP.blind, va_recv hKN.1 hP (ci := 11) (q0 := 0) rfl rfl, CP.at hP hKN hD⟩ ⟨⟨rfl, rfl⟩, ⟨Nat.le_of_ble_eq_true rfl, Nat.le_of_ble_eq_true rfl⟩, ⟨Nat.le_of_ble_eq_true rfl, Nat.le_of_ble_eq_true rfl⟩⟩ hl.1 rfl (Nat.le_of_ble_eq_true rfl) dX11_isDip_24) hP hD hS hA (fun u24 H locs w25 hP hD hS => ?_)
    have w25 : (0 ≤ u24.toInt ∧ u24.toInt ≤ 30000) := w25
    have hw27 := w25
    refine W.eq (g2 := F0 m 27 ls [.int u24, .int v23]) rfl ?_
    have hP : va_P D vwCl (MW Y o a I J F G) H := hP
    have hD : va_D A (MW Y o a I J F G) := hD
    have j30 := rgI v23
    refine lv_icmp_ge (tgt := 34) hx hb dX11_isDip_27 (by decide) (fun c31 => ?_) (fun c31 => ?_)
    · skip
      have c31 := i_le (Eq.refl u24.toInt) (Eq.refl v23.toInt) c31
      refine lv_iconst (v := 0) hx hb dX11_isDip_34 (by decide) ?_
      refine W.widen (k := 0) (n := 0) (Nat.le_of_ble_eq_true rfl) (Nat.le_of_ble_eq_true rfl) ?_
      have zi0 : (0 : Int32).toInt = 0 := by decide
      exact W.zret (v := 0) hx hb hr (by decide) (fun t ht hW => ⟨⟨0, rfl, ((show (0 ≤ (0 : Int32).toInt ∧ (0 : Int32).toInt ≤ 1) by omega)), CB.mk ht hP hD⟩, hS.F ht⟩) hS.2.2 dX11_isDip_35
    · skip
      have c31 := i_nle (Eq.refl u24.toInt) (Eq.refl v23.toInt) c31
      refine lv_iconst (v := 1) hx hb dX11_isDip_30 (by decide) ?_
      refine lv_goto (tgt := 35) hx hb dX11_isDip_31 (by decide) ?_
      refine W.widen (k := 0) (n := 0) (Nat.le_of_ble_eq_true rfl) (Nat.le_of_ble_eq_true rfl) ?_
      exact W.zret (v := 1) hx hb hr (by decide) (fun t ht hW => ⟨⟨1, rfl, ((show (0 ≤ (1 : Int32).toInt ∧ (1 : Int32).toInt ≤ 1) by omega)), CB.mk ht hP hD⟩, hS.F ht⟩) hS.2.2 dX11_isDip_35
set_option maxHeartbeats 4000000 in
set_option maxRecDepth 100000 in
theorem m_four (l : Launch) (D : va_G) (Y : Nat → ClassId) (Z : Nat → Nat) (sz : Nat) (o : Nat) (a : Nat → Nat) (I : Nat → Int32) (J : Nat → Int64) (F : Nat → Nat → Int32) (G : Nat → Nat → Int64) (p1 : Int32) (hk_0 : (0 ≤ (I 3).toInt ∧ (I 3).toInt ≤ 396)) : Met l yX11_four (.code yX11_four cX11_four 3 none :: GW) ({ frames := 0, cells := 0, slots := 0, locals := 0 }) (va_Pc [.ref o, .int p1] (CP D Y Z (MW Y o a I J F G) sz)) (QG (S := Int32 × (Nat → Int32)) (fun _ => none) (fun u => (u.1.toInt = (I 3).toInt + 4)) (fun u => CB D (MW Y o a (upd I 3 u.1) J (vf_upd F 2 u.2) G) (va_A (MW Y o a I J F G) sz)) (va_A (MW Y o a I J F G) sz)) 0 0 (va_A (MW Y o a I J F G) sz) := by
  refine Met.ofW (cc := cX11_four) (maxL := 3) (ret := none) (by decide) rfl ?_
  intro p e s m args below meth c s₁ B hml hv
  obtain ⟨rfl, hsz, hP, hKN, hD0⟩ := hv
  have hx := B.exec
  have hb := B.bytes
  have hr := B.returns
  have hts := atoms_spec (ws := .code yX11_four cX11_four 3 none :: GW) B.pre
  have hg : ∀ w ∈ GW, w.before _ s = true := fun w h => hts w (List.mem_cons_of_mem _ h)
  have hown : s.vm.findClass RX11 = some m.cls := findClass_of_methodNamed B.named
  have hlocks := B.notSynchronized
  subst hsz
  have hD := hD0.self (sz := s.heap.size)
  generalize hAe : va_A (MW Y o a I J F G) s.heap.size = A at hD ⊢
  have hA : ∀ q : Nat, s.heap.size ≤ q → A q := fun q h => by rw [← hAe]; exact Or.inr h
  clear hAe hD0 hts B
  have hl := lv_entry ([.ref o, .int p1]) (n := 3) (Nat.le_of_ble_eq_true rfl)
  rw [lg_entry_eq]
  generalize (lg_sl ([.ref o, .int p1]) ++ List.replicate (3 - (lg_sl ([.ref o, .int p1])).length) Slot.unset).toArray = ls at hl ⊢
  have hl : lv_has ls 3 [(0, .ref o), (1, .int p1)] := hl
  refine w_start (A0 := A) hP (fun H locs hP hS => ?_)
  refine lv_bipush (v := 24) hx hb dX11_four_0 (by decide) ?_
  refine lv_istore_n (lv' := [(2, .int 24), (0, .ref o), (1, .int p1)]) hx hb dX11_four_2 rfl hl (by decide) rfl (fun ls hl => ?_)
  have zi24 : (24 : Int32).toInt = 24 := by decide
  refine w_loop (σ := Int32 × Int32 × (Nat → Int32)) (fun xx H locs ls => match xx with | (g11, g12, f13) => va_P D vwCl (MW Y o a (upd I 3 g12) J (vf_upd F 2 f13) G) H ∧ va_D A (MW Y o a (upd I 3 g12) J (vf_upd F 2 f13) G) ∧ va_S A s.heap H locs ∧ lv_has ls 3 [(2, .int g11), (0, .ref o), (1, .int p1)] ∧ (-8 ≤ g11.toInt ∧ g11.toInt ≤ 24) ∧ (0 ≤ g12.toInt ∧ g12.toInt ≤ 400) ∧ (g12.toInt * 8 + g11.toInt = (I 3).toInt * 8 + 24) ∧ (g11.toInt % 8 = 0)) (fun xx => match xx with | (g11, g12, f13) => (g11.toInt + 8).toNat) (24, (I 3), (F 2)) ⟨hP, hD, hS, lv_sub hl [0, 1, 2] rfl, by omega, by omega, by omega, by omega⟩ (fun xx H locs ls hI ih => ?_)
  obtain ⟨g11, g12, f13⟩ := xx
  obtain ⟨hP, hD, hS, hl, hq26, hq27, hq28, hq29⟩ := hI
  have ih30 := ih
  refine lv_iload_n hx hb dX11_four_3 rfl (lv_at hl 0 rfl) ?_
  refine lv_if_lt (tgt := 36) hx hb dX11_four_4 (by decide) (fun c37 => ?_) (fun c37 => ?_)
  · skip
    have c37 := i_lt (Eq.refl g11.toInt) (show (0 : Int32).toInt = 0 by decide) c37
    refine W.widen (k := 0) (n := 0) (Nat.le_of_ble_eq_true rfl) (Nat.le_of_ble_eq_true rfl) ?_
    exact W.vret hx hb hr (fun t ht hW => ⟨⟨(g12, f13), rfl, ((show (g12.toInt = (I 3).toInt + 4) by omega)), CB.mk ht hP hD⟩, hS.F ht⟩) hS.2.2 dX11_four_36
  · skip
    have c37 := i_nlt (Eq.refl g11.toInt) (show (0 : Int32).toInt = 0 by decide) c37
    refine lv_aload_n hx hb dX11_four_7 rfl (lv_at hl 1 rfl) ?_
    refine va_get (D := D) (ci := 11) (v := .ref (a 2)) (C := RX11) (T := TX11) (N := 49) hx hb hg inGX11 hown hKN.1 hP 0 rfl rfl 2 (by decide) (hg _ kw_1210) (fun _ h9 => h9) rfl dX11_four_8 ?_
    refine lv_aload_n hx hb dX11_four_11 rfl (lv_at hl 1 rfl) ?_
    refine va_get (D := D) (ci := 11) (v := .int g12) (C := RX11) (T := TX11) (N := 49) hx hb hg inGX11 hown hKN.1 hP 0 rfl rfl 3 (by decide) (hg _ kw_1211) (fun _ h9 => h9) rfl dX11_four_12 ?_
    refine lv_iload_n hx hb dX11_four_15 rfl (lv_at hl 2 rfl) ?_
    refine lv_iload_n hx hb dX11_four_16 rfl (lv_at hl 0 rfl) ?_
    refine lv_ishr hx hb dX11_four_17 ?_
    refine lv_topi (fun v38 ev38 => ?_)
    refine lv_i2b (v := v38.toInt8.toInt32) hx hb dX11_four_18 rfl ?_
    refine lv_topi (fun v39 ev39 => ?_)
    refine va_bast hx hb hKN.1 hP hD hS 3 2 rfl rfl (vp_in_iff.mpr ⟨by omega, by omega⟩) dX11_four_19 (fun H locs hP hD hS => ?_)
    obtain ⟨f40, ef40, hP, hD⟩ : ∃ f40 : Nat → Int32, f40 = upd f13 g12.toNatClampNeg (vp_nar .byte v39) ∧ va_P D vwCl (MW Y o a (upd I 3 g12) J (vf_upd F 2 f40) G) H ∧ va_D A (MW Y o a (upd I 3 g12) J (vf_upd F 2 f40) G) := ⟨_, rfl, hP, hD⟩
    refine lv_aload_n hx hb dX11_four_20 rfl (lv_at hl 1 rfl) ?_
    refine lv_dup hx hb dX11_four_21 rfl ?_
    refine va_get (D := D) (ci := 11) (v := .int g12) (C := RX11) (T := TX11) (N := 49) hx hb hg inGX11 hown hKN.1 hP 0 rfl rfl 3 (by decide) (hg _ kw_1211) (fun _ h9 => h9) rfl dX11_four_22 ?_
    refine lv_iconst (v := 1) hx hb dX11_four_25 (by decide) ?_
    refine lv_iadd hx hb dX11_four_26 ?_
    refine lv_topi (fun v41 ev41 => ?_)
    have hv41 := i_add (Eq.refl g12.toInt) (show (1 : Int32).toInt = 1 by decide) ev41 (by omega) (by omega)
    refine va_put (D := D) (ci := 11) (v := .int v41) (ty := .int) (C := RX11) (T := TX11) (N := 49) hx hb hg inGX11 tyX11 tyX11_ok nmX11 hown hKN.1 hP hD hS 0 rfl rfl 3 (by decide) (hg _ kw_1211) (fun _ h9 => h9) rfl (by decide +kernel) rfl rfl (Nat.le_of_ble_eq_true rfl) dX11_four_27 (fun H locs hP hD hS => ?_)
    have hP : va_P D vwCl (MW Y o a (upd I 3 v41) J (vf_upd F 2 f40) G) H := hP
    have hD : va_D A (MW Y o a (upd I 3 v41) J (vf_upd F 2 f40) G) := hD
    obtain ⟨v42, ev42⟩ : ∃ y : Int32, y = g11 + (-8) := ⟨_, rfl⟩
    have hv42 := i_add (Eq.refl g11.toInt) (show ((-8) : Int32).toInt = -8 by decide) ev42 (by omega) (by omega)
    refine lv_iinc (v := v42) (lv' := [(2, .int v42), (0, .ref o), (1, .int p1)]) hx hb dX11_four_30 hl (k := 0) rfl (by rw [ev42]; rfl) (by decide) rfl (fun ls hl => ?_)
    refine lv_goto (tgt := 3) hx hb dX11_four_33 (by decide) ?_
    exact ih30 (v42, v41, f40) H locs ls (by show (v42.toInt + 8).toNat < (g11.toInt + 8).toNat; omega) ⟨hP, hD, hS, lv_sub hl [0, 1, 2] rfl, by omega, by omega, by omega, by omega⟩
set_option maxHeartbeats 4000000 in
set_option maxRecDepth 100000 in
theorem m_feed (l : Launch) (D : va_G) (Y : Nat → ClassId) (Z : Nat → Nat) (sz : Nat) (o : Nat) (a : Nat → Nat) (I : Nat → Int32) (J : Nat → Int64) (F : Nat → Nat → Int32) (G : Nat → Nat → Int64) (p1 : Int32) (p2 : Int32) (p3 : Int32) (p4 : Int32) (p5 : Int32) (hk_0 : (0 ≤ (I 3).toInt ∧ (I 3).toInt ≤ 400)) : Met l yX11_feed (.code yX11_feed cX11_feed 6 (some .int) :: GW) ({ frames := 1, cells := 0, slots := 0, locals := 22 }) (va_Pc [.ref o, .int p1, .int p2, .int p3, .int p4, .int p5] (CP D Y Z (MW Y o a I J F G) sz)) (QG (S := Int32 × Int32 × (Nat → Int32)) (fun u => some (.int u.1)) (fun u => (0 ≤ u.2.1.toInt ∧ u.2.1.toInt ≤ 400)) (fun u => CB D (MW Y o a (upd I 3 u.2.1) J (vf_upd F 2 u.2.2) G) (va_A (MW Y o a I J F G) sz)) (va_A (MW Y o a I J F G) sz)) 0 0 (va_A (MW Y o a I J F G) sz) := by
  refine Met.ofW (cc := cX11_feed) (maxL := 6) (ret := (some .int)) (by decide) rfl ?_
  intro p e s m args below meth c s₁ B hml hv
  obtain ⟨rfl, hsz, hP, hKN, hD0⟩ := hv
  have hx := B.exec
  have hb := B.bytes
  have hr := B.returns
  have hts := atoms_spec (ws := .code yX11_feed cX11_feed 6 (some .int) :: GW) B.pre
  have hg : ∀ w ∈ GW, w.before _ s = true := fun w h => hts w (List.mem_cons_of_mem _ h)
  have hown : s.vm.findClass RX11 = some m.cls := findClass_of_methodNamed B.named
  have hlocks := B.notSynchronized
  subst hsz
  have hD := hD0.self (sz := s.heap.size)
  generalize hAe : va_A (MW Y o a I J F G) s.heap.size = A at hD ⊢
  have hA : ∀ q : Nat, s.heap.size ≤ q → A q := fun q h => by rw [← hAe]; exact Or.inr h
  clear hAe hD0 hts B
  have hl := lv_entry ([.ref o, .int p1, .int p2, .int p3, .int p4, .int p5]) (n := 6) (Nat.le_of_ble_eq_true rfl)
  rw [lg_entry_eq]
  generalize (lg_sl ([.ref o, .int p1, .int p2, .int p3, .int p4, .int p5]) ++ List.replicate (6 - (lg_sl ([.ref o, .int p1, .int p2, .int p3, .int p4, .int p5])).length) Slot.unset).toArray = ls at hl ⊢
  have hl : lv_has ls 6 [(0, .ref o), (1, .int p1), (2, .int p2), (3, .int p3), (4, .int p4), (5, .int p5)] := hl
  refine w_start (A0 := A) hP (fun H locs hP hS => ?_)
  refine lv_aload_n hx hb dX11_feed_0 rfl (lv_at hl 0 rfl) ?_
  refine va_get (D := D) (ci := 11) (v := .int (I 3)) (C := RX11) (T := TX11) (N := 49) hx hb hg inGX11 hown hKN.1 hP 0 rfl rfl 3 (by decide) (hg _ kw_1211) (fun _ h9 => h9) rfl dX11_feed_1 ?_
  refine lv_bipush (v := 20) hx hb dX11_feed_4 (by decide) ?_
  refine lv_iadd hx hb dX11_feed_6 ?_
  refine lv_topi (fun v1 ev1 => ?_)
  have hv1 := i_add (Eq.refl (I 3).toInt) (show (20 : Int32).toInt = 20 by decide) ev1 (by omega) (by omega)
  refine lv_sipush (v := 400) hx hb dX11_feed_7 (by decide) ?_
  refine lv_icmp_le (tgt := 15) hx hb dX11_feed_10 (by decide) (fun c2 => ?_) (fun c2 => ?_)
  · skip
    have c2 := i_le (Eq.refl v1.toInt) (show (400 : Int32).toInt = 400 by decide) c2
    refine lv_aload_n hx hb dX11_feed_15 rfl (lv_at hl 0 rfl) ?_
    refine lv_iload_n hx hb dX11_feed_16 rfl (lv_at hl 1 rfl) ?_
    refine cga (rn_V (As := [.int p1]) (rest := []) (b := o) (m_four l D Y Z H.size o a I J F G  p1 (show (0 ≤ (I 3).toInt ∧ (I 3).toInt ≤ 396) by omega)) ⟨hx, hb, hml, hown, hg⟩ lk_X11_173 ⟨CP.blind, va_recv hKN.1 hP (ci := 11) (q0 := 0) rfl rfl, CP.at hP hKN hD⟩ ⟨⟨rfl, rfl⟩, ⟨Nat.le_of_ble_eq_true rfl, Nat.le_of_ble_eq_true rfl⟩, ⟨Nat.le_of_ble_eq_true rfl, Nat.le_of_ble_eq_true rfl⟩⟩ hl.1 rfl (Nat.le_of_ble_eq_true rfl) dX11_feed_17) hP hD hS hA (fun u3 H locs w4 hP hD hS => ?_)
    obtain ⟨u5, f6⟩ := u3
    have w4 : (u5.toInt = (I 3).toInt + 4) := w4
    have hw7 := w4
    refine W.eq (g2 := F0 m 20 ls []) rfl ?_
    have hP : va_P D vwCl (MW Y o a (upd I 3 u5) J (vf_upd F 2 f6) G) H := hP
    have hD : va_D A (MW Y o a (upd I 3 u5) J (vf_upd F 2 f6) G) := hD
    refine lv_aload_n hx hb dX11_feed_20 rfl (lv_at hl 0 rfl) ?_
    refine lv_iload_n hx hb dX11_feed_21 rfl (lv_at hl 2 rfl) ?_
    refine cga (rn_V (As := [.int p2]) (rest := []) (b := o) (m_four l D Y Z H.size o a (upd I 3 u5) J (vf_upd F 2 f6) G  p2 (show (0 ≤ u5.toInt ∧ u5.toInt ≤ 396) by omega)) ⟨hx, hb, hml, hown, hg⟩ lk_X11_173 ⟨CP.blind, va_recv hKN.1 hP (ci := 11) (q0 := 0) rfl rfl, CP.at hP hKN hD⟩ ⟨⟨rfl, rfl⟩, ⟨Nat.le_of_ble_eq_true rfl, Nat.le_of_ble_eq_true rfl⟩, ⟨Nat.le_of_ble_eq_true rfl, Nat.le_of_ble_eq_true rfl⟩⟩ hl.1 rfl (Nat.le_of_ble_eq_true rfl) dX11_feed_22) hP hD hS hA (fun u8 H locs w9 hP hD hS => ?_)
    obtain ⟨u10, f11⟩ := u8
    have w9 : (u10.toInt = u5.toInt + 4) := w9
    have hw12 := w9
    refine W.eq (g2 := F0 m 25 ls []) rfl ?_
    have hP : va_P D vwCl (MW Y o a (upd I 3 u10) J (vf_upd F 2 f11) G) H := hP
    have hD : va_D A (MW Y o a (upd I 3 u10) J (vf_upd F 2 f11) G) := hD
    refine lv_aload_n hx hb dX11_feed_25 rfl (lv_at hl 0 rfl) ?_
    refine lv_iload_n hx hb dX11_feed_26 rfl (lv_at hl 3 rfl) ?_
    refine cga (rn_V (As := [.int p3]) (rest := []) (b := o) (m_four l D Y Z H.size o a (upd I 3 u10) J (vf_upd F 2 f11) G  p3 (show (0 ≤ u10.toInt ∧ u10.toInt ≤ 396) by omega)) ⟨hx, hb, hml, hown, hg⟩ lk_X11_173 ⟨CP.blind, va_recv hKN.1 hP (ci := 11) (q0 := 0) rfl rfl, CP.at hP hKN hD⟩ ⟨⟨rfl, rfl⟩, ⟨Nat.le_of_ble_eq_true rfl, Nat.le_of_ble_eq_true rfl⟩, ⟨Nat.le_of_ble_eq_true rfl, Nat.le_of_ble_eq_true rfl⟩⟩ hl.1 rfl (Nat.le_of_ble_eq_true rfl) dX11_feed_27) hP hD hS hA (fun u13 H locs w14 hP hD hS => ?_)
    obtain ⟨u15, f16⟩ := u13
    have w14 : (u15.toInt = u10.toInt + 4) := w14
    have hw17 := w14
    refine W.eq (g2 := F0 m 30 ls []) rfl ?_
    have hP : va_P D vwCl (MW Y o a (upd I 3 u15) J (vf_upd F 2 f16) G) H := hP
    have hD : va_D A (MW Y o a (upd I 3 u15) J (vf_upd F 2 f16) G) := hD
    refine lv_aload_n hx hb dX11_feed_30 rfl (lv_at hl 0 rfl) ?_
    refine lv_iload hx hb dX11_feed_31 (lv_at hl 4 rfl) ?_
    refine cga (rn_V (As := [.int p4]) (rest := []) (b := o) (m_four l D Y Z H.size o a (upd I 3 u15) J (vf_upd F 2 f16) G  p4 (show (0 ≤ u15.toInt ∧ u15.toInt ≤ 396) by omega)) ⟨hx, hb, hml, hown, hg⟩ lk_X11_173 ⟨CP.blind, va_recv hKN.1 hP (ci := 11) (q0 := 0) rfl rfl, CP.at hP hKN hD⟩ ⟨⟨rfl, rfl⟩, ⟨Nat.le_of_ble_eq_true rfl, Nat.le_of_ble_eq_true rfl⟩, ⟨Nat.le_of_ble_eq_true rfl, Nat.le_of_ble_eq_true rfl⟩⟩ hl.1 rfl (Nat.le_of_ble_eq_true rfl) dX11_feed_33) hP hD hS hA (fun u18 H locs w19 hP hD hS => ?_)
    obtain ⟨u20, f21⟩ := u18
    have w19 : (u20.toInt = u15.toInt + 4) := w19
    have hw22 := w19
    refine W.eq (g2 := F0 m 36 ls []) rfl ?_
    have hP : va_P D vwCl (MW Y o a (upd I 3 u20) J (vf_upd F 2 f21) G) H := hP
    have hD : va_D A (MW Y o a (upd I 3 u20) J (vf_upd F 2 f21) G) := hD
    refine lv_aload_n hx hb dX11_feed_36 rfl (lv_at hl 0 rfl) ?_
    refine lv_iload hx hb dX11_feed_37 (lv_at hl 5 rfl) ?_
    refine cga (rn_V (As := [.int p5]) (rest := []) (b := o) (m_four l D Y Z H.size o a (upd I 3 u20) J (vf_upd F 2 f21) G  p5 (show (0 ≤ u20.toInt ∧ u20.toInt ≤ 396) by omega)) ⟨hx, hb, hml, hown, hg⟩ lk_X11_173 ⟨CP.blind, va_recv hKN.1 hP (ci := 11) (q0 := 0) rfl rfl, CP.at hP hKN hD⟩ ⟨⟨rfl, rfl⟩, ⟨Nat.le_of_ble_eq_true rfl, Nat.le_of_ble_eq_true rfl⟩, ⟨Nat.le_of_ble_eq_true rfl, Nat.le_of_ble_eq_true rfl⟩⟩ hl.1 rfl (Nat.le_of_ble_eq_true rfl) dX11_feed_39) hP hD hS hA (fun u23 H locs w24 hP hD hS => ?_)
    obtain ⟨u25, f26⟩ := u23
    have w24 : (u25.toInt = u20.toInt + 4) := w24
    have hw27 := w24
    refine W.eq (g2 := F0 m 42 ls []) rfl ?_
    have hP : va_P D vwCl (MW Y o a (upd I 3 u25) J (vf_upd F 2 f26) G) H := hP
    have hD : va_D A (MW Y o a (upd I 3 u25) J (vf_upd F 2 f26) G) := hD
    refine lv_aload_n hx hb dX11_feed_42 rfl (lv_at hl 0 rfl) ?_
    refine va_get (D := D) (ci := 11) (v := .int u25) (C := RX11) (T := TX11) (N := 49) hx hb hg inGX11 hown hKN.1 hP 0 rfl rfl 3 (by decide) (hg _ kw_1211) (fun _ h9 => h9) rfl dX11_feed_43 ?_
    refine W.widen (k := 0) (n := 0) (Nat.le_of_ble_eq_true rfl) (Nat.le_of_ble_eq_true rfl) ?_
    exact W.iret (v := u25) hx hb hr (fun t ht hW => ⟨⟨(u25, u25, f26), rfl, ((show (0 ≤ u25.toInt ∧ u25.toInt ≤ 400) by omega)), CB.mk ht hP hD⟩, hS.F ht⟩) hS.2.2 dX11_feed_46
  · skip
    have c2 := i_nle (Eq.refl v1.toInt) (show (400 : Int32).toInt = 400 by decide) c2
    refine lv_iconst (v := (-1)) hx hb dX11_feed_13 (by decide) ?_
    refine W.widen (k := 0) (n := 0) (Nat.le_of_ble_eq_true rfl) (Nat.le_of_ble_eq_true rfl) ?_
    have zim1 : ((-1) : Int32).toInt = -1 := by decide
    exact W.iret (v := (-1)) hx hb hr (fun t ht hW => ⟨⟨((-1), (I 3), (F 2)), rfl, ((show (0 ≤ (I 3).toInt ∧ (I 3).toInt ≤ 400) by omega)), CB.mk ht hP hD⟩, hS.F ht⟩) hS.2.2 dX11_feed_14
set_option maxHeartbeats 4000000 in
set_option maxRecDepth 100000 in
theorem m_end (l : Launch) (D : va_G) (Y : Nat → ClassId) (Z : Nat → Nat) (sz : Nat) (o : Nat) (a : Nat → Nat) (I : Nat → Int32) (J : Nat → Int64) (F : Nat → Nat → Int32) (G : Nat → Nat → Int64) (p1 : Int32) (hk_0 : (0 ≤ (I 3).toInt ∧ (I 3).toInt ≤ 400)) : Met l yX11_end (.code yX11_end cX11_end 2 (some .int) :: GW) ({ frames := 0, cells := 0, slots := 0, locals := 0 }) (va_Pc [.ref o, .int p1] (CP D Y Z (MW Y o a I J F G) sz)) (QG (S := Int32 × Int32) (fun u => some (.int u.1)) (fun u => (0 ≤ u.2.toInt ∧ u.2.toInt ≤ 400)) (fun u => CB D (MW Y o a (upd I 3 u.2) J F G) (va_A (MW Y o a I J F G) sz)) (va_A (MW Y o a I J F G) sz)) 0 0 (va_A (MW Y o a I J F G) sz) := by
  refine Met.ofW (cc := cX11_end) (maxL := 2) (ret := (some .int)) (by decide) rfl ?_
  intro p e s m args below meth c s₁ B hml hv
  obtain ⟨rfl, hsz, hP, hKN, hD0⟩ := hv
  have hx := B.exec
  have hb := B.bytes
  have hr := B.returns
  have hts := atoms_spec (ws := .code yX11_end cX11_end 2 (some .int) :: GW) B.pre
  have hg : ∀ w ∈ GW, w.before _ s = true := fun w h => hts w (List.mem_cons_of_mem _ h)
  have hown : s.vm.findClass RX11 = some m.cls := findClass_of_methodNamed B.named
  have hlocks := B.notSynchronized
  subst hsz
  have hD := hD0.self (sz := s.heap.size)
  generalize hAe : va_A (MW Y o a I J F G) s.heap.size = A at hD ⊢
  have hA : ∀ q : Nat, s.heap.size ≤ q → A q := fun q h => by rw [← hAe]; exact Or.inr h
  clear hAe hD0 hts B
  have hl := lv_entry ([.ref o, .int p1]) (n := 2) (Nat.le_of_ble_eq_true rfl)
  rw [lg_entry_eq]
  generalize (lg_sl ([.ref o, .int p1]) ++ List.replicate (2 - (lg_sl ([.ref o, .int p1])).length) Slot.unset).toArray = ls at hl ⊢
  have hl : lv_has ls 2 [(0, .ref o), (1, .int p1)] := hl
  refine w_start (A0 := A) hP (fun H locs hP hS => ?_)
  refine lv_iload_n hx hb dX11_end_0 rfl (lv_at hl 1 rfl) ?_
  have j1 := rgI p1
  refine lv_if_lt (tgt := 12) hx hb dX11_end_1 (by decide) (fun c2 => ?_) (fun c2 => ?_)
  · skip
    have c2 := i_lt (Eq.refl p1.toInt) (show (0 : Int32).toInt = 0 by decide) c2
    refine lv_iconst (v := (-1)) hx hb dX11_end_12 (by decide) ?_
    refine W.widen (k := 0) (n := 0) (Nat.le_of_ble_eq_true rfl) (Nat.le_of_ble_eq_true rfl) ?_
    have zim1 : ((-1) : Int32).toInt = -1 := by decide
    exact W.iret (v := (-1)) hx hb hr (fun t ht hW => ⟨⟨((-1), (I 3)), rfl, ((show (0 ≤ (I 3).toInt ∧ (I 3).toInt ≤ 400) by omega)), CB.mk ht hP hD⟩, hS.F ht⟩) hS.2.2 dX11_end_13
  · skip
    have c2 := i_nlt (Eq.refl p1.toInt) (show (0 : Int32).toInt = 0 by decide) c2
    refine lv_iload_n hx hb dX11_end_4 rfl (lv_at hl 1 rfl) ?_
    refine lv_aload_n hx hb dX11_end_5 rfl (lv_at hl 0 rfl) ?_
    refine va_get (D := D) (ci := 11) (v := .int (I 3)) (C := RX11) (T := TX11) (N := 49) hx hb hg inGX11 hown hKN.1 hP 0 rfl rfl 3 (by decide) (hg _ kw_1211) (fun _ h9 => h9) rfl dX11_end_6 ?_
    refine lv_icmp_le (tgt := 14) hx hb dX11_end_9 (by decide) (fun c3 => ?_) (fun c3 => ?_)
    · skip
      have c3 := i_le (Eq.refl p1.toInt) (Eq.refl (I 3).toInt) c3
      refine lv_aload_n hx hb dX11_end_14 rfl (lv_at hl 0 rfl) ?_
      refine lv_iload_n hx hb dX11_end_15 rfl (lv_at hl 1 rfl) ?_
      refine va_put (D := D) (ci := 11) (v := .int p1) (ty := .int) (C := RX11) (T := TX11) (N := 49) hx hb hg inGX11 tyX11 tyX11_ok nmX11 hown hKN.1 hP hD hS 0 rfl rfl 3 (by decide) (hg _ kw_1211) (fun _ h9 => h9) rfl (by decide +kernel) rfl rfl (Nat.le_of_ble_eq_true rfl) dX11_end_16 (fun H locs hP hD hS => ?_)
      have hP : va_P D vwCl (MW Y o a (upd I 3 p1) J F G) H := hP
      have hD : va_D A (MW Y o a (upd I 3 p1) J F G) := hD
      refine lv_iload_n hx hb dX11_end_19 rfl (lv_at hl 1 rfl) ?_
      refine W.widen (k := 0) (n := 0) (Nat.le_of_ble_eq_true rfl) (Nat.le_of_ble_eq_true rfl) ?_
      exact W.iret (v := p1) hx hb hr (fun t ht hW => ⟨⟨(p1, p1), rfl, ((show (0 ≤ p1.toInt ∧ p1.toInt ≤ 400) by omega)), CB.mk ht hP hD⟩, hS.F ht⟩) hS.2.2 dX11_end_20
    · skip
      have c3 := i_nle (Eq.refl p1.toInt) (Eq.refl (I 3).toInt) c3
      refine lv_iconst (v := (-1)) hx hb dX11_end_12 (by decide) ?_
      refine W.widen (k := 0) (n := 0) (Nat.le_of_ble_eq_true rfl) (Nat.le_of_ble_eq_true rfl) ?_
      have zim1 : ((-1) : Int32).toInt = -1 := by decide
      exact W.iret (v := (-1)) hx hb hr (fun t ht hW => ⟨⟨((-1), (I 3)), rfl, ((show (0 ≤ (I 3).toInt ∧ (I 3).toInt ≤ 400) by omega)), CB.mk ht hP hD⟩, hS.F ht⟩) hS.2.2 dX11_end_13
set_option maxHeartbeats 4000000 in
set_option maxRecDepth 100000 in
theorem m_counts (l : Launch) (D : va_G) (Y : Nat → ClassId) (Z : Nat → Nat) (sz : Nat) (o : Nat) (a : Nat → Nat) (I : Nat → Int32) (J : Nat → Int64) (F : Nat → Nat → Int32) (G : Nat → Nat → Int64) (hk0 : LB (F 28)) : Met l yX11_counts (.code yX11_counts cX11_counts 4 none :: GW) ({ frames := 0, cells := 0, slots := 0, locals := 0 }) (va_Pc [.ref o] (CP D Y Z (MW Y o a I J F G) sz)) (QG (S := Int32 × Int64 × Int64) (fun _ => none) (fun u => (0 ≤ u.1.toInt ∧ u.1.toInt ≤ 600) ∧ (-60000000 ≤ u.2.1.toInt ∧ u.2.1.toInt ≤ 60000000) ∧ (1 ≤ u.2.2.toInt)) (fun u => CB D (MW Y o a (upd I 29 u.1) (vp_updL (vp_updL J 30 u.2.1) 31 u.2.2) F G) (va_A (MW Y o a I J F G) sz)) (va_A (MW Y o a I J F G) sz)) 0 0 (va_A (MW Y o a I J F G) sz) := by
  refine Met.ofW (cc := cX11_counts) (maxL := 4) (ret := none) (by decide) rfl ?_
  intro p e s m args below meth c s₁ B hml hv
  obtain ⟨rfl, hsz, hP, hKN, hD0⟩ := hv
  have hx := B.exec
  have hb := B.bytes
  have hr := B.returns
  have hts := atoms_spec (ws := .code yX11_counts cX11_counts 4 none :: GW) B.pre
  have hg : ∀ w ∈ GW, w.before _ s = true := fun w h => hts w (List.mem_cons_of_mem _ h)
  have hown : s.vm.findClass RX11 = some m.cls := findClass_of_methodNamed B.named
  have hlocks := B.notSynchronized
  subst hsz
  have hD := hD0.self (sz := s.heap.size)
  generalize hAe : va_A (MW Y o a I J F G) s.heap.size = A at hD ⊢
  have hA : ∀ q : Nat, s.heap.size ≤ q → A q := fun q h => by rw [← hAe]; exact Or.inr h
  clear hAe hD0 hts B
  have hl := lv_entry ([.ref o]) (n := 4) (Nat.le_of_ble_eq_true rfl)
  rw [lg_entry_eq]
  generalize (lg_sl ([.ref o]) ++ List.replicate (4 - (lg_sl ([.ref o])).length) Slot.unset).toArray = ls at hl ⊢
  have hl : lv_has ls 4 [(0, .ref o)] := hl
  refine w_start (A0 := A) hP (fun H locs hP hS => ?_)
  refine lv_aload_n hx hb dX11_counts_0 rfl (lv_at hl 0 rfl) ?_
  refine lv_iconst (v := 0) hx hb dX11_counts_1 (by decide) ?_
  refine va_put (D := D) (ci := 11) (v := .int 0) (ty := .int) (C := RX11) (T := TX11) (N := 49) hx hb hg inGX11 tyX11 tyX11_ok nmX11 hown hKN.1 hP hD hS 0 rfl rfl 29 (by decide) (hg _ kw_1237) (fun _ h9 => h9) rfl (by decide +kernel) rfl rfl (Nat.le_of_ble_eq_true rfl) dX11_counts_2 (fun H locs hP hD hS => ?_)
  have hP : va_P D vwCl (MW Y o a (upd I 29 0) J F G) H := hP
  have hD : va_D A (MW Y o a (upd I 29 0) J F G) := hD
  refine lv_aload_n hx hb dX11_counts_5 rfl (lv_at hl 0 rfl) ?_
  refine lv_lconst (v := 0) hx hb dX11_counts_6 (by decide) ?_
  refine va_put (D := D) (ci := 11) (v := .long 0) (ty := .long) (C := RX11) (T := TX11) (N := 49) hx hb hg inGX11 tyX11 tyX11_ok nmX11 hown hKN.1 hP hD hS 0 rfl rfl 30 (by decide) (hg _ kw_1238) (fun _ h9 => h9) rfl (by decide +kernel) rfl rfl (Nat.le_of_ble_eq_true rfl) dX11_counts_7 (fun H locs hP hD hS => ?_)
  have hP : va_P D vwCl (MW Y o a (upd I 29 0) (vp_updL J 30 0) F G) H := hP
  have hD : va_D A (MW Y o a (upd I 29 0) (vp_updL J 30 0) F G) := hD
  refine lv_lconst (v := 0) hx hb dX11_counts_10 (by decide) ?_
  refine lv_lstore_n (lv' := [(1, .long 0), (0, .ref o)]) hx hb dX11_counts_11 rfl hl (by decide) rfl (fun ls hl => ?_)
  refine lv_iconst (v := 0) hx hb dX11_counts_12 (by decide) ?_
  refine lv_istore_n (lv' := [(3, .int 0), (1, .long 0), (0, .ref o)]) hx hb dX11_counts_13 rfl hl (by decide) rfl (fun ls hl => ?_)
  have zi0 : (0 : Int32).toInt = 0 := by decide
  have zl0 : (0 : Int64).toInt = 0 := by decide
  refine w_loop (σ := Int32 × Int64 × Int32 × Int64) (fun xx H locs ls => match xx with | (g14, g15, g16, g17) => va_P D vwCl (MW Y o a (upd I 29 g16) (vp_updL J 30 g17) F G) H ∧ va_D A (MW Y o a (upd I 29 g16) (vp_updL J 30 g17) F G) ∧ va_S A s.heap H locs ∧ lv_has ls 4 [(3, .int g14), (1, .long g15), (0, .ref o)] ∧ (0 ≤ g14.toInt ∧ g14.toInt ≤ 600) ∧ (0 ≤ g16.toInt ∧ g16.toInt ≤ 600) ∧ (-60000000 ≤ g17.toInt ∧ g17.toInt ≤ 60000000) ∧ (g16.toInt ≤ g14.toInt) ∧ (-100000 * g14.toInt ≤ g17.toInt ∧ g17.toInt ≤ 100000 * g14.toInt)) (fun xx => match xx with | (g14, g15, g16, g17) => (600 - g14.toInt).toNat) (0, 0, 0, 0) ⟨hP, hD, hS, lv_sub hl [0, 1, 2] rfl, by omega, by omega, by omega, by omega, by omega⟩ (fun xx H locs ls hI ih => ?_)
  obtain ⟨g14, g15, g16, g17⟩ := xx
  obtain ⟨hP, hD, hS, hl, hq33, hq34, hq35, hq36, hq37⟩ := hI
  have ih38 := ih
  refine lv_iload_n hx hb dX11_counts_14 rfl (lv_at hl 0 rfl) ?_
  refine lv_sipush (v := 600) hx hb dX11_counts_15 (by decide) ?_
  refine lv_icmp_ge (tgt := 85) hx hb dX11_counts_18 (by decide) (fun c39 => ?_) (fun c39 => ?_)
  · skip
    have c39 := i_le (show (600 : Int32).toInt = 600 by decide) (Eq.refl g14.toInt) c39
    refine lv_aload_n hx hb dX11_counts_85 rfl (lv_at hl 2 rfl) ?_
    refine va_get (D := D) (ci := 11) (v := .int g16) (C := RX11) (T := TX11) (N := 49) hx hb hg inGX11 hown hKN.1 hP 0 rfl rfl 29 (by decide) (hg _ kw_1237) (fun _ h9 => h9) rfl dX11_counts_86 ?_
    refine lv_if_le (tgt := 125) hx hb dX11_counts_89 (by decide) (fun c40 => ?_) (fun c40 => ?_)
    · skip
      have c40 := i_le (Eq.refl g16.toInt) (show (0 : Int32).toInt = 0 by decide) c40
      refine lv_aload_n hx hb dX11_counts_125 rfl (lv_at hl 2 rfl) ?_
      refine va_get (D := D) (ci := 11) (v := .long (J 31)) (C := RX11) (T := TX11) (N := 49) hx hb hg inGX11 hown hKN.1 hP 0 rfl rfl 31 (by decide) (hg _ kw_1239) (fun _ h9 => h9) rfl dX11_counts_126 ?_
      refine lv_lconst (v := 1) hx hb dX11_counts_129 (by decide) ?_
      refine W.lcmp hx hb dX11_counts_130 ?_
      refine lv_if_lt (tgt := 141) hx hb dX11_counts_131 (by decide) (fun c41 => ?_) (fun c41 => ?_)
      · skip
        have c41 := l_lt (Eq.refl (J 31).toInt) (show (1 : Int64).toInt = 1 by decide) c41
        refine lv_aload_n hx hb dX11_counts_141 rfl (lv_at hl 2 rfl) ?_
        refine lv_lconst (v := 1) hx hb dX11_counts_142 (by decide) ?_
        refine va_put (D := D) (ci := 11) (v := .long 1) (ty := .long) (C := RX11) (T := TX11) (N := 49) hx hb hg inGX11 tyX11 tyX11_ok nmX11 hown hKN.1 hP hD hS 0 rfl rfl 31 (by decide) (hg _ kw_1239) (fun _ h9 => h9) rfl (by decide +kernel) rfl rfl (Nat.le_of_ble_eq_true rfl) dX11_counts_143 (fun H locs hP hD hS => ?_)
        have hP : va_P D vwCl (MW Y o a (upd I 29 g16) (vp_updL (vp_updL J 30 g17) 31 1) F G) H := hP
        have hD : va_D A (MW Y o a (upd I 29 g16) (vp_updL (vp_updL J 30 g17) 31 1) F G) := hD
        refine W.widen (k := 0) (n := 0) (Nat.le_of_ble_eq_true rfl) (Nat.le_of_ble_eq_true rfl) ?_
        have zl1 : (1 : Int64).toInt = 1 := by decide
        exact W.vret hx hb hr (fun t ht hW => ⟨⟨(g16, g17, 1), rfl, ⟨(show (0 ≤ g16.toInt ∧ g16.toInt ≤ 600) by omega), (show (-60000000 ≤ g17.toInt ∧ g17.toInt ≤ 60000000) by omega), (show (1 ≤ (1 : Int64).toInt) by omega)⟩, CB.mk ht hP hD⟩, hS.F ht⟩) hS.2.2 dX11_counts_146
      · skip
        have c41 := l_nlt (Eq.refl (J 31).toInt) (show (1 : Int64).toInt = 1 by decide) c41
        refine lv_aload_n hx hb dX11_counts_134 rfl (lv_at hl 2 rfl) ?_
        refine va_get (D := D) (ci := 11) (v := .int g16) (C := RX11) (T := TX11) (N := 49) hx hb hg inGX11 hown hKN.1 hP 0 rfl rfl 29 (by decide) (hg _ kw_1237) (fun _ h9 => h9) rfl dX11_counts_135 ?_
        refine lv_if_ne (tgt := 146) hx hb dX11_counts_138 (by decide) (fun c42 => ?_) (fun c42 => ?_)
        · have c42 := i_ne (Eq.refl g16.toInt) (show (0 : Int32).toInt = 0 by decide) c42; exfalso; omega
        have c42 := i_eq (Eq.refl g16.toInt) (show (0 : Int32).toInt = 0 by decide) c42
        refine lv_aload_n hx hb dX11_counts_141 rfl (lv_at hl 2 rfl) ?_
        refine lv_lconst (v := 1) hx hb dX11_counts_142 (by decide) ?_
        refine va_put (D := D) (ci := 11) (v := .long 1) (ty := .long) (C := RX11) (T := TX11) (N := 49) hx hb hg inGX11 tyX11 tyX11_ok nmX11 hown hKN.1 hP hD hS 0 rfl rfl 31 (by decide) (hg _ kw_1239) (fun _ h9 => h9) rfl (by decide +kernel) rfl rfl (Nat.le_of_ble_eq_true rfl) dX11_counts_143 (fun H locs hP hD hS => ?_)
        have hP : va_P D vwCl (MW Y o a (upd I 29 g16) (vp_updL (vp_updL J 30 g17) 31 1) F G) H := hP
        have hD : va_D A (MW Y o a (upd I 29 g16) (vp_updL (vp_updL J 30 g17) 31 1) F G) := hD
        refine W.widen (k := 0) (n := 0) (Nat.le_of_ble_eq_true rfl) (Nat.le_of_ble_eq_true rfl) ?_
        have zl1 : (1 : Int64).toInt = 1 := by decide
        exact W.vret hx hb hr (fun t ht hW => ⟨⟨(g16, g17, 1), rfl, ⟨(show (0 ≤ g16.toInt ∧ g16.toInt ≤ 600) by omega), (show (-60000000 ≤ g17.toInt ∧ g17.toInt ≤ 60000000) by omega), (show (1 ≤ (1 : Int64).toInt) by omega)⟩, CB.mk ht hP hD⟩, hS.F ht⟩) hS.2.2 dX11_counts_146
    · skip
      have c40 := i_nle (Eq.refl g16.toInt) (show (0 : Int32).toInt = 0 by decide) c40
      refine lv_aload_n hx hb dX11_counts_92 rfl (lv_at hl 2 rfl) ?_
      refine lv_aload_n hx hb dX11_counts_93 rfl (lv_at hl 2 rfl) ?_
      refine va_get (D := D) (ci := 11) (v := .int g16) (C := RX11) (T := TX11) (N := 49) hx hb hg inGX11 hown hKN.1 hP 0 rfl rfl 29 (by decide) (hg _ kw_1237) (fun _ h9 => h9) rfl dX11_counts_94 ?_
      have j43 := Int32.toInt_toInt64 g16
      refine lv_i2l (v := g16.toInt64) hx hb dX11_counts_97 (rfl) ?_
      refine lv_lload_n hx hb dX11_counts_98 rfl (lv_at hl 1 rfl) ?_
      refine lv_lmul hx hb dX11_counts_99 ?_
      refine lv_topl (fun v44 ev44 => ?_)
      refine lv_aload_n hx hb dX11_counts_100 rfl (lv_at hl 2 rfl) ?_
      refine va_get (D := D) (ci := 11) (v := .long g17) (C := RX11) (T := TX11) (N := 49) hx hb hg inGX11 hown hKN.1 hP 0 rfl rfl 30 (by decide) (hg _ kw_1238) (fun _ h9 => h9) rfl dX11_counts_101 ?_
      refine lv_aload_n hx hb dX11_counts_104 rfl (lv_at hl 2 rfl) ?_
      refine va_get (D := D) (ci := 11) (v := .long g17) (C := RX11) (T := TX11) (N := 49) hx hb hg inGX11 hown hKN.1 hP 0 rfl rfl 30 (by decide) (hg _ kw_1238) (fun _ h9 => h9) rfl dX11_counts_105 ?_
      refine lv_lmul hx hb dX11_counts_108 ?_
      refine lv_topl (fun v45 ev45 => ?_)
      have hv45 := l_mulR (a := -60000000) (b := 60000000) (c := -60000000) (d := 60000000) (lo := -3600000000000000) (hi := 3600000000000000) (Eq.refl g17.toInt) (Eq.refl g17.toInt) ev45 (by omega) (by omega) (by decide) (by decide)
      refine lv_lsub hx hb dX11_counts_109 ?_
      refine lv_topl (fun v46 ev46 => ?_)
      refine lv_aload_n hx hb dX11_counts_110 rfl (lv_at hl 2 rfl) ?_
      refine va_get (D := D) (ci := 11) (v := .int g16) (C := RX11) (T := TX11) (N := 49) hx hb hg inGX11 hown hKN.1 hP 0 rfl rfl 29 (by decide) (hg _ kw_1237) (fun _ h9 => h9) rfl dX11_counts_111 ?_
      refine lv_i2l (v := g16.toInt64) hx hb dX11_counts_114 (rfl) ?_
      refine lv_aload_n hx hb dX11_counts_115 rfl (lv_at hl 2 rfl) ?_
      refine va_get (D := D) (ci := 11) (v := .int g16) (C := RX11) (T := TX11) (N := 49) hx hb hg inGX11 hown hKN.1 hP 0 rfl rfl 29 (by decide) (hg _ kw_1237) (fun _ h9 => h9) rfl dX11_counts_116 ?_
      refine lv_i2l (v := g16.toInt64) hx hb dX11_counts_119 (rfl) ?_
      refine lv_lmul hx hb dX11_counts_120 ?_
      refine lv_topl (fun v47 ev47 => ?_)
      have hv47 := l_mulR (a := 1) (b := 600) (c := 1) (d := 600) (lo := 1) (hi := 360000) (Int32.toInt_toInt64 g16) (Int32.toInt_toInt64 g16) ev47 (by omega) (by omega) (by decide) (by decide)
      refine lv_ldiv hx hb dX11_counts_121 (l_nz (Eq.refl v47.toInt) (by omega)) ?_
      refine lv_topl (fun v48 ev48 => ?_)
      have hv48 := l_divS (Eq.refl v46.toInt) (Eq.refl v47.toInt) ev48 (by omega)
      refine va_put (D := D) (ci := 11) (v := .long v48) (ty := .long) (C := RX11) (T := TX11) (N := 49) hx hb hg inGX11 tyX11 tyX11_ok nmX11 hown hKN.1 hP hD hS 0 rfl rfl 31 (by decide) (hg _ kw_1239) (fun _ h9 => h9) rfl (by decide +kernel) rfl rfl (Nat.le_of_ble_eq_true rfl) dX11_counts_122 (fun H locs hP hD hS => ?_)
      have hP : va_P D vwCl (MW Y o a (upd I 29 g16) (vp_updL (vp_updL J 30 g17) 31 v48) F G) H := hP
      have hD : va_D A (MW Y o a (upd I 29 g16) (vp_updL (vp_updL J 30 g17) 31 v48) F G) := hD
      refine lv_aload_n hx hb dX11_counts_125 rfl (lv_at hl 2 rfl) ?_
      refine va_get (D := D) (ci := 11) (v := .long v48) (C := RX11) (T := TX11) (N := 49) hx hb hg inGX11 hown hKN.1 hP 0 rfl rfl 31 (by decide) (hg _ kw_1239) (fun _ h9 => h9) rfl dX11_counts_126 ?_
      refine lv_lconst (v := 1) hx hb dX11_counts_129 (by decide) ?_
      refine W.lcmp hx hb dX11_counts_130 ?_
      refine lv_if_lt (tgt := 141) hx hb dX11_counts_131 (by decide) (fun c49 => ?_) (fun c49 => ?_)
      · skip
        have c49 := l_lt (Eq.refl v48.toInt) (show (1 : Int64).toInt = 1 by decide) c49
        refine lv_aload_n hx hb dX11_counts_141 rfl (lv_at hl 2 rfl) ?_
        refine lv_lconst (v := 1) hx hb dX11_counts_142 (by decide) ?_
        refine va_put (D := D) (ci := 11) (v := .long 1) (ty := .long) (C := RX11) (T := TX11) (N := 49) hx hb hg inGX11 tyX11 tyX11_ok nmX11 hown hKN.1 hP hD hS 0 rfl rfl 31 (by decide) (hg _ kw_1239) (fun _ h9 => h9) rfl (by decide +kernel) rfl rfl (Nat.le_of_ble_eq_true rfl) dX11_counts_143 (fun H locs hP hD hS => ?_)
        have hP : va_P D vwCl (MW Y o a (upd I 29 g16) (vp_updL (vp_updL J 30 g17) 31 1) F G) H := hP
        have hD : va_D A (MW Y o a (upd I 29 g16) (vp_updL (vp_updL J 30 g17) 31 1) F G) := hD
        refine W.widen (k := 0) (n := 0) (Nat.le_of_ble_eq_true rfl) (Nat.le_of_ble_eq_true rfl) ?_
        have zl1 : (1 : Int64).toInt = 1 := by decide
        exact W.vret hx hb hr (fun t ht hW => ⟨⟨(g16, g17, 1), rfl, ⟨(show (0 ≤ g16.toInt ∧ g16.toInt ≤ 600) by omega), (show (-60000000 ≤ g17.toInt ∧ g17.toInt ≤ 60000000) by omega), (show (1 ≤ (1 : Int64).toInt) by omega)⟩, CB.mk ht hP hD⟩, hS.F ht⟩) hS.2.2 dX11_counts_146
      · skip
        have c49 := l_nlt (Eq.refl v48.toInt) (show (1 : Int64).toInt = 1 by decide) c49
        refine lv_aload_n hx hb dX11_counts_134 rfl (lv_at hl 2 rfl) ?_
        refine va_get (D := D) (ci := 11) (v := .int g16) (C := RX11) (T := TX11) (N := 49) hx hb hg inGX11 hown hKN.1 hP 0 rfl rfl 29 (by decide) (hg _ kw_1237) (fun _ h9 => h9) rfl dX11_counts_135 ?_
        refine lv_if_ne (tgt := 146) hx hb dX11_counts_138 (by decide) (fun c50 => ?_) (fun c50 => ?_)
        rotate_left
        · have c50 := i_eq (Eq.refl g16.toInt) (show (0 : Int32).toInt = 0 by decide) c50; exfalso; omega
        have c50 := i_ne (Eq.refl g16.toInt) (show (0 : Int32).toInt = 0 by decide) c50
        refine W.widen (k := 0) (n := 0) (Nat.le_of_ble_eq_true rfl) (Nat.le_of_ble_eq_true rfl) ?_
        exact W.vret hx hb hr (fun t ht hW => ⟨⟨(g16, g17, v48), rfl, ⟨(show (0 ≤ g16.toInt ∧ g16.toInt ≤ 600) by omega), (show (-60000000 ≤ g17.toInt ∧ g17.toInt ≤ 60000000) by omega), (show (1 ≤ v48.toInt) by omega)⟩, CB.mk ht hP hD⟩, hS.F ht⟩) hS.2.2 dX11_counts_146
  · skip
    have c39 := i_nle (show (600 : Int32).toInt = 600 by decide) (Eq.refl g14.toInt) c39
    refine lv_aload_n hx hb dX11_counts_21 rfl (lv_at hl 2 rfl) ?_
    refine va_get (D := D) (ci := 11) (v := .ref (a 28)) (C := RX11) (T := TX11) (N := 49) hx hb hg inGX11 hown hKN.1 hP 0 rfl rfl 28 (by decide) (hg _ kw_1236) (fun _ h9 => h9) rfl dX11_counts_22 ?_
    refine lv_iload_n hx hb dX11_counts_25 rfl (lv_at hl 0 rfl) ?_
    refine va_iald hx hb hKN.1 hP 19 0 rfl rfl (vp_in_iff.mpr ⟨by omega, by omega⟩) dX11_counts_26 ?_
    refine lv_topi (fun v51 ev51 => ?_)
    have ev51 : v51 = (F 28) g14.toNatClampNeg := ev51
    have qv51 := congrArg Int32.toInt ev51
    have kv51 := LB_get hk0 (i := g14) (by omega) (by omega)
    rw [← ev51] at kv51
    refine lv_ldc (v := (-100000)) hx hb hown (hg _ kw_1367) dX11_counts_27 ?_
    refine lv_icmp_ne (tgt := 35) hx hb dX11_counts_29 (by decide) (fun c52 => ?_) (fun c52 => ?_)
    · skip
      have c52 := i_ne (Eq.refl v51.toInt) (show ((-100000) : Int32).toInt = -100000 by decide) c52
      refine lv_aload_n hx hb dX11_counts_35 rfl (lv_at hl 2 rfl) ?_
      refine lv_dup hx hb dX11_counts_36 rfl ?_
      refine va_get (D := D) (ci := 11) (v := .int g16) (C := RX11) (T := TX11) (N := 49) hx hb hg inGX11 hown hKN.1 hP 0 rfl rfl 29 (by decide) (hg _ kw_1237) (fun _ h9 => h9) rfl dX11_counts_37 ?_
      refine lv_iconst (v := 1) hx hb dX11_counts_40 (by decide) ?_
      refine lv_iadd hx hb dX11_counts_41 ?_
      refine lv_topi (fun v53 ev53 => ?_)
      have hv53 := i_add (Eq.refl g16.toInt) (show (1 : Int32).toInt = 1 by decide) ev53 (by omega) (by omega)
      refine va_put (D := D) (ci := 11) (v := .int v53) (ty := .int) (C := RX11) (T := TX11) (N := 49) hx hb hg inGX11 tyX11 tyX11_ok nmX11 hown hKN.1 hP hD hS 0 rfl rfl 29 (by decide) (hg _ kw_1237) (fun _ h9 => h9) rfl (by decide +kernel) rfl rfl (Nat.le_of_ble_eq_true rfl) dX11_counts_42 (fun H locs hP hD hS => ?_)
      have hP : va_P D vwCl (MW Y o a (upd I 29 v53) (vp_updL J 30 g17) F G) H := hP
      have hD : va_D A (MW Y o a (upd I 29 v53) (vp_updL J 30 g17) F G) := hD
      refine lv_aload_n hx hb dX11_counts_45 rfl (lv_at hl 2 rfl) ?_
      refine lv_dup hx hb dX11_counts_46 rfl ?_
      refine va_get (D := D) (ci := 11) (v := .long g17) (C := RX11) (T := TX11) (N := 49) hx hb hg inGX11 hown hKN.1 hP 0 rfl rfl 30 (by decide) (hg _ kw_1238) (fun _ h9 => h9) rfl dX11_counts_47 ?_
      refine lv_aload_n hx hb dX11_counts_50 rfl (lv_at hl 2 rfl) ?_
      refine va_get (D := D) (ci := 11) (v := .ref (a 28)) (C := RX11) (T := TX11) (N := 49) hx hb hg inGX11 hown hKN.1 hP 0 rfl rfl 28 (by decide) (hg _ kw_1236) (fun _ h9 => h9) rfl dX11_counts_51 ?_
      refine lv_iload_n hx hb dX11_counts_54 rfl (lv_at hl 0 rfl) ?_
      refine va_iald hx hb hKN.1 hP 19 0 rfl rfl (vp_in_iff.mpr ⟨by omega, by omega⟩) dX11_counts_55 ?_
      refine lv_topi (fun v54 ev54 => ?_)
      have ev54 : v54 = (F 28) g14.toNatClampNeg := ev54
      have qv54 := congrArg Int32.toInt ev54
      have kv54 := LB_get hk0 (i := g14) (by omega) (by omega)
      rw [← ev54] at kv54
      have j55 := Int32.toInt_toInt64 v54
      refine lv_i2l (v := v54.toInt64) hx hb dX11_counts_56 (rfl) ?_
      refine lv_ladd hx hb dX11_counts_57 ?_
      refine lv_topl (fun v56 ev56 => ?_)
      have hv56 := l_add (Eq.refl g17.toInt) (Int32.toInt_toInt64 v54) ev56 (by omega) (by omega)
      refine va_put (D := D) (ci := 11) (v := .long v56) (ty := .long) (C := RX11) (T := TX11) (N := 49) hx hb hg inGX11 tyX11 tyX11_ok nmX11 hown hKN.1 hP hD hS 0 rfl rfl 30 (by decide) (hg _ kw_1238) (fun _ h9 => h9) rfl (by decide +kernel) rfl rfl (Nat.le_of_ble_eq_true rfl) dX11_counts_58 (fun H locs hP hD hS => ?_)
      have hP : va_P D vwCl (MW Y o a (upd I 29 v53) (vp_updL J 30 v56) F G) H := hP
      have hD : va_D A (MW Y o a (upd I 29 v53) (vp_updL J 30 v56) F G) := hD
      refine lv_lload_n hx hb dX11_counts_61 rfl (lv_at hl 1 rfl) ?_
      refine lv_aload_n hx hb dX11_counts_62 rfl (lv_at hl 2 rfl) ?_
      refine va_get (D := D) (ci := 11) (v := .ref (a 28)) (C := RX11) (T := TX11) (N := 49) hx hb hg inGX11 hown hKN.1 hP 0 rfl rfl 28 (by decide) (hg _ kw_1236) (fun _ h9 => h9) rfl dX11_counts_63 ?_
      refine lv_iload_n hx hb dX11_counts_66 rfl (lv_at hl 0 rfl) ?_
      refine va_iald hx hb hKN.1 hP 19 0 rfl rfl (vp_in_iff.mpr ⟨by omega, by omega⟩) dX11_counts_67 ?_
      refine lv_topi (fun v57 ev57 => ?_)
      have ev57 : v57 = (F 28) g14.toNatClampNeg := ev57
      have qv57 := congrArg Int32.toInt ev57
      have kv57 := LB_get hk0 (i := g14) (by omega) (by omega)
      rw [← ev57] at kv57
      have j58 := Int32.toInt_toInt64 v57
      refine lv_i2l (v := v57.toInt64) hx hb dX11_counts_68 (rfl) ?_
      refine lv_aload_n hx hb dX11_counts_69 rfl (lv_at hl 2 rfl) ?_
      refine va_get (D := D) (ci := 11) (v := .ref (a 28)) (C := RX11) (T := TX11) (N := 49) hx hb hg inGX11 hown hKN.1 hP 0 rfl rfl 28 (by decide) (hg _ kw_1236) (fun _ h9 => h9) rfl dX11_counts_70 ?_
      refine lv_iload_n hx hb dX11_counts_73 rfl (lv_at hl 0 rfl) ?_
      refine va_iald hx hb hKN.1 hP 19 0 rfl rfl (vp_in_iff.mpr ⟨by omega, by omega⟩) dX11_counts_74 ?_
      refine lv_topi (fun v59 ev59 => ?_)
      have ev59 : v59 = (F 28) g14.toNatClampNeg := ev59
      have qv59 := congrArg Int32.toInt ev59
      have kv59 := LB_get hk0 (i := g14) (by omega) (by omega)
      rw [← ev59] at kv59
      have j60 := Int32.toInt_toInt64 v59
      refine lv_i2l (v := v59.toInt64) hx hb dX11_counts_75 (rfl) ?_
      refine lv_lmul hx hb dX11_counts_76 ?_
      refine lv_topl (fun v61 ev61 => ?_)
      have hv61 := l_mulR (a := -100000) (b := 100000) (c := -100000) (d := 100000) (lo := -10000000000) (hi := 10000000000) (Int32.toInt_toInt64 v57) (Int32.toInt_toInt64 v59) ev61 (by omega) (by omega) (by decide) (by decide)
      refine lv_ladd hx hb dX11_counts_77 ?_
      refine lv_topl (fun v62 ev62 => ?_)
      refine lv_lstore_n (lv' := [(1, .long v62), (3, .int g14), (0, .ref o)]) hx hb dX11_counts_78 rfl hl (by decide) rfl (fun ls hl => ?_)
      obtain ⟨v63, ev63⟩ : ∃ y : Int32, y = g14 + 1 := ⟨_, rfl⟩
      have hv63 := i_add (Eq.refl g14.toInt) (show (1 : Int32).toInt = 1 by decide) ev63 (by omega) (by omega)
      refine lv_iinc (v := v63) (lv' := [(3, .int v63), (1, .long v62), (0, .ref o)]) hx hb dX11_counts_79 hl (k := 1) rfl (by rw [ev63]; rfl) (by decide) rfl (fun ls hl => ?_)
      refine lv_goto (tgt := 14) hx hb dX11_counts_82 (by decide) ?_
      exact ih38 (v63, v62, v53, v56) H locs ls (by show (600 - v63.toInt).toNat < (600 - g14.toInt).toNat; omega) ⟨hP, hD, hS, lv_sub hl [0, 1, 2] rfl, by omega, by omega, by omega, by omega, by omega⟩
    · skip
      have c52 := i_eq (Eq.refl v51.toInt) (show ((-100000) : Int32).toInt = -100000 by decide) c52
      refine lv_goto (tgt := 79) hx hb dX11_counts_32 (by decide) ?_
      obtain ⟨v64, ev64⟩ : ∃ y : Int32, y = g14 + 1 := ⟨_, rfl⟩
      have hv64 := i_add (Eq.refl g14.toInt) (show (1 : Int32).toInt = 1 by decide) ev64 (by omega) (by omega)
      refine lv_iinc (v := v64) (lv' := [(3, .int v64), (1, .long g15), (0, .ref o)]) hx hb dX11_counts_79 hl (k := 0) rfl (by rw [ev64]; rfl) (by decide) rfl (fun ls hl => ?_)
      refine lv_goto (tgt := 14) hx hb dX11_counts_82 (by decide) ?_
      exact ih38 (v64, g15, g16, g17) H locs ls (by show (600 - v64.toInt).toNat < (600 - g14.toInt).toNat; omega) ⟨hP, hD, hS, lv_sub hl [0, 1, 2] rfl, by omega, by omega, by omega, by omega, by omega⟩
