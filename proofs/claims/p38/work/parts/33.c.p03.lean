set_option maxHeartbeats 4000000 in
set_option maxRecDepth 100000 in
theorem x_X2_deep (l : Launch) (D : va_G) (Y : Nat → ClassId) (Z : Nat → Nat) (sz : Nat) (ws : va_W) (T : RT) (g : GN) (q : GQ)  (p0 : Nat) (hT : TW Y Z T g q ws) (ht0 : T p0 = (9, 0, 0)) : Met l yX2_deep (.code yX2_deep cX2_deep 1 (some .long) :: GW) ({ frames := 2, cells := 0, slots := 0, locals := 52 }) (va_Pc [.ref p0] (CPC D Y Z ws sz)) (QG (S := Int64) (fun u => some (.long u)) (fun u => True) (fun u => CB D ws (va_A ws sz)) (va_A ws sz)) 0 0 (va_A ws sz) := by
  refine Met.ofW (cc := cX2_deep) (maxL := 1) (ret := (some .long)) (by decide) rfl ?_
  intro p e s m args below meth c s₁ B hml hv
  obtain ⟨rfl, ⟨hsz, hP, hKN, hD0⟩, hSZ⟩ := hv
  have hx := B.exec
  have hb := B.bytes
  have hr := B.returns
  have hts := atoms_spec (ws := .code yX2_deep cX2_deep 1 (some .long) :: GW) B.pre
  have hg : ∀ w ∈ GW, w.before _ s = true := fun w h => hts w (List.mem_cons_of_mem _ h)
  have hown : s.vm.findClass RX2 = some m.cls := findClass_of_methodNamed B.named
  have hlocks := B.notSynchronized
  subst hsz
  have hD := hD0.self (sz := s.heap.size)
  generalize hAe : va_A ws s.heap.size = A at hD hSZ ⊢
  have hA : ∀ q : Nat, s.heap.size ≤ q → A q := fun q h => by rw [← hAe]; exact Or.inr h
  clear hAe hD0 hts B
  have hl := lv_entry ([.ref p0]) (n := 1) (Nat.le_of_ble_eq_true rfl)
  rw [lg_entry_eq]
  generalize (lg_sl ([.ref p0]) ++ List.replicate (1 - (lg_sl ([.ref p0])).length) Slot.unset).toArray = ls at hl ⊢
  have hl : lv_has ls 1 [(0, .ref p0)] := hl
  refine w_start (A0 := A) hP (fun H locs hP hS => ?_)
  refine lv_aload_n hx hb dX2_deep_0 rfl (lv_at hl 0 rfl) ?_
  refine ok9 hT ht0 (fun p13 a1 a2 a3 x4 y5 y6 x7 y8 hk14 h9 h10 h11 h12 => ?_)
  refine va_get (D := D) (ci := 2) (v := .int x4) (C := RX2) (T := TX2) (N := 8) hx hb hg inGX2 hown hKN.1 hP p13 hk14 rfl 3 (by decide) (hg _ kw_242) (fun _ h9 => h9) rfl dX2_deep_1 ?_
  refine lv_aload_n hx hb dX2_deep_4 rfl (lv_at hl 0 rfl) ?_
  refine va_get (D := D) (ci := 2) (v := .int x7) (C := RX2) (T := TX2) (N := 8) hx hb hg inGX2 hown hKN.1 hP p13 hk14 rfl 6 (by decide) (hg _ kw_248) (fun _ h9 => h9) rfl dX2_deep_5 ?_
  refine lv_isub hx hb dX2_deep_8 ?_
  refine lv_topi (fun v15 ev15 => ?_)
  refine lv_aload_n hx hb dX2_deep_9 rfl (lv_at hl 0 rfl) ?_
  refine va_get (D := D) (ci := 2) (v := .long y5) (C := RX2) (T := TX2) (N := 8) hx hb hg inGX2 hown hKN.1 hP p13 hk14 rfl 4 (by decide) (hg _ kw_244) (fun _ h9 => h9) rfl dX2_deep_10 ?_
  refine lv_aload_n hx hb dX2_deep_13 rfl (lv_at hl 0 rfl) ?_
  refine va_get (D := D) (ci := 2) (v := .long y8) (C := RX2) (T := TX2) (N := 8) hx hb hg inGX2 hown hKN.1 hP p13 hk14 rfl 7 (by decide) (hg _ kw_251) (fun _ h9 => h9) rfl dX2_deep_14 ?_
  refine lv_lsub hx hb dX2_deep_17 ?_
  refine lv_topl (fun v16 ev16 => ?_)
  refine lv_aload_n hx hb dX2_deep_18 rfl (lv_at hl 0 rfl) ?_
  refine va_get (D := D) (ci := 2) (v := .int x7) (C := RX2) (T := TX2) (N := 8) hx hb hg inGX2 hown hKN.1 hP p13 hk14 rfl 6 (by decide) (hg _ kw_248) (fun _ h9 => h9) rfl dX2_deep_19 ?_
  refine lv_aload_n hx hb dX2_deep_22 rfl (lv_at hl 0 rfl) ?_
  refine va_get (D := D) (ci := 2) (v := .long y8) (C := RX2) (T := TX2) (N := 8) hx hb hg inGX2 hown hKN.1 hP p13 hk14 rfl 7 (by decide) (hg _ kw_251) (fun _ h9 => h9) rfl dX2_deep_23 ?_
  refine cg0 (rn_S (As := [.int v15, .long v16, .int x7, .long y8]) (rest := []) (x_X2_deepBetween l D Y Z H.size v15 v16 x7 y8) ⟨hx, hb, hml, hown, hg⟩ lk_X2_142 ⟨CP.blind, CP.at nilP hKN (nilD (A := fun _ => True))⟩ ⟨⟨rfl, rfl⟩, ⟨Nat.le_of_ble_eq_true rfl, Nat.le_of_ble_eq_true rfl⟩, ⟨(Nat.le_of_ble_eq_true rfl), (Nat.le_of_ble_eq_true rfl)⟩⟩ hl.1 rfl (Nat.le_of_ble_eq_true rfl) dX2_deep_26) hP hS hA (fun u17 H locs hw18 hP hS => ?_)
  refine W.eq (g2 := F0 m 29 ls [.long u17]) rfl ?_
  refine W.widen (k := 0) (n := 0) (Nat.le_of_ble_eq_true rfl) (Nat.le_of_ble_eq_true rfl) ?_
  exact W.lret (v := u17) hx hb hr (fun t ht hW => ⟨⟨u17, rfl, trivial, CB.mk ht hP hD⟩, hS.F ht⟩) hS.2.2 dX2_deep_29
set_option maxHeartbeats 4000000 in
set_option maxRecDepth 100000 in
theorem x_X2_score (l : Launch) (D : va_G) (Y : Nat → ClassId) (Z : Nat → Nat) (sz : Nat) (ws : va_W) (T : RT) (g : GN) (q : GQ)  (p0 : Nat) (hT : TW Y Z T g q ws) (ht0 : T p0 = (9, 0, 0)) : Met l yX2_score (.code yX2_score cX2_score 8 (some .long) :: GW) ({ frames := 0, cells := 0, slots := 0, locals := 0 }) (va_Pc [.ref p0] (CPC D Y Z ws sz)) (QG (S := Int64) (fun u => some (.long u)) (fun u => True) (fun u => CB D ws (va_A ws sz)) (va_A ws sz)) 0 0 (va_A ws sz) := by
  refine Met.ofW (cc := cX2_score) (maxL := 8) (ret := (some .long)) (by decide) rfl ?_
  intro p e s m args below meth c s₁ B hml hv
  obtain ⟨rfl, ⟨hsz, hP, hKN, hD0⟩, hSZ⟩ := hv
  have hx := B.exec
  have hb := B.bytes
  have hr := B.returns
  have hts := atoms_spec (ws := .code yX2_score cX2_score 8 (some .long) :: GW) B.pre
  have hg : ∀ w ∈ GW, w.before _ s = true := fun w h => hts w (List.mem_cons_of_mem _ h)
  have hown : s.vm.findClass RX2 = some m.cls := findClass_of_methodNamed B.named
  have hlocks := B.notSynchronized
  subst hsz
  have hD := hD0.self (sz := s.heap.size)
  generalize hAe : va_A ws s.heap.size = A at hD hSZ ⊢
  have hA : ∀ q : Nat, s.heap.size ≤ q → A q := fun q h => by rw [← hAe]; exact Or.inr h
  clear hAe hD0 hts B
  have hl := lv_entry ([.ref p0]) (n := 8) (Nat.le_of_ble_eq_true rfl)
  rw [lg_entry_eq]
  generalize (lg_sl ([.ref p0]) ++ List.replicate (8 - (lg_sl ([.ref p0])).length) Slot.unset).toArray = ls at hl ⊢
  have hl : lv_has ls 8 [(0, .ref p0)] := hl
  refine w_start (A0 := A) hP (fun H locs hP hS => ?_)
  refine lv_aload_n hx hb dX2_score_0 rfl (lv_at hl 0 rfl) ?_
  refine ok9 hT ht0 (fun p13 a1 a2 a3 x4 y5 y6 x7 y8 hk14 h9 h10 h11 h12 => ?_)
  refine va_get (D := D) (ci := 2) (v := .int x4) (C := RX2) (T := TX2) (N := 8) hx hb hg inGX2 hown hKN.1 hP p13 hk14 rfl 3 (by decide) (hg _ kw_242) (fun _ h9 => h9) rfl dX2_score_1 ?_
  refine lv_aload_n hx hb dX2_score_4 rfl (lv_at hl 0 rfl) ?_
  refine va_get (D := D) (ci := 2) (v := .int x7) (C := RX2) (T := TX2) (N := 8) hx hb hg inGX2 hown hKN.1 hP p13 hk14 rfl 6 (by decide) (hg _ kw_248) (fun _ h9 => h9) rfl dX2_score_5 ?_
  refine lv_isub hx hb dX2_score_8 ?_
  refine lv_topi (fun v15 ev15 => ?_)
  refine lv_istore_n (lv' := [(1, .int v15), (0, .ref p0)]) hx hb dX2_score_9 rfl hl (by decide) rfl (fun ls hl => ?_)
  refine lv_iload_n hx hb dX2_score_10 rfl (lv_at hl 0 rfl) ?_
  have j16 := rgI v15
  have j17 := Int32.toInt_toInt64 v15
  refine lv_i2l (v := v15.toInt64) hx hb dX2_score_11 (rfl) ?_
  refine lv_aload_n hx hb dX2_score_12 rfl (lv_at hl 1 rfl) ?_
  refine va_get (D := D) (ci := 2) (v := .int x7) (C := RX2) (T := TX2) (N := 8) hx hb hg inGX2 hown hKN.1 hP p13 hk14 rfl 6 (by decide) (hg _ kw_248) (fun _ h9 => h9) rfl dX2_score_13 ?_
  have j18 := rgI x7
  have j19 := Int32.toInt_toInt64 x7
  refine lv_i2l (v := x7.toInt64) hx hb dX2_score_16 (rfl) ?_
  refine lv_lmul hx hb dX2_score_17 ?_
  refine lv_topl (fun v20 ev20 => ?_)
  have hv20 := l_mulR (a := -2147483648) (b := 2147483647) (c := -2147483648) (d := 2147483647) (lo := -4611686016279904256) (hi := 4611686018427387904) (Int32.toInt_toInt64 v15) (Int32.toInt_toInt64 x7) ev20 (by omega) (by omega) (by decide) (by decide)
  refine lv_lstore_n (lv' := [(2, .long v20), (1, .int v15), (0, .ref p0)]) hx hb dX2_score_18 rfl hl (by decide) rfl (fun ls hl => ?_)
  refine lv_aload_n hx hb dX2_score_19 rfl (lv_at hl 2 rfl) ?_
  refine va_get (D := D) (ci := 2) (v := .long y5) (C := RX2) (T := TX2) (N := 8) hx hb hg inGX2 hown hKN.1 hP p13 hk14 rfl 4 (by decide) (hg _ kw_244) (fun _ h9 => h9) rfl dX2_score_20 ?_
  refine lv_aload_n hx hb dX2_score_23 rfl (lv_at hl 2 rfl) ?_
  refine va_get (D := D) (ci := 2) (v := .long y8) (C := RX2) (T := TX2) (N := 8) hx hb hg inGX2 hown hKN.1 hP p13 hk14 rfl 7 (by decide) (hg _ kw_251) (fun _ h9 => h9) rfl dX2_score_24 ?_
  refine lv_lsub hx hb dX2_score_27 ?_
  refine lv_topl (fun v21 ev21 => ?_)
  refine lv_aload_n hx hb dX2_score_28 rfl (lv_at hl 2 rfl) ?_
  refine va_get (D := D) (ci := 2) (v := .int x7) (C := RX2) (T := TX2) (N := 8) hx hb hg inGX2 hown hKN.1 hP p13 hk14 rfl 6 (by decide) (hg _ kw_248) (fun _ h9 => h9) rfl dX2_score_29 ?_
  refine lv_i2l (v := x7.toInt64) hx hb dX2_score_32 (rfl) ?_
  refine lv_lmul hx hb dX2_score_33 ?_
  refine lv_topl (fun v22 ev22 => ?_)
  refine lv_aload_n hx hb dX2_score_34 rfl (lv_at hl 2 rfl) ?_
  refine va_get (D := D) (ci := 2) (v := .long y8) (C := RX2) (T := TX2) (N := 8) hx hb hg inGX2 hown hKN.1 hP p13 hk14 rfl 7 (by decide) (hg _ kw_251) (fun _ h9 => h9) rfl dX2_score_35 ?_
  refine lv_iload_n hx hb dX2_score_38 rfl (lv_at hl 1 rfl) ?_
  refine lv_i2l (v := v15.toInt64) hx hb dX2_score_39 (rfl) ?_
  refine lv_lmul hx hb dX2_score_40 ?_
  refine lv_topl (fun v23 ev23 => ?_)
  refine lv_lsub hx hb dX2_score_41 ?_
  refine lv_topl (fun v24 ev24 => ?_)
  refine lv_lstore (lv' := [(4, .long v24), (2, .long v20), (1, .int v15), (0, .ref p0)]) hx hb dX2_score_42 hl (by decide) rfl (fun ls hl => ?_)
  refine lv_lload_n hx hb dX2_score_44 rfl (lv_at hl 1 rfl) ?_
  refine lv_lconst (v := 1) hx hb dX2_score_45 (by decide) ?_
  refine W.lcmp hx hb dX2_score_46 ?_
  refine lv_if_lt (tgt := 66) hx hb dX2_score_47 (by decide) (fun c25 => ?_) (fun c25 => ?_)
  · skip
    have c25 := l_lt (Eq.refl v20.toInt) (show (1 : Int64).toInt = 1 by decide) c25
    refine lv_lconst (v := 0) hx hb dX2_score_66 (by decide) ?_
    refine W.widen (k := 0) (n := 0) (Nat.le_of_ble_eq_true rfl) (Nat.le_of_ble_eq_true rfl) ?_
    have zl0 : (0 : Int64).toInt = 0 := by decide
    exact W.lret (v := 0) hx hb hr (fun t ht hW => ⟨⟨(0), rfl, trivial, CB.mk ht hP hD⟩, hS.F ht⟩) hS.2.2 dX2_score_67
  · skip
    have c25 := l_nlt (Eq.refl v20.toInt) (show (1 : Int64).toInt = 1 by decide) c25
    refine lv_lload hx hb dX2_score_50 (lv_at hl 0 rfl) ?_
    refine lv_lload_n hx hb dX2_score_52 rfl (lv_at hl 1 rfl) ?_
    refine W.lcmp hx hb dX2_score_53 ?_
    refine lv_if_lt (tgt := 66) hx hb dX2_score_54 (by decide) (fun c26 => ?_) (fun c26 => ?_)
    · skip
      have c26 := l_lt (Eq.refl v24.toInt) (Eq.refl v20.toInt) c26
      refine lv_lconst (v := 0) hx hb dX2_score_66 (by decide) ?_
      refine W.widen (k := 0) (n := 0) (Nat.le_of_ble_eq_true rfl) (Nat.le_of_ble_eq_true rfl) ?_
      have zl0 : (0 : Int64).toInt = 0 := by decide
      exact W.lret (v := 0) hx hb hr (fun t ht hW => ⟨⟨(0), rfl, trivial, CB.mk ht hP hD⟩, hS.F ht⟩) hS.2.2 dX2_score_67
    · skip
      have c26 := l_nlt (Eq.refl v24.toInt) (Eq.refl v20.toInt) c26
      refine lv_aload_n hx hb dX2_score_57 rfl (lv_at hl 3 rfl) ?_
      refine va_get (D := D) (ci := 2) (v := .long y6) (C := RX2) (T := TX2) (N := 8) hx hb hg inGX2 hown hKN.1 hP p13 hk14 rfl 5 (by decide) (hg _ kw_245) (fun _ h9 => h9) rfl dX2_score_58 ?_
      refine lv_lconst (v := 1) hx hb dX2_score_61 (by decide) ?_
      refine W.lcmp hx hb dX2_score_62 ?_
      refine lv_if_ge (tgt := 68) hx hb dX2_score_63 (by decide) (fun c27 => ?_) (fun c27 => ?_)
      · skip
        have c27 := l_ge (Eq.refl y6.toInt) (show (1 : Int64).toInt = 1 by decide) c27
        refine lv_lload hx hb dX2_score_68 (lv_at hl 0 rfl) ?_
        refine lv_lload_n hx hb dX2_score_70 rfl (lv_at hl 1 rfl) ?_
        refine lv_ldiv hx hb dX2_score_71 (l_nz (Eq.refl v20.toInt) (by omega)) ?_
        refine lv_topl (fun v28 ev28 => ?_)
        have hv28 := l_div (Eq.refl v24.toInt) (Eq.refl v20.toInt) ev28 (by omega) (by omega)
        refine lv_lstore (lv' := [(6, .long v28), (4, .long v24), (2, .long v20), (1, .int v15), (0, .ref p0)]) hx hb dX2_score_72 hl (by decide) rfl (fun ls hl => ?_)
        refine lv_lload hx hb dX2_score_74 (lv_at hl 0 rfl) ?_
        refine lv_lload hx hb dX2_score_76 (lv_at hl 0 rfl) ?_
        refine lv_lmul hx hb dX2_score_78 ?_
        refine lv_topl (fun v29 ev29 => ?_)
        refine lv_aload_n hx hb dX2_score_79 rfl (lv_at hl 4 rfl) ?_
        refine va_get (D := D) (ci := 2) (v := .int x7) (C := RX2) (T := TX2) (N := 8) hx hb hg inGX2 hown hKN.1 hP p13 hk14 rfl 6 (by decide) (hg _ kw_248) (fun _ h9 => h9) rfl dX2_score_80 ?_
        refine lv_i2l (v := x7.toInt64) hx hb dX2_score_83 (rfl) ?_
        refine lv_lmul hx hb dX2_score_84 ?_
        refine lv_topl (fun v30 ev30 => ?_)
        refine lv_aload_n hx hb dX2_score_85 rfl (lv_at hl 4 rfl) ?_
        refine va_get (D := D) (ci := 2) (v := .long y6) (C := RX2) (T := TX2) (N := 8) hx hb hg inGX2 hown hKN.1 hP p13 hk14 rfl 5 (by decide) (hg _ kw_245) (fun _ h9 => h9) rfl dX2_score_86 ?_
        refine lv_ldiv hx hb dX2_score_89 (l_nz (Eq.refl y6.toInt) (by omega)) ?_
        refine lv_topl (fun v31 ev31 => ?_)
        have hv31 := l_divS (Eq.refl v30.toInt) (Eq.refl y6.toInt) ev31 (by omega)
        refine W.widen (k := 0) (n := 0) (Nat.le_of_ble_eq_true rfl) (Nat.le_of_ble_eq_true rfl) ?_
        exact W.lret (v := v31) hx hb hr (fun t ht hW => ⟨⟨v31, rfl, trivial, CB.mk ht hP hD⟩, hS.F ht⟩) hS.2.2 dX2_score_90
      · skip
        have c27 := l_nge (Eq.refl y6.toInt) (show (1 : Int64).toInt = 1 by decide) c27
        refine lv_lconst (v := 0) hx hb dX2_score_66 (by decide) ?_
        refine W.widen (k := 0) (n := 0) (Nat.le_of_ble_eq_true rfl) (Nat.le_of_ble_eq_true rfl) ?_
        have zl0 : (0 : Int64).toInt = 0 := by decide
        exact W.lret (v := 0) hx hb hr (fun t ht hW => ⟨⟨(0), rfl, trivial, CB.mk ht hP hD⟩, hS.F ht⟩) hS.2.2 dX2_score_67
set_option maxHeartbeats 4000000 in
set_option maxRecDepth 100000 in
theorem x_X2_hasNumber (l : Launch) (D : va_G) (Y : Nat → ClassId) (Z : Nat → Nat) (sz : Nat) (ws : va_W) (T : RT) (g : GN) (q : GQ)  (p0 : Nat) (p1 : Int32) (p2 : Int32) (hT : TW Y Z T g q ws) (ht0 : T p0 = (9, 0, 0)) : Met l yX2_hasNumber (.code yX2_hasNumber cX2_hasNumber 4 (some .boolean) :: GW) ({ frames := 0, cells := 0, slots := 0, locals := 0 }) (va_Pc [.ref p0, .int p1, .int p2] (CPC D Y Z ws sz)) (QG (S := Int32) (fun u => some (.int u)) (fun u => (0 ≤ u.toInt ∧ u.toInt ≤ 1)) (fun u => CB D ws (va_A ws sz)) (va_A ws sz)) 0 0 (va_A ws sz) := by
  refine Met.ofW (cc := cX2_hasNumber) (maxL := 4) (ret := (some .boolean)) (by decide) rfl ?_
  intro p e s m args below meth c s₁ B hml hv
  obtain ⟨rfl, ⟨hsz, hP, hKN, hD0⟩, hSZ⟩ := hv
  have hx := B.exec
  have hb := B.bytes
  have hr := B.returns
  have hts := atoms_spec (ws := .code yX2_hasNumber cX2_hasNumber 4 (some .boolean) :: GW) B.pre
  have hg : ∀ w ∈ GW, w.before _ s = true := fun w h => hts w (List.mem_cons_of_mem _ h)
  have hown : s.vm.findClass RX2 = some m.cls := findClass_of_methodNamed B.named
  have hlocks := B.notSynchronized
  subst hsz
  have hD := hD0.self (sz := s.heap.size)
  generalize hAe : va_A ws s.heap.size = A at hD hSZ ⊢
  have hA : ∀ q : Nat, s.heap.size ≤ q → A q := fun q h => by rw [← hAe]; exact Or.inr h
  clear hAe hD0 hts B
  have hl := lv_entry ([.ref p0, .int p1, .int p2]) (n := 4) (Nat.le_of_ble_eq_true rfl)
  rw [lg_entry_eq]
  generalize (lg_sl ([.ref p0, .int p1, .int p2]) ++ List.replicate (4 - (lg_sl ([.ref p0, .int p1, .int p2])).length) Slot.unset).toArray = ls at hl ⊢
  have hl : lv_has ls 4 [(0, .ref p0), (1, .int p1), (2, .int p2)] := hl
  refine w_start (A0 := A) hP (fun H locs hP hS => ?_)
  refine lv_iload_n hx hb dX2_hasNumber_0 rfl (lv_at hl 1 rfl) ?_
  refine lv_istore_n (lv' := [(3, .int p1), (0, .ref p0), (1, .int p1), (2, .int p2)]) hx hb dX2_hasNumber_1 rfl hl (by decide) rfl (fun ls hl => ?_)
  refine w_loop (σ := Int32) (fun xx H locs ls => match xx with | v27 => va_P D vwCl ws H ∧ va_D A ws ∧ va_S A s.heap H locs ∧ lv_has ls 4 [(3, .int v27), (0, .ref p0), (1, .int p1), (2, .int p2)] ∧ TW Y Z T g q ws) (fun xx => match xx with | v27 => (2147483647 - v27.toInt).toNat) (p1) ⟨hP, hD, hS, lv_sub hl [0, 1, 2, 3] rfl, hT⟩ (fun xx H locs ls hI ih => ?_)
  revert hI ih
  generalize xx = v27
  intro hI ih
  obtain ⟨hP, hD, hS, hl, hT⟩ := hI
  have ih54 := ih
  refine lv_iload_n hx hb dX2_hasNumber_2 rfl (lv_at hl 0 rfl) ?_
  refine lv_iload_n hx hb dX2_hasNumber_3 rfl (lv_at hl 2 rfl) ?_
  refine lv_iload_n hx hb dX2_hasNumber_4 rfl (lv_at hl 3 rfl) ?_
  refine lv_iadd hx hb dX2_hasNumber_5 ?_
  refine lv_topi (fun v55 ev55 => ?_)
  have j56 := rgI v27
  have j57 := rgI v55
  refine lv_icmp_ge (tgt := 39) hx hb dX2_hasNumber_6 (by decide) (fun c58 => ?_) (fun c58 => ?_)
  · skip
    have c58 := i_le (Eq.refl v55.toInt) (Eq.refl v27.toInt) c58
    refine lv_iconst (v := 0) hx hb dX2_hasNumber_39 (by decide) ?_
    refine W.widen (k := 0) (n := 0) (Nat.le_of_ble_eq_true rfl) (Nat.le_of_ble_eq_true rfl) ?_
    have zi0 : (0 : Int32).toInt = 0 := by decide
    exact W.zret (v := 0) hx hb hr (by decide) (fun t ht hW => ⟨⟨(0), rfl, ((show (0 ≤ (0 : Int32).toInt ∧ (0 : Int32).toInt ≤ 1) by omega)), CB.mk ht hP hD⟩, hS.F ht⟩) hS.2.2 dX2_hasNumber_40
  · skip
    have c58 := i_nle (Eq.refl v55.toInt) (Eq.refl v27.toInt) c58
    refine lv_iload_n hx hb dX2_hasNumber_9 rfl (lv_at hl 0 rfl) ?_
    refine lv_if_lt (tgt := 33) hx hb dX2_hasNumber_10 (by decide) (fun c59 => ?_) (fun c59 => ?_)
    · skip
      have c59 := i_lt (Eq.refl v27.toInt) (show (0 : Int32).toInt = 0 by decide) c59
      obtain ⟨v60, ev60⟩ : ∃ y : Int32, y = v27 + 1 := ⟨_, rfl⟩
      have hv60 := i_add (Eq.refl v27.toInt) (show (1 : Int32).toInt = 1 by decide) ev60 (by omega) (by omega)
      refine lv_iinc (v := v60) (lv' := [(3, .int v60), (0, .ref p0), (1, .int p1), (2, .int p2)]) hx hb dX2_hasNumber_33 hl (k := 0) rfl (by rw [ev60]; rfl) (by decide) rfl (fun ls hl => ?_)
      refine lv_goto (tgt := 2) hx hb dX2_hasNumber_36 (by decide) ?_
      exact ih54 (v60) H locs ls (by show (2147483647 - v60.toInt).toNat < (2147483647 - v27.toInt).toNat; omega) ⟨hP, hD, hS, lv_sub hl [0, 1, 2, 3] rfl, hT⟩
    · skip
      have c59 := i_nlt (Eq.refl v27.toInt) (show (0 : Int32).toInt = 0 by decide) c59
      refine lv_iload_n hx hb dX2_hasNumber_13 rfl (lv_at hl 0 rfl) ?_
      refine lv_sipush (v := 600) hx hb dX2_hasNumber_14 (by decide) ?_
      refine lv_icmp_ge (tgt := 33) hx hb dX2_hasNumber_17 (by decide) (fun c61 => ?_) (fun c61 => ?_)
      · skip
        have c61 := i_le (show (600 : Int32).toInt = 600 by decide) (Eq.refl v27.toInt) c61
        obtain ⟨v62, ev62⟩ : ∃ y : Int32, y = v27 + 1 := ⟨_, rfl⟩
        have hv62 := i_add (Eq.refl v27.toInt) (show (1 : Int32).toInt = 1 by decide) ev62 (by omega) (by omega)
        refine lv_iinc (v := v62) (lv' := [(3, .int v62), (0, .ref p0), (1, .int p1), (2, .int p2)]) hx hb dX2_hasNumber_33 hl (k := 0) rfl (by rw [ev62]; rfl) (by decide) rfl (fun ls hl => ?_)
        refine lv_goto (tgt := 2) hx hb dX2_hasNumber_36 (by decide) ?_
        exact ih54 (v62) H locs ls (by show (2147483647 - v62.toInt).toNat < (2147483647 - v27.toInt).toNat; omega) ⟨hP, hD, hS, lv_sub hl [0, 1, 2, 3] rfl, hT⟩
      · skip
        have c61 := i_nle (show (600 : Int32).toInt = 600 by decide) (Eq.refl v27.toInt) c61
        refine lv_aload_n hx hb dX2_hasNumber_20 rfl (lv_at hl 1 rfl) ?_
        refine ok9 hT ht0 (fun p75 a63 a64 a65 x66 y67 y68 x69 y70 hk76 h71 h72 h73 h74 => ?_)
        refine va_get (D := D) (ci := 2) (v := .ref a63) (C := RX2) (T := TX2) (N := 8) hx hb hg inGX2 hown hKN.1 hP p75 hk76 rfl 0 (by decide) (hg _ kw_232) (fun _ h9 => h9) rfl dX2_hasNumber_21 ?_
        refine lv_iload_n hx hb dX2_hasNumber_24 rfl (lv_at hl 0 rfl) ?_
        refine tr_ld12 hx hb hKN hP hT h71 (vp_in_iff.mpr ⟨by omega, by omega⟩) dX2_hasNumber_25 (fun v77 => ?_)
        refine lv_ldc (v := (-100000)) hx hb hown (hg _ kw_506) dX2_hasNumber_26 ?_
        have j78 := rgI v77
        refine lv_icmp_eq (tgt := 33) hx hb dX2_hasNumber_28 (by decide) (fun c79 => ?_) (fun c79 => ?_)
        · skip
          have c79 := i_eq (Eq.refl v77.toInt) (show ((-100000) : Int32).toInt = -100000 by decide) c79
          obtain ⟨v80, ev80⟩ : ∃ y : Int32, y = v27 + 1 := ⟨_, rfl⟩
          have hv80 := i_add (Eq.refl v27.toInt) (show (1 : Int32).toInt = 1 by decide) ev80 (by omega) (by omega)
          refine lv_iinc (v := v80) (lv' := [(3, .int v80), (0, .ref p0), (1, .int p1), (2, .int p2)]) hx hb dX2_hasNumber_33 hl (k := 0) rfl (by rw [ev80]; rfl) (by decide) rfl (fun ls hl => ?_)
          refine lv_goto (tgt := 2) hx hb dX2_hasNumber_36 (by decide) ?_
          exact ih54 (v80) H locs ls (by show (2147483647 - v80.toInt).toNat < (2147483647 - v27.toInt).toNat; omega) ⟨hP, hD, hS, lv_sub hl [0, 1, 2, 3] rfl, hT⟩
        · skip
          have c79 := i_ne (Eq.refl v77.toInt) (show ((-100000) : Int32).toInt = -100000 by decide) c79
          refine lv_iconst (v := 1) hx hb dX2_hasNumber_31 (by decide) ?_
          refine W.widen (k := 0) (n := 0) (Nat.le_of_ble_eq_true rfl) (Nat.le_of_ble_eq_true rfl) ?_
          have zi1 : (1 : Int32).toInt = 1 := by decide
          exact W.zret (v := 1) hx hb hr (by decide) (fun t ht hW => ⟨⟨(1), rfl, ((show (0 ≤ (1 : Int32).toInt ∧ (1 : Int32).toInt ≤ 1) by omega)), CB.mk ht hP hD⟩, hS.F ht⟩) hS.2.2 dX2_hasNumber_32
set_option maxHeartbeats 4000000 in
set_option maxRecDepth 100000 in
theorem x_X2_dips (l : Launch) (D : va_G) (Y : Nat → ClassId) (Z : Nat → Nat) (sz : Nat) (ws : va_W) (T : RT) (g : GN) (q : GQ)  (p0 : Nat) (p1 : Int32) (p2 : Int32) (p3 : Int32) (hT : TW Y Z T g q ws) (ht0 : T p0 = (9, 0, 0)) (hp0 : (p1.toInt ≤ 200)) : Met l yX2_dips (.code yX2_dips cX2_dips 6 (some .int) :: GW) ({ frames := 1, cells := 0, slots := 0, locals := 23 }) (va_Pc [.ref p0, .int p1, .int p2, .int p3] (CPC D Y Z ws sz)) (QG (S := Int32) (fun u => some (.int u)) (fun u => True) (fun u => CB D ws (va_A ws sz)) (va_A ws sz)) 0 0 (va_A ws sz) := by
  refine Met.ofW (cc := cX2_dips) (maxL := 6) (ret := (some .int)) (by decide) rfl ?_
  intro p e s m args below meth c s₁ B hml hv
  obtain ⟨rfl, ⟨hsz, hP, hKN, hD0⟩, hSZ⟩ := hv
  have hx := B.exec
  have hb := B.bytes
  have hr := B.returns
  have hts := atoms_spec (ws := .code yX2_dips cX2_dips 6 (some .int) :: GW) B.pre
  have hg : ∀ w ∈ GW, w.before _ s = true := fun w h => hts w (List.mem_cons_of_mem _ h)
  have hown : s.vm.findClass RX2 = some m.cls := findClass_of_methodNamed B.named
  have hlocks := B.notSynchronized
  subst hsz
  have hD := hD0.self (sz := s.heap.size)
  generalize hAe : va_A ws s.heap.size = A at hD hSZ ⊢
  have hA : ∀ q : Nat, s.heap.size ≤ q → A q := fun q h => by rw [← hAe]; exact Or.inr h
  clear hAe hD0 hts B
  have hl := lv_entry ([.ref p0, .int p1, .int p2, .int p3]) (n := 6) (Nat.le_of_ble_eq_true rfl)
  rw [lg_entry_eq]
  generalize (lg_sl ([.ref p0, .int p1, .int p2, .int p3]) ++ List.replicate (6 - (lg_sl ([.ref p0, .int p1, .int p2, .int p3])).length) Slot.unset).toArray = ls at hl ⊢
  have hl : lv_has ls 6 [(0, .ref p0), (1, .int p1), (2, .int p2), (3, .int p3)] := hl
  refine w_start (A0 := A) hP (fun H locs hP hS => ?_)
  refine lv_iload_n hx hb dX2_dips_0 rfl (lv_at hl 1 rfl) ?_
  refine lv_iconst (v := 1) hx hb dX2_dips_1 (by decide) ?_
  have j1 := rgI p1
  refine lv_icmp_ge (tgt := 7) hx hb dX2_dips_2 (by decide) (fun c2 => ?_) (fun c2 => ?_)
  · skip
    have c2 := i_le (show (1 : Int32).toInt = 1 by decide) (Eq.refl p1.toInt) c2
    refine lv_iconst (v := 0) hx hb dX2_dips_7 (by decide) ?_
    refine lv_istore (lv' := [(4, .int 0), (0, .ref p0), (1, .int p1), (2, .int p2), (3, .int p3)]) hx hb dX2_dips_8 hl (by decide) rfl (fun ls hl => ?_)
    refine lv_iload_n hx hb dX2_dips_10 rfl (lv_at hl 4 rfl) ?_
    refine lv_iload_n hx hb dX2_dips_11 rfl (lv_at hl 2 rfl) ?_
    refine lv_isub hx hb dX2_dips_12 ?_
    refine lv_topi (fun v3 ev3 => ?_)
    refine lv_istore (lv' := [(5, .int v3), (4, .int 0), (0, .ref p0), (1, .int p1), (2, .int p2), (3, .int p3)]) hx hb dX2_dips_13 hl (by decide) rfl (fun ls hl => ?_)
    have zi0 : (0 : Int32).toInt = 0 := by decide
    refine w_loop (σ := Int32 × Int32) (fun xx H locs ls => match xx with | (v58, v59) => va_P D vwCl ws H ∧ va_D A ws ∧ va_S A s.heap H locs ∧ lv_has ls 6 [(5, .int v58), (4, .int v59), (0, .ref p0), (1, .int p1), (2, .int p2), (3, .int p3)] ∧ TW Y Z T g q ws) (fun xx => match xx with | (v58, v59) => (600 - v58.toInt).toNat) (v3, 0) ⟨hP, hD, hS, lv_sub hl [0, 1, 2, 3, 4, 5] rfl, hT⟩ (fun xx H locs ls hI ih => ?_)
    obtain ⟨v58, v59⟩ := xx
    obtain ⟨hP, hD, hS, hl, hT⟩ := hI
    have ih114 := ih
    refine lv_iload hx hb dX2_dips_15 (lv_at hl 0 rfl) ?_
    refine lv_sipush (v := 600) hx hb dX2_dips_17 (by decide) ?_
    have j142 := rgI v58
    refine lv_icmp_ge (tgt := 52) hx hb dX2_dips_20 (by decide) (fun c143 => ?_) (fun c143 => ?_)
    · skip
      have c143 := i_le (show (600 : Int32).toInt = 600 by decide) (Eq.refl v58.toInt) c143
      refine lv_iload hx hb dX2_dips_52 (lv_at hl 1 rfl) ?_
      refine W.widen (k := 0) (n := 0) (Nat.le_of_ble_eq_true rfl) (Nat.le_of_ble_eq_true rfl) ?_
      exact W.iret (v := v59) hx hb hr (fun t ht hW => ⟨⟨v59, rfl, trivial, CB.mk ht hP hD⟩, hS.F ht⟩) hS.2.2 dX2_dips_54
    · skip
      have c143 := i_nle (show (600 : Int32).toInt = 600 by decide) (Eq.refl v58.toInt) c143
      refine lv_iload hx hb dX2_dips_23 (lv_at hl 1 rfl) ?_
      refine lv_aload_n hx hb dX2_dips_25 rfl (lv_at hl 2 rfl) ?_
      refine lv_iload hx hb dX2_dips_26 (lv_at hl 0 rfl) ?_
      refine lv_iload_n hx hb dX2_dips_28 rfl (lv_at hl 4 rfl) ?_
      refine ok9 hT ht0 (fun p156 a144 a145 a146 x147 y148 y149 x150 y151 hk157 h152 h153 h154 h155 => ?_)
      refine cga (rn_V (As := [.int v58, .int p2]) (rest := [.int v59]) (b := p0) (x_X2_hasNumber l D Y Z H.size ws T g q p0 v58 p2 hT ht0) ⟨hx, hb, hml, hown, hg⟩ lk_X2_146 ⟨CPC.blind, va_recv hKN.1 hP (ci := 2) (q0 := p156) rfl hk157, CPC.at hP hKN hD hSZ hS hA⟩ ⟨⟨rfl, rfl⟩, ⟨Nat.le_of_ble_eq_true rfl, Nat.le_of_ble_eq_true rfl⟩, ⟨(Nat.le_of_ble_eq_true rfl), (Nat.le_of_ble_eq_true rfl)⟩⟩ hl.1 rfl (Nat.le_of_ble_eq_true rfl) dX2_dips_29) hP hD hS hA (fun u158 H locs hw159 hP hD hS => ?_)
      have hw161 : (0 ≤ u158.toInt ∧ u158.toInt ≤ 1) := hw159
      refine W.eq (g2 := F0 m 32 ls [.int u158, .int v59]) rfl ?_
      refine w_join (σ := Int32) (pcJ := 40) (kJ := 0) (nJ := 0) (stk := fun xx => match xx with | v163 => [.int v163, .int v59]) (fun xx H locs ls => match xx with | v163 => va_P D vwCl ws H ∧ va_D A ws ∧ va_S A s.heap H locs ∧ lv_has ls 6 [(5, .int v58), (4, .int v59), (0, .ref p0), (1, .int p1), (2, .int p2), (3, .int p3)] ∧ TW Y Z T g q ws ∧ (0 ≤ v163.toInt ∧ v163.toInt ≤ 1)) (fun xx H locs ls hI => ?_) (fun jn164 => ?_)
      · skip
        revert hI
        generalize xx = v163
        intro hI
        obtain ⟨hP, hD, hS, hl, hT, hq165⟩ := hI
        refine W.eq (g2 := F0 m 40 ls [.int v163, .int v59]) rfl ?_
        refine lv_iadd hx hb dX2_dips_40 ?_
        refine lv_topi (fun v166 ev166 => ?_)
        refine lv_istore (lv' := [(4, .int v166), (5, .int v58), (0, .ref p0), (1, .int p1), (2, .int p2), (3, .int p3)]) hx hb dX2_dips_41 hl (by decide) rfl (fun ls hl => ?_)
        refine lv_iload hx hb dX2_dips_43 (lv_at hl 1 rfl) ?_
        refine lv_iload_n hx hb dX2_dips_45 rfl (lv_at hl 3 rfl) ?_
        refine lv_iadd hx hb dX2_dips_46 ?_
        refine lv_topi (fun v167 ev167 => ?_)
        have hv167 := i_add (Eq.refl v58.toInt) (Eq.refl p1.toInt) ev167 (by omega) (by omega)
        refine lv_istore (lv' := [(5, .int v167), (4, .int v166), (0, .ref p0), (1, .int p1), (2, .int p2), (3, .int p3)]) hx hb dX2_dips_47 hl (by decide) rfl (fun ls hl => ?_)
        refine lv_goto (tgt := 15) hx hb dX2_dips_49 (by decide) ?_
        exact ih114 (v167, v166) H locs ls (by show (600 - v167.toInt).toNat < (600 - v58.toInt).toNat; omega) ⟨hP, hD, hS, lv_sub hl [0, 1, 2, 3, 4, 5] rfl, hT⟩
      · skip
        refine lv_if_eq (tgt := 39) hx hb dX2_dips_32 (by decide) (fun c168 => ?_) (fun c168 => ?_)
        · skip
          have c168 := i_eq (Eq.refl u158.toInt) (show (0 : Int32).toInt = 0 by decide) c168
          refine lv_iconst (v := 0) hx hb dX2_dips_39 (by decide) ?_
          have zi0 : (0 : Int32).toInt = 0 := by decide
          refine W.widen (k := 0) (n := 0) (Nat.le_of_ble_eq_true rfl) (Nat.le_of_ble_eq_true rfl) ?_
          exact jn164 (0) H locs ls ⟨hP, hD, hS, lv_sub hl [0, 1, 2, 3, 4, 5] rfl, hT, by omega⟩
        · skip
          have c168 := i_ne (Eq.refl u158.toInt) (show (0 : Int32).toInt = 0 by decide) c168
          refine lv_iconst (v := 1) hx hb dX2_dips_35 (by decide) ?_
          refine lv_goto (tgt := 40) hx hb dX2_dips_36 (by decide) ?_
          have zi1 : (1 : Int32).toInt = 1 := by decide
          refine W.widen (k := 0) (n := 0) (Nat.le_of_ble_eq_true rfl) (Nat.le_of_ble_eq_true rfl) ?_
          exact jn164 (1) H locs ls ⟨hP, hD, hS, lv_sub hl [0, 1, 2, 3, 4, 5] rfl, hT, by omega⟩
  · skip
    have c2 := i_nle (show (1 : Int32).toInt = 1 by decide) (Eq.refl p1.toInt) c2
    refine lv_iconst (v := 0) hx hb dX2_dips_5 (by decide) ?_
    refine W.widen (k := 0) (n := 0) (Nat.le_of_ble_eq_true rfl) (Nat.le_of_ble_eq_true rfl) ?_
    have zi0 : (0 : Int32).toInt = 0 := by decide
    exact W.iret (v := 0) hx hb hr (fun t ht hW => ⟨⟨(0), rfl, trivial, CB.mk ht hP hD⟩, hS.F ht⟩) hS.2.2 dX2_dips_6
set_option maxHeartbeats 4000000 in
set_option maxRecDepth 100000 in
theorem x_X2_shiftOf (l : Launch) (D : va_G) (Y : Nat → ClassId) (Z : Nat → Nat) (sz : Nat) (ws : va_W) (T : RT) (g : GN) (q : GQ)  (p0 : Nat) (p1 : Int32) (p2 : Int32) (hT : TW Y Z T g q ws) (ht0 : T p0 = (9, 0, 0)) : Met l yX2_shiftOf (.code yX2_shiftOf cX2_shiftOf 16 (some .int) :: GW) ({ frames := 1, cells := 0, slots := 0, locals := 21 }) (va_Pc [.ref p0, .int p1, .int p2] (CPC D Y Z ws sz)) (QG (S := Int32) (fun u => some (.int u)) (fun u => True) (fun u => CB D ws (va_A ws sz)) (va_A ws sz)) 0 0 (va_A ws sz) := by
  refine Met.ofW (cc := cX2_shiftOf) (maxL := 16) (ret := (some .int)) (by decide) rfl ?_
  intro p e s m args below meth c s₁ B hml hv
  obtain ⟨rfl, ⟨hsz, hP, hKN, hD0⟩, hSZ⟩ := hv
  have hx := B.exec
  have hb := B.bytes
  have hr := B.returns
  have hts := atoms_spec (ws := .code yX2_shiftOf cX2_shiftOf 16 (some .int) :: GW) B.pre
  have hg : ∀ w ∈ GW, w.before _ s = true := fun w h => hts w (List.mem_cons_of_mem _ h)
  have hown : s.vm.findClass RX2 = some m.cls := findClass_of_methodNamed B.named
  have hlocks := B.notSynchronized
  subst hsz
  have hD := hD0.self (sz := s.heap.size)
  generalize hAe : va_A ws s.heap.size = A at hD hSZ ⊢
  have hA : ∀ q : Nat, s.heap.size ≤ q → A q := fun q h => by rw [← hAe]; exact Or.inr h
  clear hAe hD0 hts B
  have hl := lv_entry ([.ref p0, .int p1, .int p2]) (n := 16) (Nat.le_of_ble_eq_true rfl)
  rw [lg_entry_eq]
  generalize (lg_sl ([.ref p0, .int p1, .int p2]) ++ List.replicate (16 - (lg_sl ([.ref p0, .int p1, .int p2])).length) Slot.unset).toArray = ls at hl ⊢
  have hl : lv_has ls 16 [(0, .ref p0), (1, .int p1), (2, .int p2)] := hl
  refine w_start (A0 := A) hP (fun H locs hP hS => ?_)
  refine lv_bipush (v := (-100)) hx hb dX2_shiftOf_0 (by decide) ?_
  refine lv_istore_n (lv' := [(3, .int (-100)), (0, .ref p0), (1, .int p1), (2, .int p2)]) hx hb dX2_shiftOf_2 rfl hl (by decide) rfl (fun ls hl => ?_)
  refine lv_lconst (v := 0) hx hb dX2_shiftOf_3 (by decide) ?_
  refine lv_lstore (lv' := [(4, .long 0), (3, .int (-100)), (0, .ref p0), (1, .int p1), (2, .int p2)]) hx hb dX2_shiftOf_4 hl (by decide) rfl (fun ls hl => ?_)
  refine lv_lconst (v := 0) hx hb dX2_shiftOf_6 (by decide) ?_
  refine lv_lstore (lv' := [(6, .long 0), (4, .long 0), (3, .int (-100)), (0, .ref p0), (1, .int p1), (2, .int p2)]) hx hb dX2_shiftOf_7 hl (by decide) rfl (fun ls hl => ?_)
  refine lv_iconst (v := 0) hx hb dX2_shiftOf_9 (by decide) ?_
  refine lv_istore (lv' := [(8, .int 0), (6, .long 0), (4, .long 0), (3, .int (-100)), (0, .ref p0), (1, .int p1), (2, .int p2)]) hx hb dX2_shiftOf_10 hl (by decide) rfl (fun ls hl => ?_)
  have zi0 : (0 : Int32).toInt = 0 := by decide
  have zl0 : (0 : Int64).toInt = 0 := by decide
  have zim100 : ((-100) : Int32).toInt = -100 := by decide
  refine w_loop (σ := Int32 × Int64 × Int64 × Int32) (fun xx H locs ls => match xx with | (v507, v508, v509, v510) => va_P D vwCl ws H ∧ va_D A ws ∧ va_S A s.heap H locs ∧ lv_has ls 16 [(8, .int v507), (6, .long v508), (4, .long v509), (3, .int v510), (0, .ref p0), (1, .int p1), (2, .int p2)] ∧ TW Y Z T g q ws ∧ (0 ≤ v507.toInt ∧ v507.toInt ≤ 7)) (fun xx => match xx with | (v507, v508, v509, v510) => (7 - v507.toInt).toNat) (0, 0, 0, (-100)) ⟨hP, hD, hS, lv_sub hl [0, 1, 2, 3, 4, 5, 6] rfl, hT, by omega⟩ (fun xx H locs ls hI ih => ?_)
  obtain ⟨v507, v508, v509, v510⟩ := xx
  obtain ⟨hP, hD, hS, hl, hT, hq1065⟩ := hI
  have ih1066 := ih
  refine lv_iload hx hb dX2_shiftOf_12 (lv_at hl 0 rfl) ?_
  refine va_getsN hx hb hSZ.2.1.1 hS hown (va_Nw.use rfl (hKN.2.1 _ kn_996 rfl)) (fun _ h9 => h9) dX2_shiftOf_14 ?_
  refine va_tlen (v := 7) hx hb hSZ.2.1.2 hS rfl dX2_shiftOf_17 ?_
  refine lv_icmp_ge (tgt := 162) hx hb dX2_shiftOf_18 (by decide) (fun c1344 => ?_) (fun c1344 => ?_)
  · skip
    have c1344 := i_le (show (7 : Int32).toInt = 7 by decide) (Eq.refl v507.toInt) c1344
    refine lv_iload_n hx hb dX2_shiftOf_162 rfl (lv_at hl 3 rfl) ?_
    refine W.widen (k := 0) (n := 0) (Nat.le_of_ble_eq_true rfl) (Nat.le_of_ble_eq_true rfl) ?_
    exact W.iret (v := v510) hx hb hr (fun t ht hW => ⟨⟨v510, rfl, trivial, CB.mk ht hP hD⟩, hS.F ht⟩) hS.2.2 dX2_shiftOf_163
  · skip
    have c1344 := i_nle (show (7 : Int32).toInt = 7 by decide) (Eq.refl v507.toInt) c1344
    refine lv_lconst (v := 0) hx hb dX2_shiftOf_21 (by decide) ?_
    refine lv_lstore (lv' := [(9, .long 0), (8, .int v507), (6, .long v508), (4, .long v509), (3, .int v510), (0, .ref p0), (1, .int p1), (2, .int p2)]) hx hb dX2_shiftOf_22 hl (by decide) rfl (fun ls hl => ?_)
    refine lv_lconst (v := 0) hx hb dX2_shiftOf_24 (by decide) ?_
    refine lv_lstore (lv' := [(11, .long 0), (9, .long 0), (8, .int v507), (6, .long v508), (4, .long v509), (3, .int v510), (0, .ref p0), (1, .int p1), (2, .int p2)]) hx hb dX2_shiftOf_25 hl (by decide) rfl (fun ls hl => ?_)
    refine lv_iload_n hx hb dX2_shiftOf_27 rfl (lv_at hl 7 rfl) ?_
    refine va_getsN hx hb hSZ.2.1.1 hS hown (va_Nw.use rfl (hKN.2.1 _ kn_996 rfl)) (fun _ h9 => h9) dX2_shiftOf_28 ?_
    refine lv_iload hx hb dX2_shiftOf_31 (lv_at hl 2 rfl) ?_
    refine va_ti (v := .int (SHF.getD v507.toNatClampNeg 0)) hx hb hSZ.2.1.2 hS (vp_in_iff.mpr ⟨by omega, by omega⟩) rfl dX2_shiftOf_33 ?_
    refine lv_topi (fun v1345 ev1345 => ?_)
    have hv1345 := SHF_rg ev1345
    refine lv_iadd hx hb dX2_shiftOf_34 ?_
    refine lv_topi (fun v1346 ev1346 => ?_)
    refine lv_istore (lv' := [(13, .int v1346), (11, .long 0), (9, .long 0), (8, .int v507), (6, .long v508), (4, .long v509), (3, .int v510), (0, .ref p0), (1, .int p1), (2, .int p2)]) hx hb dX2_shiftOf_35 hl (by decide) rfl (fun ls hl => ?_)
    refine lv_iload hx hb dX2_shiftOf_37 (lv_at hl 0 rfl) ?_
    refine lv_iload_n hx hb dX2_shiftOf_39 rfl (lv_at hl 9 rfl) ?_
    refine lv_iadd hx hb dX2_shiftOf_40 ?_
    refine lv_topi (fun v1347 ev1347 => ?_)
    refine lv_sipush (v := 600) hx hb dX2_shiftOf_41 (by decide) ?_
    have zi600 : (600 : Int32).toInt = 600 := by decide
    refine cg0 (rn_S (As := [.int v1347, .int 600]) (rest := []) (x_J9_min_7cf53 l D Y Z H.size v1347 600) ⟨hx, hb, hml, hown, hg⟩ lk_X2_153 ⟨CP.blind, CP.at nilP hKN (nilD (A := fun _ => True))⟩ ⟨⟨rfl, rfl⟩, ⟨Nat.le_of_ble_eq_true rfl, Nat.le_of_ble_eq_true rfl⟩, ⟨(Nat.le_of_ble_eq_true rfl), (Nat.le_of_ble_eq_true rfl)⟩⟩ hl.1 rfl (Nat.le_of_ble_eq_true rfl) dX2_shiftOf_44) hP hS hA (fun u1348 H locs hw1349 hP hS => ?_)
    obtain ⟨hw1351, hw1352⟩ : (u1348.toInt ≤ v1347.toInt ∧ u1348.toInt ≤ (600 : Int32).toInt) ∧ (u1348.toInt = v1347.toInt ∨ u1348.toInt = (600 : Int32).toInt) := hw1349
    refine W.eq (g2 := F0 m 47 ls [.int u1348]) rfl ?_
    refine lv_istore (lv' := [(14, .int u1348), (13, .int v1346), (11, .long 0), (9, .long 0), (8, .int v507), (6, .long v508), (4, .long v509), (3, .int v510), (0, .ref p0), (1, .int p1), (2, .int p2)]) hx hb dX2_shiftOf_47 hl (by decide) rfl (fun ls hl => ?_)
    refine lv_iload hx hb dX2_shiftOf_49 (lv_at hl 1 rfl) ?_
    refine lv_iconst (v := 0) hx hb dX2_shiftOf_51 (by decide) ?_
    have zi0 : (0 : Int32).toInt = 0 := by decide
    refine cg0 (rn_S (As := [.int v1346, .int 0]) (rest := []) (x_J9_max_7cf53 l D Y Z H.size v1346 0) ⟨hx, hb, hml, hown, hg⟩ lk_X2_130 ⟨CP.blind, CP.at nilP hKN (nilD (A := fun _ => True))⟩ ⟨⟨rfl, rfl⟩, ⟨Nat.le_of_ble_eq_true rfl, Nat.le_of_ble_eq_true rfl⟩, ⟨(Nat.le_of_ble_eq_true rfl), (Nat.le_of_ble_eq_true rfl)⟩⟩ hl.1 rfl (Nat.le_of_ble_eq_true rfl) dX2_shiftOf_52) hP hS hA (fun u1353 H locs hw1354 hP hS => ?_)
    obtain ⟨hw1356, hw1357⟩ : (v1346.toInt ≤ u1353.toInt ∧ (0 : Int32).toInt ≤ u1353.toInt) ∧ (u1353.toInt = v1346.toInt ∨ u1353.toInt = (0 : Int32).toInt) := hw1354
    refine W.eq (g2 := F0 m 55 ls [.int u1353]) rfl ?_
    refine lv_istore (lv' := [(15, .int u1353), (14, .int u1348), (13, .int v1346), (11, .long 0), (9, .long 0), (8, .int v507), (6, .long v508), (4, .long v509), (3, .int v510), (0, .ref p0), (1, .int p1), (2, .int p2)]) hx hb dX2_shiftOf_55 hl (by decide) rfl (fun ls hl => ?_)
    have zl0 : (0 : Int64).toInt = 0 := by decide
    refine w_loop (σ := Int32 × Int64 × Int64) (fun xx H locs ls => match xx with | (v1434, v1435, v1436) => va_P D vwCl ws H ∧ va_D A ws ∧ va_S A s.heap H locs ∧ lv_has ls 16 [(15, .int v1434), (14, .int u1348), (13, .int v1346), (11, .long v1435), (9, .long v1436), (8, .int v507), (6, .long v508), (4, .long v509), (3, .int v510), (0, .ref p0), (1, .int p1), (2, .int p2)] ∧ TW Y Z T g q ws ∧ (0 ≤ v1434.toInt)) (fun xx => match xx with | (v1434, v1435, v1436) => (600 - v1434.toInt).toNat) (u1353, 0, 0) ⟨hP, hD, hS, lv_sub hl [0, 1, 2, 3, 4, 5, 6, 7, 8, 9, 10, 11] rfl, hT, by omega⟩ (fun xx H locs ls hI ih => ?_)
    obtain ⟨v1434, v1435, v1436⟩ := xx
    obtain ⟨hP, hD, hS, hl, hT, hq1509⟩ := hI
    have ih1510 := ih
    refine lv_iload hx hb dX2_shiftOf_57 (lv_at hl 0 rfl) ?_
    refine lv_iload hx hb dX2_shiftOf_59 (lv_at hl 1 rfl) ?_
    have j1547 := rgI v1434
    have j1548 := rgI u1348
    refine lv_icmp_ge (tgt := 101) hx hb dX2_shiftOf_61 (by decide) (fun c1549 => ?_) (fun c1549 => ?_)
    · skip
      have c1549 := i_le (Eq.refl u1348.toInt) (Eq.refl v1434.toInt) c1549
      refine lv_lload hx hb dX2_shiftOf_101 (lv_at hl 6 rfl) ?_
      refine lv_lconst (v := 0) hx hb dX2_shiftOf_103 (by decide) ?_
      refine W.lcmp hx hb dX2_shiftOf_104 ?_
      refine lv_if_eq (tgt := 122) hx hb dX2_shiftOf_105 (by decide) (fun c1554 => ?_) (fun c1554 => ?_)
      · skip
        have c1554 := l_eq (Eq.refl v508.toInt) (show (0 : Int64).toInt = 0 by decide) c1554
        refine lv_iconst (v := 1) hx hb dX2_shiftOf_122 (by decide) ?_
        refine lv_goto (tgt := 127) hx hb dX2_shiftOf_123 (by decide) ?_
        refine lv_istore (lv' := [(15, .int 1), (14, .int u1348), (13, .int v1346), (11, .long v1435), (9, .long v1436), (8, .int v507), (6, .long v508), (4, .long v509), (3, .int v510), (0, .ref p0), (1, .int p1), (2, .int p2)]) hx hb dX2_shiftOf_127 hl (by decide) rfl (fun ls hl => ?_)
        refine lv_lload hx hb dX2_shiftOf_129 (lv_at hl 3 rfl) ?_
        refine lv_lconst (v := 0) hx hb dX2_shiftOf_131 (by decide) ?_
        refine w_join (σ := Int64 × Int64 × Int32) (pcJ := 156) (kJ := 0) (nJ := 0) (stk := fun xx => match xx with | (v1558, v1559, v1560) => []) (fun xx H locs ls => match xx with | (v1558, v1559, v1560) => va_P D vwCl ws H ∧ va_D A ws ∧ va_S A s.heap H locs ∧ lv_has ls 16 [(15, .int 1), (14, .int u1348), (13, .int v1346), (11, .long v1435), (9, .long v1436), (8, .int v507), (6, .long v1558), (4, .long v1559), (3, .int v1560), (0, .ref p0), (1, .int p1), (2, .int p2)] ∧ TW Y Z T g q ws ∧ (0 ≤ v1558.toInt)) (fun xx H locs ls hI => ?_) (fun jn1561 => ?_)
        · skip
          obtain ⟨v1558, v1559, v1560⟩ := xx
          obtain ⟨hP, hD, hS, hl, hT, hq1562⟩ := hI
          refine W.eq (g2 := F0 m 156 ls []) rfl ?_
          obtain ⟨v1563, ev1563⟩ : ∃ y : Int32, y = v507 + 1 := ⟨_, rfl⟩
          have hv1563 := i_add (Eq.refl v507.toInt) (show (1 : Int32).toInt = 1 by decide) ev1563 (by omega) (by omega)
          refine lv_iinc (v := v1563) (lv' := [(8, .int v1563), (15, .int 1), (14, .int u1348), (13, .int v1346), (11, .long v1435), (9, .long v1436), (6, .long v1558), (4, .long v1559), (3, .int v1560), (0, .ref p0), (1, .int p1), (2, .int p2)]) hx hb dX2_shiftOf_156 hl (k := 5) rfl (by rw [ev1563]; rfl) (by decide) rfl (fun ls hl => ?_)
          refine lv_goto (tgt := 12) hx hb dX2_shiftOf_159 (by decide) ?_
          have zi1 : (1 : Int32).toInt = 1 := by decide
          exact ih1066 (v1563, v1558, v1559, v1560) H locs ls (by show (7 - v1563.toInt).toNat < (7 - v507.toInt).toNat; omega) ⟨hP, hD, hS, lv_sub hl [0, 6, 7, 8, 9, 10, 11] rfl, hT, by omega⟩
        · skip
          refine W.lcmp hx hb dX2_shiftOf_132 ?_
          refine lv_if_le (tgt := 156) hx hb dX2_shiftOf_133 (by decide) (fun c1564 => ?_) (fun c1564 => ?_)
          · skip
            have c1564 := l_le (Eq.refl v1435.toInt) (show (0 : Int64).toInt = 0 by decide) c1564
            have zi1 : (1 : Int32).toInt = 1 := by decide
            refine W.widen (k := 0) (n := 0) (Nat.le_of_ble_eq_true rfl) (Nat.le_of_ble_eq_true rfl) ?_
            exact jn1561 (v508, v509, v510) H locs ls ⟨hP, hD, hS, lv_sub hl [0, 1, 2, 3, 4, 5, 6, 7, 8, 9, 10, 11] rfl, hT, by omega⟩
          · skip
            have c1564 := l_nle (Eq.refl v1435.toInt) (show (0 : Int64).toInt = 0 by decide) c1564
            refine lv_iload hx hb dX2_shiftOf_136 (lv_at hl 0 rfl) ?_
            refine lv_if_eq (tgt := 156) hx hb dX2_shiftOf_138 (by decide) (fun c1565 => ?_) (fun c1565 => ?_)
            · exact absurd c1565 (by decide)
            refine va_getsN hx hb hSZ.2.1.1 hS hown (va_Nw.use rfl (hKN.2.1 _ kn_996 rfl)) (fun _ h9 => h9) dX2_shiftOf_141 ?_
            refine lv_iload hx hb dX2_shiftOf_144 (lv_at hl 5 rfl) ?_
            refine va_ti (v := .int (SHF.getD v507.toNatClampNeg 0)) hx hb hSZ.2.1.2 hS (vp_in_iff.mpr ⟨by omega, by omega⟩) rfl dX2_shiftOf_146 ?_
            refine lv_topi (fun v1566 ev1566 => ?_)
            have hv1566 := SHF_rg ev1566
            refine lv_istore_n (lv' := [(3, .int v1566), (15, .int 1), (14, .int u1348), (13, .int v1346), (11, .long v1435), (9, .long v1436), (8, .int v507), (6, .long v508), (4, .long v509), (0, .ref p0), (1, .int p1), (2, .int p2)]) hx hb dX2_shiftOf_147 rfl hl (by decide) rfl (fun ls hl => ?_)
            refine lv_lload hx hb dX2_shiftOf_148 (lv_at hl 5 rfl) ?_
            refine lv_lstore (lv' := [(4, .long v1436), (3, .int v1566), (15, .int 1), (14, .int u1348), (13, .int v1346), (11, .long v1435), (9, .long v1436), (8, .int v507), (6, .long v508), (0, .ref p0), (1, .int p1), (2, .int p2)]) hx hb dX2_shiftOf_150 hl (by decide) rfl (fun ls hl => ?_)
            refine lv_lload hx hb dX2_shiftOf_152 (lv_at hl 5 rfl) ?_
            refine lv_lstore (lv' := [(6, .long v1435), (4, .long v1436), (3, .int v1566), (15, .int 1), (14, .int u1348), (13, .int v1346), (11, .long v1435), (9, .long v1436), (8, .int v507), (0, .ref p0), (1, .int p1), (2, .int p2)]) hx hb dX2_shiftOf_154 hl (by decide) rfl (fun ls hl => ?_)
            have zi1 : (1 : Int32).toInt = 1 := by decide
            refine W.widen (k := 0) (n := 0) (Nat.le_of_ble_eq_true rfl) (Nat.le_of_ble_eq_true rfl) ?_
            exact jn1561 (v1435, v1436, v1566) H locs ls ⟨hP, hD, hS, lv_sub hl [3, 4, 5, 6, 7, 8, 0, 1, 2, 9, 10, 11] rfl, hT, by omega⟩
      · skip
        have c1554 := l_ne (Eq.refl v508.toInt) (show (0 : Int64).toInt = 0 by decide) c1554
        refine lv_lload hx hb dX2_shiftOf_108 (lv_at hl 4 rfl) ?_
        refine lv_lload hx hb dX2_shiftOf_110 (lv_at hl 6 rfl) ?_
        refine lv_lmul hx hb dX2_shiftOf_112 ?_
        refine lv_topl (fun v1567 ev1567 => ?_)
        refine lv_lload hx hb dX2_shiftOf_113 (lv_at hl 7 rfl) ?_
        refine lv_lload hx hb dX2_shiftOf_115 (lv_at hl 3 rfl) ?_
        refine lv_lmul hx hb dX2_shiftOf_117 ?_
        refine lv_topl (fun v1568 ev1568 => ?_)
        refine W.lcmp hx hb dX2_shiftOf_118 ?_
        refine lv_if_ge (tgt := 126) hx hb dX2_shiftOf_119 (by decide) (fun c1570 => ?_) (fun c1570 => ?_)
        · skip
          have c1570 := l_ge (Eq.refl v1567.toInt) (Eq.refl v1568.toInt) c1570
          refine lv_iconst (v := 0) hx hb dX2_shiftOf_126 (by decide) ?_
          refine lv_istore (lv' := [(15, .int 0), (14, .int u1348), (13, .int v1346), (11, .long v1435), (9, .long v1436), (8, .int v507), (6, .long v508), (4, .long v509), (3, .int v510), (0, .ref p0), (1, .int p1), (2, .int p2)]) hx hb dX2_shiftOf_127 hl (by decide) rfl (fun ls hl => ?_)
          refine lv_lload hx hb dX2_shiftOf_129 (lv_at hl 3 rfl) ?_
          refine lv_lconst (v := 0) hx hb dX2_shiftOf_131 (by decide) ?_
          refine w_join (σ := Unit) (pcJ := 156) (kJ := 0) (nJ := 0) (stk := fun xx => match xx with | _ => []) (fun xx H locs ls => match xx with | _ => va_P D vwCl ws H ∧ va_D A ws ∧ va_S A s.heap H locs ∧ lv_has ls 16 [(15, .int 0), (14, .int u1348), (13, .int v1346), (11, .long v1435), (9, .long v1436), (8, .int v507), (6, .long v508), (4, .long v509), (3, .int v510), (0, .ref p0), (1, .int p1), (2, .int p2)] ∧ TW Y Z T g q ws) (fun xx H locs ls hI => ?_) (fun jn1573 => ?_)
          · skip
            obtain ⟨hP, hD, hS, hl, hT⟩ := hI
            refine W.eq (g2 := F0 m 156 ls []) rfl ?_
            obtain ⟨v1574, ev1574⟩ : ∃ y : Int32, y = v507 + 1 := ⟨_, rfl⟩
            have hv1574 := i_add (Eq.refl v507.toInt) (show (1 : Int32).toInt = 1 by decide) ev1574 (by omega) (by omega)
            refine lv_iinc (v := v1574) (lv' := [(8, .int v1574), (15, .int 0), (14, .int u1348), (13, .int v1346), (11, .long v1435), (9, .long v1436), (6, .long v508), (4, .long v509), (3, .int v510), (0, .ref p0), (1, .int p1), (2, .int p2)]) hx hb dX2_shiftOf_156 hl (k := 5) rfl (by rw [ev1574]; rfl) (by decide) rfl (fun ls hl => ?_)
            refine lv_goto (tgt := 12) hx hb dX2_shiftOf_159 (by decide) ?_
            exact ih1066 (v1574, v508, v509, v510) H locs ls (by show (7 - v1574.toInt).toNat < (7 - v507.toInt).toNat; omega) ⟨hP, hD, hS, lv_sub hl [0, 6, 7, 8, 9, 10, 11] rfl, hT, by omega⟩
          · skip
            refine W.lcmp hx hb dX2_shiftOf_132 ?_
            refine lv_if_le (tgt := 156) hx hb dX2_shiftOf_133 (by decide) (fun c1575 => ?_) (fun c1575 => ?_)
            · skip
              have c1575 := l_le (Eq.refl v1435.toInt) (show (0 : Int64).toInt = 0 by decide) c1575
              refine W.widen (k := 0) (n := 0) (Nat.le_of_ble_eq_true rfl) (Nat.le_of_ble_eq_true rfl) ?_
              exact jn1573 (()) H locs ls ⟨hP, hD, hS, lv_sub hl [0, 1, 2, 3, 4, 5, 6, 7, 8, 9, 10, 11] rfl, hT⟩
            · skip
              have c1575 := l_nle (Eq.refl v1435.toInt) (show (0 : Int64).toInt = 0 by decide) c1575
              refine lv_iload hx hb dX2_shiftOf_136 (lv_at hl 0 rfl) ?_
              refine lv_if_eq (tgt := 156) hx hb dX2_shiftOf_138 (by decide) (fun c1576 => ?_) (fun c1576 => ?_)
              rotate_left
              · exact absurd c1576 (by decide)
              refine W.widen (k := 0) (n := 0) (Nat.le_of_ble_eq_true rfl) (Nat.le_of_ble_eq_true rfl) ?_
              exact jn1573 (()) H locs ls ⟨hP, hD, hS, lv_sub hl [0, 1, 2, 3, 4, 5, 6, 7, 8, 9, 10, 11] rfl, hT⟩
        · skip
          have c1570 := l_nge (Eq.refl v1567.toInt) (Eq.refl v1568.toInt) c1570
          refine lv_iconst (v := 1) hx hb dX2_shiftOf_122 (by decide) ?_
          refine lv_goto (tgt := 127) hx hb dX2_shiftOf_123 (by decide) ?_
          refine lv_istore (lv' := [(15, .int 1), (14, .int u1348), (13, .int v1346), (11, .long v1435), (9, .long v1436), (8, .int v507), (6, .long v508), (4, .long v509), (3, .int v510), (0, .ref p0), (1, .int p1), (2, .int p2)]) hx hb dX2_shiftOf_127 hl (by decide) rfl (fun ls hl => ?_)
          refine lv_lload hx hb dX2_shiftOf_129 (lv_at hl 3 rfl) ?_
          refine lv_lconst (v := 0) hx hb dX2_shiftOf_131 (by decide) ?_
          refine w_join (σ := Int64 × Int64 × Int32) (pcJ := 156) (kJ := 0) (nJ := 0) (stk := fun xx => match xx with | (v1580, v1581, v1582) => []) (fun xx H locs ls => match xx with | (v1580, v1581, v1582) => va_P D vwCl ws H ∧ va_D A ws ∧ va_S A s.heap H locs ∧ lv_has ls 16 [(15, .int 1), (14, .int u1348), (13, .int v1346), (11, .long v1435), (9, .long v1436), (8, .int v507), (6, .long v1580), (4, .long v1581), (3, .int v1582), (0, .ref p0), (1, .int p1), (2, .int p2)] ∧ TW Y Z T g q ws) (fun xx H locs ls hI => ?_) (fun jn1583 => ?_)
          · skip
            obtain ⟨v1580, v1581, v1582⟩ := xx
            obtain ⟨hP, hD, hS, hl, hT⟩ := hI
            refine W.eq (g2 := F0 m 156 ls []) rfl ?_
            obtain ⟨v1584, ev1584⟩ : ∃ y : Int32, y = v507 + 1 := ⟨_, rfl⟩
            have hv1584 := i_add (Eq.refl v507.toInt) (show (1 : Int32).toInt = 1 by decide) ev1584 (by omega) (by omega)
            refine lv_iinc (v := v1584) (lv' := [(8, .int v1584), (15, .int 1), (14, .int u1348), (13, .int v1346), (11, .long v1435), (9, .long v1436), (6, .long v1580), (4, .long v1581), (3, .int v1582), (0, .ref p0), (1, .int p1), (2, .int p2)]) hx hb dX2_shiftOf_156 hl (k := 5) rfl (by rw [ev1584]; rfl) (by decide) rfl (fun ls hl => ?_)
            refine lv_goto (tgt := 12) hx hb dX2_shiftOf_159 (by decide) ?_
            have zi1 : (1 : Int32).toInt = 1 := by decide
            exact ih1066 (v1584, v1580, v1581, v1582) H locs ls (by show (7 - v1584.toInt).toNat < (7 - v507.toInt).toNat; omega) ⟨hP, hD, hS, lv_sub hl [0, 6, 7, 8, 9, 10, 11] rfl, hT, by omega⟩
          · skip
            refine W.lcmp hx hb dX2_shiftOf_132 ?_
            refine lv_if_le (tgt := 156) hx hb dX2_shiftOf_133 (by decide) (fun c1585 => ?_) (fun c1585 => ?_)
            · skip
              have c1585 := l_le (Eq.refl v1435.toInt) (show (0 : Int64).toInt = 0 by decide) c1585
              have zi1 : (1 : Int32).toInt = 1 := by decide
              refine W.widen (k := 0) (n := 0) (Nat.le_of_ble_eq_true rfl) (Nat.le_of_ble_eq_true rfl) ?_
              exact jn1583 (v508, v509, v510) H locs ls ⟨hP, hD, hS, lv_sub hl [0, 1, 2, 3, 4, 5, 6, 7, 8, 9, 10, 11] rfl, hT⟩
            · skip
              have c1585 := l_nle (Eq.refl v1435.toInt) (show (0 : Int64).toInt = 0 by decide) c1585
              refine lv_iload hx hb dX2_shiftOf_136 (lv_at hl 0 rfl) ?_
              refine lv_if_eq (tgt := 156) hx hb dX2_shiftOf_138 (by decide) (fun c1586 => ?_) (fun c1586 => ?_)
              · exact absurd c1586 (by decide)
              refine va_getsN hx hb hSZ.2.1.1 hS hown (va_Nw.use rfl (hKN.2.1 _ kn_996 rfl)) (fun _ h9 => h9) dX2_shiftOf_141 ?_
              refine lv_iload hx hb dX2_shiftOf_144 (lv_at hl 5 rfl) ?_
              refine va_ti (v := .int (SHF.getD v507.toNatClampNeg 0)) hx hb hSZ.2.1.2 hS (vp_in_iff.mpr ⟨by omega, by omega⟩) rfl dX2_shiftOf_146 ?_
              refine lv_topi (fun v1587 ev1587 => ?_)
              have hv1587 := SHF_rg ev1587
              refine lv_istore_n (lv' := [(3, .int v1587), (15, .int 1), (14, .int u1348), (13, .int v1346), (11, .long v1435), (9, .long v1436), (8, .int v507), (6, .long v508), (4, .long v509), (0, .ref p0), (1, .int p1), (2, .int p2)]) hx hb dX2_shiftOf_147 rfl hl (by decide) rfl (fun ls hl => ?_)
              refine lv_lload hx hb dX2_shiftOf_148 (lv_at hl 5 rfl) ?_
              refine lv_lstore (lv' := [(4, .long v1436), (3, .int v1587), (15, .int 1), (14, .int u1348), (13, .int v1346), (11, .long v1435), (9, .long v1436), (8, .int v507), (6, .long v508), (0, .ref p0), (1, .int p1), (2, .int p2)]) hx hb dX2_shiftOf_150 hl (by decide) rfl (fun ls hl => ?_)
              refine lv_lload hx hb dX2_shiftOf_152 (lv_at hl 5 rfl) ?_
              refine lv_lstore (lv' := [(6, .long v1435), (4, .long v1436), (3, .int v1587), (15, .int 1), (14, .int u1348), (13, .int v1346), (11, .long v1435), (9, .long v1436), (8, .int v507), (0, .ref p0), (1, .int p1), (2, .int p2)]) hx hb dX2_shiftOf_154 hl (by decide) rfl (fun ls hl => ?_)
              have zi1 : (1 : Int32).toInt = 1 := by decide
              refine W.widen (k := 0) (n := 0) (Nat.le_of_ble_eq_true rfl) (Nat.le_of_ble_eq_true rfl) ?_
              exact jn1583 (v1435, v1436, v1587) H locs ls ⟨hP, hD, hS, lv_sub hl [3, 4, 5, 6, 7, 8, 0, 1, 2, 9, 10, 11] rfl, hT⟩
    · skip
      have c1549 := i_nle (Eq.refl u1348.toInt) (Eq.refl v1434.toInt) c1549
      refine lv_aload_n hx hb dX2_shiftOf_64 rfl (lv_at hl 9 rfl) ?_
      refine ok9 hT ht0 (fun p1600 a1588 a1589 a1590 x1591 y1592 y1593 x1594 y1595 hk1601 h1596 h1597 h1598 h1599 => ?_)
      refine va_get (D := D) (ci := 2) (v := .ref a1588) (C := RX2) (T := TX2) (N := 8) hx hb hg inGX2 hown hKN.1 hP p1600 hk1601 rfl 0 (by decide) (hg _ kw_232) (fun _ h9 => h9) rfl dX2_shiftOf_65 ?_
      refine lv_iload hx hb dX2_shiftOf_68 (lv_at hl 0 rfl) ?_
      refine tr_ld12 hx hb hKN hP hT h1596 (vp_in_iff.mpr ⟨by omega, by omega⟩) dX2_shiftOf_70 (fun v1602 => ?_)
      refine lv_ldc (v := (-100000)) hx hb hown (hg _ kw_506) dX2_shiftOf_71 ?_
      refine w_join (σ := Int64 × Int64) (pcJ := 95) (kJ := 0) (nJ := 0) (stk := fun xx => match xx with | (v1610, v1611) => []) (fun xx H locs ls => match xx with | (v1610, v1611) => va_P D vwCl ws H ∧ va_D A ws ∧ va_S A s.heap H locs ∧ lv_has ls 16 [(15, .int v1434), (14, .int u1348), (13, .int v1346), (11, .long v1610), (9, .long v1611), (8, .int v507), (6, .long v508), (4, .long v509), (3, .int v510), (0, .ref p0), (1, .int p1), (2, .int p2)] ∧ TW Y Z T g q ws) (fun xx H locs ls hI => ?_) (fun jn1612 => ?_)
      · skip
        obtain ⟨v1610, v1611⟩ := xx
        obtain ⟨hP, hD, hS, hl, hT⟩ := hI
        refine W.eq (g2 := F0 m 95 ls []) rfl ?_
        obtain ⟨v1613, ev1613⟩ : ∃ y : Int32, y = v1434 + 1 := ⟨_, rfl⟩
        have hv1613 := i_add (Eq.refl v1434.toInt) (show (1 : Int32).toInt = 1 by decide) ev1613 (by omega) (by omega)
        refine lv_iinc (v := v1613) (lv' := [(15, .int v1613), (14, .int u1348), (13, .int v1346), (11, .long v1610), (9, .long v1611), (8, .int v507), (6, .long v508), (4, .long v509), (3, .int v510), (0, .ref p0), (1, .int p1), (2, .int p2)]) hx hb dX2_shiftOf_95 hl (k := 0) rfl (by rw [ev1613]; rfl) (by decide) rfl (fun ls hl => ?_)
        refine lv_goto (tgt := 57) hx hb dX2_shiftOf_98 (by decide) ?_
        exact ih1510 (v1613, v1610, v1611) H locs ls (by show (600 - v1613.toInt).toNat < (600 - v1434.toInt).toNat; omega) ⟨hP, hD, hS, lv_sub hl [0, 1, 2, 3, 4, 5, 6, 7, 8, 9, 10, 11] rfl, hT, by omega⟩
      · skip
        have j1614 := rgI v1602
        refine lv_icmp_eq (tgt := 95) hx hb dX2_shiftOf_73 (by decide) (fun c1615 => ?_) (fun c1615 => ?_)
        · skip
          have c1615 := i_eq (Eq.refl v1602.toInt) (show ((-100000) : Int32).toInt = -100000 by decide) c1615
          refine W.widen (k := 0) (n := 0) (Nat.le_of_ble_eq_true rfl) (Nat.le_of_ble_eq_true rfl) ?_
          exact jn1612 (v1435, v1436) H locs ls ⟨hP, hD, hS, lv_sub hl [0, 1, 2, 3, 4, 5, 6, 7, 8, 9, 10, 11] rfl, hT⟩
        · skip
          have c1615 := i_ne (Eq.refl v1602.toInt) (show ((-100000) : Int32).toInt = -100000 by decide) c1615
          refine lv_lload hx hb dX2_shiftOf_76 (lv_at hl 4 rfl) ?_
          refine lv_aload_n hx hb dX2_shiftOf_78 rfl (lv_at hl 9 rfl) ?_
          refine va_get (D := D) (ci := 2) (v := .ref a1588) (C := RX2) (T := TX2) (N := 8) hx hb hg inGX2 hown hKN.1 hP p1600 hk1601 rfl 0 (by decide) (hg _ kw_232) (fun _ h9 => h9) rfl dX2_shiftOf_79 ?_
          refine lv_iload hx hb dX2_shiftOf_82 (lv_at hl 0 rfl) ?_
          refine tr_ld12 hx hb hKN hP hT h1596 (vp_in_iff.mpr ⟨by omega, by omega⟩) dX2_shiftOf_84 (fun v1616 => ?_)
          have j1617 := rgI v1616
          have j1618 := Int32.toInt_toInt64 v1616
          refine lv_i2l (v := v1616.toInt64) hx hb dX2_shiftOf_85 (rfl) ?_
          refine lv_ladd hx hb dX2_shiftOf_86 ?_
          refine lv_topl (fun v1619 ev1619 => ?_)
          refine lv_lstore (lv' := [(9, .long v1619), (15, .int v1434), (14, .int u1348), (13, .int v1346), (11, .long v1435), (8, .int v507), (6, .long v508), (4, .long v509), (3, .int v510), (0, .ref p0), (1, .int p1), (2, .int p2)]) hx hb dX2_shiftOf_87 hl (by decide) rfl (fun ls hl => ?_)
          refine lv_lload hx hb dX2_shiftOf_89 (lv_at hl 4 rfl) ?_
          refine lv_lconst (v := 1) hx hb dX2_shiftOf_91 (by decide) ?_
          refine lv_ladd hx hb dX2_shiftOf_92 ?_
          refine lv_topl (fun v1620 ev1620 => ?_)
          refine lv_lstore (lv' := [(11, .long v1620), (9, .long v1619), (15, .int v1434), (14, .int u1348), (13, .int v1346), (8, .int v507), (6, .long v508), (4, .long v509), (3, .int v510), (0, .ref p0), (1, .int p1), (2, .int p2)]) hx hb dX2_shiftOf_93 hl (by decide) rfl (fun ls hl => ?_)
          refine W.widen (k := 0) (n := 0) (Nat.le_of_ble_eq_true rfl) (Nat.le_of_ble_eq_true rfl) ?_
          exact jn1612 (v1620, v1619) H locs ls ⟨hP, hD, hS, lv_sub hl [2, 3, 4, 0, 1, 5, 6, 7, 8, 9, 10, 11] rfl, hT⟩
set_option maxHeartbeats 4000000 in
set_option maxRecDepth 100000 in
theorem x_X2_scoreTwice (l : Launch) (D : va_G) (Y : Nat → ClassId) (Z : Nat → Nat) (sz : Nat) (ws : va_W) (T : RT) (g : GN) (q : GQ)  (p0 : Nat) (p1 : Nat) (hT : TW Y Z T g q ws) (ht0 : T p0 = (9, 0, 0)) (ht1 : T p1 = (6, 0, 0)) : Met l yX2_scoreTwice (.code yX2_scoreTwice cX2_scoreTwice 5 (some .long) :: GW) ({ frames := 2, cells := 0, slots := 0, locals := 47 }) (va_Pc [.ref p0, .ref p1] (CPC D Y Z ws sz)) (QG (S := Int64 × va_W) (fun u => some (.long u.1)) (fun u => TW Y Z T g q u.2 ∧ KF 1 T ws u.2 ∧ KF 6 T ws u.2) (fun u => CB D u.2 (va_A ws sz)) (va_A ws sz)) 0 0 (va_A ws sz) := by
  refine Met.ofW (cc := cX2_scoreTwice) (maxL := 5) (ret := (some .long)) (by decide) rfl ?_
  intro p e s m args below meth c s₁ B hml hv
  obtain ⟨rfl, ⟨hsz, hP, hKN, hD0⟩, hSZ⟩ := hv
  have hx := B.exec
  have hb := B.bytes
  have hr := B.returns
  have hts := atoms_spec (ws := .code yX2_scoreTwice cX2_scoreTwice 5 (some .long) :: GW) B.pre
  have hg : ∀ w ∈ GW, w.before _ s = true := fun w h => hts w (List.mem_cons_of_mem _ h)
  have hown : s.vm.findClass RX2 = some m.cls := findClass_of_methodNamed B.named
  have hlocks := B.notSynchronized
  subst hsz
  have hD := hD0.self (sz := s.heap.size)
  generalize hAe : va_A ws s.heap.size = A at hD hSZ ⊢
  have hA : ∀ q : Nat, s.heap.size ≤ q → A q := fun q h => by rw [← hAe]; exact Or.inr h
  clear hAe hD0 hts B
  have hl := lv_entry ([.ref p0, .ref p1]) (n := 5) (Nat.le_of_ble_eq_true rfl)
  rw [lg_entry_eq]
  generalize (lg_sl ([.ref p0, .ref p1]) ++ List.replicate (5 - (lg_sl ([.ref p0, .ref p1])).length) Slot.unset).toArray = ls at hl ⊢
  have hl : lv_has ls 5 [(0, .ref p0), (1, .ref p1)] := hl
  refine w_start (A0 := A) hP (fun H locs hP hS => ?_)
  refine lv_iconst (v := 2) hx hb dX2_scoreTwice_0 (by decide) ?_
  refine lv_aload_n hx hb dX2_scoreTwice_1 rfl (lv_at hl 1 rfl) ?_
  refine ok6 hT ht1 (fun p9 x1 x2 x3 x4 x5 y6 y7 hk10 h8 => ?_)
  refine va_getN (D := D) (ci := 1) (v := .int x2) (C := RX1) (T := TX1) (N := 7) hx hb hg inGX1 hown hKN.1 hP p9 hk10 rfl 1 (by decide) (va_Nw.use rfl (hKN.2.1 _ kn_312 rfl)) (fun _ h9 => h9) rfl dX2_scoreTwice_2 ?_
  refine lv_imul hx hb dX2_scoreTwice_5 ?_
  refine lv_topi (fun v11 ev11 => ?_)
  have hv11 := i_mul (show (2 : Int32).toInt = 2 by decide) (Eq.refl x2.toInt) ev11 (by omega) (by omega)
  refine lv_istore_n (lv' := [(2, .int v11), (0, .ref p0), (1, .ref p1)]) hx hb dX2_scoreTwice_6 rfl hl (by decide) rfl (fun ls hl => ?_)
  refine lv_iload_n hx hb dX2_scoreTwice_7 rfl (lv_at hl 0 rfl) ?_
  refine lv_sipush (v := 200) hx hb dX2_scoreTwice_8 (by decide) ?_
  refine lv_icmp_le (tgt := 16) hx hb dX2_scoreTwice_11 (by decide) (fun c12 => ?_) (fun c12 => ?_)
  · skip
    have c12 := i_le (Eq.refl v11.toInt) (show (200 : Int32).toInt = 200 by decide) c12
    refine lv_aload_n hx hb dX2_scoreTwice_16 rfl (lv_at hl 1 rfl) ?_
    refine lv_iload_n hx hb dX2_scoreTwice_17 rfl (lv_at hl 0 rfl) ?_
    refine lv_aload_n hx hb dX2_scoreTwice_18 rfl (lv_at hl 2 rfl) ?_
    refine va_getN (D := D) (ci := 1) (v := .int x3) (C := RX1) (T := TX1) (N := 7) hx hb hg inGX1 hown hKN.1 hP p9 hk10 rfl 2 (by decide) (va_Nw.use rfl (hKN.2.1 _ kn_317 rfl)) (fun _ h9 => h9) rfl dX2_scoreTwice_19 ?_
    refine lv_aload_n hx hb dX2_scoreTwice_22 rfl (lv_at hl 2 rfl) ?_
    refine va_getN (D := D) (ci := 1) (v := .int x4) (C := RX1) (T := TX1) (N := 7) hx hb hg inGX1 hown hKN.1 hP p9 hk10 rfl 3 (by decide) (va_Nw.use rfl (hKN.2.1 _ kn_322 rfl)) (fun _ h9 => h9) rfl dX2_scoreTwice_23 ?_
    refine ok9 hT ht0 (fun p25 a13 a14 a15 x16 y17 y18 x19 y20 hk26 h21 h22 h23 h24 => ?_)
    refine cga (rn_V (As := [.int v11, .int x3, .int x4]) (rest := []) (b := p0) (x_X2_tally l D Y Z H.size ws T g q p0 v11 x3 x4 hT ht0) ⟨hx, hb, hml, hown, hg⟩ lk_X2_167 ⟨CPC.blind, va_recv hKN.1 hP (ci := 2) (q0 := p25) rfl hk26, CPC.at hP hKN hD hSZ hS hA⟩ ⟨⟨rfl, rfl⟩, ⟨Nat.le_of_ble_eq_true rfl, Nat.le_of_ble_eq_true rfl⟩, ⟨(Nat.le_of_ble_eq_true rfl), (Nat.le_of_ble_eq_true rfl)⟩⟩ hl.1 rfl (Nat.le_of_ble_eq_true rfl) dX2_scoreTwice_26) hP hD hS hA (fun u27 H locs hw28 hP hD hS => ?_)
    obtain ⟨hT, ke30, ke31⟩ : TW Y Z T g q u27 ∧ KF 1 T ws u27 ∧ KF 6 T ws u27 := hw28
    have hk32 := ke31 _ _ hk10 (show (T p1).1 = 6 by rw [ht1])
    have ke33 : KF 1 T ws u27 := KF.tr KF.rf ke30
    have ke34 : KF 6 T ws u27 := KF.tr KF.rf ke31
    refine W.eq (g2 := F0 m 29 ls []) rfl ?_
    refine lv_aload_n hx hb dX2_scoreTwice_29 rfl (lv_at hl 1 rfl) ?_
    refine ok9 hT ht0 (fun p47 a35 a36 a37 x38 y39 y40 x41 y42 hk48 h43 h44 h45 h46 => ?_)
    refine cga (rn_V (As := []) (rest := []) (b := p0) (x_X2_score l D Y Z H.size u27 T g q p0 hT ht0) ⟨hx, hb, hml, hown, hg⟩ lk_X2_171 ⟨CPC.blind, va_recv hKN.1 hP (ci := 2) (q0 := p47) rfl hk48, CPC.at hP hKN hD hSZ hS hA⟩ ⟨⟨rfl, rfl⟩, ⟨Nat.le_of_ble_eq_true rfl, Nat.le_of_ble_eq_true rfl⟩, ⟨(Nat.le_of_ble_eq_true rfl), (Nat.le_of_ble_eq_true rfl)⟩⟩ hl.1 rfl (Nat.le_of_ble_eq_true rfl) dX2_scoreTwice_30) hP hD hS hA (fun u49 H locs hw50 hP hD hS => ?_)
    refine W.eq (g2 := F0 m 33 ls [.long u49]) rfl ?_
    refine lv_lstore_n (lv' := [(3, .long u49), (2, .int v11), (0, .ref p0), (1, .ref p1)]) hx hb dX2_scoreTwice_33 rfl hl (by decide) rfl (fun ls hl => ?_)
    refine lv_aload_n hx hb dX2_scoreTwice_34 rfl (lv_at hl 2 rfl) ?_
    refine lv_iload_n hx hb dX2_scoreTwice_35 rfl (lv_at hl 1 rfl) ?_
    refine lv_aload_n hx hb dX2_scoreTwice_36 rfl (lv_at hl 3 rfl) ?_
    refine va_getN (D := D) (ci := 1) (v := .int x3) (C := RX1) (T := TX1) (N := 7) hx hb hg inGX1 hown hKN.1 hP p9 hk32 rfl 2 (by decide) (va_Nw.use rfl (hKN.2.1 _ kn_317 rfl)) (fun _ h9 => h9) rfl dX2_scoreTwice_37 ?_
    refine lv_aload_n hx hb dX2_scoreTwice_40 rfl (lv_at hl 3 rfl) ?_
    refine va_getN (D := D) (ci := 1) (v := .int x4) (C := RX1) (T := TX1) (N := 7) hx hb hg inGX1 hown hKN.1 hP p9 hk32 rfl 3 (by decide) (va_Nw.use rfl (hKN.2.1 _ kn_322 rfl)) (fun _ h9 => h9) rfl dX2_scoreTwice_41 ?_
    refine lv_aload_n hx hb dX2_scoreTwice_44 rfl (lv_at hl 3 rfl) ?_
    refine va_getN (D := D) (ci := 1) (v := .int x2) (C := RX1) (T := TX1) (N := 7) hx hb hg inGX1 hown hKN.1 hP p9 hk32 rfl 1 (by decide) (va_Nw.use rfl (hKN.2.1 _ kn_312 rfl)) (fun _ h9 => h9) rfl dX2_scoreTwice_45 ?_
    refine lv_iadd hx hb dX2_scoreTwice_48 ?_
    refine lv_topi (fun v52 ev52 => ?_)
    refine cga (rn_V (As := [.int v11, .int x3, .int v52]) (rest := []) (b := p0) (x_X2_tally l D Y Z H.size u27 T g q p0 v11 x3 v52 hT ht0) ⟨hx, hb, hml, hown, hg⟩ lk_X2_167 ⟨CPC.blind, va_recv hKN.1 hP (ci := 2) (q0 := p47) rfl hk48, CPC.at hP hKN hD hSZ hS hA⟩ ⟨⟨rfl, rfl⟩, ⟨Nat.le_of_ble_eq_true rfl, Nat.le_of_ble_eq_true rfl⟩, ⟨(Nat.le_of_ble_eq_true rfl), (Nat.le_of_ble_eq_true rfl)⟩⟩ hl.1 rfl (Nat.le_of_ble_eq_true rfl) dX2_scoreTwice_49) hP hD hS hA (fun u53 H locs hw54 hP hD hS => ?_)
    obtain ⟨hT, ke56, ke57⟩ : TW Y Z T g q u53 ∧ KF 1 T u27 u53 ∧ KF 6 T u27 u53 := hw54
    have hk58 := ke57 _ _ hk32 (show (T p1).1 = 6 by rw [ht1])
    have ke59 : KF 1 T ws u53 := KF.tr ke33 ke56
    have ke60 : KF 6 T ws u53 := KF.tr ke34 ke57
    refine W.eq (g2 := F0 m 52 ls []) rfl ?_
    refine lv_lload_n hx hb dX2_scoreTwice_52 rfl (lv_at hl 0 rfl) ?_
    refine lv_aload_n hx hb dX2_scoreTwice_53 rfl (lv_at hl 2 rfl) ?_
    refine ok9 hT ht0 (fun p73 a61 a62 a63 x64 y65 y66 x67 y68 hk74 h69 h70 h71 h72 => ?_)
    refine cga (rn_V (As := []) (rest := [.long u49]) (b := p0) (x_X2_score l D Y Z H.size u53 T g q p0 hT ht0) ⟨hx, hb, hml, hown, hg⟩ lk_X2_171 ⟨CPC.blind, va_recv hKN.1 hP (ci := 2) (q0 := p73) rfl hk74, CPC.at hP hKN hD hSZ hS hA⟩ ⟨⟨rfl, rfl⟩, ⟨Nat.le_of_ble_eq_true rfl, Nat.le_of_ble_eq_true rfl⟩, ⟨(Nat.le_of_ble_eq_true rfl), (Nat.le_of_ble_eq_true rfl)⟩⟩ hl.1 rfl (Nat.le_of_ble_eq_true rfl) dX2_scoreTwice_54) hP hD hS hA (fun u75 H locs hw76 hP hD hS => ?_)
    refine W.eq (g2 := F0 m 57 ls [.long u75, .long u49]) rfl ?_
    refine cg0 (rn_S (As := [.long u49, .long u75]) (rest := []) (x_J9_max_f86c9 l D Y Z H.size u49 u75) ⟨hx, hb, hml, hown, hg⟩ lk_X2_115 ⟨CP.blind, CP.at nilP hKN (nilD (A := fun _ => True))⟩ ⟨⟨rfl, rfl⟩, ⟨Nat.le_of_ble_eq_true rfl, Nat.le_of_ble_eq_true rfl⟩, ⟨(Nat.le_of_ble_eq_true rfl), (Nat.le_of_ble_eq_true rfl)⟩⟩ hl.1 rfl (Nat.le_of_ble_eq_true rfl) dX2_scoreTwice_57) hP hS hA (fun u78 H locs hw79 hP hS => ?_)
    obtain ⟨hw81, hw82⟩ : (u49.toInt ≤ u78.toInt ∧ u75.toInt ≤ u78.toInt) ∧ (u78.toInt = u49.toInt ∨ u78.toInt = u75.toInt) := hw79
    refine W.eq (g2 := F0 m 60 ls [.long u78]) rfl ?_
    refine W.widen (k := 0) (n := 0) (Nat.le_of_ble_eq_true rfl) (Nat.le_of_ble_eq_true rfl) ?_
    exact W.lret (v := u78) hx hb hr (fun t ht hW => ⟨⟨(u78, u53), rfl, ⟨hT, ke59, ke60⟩, CB.mk ht hP hD⟩, hS.F ht⟩) hS.2.2 dX2_scoreTwice_60
  · skip
    have c12 := i_nle (Eq.refl v11.toInt) (show (200 : Int32).toInt = 200 by decide) c12
    refine lv_lconst (v := 0) hx hb dX2_scoreTwice_14 (by decide) ?_
    refine W.widen (k := 0) (n := 0) (Nat.le_of_ble_eq_true rfl) (Nat.le_of_ble_eq_true rfl) ?_
    have zl0 : (0 : Int64).toInt = 0 := by decide
    exact W.lret (v := 0) hx hb hr (fun t ht hW => ⟨⟨((0), ws), rfl, ⟨hT, KF.rf, KF.rf⟩, CB.mk ht hP hD⟩, hS.F ht⟩) hS.2.2 dX2_scoreTwice_15
set_option maxHeartbeats 4000000 in
set_option maxRecDepth 100000 in
theorem x_X2_scoreHalf (l : Launch) (D : va_G) (Y : Nat → ClassId) (Z : Nat → Nat) (sz : Nat) (ws : va_W) (T : RT) (g : GN) (q : GQ)  (p0 : Nat) (p1 : Nat) (hT : TW Y Z T g q ws) (ht0 : T p0 = (9, 0, 0)) (ht1 : T p1 = (6, 0, 0)) : Met l yX2_scoreHalf (.code yX2_scoreHalf cX2_scoreHalf 3 (some .long) :: GW) ({ frames := 2, cells := 0, slots := 0, locals := 47 }) (va_Pc [.ref p0, .ref p1] (CPC D Y Z ws sz)) (QG (S := Int64 × va_W) (fun u => some (.long u.1)) (fun u => TW Y Z T g q u.2 ∧ KF 1 T ws u.2 ∧ KF 6 T ws u.2) (fun u => CB D u.2 (va_A ws sz)) (va_A ws sz)) 0 0 (va_A ws sz) := by
  refine Met.ofW (cc := cX2_scoreHalf) (maxL := 3) (ret := (some .long)) (by decide) rfl ?_
  intro p e s m args below meth c s₁ B hml hv
  obtain ⟨rfl, ⟨hsz, hP, hKN, hD0⟩, hSZ⟩ := hv
  have hx := B.exec
  have hb := B.bytes
  have hr := B.returns
  have hts := atoms_spec (ws := .code yX2_scoreHalf cX2_scoreHalf 3 (some .long) :: GW) B.pre
  have hg : ∀ w ∈ GW, w.before _ s = true := fun w h => hts w (List.mem_cons_of_mem _ h)
  have hown : s.vm.findClass RX2 = some m.cls := findClass_of_methodNamed B.named
  have hlocks := B.notSynchronized
  subst hsz
  have hD := hD0.self (sz := s.heap.size)
  generalize hAe : va_A ws s.heap.size = A at hD hSZ ⊢
  have hA : ∀ q : Nat, s.heap.size ≤ q → A q := fun q h => by rw [← hAe]; exact Or.inr h
  clear hAe hD0 hts B
  have hl := lv_entry ([.ref p0, .ref p1]) (n := 3) (Nat.le_of_ble_eq_true rfl)
  rw [lg_entry_eq]
  generalize (lg_sl ([.ref p0, .ref p1]) ++ List.replicate (3 - (lg_sl ([.ref p0, .ref p1])).length) Slot.unset).toArray = ls at hl ⊢
  have hl : lv_has ls 3 [(0, .ref p0), (1, .ref p1)] := hl
  refine w_start (A0 := A) hP (fun H locs hP hS => ?_)
  refine lv_aload_n hx hb dX2_scoreHalf_0 rfl (lv_at hl 1 rfl) ?_
  refine ok6 hT ht1 (fun p9 x1 x2 x3 x4 x5 y6 y7 hk10 h8 => ?_)
  refine va_getN (D := D) (ci := 1) (v := .int x2) (C := RX1) (T := TX1) (N := 7) hx hb hg inGX1 hown hKN.1 hP p9 hk10 rfl 1 (by decide) (va_Nw.use rfl (hKN.2.1 _ kn_312 rfl)) (fun _ h9 => h9) rfl dX2_scoreHalf_1 ?_
  refine lv_iconst (v := 2) hx hb dX2_scoreHalf_4 (by decide) ?_
  have zi2 : (2 : Int32).toInt = 2 := by decide
  refine lv_idiv hx hb dX2_scoreHalf_5 (i_nz (show (2 : Int32).toInt = 2 by decide) (by omega)) ?_
  refine lv_topi (fun v11 ev11 => ?_)
  have hv11 := i_div (Eq.refl x2.toInt) (show (2 : Int32).toInt = 2 by decide) ev11 (by omega) (by omega)
  refine lv_istore_n (lv' := [(2, .int v11), (0, .ref p0), (1, .ref p1)]) hx hb dX2_scoreHalf_6 rfl hl (by decide) rfl (fun ls hl => ?_)
  refine lv_iload_n hx hb dX2_scoreHalf_7 rfl (lv_at hl 0 rfl) ?_
  refine lv_iconst (v := 1) hx hb dX2_scoreHalf_8 (by decide) ?_
  refine lv_icmp_lt (tgt := 29) hx hb dX2_scoreHalf_9 (by decide) (fun c12 => ?_) (fun c12 => ?_)
  · skip
    have c12 := i_lt (Eq.refl v11.toInt) (show (1 : Int32).toInt = 1 by decide) c12
    refine lv_lconst (v := 0) hx hb dX2_scoreHalf_29 (by decide) ?_
    refine W.widen (k := 0) (n := 0) (Nat.le_of_ble_eq_true rfl) (Nat.le_of_ble_eq_true rfl) ?_
    have zl0 : (0 : Int64).toInt = 0 := by decide
    exact W.lret (v := 0) hx hb hr (fun t ht hW => ⟨⟨((0), ws), rfl, ⟨hT, KF.rf, KF.rf⟩, CB.mk ht hP hD⟩, hS.F ht⟩) hS.2.2 dX2_scoreHalf_30
  · skip
    have c12 := i_nlt (Eq.refl v11.toInt) (show (1 : Int32).toInt = 1 by decide) c12
    refine lv_aload_n hx hb dX2_scoreHalf_12 rfl (lv_at hl 2 rfl) ?_
    refine va_getN (D := D) (ci := 1) (v := .int x2) (C := RX1) (T := TX1) (N := 7) hx hb hg inGX1 hown hKN.1 hP p9 hk10 rfl 1 (by decide) (va_Nw.use rfl (hKN.2.1 _ kn_312 rfl)) (fun _ h9 => h9) rfl dX2_scoreHalf_13 ?_
    refine lv_iconst (v := 2) hx hb dX2_scoreHalf_16 (by decide) ?_
    refine lv_irem hx hb dX2_scoreHalf_17 (i_nz (show (2 : Int32).toInt = 2 by decide) (by omega)) ?_
    refine lv_topi (fun v13 ev13 => ?_)
    have hv13 := i_rem (Eq.refl x2.toInt) (show (2 : Int32).toInt = 2 by decide) ev13 (by omega) (by omega)
    refine lv_if_ne (tgt := 29) hx hb dX2_scoreHalf_18 (by decide) (fun c14 => ?_) (fun c14 => ?_)
    · skip
      have c14 := i_ne (Eq.refl v13.toInt) (show (0 : Int32).toInt = 0 by decide) c14
      refine lv_lconst (v := 0) hx hb dX2_scoreHalf_29 (by decide) ?_
      refine W.widen (k := 0) (n := 0) (Nat.le_of_ble_eq_true rfl) (Nat.le_of_ble_eq_true rfl) ?_
      have zl0 : (0 : Int64).toInt = 0 := by decide
      exact W.lret (v := 0) hx hb hr (fun t ht hW => ⟨⟨((0), ws), rfl, ⟨hT, KF.rf, KF.rf⟩, CB.mk ht hP hD⟩, hS.F ht⟩) hS.2.2 dX2_scoreHalf_30
    · skip
      have c14 := i_eq (Eq.refl v13.toInt) (show (0 : Int32).toInt = 0 by decide) c14
      refine lv_aload_n hx hb dX2_scoreHalf_21 rfl (lv_at hl 2 rfl) ?_
      refine va_getN (D := D) (ci := 1) (v := .int x3) (C := RX1) (T := TX1) (N := 7) hx hb hg inGX1 hown hKN.1 hP p9 hk10 rfl 2 (by decide) (va_Nw.use rfl (hKN.2.1 _ kn_317 rfl)) (fun _ h9 => h9) rfl dX2_scoreHalf_22 ?_
      refine lv_iload_n hx hb dX2_scoreHalf_25 rfl (lv_at hl 0 rfl) ?_
      have j15 := rgI x3
      refine lv_icmp_lt (tgt := 31) hx hb dX2_scoreHalf_26 (by decide) (fun c16 => ?_) (fun c16 => ?_)
      · skip
        have c16 := i_lt (Eq.refl x3.toInt) (Eq.refl v11.toInt) c16
        refine lv_aload_n hx hb dX2_scoreHalf_31 rfl (lv_at hl 1 rfl) ?_
        refine lv_iload_n hx hb dX2_scoreHalf_32 rfl (lv_at hl 0 rfl) ?_
        refine lv_aload_n hx hb dX2_scoreHalf_33 rfl (lv_at hl 2 rfl) ?_
        refine va_getN (D := D) (ci := 1) (v := .int x3) (C := RX1) (T := TX1) (N := 7) hx hb hg inGX1 hown hKN.1 hP p9 hk10 rfl 2 (by decide) (va_Nw.use rfl (hKN.2.1 _ kn_317 rfl)) (fun _ h9 => h9) rfl dX2_scoreHalf_34 ?_
        refine lv_aload_n hx hb dX2_scoreHalf_37 rfl (lv_at hl 2 rfl) ?_
        refine va_getN (D := D) (ci := 1) (v := .int x4) (C := RX1) (T := TX1) (N := 7) hx hb hg inGX1 hown hKN.1 hP p9 hk10 rfl 3 (by decide) (va_Nw.use rfl (hKN.2.1 _ kn_322 rfl)) (fun _ h9 => h9) rfl dX2_scoreHalf_38 ?_
        refine lv_iload_n hx hb dX2_scoreHalf_41 rfl (lv_at hl 0 rfl) ?_
        refine lv_irem hx hb dX2_scoreHalf_42 (i_nz (Eq.refl v11.toInt) (by omega)) ?_
        refine lv_topi (fun v17 ev17 => ?_)
        have hv17 := i_remS (Eq.refl x4.toInt) (Eq.refl v11.toInt) ev17 (by omega)
        refine ok9 hT ht0 (fun p30 a18 a19 a20 x21 y22 y23 x24 y25 hk31 h26 h27 h28 h29 => ?_)
        refine cga (rn_V (As := [.int v11, .int x3, .int v17]) (rest := []) (b := p0) (x_X2_tally l D Y Z H.size ws T g q p0 v11 x3 v17 hT ht0) ⟨hx, hb, hml, hown, hg⟩ lk_X2_167 ⟨CPC.blind, va_recv hKN.1 hP (ci := 2) (q0 := p30) rfl hk31, CPC.at hP hKN hD hSZ hS hA⟩ ⟨⟨rfl, rfl⟩, ⟨Nat.le_of_ble_eq_true rfl, Nat.le_of_ble_eq_true rfl⟩, ⟨(Nat.le_of_ble_eq_true rfl), (Nat.le_of_ble_eq_true rfl)⟩⟩ hl.1 rfl (Nat.le_of_ble_eq_true rfl) dX2_scoreHalf_43) hP hD hS hA (fun u32 H locs hw33 hP hD hS => ?_)
        obtain ⟨hT, ke35, ke36⟩ : TW Y Z T g q u32 ∧ KF 1 T ws u32 ∧ KF 6 T ws u32 := hw33
        have hk37 := ke36 _ _ hk10 (show (T p1).1 = 6 by rw [ht1])
        have ke38 : KF 1 T ws u32 := KF.tr KF.rf ke35
        have ke39 : KF 6 T ws u32 := KF.tr KF.rf ke36
        refine W.eq (g2 := F0 m 46 ls []) rfl ?_
        refine lv_aload_n hx hb dX2_scoreHalf_46 rfl (lv_at hl 1 rfl) ?_
        refine ok9 hT ht0 (fun p52 a40 a41 a42 x43 y44 y45 x46 y47 hk53 h48 h49 h50 h51 => ?_)
        refine cga (rn_V (As := []) (rest := []) (b := p0) (x_X2_score l D Y Z H.size u32 T g q p0 hT ht0) ⟨hx, hb, hml, hown, hg⟩ lk_X2_171 ⟨CPC.blind, va_recv hKN.1 hP (ci := 2) (q0 := p52) rfl hk53, CPC.at hP hKN hD hSZ hS hA⟩ ⟨⟨rfl, rfl⟩, ⟨Nat.le_of_ble_eq_true rfl, Nat.le_of_ble_eq_true rfl⟩, ⟨(Nat.le_of_ble_eq_true rfl), (Nat.le_of_ble_eq_true rfl)⟩⟩ hl.1 rfl (Nat.le_of_ble_eq_true rfl) dX2_scoreHalf_47) hP hD hS hA (fun u54 H locs hw55 hP hD hS => ?_)
        refine W.eq (g2 := F0 m 50 ls [.long u54]) rfl ?_
        refine W.widen (k := 0) (n := 0) (Nat.le_of_ble_eq_true rfl) (Nat.le_of_ble_eq_true rfl) ?_
        exact W.lret (v := u54) hx hb hr (fun t ht hW => ⟨⟨(u54, u32), rfl, ⟨hT, ke38, ke39⟩, CB.mk ht hP hD⟩, hS.F ht⟩) hS.2.2 dX2_scoreHalf_50
      · skip
        have c16 := i_nlt (Eq.refl x3.toInt) (Eq.refl v11.toInt) c16
        refine lv_lconst (v := 0) hx hb dX2_scoreHalf_29 (by decide) ?_
        refine W.widen (k := 0) (n := 0) (Nat.le_of_ble_eq_true rfl) (Nat.le_of_ble_eq_true rfl) ?_
        have zl0 : (0 : Int64).toInt = 0 := by decide
        exact W.lret (v := 0) hx hb hr (fun t ht hW => ⟨⟨((0), ws), rfl, ⟨hT, KF.rf, KF.rf⟩, CB.mk ht hP hD⟩, hS.F ht⟩) hS.2.2 dX2_scoreHalf_30
set_option maxHeartbeats 4000000 in
set_option maxRecDepth 100000 in
theorem x_X2_see (l : Launch) (D : va_G) (Y : Nat → ClassId) (Z : Nat → Nat) (sz : Nat) (ws : va_W) (T : RT) (g : GN) (q : GQ) (j : Nat) (p0 : Nat) (p1 : Nat) (p2 : Int32) (p3 : Int32) (hT : TW Y Z T g q ws) (ht0 : T p0 = (9, 0, 0)) (ht1 : T p1 = (2, j, 0)) : Met l yX2_see (.code yX2_see cX2_see 5 none :: GW) ({ frames := 3, cells := 0, slots := 0, locals := 77 }) (va_Pc [.ref p0, .ref p1, .int p2, .int p3] (CPC D Y Z ws sz)) (QG (S := va_W) (fun _ => none) (fun u => TW Y Z T g q u ∧ KF 1 T ws u ∧ KF 6 T ws u) (fun u => CB D u (va_A ws sz)) (va_A ws sz)) 0 0 (va_A ws sz) := by
  refine Met.ofW (cc := cX2_see) (maxL := 5) (ret := none) (by decide) rfl ?_
  intro p e s m args below meth c s₁ B hml hv
  obtain ⟨rfl, ⟨hsz, hP, hKN, hD0⟩, hSZ⟩ := hv
  have hx := B.exec
  have hb := B.bytes
  have hr := B.returns
  have hts := atoms_spec (ws := .code yX2_see cX2_see 5 none :: GW) B.pre
  have hg : ∀ w ∈ GW, w.before _ s = true := fun w h => hts w (List.mem_cons_of_mem _ h)
  have hown : s.vm.findClass RX2 = some m.cls := findClass_of_methodNamed B.named
  have hlocks := B.notSynchronized
  subst hsz
  have hD := hD0.self (sz := s.heap.size)
  generalize hAe : va_A ws s.heap.size = A at hD hSZ ⊢
  have hA : ∀ q : Nat, s.heap.size ≤ q → A q := fun q h => by rw [← hAe]; exact Or.inr h
  clear hAe hD0 hts B
  have hl := lv_entry ([.ref p0, .ref p1, .int p2, .int p3]) (n := 5) (Nat.le_of_ble_eq_true rfl)
  rw [lg_entry_eq]
  generalize (lg_sl ([.ref p0, .ref p1, .int p2, .int p3]) ++ List.replicate (5 - (lg_sl ([.ref p0, .ref p1, .int p2, .int p3])).length) Slot.unset).toArray = ls at hl ⊢
  have hl : lv_has ls 5 [(0, .ref p0), (1, .ref p1), (2, .int p2), (3, .int p3)] := hl
  refine w_start (A0 := A) hP (fun H locs hP hS => ?_)
  refine lv_aload_n hx hb dX2_see_0 rfl (lv_at hl 1 rfl) ?_
  refine lv_iload_n hx hb dX2_see_1 rfl (lv_at hl 2 rfl) ?_
  refine ok2 hT ht1 (fun p35 x1 a2 x3 a4 x5 a6 a7 x8 a9 a10 x11 a12 x13 hk36 h14 h15 h16 h17 h18 h19 h20 h21 h22 h23 h24 h25 h26 h27 h28 h29 h30 h31 h32 h33 h34 => ?_)
  refine cga (rn_NV (As := [.int p2]) (rest := []) (b := p1) (x_X6_starAt l D Y Z H.size ws T g q j p1 p2 hT ht1) ⟨hx, hb, hml, hown, hg⟩ hKN lk_X2_21 ⟨CPC.blind, va_recv hKN.1 hP (ci := 6) (q0 := p35) rfl hk36, CPC.at hP hKN hD hSZ hS hA⟩ ⟨⟨rfl, rfl⟩, ⟨Nat.le_of_ble_eq_true rfl, Nat.le_of_ble_eq_true rfl⟩, ⟨(Nat.le_of_ble_eq_true rfl), (Nat.le_of_ble_eq_true rfl)⟩⟩ hl.1 rfl (Nat.le_of_ble_eq_true rfl) dX2_see_2) hP hD hS hA (fun u37 H locs hw38 hP hD hS => ?_)
  obtain ⟨ht40, hw41⟩ : (∀ b, u37 = some b → T b = (3, j, p2.toNatClampNeg)) ∧ (∀ b, u37 = some b → 0 ≤ p2.toInt ∧ p2.toInt ≤ 11) := hw38
  refine W.eq (g2 := F0 m 5 ls [va_rf u37]) rfl ?_
  rcases u37 with _ | b42
  · skip
    refine W.eq (g2 := F0 m 5 ls [.null]) rfl ?_
    refine lv_astoreN (lv' := [(4, .null), (0, .ref p0), (1, .ref p1), (2, .int p2), (3, .int p3)]) hx hb dX2_see_5 hl (by decide) rfl (fun ls hl => ?_)
    refine lv_aloadN hx hb dX2_see_7 (lv_at hl 0 rfl) ?_
    refine lv_ifnonnullN hx hb dX2_see_9 ?_
    refine lv_aload_n hx hb dX2_see_12 rfl (lv_at hl 1 rfl) ?_
    refine ok9 hT ht0 (fun p55 a43 a44 a45 x46 y47 y48 x49 y50 hk56 h51 h52 h53 h54 => ?_)
    refine va_get (D := D) (ci := 2) (v := .ref a43) (C := RX2) (T := TX2) (N := 8) hx hb hg inGX2 hown hKN.1 hP p55 hk56 rfl 0 (by decide) (hg _ kw_232) (fun _ h9 => h9) rfl dX2_see_13 ?_
    refine lv_ldc (v := (-100000)) hx hb hown (hg _ kw_506) dX2_see_16 ?_
    have zim100000 : ((-100000) : Int32).toInt = -100000 := by decide
    refine cga (rn_S (As := [.ref a43, .int (-100000)]) (rest := []) (x_J7_fill_53178 l D Y Z H.size ws T g q 600 a43 (-100000) hT h51 (show ((600 : Int) ≤ 600) by omega)) ⟨hx, hb, hml, hown, hg⟩ lk_X2_28 ⟨CPC.blind, CPC.at hP hKN hD hSZ hS hA⟩ ⟨⟨rfl, rfl⟩, ⟨Nat.le_of_ble_eq_true rfl, Nat.le_of_ble_eq_true rfl⟩, ⟨(Nat.le_of_ble_eq_true rfl), (Nat.le_of_ble_eq_true rfl)⟩⟩ hl.1 rfl (Nat.le_of_ble_eq_true rfl) dX2_see_18) hP hD hS hA (fun u57 H locs hw58 hP hD hS => ?_)
    obtain ⟨hT, ke60, ke61⟩ : TW Y Z T g q u57 ∧ KF 1 T ws u57 ∧ KF 6 T ws u57 := hw58
    have ke62 : KF 1 T ws u57 := KF.tr KF.rf ke60
    have ke63 : KF 6 T ws u57 := KF.tr KF.rf ke61
    refine W.eq (g2 := F0 m 21 ls []) rfl ?_
    refine lv_goto (tgt := 119) hx hb dX2_see_21 (by decide) ?_
    refine lv_aloadN hx hb dX2_see_119 (lv_at hl 0 rfl) ?_
    refine lv_ifnullN (tgt := 139) hx hb dX2_see_121 (by decide) ?_
    refine lv_aload_n hx hb dX2_see_139 rfl (lv_at hl 1 rfl) ?_
    refine ok9 hT ht0 (fun p76 a64 a65 a66 x67 y68 y69 x70 y71 hk77 h72 h73 h74 h75 => ?_)
    refine cga (rn_V (As := []) (rest := []) (b := p0) (x_X2_measure l D Y Z H.size u57 T g q p0 hT ht0) ⟨hx, hb, hml, hown, hg⟩ lk_X2_69 ⟨CPC.blind, va_recv hKN.1 hP (ci := 2) (q0 := p76) rfl hk77, CPC.at hP hKN hD hSZ hS hA⟩ ⟨⟨rfl, rfl⟩, ⟨Nat.le_of_ble_eq_true rfl, Nat.le_of_ble_eq_true rfl⟩, ⟨(Nat.le_of_ble_eq_true rfl), (Nat.le_of_ble_eq_true rfl)⟩⟩ hl.1 rfl (Nat.le_of_ble_eq_true rfl) dX2_see_140) hP hD hS hA (fun u78 H locs hw79 hP hD hS => ?_)
    obtain ⟨hT, ke81, ke82⟩ : TW Y Z T g q u78 ∧ KF 1 T u57 u78 ∧ KF 6 T u57 u78 := hw79
    have ke83 : KF 1 T ws u78 := KF.tr ke62 ke81
    have ke84 : KF 6 T ws u78 := KF.tr ke63 ke82
    refine W.eq (g2 := F0 m 143 ls []) rfl ?_
    refine W.widen (k := 0) (n := 0) (Nat.le_of_ble_eq_true rfl) (Nat.le_of_ble_eq_true rfl) ?_
    exact W.vret hx hb hr (fun t ht hW => ⟨⟨u78, rfl, ⟨hT, ke83, ke84⟩, CB.mk ht hP hD⟩, hS.F ht⟩) hS.2.2 dX2_see_143
  · skip
    have ht85 := ht40 b42 rfl
    have h86 := hw41 b42 rfl
    refine W.eq (g2 := F0 m 5 ls [.ref b42]) rfl ?_
    refine lv_astore (lv' := [(4, .ref b42), (0, .ref p0), (1, .ref p1), (2, .int p2), (3, .int p3)]) hx hb dX2_see_5 hl (by decide) rfl (fun ls hl => ?_)
    refine lv_aload hx hb dX2_see_7 (lv_at hl 0 rfl) ?_
    refine lv_ifnonnull (tgt := 24) hx hb dX2_see_9 (by decide) ?_
    refine lv_iload_n hx hb dX2_see_24 rfl (lv_at hl 4 rfl) ?_
    refine lv_iconst (v := 1) hx hb dX2_see_25 (by decide) ?_
    have j87 := rgI p3
    refine lv_icmp_ne (tgt := 41) hx hb dX2_see_26 (by decide) (fun c88 => ?_) (fun c88 => ?_)
    · skip
      have c88 := i_ne (Eq.refl p3.toInt) (show (1 : Int32).toInt = 1 by decide) c88
      refine lv_iload_n hx hb dX2_see_41 rfl (lv_at hl 4 rfl) ?_
      refine lv_iconst (v := 2) hx hb dX2_see_42 (by decide) ?_
      refine lv_icmp_ne (tgt := 60) hx hb dX2_see_43 (by decide) (fun c89 => ?_) (fun c89 => ?_)
      · skip
        have c89 := i_ne (Eq.refl p3.toInt) (show (2 : Int32).toInt = 2 by decide) c89
        refine lv_iload_n hx hb dX2_see_60 rfl (lv_at hl 4 rfl) ?_
        refine lv_iconst (v := 3) hx hb dX2_see_61 (by decide) ?_
        refine lv_icmp_ne (tgt := 81) hx hb dX2_see_62 (by decide) (fun c90 => ?_) (fun c90 => ?_)
        · skip
          have c90 := i_ne (Eq.refl p3.toInt) (show (3 : Int32).toInt = 3 by decide) c90
          refine lv_iload_n hx hb dX2_see_81 rfl (lv_at hl 4 rfl) ?_
          refine lv_iconst (v := 5) hx hb dX2_see_82 (by decide) ?_
          refine lv_icmp_ne (tgt := 102) hx hb dX2_see_83 (by decide) (fun c91 => ?_) (fun c91 => ?_)
          · skip
            have c91 := i_ne (Eq.refl p3.toInt) (show (5 : Int32).toInt = 5 by decide) c91
            refine lv_aload hx hb dX2_see_102 (lv_at hl 0 rfl) ?_
            refine ok3 hT ht85 (fun p98 x92 x93 x94 a95 hk99 h96 h97 => ?_)
            refine va_getN (D := D) (ci := 7) (v := .ref a95) (C := RX7) (T := TX7) (N := 4) hx hb hg inGX7 hown hKN.1 hP p98 hk99 rfl 3 (by decide) (va_Nw.use rfl (hKN.2.1 _ kn_442 rfl)) (fun _ h9 => h9) rfl dX2_see_104 ?_
            refine lv_iconst (v := 0) hx hb dX2_see_107 (by decide) ?_
            refine lv_aload_n hx hb dX2_see_108 rfl (lv_at hl 1 rfl) ?_
            refine ok9 hT ht0 (fun p112 a100 a101 a102 x103 y104 y105 x106 y107 hk113 h108 h109 h110 h111 => ?_)
            refine va_get (D := D) (ci := 2) (v := .ref a100) (C := RX2) (T := TX2) (N := 8) hx hb hg inGX2 hown hKN.1 hP p112 hk113 rfl 0 (by decide) (hg _ kw_232) (fun _ h9 => h9) rfl dX2_see_109 ?_
            refine lv_iconst (v := 0) hx hb dX2_see_112 (by decide) ?_
            refine lv_sipush (v := 600) hx hb dX2_see_113 (by decide) ?_
            have zi600 : (600 : Int32).toInt = 600 := by decide
            have zi0 : (0 : Int32).toInt = 0 := by decide
            refine tr_cp12 hx hb (hml.trans hl.1.symm) hown (hg _ kw_518) (hg _ kw_520) (hg _ kw_519) (hg _ kw_13) hKN hP hD hS hT h97 h108 (by decide) (by decide) (by decide) (by decide) (by decide) (Nat.le_of_ble_eq_true rfl) (Nat.le_of_ble_eq_true rfl) dX2_see_116 (fun w114 H locs hP hD hS hT kp115 => ?_)
            have ke116 : KF 1 T ws w114 := KF.tr KF.rf (KF.kp kp115 h108 (by decide))
            have ke117 : KF 6 T ws w114 := KF.tr KF.rf (KF.kp kp115 h108 (by decide))
            have hk118 := kp115 _ _ hk36 (rne ht1 h108 (by decide))
            have hk119 := kp115 _ _ hk99 (rne ht85 h108 (by decide))
            have hk120 := kp115 _ _ hk113 (rne ht0 h108 (by decide))
            refine lv_aload hx hb dX2_see_119 (lv_at hl 0 rfl) ?_
            refine lv_ifnull hx hb dX2_see_121 ?_
            refine lv_iload_n hx hb dX2_see_124 rfl (lv_at hl 4 rfl) ?_
            refine lv_iconst (v := 4) hx hb dX2_see_125 (by decide) ?_
            refine lv_icmp_ne (tgt := 139) hx hb dX2_see_126 (by decide) (fun c121 => ?_) (fun c121 => ?_)
            · skip
              have c121 := i_ne (Eq.refl p3.toInt) (show (4 : Int32).toInt = 4 by decide) c121
              refine lv_aload_n hx hb dX2_see_139 rfl (lv_at hl 1 rfl) ?_
              refine cga (rn_V (As := []) (rest := []) (b := p0) (x_X2_measure l D Y Z H.size w114 T g q p0 hT ht0) ⟨hx, hb, hml, hown, hg⟩ lk_X2_69 ⟨CPC.blind, va_recv hKN.1 hP (ci := 2) (q0 := p112) rfl hk120, CPC.at hP hKN hD hSZ hS hA⟩ ⟨⟨rfl, rfl⟩, ⟨Nat.le_of_ble_eq_true rfl, Nat.le_of_ble_eq_true rfl⟩, ⟨(Nat.le_of_ble_eq_true rfl), (Nat.le_of_ble_eq_true rfl)⟩⟩ hl.1 rfl (Nat.le_of_ble_eq_true rfl) dX2_see_140) hP hD hS hA (fun u122 H locs hw123 hP hD hS => ?_)
              obtain ⟨hT, ke125, ke126⟩ : TW Y Z T g q u122 ∧ KF 1 T w114 u122 ∧ KF 6 T w114 u122 := hw123
              have ke127 : KF 1 T ws u122 := KF.tr ke116 ke125
              have ke128 : KF 6 T ws u122 := KF.tr ke117 ke126
              refine W.eq (g2 := F0 m 143 ls []) rfl ?_
              refine W.widen (k := 0) (n := 0) (Nat.le_of_ble_eq_true rfl) (Nat.le_of_ble_eq_true rfl) ?_
              exact W.vret hx hb hr (fun t ht hW => ⟨⟨u122, rfl, ⟨hT, ke127, ke128⟩, CB.mk ht hP hD⟩, hS.F ht⟩) hS.2.2 dX2_see_143
            · skip
              have c121 := i_eq (Eq.refl p3.toInt) (show (4 : Int32).toInt = 4 by decide) c121
              refine lv_aload_n hx hb dX2_see_129 rfl (lv_at hl 1 rfl) ?_
              refine lv_aload_n hx hb dX2_see_130 rfl (lv_at hl 2 rfl) ?_
              refine lv_aload hx hb dX2_see_131 (lv_at hl 0 rfl) ?_
              refine va_getN (D := D) (ci := 7) (v := .int x93) (C := RX7) (T := TX7) (N := 4) hx hb hg inGX7 hown hKN.1 hP p98 hk119 rfl 1 (by decide) (va_Nw.use rfl (hKN.2.1 _ kn_437 rfl)) (fun _ h9 => h9) rfl dX2_see_133 ?_
              refine cga (rn_V (As := [.ref p1, .int x93]) (rest := []) (b := p0) (x_X2_dropMasked l D Y Z H.size w114 T g q j p0 p1 x93 hT ht0 ht1) ⟨hx, hb, hml, hown, hg⟩ lk_X2_65 ⟨CPC.blind, va_recv hKN.1 hP (ci := 2) (q0 := p112) rfl hk120, CPC.at hP hKN hD hSZ hS hA⟩ ⟨⟨rfl, rfl⟩, ⟨Nat.le_of_ble_eq_true rfl, Nat.le_of_ble_eq_true rfl⟩, ⟨(Nat.le_of_ble_eq_true rfl), (Nat.le_of_ble_eq_true rfl)⟩⟩ hl.1 rfl (Nat.le_of_ble_eq_true rfl) dX2_see_136) hP hD hS hA (fun u129 H locs hw130 hP hD hS => ?_)
              obtain ⟨hT, ke132, ke133⟩ : TW Y Z T g q u129 ∧ KF 1 T w114 u129 ∧ KF 6 T w114 u129 := hw130
              have ke134 : KF 1 T ws u129 := KF.tr ke116 ke132
              have ke135 : KF 6 T ws u129 := KF.tr ke117 ke133
              refine W.eq (g2 := F0 m 139 ls []) rfl ?_
              refine lv_aload_n hx hb dX2_see_139 rfl (lv_at hl 1 rfl) ?_
              refine ok9 hT ht0 (fun p148 a136 a137 a138 x139 y140 y141 x142 y143 hk149 h144 h145 h146 h147 => ?_)
              refine cga (rn_V (As := []) (rest := []) (b := p0) (x_X2_measure l D Y Z H.size u129 T g q p0 hT ht0) ⟨hx, hb, hml, hown, hg⟩ lk_X2_69 ⟨CPC.blind, va_recv hKN.1 hP (ci := 2) (q0 := p148) rfl hk149, CPC.at hP hKN hD hSZ hS hA⟩ ⟨⟨rfl, rfl⟩, ⟨Nat.le_of_ble_eq_true rfl, Nat.le_of_ble_eq_true rfl⟩, ⟨(Nat.le_of_ble_eq_true rfl), (Nat.le_of_ble_eq_true rfl)⟩⟩ hl.1 rfl (Nat.le_of_ble_eq_true rfl) dX2_see_140) hP hD hS hA (fun u150 H locs hw151 hP hD hS => ?_)
              obtain ⟨hT, ke153, ke154⟩ : TW Y Z T g q u150 ∧ KF 1 T u129 u150 ∧ KF 6 T u129 u150 := hw151
              have ke155 : KF 1 T ws u150 := KF.tr ke134 ke153
              have ke156 : KF 6 T ws u150 := KF.tr ke135 ke154
              refine W.eq (g2 := F0 m 143 ls []) rfl ?_
              refine W.widen (k := 0) (n := 0) (Nat.le_of_ble_eq_true rfl) (Nat.le_of_ble_eq_true rfl) ?_
              exact W.vret hx hb hr (fun t ht hW => ⟨⟨u150, rfl, ⟨hT, ke155, ke156⟩, CB.mk ht hP hD⟩, hS.F ht⟩) hS.2.2 dX2_see_143
          · skip
            have c91 := i_eq (Eq.refl p3.toInt) (show (5 : Int32).toInt = 5 by decide) c91
            refine lv_aload_n hx hb dX2_see_86 rfl (lv_at hl 1 rfl) ?_
            refine lv_aload hx hb dX2_see_87 (lv_at hl 0 rfl) ?_
            refine ok3 hT ht85 (fun p163 x157 x158 x159 a160 hk164 h161 h162 => ?_)
            refine va_getN (D := D) (ci := 7) (v := .ref a160) (C := RX7) (T := TX7) (N := 4) hx hb hg inGX7 hown hKN.1 hP p163 hk164 rfl 3 (by decide) (va_Nw.use rfl (hKN.2.1 _ kn_442 rfl)) (fun _ h9 => h9) rfl dX2_see_89 ?_
            refine lv_aload_n hx hb dX2_see_92 rfl (lv_at hl 2 rfl) ?_
            refine va_getN (D := D) (ci := 6) (v := .int x11) (C := RX6) (T := TX6) (N := 13) hx hb hg inGX6 hown hKN.1 hP p35 hk36 rfl 10 (by decide) (va_Nw.use rfl (hKN.2.1 _ kn_62 rfl)) (fun _ h9 => h9) rfl dX2_see_93 ?_
            refine ok9 hT ht0 (fun p177 a165 a166 a167 x168 y169 y170 x171 y172 hk178 h173 h174 h175 h176 => ?_)
            refine cga (rn_V (As := [.ref a160, .int x11]) (rest := []) (b := p0) (x_X2_moveSeasons l D Y Z H.size ws T g q p0 a160 x11 hT ht0 h162) ⟨hx, hb, hml, hown, hg⟩ lk_X2_43 ⟨CPC.blind, va_recv hKN.1 hP (ci := 2) (q0 := p177) rfl hk178, CPC.at hP hKN hD hSZ hS hA⟩ ⟨⟨rfl, rfl⟩, ⟨Nat.le_of_ble_eq_true rfl, Nat.le_of_ble_eq_true rfl⟩, ⟨(Nat.le_of_ble_eq_true rfl), (Nat.le_of_ble_eq_true rfl)⟩⟩ hl.1 rfl (Nat.le_of_ble_eq_true rfl) dX2_see_96) hP hD hS hA (fun u179 H locs hw180 hP hD hS => ?_)
            obtain ⟨hT, ke182, ke183⟩ : TW Y Z T g q u179 ∧ KF 1 T ws u179 ∧ KF 6 T ws u179 := hw180
            have ke184 : KF 1 T ws u179 := KF.tr KF.rf ke182
            have ke185 : KF 6 T ws u179 := KF.tr KF.rf ke183
            refine W.eq (g2 := F0 m 99 ls []) rfl ?_
            refine lv_goto (tgt := 119) hx hb dX2_see_99 (by decide) ?_
            refine lv_aload hx hb dX2_see_119 (lv_at hl 0 rfl) ?_
            refine lv_ifnull hx hb dX2_see_121 ?_
            refine lv_iload_n hx hb dX2_see_124 rfl (lv_at hl 4 rfl) ?_
            refine lv_iconst (v := 4) hx hb dX2_see_125 (by decide) ?_
            refine lv_icmp_ne (tgt := 139) hx hb dX2_see_126 (by decide) (fun c186 => ?_) (fun c186 => ?_)
            rotate_left
            · have c186 := i_eq (Eq.refl p3.toInt) (show (4 : Int32).toInt = 4 by decide) c186; exfalso; omega
            have c186 := i_ne (Eq.refl p3.toInt) (show (4 : Int32).toInt = 4 by decide) c186
            refine lv_aload_n hx hb dX2_see_139 rfl (lv_at hl 1 rfl) ?_
            refine ok9 hT ht0 (fun p199 a187 a188 a189 x190 y191 y192 x193 y194 hk200 h195 h196 h197 h198 => ?_)
            refine cga (rn_V (As := []) (rest := []) (b := p0) (x_X2_measure l D Y Z H.size u179 T g q p0 hT ht0) ⟨hx, hb, hml, hown, hg⟩ lk_X2_69 ⟨CPC.blind, va_recv hKN.1 hP (ci := 2) (q0 := p199) rfl hk200, CPC.at hP hKN hD hSZ hS hA⟩ ⟨⟨rfl, rfl⟩, ⟨Nat.le_of_ble_eq_true rfl, Nat.le_of_ble_eq_true rfl⟩, ⟨(Nat.le_of_ble_eq_true rfl), (Nat.le_of_ble_eq_true rfl)⟩⟩ hl.1 rfl (Nat.le_of_ble_eq_true rfl) dX2_see_140) hP hD hS hA (fun u201 H locs hw202 hP hD hS => ?_)
            obtain ⟨hT, ke204, ke205⟩ : TW Y Z T g q u201 ∧ KF 1 T u179 u201 ∧ KF 6 T u179 u201 := hw202
            have ke206 : KF 1 T ws u201 := KF.tr ke184 ke204
            have ke207 : KF 6 T ws u201 := KF.tr ke185 ke205
            refine W.eq (g2 := F0 m 143 ls []) rfl ?_
            refine W.widen (k := 0) (n := 0) (Nat.le_of_ble_eq_true rfl) (Nat.le_of_ble_eq_true rfl) ?_
            exact W.vret hx hb hr (fun t ht hW => ⟨⟨u201, rfl, ⟨hT, ke206, ke207⟩, CB.mk ht hP hD⟩, hS.F ht⟩) hS.2.2 dX2_see_143
        · skip
          have c90 := i_eq (Eq.refl p3.toInt) (show (3 : Int32).toInt = 3 by decide) c90
          refine lv_aload_n hx hb dX2_see_65 rfl (lv_at hl 1 rfl) ?_
          refine lv_aload hx hb dX2_see_66 (lv_at hl 0 rfl) ?_
          refine ok3 hT ht85 (fun p214 x208 x209 x210 a211 hk215 h212 h213 => ?_)
          refine va_getN (D := D) (ci := 7) (v := .ref a211) (C := RX7) (T := TX7) (N := 4) hx hb hg inGX7 hown hKN.1 hP p214 hk215 rfl 3 (by decide) (va_Nw.use rfl (hKN.2.1 _ kn_442 rfl)) (fun _ h9 => h9) rfl dX2_see_68 ?_
          refine lv_aload_n hx hb dX2_see_71 rfl (lv_at hl 2 rfl) ?_
          refine va_getN (D := D) (ci := 6) (v := .int x8) (C := RX6) (T := TX6) (N := 13) hx hb hg inGX6 hown hKN.1 hP p35 hk36 rfl 7 (by decide) (va_Nw.use rfl (hKN.2.1 _ kn_54 rfl)) (fun _ h9 => h9) rfl dX2_see_72 ?_
          refine ok9 hT ht0 (fun p228 a216 a217 a218 x219 y220 y221 x222 y223 hk229 h224 h225 h226 h227 => ?_)
          refine cga (rn_V (As := [.ref a211, .int x8]) (rest := []) (b := p0) (x_X2_cleanRow l D Y Z H.size ws T g q p0 a211 x8 hT ht0 h213 (show (0 ≤ x8.toInt ∧ x8.toInt ≤ 50) by omega)) ⟨hx, hb, hml, hown, hg⟩ lk_X2_50 ⟨CPC.blind, va_recv hKN.1 hP (ci := 2) (q0 := p228) rfl hk229, CPC.at hP hKN hD hSZ hS hA⟩ ⟨⟨rfl, rfl⟩, ⟨Nat.le_of_ble_eq_true rfl, Nat.le_of_ble_eq_true rfl⟩, ⟨(Nat.le_of_ble_eq_true rfl), (Nat.le_of_ble_eq_true rfl)⟩⟩ hl.1 rfl (Nat.le_of_ble_eq_true rfl) dX2_see_75) hP hD hS hA (fun u230 H locs hw231 hP hD hS => ?_)
          obtain ⟨hT, ke233, ke234⟩ : TW Y Z T g q u230 ∧ KF 1 T ws u230 ∧ KF 6 T ws u230 := hw231
          have ke235 : KF 1 T ws u230 := KF.tr KF.rf ke233
          have ke236 : KF 6 T ws u230 := KF.tr KF.rf ke234
          refine W.eq (g2 := F0 m 78 ls []) rfl ?_
          refine lv_goto (tgt := 119) hx hb dX2_see_78 (by decide) ?_
          refine lv_aload hx hb dX2_see_119 (lv_at hl 0 rfl) ?_
          refine lv_ifnull hx hb dX2_see_121 ?_
          refine lv_iload_n hx hb dX2_see_124 rfl (lv_at hl 4 rfl) ?_
          refine lv_iconst (v := 4) hx hb dX2_see_125 (by decide) ?_
          refine lv_icmp_ne (tgt := 139) hx hb dX2_see_126 (by decide) (fun c237 => ?_) (fun c237 => ?_)
          rotate_left
          · have c237 := i_eq (Eq.refl p3.toInt) (show (4 : Int32).toInt = 4 by decide) c237; exfalso; omega
          have c237 := i_ne (Eq.refl p3.toInt) (show (4 : Int32).toInt = 4 by decide) c237
          refine lv_aload_n hx hb dX2_see_139 rfl (lv_at hl 1 rfl) ?_
          refine ok9 hT ht0 (fun p250 a238 a239 a240 x241 y242 y243 x244 y245 hk251 h246 h247 h248 h249 => ?_)
          refine cga (rn_V (As := []) (rest := []) (b := p0) (x_X2_measure l D Y Z H.size u230 T g q p0 hT ht0) ⟨hx, hb, hml, hown, hg⟩ lk_X2_69 ⟨CPC.blind, va_recv hKN.1 hP (ci := 2) (q0 := p250) rfl hk251, CPC.at hP hKN hD hSZ hS hA⟩ ⟨⟨rfl, rfl⟩, ⟨Nat.le_of_ble_eq_true rfl, Nat.le_of_ble_eq_true rfl⟩, ⟨(Nat.le_of_ble_eq_true rfl), (Nat.le_of_ble_eq_true rfl)⟩⟩ hl.1 rfl (Nat.le_of_ble_eq_true rfl) dX2_see_140) hP hD hS hA (fun u252 H locs hw253 hP hD hS => ?_)
          obtain ⟨hT, ke255, ke256⟩ : TW Y Z T g q u252 ∧ KF 1 T u230 u252 ∧ KF 6 T u230 u252 := hw253
          have ke257 : KF 1 T ws u252 := KF.tr ke235 ke255
          have ke258 : KF 6 T ws u252 := KF.tr ke236 ke256
          refine W.eq (g2 := F0 m 143 ls []) rfl ?_
          refine W.widen (k := 0) (n := 0) (Nat.le_of_ble_eq_true rfl) (Nat.le_of_ble_eq_true rfl) ?_
          exact W.vret hx hb hr (fun t ht hW => ⟨⟨u252, rfl, ⟨hT, ke257, ke258⟩, CB.mk ht hP hD⟩, hS.F ht⟩) hS.2.2 dX2_see_143
      · skip
        have c89 := i_eq (Eq.refl p3.toInt) (show (2 : Int32).toInt = 2 by decide) c89
        refine lv_aload_n hx hb dX2_see_46 rfl (lv_at hl 1 rfl) ?_
        refine lv_aload hx hb dX2_see_47 (lv_at hl 0 rfl) ?_
        refine ok3 hT ht85 (fun p265 x259 x260 x261 a262 hk266 h263 h264 => ?_)
        refine va_getN (D := D) (ci := 7) (v := .ref a262) (C := RX7) (T := TX7) (N := 4) hx hb hg inGX7 hown hKN.1 hP p265 hk266 rfl 3 (by decide) (va_Nw.use rfl (hKN.2.1 _ kn_442 rfl)) (fun _ h9 => h9) rfl dX2_see_49 ?_
        refine lv_bipush (v := 23) hx hb dX2_see_52 (by decide) ?_
        have zi23 : (23 : Int32).toInt = 23 := by decide
        refine ok9 hT ht0 (fun p279 a267 a268 a269 x270 y271 y272 x273 y274 hk280 h275 h276 h277 h278 => ?_)
        refine cga (rn_V (As := [.ref a262, .int 23]) (rest := []) (b := p0) (x_X2_moveSeasons l D Y Z H.size ws T g q p0 a262 23 hT ht0 h264) ⟨hx, hb, hml, hown, hg⟩ lk_X2_43 ⟨CPC.blind, va_recv hKN.1 hP (ci := 2) (q0 := p279) rfl hk280, CPC.at hP hKN hD hSZ hS hA⟩ ⟨⟨rfl, rfl⟩, ⟨Nat.le_of_ble_eq_true rfl, Nat.le_of_ble_eq_true rfl⟩, ⟨(Nat.le_of_ble_eq_true rfl), (Nat.le_of_ble_eq_true rfl)⟩⟩ hl.1 rfl (Nat.le_of_ble_eq_true rfl) dX2_see_54) hP hD hS hA (fun u281 H locs hw282 hP hD hS => ?_)
        obtain ⟨hT, ke284, ke285⟩ : TW Y Z T g q u281 ∧ KF 1 T ws u281 ∧ KF 6 T ws u281 := hw282
        have ke286 : KF 1 T ws u281 := KF.tr KF.rf ke284
        have ke287 : KF 6 T ws u281 := KF.tr KF.rf ke285
        refine W.eq (g2 := F0 m 57 ls []) rfl ?_
        refine lv_goto (tgt := 119) hx hb dX2_see_57 (by decide) ?_
        refine lv_aload hx hb dX2_see_119 (lv_at hl 0 rfl) ?_
        refine lv_ifnull hx hb dX2_see_121 ?_
        refine lv_iload_n hx hb dX2_see_124 rfl (lv_at hl 4 rfl) ?_
        refine lv_iconst (v := 4) hx hb dX2_see_125 (by decide) ?_
        refine lv_icmp_ne (tgt := 139) hx hb dX2_see_126 (by decide) (fun c288 => ?_) (fun c288 => ?_)
        rotate_left
        · have c288 := i_eq (Eq.refl p3.toInt) (show (4 : Int32).toInt = 4 by decide) c288; exfalso; omega
        have c288 := i_ne (Eq.refl p3.toInt) (show (4 : Int32).toInt = 4 by decide) c288
        refine lv_aload_n hx hb dX2_see_139 rfl (lv_at hl 1 rfl) ?_
        refine ok9 hT ht0 (fun p301 a289 a290 a291 x292 y293 y294 x295 y296 hk302 h297 h298 h299 h300 => ?_)
        refine cga (rn_V (As := []) (rest := []) (b := p0) (x_X2_measure l D Y Z H.size u281 T g q p0 hT ht0) ⟨hx, hb, hml, hown, hg⟩ lk_X2_69 ⟨CPC.blind, va_recv hKN.1 hP (ci := 2) (q0 := p301) rfl hk302, CPC.at hP hKN hD hSZ hS hA⟩ ⟨⟨rfl, rfl⟩, ⟨Nat.le_of_ble_eq_true rfl, Nat.le_of_ble_eq_true rfl⟩, ⟨(Nat.le_of_ble_eq_true rfl), (Nat.le_of_ble_eq_true rfl)⟩⟩ hl.1 rfl (Nat.le_of_ble_eq_true rfl) dX2_see_140) hP hD hS hA (fun u303 H locs hw304 hP hD hS => ?_)
        obtain ⟨hT, ke306, ke307⟩ : TW Y Z T g q u303 ∧ KF 1 T u281 u303 ∧ KF 6 T u281 u303 := hw304
        have ke308 : KF 1 T ws u303 := KF.tr ke286 ke306
        have ke309 : KF 6 T ws u303 := KF.tr ke287 ke307
        refine W.eq (g2 := F0 m 143 ls []) rfl ?_
        refine W.widen (k := 0) (n := 0) (Nat.le_of_ble_eq_true rfl) (Nat.le_of_ble_eq_true rfl) ?_
        exact W.vret hx hb hr (fun t ht hW => ⟨⟨u303, rfl, ⟨hT, ke308, ke309⟩, CB.mk ht hP hD⟩, hS.F ht⟩) hS.2.2 dX2_see_143
    · skip
      have c88 := i_eq (Eq.refl p3.toInt) (show (1 : Int32).toInt = 1 by decide) c88
      refine lv_aload_n hx hb dX2_see_29 rfl (lv_at hl 1 rfl) ?_
      refine lv_aload hx hb dX2_see_30 (lv_at hl 0 rfl) ?_
      refine ok3 hT ht85 (fun p316 x310 x311 x312 a313 hk317 h314 h315 => ?_)
      refine va_getN (D := D) (ci := 7) (v := .ref a313) (C := RX7) (T := TX7) (N := 4) hx hb hg inGX7 hown hKN.1 hP p316 hk317 rfl 3 (by decide) (va_Nw.use rfl (hKN.2.1 _ kn_442 rfl)) (fun _ h9 => h9) rfl dX2_see_32 ?_
      refine ok9 hT ht0 (fun p330 a318 a319 a320 x321 y322 y323 x324 y325 hk331 h326 h327 h328 h329 => ?_)
      refine cga (rn_V (As := [.ref a313]) (rest := []) (b := p0) (x_X2_turnOver l D Y Z H.size ws T g q p0 a313 hT ht0 h315) ⟨hx, hb, hml, hown, hg⟩ lk_X2_39 ⟨CPC.blind, va_recv hKN.1 hP (ci := 2) (q0 := p330) rfl hk331, CPC.at hP hKN hD hSZ hS hA⟩ ⟨⟨rfl, rfl⟩, ⟨Nat.le_of_ble_eq_true rfl, Nat.le_of_ble_eq_true rfl⟩, ⟨(Nat.le_of_ble_eq_true rfl), (Nat.le_of_ble_eq_true rfl)⟩⟩ hl.1 rfl (Nat.le_of_ble_eq_true rfl) dX2_see_35) hP hD hS hA (fun u332 H locs hw333 hP hD hS => ?_)
      obtain ⟨hT, ke335, ke336⟩ : TW Y Z T g q u332 ∧ KF 1 T ws u332 ∧ KF 6 T ws u332 := hw333
      have ke337 : KF 1 T ws u332 := KF.tr KF.rf ke335
      have ke338 : KF 6 T ws u332 := KF.tr KF.rf ke336
      refine W.eq (g2 := F0 m 38 ls []) rfl ?_
      refine lv_goto (tgt := 119) hx hb dX2_see_38 (by decide) ?_
      refine lv_aload hx hb dX2_see_119 (lv_at hl 0 rfl) ?_
      refine lv_ifnull hx hb dX2_see_121 ?_
      refine lv_iload_n hx hb dX2_see_124 rfl (lv_at hl 4 rfl) ?_
      refine lv_iconst (v := 4) hx hb dX2_see_125 (by decide) ?_
      refine lv_icmp_ne (tgt := 139) hx hb dX2_see_126 (by decide) (fun c339 => ?_) (fun c339 => ?_)
      rotate_left
      · have c339 := i_eq (Eq.refl p3.toInt) (show (4 : Int32).toInt = 4 by decide) c339; exfalso; omega
      have c339 := i_ne (Eq.refl p3.toInt) (show (4 : Int32).toInt = 4 by decide) c339
      refine lv_aload_n hx hb dX2_see_139 rfl (lv_at hl 1 rfl) ?_
      refine ok9 hT ht0 (fun p352 a340 a341 a342 x343 y344 y345 x346 y347 hk353 h348 h349 h350 h351 => ?_)
      refine cga (rn_V (As := []) (rest := []) (b := p0) (x_X2_measure l D Y Z H.size u332 T g q p0 hT ht0) ⟨hx, hb, hml, hown, hg⟩ lk_X2_69 ⟨CPC.blind, va_recv hKN.1 hP (ci := 2) (q0 := p352) rfl hk353, CPC.at hP hKN hD hSZ hS hA⟩ ⟨⟨rfl, rfl⟩, ⟨Nat.le_of_ble_eq_true rfl, Nat.le_of_ble_eq_true rfl⟩, ⟨(Nat.le_of_ble_eq_true rfl), (Nat.le_of_ble_eq_true rfl)⟩⟩ hl.1 rfl (Nat.le_of_ble_eq_true rfl) dX2_see_140) hP hD hS hA (fun u354 H locs hw355 hP hD hS => ?_)
      obtain ⟨hT, ke357, ke358⟩ : TW Y Z T g q u354 ∧ KF 1 T u332 u354 ∧ KF 6 T u332 u354 := hw355
      have ke359 : KF 1 T ws u354 := KF.tr ke337 ke357
      have ke360 : KF 6 T ws u354 := KF.tr ke338 ke358
      refine W.eq (g2 := F0 m 143 ls []) rfl ?_
      refine W.widen (k := 0) (n := 0) (Nat.le_of_ble_eq_true rfl) (Nat.le_of_ble_eq_true rfl) ?_
      exact W.vret hx hb hr (fun t ht hW => ⟨⟨u354, rfl, ⟨hT, ke359, ke360⟩, CB.mk ht hP hD⟩, hS.F ht⟩) hS.2.2 dX2_see_143
