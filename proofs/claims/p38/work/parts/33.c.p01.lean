set_option maxHeartbeats 4000000 in
set_option maxRecDepth 100000 in
theorem x_X6_addBytes (l : Launch) (D : va_G) (Y : Nat → ClassId) (Z : Nat → Nat) (sz : Nat) (ws : va_W) (T : RT) (g : GN) (q : GQ) (j : Nat) (p0 : Nat) (p1 : Int32) (hT : TW Y Z T g q ws) (ht0 : T p0 = (2, j, 0)) : Met l yX6_addBytes (.code yX6_addBytes cX6_addBytes 3 none :: GW) ({ frames := 0, cells := 0, slots := 0, locals := 0 }) (va_Pc [.ref p0, .int p1] (CPC D Y Z ws sz)) (QG (S := va_W) (fun _ => none) (fun u => TW Y Z T g q u ∧ KF 1 T ws u ∧ KF 6 T ws u) (fun u => CB D u (va_A ws sz)) (va_A ws sz)) 0 0 (va_A ws sz) := by
  refine Met.ofW (cc := cX6_addBytes) (maxL := 3) (ret := none) (by decide) rfl ?_
  intro p e s m args below meth c s₁ B hml hv
  obtain ⟨rfl, ⟨hsz, hP, hKN, hD0⟩, hSZ⟩ := hv
  have hx := B.exec
  have hb := B.bytes
  have hr := B.returns
  have hts := atoms_spec (ws := .code yX6_addBytes cX6_addBytes 3 none :: GW) B.pre
  have hg : ∀ w ∈ GW, w.before _ s = true := fun w h => hts w (List.mem_cons_of_mem _ h)
  have hown : s.vm.findClass RX6 = some m.cls := findClass_of_methodNamed B.named
  have hlocks := B.notSynchronized
  subst hsz
  have hD := hD0.self (sz := s.heap.size)
  generalize hAe : va_A ws s.heap.size = A at hD hSZ ⊢
  have hA : ∀ q : Nat, s.heap.size ≤ q → A q := fun q h => by rw [← hAe]; exact Or.inr h
  clear hAe hD0 hts B
  have hl := lv_entry ([.ref p0, .int p1]) (n := 3) (Nat.le_of_ble_eq_true rfl)
  rw [lg_entry_eq]
  generalize (lg_sl ([.ref p0, .int p1]) ++ List.replicate (3 - (lg_sl ([.ref p0, .int p1])).length) Slot.unset).toArray = ls at hl ⊢
  have hl : lv_has ls 3 [(0, .ref p0), (1, .int p1)] := hl
  refine w_start (A0 := A) hP (fun H locs hP hS => ?_)
  refine lv_bipush (v := 24) hx hb dX6_addBytes_0 (by decide) ?_
  refine lv_istore_n (lv' := [(2, .int 24), (0, .ref p0), (1, .int p1)]) hx hb dX6_addBytes_2 rfl hl (by decide) rfl (fun ls hl => ?_)
  have zi24 : (24 : Int32).toInt = 24 := by decide
  refine w_loop (σ := Int32 × va_W) (fun xx H locs ls => match xx with | (v117, w118) => va_P D vwCl w118 H ∧ va_D A w118 ∧ va_S A s.heap H locs ∧ lv_has ls 3 [(2, .int v117), (0, .ref p0), (1, .int p1)] ∧ TW Y Z T g q w118 ∧ KF 1 T ws w118 ∧ KF 6 T ws w118 ∧ (-8 ≤ v117.toInt ∧ v117.toInt ≤ 24)) (fun xx => match xx with | (v117, w118) => (v117.toInt + 8).toNat) (24, ws) ⟨hP, hD, hS, lv_sub hl [0, 1, 2] rfl, hT, KF.rf, KF.rf, by omega⟩ (fun xx H locs ls hI ih => ?_)
  obtain ⟨v117, w118⟩ := xx
  obtain ⟨hP, hD, hS, hl, hT, ke239, ke240, hq238⟩ := hI
  have ih241 := ih
  refine lv_iload_n hx hb dX6_addBytes_3 rfl (lv_at hl 0 rfl) ?_
  refine lv_if_lt (tgt := 46) hx hb dX6_addBytes_4 (by decide) (fun c294 => ?_) (fun c294 => ?_)
  · skip
    have c294 := i_lt (Eq.refl v117.toInt) (show (0 : Int32).toInt = 0 by decide) c294
    refine W.widen (k := 0) (n := 0) (Nat.le_of_ble_eq_true rfl) (Nat.le_of_ble_eq_true rfl) ?_
    exact W.vret hx hb hr (fun t ht hW => ⟨⟨w118, rfl, ⟨hT, ke239, ke240⟩, CB.mk ht hP hD⟩, hS.F ht⟩) hS.2.2 dX6_addBytes_46
  · skip
    have c294 := i_nlt (Eq.refl v117.toInt) (show (0 : Int32).toInt = 0 by decide) c294
    refine lv_aload_n hx hb dX6_addBytes_7 rfl (lv_at hl 1 rfl) ?_
    refine ok2 hT ht0 (fun p329 x295 a296 x297 a298 x299 a300 a301 x302 a303 a304 x305 a306 x307 hk330 h308 h309 h310 h311 h312 h313 h314 h315 h316 h317 h318 h319 h320 h321 h322 h323 h324 h325 h326 h327 h328 => ?_)
    refine va_get (D := D) (ci := 6) (v := .int x307) (C := RX6) (T := TX6) (N := 13) hx hb hg inGX6 hown hKN.1 hP p329 hk330 rfl 12 (by decide) (hg _ kw_67) (fun _ h9 => h9) rfl dX6_addBytes_8 ?_
    refine lv_sipush (v := 400) hx hb dX6_addBytes_11 (by decide) ?_
    refine lv_icmp_ge (tgt := 46) hx hb dX6_addBytes_14 (by decide) (fun c346 => ?_) (fun c346 => ?_)
    · skip
      have c346 := i_le (show (400 : Int32).toInt = 400 by decide) (Eq.refl x307.toInt) c346
      refine W.widen (k := 0) (n := 0) (Nat.le_of_ble_eq_true rfl) (Nat.le_of_ble_eq_true rfl) ?_
      exact W.vret hx hb hr (fun t ht hW => ⟨⟨w118, rfl, ⟨hT, ke239, ke240⟩, CB.mk ht hP hD⟩, hS.F ht⟩) hS.2.2 dX6_addBytes_46
    · skip
      have c346 := i_nle (show (400 : Int32).toInt = 400 by decide) (Eq.refl x307.toInt) c346
      refine lv_aload_n hx hb dX6_addBytes_17 rfl (lv_at hl 1 rfl) ?_
      refine va_get (D := D) (ci := 6) (v := .ref a306) (C := RX6) (T := TX6) (N := 13) hx hb hg inGX6 hown hKN.1 hP p329 hk330 rfl 11 (by decide) (hg _ kw_65) (fun _ h9 => h9) rfl dX6_addBytes_18 ?_
      refine lv_aload_n hx hb dX6_addBytes_21 rfl (lv_at hl 1 rfl) ?_
      refine va_get (D := D) (ci := 6) (v := .int x307) (C := RX6) (T := TX6) (N := 13) hx hb hg inGX6 hown hKN.1 hP p329 hk330 rfl 12 (by decide) (hg _ kw_67) (fun _ h9 => h9) rfl dX6_addBytes_22 ?_
      refine lv_iload_n hx hb dX6_addBytes_25 rfl (lv_at hl 2 rfl) ?_
      refine lv_iload_n hx hb dX6_addBytes_26 rfl (lv_at hl 0 rfl) ?_
      refine lv_iushr hx hb dX6_addBytes_27 rfl ?_
      refine lv_topi (fun v347 ev347 => ?_)
      refine lv_i2b (v := v347.toInt8.toInt32) hx hb dX6_addBytes_28 rfl ?_
      refine lv_topi (fun v348 ev348 => ?_)
      refine tr_st16 hx hb hKN hP hD hS hT h327 (vp_in_iff.mpr ⟨by omega, by omega⟩) dX6_addBytes_29 (fun w349 H locs hP hD hS hT kp350 => ?_)
      have ke351 : KF 1 T ws w349 := KF.tr ke239 (KF.kp kp350 h327 (by decide))
      have ke352 : KF 6 T ws w349 := KF.tr ke240 (KF.kp kp350 h327 (by decide))
      have hk353 := kp350 _ _ hk330 (rne ht0 h327 (by decide))
      refine lv_aload_n hx hb dX6_addBytes_30 rfl (lv_at hl 1 rfl) ?_
      refine lv_dup hx hb dX6_addBytes_31 rfl ?_
      refine va_get (D := D) (ci := 6) (v := .int x307) (C := RX6) (T := TX6) (N := 13) hx hb hg inGX6 hown hKN.1 hP p329 hk353 rfl 12 (by decide) (hg _ kw_67) (fun _ h9 => h9) rfl dX6_addBytes_32 ?_
      refine lv_iconst (v := 1) hx hb dX6_addBytes_35 (by decide) ?_
      refine lv_iadd hx hb dX6_addBytes_36 ?_
      refine lv_topi (fun v354 ev354 => ?_)
      have hv354 := i_add (Eq.refl x307.toInt) (show (1 : Int32).toInt = 1 by decide) ev354 (by omega) (by omega)
      refine va_put (D := D) (ci := 6) (v := .int v354) (ty := .int) (C := RX6) (T := TX6) (N := 13) hx hb hg inGX6 tyX6 tyX6_ok nmX6 hown hKN.1 hP hD hS p329 hk353 rfl 12 (by decide) (hg _ kw_67) (fun _ h9 => h9) rfl (by decide +kernel) rfl rfl (Nat.le_of_ble_eq_true rfl) dX6_addBytes_37 (fun H locs hP hD2 hS => ?_)
      obtain ⟨w355, hP, hD, hT, hk357, kp356⟩ : ∃ wz, va_P D vwCl wz H ∧ va_D A wz ∧ TW Y Z T g q wz ∧ wz[p329]? = some (p0, .inr (6, (.int x295 :: .ref a296 :: .int x297 :: .ref a298 :: .int x299 :: .ref a300 :: .ref a301 :: .int x302 :: .ref a303 :: .ref a304 :: .int x305 :: .ref a306 :: .int v354 :: []))) ∧ Kp p0 w349 wz := ⟨_, hP, hD2, st2 hT hD hk353 ht0 ⟨x295, a296, x297, a298, x299, a300, a301, x302, a303, a304, x305, a306, v354, rfl, by omega, h309, h310, h311, by omega, h313, h314, by omega, h316, h317, h318, h319, h320, by omega, h322, h323, h324, by omega, h326, h327, by omega⟩, sw_eq hk353, sw_kp hk353⟩
      have ke358 : KF 1 T ws w355 := KF.tr ke351 (KF.kp kp356 ht0 (by decide))
      have ke359 : KF 6 T ws w355 := KF.tr ke352 (KF.kp kp356 ht0 (by decide))
      obtain ⟨v360, ev360⟩ : ∃ y : Int32, y = v117 + (-8) := ⟨_, rfl⟩
      have hv360 := i_add (Eq.refl v117.toInt) (show ((-8) : Int32).toInt = -8 by decide) ev360 (by omega) (by omega)
      refine lv_iinc (v := v360) (lv' := [(2, .int v360), (0, .ref p0), (1, .int p1)]) hx hb dX6_addBytes_40 hl (k := 0) rfl (by rw [ev360]; rfl) (by decide) rfl (fun ls hl => ?_)
      refine lv_goto (tgt := 3) hx hb dX6_addBytes_43 (by decide) ?_
      exact ih241 (v360, w355) H locs ls (by show (v360.toInt + 8).toNat < (v117.toInt + 8).toNat; omega) ⟨hP, hD, hS, lv_sub hl [0, 1, 2] rfl, hT, ke358, ke359, by omega⟩
set_option maxHeartbeats 4000000 in
set_option maxRecDepth 100000 in
theorem x_X6_dimming (l : Launch) (D : va_G) (Y : Nat → ClassId) (Z : Nat → Nat) (sz : Nat) (ws : va_W) (T : RT) (g : GN) (q : GQ) (j : Nat) (p0 : Nat) (p1 : Int32) (p2 : Int32) (hT : TW Y Z T g q ws) (ht0 : T p0 = (2, j, 0)) : Met l yX6_dimming (.code yX6_dimming cX6_dimming 7 (some .long) :: GW) ({ frames := 1, cells := 0, slots := 0, locals := 21 }) (va_Pc [.ref p0, .int p1, .int p2] (CPC D Y Z ws sz)) (QG (S := Int64) (fun u => some (.long u)) (fun u => True) (fun u => CB D ws (va_A ws sz)) (va_A ws sz)) 0 0 (va_A ws sz) := by
  refine Met.ofW (cc := cX6_dimming) (maxL := 7) (ret := (some .long)) (by decide) rfl ?_
  intro p e s m args below meth c s₁ B hml hv
  obtain ⟨rfl, ⟨hsz, hP, hKN, hD0⟩, hSZ⟩ := hv
  have hx := B.exec
  have hb := B.bytes
  have hr := B.returns
  have hts := atoms_spec (ws := .code yX6_dimming cX6_dimming 7 (some .long) :: GW) B.pre
  have hg : ∀ w ∈ GW, w.before _ s = true := fun w h => hts w (List.mem_cons_of_mem _ h)
  have hown : s.vm.findClass RX6 = some m.cls := findClass_of_methodNamed B.named
  have hlocks := B.notSynchronized
  subst hsz
  have hD := hD0.self (sz := s.heap.size)
  generalize hAe : va_A ws s.heap.size = A at hD hSZ ⊢
  have hA : ∀ q : Nat, s.heap.size ≤ q → A q := fun q h => by rw [← hAe]; exact Or.inr h
  clear hAe hD0 hts B
  have hl := lv_entry ([.ref p0, .int p1, .int p2]) (n := 7) (Nat.le_of_ble_eq_true rfl)
  rw [lg_entry_eq]
  generalize (lg_sl ([.ref p0, .int p1, .int p2]) ++ List.replicate (7 - (lg_sl ([.ref p0, .int p1, .int p2])).length) Slot.unset).toArray = ls at hl ⊢
  have hl : lv_has ls 7 [(0, .ref p0), (1, .int p1), (2, .int p2)] := hl
  refine w_start (A0 := A) hP (fun H locs hP hS => ?_)
  refine lv_lconst (v := 0) hx hb dX6_dimming_0 (by decide) ?_
  refine lv_lstore_n (lv' := [(3, .long 0), (0, .ref p0), (1, .int p1), (2, .int p2)]) hx hb dX6_dimming_1 rfl hl (by decide) rfl (fun ls hl => ?_)
  refine lv_iconst (v := 0) hx hb dX6_dimming_2 (by decide) ?_
  refine lv_istore (lv' := [(5, .int 0), (3, .long 0), (0, .ref p0), (1, .int p1), (2, .int p2)]) hx hb dX6_dimming_3 hl (by decide) rfl (fun ls hl => ?_)
  have zi0 : (0 : Int32).toInt = 0 := by decide
  have zl0 : (0 : Int64).toInt = 0 := by decide
  refine w_loop (σ := Int32 × Int64) (fun xx H locs ls => match xx with | (v153, v154) => va_P D vwCl ws H ∧ va_D A ws ∧ va_S A s.heap H locs ∧ lv_has ls 7 [(5, .int v153), (3, .long v154), (0, .ref p0), (1, .int p1), (2, .int p2)] ∧ TW Y Z T g q ws ∧ (0 ≤ v153.toInt ∧ v153.toInt ≤ 40)) (fun xx => match xx with | (v153, v154) => (40 - v153.toInt).toNat) (0, 0) ⟨hP, hD, hS, lv_sub hl [0, 1, 2, 3, 4] rfl, hT, by omega⟩ (fun xx H locs ls hI ih => ?_)
  obtain ⟨v153, v154⟩ := xx
  obtain ⟨hP, hD, hS, hl, hT, hq309⟩ := hI
  have ih310 := ih
  refine lv_iload hx hb dX6_dimming_5 (lv_at hl 0 rfl) ?_
  refine lv_aload_n hx hb dX6_dimming_7 rfl (lv_at hl 2 rfl) ?_
  refine ok2 hT ht0 (fun p345 x311 a312 x313 a314 x315 a316 a317 x318 a319 a320 x321 a322 x323 hk346 h324 h325 h326 h327 h328 h329 h330 h331 h332 h333 h334 h335 h336 h337 h338 h339 h340 h341 h342 h343 h344 => ?_)
  refine va_get (D := D) (ci := 6) (v := .int x313) (C := RX6) (T := TX6) (N := 13) hx hb hg inGX6 hown hKN.1 hP p345 hk346 rfl 2 (by decide) (hg _ kw_43) (fun _ h9 => h9) rfl dX6_dimming_8 ?_
  refine lv_icmp_ge (tgt := 68) hx hb dX6_dimming_11 (by decide) (fun c406 => ?_) (fun c406 => ?_)
  · skip
    have c406 := i_le (Eq.refl x313.toInt) (Eq.refl v153.toInt) c406
    refine lv_lload_n hx hb dX6_dimming_68 rfl (lv_at hl 1 rfl) ?_
    refine W.widen (k := 0) (n := 0) (Nat.le_of_ble_eq_true rfl) (Nat.le_of_ble_eq_true rfl) ?_
    exact W.lret (v := v154) hx hb hr (fun t ht hW => ⟨⟨v154, rfl, trivial, CB.mk ht hP hD⟩, hS.F ht⟩) hS.2.2 dX6_dimming_69
  · skip
    have c406 := i_nle (Eq.refl x313.toInt) (Eq.refl v153.toInt) c406
    refine lv_aload_n hx hb dX6_dimming_14 rfl (lv_at hl 2 rfl) ?_
    refine lv_iload hx hb dX6_dimming_15 (lv_at hl 0 rfl) ?_
    refine cga (rn_V (As := [.int v153]) (rest := []) (b := p0) (x_X6_worldAt l D Y Z H.size ws T g q j p0 v153 hT ht0) ⟨hx, hb, hml, hown, hg⟩ lk_X6_50 ⟨CPC.blind, va_recv hKN.1 hP (ci := 6) (q0 := p345) rfl hk346, CPC.at hP hKN hD hSZ hS hA⟩ ⟨⟨rfl, rfl⟩, ⟨Nat.le_of_ble_eq_true rfl, Nat.le_of_ble_eq_true rfl⟩, ⟨(Nat.le_of_ble_eq_true rfl), (Nat.le_of_ble_eq_true rfl)⟩⟩ hl.1 rfl (Nat.le_of_ble_eq_true rfl) dX6_dimming_17) hP hD hS hA (fun u407 H locs hw408 hP hD hS => ?_)
    obtain ⟨ht410, hw411⟩ : (∀ b, u407 = some b → T b = (4, 0, 0)) ∧ (∀ b, u407 = some b → 0 ≤ v153.toInt ∧ v153.toInt ≤ 39) := hw408
    refine W.eq (g2 := F0 m 20 ls [va_rf u407]) rfl ?_
    rcases u407 with _ | b412
    · skip
      refine W.eq (g2 := F0 m 20 ls [.null]) rfl ?_
      refine lv_astoreN (lv' := [(6, .null), (5, .int v153), (3, .long v154), (0, .ref p0), (1, .int p1), (2, .int p2)]) hx hb dX6_dimming_20 hl (by decide) rfl (fun ls hl => ?_)
      refine lv_aloadN hx hb dX6_dimming_22 (lv_at hl 0 rfl) ?_
      refine lv_ifnullN (tgt := 62) hx hb dX6_dimming_24 (by decide) ?_
      obtain ⟨v413, ev413⟩ : ∃ y : Int32, y = v153 + 1 := ⟨_, rfl⟩
      have hv413 := i_add (Eq.refl v153.toInt) (show (1 : Int32).toInt = 1 by decide) ev413 (by omega) (by omega)
      refine lv_iinc (v := v413) (lv' := [(5, .int v413), (6, .null), (3, .long v154), (0, .ref p0), (1, .int p1), (2, .int p2)]) hx hb dX6_dimming_62 hl (k := 1) rfl (by rw [ev413]; rfl) (by decide) rfl (fun ls hl => ?_)
      refine lv_goto (tgt := 5) hx hb dX6_dimming_65 (by decide) ?_
      exact ih310 (v413, v154) H locs ls (by show (40 - v413.toInt).toNat < (40 - v153.toInt).toNat; omega) ⟨hP, hD, hS, lv_sub hl [0, 2, 3, 4, 5] rfl, hT, by omega⟩
    · skip
      have ht414 := ht410 b412 rfl
      have h415 := hw411 b412 rfl
      refine W.eq (g2 := F0 m 20 ls [.ref b412]) rfl ?_
      refine lv_astore (lv' := [(6, .ref b412), (5, .int v153), (3, .long v154), (0, .ref p0), (1, .int p1), (2, .int p2)]) hx hb dX6_dimming_20 hl (by decide) rfl (fun ls hl => ?_)
      refine lv_aload hx hb dX6_dimming_22 (lv_at hl 0 rfl) ?_
      refine w_join (σ := Int64) (pcJ := 62) (kJ := 0) (nJ := 0) (stk := fun xx => match xx with | v439 => []) (fun xx H locs ls => match xx with | v439 => va_P D vwCl ws H ∧ va_D A ws ∧ va_S A s.heap H locs ∧ lv_has ls 7 [(6, .ref b412), (5, .int v153), (3, .long v439), (0, .ref p0), (1, .int p1), (2, .int p2)] ∧ TW Y Z T g q ws) (fun xx H locs ls hI => ?_) (fun jn440 => ?_)
      · skip
        revert hI
        generalize xx = v439
        intro hI
        obtain ⟨hP, hD, hS, hl, hT⟩ := hI
        refine W.eq (g2 := F0 m 62 ls []) rfl ?_
        obtain ⟨v441, ev441⟩ : ∃ y : Int32, y = v153 + 1 := ⟨_, rfl⟩
        have hv441 := i_add (Eq.refl v153.toInt) (show (1 : Int32).toInt = 1 by decide) ev441 (by omega) (by omega)
        refine lv_iinc (v := v441) (lv' := [(5, .int v441), (6, .ref b412), (3, .long v439), (0, .ref p0), (1, .int p1), (2, .int p2)]) hx hb dX6_dimming_62 hl (k := 1) rfl (by rw [ev441]; rfl) (by decide) rfl (fun ls hl => ?_)
        refine lv_goto (tgt := 5) hx hb dX6_dimming_65 (by decide) ?_
        exact ih310 (v441, v439) H locs ls (by show (40 - v441.toInt).toNat < (40 - v153.toInt).toNat; omega) ⟨hP, hD, hS, lv_sub hl [0, 2, 3, 4, 5] rfl, hT, by omega⟩
      · skip
        refine lv_ifnull hx hb dX6_dimming_24 ?_
        refine lv_aload hx hb dX6_dimming_27 (lv_at hl 0 rfl) ?_
        refine ok4 hT ht414 (fun p449 x442 x443 x444 x445 x446 x447 hk450 h448 => ?_)
        refine va_getN (D := D) (ci := 9) (v := .int x442) (C := RX9) (T := TX9) (N := 6) hx hb hg inGX9 hown hKN.1 hP p449 hk450 rfl 0 (by decide) (va_Nw.use rfl (hKN.2.1 _ kn_569 rfl)) (fun _ h9 => h9) rfl dX6_dimming_29 ?_
        refine lv_iload_n hx hb dX6_dimming_32 rfl (lv_at hl 4 rfl) ?_
        have j451 := rgI x442
        have j452 := rgI p1
        refine lv_icmp_ne (tgt := 62) hx hb dX6_dimming_33 (by decide) (fun c453 => ?_) (fun c453 => ?_)
        · skip
          have c453 := i_ne (Eq.refl x442.toInt) (Eq.refl p1.toInt) c453
          refine W.widen (k := 0) (n := 0) (Nat.le_of_ble_eq_true rfl) (Nat.le_of_ble_eq_true rfl) ?_
          exact jn440 (v154) H locs ls ⟨hP, hD, hS, lv_sub hl [0, 1, 2, 3, 4, 5] rfl, hT⟩
        · skip
          have c453 := i_eq (Eq.refl x442.toInt) (Eq.refl p1.toInt) c453
          refine lv_aload hx hb dX6_dimming_36 (lv_at hl 0 rfl) ?_
          refine va_getN (D := D) (ci := 9) (v := .int x447) (C := RX9) (T := TX9) (N := 6) hx hb hg inGX9 hown hKN.1 hP p449 hk450 rfl 5 (by decide) (va_Nw.use rfl (hKN.2.1 _ kn_580 rfl)) (fun _ h9 => h9) rfl dX6_dimming_38 ?_
          refine lv_if_ne (tgt := 62) hx hb dX6_dimming_41 (by decide) (fun c454 => ?_) (fun c454 => ?_)
          · skip
            have c454 := i_ne (Eq.refl x447.toInt) (show (0 : Int32).toInt = 0 by decide) c454
            refine W.widen (k := 0) (n := 0) (Nat.le_of_ble_eq_true rfl) (Nat.le_of_ble_eq_true rfl) ?_
            exact jn440 (v154) H locs ls ⟨hP, hD, hS, lv_sub hl [0, 1, 2, 3, 4, 5] rfl, hT⟩
          · skip
            have c454 := i_eq (Eq.refl x447.toInt) (show (0 : Int32).toInt = 0 by decide) c454
            refine lv_aload hx hb dX6_dimming_44 (lv_at hl 0 rfl) ?_
            refine lv_iload_n hx hb dX6_dimming_46 rfl (lv_at hl 5 rfl) ?_
            refine cga (rn_NV (As := [.int p2]) (rest := []) (b := b412) (x_X9_isDipAt l D Y Z H.size ws T g q b412 p2 hT ht414) ⟨hx, hb, hml, hown, hg⟩ hKN lk_X6_82 ⟨CPC.blind, va_recv hKN.1 hP (ci := 9) (q0 := p449) rfl hk450, CPC.at hP hKN hD hSZ hS hA⟩ ⟨⟨rfl, rfl⟩, ⟨Nat.le_of_ble_eq_true rfl, Nat.le_of_ble_eq_true rfl⟩, ⟨(Nat.le_of_ble_eq_true rfl), (Nat.le_of_ble_eq_true rfl)⟩⟩ hl.1 rfl (Nat.le_of_ble_eq_true rfl) dX6_dimming_47) hP hD hS hA (fun u455 H locs hw456 hP hD hS => ?_)
            have hw458 : (0 ≤ u455.toInt ∧ u455.toInt ≤ 1) := hw456
            refine W.eq (g2 := F0 m 50 ls [.int u455]) rfl ?_
            rcases (show u455.toInt = 1 ∨ u455.toInt = 0 by omega) with c459 | c459
            · obtain rfl : u455 = 1 := i_is c459 (by decide)
              have zi1 : (1 : Int32).toInt = 1 := by decide
              refine W.eq (g2 := F0 m 50 ls [.int 1]) rfl ?_
              refine lv_if_eq (tgt := 62) hx hb dX6_dimming_50 (by decide) (fun c460 => ?_) (fun c460 => ?_)
              · exact absurd c460 (by decide)
              refine lv_lload_n hx hb dX6_dimming_53 rfl (lv_at hl 2 rfl) ?_
              refine lv_aload hx hb dX6_dimming_54 (lv_at hl 0 rfl) ?_
              refine va_getN (D := D) (ci := 9) (v := .int x446) (C := RX9) (T := TX9) (N := 6) hx hb hg inGX9 hown hKN.1 hP p449 hk450 rfl 4 (by decide) (va_Nw.use rfl (hKN.2.1 _ kn_578 rfl)) (fun _ h9 => h9) rfl dX6_dimming_56 ?_
              have j461 := rgI x446
              have j462 := Int32.toInt_toInt64 x446
              refine lv_i2l (v := x446.toInt64) hx hb dX6_dimming_59 (rfl) ?_
              refine lv_ladd hx hb dX6_dimming_60 ?_
              refine lv_topl (fun v463 ev463 => ?_)
              refine lv_lstore_n (lv' := [(3, .long v463), (6, .ref b412), (5, .int v153), (0, .ref p0), (1, .int p1), (2, .int p2)]) hx hb dX6_dimming_61 rfl hl (by decide) rfl (fun ls hl => ?_)
              refine W.widen (k := 0) (n := 0) (Nat.le_of_ble_eq_true rfl) (Nat.le_of_ble_eq_true rfl) ?_
              exact jn440 (v463) H locs ls ⟨hP, hD, hS, lv_sub hl [1, 2, 0, 3, 4, 5] rfl, hT⟩
            · obtain rfl : u455 = 0 := i_is c459 (by decide)
              have zi0 : (0 : Int32).toInt = 0 := by decide
              refine W.eq (g2 := F0 m 50 ls [.int 0]) rfl ?_
              refine lv_if_eq (tgt := 62) hx hb dX6_dimming_50 (by decide) (fun c464 => ?_) (fun c464 => ?_)
              rotate_left
              · exact absurd c464 (by decide)
              refine W.widen (k := 0) (n := 0) (Nat.le_of_ble_eq_true rfl) (Nat.le_of_ble_eq_true rfl) ?_
              exact jn440 (v154) H locs ls ⟨hP, hD, hS, lv_sub hl [0, 1, 2, 3, 4, 5] rfl, hT⟩
set_option maxHeartbeats 4000000 in
set_option maxRecDepth 100000 in
theorem x_X6_numbers (l : Launch) (D : va_G) (Y : Nat → ClassId) (Z : Nat → Nat) (sz : Nat) (ws : va_W) (T : RT) (g : GN) (q : GQ) (j : Nat) (p0 : Nat) (hT : TW Y Z T g q ws) (ht0 : T p0 = (2, j, 0)) : Met l yX6_numbers (.code yX6_numbers cX6_numbers 4 (some .int) :: GW) ({ frames := 1, cells := 0, slots := 0, locals := 22 }) (va_Pc [.ref p0] (CPC D Y Z ws sz)) (QG (S := Int32) (fun u => some (.int u)) (fun u => True) (fun u => CB D ws (va_A ws sz)) (va_A ws sz)) 0 0 (va_A ws sz) := by
  refine Met.ofW (cc := cX6_numbers) (maxL := 4) (ret := (some .int)) (by decide) rfl ?_
  intro p e s m args below meth c s₁ B hml hv
  obtain ⟨rfl, ⟨hsz, hP, hKN, hD0⟩, hSZ⟩ := hv
  have hx := B.exec
  have hb := B.bytes
  have hr := B.returns
  have hts := atoms_spec (ws := .code yX6_numbers cX6_numbers 4 (some .int) :: GW) B.pre
  have hg : ∀ w ∈ GW, w.before _ s = true := fun w h => hts w (List.mem_cons_of_mem _ h)
  have hown : s.vm.findClass RX6 = some m.cls := findClass_of_methodNamed B.named
  have hlocks := B.notSynchronized
  subst hsz
  have hD := hD0.self (sz := s.heap.size)
  generalize hAe : va_A ws s.heap.size = A at hD hSZ ⊢
  have hA : ∀ q : Nat, s.heap.size ≤ q → A q := fun q h => by rw [← hAe]; exact Or.inr h
  clear hAe hD0 hts B
  have hl := lv_entry ([.ref p0]) (n := 4) (Nat.le_of_ble_eq_true rfl)
  rw [lg_entry_eq]
  generalize (lg_sl ([.ref p0]) ++ List.replicate (4 - (lg_sl ([.ref p0])).length) Slot.unset).toArray = ls at hl ⊢
  have hl : lv_has ls 4 [(0, .ref p0)] := hl
  refine w_start (A0 := A) hP (fun H locs hP hS => ?_)
  refine lv_iconst (v := 0) hx hb dX6_numbers_0 (by decide) ?_
  refine lv_istore_n (lv' := [(1, .int 0), (0, .ref p0)]) hx hb dX6_numbers_1 rfl hl (by decide) rfl (fun ls hl => ?_)
  refine lv_iconst (v := 0) hx hb dX6_numbers_2 (by decide) ?_
  refine lv_istore_n (lv' := [(2, .int 0), (1, .int 0), (0, .ref p0)]) hx hb dX6_numbers_3 rfl hl (by decide) rfl (fun ls hl => ?_)
  have zi0 : (0 : Int32).toInt = 0 := by decide
  refine w_loop (σ := Int32 × Int32) (fun xx H locs ls => match xx with | (v105, v106) => va_P D vwCl ws H ∧ va_D A ws ∧ va_S A s.heap H locs ∧ lv_has ls 4 [(2, .int v105), (1, .int v106), (0, .ref p0)] ∧ TW Y Z T g q ws ∧ (0 ≤ v105.toInt ∧ v105.toInt ≤ 12)) (fun xx => match xx with | (v105, v106) => (12 - v105.toInt).toNat) (0, 0) ⟨hP, hD, hS, lv_sub hl [0, 1, 2] rfl, hT, by omega⟩ (fun xx H locs ls hI ih => ?_)
  obtain ⟨v105, v106⟩ := xx
  obtain ⟨hP, hD, hS, hl, hT, hq215⟩ := hI
  have ih216 := ih
  refine lv_iload_n hx hb dX6_numbers_4 rfl (lv_at hl 0 rfl) ?_
  refine lv_aload_n hx hb dX6_numbers_5 rfl (lv_at hl 2 rfl) ?_
  refine ok2 hT ht0 (fun p251 x217 a218 x219 a220 x221 a222 a223 x224 a225 a226 x227 a228 x229 hk252 h230 h231 h232 h233 h234 h235 h236 h237 h238 h239 h240 h241 h242 h243 h244 h245 h246 h247 h248 h249 h250 => ?_)
  refine va_get (D := D) (ci := 6) (v := .int x217) (C := RX6) (T := TX6) (N := 13) hx hb hg inGX6 hown hKN.1 hP p251 hk252 rfl 0 (by decide) (hg _ kw_39) (fun _ h9 => h9) rfl dX6_numbers_6 ?_
  refine lv_icmp_ge (tgt := 39) hx hb dX6_numbers_9 (by decide) (fun c289 => ?_) (fun c289 => ?_)
  · skip
    have c289 := i_le (Eq.refl x217.toInt) (Eq.refl v105.toInt) c289
    refine lv_iload_n hx hb dX6_numbers_39 rfl (lv_at hl 1 rfl) ?_
    refine W.widen (k := 0) (n := 0) (Nat.le_of_ble_eq_true rfl) (Nat.le_of_ble_eq_true rfl) ?_
    exact W.iret (v := v106) hx hb hr (fun t ht hW => ⟨⟨v106, rfl, trivial, CB.mk ht hP hD⟩, hS.F ht⟩) hS.2.2 dX6_numbers_40
  · skip
    have c289 := i_nle (Eq.refl x217.toInt) (Eq.refl v105.toInt) c289
    refine lv_aload_n hx hb dX6_numbers_12 rfl (lv_at hl 2 rfl) ?_
    refine lv_iload_n hx hb dX6_numbers_13 rfl (lv_at hl 0 rfl) ?_
    refine cga (rn_V (As := [.int v105]) (rest := []) (b := p0) (x_X6_starAt l D Y Z H.size ws T g q j p0 v105 hT ht0) ⟨hx, hb, hml, hown, hg⟩ lk_X6_58 ⟨CPC.blind, va_recv hKN.1 hP (ci := 6) (q0 := p251) rfl hk252, CPC.at hP hKN hD hSZ hS hA⟩ ⟨⟨rfl, rfl⟩, ⟨Nat.le_of_ble_eq_true rfl, Nat.le_of_ble_eq_true rfl⟩, ⟨(Nat.le_of_ble_eq_true rfl), (Nat.le_of_ble_eq_true rfl)⟩⟩ hl.1 rfl (Nat.le_of_ble_eq_true rfl) dX6_numbers_14) hP hD hS hA (fun u290 H locs hw291 hP hD hS => ?_)
    obtain ⟨ht293, hw294⟩ : (∀ b, u290 = some b → T b = (3, j, v105.toNatClampNeg)) ∧ (∀ b, u290 = some b → 0 ≤ v105.toInt ∧ v105.toInt ≤ 11) := hw291
    refine W.eq (g2 := F0 m 17 ls [va_rf u290]) rfl ?_
    rcases u290 with _ | b295
    · skip
      refine W.eq (g2 := F0 m 17 ls [.null]) rfl ?_
      refine lv_astore_nN (lv' := [(3, .null), (2, .int v105), (1, .int v106), (0, .ref p0)]) hx hb dX6_numbers_17 rfl hl (by decide) rfl (fun ls hl => ?_)
      refine lv_iload_n hx hb dX6_numbers_18 rfl (lv_at hl 2 rfl) ?_
      refine lv_aload_nN hx hb dX6_numbers_19 rfl (lv_at hl 0 rfl) ?_
      refine lv_ifnonnullN hx hb dX6_numbers_20 ?_
      refine lv_iconst (v := 0) hx hb dX6_numbers_23 (by decide) ?_
      refine lv_goto (tgt := 31) hx hb dX6_numbers_24 (by decide) ?_
      refine lv_iadd hx hb dX6_numbers_31 ?_
      refine lv_topi (fun v296 ev296 => ?_)
      have j297 := rgI v106
      have hv296 := i_add (Eq.refl v106.toInt) (show (0 : Int32).toInt = 0 by decide) ev296 (by omega) (by omega)
      refine lv_istore_n (lv' := [(1, .int v296), (3, .null), (2, .int v105), (0, .ref p0)]) hx hb dX6_numbers_32 rfl hl (by decide) rfl (fun ls hl => ?_)
      obtain ⟨v298, ev298⟩ : ∃ y : Int32, y = v105 + 1 := ⟨_, rfl⟩
      have hv298 := i_add (Eq.refl v105.toInt) (show (1 : Int32).toInt = 1 by decide) ev298 (by omega) (by omega)
      refine lv_iinc (v := v298) (lv' := [(2, .int v298), (1, .int v296), (3, .null), (0, .ref p0)]) hx hb dX6_numbers_33 hl (k := 2) rfl (by rw [ev298]; rfl) (by decide) rfl (fun ls hl => ?_)
      refine lv_goto (tgt := 4) hx hb dX6_numbers_36 (by decide) ?_
      exact ih216 (v298, v296) H locs ls (by show (12 - v298.toInt).toNat < (12 - v105.toInt).toNat; omega) ⟨hP, hD, hS, lv_sub hl [0, 1, 3] rfl, hT, by omega⟩
    · skip
      have ht299 := ht293 b295 rfl
      have h300 := hw294 b295 rfl
      refine W.eq (g2 := F0 m 17 ls [.ref b295]) rfl ?_
      refine lv_astore_n (lv' := [(3, .ref b295), (2, .int v105), (1, .int v106), (0, .ref p0)]) hx hb dX6_numbers_17 rfl hl (by decide) rfl (fun ls hl => ?_)
      refine lv_iload_n hx hb dX6_numbers_18 rfl (lv_at hl 2 rfl) ?_
      refine lv_aload_n hx hb dX6_numbers_19 rfl (lv_at hl 0 rfl) ?_
      refine lv_ifnonnull (tgt := 27) hx hb dX6_numbers_20 (by decide) ?_
      refine lv_aload_n hx hb dX6_numbers_27 rfl (lv_at hl 0 rfl) ?_
      refine ok3 hT ht299 (fun p318 x312 x313 x314 a315 hk319 h316 h317 => ?_)
      refine cga (rn_NV (As := []) (rest := [.int v106]) (b := b295) (x_X7_numbers l D Y Z H.size ws T g q j v105.toNatClampNeg b295 hT ht299) ⟨hx, hb, hml, hown, hg⟩ hKN lk_X6_95 ⟨CPC.blind, va_recv hKN.1 hP (ci := 7) (q0 := p318) rfl hk319, CPC.at hP hKN hD hSZ hS hA⟩ ⟨⟨rfl, rfl⟩, ⟨Nat.le_of_ble_eq_true rfl, Nat.le_of_ble_eq_true rfl⟩, ⟨(Nat.le_of_ble_eq_true rfl), (Nat.le_of_ble_eq_true rfl)⟩⟩ hl.1 rfl (Nat.le_of_ble_eq_true rfl) dX6_numbers_28) hP hD hS hA (fun u320 H locs hw321 hP hD hS => ?_)
      refine W.eq (g2 := F0 m 31 ls [.int u320, .int v106]) rfl ?_
      refine lv_iadd hx hb dX6_numbers_31 ?_
      refine lv_topi (fun v323 ev323 => ?_)
      refine lv_istore_n (lv' := [(1, .int v323), (3, .ref b295), (2, .int v105), (0, .ref p0)]) hx hb dX6_numbers_32 rfl hl (by decide) rfl (fun ls hl => ?_)
      obtain ⟨v324, ev324⟩ : ∃ y : Int32, y = v105 + 1 := ⟨_, rfl⟩
      have hv324 := i_add (Eq.refl v105.toInt) (show (1 : Int32).toInt = 1 by decide) ev324 (by omega) (by omega)
      refine lv_iinc (v := v324) (lv' := [(2, .int v324), (1, .int v323), (3, .ref b295), (0, .ref p0)]) hx hb dX6_numbers_33 hl (k := 2) rfl (by rw [ev324]; rfl) (by decide) rfl (fun ls hl => ?_)
      refine lv_goto (tgt := 4) hx hb dX6_numbers_36 (by decide) ?_
      exact ih216 (v324, v323) H locs ls (by show (12 - v324.toInt).toNat < (12 - v105.toInt).toNat; omega) ⟨hP, hD, hS, lv_sub hl [0, 1, 3] rfl, hT, by omega⟩
set_option maxHeartbeats 4000000 in
set_option maxRecDepth 100000 in
theorem x_X2_turnOver (l : Launch) (D : va_G) (Y : Nat → ClassId) (Z : Nat → Nat) (sz : Nat) (ws : va_W) (T : RT) (g : GN) (q : GQ)  (p0 : Nat) (p1 : Nat) (hT : TW Y Z T g q ws) (ht0 : T p0 = (9, 0, 0)) (ht1 : T p1 = (12, 600, 0)) : Met l yX2_turnOver (.code yX2_turnOver cX2_turnOver 3 none :: GW) ({ frames := 0, cells := 0, slots := 0, locals := 0 }) (va_Pc [.ref p0, .ref p1] (CPC D Y Z ws sz)) (QG (S := va_W) (fun _ => none) (fun u => TW Y Z T g q u ∧ KF 1 T ws u ∧ KF 6 T ws u) (fun u => CB D u (va_A ws sz)) (va_A ws sz)) 0 0 (va_A ws sz) := by
  refine Met.ofW (cc := cX2_turnOver) (maxL := 3) (ret := none) (by decide) rfl ?_
  intro p e s m args below meth c s₁ B hml hv
  obtain ⟨rfl, ⟨hsz, hP, hKN, hD0⟩, hSZ⟩ := hv
  have hx := B.exec
  have hb := B.bytes
  have hr := B.returns
  have hts := atoms_spec (ws := .code yX2_turnOver cX2_turnOver 3 none :: GW) B.pre
  have hg : ∀ w ∈ GW, w.before _ s = true := fun w h => hts w (List.mem_cons_of_mem _ h)
  have hown : s.vm.findClass RX2 = some m.cls := findClass_of_methodNamed B.named
  have hlocks := B.notSynchronized
  subst hsz
  have hD := hD0.self (sz := s.heap.size)
  generalize hAe : va_A ws s.heap.size = A at hD hSZ ⊢
  have hA : ∀ q : Nat, s.heap.size ≤ q → A q := fun q h => by rw [← hAe]; exact Or.inr h
  clear hAe hD0 hts B
  have hl := lv_entry ([.ref p0, .ref p1]) (n := 3) (Nat.le_of_ble_eq_true rfl)
  rw [lg_entry_eq]
  generalize (lg_sl ([.ref p0, .ref p1]) ++ List.replicate (3 - (lg_sl ([.ref p0, .ref p1])).length) Slot.unset).toArray = ls at hl ⊢
  have hl : lv_has ls 3 [(0, .ref p0), (1, .ref p1)] := hl
  refine w_start (A0 := A) hP (fun H locs hP hS => ?_)
  refine lv_iconst (v := 0) hx hb dX2_turnOver_0 (by decide) ?_
  refine lv_istore_n (lv' := [(2, .int 0), (0, .ref p0), (1, .ref p1)]) hx hb dX2_turnOver_1 rfl hl (by decide) rfl (fun ls hl => ?_)
  have zi0 : (0 : Int32).toInt = 0 := by decide
  refine w_loop (σ := Int32 × va_W) (fun xx H locs ls => match xx with | (v63, w64) => va_P D vwCl w64 H ∧ va_D A w64 ∧ va_S A s.heap H locs ∧ lv_has ls 3 [(2, .int v63), (0, .ref p0), (1, .ref p1)] ∧ TW Y Z T g q w64 ∧ KF 1 T ws w64 ∧ KF 6 T ws w64 ∧ (0 ≤ v63.toInt ∧ v63.toInt ≤ 600)) (fun xx => match xx with | (v63, w64) => (600 - v63.toInt).toNat) (0, ws) ⟨hP, hD, hS, lv_sub hl [0, 1, 2] rfl, hT, KF.rf, KF.rf, by omega⟩ (fun xx H locs ls hI ih => ?_)
  obtain ⟨v63, w64⟩ := xx
  obtain ⟨hP, hD, hS, hl, hT, ke130, ke131, hq129⟩ := hI
  have ih132 := ih
  refine lv_iload_n hx hb dX2_turnOver_2 rfl (lv_at hl 0 rfl) ?_
  refine lv_sipush (v := 600) hx hb dX2_turnOver_3 (by decide) ?_
  refine lv_icmp_ge (tgt := 38) hx hb dX2_turnOver_6 (by decide) (fun c165 => ?_) (fun c165 => ?_)
  · skip
    have c165 := i_le (show (600 : Int32).toInt = 600 by decide) (Eq.refl v63.toInt) c165
    refine W.widen (k := 0) (n := 0) (Nat.le_of_ble_eq_true rfl) (Nat.le_of_ble_eq_true rfl) ?_
    exact W.vret hx hb hr (fun t ht hW => ⟨⟨w64, rfl, ⟨hT, ke130, ke131⟩, CB.mk ht hP hD⟩, hS.F ht⟩) hS.2.2 dX2_turnOver_38
  · skip
    have c165 := i_nle (show (600 : Int32).toInt = 600 by decide) (Eq.refl v63.toInt) c165
    refine lv_aload_n hx hb dX2_turnOver_9 rfl (lv_at hl 1 rfl) ?_
    refine ok9 hT ht0 (fun p178 a166 a167 a168 x169 y170 y171 x172 y173 hk179 h174 h175 h176 h177 => ?_)
    refine va_get (D := D) (ci := 2) (v := .ref a166) (C := RX2) (T := TX2) (N := 8) hx hb hg inGX2 hown hKN.1 hP p178 hk179 rfl 0 (by decide) (hg _ kw_232) (fun _ h9 => h9) rfl dX2_turnOver_10 ?_
    refine lv_iload_n hx hb dX2_turnOver_13 rfl (lv_at hl 0 rfl) ?_
    refine lv_aload_n hx hb dX2_turnOver_14 rfl (lv_at hl 2 rfl) ?_
    refine lv_iload_n hx hb dX2_turnOver_15 rfl (lv_at hl 0 rfl) ?_
    refine tr_ld12 hx hb hKN hP hT ht1 (vp_in_iff.mpr ⟨by omega, by omega⟩) dX2_turnOver_16 (fun v180 => ?_)
    refine lv_ldc (v := (-100000)) hx hb hown (hg _ kw_506) dX2_turnOver_17 ?_
    refine w_join (σ := Int32) (pcJ := 31) (kJ := 0) (nJ := 0) (stk := fun xx => match xx with | v185 => [.int v185, .int v63, .ref a166]) (fun xx H locs ls => match xx with | v185 => va_P D vwCl w64 H ∧ va_D A w64 ∧ va_S A s.heap H locs ∧ lv_has ls 3 [(2, .int v63), (0, .ref p0), (1, .ref p1)] ∧ TW Y Z T g q w64) (fun xx H locs ls hI => ?_) (fun jn186 => ?_)
    · skip
      revert hI
      generalize xx = v185
      intro hI
      obtain ⟨hP, hD, hS, hl, hT⟩ := hI
      refine W.eq (g2 := F0 m 31 ls [.int v185, .int v63, .ref a166]) rfl ?_
      refine tr_st12 hx hb hKN hP hD hS hT h174 (vp_in_iff.mpr ⟨by omega, by omega⟩) dX2_turnOver_31 (fun w187 H locs hP hD hS hT kp188 => ?_)
      have ke189 : KF 1 T ws w187 := KF.tr ke130 (KF.kp kp188 h174 (by decide))
      have ke190 : KF 6 T ws w187 := KF.tr ke131 (KF.kp kp188 h174 (by decide))
      have hk191 := kp188 _ _ hk179 (rne ht0 h174 (by decide))
      obtain ⟨v192, ev192⟩ : ∃ y : Int32, y = v63 + 1 := ⟨_, rfl⟩
      have hv192 := i_add (Eq.refl v63.toInt) (show (1 : Int32).toInt = 1 by decide) ev192 (by omega) (by omega)
      refine lv_iinc (v := v192) (lv' := [(2, .int v192), (0, .ref p0), (1, .ref p1)]) hx hb dX2_turnOver_32 hl (k := 0) rfl (by rw [ev192]; rfl) (by decide) rfl (fun ls hl => ?_)
      refine lv_goto (tgt := 2) hx hb dX2_turnOver_35 (by decide) ?_
      exact ih132 (v192, w187) H locs ls (by show (600 - v192.toInt).toNat < (600 - v63.toInt).toNat; omega) ⟨hP, hD, hS, lv_sub hl [0, 1, 2] rfl, hT, ke189, ke190, by omega⟩
    · skip
      have j193 := rgI v180
      refine lv_icmp_ne (tgt := 27) hx hb dX2_turnOver_19 (by decide) (fun c194 => ?_) (fun c194 => ?_)
      · skip
        have c194 := i_ne (Eq.refl v180.toInt) (show ((-100000) : Int32).toInt = -100000 by decide) c194
        refine lv_aload_n hx hb dX2_turnOver_27 rfl (lv_at hl 2 rfl) ?_
        refine lv_iload_n hx hb dX2_turnOver_28 rfl (lv_at hl 0 rfl) ?_
        refine tr_ld12 hx hb hKN hP hT ht1 (vp_in_iff.mpr ⟨by omega, by omega⟩) dX2_turnOver_29 (fun v195 => ?_)
        refine lv_ineg hx hb dX2_turnOver_30 ?_
        refine lv_topi (fun v196 ev196 => ?_)
        refine W.widen (k := 0) (n := 0) (Nat.le_of_ble_eq_true rfl) (Nat.le_of_ble_eq_true rfl) ?_
        exact jn186 (v196) H locs ls ⟨hP, hD, hS, lv_sub hl [0, 1, 2] rfl, hT⟩
      · skip
        have c194 := i_eq (Eq.refl v180.toInt) (show ((-100000) : Int32).toInt = -100000 by decide) c194
        refine lv_ldc (v := (-100000)) hx hb hown (hg _ kw_506) dX2_turnOver_22 ?_
        refine lv_goto (tgt := 31) hx hb dX2_turnOver_24 (by decide) ?_
        have zim100000 : ((-100000) : Int32).toInt = -100000 := by decide
        refine W.widen (k := 0) (n := 0) (Nat.le_of_ble_eq_true rfl) (Nat.le_of_ble_eq_true rfl) ?_
        exact jn186 ((-100000)) H locs ls ⟨hP, hD, hS, lv_sub hl [0, 1, 2] rfl, hT⟩
set_option maxHeartbeats 4000000 in
set_option maxRecDepth 100000 in
theorem x_X2_moveSeasons (l : Launch) (D : va_G) (Y : Nat → ClassId) (Z : Nat → Nat) (sz : Nat) (ws : va_W) (T : RT) (g : GN) (q : GQ)  (p0 : Nat) (p1 : Nat) (p2 : Int32) (hT : TW Y Z T g q ws) (ht0 : T p0 = (9, 0, 0)) (ht1 : T p1 = (12, 600, 0)) : Met l yX2_moveSeasons (.code yX2_moveSeasons cX2_moveSeasons 5 none :: GW) ({ frames := 1, cells := 0, slots := 0, locals := 40 }) (va_Pc [.ref p0, .ref p1, .int p2] (CPC D Y Z ws sz)) (QG (S := va_W) (fun _ => none) (fun u => TW Y Z T g q u ∧ KF 1 T ws u ∧ KF 6 T ws u) (fun u => CB D u (va_A ws sz)) (va_A ws sz)) 0 0 (va_A ws sz) := by
  refine Met.ofW (cc := cX2_moveSeasons) (maxL := 5) (ret := none) (by decide) rfl ?_
  intro p e s m args below meth c s₁ B hml hv
  obtain ⟨rfl, ⟨hsz, hP, hKN, hD0⟩, hSZ⟩ := hv
  have hx := B.exec
  have hb := B.bytes
  have hr := B.returns
  have hts := atoms_spec (ws := .code yX2_moveSeasons cX2_moveSeasons 5 none :: GW) B.pre
  have hg : ∀ w ∈ GW, w.before _ s = true := fun w h => hts w (List.mem_cons_of_mem _ h)
  have hown : s.vm.findClass RX2 = some m.cls := findClass_of_methodNamed B.named
  have hlocks := B.notSynchronized
  subst hsz
  have hD := hD0.self (sz := s.heap.size)
  generalize hAe : va_A ws s.heap.size = A at hD hSZ ⊢
  have hA : ∀ q : Nat, s.heap.size ≤ q → A q := fun q h => by rw [← hAe]; exact Or.inr h
  clear hAe hD0 hts B
  have hl := lv_entry ([.ref p0, .ref p1, .int p2]) (n := 5) (Nat.le_of_ble_eq_true rfl)
  rw [lg_entry_eq]
  generalize (lg_sl ([.ref p0, .ref p1, .int p2]) ++ List.replicate (5 - (lg_sl ([.ref p0, .ref p1, .int p2])).length) Slot.unset).toArray = ls at hl ⊢
  have hl : lv_has ls 5 [(0, .ref p0), (1, .ref p1), (2, .int p2)] := hl
  refine w_start (A0 := A) hP (fun H locs hP hS => ?_)
  refine lv_iconst (v := 0) hx hb dX2_moveSeasons_0 (by decide) ?_
  refine lv_istore_n (lv' := [(3, .int 0), (0, .ref p0), (1, .ref p1), (2, .int p2)]) hx hb dX2_moveSeasons_1 rfl hl (by decide) rfl (fun ls hl => ?_)
  have zi0 : (0 : Int32).toInt = 0 := by decide
  refine w_loop (σ := Int32 × va_W) (fun xx H locs ls => match xx with | (v117, w118) => va_P D vwCl w118 H ∧ va_D A w118 ∧ va_S A s.heap H locs ∧ lv_has ls 5 [(3, .int v117), (0, .ref p0), (1, .ref p1), (2, .int p2)] ∧ TW Y Z T g q w118 ∧ KF 1 T ws w118 ∧ KF 6 T ws w118 ∧ (0 ≤ v117.toInt ∧ v117.toInt ≤ 4)) (fun xx => match xx with | (v117, w118) => (4 - v117.toInt).toNat) (0, ws) ⟨hP, hD, hS, lv_sub hl [0, 1, 2, 3] rfl, hT, KF.rf, KF.rf, by omega⟩ (fun xx H locs ls hI ih => ?_)
  obtain ⟨v117, w118⟩ := xx
  obtain ⟨hP, hD, hS, hl, hT, ke236, ke237, hq235⟩ := hI
  have ih238 := ih
  refine lv_iload_n hx hb dX2_moveSeasons_2 rfl (lv_at hl 0 rfl) ?_
  refine lv_iconst (v := 4) hx hb dX2_moveSeasons_3 (by decide) ?_
  refine lv_icmp_ge (tgt := 60) hx hb dX2_moveSeasons_4 (by decide) (fun c297 => ?_) (fun c297 => ?_)
  · skip
    have c297 := i_le (show (4 : Int32).toInt = 4 by decide) (Eq.refl v117.toInt) c297
    refine W.widen (k := 0) (n := 0) (Nat.le_of_ble_eq_true rfl) (Nat.le_of_ble_eq_true rfl) ?_
    exact W.vret hx hb hr (fun t ht hW => ⟨⟨w118, rfl, ⟨hT, ke236, ke237⟩, CB.mk ht hP hD⟩, hS.F ht⟩) hS.2.2 dX2_moveSeasons_60
  · skip
    have c297 := i_nle (show (4 : Int32).toInt = 4 by decide) (Eq.refl v117.toInt) c297
    refine lv_iload_n hx hb dX2_moveSeasons_7 rfl (lv_at hl 3 rfl) ?_
    refine lv_iconst (v := 4) hx hb dX2_moveSeasons_8 (by decide) ?_
    refine lv_imul hx hb dX2_moveSeasons_9 ?_
    refine lv_topi (fun v298 ev298 => ?_)
    refine lv_iload_n hx hb dX2_moveSeasons_10 rfl (lv_at hl 0 rfl) ?_
    refine lv_iadd hx hb dX2_moveSeasons_11 ?_
    refine lv_topi (fun v299 ev299 => ?_)
    refine lv_istore (lv' := [(4, .int v299), (3, .int v117), (0, .ref p0), (1, .ref p1), (2, .int p2)]) hx hb dX2_moveSeasons_12 hl (by decide) rfl (fun ls hl => ?_)
    refine lv_iload hx hb dX2_moveSeasons_14 (lv_at hl 0 rfl) ?_
    refine w_join (σ := va_W) (pcJ := 54) (kJ := 0) (nJ := 0) (stk := fun xx => match xx with | w325 => []) (fun xx H locs ls => match xx with | w325 => va_P D vwCl w325 H ∧ va_D A w325 ∧ va_S A s.heap H locs ∧ lv_has ls 5 [(4, .int v299), (3, .int v117), (0, .ref p0), (1, .ref p1), (2, .int p2)] ∧ TW Y Z T g q w325 ∧ KF 1 T ws w325 ∧ KF 6 T ws w325) (fun xx H locs ls hI => ?_) (fun jn326 => ?_)
    · skip
      revert hI
      generalize xx = w325
      intro hI
      obtain ⟨hP, hD, hS, hl, hT, ke327, ke328⟩ := hI
      refine W.eq (g2 := F0 m 54 ls []) rfl ?_
      obtain ⟨v329, ev329⟩ : ∃ y : Int32, y = v117 + 1 := ⟨_, rfl⟩
      have hv329 := i_add (Eq.refl v117.toInt) (show (1 : Int32).toInt = 1 by decide) ev329 (by omega) (by omega)
      refine lv_iinc (v := v329) (lv' := [(3, .int v329), (4, .int v299), (0, .ref p0), (1, .ref p1), (2, .int p2)]) hx hb dX2_moveSeasons_54 hl (k := 1) rfl (by rw [ev329]; rfl) (by decide) rfl (fun ls hl => ?_)
      refine lv_goto (tgt := 2) hx hb dX2_moveSeasons_57 (by decide) ?_
      exact ih238 (v329, w325) H locs ls (by show (4 - v329.toInt).toNat < (4 - v117.toInt).toNat; omega) ⟨hP, hD, hS, lv_sub hl [0, 2, 3, 4] rfl, hT, ke327, ke328, by omega⟩
    · skip
      have j330 := rgI v299
      refine lv_if_lt (tgt := 54) hx hb dX2_moveSeasons_16 (by decide) (fun c331 => ?_) (fun c331 => ?_)
      · skip
        have c331 := i_lt (Eq.refl v299.toInt) (show (0 : Int32).toInt = 0 by decide) c331
        refine W.widen (k := 0) (n := 0) (Nat.le_of_ble_eq_true rfl) (Nat.le_of_ble_eq_true rfl) ?_
        exact jn326 (w118) H locs ls ⟨hP, hD, hS, lv_sub hl [0, 1, 2, 3, 4] rfl, hT, ke236, ke237⟩
      · skip
        have c331 := i_nlt (Eq.refl v299.toInt) (show (0 : Int32).toInt = 0 by decide) c331
        refine lv_iload hx hb dX2_moveSeasons_19 (lv_at hl 0 rfl) ?_
        refine va_getsN hx hb hSZ.1.1 hS hown (va_Nw.use rfl (hKN.2.1 _ kn_516 rfl)) (fun _ h9 => h9) dX2_moveSeasons_21 ?_
        refine va_tlen (v := 96) hx hb hSZ.1.2 hS rfl dX2_moveSeasons_24 ?_
        refine lv_icmp_ge (tgt := 54) hx hb dX2_moveSeasons_25 (by decide) (fun c332 => ?_) (fun c332 => ?_)
        · skip
          have c332 := i_le (show (96 : Int32).toInt = 96 by decide) (Eq.refl v299.toInt) c332
          refine W.widen (k := 0) (n := 0) (Nat.le_of_ble_eq_true rfl) (Nat.le_of_ble_eq_true rfl) ?_
          exact jn326 (w118) H locs ls ⟨hP, hD, hS, lv_sub hl [0, 1, 2, 3, 4] rfl, hT, ke236, ke237⟩
        · skip
          have c332 := i_nle (show (96 : Int32).toInt = 96 by decide) (Eq.refl v299.toInt) c332
          refine lv_aload_n hx hb dX2_moveSeasons_28 rfl (lv_at hl 3 rfl) ?_
          refine va_getsN hx hb hSZ.1.1 hS hown (va_Nw.use rfl (hKN.2.1 _ kn_516 rfl)) (fun _ h9 => h9) dX2_moveSeasons_29 ?_
          refine lv_iload hx hb dX2_moveSeasons_32 (lv_at hl 0 rfl) ?_
          refine va_ti (v := .int (ORD.getD v299.toNatClampNeg 0)) hx hb hSZ.1.2 hS (vp_in_iff.mpr ⟨by omega, by omega⟩) rfl dX2_moveSeasons_34 ?_
          refine lv_topi (fun v333 ev333 => ?_)
          have hv333 := ORD_rg ev333
          refine lv_sipush (v := 150) hx hb dX2_moveSeasons_35 (by decide) ?_
          refine lv_imul hx hb dX2_moveSeasons_38 ?_
          refine lv_topi (fun v334 ev334 => ?_)
          have hv334 := i_mul (Eq.refl v333.toInt) (show (150 : Int32).toInt = 150 by decide) ev334 (by omega) (by omega)
          refine lv_aload_n hx hb dX2_moveSeasons_39 rfl (lv_at hl 2 rfl) ?_
          refine ok9 hT ht0 (fun p347 a335 a336 a337 x338 y339 y340 x341 y342 hk348 h343 h344 h345 h346 => ?_)
          refine va_get (D := D) (ci := 2) (v := .ref a335) (C := RX2) (T := TX2) (N := 8) hx hb hg inGX2 hown hKN.1 hP p347 hk348 rfl 0 (by decide) (hg _ kw_232) (fun _ h9 => h9) rfl dX2_moveSeasons_40 ?_
          refine lv_iload_n hx hb dX2_moveSeasons_43 rfl (lv_at hl 1 rfl) ?_
          refine lv_sipush (v := 150) hx hb dX2_moveSeasons_44 (by decide) ?_
          refine lv_imul hx hb dX2_moveSeasons_47 ?_
          refine lv_topi (fun v349 ev349 => ?_)
          have hv349 := i_mul (Eq.refl v117.toInt) (show (150 : Int32).toInt = 150 by decide) ev349 (by omega) (by omega)
          refine lv_sipush (v := 150) hx hb dX2_moveSeasons_48 (by decide) ?_
          have zi150 : (150 : Int32).toInt = 150 := by decide
          refine tr_cp12 hx hb (hml.trans hl.1.symm) hown (hg _ kw_518) (hg _ kw_520) (hg _ kw_519) (hg _ kw_13) hKN hP hD hS hT ht1 h343 (fun h9 => absurd (i_lt (Eq.refl _) (show (0 : Int32).toInt = 0 by decide) h9) (by omega)) (fun h9 => absurd (i_lt (Eq.refl _) (show (0 : Int32).toInt = 0 by decide) h9) (by omega)) (by decide) (by have cv334 := clampI (x := v334) (by omega); have c150 : (150 : Int32).toNatClampNeg = 150 := (by decide); omega) (by have cv349 := clampI (x := v349) (by omega); have c150 : (150 : Int32).toNatClampNeg = 150 := (by decide); omega) (Nat.le_of_ble_eq_true rfl) (Nat.le_of_ble_eq_true rfl) dX2_moveSeasons_51 (fun w350 H locs hP hD hS hT kp351 => ?_)
          have ke352 : KF 1 T ws w350 := KF.tr ke236 (KF.kp kp351 h343 (by decide))
          have ke353 : KF 6 T ws w350 := KF.tr ke237 (KF.kp kp351 h343 (by decide))
          have hk354 := kp351 _ _ hk348 (rne ht0 h343 (by decide))
          refine W.widen (k := 0) (n := 0) (Nat.le_of_ble_eq_true rfl) (Nat.le_of_ble_eq_true rfl) ?_
          exact jn326 (w350) H locs ls ⟨hP, hD, hS, lv_sub hl [0, 1, 2, 3, 4] rfl, hT, ke352, ke353⟩
