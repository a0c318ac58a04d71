set_option maxHeartbeats 4000000 in
set_option maxRecDepth 100000 in
theorem x_X6_addBytes (l : Launch) (D : va_G) (Y : Nat → ClassId) (Z : Nat → Nat) (sz : Nat) (ws : va_W) (T : RT) (g : GN) (q : GQ) (j : Nat) (p0 : Nat) (p1 : Int32) (hT : TW Y Z T g q ws) (ht0 : T p0 = (2, j, 0)) : Met l yX6_addBytes (.code yX6_addBytes cX6_addBytes 3 none :: GW) ({ frames := 0, cells := 0, slots := 0, locals := 0 }) (va_Pc [.ref p0, .int p1] (CPC D Y Z ws sz)) (QG (S := va_W) (fun _ => none) (fun u => TW Y Z T g q u ∧ KF 1 T ws u ∧ KF 6 T ws u) (fun u => CB D u (va_A ws sz)) (va_A ws sz)) 0 0 (va_A ws sz) := by
  refine Met.ofW (cc := cX6_addBytes) (maxL := 3) (ret := none) (by decide) rfl ?_
  intro p e s m args below meth c s₁ B hml hv
  obtain ⟨rfl, ⟨hsz, hP, hKN, hD0⟩, hSZ⟩ := hv
  have hx := B.exec
  have hb := B.bytes
  have hr := B.returns
  have hts := atoms_spec (ws := .code yX6_addBytes cX6_addBytes 3 none :: GW) B.pre
  have hg : ∀ w ∈ GW, w.before _ s = true := fun w h => hts w (List.mem_cons_of_mem _ h)
  have hown : s.vm.findClass RX6 = some m.cls := findClass_of_methodNamed B.named
  have hlocks := B.notSynchronized
  subst hsz
  have hD := hD0.self (sz := s.heap.size)
  generalize hAe : va_A ws s.heap.size = A at hD hSZ ⊢
  have hA : ∀ q : Nat, s.heap.size ≤ q → A q := fun q h => by rw [← hAe]; exact Or.inr h
  clear hAe hD0 hts B
  have hl := lv_entry ([.ref p0, .int p1]) (n := 3) (Nat.le_of_ble_eq_true rfl)
  rw [lg_entry_eq]
  generalize (lg_sl ([.ref p0, .int p1]) ++ List.replicate (3 - (lg_sl ([.ref p0, .int p1])).length) Slot.unset).toArray = ls at hl ⊢
  have hl : lv_has ls 3 [(0, .ref p0), (1, .int p1)] := hl
  refine w_start (A0 := A) hP (fun H locs hP hS => ?_)
  refine lv_bipush (v := 24) hx hb dX6_addBytes_0 (by decide) ?_
  refine lv_istore_n (lv' := [(2, .int 24), (0, .ref p0), (1, .int p1)]) hx hb dX6_addBytes_2 rfl hl (by decide) rfl (fun ls hl => ?_)
  have zi24 : (24 : Int32).toInt = 24 := by decide
  refine w_loop (σ := Int32 × va_W) (fun xx H locs ls => match xx with | (v117, w118) => va_P D vwCl w118 H ∧ va_D A w118 ∧ va_S A s.heap H locs ∧ lv_has ls 3 [(2, .int v117), (0, .ref p0), (1, .int p1)] ∧ TW Y Z T g q w118 ∧ KF 1 T ws w118 ∧ KF 6 T ws w118 ∧ (-8 ≤ v117.toInt ∧ v117.toInt ≤ 24)) (fun xx => match xx with | (v117, w118) => (v117.toInt + 8).toNat) (24, ws) ⟨hP, hD, hS, lv_sub hl [0, 1, 2] rfl, hT, KF.rf, KF.rf, by omega⟩ (fun xx H locs ls hI ih => ?_)
  obtain ⟨v117, w118⟩ := xx
  obtain ⟨hP, hD, hS, hl, hT, ke239, ke240, hq238⟩ := hI
  have ih241 := ih
  refine lv_iload_n hx hb dX6_addBytes_3 rfl (lv_at hl 0 rfl) ?_
  refine lv_if_lt (tgt := 46) hx hb dX6_addBytes_4 (by decide) (fun c294 => ?_) (fun c294 => ?_)
  · skip
    have c294 := i_lt (Eq.refl v117.toInt) (show (0 : Int32).toInt = 0 by decide) c294
    refine W.widen (k := 0) (n := 0) (Nat.le_of_ble_eq_true rfl) (Nat.le_of_ble_eq_true rfl) ?_
    exact W.vret hx hb hr (fun t ht hW => ⟨⟨w118, rfl, ⟨hT, ke239, ke240⟩, CB.mk ht hP hD⟩, hS.F ht⟩) hS.2.2 dX6_addBytes_46
  · skip
    have c294 := i_nlt (Eq.refl v117.toInt) (show (0 : Int32).toInt = 0 by decide) c294
    refine lv_aload_n hx hb dX6_addBytes_7 rfl (lv_at hl 1 rfl) ?_
    obtain ⟨p329, _, hk330, x295, a296, x297, a298, x299, a300, a301, x302, a303, a304, x305, a306, x307, rfl, h308, h309, h310, h311, h312, h313, h314, h315, h316, h317, h318, h319, h320, h321, h322, h323, h324, h325, h326, h327, h328⟩ := op2 hT ht0
    refine va_get (D := D) (ci := 6) (v := .int x307) (C := RX6) (T := TX6) (N := 13) hx hb hg inGX6 hown hKN.1 hP p329 hk330 rfl 12 (by decide) (hg _ kw_67) (fun _ h9 => h9) rfl dX6_addBytes_8 ?_
    refine lv_sipush (v := 400) hx hb dX6_addBytes_11 (by decide) ?_
    refine lv_icmp_ge (tgt := 46) hx hb dX6_addBytes_14 (by decide) (fun c346 => ?_) (fun c346 => ?_)
    · skip
      have c346 := i_le (show (400 : Int32).toInt = 400 by decide) (Eq.refl x307.toInt) c346
      refine W.widen (k := 0) (n := 0) (Nat.le_of_ble_eq_true rfl) (Nat.le_of_ble_eq_true rfl) ?_
      exact W.vret hx hb hr (fun t ht hW => ⟨⟨w118, rfl, ⟨hT, ke239, ke240⟩, CB.mk ht hP hD⟩, hS.F ht⟩) hS.2.2 dX6_addBytes_46
    · skip
      have c346 := i_nle (show (400 : Int32).toInt = 400 by decide) (Eq.refl x307.toInt) c346
      refine lv_aload_n hx hb dX6_addBytes_17 rfl (lv_at hl 1 rfl) ?_
      refine va_get (D := D) (ci := 6) (v := .ref a306) (C := RX6) (T := TX6) (N := 13) hx hb hg inGX6 hown hKN.1 hP p329 hk330 rfl 11 (by decide) (hg _ kw_65) (fun _ h9 => h9) rfl dX6_addBytes_18 ?_
      refine lv_aload_n hx hb dX6_addBytes_21 rfl (lv_at hl 1 rfl) ?_
      refine va_get (D := D) (ci := 6) (v := .int x307) (C := RX6) (T := TX6) (N := 13) hx hb hg inGX6 hown hKN.1 hP p329 hk330 rfl 12 (by decide) (hg _ kw_67) (fun _ h9 => h9) rfl dX6_addBytes_22 ?_
      refine lv_iload_n hx hb dX6_addBytes_25 rfl (lv_at hl 2 rfl) ?_
      refine lv_iload_n hx hb dX6_addBytes_26 rfl (lv_at hl 0 rfl) ?_
      refine lv_iushr hx hb dX6_addBytes_27 rfl ?_
      refine lv_topi (fun v347 ev347 => ?_)
      refine lv_i2b (v := v347.toInt8.toInt32) hx hb dX6_addBytes_28 rfl ?_
      refine lv_topi (fun v348 ev348 => ?_)
      refine tr_st16 hx hb hKN hP hD hS hT h327 (vp_in_iff.mpr ⟨by omega, by omega⟩) dX6_addBytes_29 (fun w349 H locs hP hD hS hT kp350 => ?_)
      have ke351 : KF 1 T ws w349 := KF.tr ke239 (KF.kp kp350 h327 (by decide))
      have ke352 : KF 6 T ws w349 := KF.tr ke240 (KF.kp kp350 h327 (by decide))
      have hk353 := kp350 _ _ hk330 (rne ht0 h327 (by decide))
      refine lv_aload_n hx hb dX6_addBytes_30 rfl (lv_at hl 1 rfl) ?_
      refine lv_dup hx hb dX6_addBytes_31 rfl ?_
      refine va_get (D := D) (ci := 6) (v := .int x307) (C := RX6) (T := TX6) (N := 13) hx hb hg inGX6 hown hKN.1 hP p329 hk353 rfl 12 (by decide) (hg _ kw_67) (fun _ h9 => h9) rfl dX6_addBytes_32 ?_
      refine lv_iconst (v := 1) hx hb dX6_addBytes_35 (by decide) ?_
      refine lv_iadd hx hb dX6_addBytes_36 ?_
      refine lv_topi (fun v354 ev354 => ?_)
      have hv354 := i_add (Eq.refl x307.toInt) (show (1 : Int32).toInt = 1 by decide) ev354 (by omega) (by omega)
      refine va_put (D := D) (ci := 6) (v := .int v354) (ty := .int) (C := RX6) (T := TX6) (N := 13) hx hb hg inGX6 tyX6 tyX6_ok nmX6 hown hKN.1 hP hD hS p329 hk353 rfl 12 (by decide) (hg _ kw_67) (fun _ h9 => h9) rfl (by decide +kernel) rfl rfl (Nat.le_of_ble_eq_true rfl) dX6_addBytes_37 (fun H locs hP hD2 hS => ?_)
      obtain ⟨w355, hP, hD, hT, hk357, kp356⟩ : ∃ w9, va_P D vwCl w9 H ∧ va_D A w9 ∧ TW Y Z T g q w9 ∧ w9[p329]? = some (p0, .inr (6, (.int x295 :: .ref a296 :: .int x297 :: .ref a298 :: .int x299 :: .ref a300 :: .ref a301 :: .int x302 :: .ref a303 :: .ref a304 :: .int x305 :: .ref a306 :: .int v354 :: []))) ∧ Kp p0 w349 w9 := ⟨_, hP, hD2, st2 hT hD hk353 ht0 ⟨x295, a296, x297, a298, x299, a300, a301, x302, a303, a304, x305, a306, v354, rfl, by omega, h309, h310, h311, by omega, h313, h314, by omega, h316, h317, h318, h319, h320, by omega, h322, h323, h324, by omega, h326, h327, by omega⟩, sw_eq hk353, sw_kp hk353⟩
      have ke358 : KF 1 T ws w355 := KF.tr ke351 (KF.kp kp356 ht0 (by decide))
      have ke359 : KF 6 T ws w355 := KF.tr ke352 (KF.kp kp356 ht0 (by decide))
      obtain ⟨v360, ev360⟩ : ∃ y : Int32, y = v117 + (-8) := ⟨_, rfl⟩
      have hv360 := i_add (Eq.refl v117.toInt) (show ((-8) : Int32).toInt = -8 by decide) ev360 (by omega) (by omega)
      refine lv_iinc (v := v360) (lv' := [(2, .int v360), (0, .ref p0), (1, .int p1)]) hx hb dX6_addBytes_40 hl (k := 0) rfl (by rw [ev360]; rfl) (by decide) rfl (fun ls hl => ?_)
      refine lv_goto (tgt := 3) hx hb dX6_addBytes_43 (by decide) ?_
      exact ih241 (v360, w355) H locs ls (by show (v360.toInt + 8).toNat < (v117.toInt + 8).toNat; omega) ⟨hP, hD, hS, lv_sub hl [0, 1, 2] rfl, hT, ke358, ke359, by omega⟩
set_option maxHeartbeats 4000000 in
set_option maxRecDepth 100000 in
theorem x_X6_dimming (l : Launch) (D : va_G) (Y : Nat → ClassId) (Z : Nat → Nat) (sz : Nat) (ws : va_W) (T : RT) (g : GN) (q : GQ) (j : Nat) (p0 : Nat) (p1 : Int32) (p2 : Int32) (hT : TW Y Z T g q ws) (ht0 : T p0 = (2, j, 0)) : Met l yX6_dimming (.code yX6_dimming cX6_dimming 7 (some .long) :: GW) ({ frames := 1, cells := 0, slots := 0, locals := 21 }) (va_Pc [.ref p0, .int p1, .int p2] (CPC D Y Z ws sz)) (QG (S := Int64) (fun u => some (.long u)) (fun u => True) (fun u => CB D ws (va_A ws sz)) (va_A ws sz)) 0 0 (va_A ws sz) := by
  refine Met.ofW (cc := cX6_dimming) (maxL := 7) (ret := (some .long)) (by decide) rfl ?_
  intro p e s m args below meth c s₁ B hml hv
  obtain ⟨rfl, ⟨hsz, hP, hKN, hD0⟩, hSZ⟩ := hv
  have hx := B.exec
  have hb := B.bytes
  have hr := B.returns
  have hts := atoms_spec (ws := .code yX6_dimming cX6_dimming 7 (some .long) :: GW) B.pre
  have hg : ∀ w ∈ GW, w.before _ s = true := fun w h => hts w (List.mem_cons_of_mem _ h)
  have hown : s.vm.findClass RX6 = some m.cls := findClass_of_methodNamed B.named
  have hlocks := B.notSynchronized
  subst hsz
  have hD := hD0.self (sz := s.heap.size)
  generalize hAe : va_A ws s.heap.size = A at hD hSZ ⊢
  have hA : ∀ q : Nat, s.heap.size ≤ q → A q := fun q h => by rw [← hAe]; exact Or.inr h
  clear hAe hD0 hts B
  have hl := lv_entry ([.ref p0, .int p1, .int p2]) (n := 7) (Nat.le_of_ble_eq_true rfl)
  rw [lg_entry_eq]
  generalize (lg_sl ([.ref p0, .int p1, .int p2]) ++ List.replicate (7 - (lg_sl ([.ref p0, .int p1, .int p2])).length) Slot.unset).toArray = ls at hl ⊢
  have hl : lv_has ls 7 [(0, .ref p0), (1, .int p1), (2, .int p2)] := hl
  refine w_start (A0 := A) hP (fun H locs hP hS => ?_)
  refine lv_lconst (v := 0) hx hb dX6_dimming_0 (by decide) ?_
  refine lv_lstore_n (lv' := [(3, .long 0), (0, .ref p0), (1, .int p1), (2, .int p2)]) hx hb dX6_dimming_1 rfl hl (by decide) rfl (fun ls hl => ?_)
  refine lv_iconst (v := 0) hx hb dX6_dimming_2 (by decide) ?_
  refine lv_istore (lv' := [(5, .int 0), (3, .long 0), (0, .ref p0), (1, .int p1), (2, .int p2)]) hx hb dX6_dimming_3 hl (by decide) rfl (fun ls hl => ?_)
  have zi0 : (0 : Int32).toInt = 0 := by decide
  have zl0 : (0 : Int64).toInt = 0 := by decide
  refine w_loop (σ := Int32 × Int64) (fun xx H locs ls => match xx with | (v153, v154) => va_P D vwCl ws H ∧ va_D A ws ∧ va_S A s.heap H locs ∧ lv_has ls 7 [(5, .int v153), (3, .long v154), (0, .ref p0), (1, .int p1), (2, .int p2)] ∧ TW Y Z T g q ws ∧ (0 ≤ v153.toInt ∧ v153.toInt ≤ 40)) (fun xx => match xx with | (v153, v154) => (40 - v153.toInt).toNat) (0, 0) ⟨hP, hD, hS, lv_sub hl [0, 1, 2, 3, 4] rfl, hT, by omega⟩ (fun xx H locs ls hI ih => ?_)
  obtain ⟨v153, v154⟩ := xx
  obtain ⟨hP, hD, hS, hl, hT, hq309⟩ := hI
  have ih310 := ih
  refine lv_iload hx hb dX6_dimming_5 (lv_at hl 0 rfl) ?_
  refine lv_aload_n hx hb dX6_dimming_7 rfl (lv_at hl 2 rfl) ?_
  obtain ⟨p345, _, hk346, x311, a312, x313, a314, x315, a316, a317, x318, a319, a320, x321, a322, x323, rfl, h324, h325, h326, h327, h328, h329, h330, h331, h332, h333, h334, h335, h336, h337, h338, h339, h340, h341, h342, h343, h344⟩ := op2 hT ht0
  refine va_get (D := D) (ci := 6) (v := .int x313) (C := RX6) (T := TX6) (N := 13) hx hb hg inGX6 hown hKN.1 hP p345 hk346 rfl 2 (by decide) (hg _ kw_43) (fun _ h9 => h9) rfl dX6_dimming_8 ?_
  refine lv_icmp_ge (tgt := 68) hx hb dX6_dimming_11 (by decide) (fun c406 => ?_) (fun c406 => ?_)
  · skip
    have c406 := i_le (Eq.refl x313.toInt) (Eq.refl v153.toInt) c406
    refine lv_lload_n hx hb dX6_dimming_68 rfl (lv_at hl 1 rfl) ?_
    refine W.widen (k := 0) (n := 0) (Nat.le_of_ble_eq_true rfl) (Nat.le_of_ble_eq_true rfl) ?_
    exact W.lret (v := v154) hx hb hr (fun t ht hW => ⟨⟨v154, rfl, trivial, CB.mk ht hP hD⟩, hS.F ht⟩) hS.2.2 dX6_dimming_69
  · skip
    have c406 := i_nle (Eq.refl x313.toInt) (Eq.refl v153.toInt) c406
    refine lv_aload_n hx hb dX6_dimming_14 rfl (lv_at hl 2 rfl) ?_
    refine lv_iload hx hb dX6_dimming_15 (lv_at hl 0 rfl) ?_
    refine cga (rn_V (As := [.int v153]) (rest := []) (b := p0) (x_X6_worldAt l D Y Z H.size ws T g q j p0 v153 hT ht0) ⟨hx, hb, hml, hown, hg⟩ lk_X6_50 ⟨CPC.blind, va_recv hKN.1 hP (ci := 6) (q0 := p345) rfl hk346, CPC.at hP hKN hD hSZ hS hA⟩ ⟨⟨rfl, rfl⟩, ⟨Nat.le_of_ble_eq_true rfl, Nat.le_of_ble_eq_true rfl⟩, ⟨Nat.le_of_ble_eq_true rfl, Nat.le_of_ble_eq_true rfl⟩⟩ hl.1 rfl (Nat.le_of_ble_eq_true rfl) dX6_dimming_17) hP hD hS hA (fun u407 H locs hw408 hP hD hS => ?_)
    obtain ⟨ht410, hw411⟩ : (∀ b, u407 = some b → T b = (4, 0, 0)) ∧ (∀ b, u407 = some b → 0 ≤ v153.toInt ∧ v153.toInt ≤ 39) := hw408
    refine W.eq (g2 := F0 m 20 ls [va_rf u407]) rfl ?_
    rcases u407 with _ | b412
    · skip
      refine W.eq (g2 := F0 m 20 ls [.null]) rfl ?_
      refine lv_astoreN (lv' := [(6, .null), (5, .int v153), (3, .long v154), (0, .ref p0), (1, .int p1), (2, .int p2)]) hx hb dX6_dimming_20 hl (by decide) rfl (fun ls hl => ?_)
      refine lv_aloadN hx hb dX6_dimming_22 (lv_at hl 0 rfl) ?_
      refine lv_ifnullN (tgt := 62) hx hb dX6_dimming_24 (by decide) ?_
      obtain ⟨v413, ev413⟩ : ∃ y : Int32, y = v153 + 1 := ⟨_, rfl⟩
      have hv413 := i_add (Eq.refl v153.toInt) (show (1 : Int32).toInt = 1 by decide) ev413 (by omega) (by omega)
      refine lv_iinc (v := v413) (lv' := [(5, .int v413), (6, .null), (3, .long v154), (0, .ref p0), (1, .int p1), (2, .int p2)]) hx hb dX6_dimming_62 hl (k := 1) rfl (by rw [ev413]; rfl) (by decide) rfl (fun ls hl => ?_)
      refine lv_goto (tgt := 5) hx hb dX6_dimming_65 (by decide) ?_
      exact ih310 (v413, v154) H locs ls (by show (40 - v413.toInt).toNat < (40 - v153.toInt).toNat; omega) ⟨hP, hD, hS, lv_sub hl [0, 2, 3, 4, 5] rfl, hT, by omega⟩
    · skip
      have ht414 := ht410 b412 rfl
      have h415 := hw411 b412 rfl
      refine W.eq (g2 := F0 m 20 ls [.ref b412]) rfl ?_
      refine lv_astore (lv' := [(6, .ref b412), (5, .int v153), (3, .long v154), (0, .ref p0), (1, .int p1), (2, .int p2)]) hx hb dX6_dimming_20 hl (by decide) rfl (fun ls hl => ?_)
      refine lv_aload hx hb dX6_dimming_22 (lv_at hl 0 rfl) ?_
      refine w_join (σ := Int64) (pcJ := 62) (kJ := 0) (nJ := 0) (stk := fun xx => match xx with | v439 => []) (fun xx H locs ls => match xx with | v439 => va_P D vwCl ws H ∧ va_D A ws ∧ va_S A s.heap H locs ∧ lv_has ls 7 [(6, .ref b412), (5, .int v153), (3, .long v439), (0, .ref p0), (1, .int p1), (2, .int p2)] ∧ TW Y Z T g q ws) (fun xx H locs ls hI => ?_) (fun jn440 => ?_)
      · skip
        revert hI
        generalize xx = v439
        intro hI
        obtain ⟨hP, hD, hS, hl, hT⟩ := hI
        refine W.eq (g2 := F0 m 62 ls []) rfl ?_
        obtain ⟨v441, ev441⟩ : ∃ y : Int32, y = v153 + 1 := ⟨_, rfl⟩
        have hv441 := i_add (Eq.refl v153.toInt) (show (1 : Int32).toInt = 1 by decide) ev441 (by omega) (by omega)
        refine lv_iinc (v := v441) (lv' := [(5, .int v441), (6, .ref b412), (3, .long v439), (0, .ref p0), (1, .int p1), (2, .int p2)]) hx hb dX6_dimming_62 hl (k := 1) rfl (by rw [ev441]; rfl) (by decide) rfl (fun ls hl => ?_)
        refine lv_goto (tgt := 5) hx hb dX6_dimming_65 (by decide) ?_
        exact ih310 (v441, v439) H locs ls (by show (40 - v441.toInt).toNat < (40 - v153.toInt).toNat; omega) ⟨hP, hD, hS, lv_sub hl [0, 2, 3, 4, 5] rfl, hT, by omega⟩
      · skip
        refine lv_ifnull hx hb dX6_dimming_24 ?_
        refine lv_aload hx hb dX6_dimming_27 (lv_at hl 0 rfl) ?_
        obtain ⟨p449, _, hk450, x442, x443, x444, x445, x446, x447, rfl, h448⟩ := op4 hT ht414
        refine va_getN (D := D) (ci := 9) (v := .int x442) (C := RX9) (T := TX9) (N := 6) hx hb hg inGX9 hown hKN.1 hP p449 hk450 rfl 0 (by decide) (va_Nw.use rfl (hKN.2.1 _ kn_569 rfl)) (fun _ h9 => h9) rfl dX6_dimming_29 ?_
        refine lv_iload_n hx hb dX6_dimming_32 rfl (lv_at hl 4 rfl) ?_
        have j451 := rgI x442
        have j452 := rgI p1
        refine lv_icmp_ne (tgt := 62) hx hb dX6_dimming_33 (by decide) (fun c453 => ?_) (fun c453 => ?_)
        · skip
          have c453 := i_ne (Eq.refl x442.toInt) (Eq.refl p1.toInt) c453
          refine W.widen (k := 0) (n := 0) (Nat.le_of_ble_eq_true rfl) (Nat.le_of_ble_eq_true rfl) ?_
          exact jn440 (v154) H locs ls ⟨hP, hD, hS, lv_sub hl [0, 1, 2, 3, 4, 5] rfl, hT⟩
        · skip
          have c453 := i_eq (Eq.refl x442.toInt) (Eq.refl p1.toInt) c453
          refine lv_aload hx hb dX6_dimming_36 (lv_at hl 0 rfl) ?_
          refine va_getN (D := D) (ci := 9) (v := .int x447) (C := RX9) (T := TX9) (N := 6) hx hb hg inGX9 hown hKN.1 hP p449 hk450 rfl 5 (by decide) (va_Nw.use rfl (hKN.2.1 _ kn_580 rfl)) (fun _ h9 => h9) rfl dX6_dimming_38 ?_
          refine lv_if_ne (tgt := 62) hx hb dX6_dimming_41 (by decide) (fun c454 => ?_) (fun c454 => ?_)
          · skip
            have c454 := i_ne (Eq.refl x447.toInt) (show (0 : Int32).toInt = 0 by decide) c454
            refine W.widen (k := 0) (n := 0) (Nat.le_of_ble_eq_true rfl) (Nat.le_of_ble_eq_true rfl) ?_
            exact jn440 (v154) H locs ls ⟨hP, hD, hS, lv_sub hl [0, 1, 2, 3, 4, 5] rfl, hT⟩
          · skip
            have c454 := i_eq (Eq.refl x447.toInt) (show (0 : Int32).toInt = 0 by decide) c454
            refine lv_aload hx hb dX6_dimming_44 (lv_at hl 0 rfl) ?_
            refine lv_iload_n hx hb dX6_dimming_46 rfl (lv_at hl 5 rfl) ?_
            refine cga (rn_NV (As := [.int p2]) (rest := []) (b := b412) (x_X9_isDipAt l D Y Z H.size ws T g q b412 p2 hT ht414) ⟨hx, hb, hml, hown, hg⟩ hKN lk_X6_82 ⟨CPC.blind, va_recv hKN.1 hP (ci := 9) (q0 := p449) rfl hk450, CPC.at hP hKN hD hSZ hS hA⟩ ⟨⟨rfl, rfl⟩, ⟨Nat.le_of_ble_eq_true rfl, Nat.le_of_ble_eq_true rfl⟩, ⟨Nat.le_of_ble_eq_true rfl, Nat.le_of_ble_eq_true rfl⟩⟩ hl.1 rfl (Nat.le_of_ble_eq_true rfl) dX6_dimming_47) hP hD hS hA (fun u455 H locs hw456 hP hD hS => ?_)
            have hw458 : (0 ≤ u455.toInt ∧ u455.toInt ≤ 1) := hw456
            refine W.eq (g2 := F0 m 50 ls [.int u455]) rfl ?_
            rcases (show u455.toInt = 1 ∨ u455.toInt = 0 by omega) with c459 | c459
            · obtain rfl : u455 = 1 := i_is c459 (by decide)
              have zi1 : (1 : Int32).toInt = 1 := by decide
              refine W.eq (g2 := F0 m 50 ls [.int 1]) rfl ?_
              refine lv_if_eq (tgt := 62) hx hb dX6_dimming_50 (by decide) (fun c460 => ?_) (fun c460 => ?_)
              · exact absurd c460 (by decide)
              refine lv_lload_n hx hb dX6_dimming_53 rfl (lv_at hl 2 rfl) ?_
              refine lv_aload hx hb dX6_dimming_54 (lv_at hl 0 rfl) ?_
              refine va_getN (D := D) (ci := 9) (v := .int x446) (C := RX9) (T := TX9) (N := 6) hx hb hg inGX9 hown hKN.1 hP p449 hk450 rfl 4 (by decide) (va_Nw.use rfl (hKN.2.1 _ kn_578 rfl)) (fun _ h9 => h9) rfl dX6_dimming_56 ?_
              have j461 := rgI x446
              have j462 := Int32.toInt_toInt64 x446
              refine lv_i2l (v := x446.toInt64) hx hb dX6_dimming_59 (rfl) ?_
              refine lv_ladd hx hb dX6_dimming_60 ?_
              refine lv_topl (fun v463 ev463 => ?_)
              refine lv_lstore_n (lv' := [(3, .long v463), (6, .ref b412), (5, .int v153), (0, .ref p0), (1, .int p1), (2, .int p2)]) hx hb dX6_dimming_61 rfl hl (by decide) rfl (fun ls hl => ?_)
              refine W.widen (k := 0) (n := 0) (Nat.le_of_ble_eq_true rfl) (Nat.le_of_ble_eq_true rfl) ?_
              exact jn440 (v463) H locs ls ⟨hP, hD, hS, lv_sub hl [1, 2, 0, 3, 4, 5] rfl, hT⟩
            · obtain rfl : u455 = 0 := i_is c459 (by decide)
              have zi0 : (0 : Int32).toInt = 0 := by decide
              refine W.eq (g2 := F0 m 50 ls [.int 0]) rfl ?_
              refine lv_if_eq (tgt := 62) hx hb dX6_dimming_50 (by decide) (fun c464 => ?_) (fun c464 => ?_)
              rotate_left
              · exact absurd c464 (by decide)
              refine W.widen (k := 0) (n := 0) (Nat.le_of_ble_eq_true rfl) (Nat.le_of_ble_eq_true rfl) ?_
              exact jn440 (v154) H locs ls ⟨hP, hD, hS, lv_sub hl [0, 1, 2, 3, 4, 5] rfl, hT⟩
set_option maxHeartbeats 4000000 in
set_option maxRecDepth 100000 in
theorem x_X6_stepUp (l : Launch) (D : va_G) (Y : Nat → ClassId) (Z : Nat → Nat) (sz : Nat) (ws : va_W) (T : RT) (g : GN) (q : GQ) (j : Nat) (j2 : Nat) (w2 : Nat) (p0 : Nat) (p1 : Nat) (p2 : Int32) (hT : TW Y Z T g q ws) (ht0 : T p0 = (2, j, 0)) (ht1 : T p1 = (14, j2, w2)) : Met l yX6_stepUp (.code yX6_stepUp cX6_stepUp 6 (some .int) :: GW) ({ frames := 1, cells := 0, slots := 0, locals := 21 }) (va_Pc [.ref p0, .ref p1, .int p2] (CPC D Y Z ws sz)) (QG (S := Int32) (fun u => some (.int u)) (fun u => True) (fun u => CB D ws (va_A ws sz)) (va_A ws sz)) 0 0 (va_A ws sz) := by
  refine Met.ofW (cc := cX6_stepUp) (maxL := 6) (ret := (some .int)) (by decide) rfl ?_
  intro p e s m args below meth c s₁ B hml hv
  obtain ⟨rfl, ⟨hsz, hP, hKN, hD0⟩, hSZ⟩ := hv
  have hx := B.exec
  have hb := B.bytes
  have hr := B.returns
  have hts := atoms_spec (ws := .code yX6_stepUp cX6_stepUp 6 (some .int) :: GW) B.pre
  have hg : ∀ w ∈ GW, w.before _ s = true := fun w h => hts w (List.mem_cons_of_mem _ h)
  have hown : s.vm.findClass RX6 = some m.cls := findClass_of_methodNamed B.named
  have hlocks := B.notSynchronized
  subst hsz
  have hD := hD0.self (sz := s.heap.size)
  generalize hAe : va_A ws s.heap.size = A at hD hSZ ⊢
  have hA : ∀ q : Nat, s.heap.size ≤ q → A q := fun q h => by rw [← hAe]; exact Or.inr h
  clear hAe hD0 hts B
  have hl := lv_entry ([.ref p0, .ref p1, .int p2]) (n := 6) (Nat.le_of_ble_eq_true rfl)
  rw [lg_entry_eq]
  generalize (lg_sl ([.ref p0, .ref p1, .int p2]) ++ List.replicate (6 - (lg_sl ([.ref p0, .ref p1, .int p2])).length) Slot.unset).toArray = ls at hl ⊢
  have hl : lv_has ls 6 [(0, .ref p0), (1, .ref p1), (2, .int p2)] := hl
  refine w_start (A0 := A) hP (fun H locs hP hS => ?_)
  refine lv_iconst (v := 0) hx hb dX6_stepUp_0 (by decide) ?_
  refine lv_istore_n (lv' := [(3, .int 0), (0, .ref p0), (1, .ref p1), (2, .int p2)]) hx hb dX6_stepUp_1 rfl hl (by decide) rfl (fun ls hl => ?_)
  refine lv_iload_n hx hb dX6_stepUp_2 rfl (lv_at hl 3 rfl) ?_
  refine cg0 (rn_S (As := [.int p2]) (rest := []) (x_J6_numberOfTrailingZeros_0f7a4 l D Y Z H.size p2) ⟨hx, hb, hml, hown, hg⟩ lk_X6_89 ⟨CP.blind, CP.at nilP hKN (nilD (A := fun _ => True))⟩ ⟨⟨rfl, rfl⟩, ⟨Nat.le_of_ble_eq_true rfl, Nat.le_of_ble_eq_true rfl⟩, ⟨Nat.le_of_ble_eq_true rfl, Nat.le_of_ble_eq_true rfl⟩⟩ hl.1 rfl (Nat.le_of_ble_eq_true rfl) dX6_stepUp_3) hP hS hA (fun u1 H locs hw2 hP hS => ?_)
  refine W.eq (g2 := F0 m 6 ls [.int u1]) rfl ?_
  refine lv_istore (lv' := [(4, .int u1), (3, .int 0), (0, .ref p0), (1, .ref p1), (2, .int p2)]) hx hb dX6_stepUp_6 hl (by decide) rfl (fun ls hl => ?_)
  refine lv_iconst (v := 0) hx hb dX6_stepUp_8 (by decide) ?_
  refine lv_istore (lv' := [(5, .int 0), (4, .int u1), (3, .int 0), (0, .ref p0), (1, .ref p1), (2, .int p2)]) hx hb dX6_stepUp_9 hl (by decide) rfl (fun ls hl => ?_)
  have zi0 : (0 : Int32).toInt = 0 := by decide
  refine w_loop (σ := Int32 × Int32) (fun xx H locs ls => match xx with | (v47, v48) => va_P D vwCl ws H ∧ va_D A ws ∧ va_S A s.heap H locs ∧ lv_has ls 6 [(5, .int v47), (4, .int u1), (3, .int v48), (0, .ref p0), (1, .ref p1), (2, .int p2)] ∧ TW Y Z T g q ws ∧ (0 ≤ v47.toInt ∧ v47.toInt ≤ 12)) (fun xx => match xx with | (v47, v48) => (12 - v47.toInt).toNat) (0, 0) ⟨hP, hD, hS, lv_sub hl [0, 1, 2, 3, 4, 5] rfl, hT, by omega⟩ (fun xx H locs ls hI ih => ?_)
  obtain ⟨v47, v48⟩ := xx
  obtain ⟨hP, hD, hS, hl, hT, hq80⟩ := hI
  have ih81 := ih
  refine lv_iload hx hb dX6_stepUp_11 (lv_at hl 0 rfl) ?_
  refine lv_iload hx hb dX6_stepUp_13 (lv_at hl 1 rfl) ?_
  refine w_join (σ := Unit) (pcJ := 53) (kJ := 0) (nJ := 0) (stk := fun xx => match xx with | _ => []) (fun xx H locs ls => match xx with | _ => va_P D vwCl ws H ∧ va_D A ws ∧ va_S A s.heap H locs ∧ lv_has ls 6 [(5, .int v47), (4, .int u1), (3, .int v48), (0, .ref p0), (1, .ref p1), (2, .int p2)] ∧ TW Y Z T g q ws) (fun xx H locs ls hI => ?_) (fun jn97 => ?_)
  · skip
    obtain ⟨hP, hD, hS, hl, hT⟩ := hI
    refine W.eq (g2 := F0 m 53 ls []) rfl ?_
    refine lv_iload_n hx hb dX6_stepUp_53 rfl (lv_at hl 2 rfl) ?_
    refine W.widen (k := 0) (n := 0) (Nat.le_of_ble_eq_true rfl) (Nat.le_of_ble_eq_true rfl) ?_
    exact W.iret (v := v48) hx hb hr (fun t ht hW => ⟨⟨v48, rfl, trivial, CB.mk ht hP hD⟩, hS.F ht⟩) hS.2.2 dX6_stepUp_54
  · skip
    have j98 := rgI u1
    refine lv_icmp_gt (tgt := 53) hx hb dX6_stepUp_15 (by decide) (fun c99 => ?_) (fun c99 => ?_)
    · skip
      have c99 := i_lt (Eq.refl u1.toInt) (Eq.refl v47.toInt) c99
      refine W.widen (k := 0) (n := 0) (Nat.le_of_ble_eq_true rfl) (Nat.le_of_ble_eq_true rfl) ?_
      exact jn97 (()) H locs ls ⟨hP, hD, hS, lv_sub hl [0, 1, 2, 3, 4, 5] rfl, hT⟩
    · skip
      have c99 := i_nlt (Eq.refl u1.toInt) (Eq.refl v47.toInt) c99
      refine lv_iload hx hb dX6_stepUp_18 (lv_at hl 0 rfl) ?_
      refine lv_aload_n hx hb dX6_stepUp_20 rfl (lv_at hl 4 rfl) ?_
      refine tr_len14 (v := 12) hx hb hKN hP hT ht1 rfl dX6_stepUp_21 ?_
      refine lv_icmp_ge (tgt := 53) hx hb dX6_stepUp_22 (by decide) (fun c100 => ?_) (fun c100 => ?_)
      · skip
        have c100 := i_le (show (12 : Int32).toInt = 12 by decide) (Eq.refl v47.toInt) c100
        refine W.widen (k := 0) (n := 0) (Nat.le_of_ble_eq_true rfl) (Nat.le_of_ble_eq_true rfl) ?_
        exact jn97 (()) H locs ls ⟨hP, hD, hS, lv_sub hl [0, 1, 2, 3, 4, 5] rfl, hT⟩
      · skip
        have c100 := i_nle (show (12 : Int32).toInt = 12 by decide) (Eq.refl v47.toInt) c100
        refine lv_iload_n hx hb dX6_stepUp_25 rfl (lv_at hl 2 rfl) ?_
        refine lv_iload hx hb dX6_stepUp_26 (lv_at hl 0 rfl) ?_
        refine lv_iload hx hb dX6_stepUp_28 (lv_at hl 1 rfl) ?_
        refine w_join (σ := Int32) (pcJ := 45) (kJ := 0) (nJ := 0) (stk := fun xx => match xx with | v105 => [.int v105, .int v48]) (fun xx H locs ls => match xx with | v105 => va_P D vwCl ws H ∧ va_D A ws ∧ va_S A s.heap H locs ∧ lv_has ls 6 [(5, .int v47), (4, .int u1), (3, .int v48), (0, .ref p0), (1, .ref p1), (2, .int p2)] ∧ TW Y Z T g q ws) (fun xx H locs ls hI => ?_) (fun jn106 => ?_)
        · skip
          revert hI
          generalize xx = v105
          intro hI
          obtain ⟨hP, hD, hS, hl, hT⟩ := hI
          refine W.eq (g2 := F0 m 45 ls [.int v105, .int v48]) rfl ?_
          refine lv_iadd hx hb dX6_stepUp_45 ?_
          refine lv_topi (fun v107 ev107 => ?_)
          refine lv_istore_n (lv' := [(3, .int v107), (5, .int v47), (4, .int u1), (0, .ref p0), (1, .ref p1), (2, .int p2)]) hx hb dX6_stepUp_46 rfl hl (by decide) rfl (fun ls hl => ?_)
          obtain ⟨v108, ev108⟩ : ∃ y : Int32, y = v47 + 1 := ⟨_, rfl⟩
          have hv108 := i_add (Eq.refl v47.toInt) (show (1 : Int32).toInt = 1 by decide) ev108 (by omega) (by omega)
          refine lv_iinc (v := v108) (lv' := [(5, .int v108), (3, .int v107), (4, .int u1), (0, .ref p0), (1, .ref p1), (2, .int p2)]) hx hb dX6_stepUp_47 hl (k := 1) rfl (by rw [ev108]; rfl) (by decide) rfl (fun ls hl => ?_)
          refine lv_goto (tgt := 11) hx hb dX6_stepUp_50 (by decide) ?_
          exact ih81 (v108, v107) H locs ls (by show (12 - v108.toInt).toNat < (12 - v47.toInt).toNat; omega) ⟨hP, hD, hS, lv_sub hl [0, 2, 1, 3, 4, 5] rfl, hT, by omega⟩
        · skip
          refine lv_icmp_ne (tgt := 40) hx hb dX6_stepUp_30 (by decide) (fun c109 => ?_) (fun c109 => ?_)
          · skip
            have c109 := i_ne (Eq.refl v47.toInt) (Eq.refl u1.toInt) c109
            refine lv_aload_n hx hb dX6_stepUp_40 rfl (lv_at hl 4 rfl) ?_
            refine lv_iload hx hb dX6_stepUp_41 (lv_at hl 0 rfl) ?_
            refine tr_ld14 hx hb hKN hP hT ht1 (vp_in_iff.mpr ⟨by omega, by omega⟩) dX6_stepUp_43 (fun v110 ev110 => ?_)
            refine lv_ineg hx hb dX6_stepUp_44 ?_
            refine lv_topi (fun v111 ev111 => ?_)
            refine W.widen (k := 0) (n := 0) (Nat.le_of_ble_eq_true rfl) (Nat.le_of_ble_eq_true rfl) ?_
            exact jn106 (v111) H locs ls ⟨hP, hD, hS, lv_sub hl [0, 1, 2, 3, 4, 5] rfl, hT⟩
          · skip
            have c109 := i_eq (Eq.refl v47.toInt) (Eq.refl u1.toInt) c109
            refine lv_aload_n hx hb dX6_stepUp_33 rfl (lv_at hl 4 rfl) ?_
            refine lv_iload hx hb dX6_stepUp_34 (lv_at hl 0 rfl) ?_
            refine tr_ld14 hx hb hKN hP hT ht1 (vp_in_iff.mpr ⟨by omega, by omega⟩) dX6_stepUp_36 (fun v112 ev112 => ?_)
            refine lv_goto (tgt := 45) hx hb dX6_stepUp_37 (by decide) ?_
            refine W.widen (k := 0) (n := 0) (Nat.le_of_ble_eq_true rfl) (Nat.le_of_ble_eq_true rfl) ?_
            exact jn106 (v112) H locs ls ⟨hP, hD, hS, lv_sub hl [0, 1, 2, 3, 4, 5] rfl, hT⟩
set_option maxHeartbeats 4000000 in
set_option maxRecDepth 100000 in
theorem x_X6_numbers (l : Launch) (D : va_G) (Y : Nat → ClassId) (Z : Nat → Nat) (sz : Nat) (ws : va_W) (T : RT) (g : GN) (q : GQ) (j : Nat) (p0 : Nat) (hT : TW Y Z T g q ws) (ht0 : T p0 = (2, j, 0)) : Met l yX6_numbers (.code yX6_numbers cX6_numbers 4 (some .int) :: GW) ({ frames := 1, cells := 0, slots := 0, locals := 22 }) (va_Pc [.ref p0] (CPC D Y Z ws sz)) (QG (S := Int32) (fun u => some (.int u)) (fun u => True) (fun u => CB D ws (va_A ws sz)) (va_A ws sz)) 0 0 (va_A ws sz) := by
  refine Met.ofW (cc := cX6_numbers) (maxL := 4) (ret := (some .int)) (by decide) rfl ?_
  intro p e s m args below meth c s₁ B hml hv
  obtain ⟨rfl, ⟨hsz, hP, hKN, hD0⟩, hSZ⟩ := hv
  have hx := B.exec
  have hb := B.bytes
  have hr := B.returns
  have hts := atoms_spec (ws := .code yX6_numbers cX6_numbers 4 (some .int) :: GW) B.pre
  have hg : ∀ w ∈ GW, w.before _ s = true := fun w h => hts w (List.mem_cons_of_mem _ h)
  have hown : s.vm.findClass RX6 = some m.cls := findClass_of_methodNamed B.named
  have hlocks := B.notSynchronized
  subst hsz
  have hD := hD0.self (sz := s.heap.size)
  generalize hAe : va_A ws s.heap.size = A at hD hSZ ⊢
  have hA : ∀ q : Nat, s.heap.size ≤ q → A q := fun q h => by rw [← hAe]; exact Or.inr h
  clear hAe hD0 hts B
  have hl := lv_entry ([.ref p0]) (n := 4) (Nat.le_of_ble_eq_true rfl)
  rw [lg_entry_eq]
  generalize (lg_sl ([.ref p0]) ++ List.replicate (4 - (lg_sl ([.ref p0])).length) Slot.unset).toArray = ls at hl ⊢
  have hl : lv_has ls 4 [(0, .ref p0)] := hl
  refine w_start (A0 := A) hP (fun H locs hP hS => ?_)
  refine lv_iconst (v := 0) hx hb dX6_numbers_0 (by decide) ?_
  refine lv_istore_n (lv' := [(1, .int 0), (0, .ref p0)]) hx hb dX6_numbers_1 rfl hl (by decide) rfl (fun ls hl => ?_)
  refine lv_iconst (v := 0) hx hb dX6_numbers_2 (by decide) ?_
  refine lv_istore_n (lv' := [(2, .int 0), (1, .int 0), (0, .ref p0)]) hx hb dX6_numbers_3 rfl hl (by decide) rfl (fun ls hl => ?_)
  have zi0 : (0 : Int32).toInt = 0 := by decide
  refine w_loop (σ := Int32 × Int32) (fun xx H locs ls => match xx with | (v105, v106) => va_P D vwCl ws H ∧ va_D A ws ∧ va_S A s.heap H locs ∧ lv_has ls 4 [(2, .int v105), (1, .int v106), (0, .ref p0)] ∧ TW Y Z T g q ws ∧ (0 ≤ v105.toInt ∧ v105.toInt ≤ 12)) (fun xx => match xx with | (v105, v106) => (12 - v105.toInt).toNat) (0, 0) ⟨hP, hD, hS, lv_sub hl [0, 1, 2] rfl, hT, by omega⟩ (fun xx H locs ls hI ih => ?_)
  obtain ⟨v105, v106⟩ := xx
  obtain ⟨hP, hD, hS, hl, hT, hq215⟩ := hI
  have ih216 := ih
  refine lv_iload_n hx hb dX6_numbers_4 rfl (lv_at hl 0 rfl) ?_
  refine lv_aload_n hx hb dX6_numbers_5 rfl (lv_at hl 2 rfl) ?_
  obtain ⟨p251, _, hk252, x217, a218, x219, a220, x221, a222, a223, x224, a225, a226, x227, a228, x229, rfl, h230, h231, h232, h233, h234, h235, h236, h237, h238, h239, h240, h241, h242, h243, h244, h245, h246, h247, h248, h249, h250⟩ := op2 hT ht0
  refine va_get (D := D) (ci := 6) (v := .int x217) (C := RX6) (T := TX6) (N := 13) hx hb hg inGX6 hown hKN.1 hP p251 hk252 rfl 0 (by decide) (hg _ kw_39) (fun _ h9 => h9) rfl dX6_numbers_6 ?_
  refine lv_icmp_ge (tgt := 39) hx hb dX6_numbers_9 (by decide) (fun c289 => ?_) (fun c289 => ?_)
  · skip
    have c289 := i_le (Eq.refl x217.toInt) (Eq.refl v105.toInt) c289
    refine lv_iload_n hx hb dX6_numbers_39 rfl (lv_at hl 1 rfl) ?_
    refine W.widen (k := 0) (n := 0) (Nat.le_of_ble_eq_true rfl) (Nat.le_of_ble_eq_true rfl) ?_
    exact W.iret (v := v106) hx hb hr (fun t ht hW => ⟨⟨v106, rfl, trivial, CB.mk ht hP hD⟩, hS.F ht⟩) hS.2.2 dX6_numbers_40
  · skip
    have c289 := i_nle (Eq.refl x217.toInt) (Eq.refl v105.toInt) c289
    refine lv_aload_n hx hb dX6_numbers_12 rfl (lv_at hl 2 rfl) ?_
    refine lv_iload_n hx hb dX6_numbers_13 rfl (lv_at hl 0 rfl) ?_
    refine cga (rn_V (As := [.int v105]) (rest := []) (b := p0) (x_X6_starAt l D Y Z H.size ws T g q j p0 v105 hT ht0) ⟨hx, hb, hml, hown, hg⟩ lk_X6_58 ⟨CPC.blind, va_recv hKN.1 hP (ci := 6) (q0 := p251) rfl hk252, CPC.at hP hKN hD hSZ hS hA⟩ ⟨⟨rfl, rfl⟩, ⟨Nat.le_of_ble_eq_true rfl, Nat.le_of_ble_eq_true rfl⟩, ⟨Nat.le_of_ble_eq_true rfl, Nat.le_of_ble_eq_true rfl⟩⟩ hl.1 rfl (Nat.le_of_ble_eq_true rfl) dX6_numbers_14) hP hD hS hA (fun u290 H locs hw291 hP hD hS => ?_)
    obtain ⟨ht293, hw294⟩ : (∀ b, u290 = some b → T b = (3, j, v105.toNatClampNeg)) ∧ (∀ b, u290 = some b → 0 ≤ v105.toInt ∧ v105.toInt ≤ 11) := hw291
    refine W.eq (g2 := F0 m 17 ls [va_rf u290]) rfl ?_
    rcases u290 with _ | b295
    · skip
      refine W.eq (g2 := F0 m 17 ls [.null]) rfl ?_
      refine lv_astore_nN (lv' := [(3, .null), (2, .int v105), (1, .int v106), (0, .ref p0)]) hx hb dX6_numbers_17 rfl hl (by decide) rfl (fun ls hl => ?_)
      refine lv_iload_n hx hb dX6_numbers_18 rfl (lv_at hl 2 rfl) ?_
      refine lv_aload_nN hx hb dX6_numbers_19 rfl (lv_at hl 0 rfl) ?_
      refine lv_ifnonnullN hx hb dX6_numbers_20 ?_
      refine lv_iconst (v := 0) hx hb dX6_numbers_23 (by decide) ?_
      refine lv_goto (tgt := 31) hx hb dX6_numbers_24 (by decide) ?_
      refine lv_iadd hx hb dX6_numbers_31 ?_
      refine lv_topi (fun v296 ev296 => ?_)
      have j297 := rgI v106
      have hv296 := i_add (Eq.refl v106.toInt) (show (0 : Int32).toInt = 0 by decide) ev296 (by omega) (by omega)
      refine lv_istore_n (lv' := [(1, .int v296), (3, .null), (2, .int v105), (0, .ref p0)]) hx hb dX6_numbers_32 rfl hl (by decide) rfl (fun ls hl => ?_)
      obtain ⟨v298, ev298⟩ : ∃ y : Int32, y = v105 + 1 := ⟨_, rfl⟩
      have hv298 := i_add (Eq.refl v105.toInt) (show (1 : Int32).toInt = 1 by decide) ev298 (by omega) (by omega)
      refine lv_iinc (v := v298) (lv' := [(2, .int v298), (1, .int v296), (3, .null), (0, .ref p0)]) hx hb dX6_numbers_33 hl (k := 2) rfl (by rw [ev298]; rfl) (by decide) rfl (fun ls hl => ?_)
      refine lv_goto (tgt := 4) hx hb dX6_numbers_36 (by decide) ?_
      exact ih216 (v298, v296) H locs ls (by show (12 - v298.toInt).toNat < (12 - v105.toInt).toNat; omega) ⟨hP, hD, hS, lv_sub hl [0, 1, 3] rfl, hT, by omega⟩
    · skip
      have ht299 := ht293 b295 rfl
      have h300 := hw294 b295 rfl
      refine W.eq (g2 := F0 m 17 ls [.ref b295]) rfl ?_
      refine lv_astore_n (lv' := [(3, .ref b295), (2, .int v105), (1, .int v106), (0, .ref p0)]) hx hb dX6_numbers_17 rfl hl (by decide) rfl (fun ls hl => ?_)
      refine lv_iload_n hx hb dX6_numbers_18 rfl (lv_at hl 2 rfl) ?_
      refine lv_aload_n hx hb dX6_numbers_19 rfl (lv_at hl 0 rfl) ?_
      refine lv_ifnonnull (tgt := 27) hx hb dX6_numbers_20 (by decide) ?_
      refine lv_aload_n hx hb dX6_numbers_27 rfl (lv_at hl 0 rfl) ?_
      obtain ⟨p318, _, hk319, x312, x313, x314, a315, rfl, h316, h317⟩ := op3 hT ht299
      refine cga (rn_NV (As := []) (rest := [.int v106]) (b := b295) (x_X7_numbers l D Y Z H.size ws T g q j v105.toNatClampNeg b295 hT ht299) ⟨hx, hb, hml, hown, hg⟩ hKN lk_X6_95 ⟨CPC.blind, va_recv hKN.1 hP (ci := 7) (q0 := p318) rfl hk319, CPC.at hP hKN hD hSZ hS hA⟩ ⟨⟨rfl, rfl⟩, ⟨Nat.le_of_ble_eq_true rfl, Nat.le_of_ble_eq_true rfl⟩, ⟨Nat.le_of_ble_eq_true rfl, Nat.le_of_ble_eq_true rfl⟩⟩ hl.1 rfl (Nat.le_of_ble_eq_true rfl) dX6_numbers_28) hP hD hS hA (fun u320 H locs hw321 hP hD hS => ?_)
      refine W.eq (g2 := F0 m 31 ls [.int u320, .int v106]) rfl ?_
      refine lv_iadd hx hb dX6_numbers_31 ?_
      refine lv_topi (fun v323 ev323 => ?_)
      refine lv_istore_n (lv' := [(1, .int v323), (3, .ref b295), (2, .int v105), (0, .ref p0)]) hx hb dX6_numbers_32 rfl hl (by decide) rfl (fun ls hl => ?_)
      obtain ⟨v324, ev324⟩ : ∃ y : Int32, y = v105 + 1 := ⟨_, rfl⟩
      have hv324 := i_add (Eq.refl v105.toInt) (show (1 : Int32).toInt = 1 by decide) ev324 (by omega) (by omega)
      refine lv_iinc (v := v324) (lv' := [(2, .int v324), (1, .int v323), (3, .ref b295), (0, .ref p0)]) hx hb dX6_numbers_33 hl (k := 2) rfl (by rw [ev324]; rfl) (by decide) rfl (fun ls hl => ?_)
      refine lv_goto (tgt := 4) hx hb dX6_numbers_36 (by decide) ?_
      exact ih216 (v324, v323) H locs ls (by show (12 - v324.toInt).toNat < (12 - v105.toInt).toNat; omega) ⟨hP, hD, hS, lv_sub hl [0, 1, 3] rfl, hT, by omega⟩
set_option maxHeartbeats 4000000 in
set_option maxRecDepth 100000 in
theorem x_X6_become (l : Launch) (D : va_G) (Y : Nat → ClassId) (Z : Nat → Nat) (sz : Nat) (ws : va_W) (T : RT) (g : GN) (q : GQ) (j : Nat) (j2 : Nat) (p0 : Nat) (p1 : Nat) (hT : TW Y Z T g q ws) (ht0 : T p0 = (2, j, 0)) (ht1 : T p1 = (2, j2, 0)) : Met l yX6_become (.code yX6_become cX6_become 4 none :: GW) ({ frames := 3, cells := 24, slots := 7248, locals := 62 }) (va_Pc [.ref p0, .ref p1] (CPC D Y Z ws sz)) (QG (S := va_W × RT × GN × GQ) (fun _ => none) (fun u => TLe T u.2.1 ∧ TW Y Z u.2.1 u.2.2.1 u.2.2.2 u.1 ∧ KF 1 T ws u.1 ∧ KF 6 T ws u.1) (fun u => CB D u.1 (va_A ws sz)) (va_A ws sz)) 24 7248 (va_A ws sz) := by
  refine Met.ofW (cc := cX6_become) (maxL := 4) (ret := none) (by decide) rfl ?_
  intro p e s m args below meth c s₁ B hml hv
  obtain ⟨rfl, ⟨hsz, hP, hKN, hD0⟩, hSZ⟩ := hv
  have hx := B.exec
  have hb := B.bytes
  have hr := B.returns
  have hts := atoms_spec (ws := .code yX6_become cX6_become 4 none :: GW) B.pre
  have hg : ∀ w ∈ GW, w.before _ s = true := fun w h => hts w (List.mem_cons_of_mem _ h)
  have hown : s.vm.findClass RX6 = some m.cls := findClass_of_methodNamed B.named
  have hlocks := B.notSynchronized
  subst hsz
  have hD := hD0.self (sz := s.heap.size)
  generalize hAe : va_A ws s.heap.size = A at hD hSZ ⊢
  have hA : ∀ q : Nat, s.heap.size ≤ q → A q := fun q h => by rw [← hAe]; exact Or.inr h
  clear hAe hD0 hts B
  have hl := lv_entry ([.ref p0, .ref p1]) (n := 4) (Nat.le_of_ble_eq_true rfl)
  rw [lg_entry_eq]
  generalize (lg_sl ([.ref p0, .ref p1]) ++ List.replicate (4 - (lg_sl ([.ref p0, .ref p1])).length) Slot.unset).toArray = ls at hl ⊢
  have hl : lv_has ls 4 [(0, .ref p0), (1, .ref p1)] := hl
  refine w_start (A0 := A) hP (fun H locs hP hS => ?_)
  refine lv_iconst (v := 0) hx hb dX6_become_0 (by decide) ?_
  refine lv_istore_n (lv' := [(2, .int 0), (0, .ref p0), (1, .ref p1)]) hx hb dX6_become_1 rfl hl (by decide) rfl (fun ls hl => ?_)
  have zi0 : (0 : Int32).toInt = 0 := by decide
  refine w_loopC (σ := Int32 × va_W × RT × GN × GQ) (al := 2) (sl := 604) (M := 12) (fun xx H locs ls => match xx with | (v116, w117, T118, g119, q120) => va_P D vwCl w117 H ∧ va_D A w117 ∧ va_S A s.heap H locs ∧ lv_has ls 4 [(2, .int v116), (0, .ref p0), (1, .ref p1)] ∧ TW Y Z T118 g119 q120 w117 ∧ TLe T T118 ∧ KF 1 T ws w117 ∧ KF 6 T ws w117 ∧ GE T g g119 ∧ (0 ≤ v116.toInt ∧ v116.toInt ≤ 12)) (fun xx => match xx with | (v116, w117, T118, g119, q120) => (12 - v116.toInt).toNat) (0, ws, T, g, q) ⟨hP, hD, hS, lv_sub hl [0, 1, 2] rfl, hT, TLe.rf, KF.rf, KF.rf, GE.rf, by omega⟩ (by show (12 - (0 : Int32).toInt).toNat ≤ 12; omega) (fun xx bd238 sd239 H locs ls hI hbbd238 ih => ?_)
  obtain ⟨v116, w117, T118, g119, q120⟩ := xx
  obtain ⟨hP, hD, hS, hl, hT, le241, ke242, ke243, ge244, hq240⟩ := hI
  have hbbd238 : bd238 + 2 * ((12 - v116.toInt).toNat) ≤ 0 + 2 * 12 ∧ sd239 + 604 * ((12 - v116.toInt).toNat) ≤ 0 + 604 * 12 := hbbd238
  have ih245 := ih
  refine lv_iload_n hx hb dX6_become_2 rfl (lv_at hl 0 rfl) ?_
  refine lv_aload_n hx hb dX6_become_3 rfl (lv_at hl 2 rfl) ?_
  obtain ⟨p280, _, hk281, x246, a247, x248, a249, x250, a251, a252, x253, a254, a255, x256, a257, x258, rfl, h259, h260, h261, h262, h263, h264, h265, h266, h267, h268, h269, h270, h271, h272, h273, h274, h275, h276, h277, h278, h279⟩ := op2 hT (le241.up ht1)
  refine va_get (D := D) (ci := 6) (v := .int x246) (C := RX6) (T := TX6) (N := 13) hx hb hg inGX6 hown hKN.1 hP p280 hk281 rfl 0 (by decide) (hg _ kw_39) (fun _ h9 => h9) rfl dX6_become_4 ?_
  refine lv_icmp_ge (tgt := 41) hx hb dX6_become_7 (by decide) (fun c282 => ?_) (fun c282 => ?_)
  · skip
    have c282 := i_le (Eq.refl x246.toInt) (Eq.refl v116.toInt) c282
    refine lv_iconst (v := 0) hx hb dX6_become_41 (by decide) ?_
    refine lv_istore_n (lv' := [(2, .int 0), (0, .ref p0), (1, .ref p1)]) hx hb dX6_become_42 rfl hl (by decide) rfl (fun ls hl => ?_)
    have zi0 : (0 : Int32).toInt = 0 := by decide
    refine w_loop (σ := Int32 × va_W) (fun xx H locs ls => match xx with | (v336, w337) => va_P D vwCl w337 H ∧ va_D A w337 ∧ va_S A s.heap H locs ∧ lv_has ls 4 [(2, .int v336), (0, .ref p0), (1, .ref p1)] ∧ TW Y Z T118 g119 q120 w337 ∧ KF 1 T ws w337 ∧ KF 6 T ws w337 ∧ (0 ≤ v336.toInt ∧ v336.toInt ≤ 40)) (fun xx => match xx with | (v336, w337) => (40 - v336.toInt).toNat) (0, w117) ⟨hP, hD, hS, lv_sub hl [0, 1, 2] rfl, hT, ke242, ke243, by omega⟩ (fun xx H locs ls hI ih => ?_)
    obtain ⟨v336, w337⟩ := xx
    obtain ⟨hP, hD, hS, hl, hT, ke430, ke431, hq429⟩ := hI
    have ih432 := ih
    refine lv_iload_n hx hb dX6_become_43 rfl (lv_at hl 0 rfl) ?_
    refine lv_aload_n hx hb dX6_become_44 rfl (lv_at hl 2 rfl) ?_
    obtain ⟨p467, _, hk468, x433, a434, x435, a436, x437, a438, a439, x440, a441, a442, x443, a444, x445, rfl, h446, h447, h448, h449, h450, h451, h452, h453, h454, h455, h456, h457, h458, h459, h460, h461, h462, h463, h464, h465, h466⟩ := op2 hT (le241.up ht1)
    refine va_get (D := D) (ci := 6) (v := .int x435) (C := RX6) (T := TX6) (N := 13) hx hb hg inGX6 hown hKN.1 hP p467 hk468 rfl 2 (by decide) (hg _ kw_43) (fun _ h9 => h9) rfl dX6_become_45 ?_
    refine lv_icmp_ge (tgt := 75) hx hb dX6_become_48 (by decide) (fun c469 => ?_) (fun c469 => ?_)
    · skip
      have c469 := i_le (Eq.refl x435.toInt) (Eq.refl v336.toInt) c469
      refine lv_aload_n hx hb dX6_become_75 rfl (lv_at hl 1 rfl) ?_
      refine lv_aload_n hx hb dX6_become_76 rfl (lv_at hl 2 rfl) ?_
      refine va_get (D := D) (ci := 6) (v := .int x433) (C := RX6) (T := TX6) (N := 13) hx hb hg inGX6 hown hKN.1 hP p467 hk468 rfl 0 (by decide) (hg _ kw_39) (fun _ h9 => h9) rfl dX6_become_77 ?_
      obtain ⟨p504, _, hk505, x470, a471, x472, a473, x474, a475, a476, x477, a478, a479, x480, a481, x482, rfl, h483, h484, h485, h486, h487, h488, h489, h490, h491, h492, h493, h494, h495, h496, h497, h498, h499, h500, h501, h502, h503⟩ := op2 hT (le241.up ht0)
      refine va_put (D := D) (ci := 6) (v := .int x433) (ty := .int) (C := RX6) (T := TX6) (N := 13) hx hb hg inGX6 tyX6 tyX6_ok nmX6 hown hKN.1 hP hD hS p504 hk505 rfl 0 (by decide) (hg _ kw_39) (fun _ h9 => h9) rfl (by decide +kernel) rfl rfl (Nat.le_of_ble_eq_true rfl) dX6_become_80 (fun H locs hP hD2 hS => ?_)
      obtain ⟨w506, g509, eg509, hP, hD, hT, hk508, kp507⟩ : ∃ w9 g9, g9 = gset g119 p0 0 x433 ∧ va_P D vwCl w9 H ∧ va_D A w9 ∧ TW Y Z T118 g9 q120 w9 ∧ w9[p504]? = some (p0, .inr (6, (.int x433 :: .ref a471 :: .int x472 :: .ref a473 :: .int x474 :: .ref a475 :: .ref a476 :: .int x477 :: .ref a478 :: .ref a479 :: .int x480 :: .ref a481 :: .int x482 :: []))) ∧ Kp p0 w337 w9 := ⟨_, _, rfl, hP, hD2, tw_sg (k := 2) (g2 := gset g119 p0 0 x433) (q2 := q120) hT hD hk505 (le241.up ht0) (fun _ hc => gset_ne hc) (fun _ _ => rfl) (show Sh2 Y Z T118 ((gset g119 p0 0 x433) p0) (q120 p0) j 0 _ from ⟨x433, a471, x472, a473, x474, a475, a476, x477, a478, a479, x480, a481, x482, rfl, by omega, gs_eq, h485, h486, by omega, ((gs_ne (by decide)).trans h488), h489, by omega, ((gs_ne (by decide)).trans h491), h492, h493, h494, h495, by omega, ((gs_ne (by decide)).trans h497), h498, h499, by omega, ((gs_ne (by decide)).trans h501), h502, by omega⟩), sw_eq hk505, sw_kp hk505⟩
      have hg510 : g509 p0 0 = x433 := by rw [eg509]; exact gs_eq
      have hg511 : g509 p0 2 = x472 := by rw [eg509]; exact ((gs_ne (by decide)).trans h488)
      have hg512 : g509 p0 4 = x474 := by rw [eg509]; exact ((gs_ne (by decide)).trans h491)
      have hg513 : g509 p0 7 = x477 := by rw [eg509]; exact ((gs_ne (by decide)).trans h497)
      have hg514 : g509 p0 10 = x480 := by rw [eg509]; exact ((gs_ne (by decide)).trans h501)
      have hg515 : g509 p1 0 = x433 := by rw [eg509, gset_ne (rne (le241.up ht1) (le241.up ht0) (by decide))]; exact h447
      have hg516 : g509 p1 2 = x435 := by rw [eg509, gset_ne (rne (le241.up ht1) (le241.up ht0) (by decide))]; exact h451
      have hg517 : g509 p1 4 = x437 := by rw [eg509, gset_ne (rne (le241.up ht1) (le241.up ht0) (by decide))]; exact h454
      have hg518 : g509 p1 7 = x440 := by rw [eg509, gset_ne (rne (le241.up ht1) (le241.up ht0) (by decide))]; exact h460
      have hg519 : g509 p1 10 = x443 := by rw [eg509, gset_ne (rne (le241.up ht1) (le241.up ht0) (by decide))]; exact h464
      have ke520 : KF 1 T ws w506 := KF.tr ke430 (KF.le (by decide) le241 (KF.kp kp507 (le241.up ht0) (by decide)))
      have ke521 : KF 6 T ws w506 := KF.tr ke431 (KF.le (by decide) le241 (KF.kp kp507 (le241.up ht0) (by decide)))
      refine lv_aload_n hx hb dX6_become_83 rfl (lv_at hl 1 rfl) ?_
      refine lv_aload_n hx hb dX6_become_84 rfl (lv_at hl 2 rfl) ?_
      obtain ⟨p556, _, hk557, x522, a523, x524, a525, x526, a527, a528, x529, a530, a531, x532, a533, x534, rfl, h535, h536, h537, h538, h539, h540, h541, h542, h543, h544, h545, h546, h547, h548, h549, h550, h551, h552, h553, h554, h555⟩ := op2 hT (le241.up ht1)
      refine va_get (D := D) (ci := 6) (v := .int x524) (C := RX6) (T := TX6) (N := 13) hx hb hg inGX6 hown hKN.1 hP p556 hk557 rfl 2 (by decide) (hg _ kw_43) (fun _ h9 => h9) rfl dX6_become_85 ?_
      refine va_put (D := D) (ci := 6) (v := .int x524) (ty := .int) (C := RX6) (T := TX6) (N := 13) hx hb hg inGX6 tyX6 tyX6_ok nmX6 hown hKN.1 hP hD hS p504 hk508 rfl 2 (by decide) (hg _ kw_43) (fun _ h9 => h9) rfl (by decide +kernel) rfl rfl (Nat.le_of_ble_eq_true rfl) dX6_become_88 (fun H locs hP hD2 hS => ?_)
      obtain ⟨w558, g561, eg561, hP, hD, hT, hk560, kp559⟩ : ∃ w9 g9, g9 = gset g509 p0 2 x524 ∧ va_P D vwCl w9 H ∧ va_D A w9 ∧ TW Y Z T118 g9 q120 w9 ∧ w9[p504]? = some (p0, .inr (6, (.int x433 :: .ref a471 :: .int x524 :: .ref a473 :: .int x474 :: .ref a475 :: .ref a476 :: .int x477 :: .ref a478 :: .ref a479 :: .int x480 :: .ref a481 :: .int x482 :: []))) ∧ Kp p0 w506 w9 := ⟨_, _, rfl, hP, hD2, tw_sg (k := 2) (g2 := gset g509 p0 2 x524) (q2 := q120) hT hD hk508 (le241.up ht0) (fun _ hc => gset_ne hc) (fun _ _ => rfl) (show Sh2 Y Z T118 ((gset g509 p0 2 x524) p0) (q120 p0) j 0 _ from ⟨x433, a471, x524, a473, x474, a475, a476, x477, a478, a479, x480, a481, x482, rfl, by omega, ((gs_ne (by decide)).trans hg510), h485, h486, by omega, gs_eq, h489, by omega, ((gs_ne (by decide)).trans hg512), h492, h493, h494, h495, by omega, ((gs_ne (by decide)).trans hg513), h498, h499, by omega, ((gs_ne (by decide)).trans hg514), h502, by omega⟩), sw_eq hk508, sw_kp hk508⟩
      have hg562 : g561 p0 0 = x433 := by rw [eg561]; exact ((gs_ne (by decide)).trans hg510)
      have hg563 : g561 p0 2 = x524 := by rw [eg561]; exact gs_eq
      have hg564 : g561 p0 4 = x474 := by rw [eg561]; exact ((gs_ne (by decide)).trans hg512)
      have hg565 : g561 p0 7 = x477 := by rw [eg561]; exact ((gs_ne (by decide)).trans hg513)
      have hg566 : g561 p0 10 = x480 := by rw [eg561]; exact ((gs_ne (by decide)).trans hg514)
      have hg567 : g561 p1 0 = x522 := by rw [eg561, gset_ne (rne (le241.up ht1) (le241.up ht0) (by decide))]; exact h536
      have hg568 : g561 p1 2 = x524 := by rw [eg561, gset_ne (rne (le241.up ht1) (le241.up ht0) (by decide))]; exact h540
      have hg569 : g561 p1 4 = x526 := by rw [eg561, gset_ne (rne (le241.up ht1) (le241.up ht0) (by decide))]; exact h543
      have hg570 : g561 p1 7 = x529 := by rw [eg561, gset_ne (rne (le241.up ht1) (le241.up ht0) (by decide))]; exact h549
      have hg571 : g561 p1 10 = x532 := by rw [eg561, gset_ne (rne (le241.up ht1) (le241.up ht0) (by decide))]; exact h553
      have ke572 : KF 1 T ws w558 := KF.tr ke520 (KF.le (by decide) le241 (KF.kp kp559 (le241.up ht0) (by decide)))
      have ke573 : KF 6 T ws w558 := KF.tr ke521 (KF.le (by decide) le241 (KF.kp kp559 (le241.up ht0) (by decide)))
      refine lv_aload_n hx hb dX6_become_91 rfl (lv_at hl 1 rfl) ?_
      refine lv_aload_n hx hb dX6_become_92 rfl (lv_at hl 2 rfl) ?_
      obtain ⟨p608, _, hk609, x574, a575, x576, a577, x578, a579, a580, x581, a582, a583, x584, a585, x586, rfl, h587, h588, h589, h590, h591, h592, h593, h594, h595, h596, h597, h598, h599, h600, h601, h602, h603, h604, h605, h606, h607⟩ := op2 hT (le241.up ht1)
      refine va_get (D := D) (ci := 6) (v := .int x578) (C := RX6) (T := TX6) (N := 13) hx hb hg inGX6 hown hKN.1 hP p608 hk609 rfl 4 (by decide) (hg _ kw_47) (fun _ h9 => h9) rfl dX6_become_93 ?_
      refine va_put (D := D) (ci := 6) (v := .int x578) (ty := .int) (C := RX6) (T := TX6) (N := 13) hx hb hg inGX6 tyX6 tyX6_ok nmX6 hown hKN.1 hP hD hS p504 hk560 rfl 4 (by decide) (hg _ kw_47) (fun _ h9 => h9) rfl (by decide +kernel) rfl rfl (Nat.le_of_ble_eq_true rfl) dX6_become_96 (fun H locs hP hD2 hS => ?_)
      obtain ⟨w610, g613, eg613, hP, hD, hT, hk612, kp611⟩ : ∃ w9 g9, g9 = gset g561 p0 4 x578 ∧ va_P D vwCl w9 H ∧ va_D A w9 ∧ TW Y Z T118 g9 q120 w9 ∧ w9[p504]? = some (p0, .inr (6, (.int x433 :: .ref a471 :: .int x524 :: .ref a473 :: .int x578 :: .ref a475 :: .ref a476 :: .int x477 :: .ref a478 :: .ref a479 :: .int x480 :: .ref a481 :: .int x482 :: []))) ∧ Kp p0 w558 w9 := ⟨_, _, rfl, hP, hD2, tw_sg (k := 2) (g2 := gset g561 p0 4 x578) (q2 := q120) hT hD hk560 (le241.up ht0) (fun _ hc => gset_ne hc) (fun _ _ => rfl) (show Sh2 Y Z T118 ((gset g561 p0 4 x578) p0) (q120 p0) j 0 _ from ⟨x433, a471, x524, a473, x578, a475, a476, x477, a478, a479, x480, a481, x482, rfl, by omega, ((gs_ne (by decide)).trans hg562), h485, h486, by omega, ((gs_ne (by decide)).trans hg563), h489, by omega, gs_eq, h492, h493, h494, h495, by omega, ((gs_ne (by decide)).trans hg565), h498, h499, by omega, ((gs_ne (by decide)).trans hg566), h502, by omega⟩), sw_eq hk560, sw_kp hk560⟩
      have hg614 : g613 p0 0 = x433 := by rw [eg613]; exact ((gs_ne (by decide)).trans hg562)
      have hg615 : g613 p0 2 = x524 := by rw [eg613]; exact ((gs_ne (by decide)).trans hg563)
      have hg616 : g613 p0 4 = x578 := by rw [eg613]; exact gs_eq
      have hg617 : g613 p0 7 = x477 := by rw [eg613]; exact ((gs_ne (by decide)).trans hg565)
      have hg618 : g613 p0 10 = x480 := by rw [eg613]; exact ((gs_ne (by decide)).trans hg566)
      have hg619 : g613 p1 0 = x574 := by rw [eg613, gset_ne (rne (le241.up ht1) (le241.up ht0) (by decide))]; exact h588
      have hg620 : g613 p1 2 = x576 := by rw [eg613, gset_ne (rne (le241.up ht1) (le241.up ht0) (by decide))]; exact h592
      have hg621 : g613 p1 4 = x578 := by rw [eg613, gset_ne (rne (le241.up ht1) (le241.up ht0) (by decide))]; exact h595
      have hg622 : g613 p1 7 = x581 := by rw [eg613, gset_ne (rne (le241.up ht1) (le241.up ht0) (by decide))]; exact h601
      have hg623 : g613 p1 10 = x584 := by rw [eg613, gset_ne (rne (le241.up ht1) (le241.up ht0) (by decide))]; exact h605
      have ke624 : KF 1 T ws w610 := KF.tr ke572 (KF.le (by decide) le241 (KF.kp kp611 (le241.up ht0) (by decide)))
      have ke625 : KF 6 T ws w610 := KF.tr ke573 (KF.le (by decide) le241 (KF.kp kp611 (le241.up ht0) (by decide)))
      refine lv_aload_n hx hb dX6_become_99 rfl (lv_at hl 1 rfl) ?_
      refine lv_aload_n hx hb dX6_become_100 rfl (lv_at hl 2 rfl) ?_
      obtain ⟨p660, _, hk661, x626, a627, x628, a629, x630, a631, a632, x633, a634, a635, x636, a637, x638, rfl, h639, h640, h641, h642, h643, h644, h645, h646, h647, h648, h649, h650, h651, h652, h653, h654, h655, h656, h657, h658, h659⟩ := op2 hT (le241.up ht1)
      refine va_get (D := D) (ci := 6) (v := .int x633) (C := RX6) (T := TX6) (N := 13) hx hb hg inGX6 hown hKN.1 hP p660 hk661 rfl 7 (by decide) (hg _ kw_53) (fun _ h9 => h9) rfl dX6_become_101 ?_
      refine va_put (D := D) (ci := 6) (v := .int x633) (ty := .int) (C := RX6) (T := TX6) (N := 13) hx hb hg inGX6 tyX6 tyX6_ok nmX6 hown hKN.1 hP hD hS p504 hk612 rfl 7 (by decide) (hg _ kw_53) (fun _ h9 => h9) rfl (by decide +kernel) rfl rfl (Nat.le_of_ble_eq_true rfl) dX6_become_104 (fun H locs hP hD2 hS => ?_)
      obtain ⟨w662, g665, eg665, hP, hD, hT, hk664, kp663⟩ : ∃ w9 g9, g9 = gset g613 p0 7 x633 ∧ va_P D vwCl w9 H ∧ va_D A w9 ∧ TW Y Z T118 g9 q120 w9 ∧ w9[p504]? = some (p0, .inr (6, (.int x433 :: .ref a471 :: .int x524 :: .ref a473 :: .int x578 :: .ref a475 :: .ref a476 :: .int x633 :: .ref a478 :: .ref a479 :: .int x480 :: .ref a481 :: .int x482 :: []))) ∧ Kp p0 w610 w9 := ⟨_, _, rfl, hP, hD2, tw_sg (k := 2) (g2 := gset g613 p0 7 x633) (q2 := q120) hT hD hk612 (le241.up ht0) (fun _ hc => gset_ne hc) (fun _ _ => rfl) (show Sh2 Y Z T118 ((gset g613 p0 7 x633) p0) (q120 p0) j 0 _ from ⟨x433, a471, x524, a473, x578, a475, a476, x633, a478, a479, x480, a481, x482, rfl, by omega, ((gs_ne (by decide)).trans hg614), h485, h486, by omega, ((gs_ne (by decide)).trans hg615), h489, by omega, ((gs_ne (by decide)).trans hg616), h492, h493, h494, h495, by omega, gs_eq, h498, h499, by omega, ((gs_ne (by decide)).trans hg618), h502, by omega⟩), sw_eq hk612, sw_kp hk612⟩
      have hg666 : g665 p0 0 = x433 := by rw [eg665]; exact ((gs_ne (by decide)).trans hg614)
      have hg667 : g665 p0 2 = x524 := by rw [eg665]; exact ((gs_ne (by decide)).trans hg615)
      have hg668 : g665 p0 4 = x578 := by rw [eg665]; exact ((gs_ne (by decide)).trans hg616)
      have hg669 : g665 p0 7 = x633 := by rw [eg665]; exact gs_eq
      have hg670 : g665 p0 10 = x480 := by rw [eg665]; exact ((gs_ne (by decide)).trans hg618)
      have hg671 : g665 p1 0 = x626 := by rw [eg665, gset_ne (rne (le241.up ht1) (le241.up ht0) (by decide))]; exact h640
      have hg672 : g665 p1 2 = x628 := by rw [eg665, gset_ne (rne (le241.up ht1) (le241.up ht0) (by decide))]; exact h644
      have hg673 : g665 p1 4 = x630 := by rw [eg665, gset_ne (rne (le241.up ht1) (le241.up ht0) (by decide))]; exact h647
      have hg674 : g665 p1 7 = x633 := by rw [eg665, gset_ne (rne (le241.up ht1) (le241.up ht0) (by decide))]; exact h653
      have hg675 : g665 p1 10 = x636 := by rw [eg665, gset_ne (rne (le241.up ht1) (le241.up ht0) (by decide))]; exact h657
      have ke676 : KF 1 T ws w662 := KF.tr ke624 (KF.le (by decide) le241 (KF.kp kp663 (le241.up ht0) (by decide)))
      have ke677 : KF 6 T ws w662 := KF.tr ke625 (KF.le (by decide) le241 (KF.kp kp663 (le241.up ht0) (by decide)))
      refine lv_aload_n hx hb dX6_become_107 rfl (lv_at hl 1 rfl) ?_
      refine lv_aload_n hx hb dX6_become_108 rfl (lv_at hl 2 rfl) ?_
      obtain ⟨p712, _, hk713, x678, a679, x680, a681, x682, a683, a684, x685, a686, a687, x688, a689, x690, rfl, h691, h692, h693, h694, h695, h696, h697, h698, h699, h700, h701, h702, h703, h704, h705, h706, h707, h708, h709, h710, h711⟩ := op2 hT (le241.up ht1)
      refine va_get (D := D) (ci := 6) (v := .int x688) (C := RX6) (T := TX6) (N := 13) hx hb hg inGX6 hown hKN.1 hP p712 hk713 rfl 10 (by decide) (hg _ kw_64) (fun _ h9 => h9) rfl dX6_become_109 ?_
      refine va_put (D := D) (ci := 6) (v := .int x688) (ty := .int) (C := RX6) (T := TX6) (N := 13) hx hb hg inGX6 tyX6 tyX6_ok nmX6 hown hKN.1 hP hD hS p504 hk664 rfl 10 (by decide) (hg _ kw_64) (fun _ h9 => h9) rfl (by decide +kernel) rfl rfl (Nat.le_of_ble_eq_true rfl) dX6_become_112 (fun H locs hP hD2 hS => ?_)
      obtain ⟨w714, g717, eg717, hP, hD, hT, hk716, kp715⟩ : ∃ w9 g9, g9 = gset g665 p0 10 x688 ∧ va_P D vwCl w9 H ∧ va_D A w9 ∧ TW Y Z T118 g9 q120 w9 ∧ w9[p504]? = some (p0, .inr (6, (.int x433 :: .ref a471 :: .int x524 :: .ref a473 :: .int x578 :: .ref a475 :: .ref a476 :: .int x633 :: .ref a478 :: .ref a479 :: .int x688 :: .ref a481 :: .int x482 :: []))) ∧ Kp p0 w662 w9 := ⟨_, _, rfl, hP, hD2, tw_sg (k := 2) (g2 := gset g665 p0 10 x688) (q2 := q120) hT hD hk664 (le241.up ht0) (fun _ hc => gset_ne hc) (fun _ _ => rfl) (show Sh2 Y Z T118 ((gset g665 p0 10 x688) p0) (q120 p0) j 0 _ from ⟨x433, a471, x524, a473, x578, a475, a476, x633, a478, a479, x688, a481, x482, rfl, by omega, ((gs_ne (by decide)).trans hg666), h485, h486, by omega, ((gs_ne (by decide)).trans hg667), h489, by omega, ((gs_ne (by decide)).trans hg668), h492, h493, h494, h495, by omega, ((gs_ne (by decide)).trans hg669), h498, h499, by omega, gs_eq, h502, by omega⟩), sw_eq hk664, sw_kp hk664⟩
      have hg718 : g717 p0 0 = x433 := by rw [eg717]; exact ((gs_ne (by decide)).trans hg666)
      have hg719 : g717 p0 2 = x524 := by rw [eg717]; exact ((gs_ne (by decide)).trans hg667)
      have hg720 : g717 p0 4 = x578 := by rw [eg717]; exact ((gs_ne (by decide)).trans hg668)
      have hg721 : g717 p0 7 = x633 := by rw [eg717]; exact ((gs_ne (by decide)).trans hg669)
      have hg722 : g717 p0 10 = x688 := by rw [eg717]; exact gs_eq
      have hg723 : g717 p1 0 = x678 := by rw [eg717, gset_ne (rne (le241.up ht1) (le241.up ht0) (by decide))]; exact h692
      have hg724 : g717 p1 2 = x680 := by rw [eg717, gset_ne (rne (le241.up ht1) (le241.up ht0) (by decide))]; exact h696
      have hg725 : g717 p1 4 = x682 := by rw [eg717, gset_ne (rne (le241.up ht1) (le241.up ht0) (by decide))]; exact h699
      have hg726 : g717 p1 7 = x685 := by rw [eg717, gset_ne (rne (le241.up ht1) (le241.up ht0) (by decide))]; exact h705
      have hg727 : g717 p1 10 = x688 := by rw [eg717, gset_ne (rne (le241.up ht1) (le241.up ht0) (by decide))]; exact h709
      have ke728 : KF 1 T ws w714 := KF.tr ke676 (KF.le (by decide) le241 (KF.kp kp715 (le241.up ht0) (by decide)))
      have ke729 : KF 6 T ws w714 := KF.tr ke677 (KF.le (by decide) le241 (KF.kp kp715 (le241.up ht0) (by decide)))
      refine lv_aload_n hx hb dX6_become_115 rfl (lv_at hl 1 rfl) ?_
      refine lv_aload_n hx hb dX6_become_116 rfl (lv_at hl 2 rfl) ?_
      obtain ⟨p764, _, hk765, x730, a731, x732, a733, x734, a735, a736, x737, a738, a739, x740, a741, x742, rfl, h743, h744, h745, h746, h747, h748, h749, h750, h751, h752, h753, h754, h755, h756, h757, h758, h759, h760, h761, h762, h763⟩ := op2 hT (le241.up ht1)
      refine va_get (D := D) (ci := 6) (v := .int x742) (C := RX6) (T := TX6) (N := 13) hx hb hg inGX6 hown hKN.1 hP p764 hk765 rfl 12 (by decide) (hg _ kw_67) (fun _ h9 => h9) rfl dX6_become_117 ?_
      refine va_put (D := D) (ci := 6) (v := .int x742) (ty := .int) (C := RX6) (T := TX6) (N := 13) hx hb hg inGX6 tyX6 tyX6_ok nmX6 hown hKN.1 hP hD hS p504 hk716 rfl 12 (by decide) (hg _ kw_67) (fun _ h9 => h9) rfl (by decide +kernel) rfl rfl (Nat.le_of_ble_eq_true rfl) dX6_become_120 (fun H locs hP hD2 hS => ?_)
      obtain ⟨w766, hP, hD, hT, hk768, kp767⟩ : ∃ w9, va_P D vwCl w9 H ∧ va_D A w9 ∧ TW Y Z T118 g717 q120 w9 ∧ w9[p504]? = some (p0, .inr (6, (.int x433 :: .ref a471 :: .int x524 :: .ref a473 :: .int x578 :: .ref a475 :: .ref a476 :: .int x633 :: .ref a478 :: .ref a479 :: .int x688 :: .ref a481 :: .int x742 :: []))) ∧ Kp p0 w714 w9 := ⟨_, hP, hD2, st2 hT hD hk716 (le241.up ht0) ⟨x433, a471, x524, a473, x578, a475, a476, x633, a478, a479, x688, a481, x742, rfl, by omega, hg718, h485, h486, by omega, hg719, h489, by omega, hg720, h492, h493, h494, h495, by omega, hg721, h498, h499, by omega, hg722, h502, by omega⟩, sw_eq hk716, sw_kp hk716⟩
      have ke769 : KF 1 T ws w766 := KF.tr ke728 (KF.le (by decide) le241 (KF.kp kp767 (le241.up ht0) (by decide)))
      have ke770 : KF 6 T ws w766 := KF.tr ke729 (KF.le (by decide) le241 (KF.kp kp767 (le241.up ht0) (by decide)))
      refine lv_aload_n hx hb dX6_become_123 rfl (lv_at hl 2 rfl) ?_
      obtain ⟨p805, _, hk806, x771, a772, x773, a774, x775, a776, a777, x778, a779, a780, x781, a782, x783, rfl, h784, h785, h786, h787, h788, h789, h790, h791, h792, h793, h794, h795, h796, h797, h798, h799, h800, h801, h802, h803, h804⟩ := op2 hT (le241.up ht1)
      refine va_get (D := D) (ci := 6) (v := .ref a776) (C := RX6) (T := TX6) (N := 13) hx hb hg inGX6 hown hKN.1 hP p805 hk806 rfl 5 (by decide) (hg _ kw_49) (fun _ h9 => h9) rfl dX6_become_124 ?_
      refine lv_iconst (v := 0) hx hb dX6_become_127 (by decide) ?_
      refine lv_aload_n hx hb dX6_become_128 rfl (lv_at hl 1 rfl) ?_
      refine va_get (D := D) (ci := 6) (v := .ref a475) (C := RX6) (T := TX6) (N := 13) hx hb hg inGX6 hown hKN.1 hP p504 hk768 rfl 5 (by decide) (hg _ kw_49) (fun _ h9 => h9) rfl dX6_become_129 ?_
      refine lv_iconst (v := 0) hx hb dX6_become_132 (by decide) ?_
      refine lv_bipush (v := 12) hx hb dX6_become_133 (by decide) ?_
      have zi12 : (12 : Int32).toInt = 12 := by decide
      have zi0 : (0 : Int32).toInt = 0 := by decide
      refine tr_cp14 hx hb (hml.trans hl.1.symm) hown (hg _ kw_1197) (hg _ kw_520) (hg _ kw_519) (hg _ kw_13) hKN hP hD hS hT h793 h492 (by decide) (by decide) (by decide) (by decide) (by decide) (Nat.le_of_ble_eq_true rfl) (Nat.le_of_ble_eq_true rfl) dX6_become_135 (fun w807 H locs hP hD hS hT kp808 => ?_)
      have ke809 : KF 1 T ws w807 := KF.tr ke769 (KF.le (by decide) le241 (KF.kp kp808 h492 (by decide)))
      have ke810 : KF 6 T ws w807 := KF.tr ke770 (KF.le (by decide) le241 (KF.kp kp808 h492 (by decide)))
      have hk811 := kp808 _ _ hk768 (rne (le241.up ht0) h492 (by decide))
      have hk812 := kp808 _ _ hk806 (rne (le241.up ht1) h492 (by decide))
      obtain ⟨g813, eg813, hT⟩ : ∃ g9, g9 = gcpy g717 a776 a475 0 0 12 ∧ TW Y Z T118 g9 q120 w807 := ⟨_, rfl, hT⟩
      have hg814 : g813 p0 0 = x433 := by rw [eg813, gcpy_ne (rne (le241.up ht0) h492 (by decide))]; exact hg718
      have hg815 : g813 p0 2 = x524 := by rw [eg813, gcpy_ne (rne (le241.up ht0) h492 (by decide))]; exact hg719
      have hg816 : g813 p0 4 = x578 := by rw [eg813, gcpy_ne (rne (le241.up ht0) h492 (by decide))]; exact hg720
      have hg817 : g813 p0 7 = x633 := by rw [eg813, gcpy_ne (rne (le241.up ht0) h492 (by decide))]; exact hg721
      have hg818 : g813 p0 10 = x688 := by rw [eg813, gcpy_ne (rne (le241.up ht0) h492 (by decide))]; exact hg722
      have hg819 : g813 p1 0 = x771 := by rw [eg813, gcpy_ne (rne (le241.up ht1) h492 (by decide))]; exact h785
      have hg820 : g813 p1 2 = x773 := by rw [eg813, gcpy_ne (rne (le241.up ht1) h492 (by decide))]; exact h789
      have hg821 : g813 p1 4 = x775 := by rw [eg813, gcpy_ne (rne (le241.up ht1) h492 (by decide))]; exact h792
      have hg822 : g813 p1 7 = x778 := by rw [eg813, gcpy_ne (rne (le241.up ht1) h492 (by decide))]; exact h798
      have hg823 : g813 p1 10 = x781 := by rw [eg813, gcpy_ne (rne (le241.up ht1) h492 (by decide))]; exact h802
      refine lv_aload_n hx hb dX6_become_138 rfl (lv_at hl 2 rfl) ?_
      refine va_get (D := D) (ci := 6) (v := .ref a777) (C := RX6) (T := TX6) (N := 13) hx hb hg inGX6 hown hKN.1 hP p805 hk812 rfl 6 (by decide) (hg _ kw_51) (fun _ h9 => h9) rfl dX6_become_139 ?_
      refine lv_iconst (v := 0) hx hb dX6_become_142 (by decide) ?_
      refine lv_aload_n hx hb dX6_become_143 rfl (lv_at hl 1 rfl) ?_
      refine va_get (D := D) (ci := 6) (v := .ref a476) (C := RX6) (T := TX6) (N := 13) hx hb hg inGX6 hown hKN.1 hP p504 hk811 rfl 6 (by decide) (hg _ kw_51) (fun _ h9 => h9) rfl dX6_become_144 ?_
      refine lv_iconst (v := 0) hx hb dX6_become_147 (by decide) ?_
      refine lv_bipush (v := 12) hx hb dX6_become_148 (by decide) ?_
      refine tr_cp14 hx hb (hml.trans hl.1.symm) hown (hg _ kw_1197) (hg _ kw_520) (hg _ kw_519) (hg _ kw_13) hKN hP hD hS hT h795 h494 (by decide) (by decide) (by decide) (by decide) (by decide) (Nat.le_of_ble_eq_true rfl) (Nat.le_of_ble_eq_true rfl) dX6_become_150 (fun w824 H locs hP hD hS hT kp825 => ?_)
      have ke826 : KF 1 T ws w824 := KF.tr ke809 (KF.le (by decide) le241 (KF.kp kp825 h494 (by decide)))
      have ke827 : KF 6 T ws w824 := KF.tr ke810 (KF.le (by decide) le241 (KF.kp kp825 h494 (by decide)))
      have hk828 := kp825 _ _ hk811 (rne (le241.up ht0) h494 (by decide))
      have hk829 := kp825 _ _ hk812 (rne (le241.up ht1) h494 (by decide))
      obtain ⟨g830, eg830, hT⟩ : ∃ g9, g9 = gcpy g813 a777 a476 0 0 12 ∧ TW Y Z T118 g9 q120 w824 := ⟨_, rfl, hT⟩
      have hg831 : g830 p0 0 = x433 := by rw [eg830, gcpy_ne (rne (le241.up ht0) h494 (by decide))]; exact hg814
      have hg832 : g830 p0 2 = x524 := by rw [eg830, gcpy_ne (rne (le241.up ht0) h494 (by decide))]; exact hg815
      have hg833 : g830 p0 4 = x578 := by rw [eg830, gcpy_ne (rne (le241.up ht0) h494 (by decide))]; exact hg816
      have hg834 : g830 p0 7 = x633 := by rw [eg830, gcpy_ne (rne (le241.up ht0) h494 (by decide))]; exact hg817
      have hg835 : g830 p0 10 = x688 := by rw [eg830, gcpy_ne (rne (le241.up ht0) h494 (by decide))]; exact hg818
      have hg836 : g830 p1 0 = x771 := by rw [eg830, gcpy_ne (rne (le241.up ht1) h494 (by decide))]; exact hg819
      have hg837 : g830 p1 2 = x773 := by rw [eg830, gcpy_ne (rne (le241.up ht1) h494 (by decide))]; exact hg820
      have hg838 : g830 p1 4 = x775 := by rw [eg830, gcpy_ne (rne (le241.up ht1) h494 (by decide))]; exact hg821
      have hg839 : g830 p1 7 = x778 := by rw [eg830, gcpy_ne (rne (le241.up ht1) h494 (by decide))]; exact hg822
      have hg840 : g830 p1 10 = x781 := by rw [eg830, gcpy_ne (rne (le241.up ht1) h494 (by decide))]; exact hg823
      refine lv_aload_n hx hb dX6_become_153 rfl (lv_at hl 2 rfl) ?_
      refine va_get (D := D) (ci := 6) (v := .ref a779) (C := RX6) (T := TX6) (N := 13) hx hb hg inGX6 hown hKN.1 hP p805 hk829 rfl 8 (by decide) (hg _ kw_56) (fun _ h9 => h9) rfl dX6_become_154 ?_
      refine lv_iconst (v := 0) hx hb dX6_become_157 (by decide) ?_
      refine lv_aload_n hx hb dX6_become_158 rfl (lv_at hl 1 rfl) ?_
      refine va_get (D := D) (ci := 6) (v := .ref a478) (C := RX6) (T := TX6) (N := 13) hx hb hg inGX6 hown hKN.1 hP p504 hk828 rfl 8 (by decide) (hg _ kw_56) (fun _ h9 => h9) rfl dX6_become_159 ?_
      refine lv_iconst (v := 0) hx hb dX6_become_162 (by decide) ?_
      refine lv_bipush (v := 8) hx hb dX6_become_163 (by decide) ?_
      have zi8 : (8 : Int32).toInt = 8 := by decide
      refine tr_cp12 hx hb (hml.trans hl.1.symm) hown (hg _ kw_1197) (hg _ kw_520) (hg _ kw_519) (hg _ kw_13) hKN hP hD hS hT h799 h498 (by decide) (by decide) (by decide) (by decide) (by decide) (Nat.le_of_ble_eq_true rfl) (Nat.le_of_ble_eq_true rfl) dX6_become_165 (fun w841 H locs hP hD hS hT kp842 => ?_)
      have ke843 : KF 1 T ws w841 := KF.tr ke826 (KF.le (by decide) le241 (KF.kp kp842 h498 (by decide)))
      have ke844 : KF 6 T ws w841 := KF.tr ke827 (KF.le (by decide) le241 (KF.kp kp842 h498 (by decide)))
      have hk845 := kp842 _ _ hk828 (rne (le241.up ht0) h498 (by decide))
      have hk846 := kp842 _ _ hk829 (rne (le241.up ht1) h498 (by decide))
      refine lv_aload_n hx hb dX6_become_168 rfl (lv_at hl 2 rfl) ?_
      refine va_get (D := D) (ci := 6) (v := .ref a780) (C := RX6) (T := TX6) (N := 13) hx hb hg inGX6 hown hKN.1 hP p805 hk846 rfl 9 (by decide) (hg _ kw_59) (fun _ h9 => h9) rfl dX6_become_169 ?_
      refine lv_iconst (v := 0) hx hb dX6_become_172 (by decide) ?_
      refine lv_aload_n hx hb dX6_become_173 rfl (lv_at hl 1 rfl) ?_
      refine va_get (D := D) (ci := 6) (v := .ref a479) (C := RX6) (T := TX6) (N := 13) hx hb hg inGX6 hown hKN.1 hP p504 hk845 rfl 9 (by decide) (hg _ kw_59) (fun _ h9 => h9) rfl dX6_become_174 ?_
      refine lv_iconst (v := 0) hx hb dX6_become_177 (by decide) ?_
      refine lv_bipush (v := 8) hx hb dX6_become_178 (by decide) ?_
      refine tr_cp12 hx hb (hml.trans hl.1.symm) hown (hg _ kw_1197) (hg _ kw_520) (hg _ kw_519) (hg _ kw_13) hKN hP hD hS hT h800 h499 (by decide) (by decide) (by decide) (by decide) (by decide) (Nat.le_of_ble_eq_true rfl) (Nat.le_of_ble_eq_true rfl) dX6_become_180 (fun w847 H locs hP hD hS hT kp848 => ?_)
      have ke849 : KF 1 T ws w847 := KF.tr ke843 (KF.le (by decide) le241 (KF.kp kp848 h499 (by decide)))
      have ke850 : KF 6 T ws w847 := KF.tr ke844 (KF.le (by decide) le241 (KF.kp kp848 h499 (by decide)))
      have hk851 := kp848 _ _ hk845 (rne (le241.up ht0) h499 (by decide))
      have hk852 := kp848 _ _ hk846 (rne (le241.up ht1) h499 (by decide))
      refine lv_aload_n hx hb dX6_become_183 rfl (lv_at hl 2 rfl) ?_
      refine va_get (D := D) (ci := 6) (v := .ref a782) (C := RX6) (T := TX6) (N := 13) hx hb hg inGX6 hown hKN.1 hP p805 hk852 rfl 11 (by decide) (hg _ kw_65) (fun _ h9 => h9) rfl dX6_become_184 ?_
      refine lv_iconst (v := 0) hx hb dX6_become_187 (by decide) ?_
      refine lv_aload_n hx hb dX6_become_188 rfl (lv_at hl 1 rfl) ?_
      refine va_get (D := D) (ci := 6) (v := .ref a481) (C := RX6) (T := TX6) (N := 13) hx hb hg inGX6 hown hKN.1 hP p504 hk851 rfl 11 (by decide) (hg _ kw_65) (fun _ h9 => h9) rfl dX6_become_189 ?_
      refine lv_iconst (v := 0) hx hb dX6_become_192 (by decide) ?_
      refine lv_sipush (v := 400) hx hb dX6_become_193 (by decide) ?_
      have zi400 : (400 : Int32).toInt = 400 := by decide
      refine tr_cp16 hx hb (hml.trans hl.1.symm) hown (hg _ kw_1197) (hg _ kw_520) (hg _ kw_519) (hg _ kw_13) hKN hP hD hS hT h803 h502 (by decide) (by decide) (by decide) (by decide) (by decide) (Nat.le_of_ble_eq_true rfl) (Nat.le_of_ble_eq_true rfl) dX6_become_196 (fun w853 H locs hP hD hS hT kp854 => ?_)
      have ke855 : KF 1 T ws w853 := KF.tr ke849 (KF.le (by decide) le241 (KF.kp kp854 h502 (by decide)))
      have ke856 : KF 6 T ws w853 := KF.tr ke850 (KF.le (by decide) le241 (KF.kp kp854 h502 (by decide)))
      have hk857 := kp854 _ _ hk851 (rne (le241.up ht0) h502 (by decide))
      have hk858 := kp854 _ _ hk852 (rne (le241.up ht1) h502 (by decide))
      refine W.widen (k := 24) (n := 7248) (by omega) (by omega) ?_
      exact W.vret hx hb hr (fun t ht hW => ⟨⟨(w853, T118, g830, q120), rfl, ⟨le241, hT, ke855, ke856⟩, CB.mk ht hP hD⟩, hS.F ht⟩) hS.2.2 dX6_become_199
    · skip
      have c469 := i_nle (Eq.refl x435.toInt) (Eq.refl v336.toInt) c469
      refine lv_iload_n hx hb dX6_become_51 rfl (lv_at hl 0 rfl) ?_
      refine lv_bipush (v := 40) hx hb dX6_become_52 (by decide) ?_
      refine lv_icmp_ge (tgt := 75) hx hb dX6_become_54 (by decide) (fun c859 => ?_) (fun c859 => ?_)
      · have c859 := i_le (show (40 : Int32).toInt = 40 by decide) (Eq.refl v336.toInt) c859; exfalso; omega
      have c859 := i_nle (show (40 : Int32).toInt = 40 by decide) (Eq.refl v336.toInt) c859
      refine lv_aload_n hx hb dX6_become_57 rfl (lv_at hl 1 rfl) ?_
      obtain ⟨p894, _, hk895, x860, a861, x862, a863, x864, a865, a866, x867, a868, a869, x870, a871, x872, rfl, h873, h874, h875, h876, h877, h878, h879, h880, h881, h882, h883, h884, h885, h886, h887, h888, h889, h890, h891, h892, h893⟩ := op2 hT (le241.up ht0)
      refine va_get (D := D) (ci := 6) (v := .ref a863) (C := RX6) (T := TX6) (N := 13) hx hb hg inGX6 hown hKN.1 hP p894 hk895 rfl 3 (by decide) (hg _ kw_45) (fun _ h9 => h9) rfl dX6_become_58 ?_
      refine lv_iload_n hx hb dX6_become_61 rfl (lv_at hl 0 rfl) ?_
      refine lv_aload_n hx hb dX6_become_62 rfl (lv_at hl 2 rfl) ?_
      refine va_get (D := D) (ci := 6) (v := .ref a436) (C := RX6) (T := TX6) (N := 13) hx hb hg inGX6 hown hKN.1 hP p467 hk468 rfl 3 (by decide) (hg _ kw_45) (fun _ h9 => h9) rfl dX6_become_63 ?_
      refine lv_iload_n hx hb dX6_become_66 rfl (lv_at hl 0 rfl) ?_
      refine tr_ld18 hx hb hKN hP hT h452 (vp_in_iff.mpr ⟨by omega, by omega⟩) dX6_become_67 (fun r896 hr896 => ?_)
      refine W.eq (g2 := F0 m 68 ls [va_rf r896, .int v336, .ref a863]) rfl ?_
      rcases r896 with _ | b897
      · skip
        refine W.eq (g2 := F0 m 68 ls [.null, .int v336, .ref a863]) rfl ?_
        refine tr_st18N hx hb hKN hP hD hS hT h879 (vp_in_iff.mpr ⟨by omega, by omega⟩) dX6_become_68 (fun w898 H locs hP hD hS hT kp899 => ?_)
        have ke900 : KF 1 T ws w898 := KF.tr ke430 (KF.le (by decide) le241 (KF.kp kp899 h879 (by decide)))
        have ke901 : KF 6 T ws w898 := KF.tr ke431 (KF.le (by decide) le241 (KF.kp kp899 h879 (by decide)))
        have hk902 := kp899 _ _ hk468 (rne (le241.up ht1) h879 (by decide))
        have hk903 := kp899 _ _ hk895 (rne (le241.up ht0) h879 (by decide))
        obtain ⟨v904, ev904⟩ : ∃ y : Int32, y = v336 + 1 := ⟨_, rfl⟩
        have hv904 := i_add (Eq.refl v336.toInt) (show (1 : Int32).toInt = 1 by decide) ev904 (by omega) (by omega)
        refine lv_iinc (v := v904) (lv' := [(2, .int v904), (0, .ref p0), (1, .ref p1)]) hx hb dX6_become_69 hl (k := 0) rfl (by rw [ev904]; rfl) (by decide) rfl (fun ls hl => ?_)
        refine lv_goto (tgt := 43) hx hb dX6_become_72 (by decide) ?_
        exact ih432 (v904, w898) H locs ls (by show (40 - v904.toInt).toNat < (40 - v336.toInt).toNat; omega) ⟨hP, hD, hS, lv_sub hl [0, 1, 2] rfl, hT, ke900, ke901, by omega⟩
      · skip
        have ht905 := hr896 b897 rfl
        refine W.eq (g2 := F0 m 68 ls [.ref b897, .int v336, .ref a863]) rfl ?_
        refine tr_st18 hx hb hKN hP hD hS hT h879 ht905 (vp_in_iff.mpr ⟨by omega, by omega⟩) dX6_become_68 (fun w906 H locs hP hD hS hT kp907 => ?_)
        have ke908 : KF 1 T ws w906 := KF.tr ke430 (KF.le (by decide) le241 (KF.kp kp907 h879 (by decide)))
        have ke909 : KF 6 T ws w906 := KF.tr ke431 (KF.le (by decide) le241 (KF.kp kp907 h879 (by decide)))
        have hk910 := kp907 _ _ hk468 (rne (le241.up ht1) h879 (by decide))
        have hk911 := kp907 _ _ hk895 (rne (le241.up ht0) h879 (by decide))
        obtain ⟨v912, ev912⟩ : ∃ y : Int32, y = v336 + 1 := ⟨_, rfl⟩
        have hv912 := i_add (Eq.refl v336.toInt) (show (1 : Int32).toInt = 1 by decide) ev912 (by omega) (by omega)
        refine lv_iinc (v := v912) (lv' := [(2, .int v912), (0, .ref p0), (1, .ref p1)]) hx hb dX6_become_69 hl (k := 0) rfl (by rw [ev912]; rfl) (by decide) rfl (fun ls hl => ?_)
        refine lv_goto (tgt := 43) hx hb dX6_become_72 (by decide) ?_
        exact ih432 (v912, w906) H locs ls (by show (40 - v912.toInt).toNat < (40 - v336.toInt).toNat; omega) ⟨hP, hD, hS, lv_sub hl [0, 1, 2] rfl, hT, ke908, ke909, by omega⟩
  · skip
    have c282 := i_nle (Eq.refl x246.toInt) (Eq.refl v116.toInt) c282
    refine lv_iload_n hx hb dX6_become_10 rfl (lv_at hl 0 rfl) ?_
    refine lv_bipush (v := 12) hx hb dX6_become_11 (by decide) ?_
    refine lv_icmp_ge (tgt := 41) hx hb dX6_become_13 (by decide) (fun c913 => ?_) (fun c913 => ?_)
    · have c913 := i_le (show (12 : Int32).toInt = 12 by decide) (Eq.refl v116.toInt) c913; exfalso; omega
    have c913 := i_nle (show (12 : Int32).toInt = 12 by decide) (Eq.refl v116.toInt) c913
    refine lv_aload_n hx hb dX6_become_16 rfl (lv_at hl 2 rfl) ?_
    refine lv_iload_n hx hb dX6_become_17 rfl (lv_at hl 0 rfl) ?_
    refine cga (rn_V (As := [.int v116]) (rest := []) (b := p1) (x_X6_starAt l D Y Z H.size w117 T118 g119 q120 j2 p1 v116 hT (le241.up ht1)) ⟨hx, hb, hml, hown, hg⟩ lk_X6_58 ⟨CPC.blind, va_recv hKN.1 hP (ci := 6) (q0 := p280) rfl hk281, CPC.at hP hKN hD hSZ hS hA⟩ ⟨⟨rfl, rfl⟩, ⟨Nat.le_of_ble_eq_true rfl, Nat.le_of_ble_eq_true rfl⟩, ⟨by omega, by omega⟩⟩ hl.1 rfl (Nat.le_of_ble_eq_true rfl) dX6_become_18) hP hD hS hA (fun u914 H locs hw915 hP hD hS => ?_)
    obtain ⟨ht917, hw918⟩ : (∀ b, u914 = some b → T118 b = (3, j2, v116.toNatClampNeg)) ∧ (∀ b, u914 = some b → 0 ≤ v116.toInt ∧ v116.toInt ≤ 11) := hw915
    refine W.eq (g2 := F0 m 21 ls [va_rf u914]) rfl ?_
    rcases u914 with _ | b919
    · skip
      refine W.eq (g2 := F0 m 21 ls [.null]) rfl ?_
      refine lv_astore_nN (lv' := [(3, .null), (2, .int v116), (0, .ref p0), (1, .ref p1)]) hx hb dX6_become_21 rfl hl (by decide) rfl (fun ls hl => ?_)
      refine lv_aload_nN hx hb dX6_become_22 rfl (lv_at hl 0 rfl) ?_
      refine lv_ifnullN (tgt := 35) hx hb dX6_become_23 (by decide) ?_
      obtain ⟨v920, ev920⟩ : ∃ y : Int32, y = v116 + 1 := ⟨_, rfl⟩
      have hv920 := i_add (Eq.refl v116.toInt) (show (1 : Int32).toInt = 1 by decide) ev920 (by omega) (by omega)
      refine lv_iinc (v := v920) (lv' := [(2, .int v920), (3, .null), (0, .ref p0), (1, .ref p1)]) hx hb dX6_become_35 hl (k := 1) rfl (by rw [ev920]; rfl) (by decide) rfl (fun ls hl => ?_)
      refine lv_goto (tgt := 2) hx hb dX6_become_38 (by decide) ?_
      exact ih245 (v920, w117, T118, g119, q120) _ _ H locs ls (by show (12 - v920.toInt).toNat < (12 - v116.toInt).toNat; omega) (by show (bd238 + 0) + 2 * ((12 - v920.toInt).toNat) ≤ 0 + 2 * 12 ∧ (sd239 + 0) + 604 * ((12 - v920.toInt).toNat) ≤ 0 + 604 * 12; omega) ⟨hP, hD, hS, lv_sub hl [0, 2, 3] rfl, hT, le241, ke242, ke243, ge244, by omega⟩
    · skip
      have ht921 := ht917 b919 rfl
      have h922 := hw918 b919 rfl
      refine W.eq (g2 := F0 m 21 ls [.ref b919]) rfl ?_
      refine lv_astore_n (lv' := [(3, .ref b919), (2, .int v116), (0, .ref p0), (1, .ref p1)]) hx hb dX6_become_21 rfl hl (by decide) rfl (fun ls hl => ?_)
      refine lv_aload_n hx hb dX6_become_22 rfl (lv_at hl 0 rfl) ?_
      refine lv_ifnull hx hb dX6_become_23 ?_
      refine lv_aload_n hx hb dX6_become_26 rfl (lv_at hl 2 rfl) ?_
      refine lv_iload_n hx hb dX6_become_27 rfl (lv_at hl 1 rfl) ?_
      obtain ⟨p957, _, hk958, x923, a924, x925, a926, x927, a928, a929, x930, a931, a932, x933, a934, x935, rfl, h936, h937, h938, h939, h940, h941, h942, h943, h944, h945, h946, h947, h948, h949, h950, h951, h952, h953, h954, h955, h956⟩ := op2 hT (le241.up ht0)
      refine cga (rn_V (As := [.int v116]) (rest := []) (b := p0) (x_X6_placeFor l D Y Z H.size w117 T118 g119 q120 j p0 v116 hT (le241.up ht0) (show (0 ≤ v116.toInt ∧ v116.toInt ≤ 11) by omega)) ⟨hx, hb, hml, hown, hg⟩ lk_X6_68 ⟨CPC.blind, va_recv hKN.1 hP (ci := 6) (q0 := p957) rfl hk958, CPC.at hP hKN hD hSZ hS hA⟩ ⟨⟨rfl, rfl⟩, ⟨Nat.le_of_ble_eq_true rfl, Nat.le_of_ble_eq_true rfl⟩, ⟨by omega, by omega⟩⟩ hl.1 rfl (Nat.le_of_ble_eq_true rfl) dX6_become_28) hP hD hS hA (fun u959 H locs hw960 hP hD hS => ?_)
      refine W.widen (k := (bd238 + 2)) (n := (sd239 + 604)) (by omega) (by omega) ?_
      obtain ⟨b961, w962, T963, g964, q965⟩ := u959
      obtain ⟨le966, hT, ke967, ke968, ge969, ht970⟩ : TLe T118 T963 ∧ TW Y Z T963 g964 q965 w962 ∧ KF 1 T118 w117 w962 ∧ KF 6 T118 w117 w962 ∧ GE T118 g119 g964 ∧ T963 b961 = (3, j, v116.toNatClampNeg) := hw960
      have ke971 : KF 1 T ws w962 := KF.tr ke242 (KF.le (by decide) le241 ke967)
      have ke972 : KF 6 T ws w962 := KF.tr ke243 (KF.le (by decide) le241 ke968)
      have ge973 : GE T g g964 := GE.tr ge244 (GE.le le241 ge969)
      refine W.eq (g2 := F0 m 31 ls [.ref b961]) rfl ?_
      refine lv_aload_n hx hb dX6_become_31 rfl (lv_at hl 0 rfl) ?_
      obtain ⟨p980, _, hk981, x974, x975, x976, a977, rfl, h978, h979⟩ := op3 hT ht970
      refine cga (rn_NV (As := [.ref b919]) (rest := []) (b := b961) (x_X7_become l D Y Z H.size w962 T963 g964 q965 j v116.toNatClampNeg j2 v116.toNatClampNeg b961 b919 hT ht970 (le966.up ht921)) ⟨hx, hb, hml, hown, hg⟩ hKN lk_X6_99 ⟨CPC.blind, va_recv hKN.1 hP (ci := 7) (q0 := p980) rfl hk981, CPC.at hP hKN hD hSZ hS hA⟩ ⟨⟨rfl, rfl⟩, ⟨Nat.le_of_ble_eq_true rfl, Nat.le_of_ble_eq_true rfl⟩, ⟨by omega, by omega⟩⟩ hl.1 rfl (Nat.le_of_ble_eq_true rfl) dX6_become_32) hP hD hS hA (fun u982 H locs hw983 hP hD hS => ?_)
      obtain ⟨w984, g985⟩ := u982
      obtain ⟨hT, ke986, ke987, ge988⟩ : TW Y Z T963 g985 q965 w984 ∧ KF 1 T963 w962 w984 ∧ KF 6 T963 w962 w984 ∧ GE T963 g964 g985 := hw983
      have ke989 : KF 1 T ws w984 := KF.tr ke971 (KF.le (by decide) (le241.tr le966) ke986)
      have ke990 : KF 6 T ws w984 := KF.tr ke972 (KF.le (by decide) (le241.tr le966) ke987)
      have ge991 : GE T g g985 := GE.tr ge973 (GE.le (le241.tr le966) ge988)
      refine W.eq (g2 := F0 m 35 ls []) rfl ?_
      obtain ⟨v992, ev992⟩ : ∃ y : Int32, y = v116 + 1 := ⟨_, rfl⟩
      have hv992 := i_add (Eq.refl v116.toInt) (show (1 : Int32).toInt = 1 by decide) ev992 (by omega) (by omega)
      refine lv_iinc (v := v992) (lv' := [(2, .int v992), (3, .ref b919), (0, .ref p0), (1, .ref p1)]) hx hb dX6_become_35 hl (k := 1) rfl (by rw [ev992]; rfl) (by decide) rfl (fun ls hl => ?_)
      refine lv_goto (tgt := 2) hx hb dX6_become_38 (by decide) ?_
      exact ih245 (v992, w984, T963, g985, q965) _ _ H locs ls (by show (12 - v992.toInt).toNat < (12 - v116.toInt).toNat; omega) (by show (bd238 + 2) + 2 * ((12 - v992.toInt).toNat) ≤ 0 + 2 * 12 ∧ (sd239 + 604) + 604 * ((12 - v992.toInt).toNat) ≤ 0 + 604 * 12; omega) ⟨hP, hD, hS, lv_sub hl [0, 2, 3] rfl, hT, (le241.tr le966), ke989, ke990, ge991, by omega⟩
set_option maxHeartbeats 4000000 in
set_option maxRecDepth 100000 in
theorem x_X2_turnOver (l : Launch) (D : va_G) (Y : Nat → ClassId) (Z : Nat → Nat) (sz : Nat) (ws : va_W) (T : RT) (g : GN) (q : GQ)  (p0 : Nat) (p1 : Nat) (hT : TW Y Z T g q ws) (ht0 : T p0 = (9, 0, 0)) (ht1 : T p1 = (12, 600, 0)) : Met l yX2_turnOver (.code yX2_turnOver cX2_turnOver 3 none :: GW) ({ frames := 0, cells := 0, slots := 0, locals := 0 }) (va_Pc [.ref p0, .ref p1] (CPC D Y Z ws sz)) (QG (S := va_W) (fun _ => none) (fun u => TW Y Z T g q u ∧ KF 1 T ws u ∧ KF 6 T ws u) (fun u => CB D u (va_A ws sz)) (va_A ws sz)) 0 0 (va_A ws sz) := by
  refine Met.ofW (cc := cX2_turnOver) (maxL := 3) (ret := none) (by decide) rfl ?_
  intro p e s m args below meth c s₁ B hml hv
  obtain ⟨rfl, ⟨hsz, hP, hKN, hD0⟩, hSZ⟩ := hv
  have hx := B.exec
  have hb := B.bytes
  have hr := B.returns
  have hts := atoms_spec (ws := .code yX2_turnOver cX2_turnOver 3 none :: GW) B.pre
  have hg : ∀ w ∈ GW, w.before _ s = true := fun w h => hts w (List.mem_cons_of_mem _ h)
  have hown : s.vm.findClass RX2 = some m.cls := findClass_of_methodNamed B.named
  have hlocks := B.notSynchronized
  subst hsz
  have hD := hD0.self (sz := s.heap.size)
  generalize hAe : va_A ws s.heap.size = A at hD hSZ ⊢
  have hA : ∀ q : Nat, s.heap.size ≤ q → A q := fun q h => by rw [← hAe]; exact Or.inr h
  clear hAe hD0 hts B
  have hl := lv_entry ([.ref p0, .ref p1]) (n := 3) (Nat.le_of_ble_eq_true rfl)
  rw [lg_entry_eq]
  generalize (lg_sl ([.ref p0, .ref p1]) ++ List.replicate (3 - (lg_sl ([.ref p0, .ref p1])).length) Slot.unset).toArray = ls at hl ⊢
  have hl : lv_has ls 3 [(0, .ref p0), (1, .ref p1)] := hl
  refine w_start (A0 := A) hP (fun H locs hP hS => ?_)
  refine lv_iconst (v := 0) hx hb dX2_turnOver_0 (by decide) ?_
  refine lv_istore_n (lv' := [(2, .int 0), (0, .ref p0), (1, .ref p1)]) hx hb dX2_turnOver_1 rfl hl (by decide) rfl (fun ls hl => ?_)
  have zi0 : (0 : Int32).toInt = 0 := by decide
  refine w_loop (σ := Int32 × va_W) (fun xx H locs ls => match xx with | (v63, w64) => va_P D vwCl w64 H ∧ va_D A w64 ∧ va_S A s.heap H locs ∧ lv_has ls 3 [(2, .int v63), (0, .ref p0), (1, .ref p1)] ∧ TW Y Z T g q w64 ∧ KF 1 T ws w64 ∧ KF 6 T ws w64 ∧ (0 ≤ v63.toInt ∧ v63.toInt ≤ 600)) (fun xx => match xx with | (v63, w64) => (600 - v63.toInt).toNat) (0, ws) ⟨hP, hD, hS, lv_sub hl [0, 1, 2] rfl, hT, KF.rf, KF.rf, by omega⟩ (fun xx H locs ls hI ih => ?_)
  obtain ⟨v63, w64⟩ := xx
  obtain ⟨hP, hD, hS, hl, hT, ke130, ke131, hq129⟩ := hI
  have ih132 := ih
  refine lv_iload_n hx hb dX2_turnOver_2 rfl (lv_at hl 0 rfl) ?_
  refine lv_sipush (v := 600) hx hb dX2_turnOver_3 (by decide) ?_
  refine lv_icmp_ge (tgt := 38) hx hb dX2_turnOver_6 (by decide) (fun c165 => ?_) (fun c165 => ?_)
  · skip
    have c165 := i_le (show (600 : Int32).toInt = 600 by decide) (Eq.refl v63.toInt) c165
    refine W.widen (k := 0) (n := 0) (Nat.le_of_ble_eq_true rfl) (Nat.le_of_ble_eq_true rfl) ?_
    exact W.vret hx hb hr (fun t ht hW => ⟨⟨w64, rfl, ⟨hT, ke130, ke131⟩, CB.mk ht hP hD⟩, hS.F ht⟩) hS.2.2 dX2_turnOver_38
  · skip
    have c165 := i_nle (show (600 : Int32).toInt = 600 by decide) (Eq.refl v63.toInt) c165
    refine lv_aload_n hx hb dX2_turnOver_9 rfl (lv_at hl 1 rfl) ?_
    obtain ⟨p178, _, hk179, a166, a167, a168, x169, y170, y171, x172, y173, rfl, h174, h175, h176, h177⟩ := op9 hT ht0
    refine va_get (D := D) (ci := 2) (v := .ref a166) (C := RX2) (T := TX2) (N := 8) hx hb hg inGX2 hown hKN.1 hP p178 hk179 rfl 0 (by decide) (hg _ kw_232) (fun _ h9 => h9) rfl dX2_turnOver_10 ?_
    refine lv_iload_n hx hb dX2_turnOver_13 rfl (lv_at hl 0 rfl) ?_
    refine lv_aload_n hx hb dX2_turnOver_14 rfl (lv_at hl 2 rfl) ?_
    refine lv_iload_n hx hb dX2_turnOver_15 rfl (lv_at hl 0 rfl) ?_
    refine tr_ld12 hx hb hKN hP hT ht1 (vp_in_iff.mpr ⟨by omega, by omega⟩) dX2_turnOver_16 (fun v180 => ?_)
    refine lv_ldc (v := (-100000)) hx hb hown (hg _ kw_506) dX2_turnOver_17 ?_
    refine w_join (σ := Int32) (pcJ := 31) (kJ := 0) (nJ := 0) (stk := fun xx => match xx with | v185 => [.int v185, .int v63, .ref a166]) (fun xx H locs ls => match xx with | v185 => va_P D vwCl w64 H ∧ va_D A w64 ∧ va_S A s.heap H locs ∧ lv_has ls 3 [(2, .int v63), (0, .ref p0), (1, .ref p1)] ∧ TW Y Z T g q w64) (fun xx H locs ls hI => ?_) (fun jn186 => ?_)
    · skip
      revert hI
      generalize xx = v185
      intro hI
      obtain ⟨hP, hD, hS, hl, hT⟩ := hI
      refine W.eq (g2 := F0 m 31 ls [.int v185, .int v63, .ref a166]) rfl ?_
      refine tr_st12 hx hb hKN hP hD hS hT h174 (vp_in_iff.mpr ⟨by omega, by omega⟩) dX2_turnOver_31 (fun w187 H locs hP hD hS hT kp188 => ?_)
      have ke189 : KF 1 T ws w187 := KF.tr ke130 (KF.kp kp188 h174 (by decide))
      have ke190 : KF 6 T ws w187 := KF.tr ke131 (KF.kp kp188 h174 (by decide))
      have hk191 := kp188 _ _ hk179 (rne ht0 h174 (by decide))
      obtain ⟨v192, ev192⟩ : ∃ y : Int32, y = v63 + 1 := ⟨_, rfl⟩
      have hv192 := i_add (Eq.refl v63.toInt) (show (1 : Int32).toInt = 1 by decide) ev192 (by omega) (by omega)
      refine lv_iinc (v := v192) (lv' := [(2, .int v192), (0, .ref p0), (1, .ref p1)]) hx hb dX2_turnOver_32 hl (k := 0) rfl (by rw [ev192]; rfl) (by decide) rfl (fun ls hl => ?_)
      refine lv_goto (tgt := 2) hx hb dX2_turnOver_35 (by decide) ?_
      exact ih132 (v192, w187) H locs ls (by show (600 - v192.toInt).toNat < (600 - v63.toInt).toNat; omega) ⟨hP, hD, hS, lv_sub hl [0, 1, 2] rfl, hT, ke189, ke190, by omega⟩
    · skip
      have j193 := rgI v180
      refine lv_icmp_ne (tgt := 27) hx hb dX2_turnOver_19 (by decide) (fun c194 => ?_) (fun c194 => ?_)
      · skip
        have c194 := i_ne (Eq.refl v180.toInt) (show ((-100000) : Int32).toInt = -100000 by decide) c194
        refine lv_aload_n hx hb dX2_turnOver_27 rfl (lv_at hl 2 rfl) ?_
        refine lv_iload_n hx hb dX2_turnOver_28 rfl (lv_at hl 0 rfl) ?_
        refine tr_ld12 hx hb hKN hP hT ht1 (vp_in_iff.mpr ⟨by omega, by omega⟩) dX2_turnOver_29 (fun v195 => ?_)
        refine lv_ineg hx hb dX2_turnOver_30 ?_
        refine lv_topi (fun v196 ev196 => ?_)
        refine W.widen (k := 0) (n := 0) (Nat.le_of_ble_eq_true rfl) (Nat.le_of_ble_eq_true rfl) ?_
        exact jn186 (v196) H locs ls ⟨hP, hD, hS, lv_sub hl [0, 1, 2] rfl, hT⟩
      · skip
        have c194 := i_eq (Eq.refl v180.toInt) (show ((-100000) : Int32).toInt = -100000 by decide) c194
        refine lv_ldc (v := (-100000)) hx hb hown (hg _ kw_506) dX2_turnOver_22 ?_
        refine lv_goto (tgt := 31) hx hb dX2_turnOver_24 (by decide) ?_
        have zim100000 : ((-100000) : Int32).toInt = -100000 := by decide
        refine W.widen (k := 0) (n := 0) (Nat.le_of_ble_eq_true rfl) (Nat.le_of_ble_eq_true rfl) ?_
        exact jn186 ((-100000)) H locs ls ⟨hP, hD, hS, lv_sub hl [0, 1, 2] rfl, hT⟩
set_option maxHeartbeats 4000000 in
set_option maxRecDepth 100000 in
theorem x_X2_moveSeasons (l : Launch) (D : va_G) (Y : Nat → ClassId) (Z : Nat → Nat) (sz : Nat) (ws : va_W) (T : RT) (g : GN) (q : GQ)  (p0 : Nat) (p1 : Nat) (p2 : Int32) (hT : TW Y Z T g q ws) (ht0 : T p0 = (9, 0, 0)) (ht1 : T p1 = (12, 600, 0)) : Met l yX2_moveSeasons (.code yX2_moveSeasons cX2_moveSeasons 5 none :: GW) ({ frames := 1, cells := 0, slots := 0, locals := 40 }) (va_Pc [.ref p0, .ref p1, .int p2] (CPC D Y Z ws sz)) (QG (S := va_W) (fun _ => none) (fun u => TW Y Z T g q u ∧ KF 1 T ws u ∧ KF 6 T ws u) (fun u => CB D u (va_A ws sz)) (va_A ws sz)) 0 0 (va_A ws sz) := by
  refine Met.ofW (cc := cX2_moveSeasons) (maxL := 5) (ret := none) (by decide) rfl ?_
  intro p e s m args below meth c s₁ B hml hv
  obtain ⟨rfl, ⟨hsz, hP, hKN, hD0⟩, hSZ⟩ := hv
  have hx := B.exec
  have hb := B.bytes
  have hr := B.returns
  have hts := atoms_spec (ws := .code yX2_moveSeasons cX2_moveSeasons 5 none :: GW) B.pre
  have hg : ∀ w ∈ GW, w.before _ s = true := fun w h => hts w (List.mem_cons_of_mem _ h)
  have hown : s.vm.findClass RX2 = some m.cls := findClass_of_methodNamed B.named
  have hlocks := B.notSynchronized
  subst hsz
  have hD := hD0.self (sz := s.heap.size)
  generalize hAe : va_A ws s.heap.size = A at hD hSZ ⊢
  have hA : ∀ q : Nat, s.heap.size ≤ q → A q := fun q h => by rw [← hAe]; exact Or.inr h
  clear hAe hD0 hts B
  have hl := lv_entry ([.ref p0, .ref p1, .int p2]) (n := 5) (Nat.le_of_ble_eq_true rfl)
  rw [lg_entry_eq]
  generalize (lg_sl ([.ref p0, .ref p1, .int p2]) ++ List.replicate (5 - (lg_sl ([.ref p0, .ref p1, .int p2])).length) Slot.unset).toArray = ls at hl ⊢
  have hl : lv_has ls 5 [(0, .ref p0), (1, .ref p1), (2, .int p2)] := hl
  refine w_start (A0 := A) hP (fun H locs hP hS => ?_)
  refine lv_iconst (v := 0) hx hb dX2_moveSeasons_0 (by decide) ?_
  refine lv_istore_n (lv' := [(3, .int 0), (0, .ref p0), (1, .ref p1), (2, .int p2)]) hx hb dX2_moveSeasons_1 rfl hl (by decide) rfl (fun ls hl => ?_)
  have zi0 : (0 : Int32).toInt = 0 := by decide
  refine w_loop (σ := Int32 × va_W) (fun xx H locs ls => match xx with | (v117, w118) => va_P D vwCl w118 H ∧ va_D A w118 ∧ va_S A s.heap H locs ∧ lv_has ls 5 [(3, .int v117), (0, .ref p0), (1, .ref p1), (2, .int p2)] ∧ TW Y Z T g q w118 ∧ KF 1 T ws w118 ∧ KF 6 T ws w118 ∧ (0 ≤ v117.toInt ∧ v117.toInt ≤ 4)) (fun xx => match xx with | (v117, w118) => (4 - v117.toInt).toNat) (0, ws) ⟨hP, hD, hS, lv_sub hl [0, 1, 2, 3] rfl, hT, KF.rf, KF.rf, by omega⟩ (fun xx H locs ls hI ih => ?_)
  obtain ⟨v117, w118⟩ := xx
  obtain ⟨hP, hD, hS, hl, hT, ke236, ke237, hq235⟩ := hI
  have ih238 := ih
  refine lv_iload_n hx hb dX2_moveSeasons_2 rfl (lv_at hl 0 rfl) ?_
  refine lv_iconst (v := 4) hx hb dX2_moveSeasons_3 (by decide) ?_
  refine lv_icmp_ge (tgt := 60) hx hb dX2_moveSeasons_4 (by decide) (fun c297 => ?_) (fun c297 => ?_)
  · skip
    have c297 := i_le (show (4 : Int32).toInt = 4 by decide) (Eq.refl v117.toInt) c297
    refine W.widen (k := 0) (n := 0) (Nat.le_of_ble_eq_true rfl) (Nat.le_of_ble_eq_true rfl) ?_
    exact W.vret hx hb hr (fun t ht hW => ⟨⟨w118, rfl, ⟨hT, ke236, ke237⟩, CB.mk ht hP hD⟩, hS.F ht⟩) hS.2.2 dX2_moveSeasons_60
  · skip
    have c297 := i_nle (show (4 : Int32).toInt = 4 by decide) (Eq.refl v117.toInt) c297
    refine lv_iload_n hx hb dX2_moveSeasons_7 rfl (lv_at hl 3 rfl) ?_
    refine lv_iconst (v := 4) hx hb dX2_moveSeasons_8 (by decide) ?_
    refine lv_imul hx hb dX2_moveSeasons_9 ?_
    refine lv_topi (fun v298 ev298 => ?_)
    refine lv_iload_n hx hb dX2_moveSeasons_10 rfl (lv_at hl 0 rfl) ?_
    refine lv_iadd hx hb dX2_moveSeasons_11 ?_
    refine lv_topi (fun v299 ev299 => ?_)
    refine lv_istore (lv' := [(4, .int v299), (3, .int v117), (0, .ref p0), (1, .ref p1), (2, .int p2)]) hx hb dX2_moveSeasons_12 hl (by decide) rfl (fun ls hl => ?_)
    refine lv_iload hx hb dX2_moveSeasons_14 (lv_at hl 0 rfl) ?_
    refine w_join (σ := va_W) (pcJ := 54) (kJ := 0) (nJ := 0) (stk := fun xx => match xx with | w325 => []) (fun xx H locs ls => match xx with | w325 => va_P D vwCl w325 H ∧ va_D A w325 ∧ va_S A s.heap H locs ∧ lv_has ls 5 [(4, .int v299), (3, .int v117), (0, .ref p0), (1, .ref p1), (2, .int p2)] ∧ TW Y Z T g q w325 ∧ KF 1 T ws w325 ∧ KF 6 T ws w325) (fun xx H locs ls hI => ?_) (fun jn326 => ?_)
    · skip
      revert hI
      generalize xx = w325
      intro hI
      obtain ⟨hP, hD, hS, hl, hT, ke327, ke328⟩ := hI
      refine W.eq (g2 := F0 m 54 ls []) rfl ?_
      obtain ⟨v329, ev329⟩ : ∃ y : Int32, y = v117 + 1 := ⟨_, rfl⟩
      have hv329 := i_add (Eq.refl v117.toInt) (show (1 : Int32).toInt = 1 by decide) ev329 (by omega) (by omega)
      refine lv_iinc (v := v329) (lv' := [(3, .int v329), (4, .int v299), (0, .ref p0), (1, .ref p1), (2, .int p2)]) hx hb dX2_moveSeasons_54 hl (k := 1) rfl (by rw [ev329]; rfl) (by decide) rfl (fun ls hl => ?_)
      refine lv_goto (tgt := 2) hx hb dX2_moveSeasons_57 (by decide) ?_
      exact ih238 (v329, w325) H locs ls (by show (4 - v329.toInt).toNat < (4 - v117.toInt).toNat; omega) ⟨hP, hD, hS, lv_sub hl [0, 2, 3, 4] rfl, hT, ke327, ke328, by omega⟩
    · skip
      have j330 := rgI v299
      refine lv_if_lt (tgt := 54) hx hb dX2_moveSeasons_16 (by decide) (fun c331 => ?_) (fun c331 => ?_)
      · skip
        have c331 := i_lt (Eq.refl v299.toInt) (show (0 : Int32).toInt = 0 by decide) c331
        refine W.widen (k := 0) (n := 0) (Nat.le_of_ble_eq_true rfl) (Nat.le_of_ble_eq_true rfl) ?_
        exact jn326 (w118) H locs ls ⟨hP, hD, hS, lv_sub hl [0, 1, 2, 3, 4] rfl, hT, ke236, ke237⟩
      · skip
        have c331 := i_nlt (Eq.refl v299.toInt) (show (0 : Int32).toInt = 0 by decide) c331
        refine lv_iload hx hb dX2_moveSeasons_19 (lv_at hl 0 rfl) ?_
        refine va_getsN hx hb hSZ.1.1 hS hown (va_Nw.use rfl (hKN.2.1 _ kn_516 rfl)) (fun _ h9 => h9) dX2_moveSeasons_21 ?_
        refine va_tlen (v := 96) hx hb hSZ.1.2 hS rfl dX2_moveSeasons_24 ?_
        refine lv_icmp_ge (tgt := 54) hx hb dX2_moveSeasons_25 (by decide) (fun c332 => ?_) (fun c332 => ?_)
        · skip
          have c332 := i_le (show (96 : Int32).toInt = 96 by decide) (Eq.refl v299.toInt) c332
          refine W.widen (k := 0) (n := 0) (Nat.le_of_ble_eq_true rfl) (Nat.le_of_ble_eq_true rfl) ?_
          exact jn326 (w118) H locs ls ⟨hP, hD, hS, lv_sub hl [0, 1, 2, 3, 4] rfl, hT, ke236, ke237⟩
        · skip
          have c332 := i_nle (show (96 : Int32).toInt = 96 by decide) (Eq.refl v299.toInt) c332
          refine lv_aload_n hx hb dX2_moveSeasons_28 rfl (lv_at hl 3 rfl) ?_
          refine va_getsN hx hb hSZ.1.1 hS hown (va_Nw.use rfl (hKN.2.1 _ kn_516 rfl)) (fun _ h9 => h9) dX2_moveSeasons_29 ?_
          refine lv_iload hx hb dX2_moveSeasons_32 (lv_at hl 0 rfl) ?_
          refine va_ti (v := .int (ORD.getD v299.toNatClampNeg 0)) hx hb hSZ.1.2 hS (vp_in_iff.mpr ⟨by omega, by omega⟩) rfl dX2_moveSeasons_34 ?_
          refine lv_topi (fun v333 ev333 => ?_)
          have hv333 := ORD_rg ev333
          refine lv_sipush (v := 150) hx hb dX2_moveSeasons_35 (by decide) ?_
          refine lv_imul hx hb dX2_moveSeasons_38 ?_
          refine lv_topi (fun v334 ev334 => ?_)
          have hv334 := i_mul (Eq.refl v333.toInt) (show (150 : Int32).toInt = 150 by decide) ev334 (by omega) (by omega)
          refine lv_aload_n hx hb dX2_moveSeasons_39 rfl (lv_at hl 2 rfl) ?_
          obtain ⟨p347, _, hk348, a335, a336, a337, x338, y339, y340, x341, y342, rfl, h343, h344, h345, h346⟩ := op9 hT ht0
          refine va_get (D := D) (ci := 2) (v := .ref a335) (C := RX2) (T := TX2) (N := 8) hx hb hg inGX2 hown hKN.1 hP p347 hk348 rfl 0 (by decide) (hg _ kw_232) (fun _ h9 => h9) rfl dX2_moveSeasons_40 ?_
          refine lv_iload_n hx hb dX2_moveSeasons_43 rfl (lv_at hl 1 rfl) ?_
          refine lv_sipush (v := 150) hx hb dX2_moveSeasons_44 (by decide) ?_
          refine lv_imul hx hb dX2_moveSeasons_47 ?_
          refine lv_topi (fun v349 ev349 => ?_)
          have hv349 := i_mul (Eq.refl v117.toInt) (show (150 : Int32).toInt = 150 by decide) ev349 (by omega) (by omega)
          refine lv_sipush (v := 150) hx hb dX2_moveSeasons_48 (by decide) ?_
          have zi150 : (150 : Int32).toInt = 150 := by decide
          refine tr_cp12 hx hb (hml.trans hl.1.symm) hown (hg _ kw_518) (hg _ kw_520) (hg _ kw_519) (hg _ kw_13) hKN hP hD hS hT ht1 h343 (fun h9 => absurd (i_lt (Eq.refl _) (show (0 : Int32).toInt = 0 by decide) h9) (by omega)) (fun h9 => absurd (i_lt (Eq.refl _) (show (0 : Int32).toInt = 0 by decide) h9) (by omega)) (by decide) (by have cv334 := clampI (x := v334) (by omega); have c150 : (150 : Int32).toNatClampNeg = 150 := by decide; omega) (by have cv349 := clampI (x := v349) (by omega); have c150 : (150 : Int32).toNatClampNeg = 150 := by decide; omega) (Nat.le_of_ble_eq_true rfl) (Nat.le_of_ble_eq_true rfl) dX2_moveSeasons_51 (fun w350 H locs hP hD hS hT kp351 => ?_)
          have ke352 : KF 1 T ws w350 := KF.tr ke236 (KF.kp kp351 h343 (by decide))
          have ke353 : KF 6 T ws w350 := KF.tr ke237 (KF.kp kp351 h343 (by decide))
          have hk354 := kp351 _ _ hk348 (rne ht0 h343 (by decide))
          refine W.widen (k := 0) (n := 0) (Nat.le_of_ble_eq_true rfl) (Nat.le_of_ble_eq_true rfl) ?_
          exact jn326 (w350) H locs ls ⟨hP, hD, hS, lv_sub hl [0, 1, 2, 3, 4] rfl, hT, ke352, ke353⟩
