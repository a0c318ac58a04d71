set_option maxHeartbeats 4000000 in
set_option maxRecDepth 100000 in
theorem x_starAtS (l : Launch) (D : va_G) (Y : Nat → ClassId) (Z : Nat → Nat) (sz : Nat) (ws : va_W) (T : RT) (g : GN) (q : GQ) (j : Nat) (p0 : Nat) (p1 : Int32) (hT : TW Y Z T g q ws) (ht0 : T p0 = (2, j, 0)) : Met l yX6_starAt (.code yX6_starAt cX6_starAt 2 (some (.object "DimStars$Star")) :: GW) ({ frames := 0, cells := 0, slots := 0, locals := 0 }) (va_Pc [.ref p0, .int p1] (CPC D Y Z ws sz)) (QG (S := (Option Nat)) (fun u => some (va_rf u)) (fun u => (∀ b, u = some b → T b = (3, j, p1.toNatClampNeg)) ∧ (∀ sr, q p0 1 = some sr → SAT g q p0 sr p1 u) ∧ (∀ b, u = some b → 0 ≤ p1.toInt ∧ p1.toInt ≤ 11)) (fun u => CB D ws (va_A ws sz)) (va_A ws sz)) 0 0 (va_A ws sz) := by
  refine Met.ofW (cc := cX6_starAt) (maxL := 2) (ret := (some (.object "DimStars$Star"))) (by decide) rfl ?_
  intro p e s m args below meth c s₁ B hml hv
  obtain ⟨rfl, ⟨hsz, hP, hKN, hD0⟩, hSZ⟩ := hv
  have hx := B.exec
  have hb := B.bytes
  have hr := B.returns
  have hts := atoms_spec (ws := .code yX6_starAt cX6_starAt 2 (some (.object "DimStars$Star")) :: GW) B.pre
  have hg : ∀ w ∈ GW, w.before _ s = true := fun w h => hts w (List.mem_cons_of_mem _ h)
  have hown : s.vm.findClass RX6 = some m.cls := findClass_of_methodNamed B.named
  have hlocks := B.notSynchronized
  subst hsz
  have hD := hD0.self (sz := s.heap.size)
  generalize hAe : va_A ws s.heap.size = A at hD hSZ ⊢
  have hA : ∀ q : Nat, s.heap.size ≤ q → A q := fun q h => by rw [← hAe]; exact Or.inr h
  clear hAe hD0 hts B
  have hl := lv_entry ([.ref p0, .int p1]) (n := 2) (Nat.le_of_ble_eq_true rfl)
  rw [lg_entry_eq]
  generalize (lg_sl ([.ref p0, .int p1]) ++ List.replicate (2 - (lg_sl ([.ref p0, .int p1])).length) Slot.unset).toArray = ls at hl ⊢
  have hl : lv_has ls 2 [(0, .ref p0), (1, .int p1)] := hl
  refine w_start (A0 := A) hP (fun H locs hP hS => ?_)
  refine ok2 hT ht0 (fun p35 x1 a2 x3 a4 x5 a6 a7 x8 a9 a10 x11 a12 x13 hk36 h14 h15 h16 h17 h18 h19 h20 h21 h22 h23 h24 h25 h26 h27 h28 h29 h30 h31 h32 h33 h34 => ?_)
  refine lv_iload_n hx hb dX6_starAt_0 rfl (lv_at hl 1 rfl) ?_
  have j37 := rgI p1
  refine lv_if_lt (tgt := 27) hx hb dX6_starAt_1 (by decide) (fun c38 => ?_) (fun c38 => ?_)
  · skip
    have c38 := i_lt (Eq.refl p1.toInt) (show (0 : Int32).toInt = 0 by decide) c38
    refine lv_null hx hb dX6_starAt_27 ?_
    refine W.widen (k := 0) (n := 0) (Nat.le_of_ble_eq_true rfl) (Nat.le_of_ble_eq_true rfl) ?_
    exact W.aret (v := .null) hx hb hr (Or.inl ⟨_, rfl⟩) (Or.inl rfl) (fun t ht hW => ⟨⟨none, rfl, ⟨(fun b h => by cases h), (show ∀ sr, q p0 1 = some sr → SAT g q p0 sr p1 none from (fun sr hs => by obtain rfl : sr = a2 := Option.some.inj (hs.symm.trans h17); exact ⟨fun h9 => absurd h9 (by rw [h15]; omega), fun _ => rfl⟩)), (show ∀ b, none = some b → 0 ≤ p1.toInt ∧ p1.toInt ≤ 11 from (fun b h => by cases h))⟩, CB.mk ht hP hD⟩, hS.F ht⟩) hS.2.2 dX6_starAt_28
  · skip
    have c38 := i_nlt (Eq.refl p1.toInt) (show (0 : Int32).toInt = 0 by decide) c38
    refine lv_iload_n hx hb dX6_starAt_4 rfl (lv_at hl 1 rfl) ?_
    refine lv_aload_n hx hb dX6_starAt_5 rfl (lv_at hl 0 rfl) ?_
    refine va_get (D := D) (ci := 6) (v := .int x1) (C := RX6) (T := TX6) (N := 13) hx hb hg inGX6 hown hKN.1 hP p35 hk36 rfl 0 (by decide) (hg _ kw_39) (fun _ h9 => h9) rfl dX6_starAt_6 ?_
    refine lv_icmp_ge (tgt := 27) hx hb dX6_starAt_9 (by decide) (fun c39 => ?_) (fun c39 => ?_)
    · skip
      have c39 := i_le (Eq.refl x1.toInt) (Eq.refl p1.toInt) c39
      refine lv_null hx hb dX6_starAt_27 ?_
      refine W.widen (k := 0) (n := 0) (Nat.le_of_ble_eq_true rfl) (Nat.le_of_ble_eq_true rfl) ?_
      exact W.aret (v := .null) hx hb hr (Or.inl ⟨_, rfl⟩) (Or.inl rfl) (fun t ht hW => ⟨⟨none, rfl, ⟨(fun b h => by cases h), (show ∀ sr, q p0 1 = some sr → SAT g q p0 sr p1 none from (fun sr hs => by obtain rfl : sr = a2 := Option.some.inj (hs.symm.trans h17); exact ⟨fun h9 => absurd h9 (by rw [h15]; omega), fun _ => rfl⟩)), (show ∀ b, none = some b → 0 ≤ p1.toInt ∧ p1.toInt ≤ 11 from (fun b h => by cases h))⟩, CB.mk ht hP hD⟩, hS.F ht⟩) hS.2.2 dX6_starAt_28
    · skip
      have c39 := i_nle (Eq.refl x1.toInt) (Eq.refl p1.toInt) c39
      refine lv_iload_n hx hb dX6_starAt_12 rfl (lv_at hl 1 rfl) ?_
      refine lv_bipush (v := 12) hx hb dX6_starAt_13 (by decide) ?_
      refine lv_icmp_ge (tgt := 27) hx hb dX6_starAt_15 (by decide) (fun c40 => ?_) (fun c40 => ?_)
      · have c40 := i_le (show (12 : Int32).toInt = 12 by decide) (Eq.refl p1.toInt) c40; exfalso; omega
      have c40 := i_nle (show (12 : Int32).toInt = 12 by decide) (Eq.refl p1.toInt) c40
      refine lv_aload_n hx hb dX6_starAt_18 rfl (lv_at hl 0 rfl) ?_
      refine va_get (D := D) (ci := 6) (v := .ref a2) (C := RX6) (T := TX6) (N := 13) hx hb hg inGX6 hown hKN.1 hP p35 hk36 rfl 1 (by decide) (hg _ kw_42) (fun _ h9 => h9) rfl dX6_starAt_19 ?_
      refine lv_iload_n hx hb dX6_starAt_22 rfl (lv_at hl 1 rfl) ?_
      refine tr_ld17 hx hb hKN hP hT h16 (vp_in_iff.mpr ⟨by omega, by omega⟩) dX6_starAt_23 (fun r41 hr41 qr41 => ?_)
      refine W.eq (g2 := F0 m 24 ls [va_rf r41]) rfl ?_
      refine lv_goto (tgt := 28) hx hb dX6_starAt_24 (by decide) ?_
      refine W.widen (k := 0) (n := 0) (Nat.le_of_ble_eq_true rfl) (Nat.le_of_ble_eq_true rfl) ?_
      exact W.aret (v := va_rf r41) hx hb hr (Or.inl ⟨_, rfl⟩) (rf_or _) (fun t ht hW => ⟨⟨r41, rfl, ⟨(fun b hb => (hr41 b hb)), (show ∀ sr, q p0 1 = some sr → SAT g q p0 sr p1 r41 from (fun sr hs => by obtain rfl : sr = a2 := Option.some.inj (hs.symm.trans h17); exact ⟨fun _ => qr41, fun h9 => absurd (by rw [h15]; omega) h9⟩)), (show ∀ b, r41 = some b → 0 ≤ p1.toInt ∧ p1.toInt ≤ 11 from (fun b h => ⟨by omega, by omega⟩))⟩, CB.mk ht hP hD⟩, hS.F ht⟩) hS.2.2 dX6_starAt_28
set_option maxHeartbeats 4000000 in
set_option maxRecDepth 100000 in
theorem x_placeForS (l : Launch) (D : va_G) (Y : Nat → ClassId) (Z : Nat → Nat) (sz : Nat) (ws : va_W) (T : RT) (g : GN) (q : GQ) (j : Nat) (p0 : Nat) (p1 : Int32) (hT : TW Y Z T g q ws) (ht0 : T p0 = (2, j, 0)) (hp0 : (0 ≤ p1.toInt ∧ p1.toInt ≤ 11)) : Met l yX6_placeFor (.code yX6_placeFor cX6_placeFor 3 (some (.object "DimStars$Star")) :: GW) ({ frames := 2, cells := 2, slots := 604, locals := 40 }) (va_Pc [.ref p0, .int p1] (CPC D Y Z ws sz)) (QG (S := Nat × va_W × RT × GN × GQ) (fun u => some (.ref u.1)) (fun u => TLe T u.2.2.1 ∧ TW Y Z u.2.2.1 u.2.2.2.1 u.2.2.2.2 u.2.1 ∧ KF 1 T ws u.2.1 ∧ KF 6 T ws u.2.1 ∧ GE T g u.2.2.2.1 ∧ GJ T j g u.2.2.2.1 ∧ QJ T j q u.2.2.2.2 ∧ u.2.2.1 u.1 = (3, j, p1.toNatClampNeg) ∧ (∀ sr, q p0 1 = some sr → PLF T g u.2.2.2.1 q u.2.2.2.2 sr p1.toNatClampNeg u.1)) (fun u => CB D u.2.1 (va_A ws sz)) (va_A ws sz)) 2 604 (va_A ws sz) := by
  refine Met.ofW (cc := cX6_placeFor) (maxL := 3) (ret := (some (.object "DimStars$Star"))) (by decide) rfl ?_
  intro p e s m args below meth c s₁ B hml hv
  obtain ⟨rfl, ⟨hsz, hP, hKN, hD0⟩, hSZ⟩ := hv
  have hx := B.exec
  have hb := B.bytes
  have hr := B.returns
  have hts := atoms_spec (ws := .code yX6_placeFor cX6_placeFor 3 (some (.object "DimStars$Star")) :: GW) B.pre
  have hg : ∀ w ∈ GW, w.before _ s = true := fun w h => hts w (List.mem_cons_of_mem _ h)
  have hown : s.vm.findClass RX6 = some m.cls := findClass_of_methodNamed B.named
  have hlocks := B.notSynchronized
  subst hsz
  have hD := hD0.self (sz := s.heap.size)
  generalize hAe : va_A ws s.heap.size = A at hD hSZ ⊢
  have hA : ∀ q : Nat, s.heap.size ≤ q → A q := fun q h => by rw [← hAe]; exact Or.inr h
  clear hAe hD0 hts B
  have hl := lv_entry ([.ref p0, .int p1]) (n := 3) (Nat.le_of_ble_eq_true rfl)
  rw [lg_entry_eq]
  generalize (lg_sl ([.ref p0, .int p1]) ++ List.replicate (3 - (lg_sl ([.ref p0, .int p1])).length) Slot.unset).toArray = ls at hl ⊢
  have hl : lv_has ls 3 [(0, .ref p0), (1, .int p1)] := hl
  refine w_start (A0 := A) hP (fun H locs hP hS => ?_)
  refine ok2 hT ht0 (fun p35 x1 a2 x3 a4 x5 a6 a7 x8 a9 a10 x11 a12 x13 hk36 h14 h15 h16 h17 h18 h19 h20 h21 h22 h23 h24 h25 h26 h27 h28 h29 h30 h31 h32 h33 h34 => ?_)
  refine lv_aload_n hx hb dX6_placeFor_0 rfl (lv_at hl 0 rfl) ?_
  refine va_get (D := D) (ci := 6) (v := .ref a2) (C := RX6) (T := TX6) (N := 13) hx hb hg inGX6 hown hKN.1 hP p35 hk36 rfl 1 (by decide) (hg _ kw_42) (fun _ h9 => h9) rfl dX6_placeFor_1 ?_
  refine lv_iload_n hx hb dX6_placeFor_4 rfl (lv_at hl 1 rfl) ?_
  refine tr_ld17 hx hb hKN hP hT h16 (vp_in_iff.mpr ⟨by omega, by omega⟩) dX6_placeFor_5 (fun r37 hr37 qr37 => ?_)
  refine W.eq (g2 := F0 m 6 ls [va_rf r37]) rfl ?_
  rcases r37 with _ | b38
  · skip
    refine W.eq (g2 := F0 m 6 ls [.null]) rfl ?_
    refine lv_astore_nN (lv' := [(2, .null), (0, .ref p0), (1, .int p1)]) hx hb dX6_placeFor_6 rfl hl (by decide) rfl (fun ls hl => ?_)
    refine lv_aload_nN hx hb dX6_placeFor_7 rfl (lv_at hl 0 rfl) ?_
    refine lv_ifnonnullN hx hb dX6_placeFor_8 ?_
    refine va_new (ci := 7) (fs := [.int 0, .int 0, .int 0, .null]) (C := RX7) (T := TX7) (N := 4) hx hb hg inGX7 tyX7 tyX7_ok hown (hg _ kw_35) (hg _ kw_428) (hg _ kw_11) hKN.1 hP hD hS hA rfl (fun j hj => by rcases (show j = 0 ∨ j = 1 ∨ j = 2 ∨ j = 3 by omega) with rfl | rfl | rfl | rfl <;> rfl) (Nat.le_of_ble_eq_true rfl) (Nat.le_of_ble_eq_true rfl) dX6_placeFor_11 (fun b39 H hP hD hS => ?_)
    refine W.widen (k := 1) (n := 4) (Nat.le_of_ble_eq_true rfl) (Nat.le_of_ble_eq_true rfl) ?_
    refine lv_dup hx hb dX6_placeFor_14 rfl ?_
    have hP40 : va_P D vwCl [(b39, .inr (7, [.int 0, .int 0, .int 0, .null]))] H := va_P.last hP
    have hD41 : va_D A [(b39, .inr (7, [.int 0, .int 0, .int 0, .null]))] := va_D.last hD
    refine cgn (rn_NI (As := []) (rest := [.ref b39]) (b := b39) (c_X7 l D Y Z H.size b39  ) ⟨hx, hb, hml, hown, hg⟩ hKN lk_X6_75 ⟨CP.blind, CP.at hP40 hKN hD41⟩ ⟨⟨rfl, rfl⟩, ⟨Nat.le_of_ble_eq_true rfl, Nat.le_of_ble_eq_true rfl⟩, ⟨(Nat.le_of_ble_eq_true rfl), (Nat.le_of_ble_eq_true rfl)⟩⟩ hl.1 rfl (Nat.le_of_ble_eq_true rfl) dX6_placeFor_15) hP hD hS hA (fun u42 H locs hw43 hP hD hS => ?_)
    refine W.widen (k := 2) (n := 604) (Nat.le_of_ble_eq_true rfl) (Nat.le_of_ble_eq_true rfl) ?_
    refine W.eq (g2 := F0 m 18 ls [.ref b39]) rfl ?_
    obtain ⟨w45, T44, g48, hP, hD, hT, le46, ht47, ex49⟩ := nw_X7 j p1.toNatClampNeg hT hP hD
    have ke50 : KF 1 T ws w45 := KF.tr KF.rf (KF.ex ex49.1)
    have ke51 : KF 6 T ws w45 := KF.tr KF.rf (KF.ex ex49.1)
    have hk52 := ex49.1 _ _ hk36
    have hg53 := (congrFun (ex49.2.1 p0 (by rw [ht0]; exact Nat.succ_ne_zero _)) 0).trans h15
    have hg54 := (congrFun (ex49.2.1 p0 (by rw [ht0]; exact Nat.succ_ne_zero _)) 2).trans h19
    have hg55 := (congrFun (ex49.2.1 p0 (by rw [ht0]; exact Nat.succ_ne_zero _)) 4).trans h22
    have hg56 := (congrFun (ex49.2.1 p0 (by rw [ht0]; exact Nat.succ_ne_zero _)) 7).trans h28
    have hg57 := (congrFun (ex49.2.1 p0 (by rw [ht0]; exact Nat.succ_ne_zero _)) 10).trans h32
    have gj58 : GJ T j g g48 := GJ.tr GJ.rf (GJ.ex ex49.2.1)
    have ge59 : GE T g g48 := GE.tr GE.rf (GE.ex ex49.2.1)
    refine lv_astore_n (lv' := [(2, .ref b39), (0, .ref p0), (1, .int p1)]) hx hb dX6_placeFor_18 rfl hl (by decide) rfl (fun ls hl => ?_)
    refine lv_aload_n hx hb dX6_placeFor_19 rfl (lv_at hl 1 rfl) ?_
    refine va_get (D := D) (ci := 6) (v := .ref a2) (C := RX6) (T := TX6) (N := 13) hx hb hg inGX6 hown hKN.1 hP p35 hk52 rfl 1 (by decide) (hg _ kw_42) (fun _ h9 => h9) rfl dX6_placeFor_20 ?_
    refine lv_iload_n hx hb dX6_placeFor_23 rfl (lv_at hl 2 rfl) ?_
    refine lv_aload_n hx hb dX6_placeFor_24 rfl (lv_at hl 0 rfl) ?_
    refine tr_st17 hx hb hKN hP hD hS hT (le46.up h16) ht47 (vp_in_iff.mpr ⟨by omega, by omega⟩) dX6_placeFor_25 (fun w60 H locs hP hD hS hT kp61 => ?_)
    have ke62 : KF 1 T ws w60 := KF.tr ke50 (KF.le (by decide) le46 (KF.kp kp61 (le46.up h16) (by decide)))
    have ke63 : KF 6 T ws w60 := KF.tr ke51 (KF.le (by decide) le46 (KF.kp kp61 (le46.up h16) (by decide)))
    have hk64 := kp61 _ _ hk52 (rne (le46.up ht0) (le46.up h16) (by decide))
    obtain ⟨q65, eq65, hT⟩ : ∃ qz, qz = qset q a2 p1.toNatClampNeg (some b39) ∧ TW Y Z T44 g48 qz w60 := ⟨_, rfl, hT⟩
    have qj66 : QJ T j q q65 := QJ.tr QJ.rf (QJ.le le46 (QJ.st eq65 (le46.up h16)))
    have hg67 : q65 p0 1 = some a2 := by rw [eq65, qset_ne (rne (le46.up ht0) (le46.up h16) (by decide))]; exact h17
    have hg68 : q65 p0 5 = some a6 := by rw [eq65, qset_ne (rne (le46.up ht0) (le46.up h16) (by decide))]; exact h24
    have hg69 : q65 p0 6 = some a7 := by rw [eq65, qset_ne (rne (le46.up ht0) (le46.up h16) (by decide))]; exact h26
    refine lv_aload_n hx hb dX6_placeFor_26 rfl (lv_at hl 0 rfl) ?_
    refine W.widen (k := 2) (n := 604) (Nat.le_of_ble_eq_true rfl) (Nat.le_of_ble_eq_true rfl) ?_
    exact W.aret (v := .ref b39) hx hb hr (Or.inl ⟨_, rfl⟩) (Or.inr ⟨_, rfl⟩) (fun t ht hW => ⟨⟨(b39, w60, T44, g48, q65), rfl, ⟨le46, hT, ke62, ke63, ge59, gj58, qj66, ht47, (show ∀ sr, q p0 1 = some sr → PLF T g g48 q q65 sr p1.toNatClampNeg b39 from (fun sr hs => by obtain rfl : sr = a2 := Option.some.inj (hs.symm.trans h17); exact ⟨by rw [eq65]; exact qs_eq, fun n hn => by rw [eq65, qs_ne hn], fun a h0 hne => by rw [eq65, qset_ne hne], ex49.2.1⟩))⟩, CB.mk ht hP hD⟩, hS.F ht⟩) hS.2.2 dX6_placeFor_27
  · skip
    have ht70 := hr37 b38 rfl
    refine W.eq (g2 := F0 m 6 ls [.ref b38]) rfl ?_
    refine lv_astore_n (lv' := [(2, .ref b38), (0, .ref p0), (1, .int p1)]) hx hb dX6_placeFor_6 rfl hl (by decide) rfl (fun ls hl => ?_)
    refine lv_aload_n hx hb dX6_placeFor_7 rfl (lv_at hl 0 rfl) ?_
    refine lv_ifnonnull (tgt := 26) hx hb dX6_placeFor_8 (by decide) ?_
    refine lv_aload_n hx hb dX6_placeFor_26 rfl (lv_at hl 0 rfl) ?_
    refine W.widen (k := 2) (n := 604) (Nat.le_of_ble_eq_true rfl) (Nat.le_of_ble_eq_true rfl) ?_
    exact W.aret (v := .ref b38) hx hb hr (Or.inl ⟨_, rfl⟩) (Or.inr ⟨_, rfl⟩) (fun t ht hW => ⟨⟨(b38, ws, T, g, q), rfl, ⟨TLe.rf, hT, KF.rf, KF.rf, GE.rf, GJ.rf, QJ.rf, ht70, (show ∀ sr, q p0 1 = some sr → PLF T g g q q sr p1.toNatClampNeg b38 from (fun sr hs => by obtain rfl : sr = a2 := Option.some.inj (hs.symm.trans h17); exact ⟨qr37.symm, fun _ _ => rfl, fun _ _ _ => rfl, fun _ _ => rfl⟩))⟩, CB.mk ht hP hD⟩, hS.F ht⟩) hS.2.2 dX6_placeFor_27
set_option maxHeartbeats 4000000 in
set_option maxRecDepth 100000 in
theorem x_beginS (l : Launch) (D : va_G) (Y : Nat → ClassId) (Z : Nat → Nat) (sz : Nat) (ws : va_W) (T : RT) (g : GN) (q : GQ) (j : Nat) (i : Nat) (p0 : Nat) (p1 : Int32) (p2 : Int32) (p3 : Int32) (hT : TW Y Z T g q ws) (ht0 : T p0 = (3, j, i)) : Met l yX7_begin (.code yX7_begin cX7_begin 4 none :: GW) ({ frames := 1, cells := 0, slots := 0, locals := 23 }) (va_Pc [.ref p0, .int p1, .int p2, .int p3] (CPC D Y Z ws sz)) (QG (S := va_W × GN) (fun _ => none) (fun u => TW Y Z T u.2 q u.1 ∧ KF 1 T ws u.1 ∧ KF 6 T ws u.1 ∧ GE T g u.2 ∧ GJ T j g u.2 ∧ (u.2 = gset g p0 0 p1)) (fun u => CB D u.1 (va_A ws sz)) (va_A ws sz)) 0 0 (va_A ws sz) := by
  refine Met.ofW (cc := cX7_begin) (maxL := 4) (ret := none) (by decide) rfl ?_
  intro p e s m args below meth c s₁ B hml hv
  obtain ⟨rfl, ⟨hsz, hP, hKN, hD0⟩, hSZ⟩ := hv
  have hx := B.exec
  have hb := B.bytes
  have hr := B.returns
  have hts := atoms_spec (ws := .code yX7_begin cX7_begin 4 none :: GW) B.pre
  have hg : ∀ w ∈ GW, w.before _ s = true := fun w h => hts w (List.mem_cons_of_mem _ h)
  have hown : s.vm.findClass RX7 = some m.cls := findClass_of_methodNamed B.named
  have hlocks := B.notSynchronized
  subst hsz
  have hD := hD0.self (sz := s.heap.size)
  generalize hAe : va_A ws s.heap.size = A at hD hSZ ⊢
  have hA : ∀ q : Nat, s.heap.size ≤ q → A q := fun q h => by rw [← hAe]; exact Or.inr h
  clear hAe hD0 hts B
  have hl := lv_entry ([.ref p0, .int p1, .int p2, .int p3]) (n := 4) (Nat.le_of_ble_eq_true rfl)
  rw [lg_entry_eq]
  generalize (lg_sl ([.ref p0, .int p1, .int p2, .int p3]) ++ List.replicate (4 - (lg_sl ([.ref p0, .int p1, .int p2, .int p3])).length) Slot.unset).toArray = ls at hl ⊢
  have hl : lv_has ls 4 [(0, .ref p0), (1, .int p1), (2, .int p2), (3, .int p3)] := hl
  refine w_start (A0 := A) hP (fun H locs hP hS => ?_)
  refine lv_aload_n hx hb dX7_begin_0 rfl (lv_at hl 0 rfl) ?_
  refine lv_iload_n hx hb dX7_begin_1 rfl (lv_at hl 1 rfl) ?_
  refine ok3 hT ht0 (fun p7 x1 x2 x3 a4 hk8 h5 h6 => ?_)
  refine va_put (D := D) (ci := 7) (v := .int p1) (ty := .int) (C := RX7) (T := TX7) (N := 4) hx hb hg inGX7 tyX7 tyX7_ok nmX7 hown hKN.1 hP hD hS p7 hk8 rfl 0 (by decide) (hg _ kw_433) (fun _ h9 => h9) rfl (by decide +kernel) rfl rfl (Nat.le_of_ble_eq_true rfl) dX7_begin_2 (fun H locs hP hD2 hS => ?_)
  obtain ⟨w9, g12, eg12, hP, hD, hT, hk11, kp10⟩ : ∃ wz gz, gz = gset g p0 0 p1 ∧ va_P D vwCl wz H ∧ va_D A wz ∧ TW Y Z T gz q wz ∧ wz[p7]? = some (p0, .inr (7, [.int p1, .int x2, .int x3, .ref a4])) ∧ Kp p0 ws wz := ⟨_, _, rfl, hP, hD2, tw_sg (k := 3) (g2 := gset g p0 0 p1) (q2 := q) hT hD hk8 ht0 (fun _ hc => gset_ne hc) (fun _ _ => rfl) (show Sh3 Y Z T ((gset g p0 0 p1) p0) (q p0) j i _ from ⟨p1, x2, x3, a4, rfl, gs_eq, h6⟩), sw_eq hk8, sw_kp hk8⟩
  have hg13 : g12 p0 0 = p1 := by rw [eg12]; exact gs_eq
  have gj14 : GJ T j g g12 := GJ.tr GJ.rf (GJ.st eg12 ht0)
  have ge15 : GE T g g12 := GE.tr GE.rf (GE.st eg12 ht0)
  have ke16 : KF 1 T ws w9 := KF.tr KF.rf (KF.kp kp10 ht0 (by decide))
  have ke17 : KF 6 T ws w9 := KF.tr KF.rf (KF.kp kp10 ht0 (by decide))
  refine lv_aload_n hx hb dX7_begin_5 rfl (lv_at hl 0 rfl) ?_
  refine lv_iload_n hx hb dX7_begin_6 rfl (lv_at hl 2 rfl) ?_
  refine va_put (D := D) (ci := 7) (v := .int p2) (ty := .int) (C := RX7) (T := TX7) (N := 4) hx hb hg inGX7 tyX7 tyX7_ok nmX7 hown hKN.1 hP hD hS p7 hk11 rfl 1 (by decide) (hg _ kw_436) (fun _ h9 => h9) rfl (by decide +kernel) rfl rfl (Nat.le_of_ble_eq_true rfl) dX7_begin_7 (fun H locs hP hD2 hS => ?_)
  obtain ⟨w18, hP, hD, hT, hk20, kp19⟩ : ∃ wz, va_P D vwCl wz H ∧ va_D A wz ∧ TW Y Z T g12 q wz ∧ wz[p7]? = some (p0, .inr (7, [.int p1, .int p2, .int x3, .ref a4])) ∧ Kp p0 w9 wz := ⟨_, hP, hD2, st3 hT hD hk11 ht0 ⟨p1, p2, x3, a4, rfl, hg13, h6⟩, sw_eq hk11, sw_kp hk11⟩
  have ke21 : KF 1 T ws w18 := KF.tr ke16 (KF.kp kp19 ht0 (by decide))
  have ke22 : KF 6 T ws w18 := KF.tr ke17 (KF.kp kp19 ht0 (by decide))
  refine lv_aload_n hx hb dX7_begin_10 rfl (lv_at hl 0 rfl) ?_
  refine lv_iload_n hx hb dX7_begin_11 rfl (lv_at hl 3 rfl) ?_
  refine va_put (D := D) (ci := 7) (v := .int p3) (ty := .int) (C := RX7) (T := TX7) (N := 4) hx hb hg inGX7 tyX7 tyX7_ok nmX7 hown hKN.1 hP hD hS p7 hk20 rfl 2 (by decide) (hg _ kw_439) (fun _ h9 => h9) rfl (by decide +kernel) rfl rfl (Nat.le_of_ble_eq_true rfl) dX7_begin_12 (fun H locs hP hD2 hS => ?_)
  obtain ⟨w23, hP, hD, hT, hk25, kp24⟩ : ∃ wz, va_P D vwCl wz H ∧ va_D A wz ∧ TW Y Z T g12 q wz ∧ wz[p7]? = some (p0, .inr (7, [.int p1, .int p2, .int p3, .ref a4])) ∧ Kp p0 w18 wz := ⟨_, hP, hD2, st3 hT hD hk20 ht0 ⟨p1, p2, p3, a4, rfl, hg13, h6⟩, sw_eq hk20, sw_kp hk20⟩
  have ke26 : KF 1 T ws w23 := KF.tr ke21 (KF.kp kp24 ht0 (by decide))
  have ke27 : KF 6 T ws w23 := KF.tr ke22 (KF.kp kp24 ht0 (by decide))
  refine lv_aload_n hx hb dX7_begin_15 rfl (lv_at hl 0 rfl) ?_
  refine va_get (D := D) (ci := 7) (v := .ref a4) (C := RX7) (T := TX7) (N := 4) hx hb hg inGX7 hown hKN.1 hP p7 hk25 rfl 3 (by decide) (hg _ kw_441) (fun _ h9 => h9) rfl dX7_begin_16 ?_
  refine lv_ldc (v := (-100000)) hx hb hown (hg _ kw_457) dX7_begin_19 ?_
  have zim100000 : ((-100000) : Int32).toInt = -100000 := by decide
  refine cga (rn_S (As := [.ref a4, .int (-100000)]) (rest := []) (x_J7_fill_53178 l D Y Z H.size w23 T g12 q 600 a4 (-100000) hT h6 (show ((600 : Int) ≤ 600) by omega)) ⟨hx, hb, hml, hown, hg⟩ lk_X7_26 ⟨CPC.blind, CPC.at hP hKN hD hSZ hS hA⟩ ⟨⟨rfl, rfl⟩, ⟨Nat.le_of_ble_eq_true rfl, Nat.le_of_ble_eq_true rfl⟩, ⟨(Nat.le_of_ble_eq_true rfl), (Nat.le_of_ble_eq_true rfl)⟩⟩ hl.1 rfl (Nat.le_of_ble_eq_true rfl) dX7_begin_21) hP hD hS hA (fun u28 H locs hw29 hP hD hS => ?_)
  obtain ⟨hT, ke31, ke32⟩ : TW Y Z T g12 q u28 ∧ KF 1 T w23 u28 ∧ KF 6 T w23 u28 := hw29
  have ke33 : KF 1 T ws u28 := KF.tr ke26 ke31
  have ke34 : KF 6 T ws u28 := KF.tr ke27 ke32
  refine W.eq (g2 := F0 m 24 ls []) rfl ?_
  refine W.widen (k := 0) (n := 0) (Nat.le_of_ble_eq_true rfl) (Nat.le_of_ble_eq_true rfl) ?_
  exact W.vret hx hb hr (fun t ht hW => ⟨⟨(u28, g12), rfl, ⟨hT, ke33, ke34, ge15, gj14, (show g12 = gset g p0 0 p1 from eg12)⟩, CB.mk ht hP hD⟩, hS.F ht⟩) hS.2.2 dX7_begin_24
set_option maxHeartbeats 4000000 in
set_option maxRecDepth 100000 in
theorem x_becomeSt (l : Launch) (D : va_G) (Y : Nat → ClassId) (Z : Nat → Nat) (sz : Nat) (ws : va_W) (T : RT) (g : GN) (q : GQ) (j : Nat) (i : Nat) (j2 : Nat) (i2 : Nat) (p0 : Nat) (p1 : Nat) (hT : TW Y Z T g q ws) (ht0 : T p0 = (3, j, i)) (ht1 : T p1 = (3, j2, i2)) : Met l yX7_become (.code yX7_become cX7_become 2 none :: GW) ({ frames := 1, cells := 0, slots := 0, locals := 40 }) (va_Pc [.ref p0, .ref p1] (CPC D Y Z ws sz)) (QG (S := va_W × GN) (fun _ => none) (fun u => TW Y Z T u.2 q u.1 ∧ KF 1 T ws u.1 ∧ KF 6 T ws u.1 ∧ GE T g u.2 ∧ GJ T j g u.2 ∧ (u.2 = gset g p0 0 (g p1 0))) (fun u => CB D u.1 (va_A ws sz)) (va_A ws sz)) 0 0 (va_A ws sz) := by
  refine Met.ofW (cc := cX7_become) (maxL := 2) (ret := none) (by decide) rfl ?_
  intro p e s m args below meth c s₁ B hml hv
  obtain ⟨rfl, ⟨hsz, hP, hKN, hD0⟩, hSZ⟩ := hv
  have hx := B.exec
  have hb := B.bytes
  have hr := B.returns
  have hts := atoms_spec (ws := .code yX7_become cX7_become 2 none :: GW) B.pre
  have hg : ∀ w ∈ GW, w.before _ s = true := fun w h => hts w (List.mem_cons_of_mem _ h)
  have hown : s.vm.findClass RX7 = some m.cls := findClass_of_methodNamed B.named
  have hlocks := B.notSynchronized
  subst hsz
  have hD := hD0.self (sz := s.heap.size)
  generalize hAe : va_A ws s.heap.size = A at hD hSZ ⊢
  have hA : ∀ q : Nat, s.heap.size ≤ q → A q := fun q h => by rw [← hAe]; exact Or.inr h
  clear hAe hD0 hts B
  have hl := lv_entry ([.ref p0, .ref p1]) (n := 2) (Nat.le_of_ble_eq_true rfl)
  rw [lg_entry_eq]
  generalize (lg_sl ([.ref p0, .ref p1]) ++ List.replicate (2 - (lg_sl ([.ref p0, .ref p1])).length) Slot.unset).toArray = ls at hl ⊢
  have hl : lv_has ls 2 [(0, .ref p0), (1, .ref p1)] := hl
  refine w_start (A0 := A) hP (fun H locs hP hS => ?_)
  refine ok3 hT ht1 (fun p7 x1 x2 x3 a4 hk8 h5 h6 => ?_)
  refine lv_aload_n hx hb dX7_become_0 rfl (lv_at hl 0 rfl) ?_
  refine lv_aload_n hx hb dX7_become_1 rfl (lv_at hl 1 rfl) ?_
  refine va_get (D := D) (ci := 7) (v := .int x1) (C := RX7) (T := TX7) (N := 4) hx hb hg inGX7 hown hKN.1 hP p7 hk8 rfl 0 (by decide) (hg _ kw_433) (fun _ h9 => h9) rfl dX7_become_2 ?_
  refine ok3 hT ht0 (fun p15 x9 x10 x11 a12 hk16 h13 h14 => ?_)
  refine va_put (D := D) (ci := 7) (v := .int x1) (ty := .int) (C := RX7) (T := TX7) (N := 4) hx hb hg inGX7 tyX7 tyX7_ok nmX7 hown hKN.1 hP hD hS p15 hk16 rfl 0 (by decide) (hg _ kw_433) (fun _ h9 => h9) rfl (by decide +kernel) rfl rfl (Nat.le_of_ble_eq_true rfl) dX7_become_5 (fun H locs hP hD2 hS => ?_)
  obtain ⟨w17, g20, eg20, hP, hD, hT, hk19, kp18⟩ : ∃ wz gz, gz = gset g p0 0 x1 ∧ va_P D vwCl wz H ∧ va_D A wz ∧ TW Y Z T gz q wz ∧ wz[p15]? = some (p0, .inr (7, [.int x1, .int x10, .int x11, .ref a12])) ∧ Kp p0 ws wz := ⟨_, _, rfl, hP, hD2, tw_sg (k := 3) (g2 := gset g p0 0 x1) (q2 := q) hT hD hk16 ht0 (fun _ hc => gset_ne hc) (fun _ _ => rfl) (show Sh3 Y Z T ((gset g p0 0 x1) p0) (q p0) j i _ from ⟨x1, x10, x11, a12, rfl, gs_eq, h14⟩), sw_eq hk16, sw_kp hk16⟩
  have hg21 : g20 p0 0 = x1 := by rw [eg20]; exact gs_eq
  have gj22 : GJ T j g g20 := GJ.tr GJ.rf (GJ.st eg20 ht0)
  have ge23 : GE T g g20 := GE.tr GE.rf (GE.st eg20 ht0)
  have ke24 : KF 1 T ws w17 := KF.tr KF.rf (KF.kp kp18 ht0 (by decide))
  have ke25 : KF 6 T ws w17 := KF.tr KF.rf (KF.kp kp18 ht0 (by decide))
  refine lv_aload_n hx hb dX7_become_8 rfl (lv_at hl 0 rfl) ?_
  refine lv_aload_n hx hb dX7_become_9 rfl (lv_at hl 1 rfl) ?_
  refine ok3 hT ht1 (fun p32 x26 x27 x28 a29 hk33 h30 h31 => ?_)
  refine va_get (D := D) (ci := 7) (v := .int x27) (C := RX7) (T := TX7) (N := 4) hx hb hg inGX7 hown hKN.1 hP p32 hk33 rfl 1 (by decide) (hg _ kw_436) (fun _ h9 => h9) rfl dX7_become_10 ?_
  refine va_put (D := D) (ci := 7) (v := .int x27) (ty := .int) (C := RX7) (T := TX7) (N := 4) hx hb hg inGX7 tyX7 tyX7_ok nmX7 hown hKN.1 hP hD hS p15 hk19 rfl 1 (by decide) (hg _ kw_436) (fun _ h9 => h9) rfl (by decide +kernel) rfl rfl (Nat.le_of_ble_eq_true rfl) dX7_become_13 (fun H locs hP hD2 hS => ?_)
  obtain ⟨w34, hP, hD, hT, hk36, kp35⟩ : ∃ wz, va_P D vwCl wz H ∧ va_D A wz ∧ TW Y Z T g20 q wz ∧ wz[p15]? = some (p0, .inr (7, [.int x1, .int x27, .int x11, .ref a12])) ∧ Kp p0 w17 wz := ⟨_, hP, hD2, st3 hT hD hk19 ht0 ⟨x1, x27, x11, a12, rfl, hg21, h14⟩, sw_eq hk19, sw_kp hk19⟩
  have ke37 : KF 1 T ws w34 := KF.tr ke24 (KF.kp kp35 ht0 (by decide))
  have ke38 : KF 6 T ws w34 := KF.tr ke25 (KF.kp kp35 ht0 (by decide))
  refine lv_aload_n hx hb dX7_become_16 rfl (lv_at hl 0 rfl) ?_
  refine lv_aload_n hx hb dX7_become_17 rfl (lv_at hl 1 rfl) ?_
  refine ok3 hT ht1 (fun p45 x39 x40 x41 a42 hk46 h43 h44 => ?_)
  refine va_get (D := D) (ci := 7) (v := .int x41) (C := RX7) (T := TX7) (N := 4) hx hb hg inGX7 hown hKN.1 hP p45 hk46 rfl 2 (by decide) (hg _ kw_439) (fun _ h9 => h9) rfl dX7_become_18 ?_
  refine va_put (D := D) (ci := 7) (v := .int x41) (ty := .int) (C := RX7) (T := TX7) (N := 4) hx hb hg inGX7 tyX7 tyX7_ok nmX7 hown hKN.1 hP hD hS p15 hk36 rfl 2 (by decide) (hg _ kw_439) (fun _ h9 => h9) rfl (by decide +kernel) rfl rfl (Nat.le_of_ble_eq_true rfl) dX7_become_21 (fun H locs hP hD2 hS => ?_)
  obtain ⟨w47, hP, hD, hT, hk49, kp48⟩ : ∃ wz, va_P D vwCl wz H ∧ va_D A wz ∧ TW Y Z T g20 q wz ∧ wz[p15]? = some (p0, .inr (7, [.int x1, .int x27, .int x41, .ref a12])) ∧ Kp p0 w34 wz := ⟨_, hP, hD2, st3 hT hD hk36 ht0 ⟨x1, x27, x41, a12, rfl, hg21, h14⟩, sw_eq hk36, sw_kp hk36⟩
  have ke50 : KF 1 T ws w47 := KF.tr ke37 (KF.kp kp48 ht0 (by decide))
  have ke51 : KF 6 T ws w47 := KF.tr ke38 (KF.kp kp48 ht0 (by decide))
  refine lv_aload_n hx hb dX7_become_24 rfl (lv_at hl 1 rfl) ?_
  refine ok3 hT ht1 (fun p58 x52 x53 x54 a55 hk59 h56 h57 => ?_)
  refine va_get (D := D) (ci := 7) (v := .ref a55) (C := RX7) (T := TX7) (N := 4) hx hb hg inGX7 hown hKN.1 hP p58 hk59 rfl 3 (by decide) (hg _ kw_441) (fun _ h9 => h9) rfl dX7_become_25 ?_
  refine lv_iconst (v := 0) hx hb dX7_become_28 (by decide) ?_
  refine lv_aload_n hx hb dX7_become_29 rfl (lv_at hl 0 rfl) ?_
  refine va_get (D := D) (ci := 7) (v := .ref a12) (C := RX7) (T := TX7) (N := 4) hx hb hg inGX7 hown hKN.1 hP p15 hk49 rfl 3 (by decide) (hg _ kw_441) (fun _ h9 => h9) rfl dX7_become_30 ?_
  refine lv_iconst (v := 0) hx hb dX7_become_33 (by decide) ?_
  refine lv_sipush (v := 600) hx hb dX7_become_34 (by decide) ?_
  have zi600 : (600 : Int32).toInt = 600 := by decide
  have zi0 : (0 : Int32).toInt = 0 := by decide
  refine tr_cp12 hx hb (hml.trans hl.1.symm) hown (hg _ kw_1196) (hg _ kw_520) (hg _ kw_519) (hg _ kw_13) hKN hP hD hS hT h57 h14 (by decide) (by decide) (by decide) (by decide) (by decide) (Nat.le_of_ble_eq_true rfl) (Nat.le_of_ble_eq_true rfl) dX7_become_37 (fun w60 H locs hP hD hS hT kp61 => ?_)
  have ke62 : KF 1 T ws w60 := KF.tr ke50 (KF.kp kp61 h14 (by decide))
  have ke63 : KF 6 T ws w60 := KF.tr ke51 (KF.kp kp61 h14 (by decide))
  have hk64 := kp61 _ _ hk49 (rne ht0 h14 (by decide))
  have hk65 := kp61 _ _ hk59 (rne ht1 h14 (by decide))
  refine W.widen (k := 0) (n := 0) (Nat.le_of_ble_eq_true rfl) (Nat.le_of_ble_eq_true rfl) ?_
  exact W.vret hx hb hr (fun t ht hW => ⟨⟨(w60, g20), rfl, ⟨hT, ke62, ke63, ge23, gj22, (show g20 = gset g p0 0 (g p1 0) from (by rw [h5]; exact eg20))⟩, CB.mk ht hP hD⟩, hS.F ht⟩) hS.2.2 dX7_become_40
set_option maxHeartbeats 4000000 in
set_option maxRecDepth 100000 in
theorem x_addStarS (l : Launch) (D : va_G) (Y : Nat → ClassId) (Z : Nat → Nat) (sz : Nat) (ws : va_W) (T : RT) (g : GN) (q : GQ) (j : Nat) (p0 : Nat) (p1 : Int32) (p2 : Int32) (p3 : Int32) (hT : TW Y Z T g q ws) (ht0 : T p0 = (2, j, 0)) : Met l yX6_addStar (.code yX6_addStar cX6_addStar 5 (some .int) :: GW) ({ frames := 3, cells := 2, slots := 604, locals := 62 }) (va_Pc [.ref p0, .int p1, .int p2, .int p3] (CPC D Y Z ws sz)) (QG (S := Int32 × va_W × RT × GN × GQ) (fun u => some (.int u.1)) (fun u => TLe T u.2.2.1 ∧ TW Y Z u.2.2.1 u.2.2.2.1 u.2.2.2.2 u.2.1 ∧ KF 1 T ws u.2.1 ∧ KF 6 T ws u.2.1 ∧ GJ T j g u.2.2.2.1 ∧ QJ T j q u.2.2.2.2 ∧ (∀ sr, q p0 1 = some sr → (u.1.toInt = -1 ∧ 12 ≤ (g p0 0).toInt ∧ u.2.2.2.1 = g ∧ u.2.2.2.2 = q) ∨ ((g p0 0).toInt < 12 ∧ u.1.toInt = (g p0 0).toInt ∧ ADS T u.2.2.1 g u.2.2.2.1 q u.2.2.2.2 j p0 sr (g p0 0).toNatClampNeg p1))) (fun u => CB D u.2.1 (va_A ws sz)) (va_A ws sz)) 2 604 (va_A ws sz) := by
  refine Met.ofW (cc := cX6_addStar) (maxL := 5) (ret := (some .int)) (by decide) rfl ?_
  intro p e s m args below meth c s₁ B hml hv
  obtain ⟨rfl, ⟨hsz, hP, hKN, hD0⟩, hSZ⟩ := hv
  have hx := B.exec
  have hb := B.bytes
  have hr := B.returns
  have hts := atoms_spec (ws := .code yX6_addStar cX6_addStar 5 (some .int) :: GW) B.pre
  have hg : ∀ w ∈ GW, w.before _ s = true := fun w h => hts w (List.mem_cons_of_mem _ h)
  have hown : s.vm.findClass RX6 = some m.cls := findClass_of_methodNamed B.named
  have hlocks := B.notSynchronized
  subst hsz
  have hD := hD0.self (sz := s.heap.size)
  generalize hAe : va_A ws s.heap.size = A at hD hSZ ⊢
  have hA : ∀ q : Nat, s.heap.size ≤ q → A q := fun q h => by rw [← hAe]; exact Or.inr h
  clear hAe hD0 hts B
  have hl := lv_entry ([.ref p0, .int p1, .int p2, .int p3]) (n := 5) (Nat.le_of_ble_eq_true rfl)
  rw [lg_entry_eq]
  generalize (lg_sl ([.ref p0, .int p1, .int p2, .int p3]) ++ List.replicate (5 - (lg_sl ([.ref p0, .int p1, .int p2, .int p3])).length) Slot.unset).toArray = ls at hl ⊢
  have hl : lv_has ls 5 [(0, .ref p0), (1, .int p1), (2, .int p2), (3, .int p3)] := hl
  refine w_start (A0 := A) hP (fun H locs hP hS => ?_)
  refine ok2 hT ht0 (fun p35 x1 a2 x3 a4 x5 a6 a7 x8 a9 a10 x11 a12 x13 hk36 h14 h15 h16 h17 h18 h19 h20 h21 h22 h23 h24 h25 h26 h27 h28 h29 h30 h31 h32 h33 h34 => ?_)
  refine lv_aload_n hx hb dX6_addStar_0 rfl (lv_at hl 0 rfl) ?_
  refine va_get (D := D) (ci := 6) (v := .int x1) (C := RX6) (T := TX6) (N := 13) hx hb hg inGX6 hown hKN.1 hP p35 hk36 rfl 0 (by decide) (hg _ kw_39) (fun _ h9 => h9) rfl dX6_addStar_1 ?_
  refine lv_bipush (v := 12) hx hb dX6_addStar_4 (by decide) ?_
  refine lv_icmp_lt (tgt := 11) hx hb dX6_addStar_6 (by decide) (fun c37 => ?_) (fun c37 => ?_)
  · skip
    have c37 := i_lt (Eq.refl x1.toInt) (show (12 : Int32).toInt = 12 by decide) c37
    refine lv_aload_n hx hb dX6_addStar_11 rfl (lv_at hl 0 rfl) ?_
    refine lv_aload_n hx hb dX6_addStar_12 rfl (lv_at hl 0 rfl) ?_
    refine va_get (D := D) (ci := 6) (v := .int x1) (C := RX6) (T := TX6) (N := 13) hx hb hg inGX6 hown hKN.1 hP p35 hk36 rfl 0 (by decide) (hg _ kw_39) (fun _ h9 => h9) rfl dX6_addStar_13 ?_
    refine cga (rn_V (As := [.int x1]) (rest := []) (b := p0) (x_placeForS l D Y Z H.size ws T g q j p0 x1 hT ht0 (show (0 ≤ x1.toInt ∧ x1.toInt ≤ 11) by omega)) ⟨hx, hb, hml, hown, hg⟩ lk_X6_68 ⟨CPC.blind, va_recv hKN.1 hP (ci := 6) (q0 := p35) rfl hk36, CPC.at hP hKN hD hSZ hS hA⟩ ⟨⟨rfl, rfl⟩, ⟨Nat.le_of_ble_eq_true rfl, Nat.le_of_ble_eq_true rfl⟩, ⟨(Nat.le_of_ble_eq_true rfl), (Nat.le_of_ble_eq_true rfl)⟩⟩ hl.1 rfl (Nat.le_of_ble_eq_true rfl) dX6_addStar_16) hP hD hS hA (fun u38 H locs hw39 hP hD hS => ?_)
    refine W.widen (k := 2) (n := 604) (Nat.le_of_ble_eq_true rfl) (Nat.le_of_ble_eq_true rfl) ?_
    obtain ⟨b40, w41, T42, g43, q44⟩ := u38
    obtain ⟨le45, hT, ke46, ke47, ge48, gj49, qj50, ht51, hw52⟩ : TLe T T42 ∧ TW Y Z T42 g43 q44 w41 ∧ KF 1 T ws w41 ∧ KF 6 T ws w41 ∧ GE T g g43 ∧ GJ T j g g43 ∧ QJ T j q q44 ∧ T42 b40 = (3, j, x1.toNatClampNeg) ∧ (∀ sr, q p0 1 = some sr → PLF T g g43 q q44 sr x1.toNatClampNeg b40) := hw39
    have gj53 : GJ T j g g43 := GJ.tr GJ.rf gj49
    have qj54 : QJ T j q q44 := QJ.tr QJ.rf qj50
    have ke55 : KF 1 T ws w41 := KF.tr KF.rf ke46
    have ke56 : KF 6 T ws w41 := KF.tr KF.rf ke47
    have ge57 : GE T g g43 := GE.tr GE.rf ge48
    refine W.eq (g2 := F0 m 19 ls [.ref b40]) rfl ?_
    refine lv_astore (lv' := [(4, .ref b40), (0, .ref p0), (1, .int p1), (2, .int p2), (3, .int p3)]) hx hb dX6_addStar_19 hl (by decide) rfl (fun ls hl => ?_)
    refine lv_aload hx hb dX6_addStar_21 (lv_at hl 0 rfl) ?_
    refine lv_iload_n hx hb dX6_addStar_23 rfl (lv_at hl 2 rfl) ?_
    refine lv_iload_n hx hb dX6_addStar_24 rfl (lv_at hl 3 rfl) ?_
    refine lv_iload_n hx hb dX6_addStar_25 rfl (lv_at hl 4 rfl) ?_
    refine ok3 hT ht51 (fun p64 x58 x59 x60 a61 hk65 h62 h63 => ?_)
    refine cga (rn_NV (As := [.int p1, .int p2, .int p3]) (rest := []) (b := b40) (x_beginS l D Y Z H.size w41 T42 g43 q44 j x1.toNatClampNeg b40 p1 p2 p3 hT ht51) ⟨hx, hb, hml, hown, hg⟩ hKN lk_X6_71 ⟨CPC.blind, va_recv hKN.1 hP (ci := 7) (q0 := p64) rfl hk65, CPC.at hP hKN hD hSZ hS hA⟩ ⟨⟨rfl, rfl⟩, ⟨Nat.le_of_ble_eq_true rfl, Nat.le_of_ble_eq_true rfl⟩, ⟨(Nat.le_of_ble_eq_true rfl), (Nat.le_of_ble_eq_true rfl)⟩⟩ hl.1 rfl (Nat.le_of_ble_eq_true rfl) dX6_addStar_26) hP hD hS hA (fun u66 H locs hw67 hP hD hS => ?_)
    obtain ⟨w68, g69⟩ := u66
    obtain ⟨hT, ke70, ke71, ge72, gj73, hw74⟩ : TW Y Z T42 g69 q44 w68 ∧ KF 1 T42 w41 w68 ∧ KF 6 T42 w41 w68 ∧ GE T42 g43 g69 ∧ GJ T42 j g43 g69 ∧ (g69 = gset g43 b40 0 p1) := hw67
    have gj75 : GJ T j g g69 := GJ.tr gj53 (GJ.le le45 gj73)
    have ke76 : KF 1 T ws w68 := KF.tr ke55 (KF.le (by decide) le45 ke70)
    have ke77 : KF 6 T ws w68 := KF.tr ke56 (KF.le (by decide) le45 ke71)
    have ge78 : GE T g g69 := GE.tr ge57 (GE.le le45 ge72)
    refine W.eq (g2 := F0 m 29 ls []) rfl ?_
    refine ok2 hT (le45.up ht0) (fun p113 x79 a80 x81 a82 x83 a84 a85 x86 a87 a88 x89 a90 x91 hk114 h92 h93 h94 h95 h96 h97 h98 h99 h100 h101 h102 h103 h104 h105 h106 h107 h108 h109 h110 h111 h112 => ?_)
    have e115 : x79 = x1 := by have e1 := congrFun (ge78 p0 (by rw [ht0]; show (2 : Nat) ≠ 0; decide) (by rw [ht0]; show (2 : Nat) ≠ 3; decide)) 0; rw [← h93, e1, h15]
    have e1152 := congrArg Int32.toInt e115
    refine lv_aload_n hx hb dX6_addStar_29 rfl (lv_at hl 1 rfl) ?_
    refine lv_dup hx hb dX6_addStar_30 rfl ?_
    refine va_get (D := D) (ci := 6) (v := .int x79) (C := RX6) (T := TX6) (N := 13) hx hb hg inGX6 hown hKN.1 hP p113 hk114 rfl 0 (by decide) (hg _ kw_39) (fun _ h9 => h9) rfl dX6_addStar_31 ?_
    refine lv_iconst (v := 1) hx hb dX6_addStar_34 (by decide) ?_
    refine lv_iadd hx hb dX6_addStar_35 ?_
    refine lv_topi (fun v116 ev116 => ?_)
    have hv116 := i_add (Eq.refl x79.toInt) (show (1 : Int32).toInt = 1 by decide) ev116 (by omega) (by omega)
    refine va_put (D := D) (ci := 6) (v := .int v116) (ty := .int) (C := RX6) (T := TX6) (N := 13) hx hb hg inGX6 tyX6 tyX6_ok nmX6 hown hKN.1 hP hD hS p113 hk114 rfl 0 (by decide) (hg _ kw_39) (fun _ h9 => h9) rfl (by decide +kernel) rfl rfl (Nat.le_of_ble_eq_true rfl) dX6_addStar_36 (fun H locs hP hD2 hS => ?_)
    obtain ⟨w117, g120, eg120, hP, hD, hT, hk119, kp118⟩ : ∃ wz gz, gz = gset g69 p0 0 v116 ∧ va_P D vwCl wz H ∧ va_D A wz ∧ TW Y Z T42 gz q44 wz ∧ wz[p113]? = some (p0, .inr (6, (.int v116 :: .ref a80 :: .int x81 :: .ref a82 :: .int x83 :: .ref a84 :: .ref a85 :: .int x86 :: .ref a87 :: .ref a88 :: .int x89 :: .ref a90 :: .int x91 :: []))) ∧ Kp p0 w68 wz := ⟨_, _, rfl, hP, hD2, tw_sg (k := 2) (g2 := gset g69 p0 0 v116) (q2 := q44) hT hD hk114 (le45.up ht0) (fun _ hc => gset_ne hc) (fun _ _ => rfl) (show Sh2 Y Z T42 ((gset g69 p0 0 v116) p0) (q44 p0) j 0 _ from ⟨v116, a80, x81, a82, x83, a84, a85, x86, a87, a88, x89, a90, x91, rfl, by omega, gs_eq, h94, h95, by omega, ((gs_ne (by decide)).trans h97), h98, by omega, ((gs_ne (by decide)).trans h100), h101, h102, h103, h104, by omega, ((gs_ne (by decide)).trans h106), h107, h108, by omega, ((gs_ne (by decide)).trans h110), h111, by omega⟩), sw_eq hk114, sw_kp hk114⟩
    have hg121 : g120 p0 0 = v116 := by rw [eg120]; exact gs_eq
    have hg122 : g120 p0 2 = x81 := by rw [eg120]; exact ((gs_ne (by decide)).trans h97)
    have hg123 : g120 p0 4 = x83 := by rw [eg120]; exact ((gs_ne (by decide)).trans h100)
    have hg124 : g120 p0 7 = x86 := by rw [eg120]; exact ((gs_ne (by decide)).trans h106)
    have hg125 : g120 p0 10 = x89 := by rw [eg120]; exact ((gs_ne (by decide)).trans h110)
    have gj126 : GJ T j g g120 := GJ.tr gj75 (GJ.le le45 (GJ.st eg120 (le45.up ht0)))
    have ke127 : KF 1 T ws w117 := KF.tr ke76 (KF.le (by decide) le45 (KF.kp kp118 (le45.up ht0) (by decide)))
    have ke128 : KF 6 T ws w117 := KF.tr ke77 (KF.le (by decide) le45 (KF.kp kp118 (le45.up ht0) (by decide)))
    refine lv_aload_n hx hb dX6_addStar_39 rfl (lv_at hl 1 rfl) ?_
    refine va_get (D := D) (ci := 6) (v := .int v116) (C := RX6) (T := TX6) (N := 13) hx hb hg inGX6 hown hKN.1 hP p113 hk119 rfl 0 (by decide) (hg _ kw_39) (fun _ h9 => h9) rfl dX6_addStar_40 ?_
    refine lv_iconst (v := 1) hx hb dX6_addStar_43 (by decide) ?_
    refine lv_isub hx hb dX6_addStar_44 ?_
    refine lv_topi (fun v129 ev129 => ?_)
    have hv129 := i_sub (Eq.refl v116.toInt) (show (1 : Int32).toInt = 1 by decide) ev129 (by omega) (by omega)
    refine W.widen (k := 2) (n := 604) (Nat.le_of_ble_eq_true rfl) (Nat.le_of_ble_eq_true rfl) ?_
    exact W.iret (v := v129) hx hb hr (fun t ht hW => ⟨⟨(v129, w117, T42, g120, q44), rfl, ⟨le45, hT, ke127, ke128, gj126, qj54, (show ∀ sr, q p0 1 = some sr → (v129.toInt = -1 ∧ 12 ≤ (g p0 0).toInt ∧ g120 = g ∧ q44 = q) ∨ ((g p0 0).toInt < 12 ∧ v129.toInt = (g p0 0).toInt ∧ ADS T T42 g g120 q q44 j p0 sr (g p0 0).toNatClampNeg p1) from (fun sr hs => Or.inr ⟨by rw [h15]; omega, by rw [h15]; omega, by rw [h15]; exact ADS.of ht0 le45 (hw52 sr hs) ht51 hw74 eg120 (by rw [h15]; omega)⟩))⟩, CB.mk ht hP hD⟩, hS.F ht⟩) hS.2.2 dX6_addStar_45
  · skip
    have c37 := i_nlt (Eq.refl x1.toInt) (show (12 : Int32).toInt = 12 by decide) c37
    refine lv_iconst (v := (-1)) hx hb dX6_addStar_9 (by decide) ?_
    refine W.widen (k := 2) (n := 604) (Nat.le_of_ble_eq_true rfl) (Nat.le_of_ble_eq_true rfl) ?_
    have zim1 : ((-1) : Int32).toInt = -1 := by decide
    exact W.iret (v := (-1)) hx hb hr (fun t ht hW => ⟨⟨(((-1)), ws, T, g, q), rfl, ⟨TLe.rf, hT, KF.rf, KF.rf, GJ.rf, QJ.rf, (show ∀ sr, q p0 1 = some sr → (((-1) : Int32).toInt = -1 ∧ 12 ≤ (g p0 0).toInt ∧ g = g ∧ q = q) ∨ ((g p0 0).toInt < 12 ∧ ((-1) : Int32).toInt = (g p0 0).toInt ∧ ADS T T g g q q j p0 sr (g p0 0).toNatClampNeg p1) from (fun sr hs => Or.inl ⟨by decide, by rw [h15]; omega, rfl, rfl⟩))⟩, CB.mk ht hP hD⟩, hS.F ht⟩) hS.2.2 dX6_addStar_10
set_option maxHeartbeats 4000000 in
set_option maxRecDepth 100000 in
theorem x_becomeS (l : Launch) (D : va_G) (Y : Nat → ClassId) (Z : Nat → Nat) (sz : Nat) (ws : va_W) (T : RT) (g : GN) (q : GQ) (j : Nat) (j2 : Nat) (p0 : Nat) (p1 : Nat) (hT : TW Y Z T g q ws) (ht0 : T p0 = (2, j, 0)) (ht1 : T p1 = (2, j2, 0)) (hj : j2 ≠ j) : Met l yX6_become (.code yX6_become cX6_become 4 none :: GW) ({ frames := 3, cells := 24, slots := 7248, locals := 62 }) (va_Pc [.ref p0, .ref p1] (CPC D Y Z ws sz)) (QG (S := va_W × RT × GN × GQ) (fun _ => none) (fun u => TLe T u.2.1 ∧ TW Y Z u.2.1 u.2.2.1 u.2.2.2 u.1 ∧ KF 1 T ws u.1 ∧ KF 6 T ws u.1 ∧ GJ T j g u.2.2.1 ∧ QJ T j q u.2.2.2 ∧ (BRW g u.2.2.1 q p0 p1) ∧ (BE5 g u.2.2.1 p0 p1 ∧ ∀ sr srf, q p0 1 = some sr → q p1 1 = some srf → SBE u.2.1 g u.2.2.1 q u.2.2.2 j sr srf (g p1 0).toInt)) (fun u => CB D u.1 (va_A ws sz)) (va_A ws sz)) 24 7248 (va_A ws sz) := by
  refine Met.ofW (cc := cX6_become) (maxL := 4) (ret := none) (by decide) rfl ?_
  intro p e s m args below meth c s₁ B hml hv
  obtain ⟨rfl, ⟨hsz, hP, hKN, hD0⟩, hSZ⟩ := hv
  have hx := B.exec
  have hb := B.bytes
  have hr := B.returns
  have hts := atoms_spec (ws := .code yX6_become cX6_become 4 none :: GW) B.pre
  have hg : ∀ w ∈ GW, w.before _ s = true := fun w h => hts w (List.mem_cons_of_mem _ h)
  have hown : s.vm.findClass RX6 = some m.cls := findClass_of_methodNamed B.named
  have hlocks := B.notSynchronized
  subst hsz
  have hD := hD0.self (sz := s.heap.size)
  generalize hAe : va_A ws s.heap.size = A at hD hSZ ⊢
  have hA : ∀ q : Nat, s.heap.size ≤ q → A q := fun q h => by rw [← hAe]; exact Or.inr h
  clear hAe hD0 hts B
  have hl := lv_entry ([.ref p0, .ref p1]) (n := 4) (Nat.le_of_ble_eq_true rfl)
  rw [lg_entry_eq]
  generalize (lg_sl ([.ref p0, .ref p1]) ++ List.replicate (4 - (lg_sl ([.ref p0, .ref p1])).length) Slot.unset).toArray = ls at hl ⊢
  have hl : lv_has ls 4 [(0, .ref p0), (1, .ref p1)] := hl
  refine w_start (A0 := A) hP (fun H locs hP hS => ?_)
  refine ok2 hT ht0 (fun p35 x1 a2 x3 a4 x5 a6 a7 x8 a9 a10 x11 a12 x13 hk36 h14 h15 h16 h17 h18 h19 h20 h21 h22 h23 h24 h25 h26 h27 h28 h29 h30 h31 h32 h33 h34 => ?_)
  refine ok2 hT ht1 (fun p71 x37 a38 x39 a40 x41 a42 a43 x44 a45 a46 x47 a48 x49 hk72 h50 h51 h52 h53 h54 h55 h56 h57 h58 h59 h60 h61 h62 h63 h64 h65 h66 h67 h68 h69 h70 => ?_)
  have hT0 := hT
  refine lv_iconst (v := 0) hx hb dX6_become_0 (by decide) ?_
  refine lv_istore_n (lv' := [(2, .int 0), (0, .ref p0), (1, .ref p1)]) hx hb dX6_become_1 rfl hl (by decide) rfl (fun ls hl => ?_)
  have zi0 : (0 : Int32).toInt = 0 := by decide
  refine w_loopC (σ := Int32 × va_W × RT × GN × GQ) (al := 2) (sl := 604) (M := 12) (fun xx H locs ls => match xx with | (v128, w129, T130, g131, q132) => va_P D vwCl w129 H ∧ va_D A w129 ∧ va_S A s.heap H locs ∧ lv_has ls 4 [(2, .int v128), (0, .ref p0), (1, .ref p1)] ∧ TW Y Z T130 g131 q132 w129 ∧ TLe T T130 ∧ KF 1 T ws w129 ∧ KF 6 T ws w129 ∧ GE T g g131 ∧ GJ T j g g131 ∧ QJ T j q q132 ∧ g131 p1 = g p1 ∧ (SBE T130 g g131 q q132 j a2 a38 v128.toInt) ∧ (0 ≤ v128.toInt ∧ v128.toInt ≤ 12)) (fun xx => match xx with | (v128, w129, T130, g131, q132) => (12 - v128.toInt).toNat) (0, ws, T, g, q) ⟨hP, hD, hS, lv_sub hl [0, 1, 2] rfl, hT, TLe.rf, KF.rf, KF.rf, GE.rf, GJ.rf, QJ.rf, rfl, (SBE.zero (by decide)), by omega⟩ (by show (12 - (0 : Int32).toInt).toNat ≤ 12; omega) (fun xx bd262 sd263 H locs ls hI hbbd262 ih => ?_)
  obtain ⟨v128, w129, T130, g131, q132⟩ := xx
  obtain ⟨hP, hD, hS, hl, hT, le265, ke266, ke267, ge268, gj269, qj270, ho271, hv272, hq264⟩ := hI
  have hbbd262 : bd262 + 2 * ((12 - v128.toInt).toNat) ≤ 0 + 2 * 12 ∧ sd263 + 604 * ((12 - v128.toInt).toNat) ≤ 0 + 604 * 12 := hbbd262
  have ih273 := ih
  refine lv_iload_n hx hb dX6_become_2 rfl (lv_at hl 0 rfl) ?_
  refine lv_aload_n hx hb dX6_become_3 rfl (lv_at hl 2 rfl) ?_
  refine ok2 hT (le265.up ht1) (fun p308 x274 a275 x276 a277 x278 a279 a280 x281 a282 a283 x284 a285 x286 hk309 h287 h288 h289 h290 h291 h292 h293 h294 h295 h296 h297 h298 h299 h300 h301 h302 h303 h304 h305 h306 h307 => ?_)
  refine va_get (D := D) (ci := 6) (v := .int x274) (C := RX6) (T := TX6) (N := 13) hx hb hg inGX6 hown hKN.1 hP p308 hk309 rfl 0 (by decide) (hg _ kw_39) (fun _ h9 => h9) rfl dX6_become_4 ?_
  refine lv_icmp_ge (tgt := 41) hx hb dX6_become_7 (by decide) (fun c310 => ?_) (fun c310 => ?_)
  · skip
    have c310 := i_le (Eq.refl x274.toInt) (Eq.refl v128.toInt) c310
    have hx311 : (g p1 0).toInt ≤ v128.toInt := by rw [← congrFun ho271 0, h288]; omega
    refine lv_iconst (v := 0) hx hb dX6_become_41 (by decide) ?_
    refine lv_istore_n (lv' := [(2, .int 0), (0, .ref p0), (1, .ref p1)]) hx hb dX6_become_42 rfl hl (by decide) rfl (fun ls hl => ?_)
    have zi0 : (0 : Int32).toInt = 0 := by decide
    refine w_loop (σ := Int32 × va_W) (fun xx H locs ls => match xx with | (v365, w366) => va_P D vwCl w366 H ∧ va_D A w366 ∧ va_S A s.heap H locs ∧ lv_has ls 4 [(2, .int v365), (0, .ref p0), (1, .ref p1)] ∧ TW Y Z T130 g131 q132 w366 ∧ KF 1 T ws w366 ∧ KF 6 T ws w366 ∧ (0 ≤ v365.toInt ∧ v365.toInt ≤ 40)) (fun xx => match xx with | (v365, w366) => (40 - v365.toInt).toNat) (0, w129) ⟨hP, hD, hS, lv_sub hl [0, 1, 2] rfl, hT, ke266, ke267, by omega⟩ (fun xx H locs ls hI ih => ?_)
    obtain ⟨v365, w366⟩ := xx
    obtain ⟨hP, hD, hS, hl, hT, ke459, ke460, hq458⟩ := hI
    have ih461 := ih
    refine lv_iload_n hx hb dX6_become_43 rfl (lv_at hl 0 rfl) ?_
    refine lv_aload_n hx hb dX6_become_44 rfl (lv_at hl 2 rfl) ?_
    refine ok2 hT (le265.up ht1) (fun p496 x462 a463 x464 a465 x466 a467 a468 x469 a470 a471 x472 a473 x474 hk497 h475 h476 h477 h478 h479 h480 h481 h482 h483 h484 h485 h486 h487 h488 h489 h490 h491 h492 h493 h494 h495 => ?_)
    refine va_get (D := D) (ci := 6) (v := .int x464) (C := RX6) (T := TX6) (N := 13) hx hb hg inGX6 hown hKN.1 hP p496 hk497 rfl 2 (by decide) (hg _ kw_43) (fun _ h9 => h9) rfl dX6_become_45 ?_
    refine lv_icmp_ge (tgt := 75) hx hb dX6_become_48 (by decide) (fun c498 => ?_) (fun c498 => ?_)
    · skip
      have c498 := i_le (Eq.refl x464.toInt) (Eq.refl v365.toInt) c498
      refine lv_aload_n hx hb dX6_become_75 rfl (lv_at hl 1 rfl) ?_
      refine lv_aload_n hx hb dX6_become_76 rfl (lv_at hl 2 rfl) ?_
      refine va_get (D := D) (ci := 6) (v := .int x462) (C := RX6) (T := TX6) (N := 13) hx hb hg inGX6 hown hKN.1 hP p496 hk497 rfl 0 (by decide) (hg _ kw_39) (fun _ h9 => h9) rfl dX6_become_77 ?_
      have hb499 : g p1 0 = x462 := (congrFun ho271 0).symm.trans h476
      refine ok2 hT (le265.up ht0) (fun p534 x500 a501 x502 a503 x504 a505 a506 x507 a508 a509 x510 a511 x512 hk535 h513 h514 h515 h516 h517 h518 h519 h520 h521 h522 h523 h524 h525 h526 h527 h528 h529 h530 h531 h532 h533 => ?_)
      refine va_put (D := D) (ci := 6) (v := .int x462) (ty := .int) (C := RX6) (T := TX6) (N := 13) hx hb hg inGX6 tyX6 tyX6_ok nmX6 hown hKN.1 hP hD hS p534 hk535 rfl 0 (by decide) (hg _ kw_39) (fun _ h9 => h9) rfl (by decide +kernel) rfl rfl (Nat.le_of_ble_eq_true rfl) dX6_become_80 (fun H locs hP hD2 hS => ?_)
      obtain ⟨w536, g539, eg539, hP, hD, hT, hk538, kp537⟩ : ∃ wz gz, gz = gset g131 p0 0 x462 ∧ va_P D vwCl wz H ∧ va_D A wz ∧ TW Y Z T130 gz q132 wz ∧ wz[p534]? = some (p0, .inr (6, (.int x462 :: .ref a501 :: .int x502 :: .ref a503 :: .int x504 :: .ref a505 :: .ref a506 :: .int x507 :: .ref a508 :: .ref a509 :: .int x510 :: .ref a511 :: .int x512 :: []))) ∧ Kp p0 w366 wz := ⟨_, _, rfl, hP, hD2, tw_sg (k := 2) (g2 := gset g131 p0 0 x462) (q2 := q132) hT hD hk535 (le265.up ht0) (fun _ hc => gset_ne hc) (fun _ _ => rfl) (show Sh2 Y Z T130 ((gset g131 p0 0 x462) p0) (q132 p0) j 0 _ from ⟨x462, a501, x502, a503, x504, a505, a506, x507, a508, a509, x510, a511, x512, rfl, by omega, gs_eq, h515, h516, by omega, ((gs_ne (by decide)).trans h518), h519, by omega, ((gs_ne (by decide)).trans h521), h522, h523, h524, h525, by omega, ((gs_ne (by decide)).trans h527), h528, h529, by omega, ((gs_ne (by decide)).trans h531), h532, by omega⟩), sw_eq hk535, sw_kp hk535⟩
      have hg540 : g539 p0 0 = x462 := by rw [eg539]; exact gs_eq
      have hg541 : g539 p0 2 = x502 := by rw [eg539]; exact ((gs_ne (by decide)).trans h518)
      have hg542 : g539 p0 4 = x504 := by rw [eg539]; exact ((gs_ne (by decide)).trans h521)
      have hg543 : g539 p0 7 = x507 := by rw [eg539]; exact ((gs_ne (by decide)).trans h527)
      have hg544 : g539 p0 10 = x510 := by rw [eg539]; exact ((gs_ne (by decide)).trans h531)
      have ho545 : g539 p1 = g p1 := Eq.trans (b := g131 p1) (by rw [eg539, gset_ne (rne2 ht1 ht0 hj)]) ho271
      have gj546 : GJ T j g g539 := GJ.tr gj269 (GJ.le le265 (GJ.st eg539 (le265.up ht0)))
      have ke547 : KF 1 T ws w536 := KF.tr ke459 (KF.le (by decide) le265 (KF.kp kp537 (le265.up ht0) (by decide)))
      have ke548 : KF 6 T ws w536 := KF.tr ke460 (KF.le (by decide) le265 (KF.kp kp537 (le265.up ht0) (by decide)))
      refine lv_aload_n hx hb dX6_become_83 rfl (lv_at hl 1 rfl) ?_
      refine lv_aload_n hx hb dX6_become_84 rfl (lv_at hl 2 rfl) ?_
      refine ok2 hT (le265.up ht1) (fun p583 x549 a550 x551 a552 x553 a554 a555 x556 a557 a558 x559 a560 x561 hk584 h562 h563 h564 h565 h566 h567 h568 h569 h570 h571 h572 h573 h574 h575 h576 h577 h578 h579 h580 h581 h582 => ?_)
      refine va_get (D := D) (ci := 6) (v := .int x551) (C := RX6) (T := TX6) (N := 13) hx hb hg inGX6 hown hKN.1 hP p583 hk584 rfl 2 (by decide) (hg _ kw_43) (fun _ h9 => h9) rfl dX6_become_85 ?_
      have hb585 : g p1 2 = x551 := (congrFun ho545 2).symm.trans h567
      refine va_put (D := D) (ci := 6) (v := .int x551) (ty := .int) (C := RX6) (T := TX6) (N := 13) hx hb hg inGX6 tyX6 tyX6_ok nmX6 hown hKN.1 hP hD hS p534 hk538 rfl 2 (by decide) (hg _ kw_43) (fun _ h9 => h9) rfl (by decide +kernel) rfl rfl (Nat.le_of_ble_eq_true rfl) dX6_become_88 (fun H locs hP hD2 hS => ?_)
      obtain ⟨w586, g589, eg589, hP, hD, hT, hk588, kp587⟩ : ∃ wz gz, gz = gset g539 p0 2 x551 ∧ va_P D vwCl wz H ∧ va_D A wz ∧ TW Y Z T130 gz q132 wz ∧ wz[p534]? = some (p0, .inr (6, (.int x462 :: .ref a501 :: .int x551 :: .ref a503 :: .int x504 :: .ref a505 :: .ref a506 :: .int x507 :: .ref a508 :: .ref a509 :: .int x510 :: .ref a511 :: .int x512 :: []))) ∧ Kp p0 w536 wz := ⟨_, _, rfl, hP, hD2, tw_sg (k := 2) (g2 := gset g539 p0 2 x551) (q2 := q132) hT hD hk538 (le265.up ht0) (fun _ hc => gset_ne hc) (fun _ _ => rfl) (show Sh2 Y Z T130 ((gset g539 p0 2 x551) p0) (q132 p0) j 0 _ from ⟨x462, a501, x551, a503, x504, a505, a506, x507, a508, a509, x510, a511, x512, rfl, by omega, ((gs_ne (by decide)).trans hg540), h515, h516, by omega, gs_eq, h519, by omega, ((gs_ne (by decide)).trans hg542), h522, h523, h524, h525, by omega, ((gs_ne (by decide)).trans hg543), h528, h529, by omega, ((gs_ne (by decide)).trans hg544), h532, by omega⟩), sw_eq hk538, sw_kp hk538⟩
      have hg590 : g589 p0 0 = x462 := by rw [eg589]; exact ((gs_ne (by decide)).trans hg540)
      have hg591 : g589 p0 2 = x551 := by rw [eg589]; exact gs_eq
      have hg592 : g589 p0 4 = x504 := by rw [eg589]; exact ((gs_ne (by decide)).trans hg542)
      have hg593 : g589 p0 7 = x507 := by rw [eg589]; exact ((gs_ne (by decide)).trans hg543)
      have hg594 : g589 p0 10 = x510 := by rw [eg589]; exact ((gs_ne (by decide)).trans hg544)
      have ho595 : g589 p1 = g p1 := Eq.trans (b := g539 p1) (by rw [eg589, gset_ne (rne2 ht1 ht0 hj)]) ho545
      have gj596 : GJ T j g g589 := GJ.tr gj546 (GJ.le le265 (GJ.st eg589 (le265.up ht0)))
      have ke597 : KF 1 T ws w586 := KF.tr ke547 (KF.le (by decide) le265 (KF.kp kp587 (le265.up ht0) (by decide)))
      have ke598 : KF 6 T ws w586 := KF.tr ke548 (KF.le (by decide) le265 (KF.kp kp587 (le265.up ht0) (by decide)))
      refine lv_aload_n hx hb dX6_become_91 rfl (lv_at hl 1 rfl) ?_
      refine lv_aload_n hx hb dX6_become_92 rfl (lv_at hl 2 rfl) ?_
      refine ok2 hT (le265.up ht1) (fun p633 x599 a600 x601 a602 x603 a604 a605 x606 a607 a608 x609 a610 x611 hk634 h612 h613 h614 h615 h616 h617 h618 h619 h620 h621 h622 h623 h624 h625 h626 h627 h628 h629 h630 h631 h632 => ?_)
      refine va_get (D := D) (ci := 6) (v := .int x603) (C := RX6) (T := TX6) (N := 13) hx hb hg inGX6 hown hKN.1 hP p633 hk634 rfl 4 (by decide) (hg _ kw_47) (fun _ h9 => h9) rfl dX6_become_93 ?_
      have hb635 : g p1 4 = x603 := (congrFun ho595 4).symm.trans h620
      refine va_put (D := D) (ci := 6) (v := .int x603) (ty := .int) (C := RX6) (T := TX6) (N := 13) hx hb hg inGX6 tyX6 tyX6_ok nmX6 hown hKN.1 hP hD hS p534 hk588 rfl 4 (by decide) (hg _ kw_47) (fun _ h9 => h9) rfl (by decide +kernel) rfl rfl (Nat.le_of_ble_eq_true rfl) dX6_become_96 (fun H locs hP hD2 hS => ?_)
      obtain ⟨w636, g639, eg639, hP, hD, hT, hk638, kp637⟩ : ∃ wz gz, gz = gset g589 p0 4 x603 ∧ va_P D vwCl wz H ∧ va_D A wz ∧ TW Y Z T130 gz q132 wz ∧ wz[p534]? = some (p0, .inr (6, (.int x462 :: .ref a501 :: .int x551 :: .ref a503 :: .int x603 :: .ref a505 :: .ref a506 :: .int x507 :: .ref a508 :: .ref a509 :: .int x510 :: .ref a511 :: .int x512 :: []))) ∧ Kp p0 w586 wz := ⟨_, _, rfl, hP, hD2, tw_sg (k := 2) (g2 := gset g589 p0 4 x603) (q2 := q132) hT hD hk588 (le265.up ht0) (fun _ hc => gset_ne hc) (fun _ _ => rfl) (show Sh2 Y Z T130 ((gset g589 p0 4 x603) p0) (q132 p0) j 0 _ from ⟨x462, a501, x551, a503, x603, a505, a506, x507, a508, a509, x510, a511, x512, rfl, by omega, ((gs_ne (by decide)).trans hg590), h515, h516, by omega, ((gs_ne (by decide)).trans hg591), h519, by omega, gs_eq, h522, h523, h524, h525, by omega, ((gs_ne (by decide)).trans hg593), h528, h529, by omega, ((gs_ne (by decide)).trans hg594), h532, by omega⟩), sw_eq hk588, sw_kp hk588⟩
      have hg640 : g639 p0 0 = x462 := by rw [eg639]; exact ((gs_ne (by decide)).trans hg590)
      have hg641 : g639 p0 2 = x551 := by rw [eg639]; exact ((gs_ne (by decide)).trans hg591)
      have hg642 : g639 p0 4 = x603 := by rw [eg639]; exact gs_eq
      have hg643 : g639 p0 7 = x507 := by rw [eg639]; exact ((gs_ne (by decide)).trans hg593)
      have hg644 : g639 p0 10 = x510 := by rw [eg639]; exact ((gs_ne (by decide)).trans hg594)
      have ho645 : g639 p1 = g p1 := Eq.trans (b := g589 p1) (by rw [eg639, gset_ne (rne2 ht1 ht0 hj)]) ho595
      have gj646 : GJ T j g g639 := GJ.tr gj596 (GJ.le le265 (GJ.st eg639 (le265.up ht0)))
      have ke647 : KF 1 T ws w636 := KF.tr ke597 (KF.le (by decide) le265 (KF.kp kp637 (le265.up ht0) (by decide)))
      have ke648 : KF 6 T ws w636 := KF.tr ke598 (KF.le (by decide) le265 (KF.kp kp637 (le265.up ht0) (by decide)))
      refine lv_aload_n hx hb dX6_become_99 rfl (lv_at hl 1 rfl) ?_
      refine lv_aload_n hx hb dX6_become_100 rfl (lv_at hl 2 rfl) ?_
      refine ok2 hT (le265.up ht1) (fun p683 x649 a650 x651 a652 x653 a654 a655 x656 a657 a658 x659 a660 x661 hk684 h662 h663 h664 h665 h666 h667 h668 h669 h670 h671 h672 h673 h674 h675 h676 h677 h678 h679 h680 h681 h682 => ?_)
      refine va_get (D := D) (ci := 6) (v := .int x656) (C := RX6) (T := TX6) (N := 13) hx hb hg inGX6 hown hKN.1 hP p683 hk684 rfl 7 (by decide) (hg _ kw_53) (fun _ h9 => h9) rfl dX6_become_101 ?_
      have hb685 : g p1 7 = x656 := (congrFun ho645 7).symm.trans h676
      refine va_put (D := D) (ci := 6) (v := .int x656) (ty := .int) (C := RX6) (T := TX6) (N := 13) hx hb hg inGX6 tyX6 tyX6_ok nmX6 hown hKN.1 hP hD hS p534 hk638 rfl 7 (by decide) (hg _ kw_53) (fun _ h9 => h9) rfl (by decide +kernel) rfl rfl (Nat.le_of_ble_eq_true rfl) dX6_become_104 (fun H locs hP hD2 hS => ?_)
      obtain ⟨w686, g689, eg689, hP, hD, hT, hk688, kp687⟩ : ∃ wz gz, gz = gset g639 p0 7 x656 ∧ va_P D vwCl wz H ∧ va_D A wz ∧ TW Y Z T130 gz q132 wz ∧ wz[p534]? = some (p0, .inr (6, (.int x462 :: .ref a501 :: .int x551 :: .ref a503 :: .int x603 :: .ref a505 :: .ref a506 :: .int x656 :: .ref a508 :: .ref a509 :: .int x510 :: .ref a511 :: .int x512 :: []))) ∧ Kp p0 w636 wz := ⟨_, _, rfl, hP, hD2, tw_sg (k := 2) (g2 := gset g639 p0 7 x656) (q2 := q132) hT hD hk638 (le265.up ht0) (fun _ hc => gset_ne hc) (fun _ _ => rfl) (show Sh2 Y Z T130 ((gset g639 p0 7 x656) p0) (q132 p0) j 0 _ from ⟨x462, a501, x551, a503, x603, a505, a506, x656, a508, a509, x510, a511, x512, rfl, by omega, ((gs_ne (by decide)).trans hg640), h515, h516, by omega, ((gs_ne (by decide)).trans hg641), h519, by omega, ((gs_ne (by decide)).trans hg642), h522, h523, h524, h525, by omega, gs_eq, h528, h529, by omega, ((gs_ne (by decide)).trans hg644), h532, by omega⟩), sw_eq hk638, sw_kp hk638⟩
      have hg690 : g689 p0 0 = x462 := by rw [eg689]; exact ((gs_ne (by decide)).trans hg640)
      have hg691 : g689 p0 2 = x551 := by rw [eg689]; exact ((gs_ne (by decide)).trans hg641)
      have hg692 : g689 p0 4 = x603 := by rw [eg689]; exact ((gs_ne (by decide)).trans hg642)
      have hg693 : g689 p0 7 = x656 := by rw [eg689]; exact gs_eq
      have hg694 : g689 p0 10 = x510 := by rw [eg689]; exact ((gs_ne (by decide)).trans hg644)
      have ho695 : g689 p1 = g p1 := Eq.trans (b := g639 p1) (by rw [eg689, gset_ne (rne2 ht1 ht0 hj)]) ho645
      have gj696 : GJ T j g g689 := GJ.tr gj646 (GJ.le le265 (GJ.st eg689 (le265.up ht0)))
      have ke697 : KF 1 T ws w686 := KF.tr ke647 (KF.le (by decide) le265 (KF.kp kp687 (le265.up ht0) (by decide)))
      have ke698 : KF 6 T ws w686 := KF.tr ke648 (KF.le (by decide) le265 (KF.kp kp687 (le265.up ht0) (by decide)))
      refine lv_aload_n hx hb dX6_become_107 rfl (lv_at hl 1 rfl) ?_
      refine lv_aload_n hx hb dX6_become_108 rfl (lv_at hl 2 rfl) ?_
      refine ok2 hT (le265.up ht1) (fun p733 x699 a700 x701 a702 x703 a704 a705 x706 a707 a708 x709 a710 x711 hk734 h712 h713 h714 h715 h716 h717 h718 h719 h720 h721 h722 h723 h724 h725 h726 h727 h728 h729 h730 h731 h732 => ?_)
      refine va_get (D := D) (ci := 6) (v := .int x709) (C := RX6) (T := TX6) (N := 13) hx hb hg inGX6 hown hKN.1 hP p733 hk734 rfl 10 (by decide) (hg _ kw_64) (fun _ h9 => h9) rfl dX6_become_109 ?_
      have hb735 : g p1 10 = x709 := (congrFun ho695 10).symm.trans h730
      refine va_put (D := D) (ci := 6) (v := .int x709) (ty := .int) (C := RX6) (T := TX6) (N := 13) hx hb hg inGX6 tyX6 tyX6_ok nmX6 hown hKN.1 hP hD hS p534 hk688 rfl 10 (by decide) (hg _ kw_64) (fun _ h9 => h9) rfl (by decide +kernel) rfl rfl (Nat.le_of_ble_eq_true rfl) dX6_become_112 (fun H locs hP hD2 hS => ?_)
      obtain ⟨w736, g739, eg739, hP, hD, hT, hk738, kp737⟩ : ∃ wz gz, gz = gset g689 p0 10 x709 ∧ va_P D vwCl wz H ∧ va_D A wz ∧ TW Y Z T130 gz q132 wz ∧ wz[p534]? = some (p0, .inr (6, (.int x462 :: .ref a501 :: .int x551 :: .ref a503 :: .int x603 :: .ref a505 :: .ref a506 :: .int x656 :: .ref a508 :: .ref a509 :: .int x709 :: .ref a511 :: .int x512 :: []))) ∧ Kp p0 w686 wz := ⟨_, _, rfl, hP, hD2, tw_sg (k := 2) (g2 := gset g689 p0 10 x709) (q2 := q132) hT hD hk688 (le265.up ht0) (fun _ hc => gset_ne hc) (fun _ _ => rfl) (show Sh2 Y Z T130 ((gset g689 p0 10 x709) p0) (q132 p0) j 0 _ from ⟨x462, a501, x551, a503, x603, a505, a506, x656, a508, a509, x709, a511, x512, rfl, by omega, ((gs_ne (by decide)).trans hg690), h515, h516, by omega, ((gs_ne (by decide)).trans hg691), h519, by omega, ((gs_ne (by decide)).trans hg692), h522, h523, h524, h525, by omega, ((gs_ne (by decide)).trans hg693), h528, h529, by omega, gs_eq, h532, by omega⟩), sw_eq hk688, sw_kp hk688⟩
      have hg740 : g739 p0 0 = x462 := by rw [eg739]; exact ((gs_ne (by decide)).trans hg690)
      have hg741 : g739 p0 2 = x551 := by rw [eg739]; exact ((gs_ne (by decide)).trans hg691)
      have hg742 : g739 p0 4 = x603 := by rw [eg739]; exact ((gs_ne (by decide)).trans hg692)
      have hg743 : g739 p0 7 = x656 := by rw [eg739]; exact ((gs_ne (by decide)).trans hg693)
      have hg744 : g739 p0 10 = x709 := by rw [eg739]; exact gs_eq
      have ho745 : g739 p1 = g p1 := Eq.trans (b := g689 p1) (by rw [eg739, gset_ne (rne2 ht1 ht0 hj)]) ho695
      have gj746 : GJ T j g g739 := GJ.tr gj696 (GJ.le le265 (GJ.st eg739 (le265.up ht0)))
      have ke747 : KF 1 T ws w736 := KF.tr ke697 (KF.le (by decide) le265 (KF.kp kp737 (le265.up ht0) (by decide)))
      have ke748 : KF 6 T ws w736 := KF.tr ke698 (KF.le (by decide) le265 (KF.kp kp737 (le265.up ht0) (by decide)))
      refine lv_aload_n hx hb dX6_become_115 rfl (lv_at hl 1 rfl) ?_
      refine lv_aload_n hx hb dX6_become_116 rfl (lv_at hl 2 rfl) ?_
      refine ok2 hT (le265.up ht1) (fun p783 x749 a750 x751 a752 x753 a754 a755 x756 a757 a758 x759 a760 x761 hk784 h762 h763 h764 h765 h766 h767 h768 h769 h770 h771 h772 h773 h774 h775 h776 h777 h778 h779 h780 h781 h782 => ?_)
      refine va_get (D := D) (ci := 6) (v := .int x761) (C := RX6) (T := TX6) (N := 13) hx hb hg inGX6 hown hKN.1 hP p783 hk784 rfl 12 (by decide) (hg _ kw_67) (fun _ h9 => h9) rfl dX6_become_117 ?_
      refine va_put (D := D) (ci := 6) (v := .int x761) (ty := .int) (C := RX6) (T := TX6) (N := 13) hx hb hg inGX6 tyX6 tyX6_ok nmX6 hown hKN.1 hP hD hS p534 hk738 rfl 12 (by decide) (hg _ kw_67) (fun _ h9 => h9) rfl (by decide +kernel) rfl rfl (Nat.le_of_ble_eq_true rfl) dX6_become_120 (fun H locs hP hD2 hS => ?_)
      obtain ⟨w785, hP, hD, hT, hk787, kp786⟩ : ∃ wz, va_P D vwCl wz H ∧ va_D A wz ∧ TW Y Z T130 g739 q132 wz ∧ wz[p534]? = some (p0, .inr (6, (.int x462 :: .ref a501 :: .int x551 :: .ref a503 :: .int x603 :: .ref a505 :: .ref a506 :: .int x656 :: .ref a508 :: .ref a509 :: .int x709 :: .ref a511 :: .int x761 :: []))) ∧ Kp p0 w736 wz := ⟨_, hP, hD2, st2 hT hD hk738 (le265.up ht0) ⟨x462, a501, x551, a503, x603, a505, a506, x656, a508, a509, x709, a511, x761, rfl, by omega, hg740, h515, h516, by omega, hg741, h519, by omega, hg742, h522, h523, h524, h525, by omega, hg743, h528, h529, by omega, hg744, h532, by omega⟩, sw_eq hk738, sw_kp hk738⟩
      have ke788 : KF 1 T ws w785 := KF.tr ke747 (KF.le (by decide) le265 (KF.kp kp786 (le265.up ht0) (by decide)))
      have ke789 : KF 6 T ws w785 := KF.tr ke748 (KF.le (by decide) le265 (KF.kp kp786 (le265.up ht0) (by decide)))
      refine lv_aload_n hx hb dX6_become_123 rfl (lv_at hl 2 rfl) ?_
      refine ok2 hT (le265.up ht1) (fun p824 x790 a791 x792 a793 x794 a795 a796 x797 a798 a799 x800 a801 x802 hk825 h803 h804 h805 h806 h807 h808 h809 h810 h811 h812 h813 h814 h815 h816 h817 h818 h819 h820 h821 h822 h823 => ?_)
      refine va_get (D := D) (ci := 6) (v := .ref a795) (C := RX6) (T := TX6) (N := 13) hx hb hg inGX6 hown hKN.1 hP p824 hk825 rfl 5 (by decide) (hg _ kw_49) (fun _ h9 => h9) rfl dX6_become_124 ?_
      refine lv_iconst (v := 0) hx hb dX6_become_127 (by decide) ?_
      refine lv_aload_n hx hb dX6_become_128 rfl (lv_at hl 1 rfl) ?_
      refine va_get (D := D) (ci := 6) (v := .ref a505) (C := RX6) (T := TX6) (N := 13) hx hb hg inGX6 hown hKN.1 hP p534 hk787 rfl 5 (by decide) (hg _ kw_49) (fun _ h9 => h9) rfl dX6_become_129 ?_
      refine lv_iconst (v := 0) hx hb dX6_become_132 (by decide) ?_
      refine lv_bipush (v := 12) hx hb dX6_become_133 (by decide) ?_
      have zi12 : (12 : Int32).toInt = 12 := by decide
      have zi0 : (0 : Int32).toInt = 0 := by decide
      refine tr_cp14 hx hb (hml.trans hl.1.symm) hown (hg _ kw_1197) (hg _ kw_520) (hg _ kw_519) (hg _ kw_13) hKN hP hD hS hT h812 h522 (by decide) (by decide) (by decide) (by decide) (by decide) (Nat.le_of_ble_eq_true rfl) (Nat.le_of_ble_eq_true rfl) dX6_become_135 (fun w826 H locs hP hD hS hT kp827 => ?_)
      have ke828 : KF 1 T ws w826 := KF.tr ke788 (KF.le (by decide) le265 (KF.kp kp827 h522 (by decide)))
      have ke829 : KF 6 T ws w826 := KF.tr ke789 (KF.le (by decide) le265 (KF.kp kp827 h522 (by decide)))
      have hk830 := kp827 _ _ hk787 (rne (le265.up ht0) h522 (by decide))
      have hk831 := kp827 _ _ hk825 (rne (le265.up ht1) h522 (by decide))
      obtain ⟨g832, eg832, hT⟩ : ∃ gz, gz = gcpy g739 a795 a505 0 0 12 ∧ TW Y Z T130 gz q132 w826 := ⟨_, rfl, hT⟩
      have ho833 : g832 p1 = g p1 := Eq.trans (b := g739 p1) (by rw [eg832, gcpy_ne (rne (le265.up ht1) h522 (by decide))]) ho745
      have gj834 : GJ T j g g832 := GJ.tr gj746 (GJ.le le265 (GJ.cp eg832 h522))
      have hg835 : g832 p0 0 = x462 := by rw [eg832, gcpy_ne (rne (le265.up ht0) h522 (by decide))]; exact hg740
      have hg836 : g832 p0 2 = x551 := by rw [eg832, gcpy_ne (rne (le265.up ht0) h522 (by decide))]; exact hg741
      have hg837 : g832 p0 4 = x603 := by rw [eg832, gcpy_ne (rne (le265.up ht0) h522 (by decide))]; exact hg742
      have hg838 : g832 p0 7 = x656 := by rw [eg832, gcpy_ne (rne (le265.up ht0) h522 (by decide))]; exact hg743
      have hg839 : g832 p0 10 = x709 := by rw [eg832, gcpy_ne (rne (le265.up ht0) h522 (by decide))]; exact hg744
      have hg840 : g832 p1 0 = x790 := by rw [eg832, gcpy_ne (rne (le265.up ht1) h522 (by decide))]; exact h804
      have hg841 : g832 p1 2 = x792 := by rw [eg832, gcpy_ne (rne (le265.up ht1) h522 (by decide))]; exact h808
      have hg842 : g832 p1 4 = x794 := by rw [eg832, gcpy_ne (rne (le265.up ht1) h522 (by decide))]; exact h811
      have hg843 : g832 p1 7 = x797 := by rw [eg832, gcpy_ne (rne (le265.up ht1) h522 (by decide))]; exact h817
      have hg844 : g832 p1 10 = x800 := by rw [eg832, gcpy_ne (rne (le265.up ht1) h522 (by decide))]; exact h821
      refine lv_aload_n hx hb dX6_become_138 rfl (lv_at hl 2 rfl) ?_
      refine va_get (D := D) (ci := 6) (v := .ref a796) (C := RX6) (T := TX6) (N := 13) hx hb hg inGX6 hown hKN.1 hP p824 hk831 rfl 6 (by decide) (hg _ kw_51) (fun _ h9 => h9) rfl dX6_become_139 ?_
      refine lv_iconst (v := 0) hx hb dX6_become_142 (by decide) ?_
      refine lv_aload_n hx hb dX6_become_143 rfl (lv_at hl 1 rfl) ?_
      refine va_get (D := D) (ci := 6) (v := .ref a506) (C := RX6) (T := TX6) (N := 13) hx hb hg inGX6 hown hKN.1 hP p534 hk830 rfl 6 (by decide) (hg _ kw_51) (fun _ h9 => h9) rfl dX6_become_144 ?_
      refine lv_iconst (v := 0) hx hb dX6_become_147 (by decide) ?_
      refine lv_bipush (v := 12) hx hb dX6_become_148 (by decide) ?_
      refine tr_cp14 hx hb (hml.trans hl.1.symm) hown (hg _ kw_1197) (hg _ kw_520) (hg _ kw_519) (hg _ kw_13) hKN hP hD hS hT h814 h524 (by decide) (by decide) (by decide) (by decide) (by decide) (Nat.le_of_ble_eq_true rfl) (Nat.le_of_ble_eq_true rfl) dX6_become_150 (fun w845 H locs hP hD hS hT kp846 => ?_)
      have ke847 : KF 1 T ws w845 := KF.tr ke828 (KF.le (by decide) le265 (KF.kp kp846 h524 (by decide)))
      have ke848 : KF 6 T ws w845 := KF.tr ke829 (KF.le (by decide) le265 (KF.kp kp846 h524 (by decide)))
      have hk849 := kp846 _ _ hk830 (rne (le265.up ht0) h524 (by decide))
      have hk850 := kp846 _ _ hk831 (rne (le265.up ht1) h524 (by decide))
      obtain ⟨g851, eg851, hT⟩ : ∃ gz, gz = gcpy g832 a796 a506 0 0 12 ∧ TW Y Z T130 gz q132 w845 := ⟨_, rfl, hT⟩
      have ho852 : g851 p1 = g p1 := Eq.trans (b := g832 p1) (by rw [eg851, gcpy_ne (rne (le265.up ht1) h524 (by decide))]) ho833
      have gj853 : GJ T j g g851 := GJ.tr gj834 (GJ.le le265 (GJ.cp eg851 h524))
      have hg854 : g851 p0 0 = x462 := by rw [eg851, gcpy_ne (rne (le265.up ht0) h524 (by decide))]; exact hg835
      have hg855 : g851 p0 2 = x551 := by rw [eg851, gcpy_ne (rne (le265.up ht0) h524 (by decide))]; exact hg836
      have hg856 : g851 p0 4 = x603 := by rw [eg851, gcpy_ne (rne (le265.up ht0) h524 (by decide))]; exact hg837
      have hg857 : g851 p0 7 = x656 := by rw [eg851, gcpy_ne (rne (le265.up ht0) h524 (by decide))]; exact hg838
      have hg858 : g851 p0 10 = x709 := by rw [eg851, gcpy_ne (rne (le265.up ht0) h524 (by decide))]; exact hg839
      have hg859 : g851 p1 0 = x790 := by rw [eg851, gcpy_ne (rne (le265.up ht1) h524 (by decide))]; exact hg840
      have hg860 : g851 p1 2 = x792 := by rw [eg851, gcpy_ne (rne (le265.up ht1) h524 (by decide))]; exact hg841
      have hg861 : g851 p1 4 = x794 := by rw [eg851, gcpy_ne (rne (le265.up ht1) h524 (by decide))]; exact hg842
      have hg862 : g851 p1 7 = x797 := by rw [eg851, gcpy_ne (rne (le265.up ht1) h524 (by decide))]; exact hg843
      have hg863 : g851 p1 10 = x800 := by rw [eg851, gcpy_ne (rne (le265.up ht1) h524 (by decide))]; exact hg844
      refine lv_aload_n hx hb dX6_become_153 rfl (lv_at hl 2 rfl) ?_
      refine va_get (D := D) (ci := 6) (v := .ref a798) (C := RX6) (T := TX6) (N := 13) hx hb hg inGX6 hown hKN.1 hP p824 hk850 rfl 8 (by decide) (hg _ kw_56) (fun _ h9 => h9) rfl dX6_become_154 ?_
      refine lv_iconst (v := 0) hx hb dX6_become_157 (by decide) ?_
      refine lv_aload_n hx hb dX6_become_158 rfl (lv_at hl 1 rfl) ?_
      refine va_get (D := D) (ci := 6) (v := .ref a508) (C := RX6) (T := TX6) (N := 13) hx hb hg inGX6 hown hKN.1 hP p534 hk849 rfl 8 (by decide) (hg _ kw_56) (fun _ h9 => h9) rfl dX6_become_159 ?_
      refine lv_iconst (v := 0) hx hb dX6_become_162 (by decide) ?_
      refine lv_bipush (v := 8) hx hb dX6_become_163 (by decide) ?_
      have zi8 : (8 : Int32).toInt = 8 := by decide
      refine tr_cp12 hx hb (hml.trans hl.1.symm) hown (hg _ kw_1197) (hg _ kw_520) (hg _ kw_519) (hg _ kw_13) hKN hP hD hS hT h818 h528 (by decide) (by decide) (by decide) (by decide) (by decide) (Nat.le_of_ble_eq_true rfl) (Nat.le_of_ble_eq_true rfl) dX6_become_165 (fun w864 H locs hP hD hS hT kp865 => ?_)
      have ke866 : KF 1 T ws w864 := KF.tr ke847 (KF.le (by decide) le265 (KF.kp kp865 h528 (by decide)))
      have ke867 : KF 6 T ws w864 := KF.tr ke848 (KF.le (by decide) le265 (KF.kp kp865 h528 (by decide)))
      have hk868 := kp865 _ _ hk849 (rne (le265.up ht0) h528 (by decide))
      have hk869 := kp865 _ _ hk850 (rne (le265.up ht1) h528 (by decide))
      refine lv_aload_n hx hb dX6_become_168 rfl (lv_at hl 2 rfl) ?_
      refine va_get (D := D) (ci := 6) (v := .ref a799) (C := RX6) (T := TX6) (N := 13) hx hb hg inGX6 hown hKN.1 hP p824 hk869 rfl 9 (by decide) (hg _ kw_59) (fun _ h9 => h9) rfl dX6_become_169 ?_
      refine lv_iconst (v := 0) hx hb dX6_become_172 (by decide) ?_
      refine lv_aload_n hx hb dX6_become_173 rfl (lv_at hl 1 rfl) ?_
      refine va_get (D := D) (ci := 6) (v := .ref a509) (C := RX6) (T := TX6) (N := 13) hx hb hg inGX6 hown hKN.1 hP p534 hk868 rfl 9 (by decide) (hg _ kw_59) (fun _ h9 => h9) rfl dX6_become_174 ?_
      refine lv_iconst (v := 0) hx hb dX6_become_177 (by decide) ?_
      refine lv_bipush (v := 8) hx hb dX6_become_178 (by decide) ?_
      refine tr_cp12 hx hb (hml.trans hl.1.symm) hown (hg _ kw_1197) (hg _ kw_520) (hg _ kw_519) (hg _ kw_13) hKN hP hD hS hT h819 h529 (by decide) (by decide) (by decide) (by decide) (by decide) (Nat.le_of_ble_eq_true rfl) (Nat.le_of_ble_eq_true rfl) dX6_become_180 (fun w870 H locs hP hD hS hT kp871 => ?_)
      have ke872 : KF 1 T ws w870 := KF.tr ke866 (KF.le (by decide) le265 (KF.kp kp871 h529 (by decide)))
      have ke873 : KF 6 T ws w870 := KF.tr ke867 (KF.le (by decide) le265 (KF.kp kp871 h529 (by decide)))
      have hk874 := kp871 _ _ hk868 (rne (le265.up ht0) h529 (by decide))
      have hk875 := kp871 _ _ hk869 (rne (le265.up ht1) h529 (by decide))
      refine lv_aload_n hx hb dX6_become_183 rfl (lv_at hl 2 rfl) ?_
      refine va_get (D := D) (ci := 6) (v := .ref a801) (C := RX6) (T := TX6) (N := 13) hx hb hg inGX6 hown hKN.1 hP p824 hk875 rfl 11 (by decide) (hg _ kw_65) (fun _ h9 => h9) rfl dX6_become_184 ?_
      refine lv_iconst (v := 0) hx hb dX6_become_187 (by decide) ?_
      refine lv_aload_n hx hb dX6_become_188 rfl (lv_at hl 1 rfl) ?_
      refine va_get (D := D) (ci := 6) (v := .ref a511) (C := RX6) (T := TX6) (N := 13) hx hb hg inGX6 hown hKN.1 hP p534 hk874 rfl 11 (by decide) (hg _ kw_65) (fun _ h9 => h9) rfl dX6_become_189 ?_
      refine lv_iconst (v := 0) hx hb dX6_become_192 (by decide) ?_
      refine lv_sipush (v := 400) hx hb dX6_become_193 (by decide) ?_
      have zi400 : (400 : Int32).toInt = 400 := by decide
      refine tr_cp16 hx hb (hml.trans hl.1.symm) hown (hg _ kw_1197) (hg _ kw_520) (hg _ kw_519) (hg _ kw_13) hKN hP hD hS hT h822 h532 (by decide) (by decide) (by decide) (by decide) (by decide) (Nat.le_of_ble_eq_true rfl) (Nat.le_of_ble_eq_true rfl) dX6_become_196 (fun w876 H locs hP hD hS hT kp877 => ?_)
      have ke878 : KF 1 T ws w876 := KF.tr ke872 (KF.le (by decide) le265 (KF.kp kp877 h532 (by decide)))
      have ke879 : KF 6 T ws w876 := KF.tr ke873 (KF.le (by decide) le265 (KF.kp kp877 h532 (by decide)))
      have hk880 := kp877 _ _ hk874 (rne (le265.up ht0) h532 (by decide))
      have hk881 := kp877 _ _ hk875 (rne (le265.up ht1) h532 (by decide))
      refine W.widen (k := 24) (n := 7248) (by omega) (by omega) ?_
      exact W.vret hx hb hr (fun t ht hW => ⟨⟨(w876, T130, g851, q132), rfl, ⟨le265, hT, ke878, ke879, gj853, qj270, (show BRW g g851 q p0 p1 from (BRW.of hT0 ht1 ht0 le265 hj gj746 eg832 eg851 ((congrFun (qj270 p0 (by rw [ht0]; exact Nat.succ_ne_zero _) (Or.inl (by rw [ht0]; show (2 : Nat) ≠ 17; decide))) 5).symm.trans h523) ((congrFun (qj270 p1 (by rw [ht1]; exact Nat.succ_ne_zero _) (Or.inl (by rw [ht1]; show (2 : Nat) ≠ 17; decide))) 5).symm.trans h813) ((congrFun (qj270 p0 (by rw [ht0]; exact Nat.succ_ne_zero _) (Or.inl (by rw [ht0]; show (2 : Nat) ≠ 17; decide))) 6).symm.trans h525) ((congrFun (qj270 p1 (by rw [ht1]; exact Nat.succ_ne_zero _) (Or.inl (by rw [ht1]; show (2 : Nat) ≠ 17; decide))) 6).symm.trans h815))), (show BE5 g g851 p0 p1 ∧ ∀ sr srf, q p0 1 = some sr → q p1 1 = some srf → SBE T130 g g851 q q132 j sr srf (g p1 0).toInt from ⟨⟨(hg854).trans hb499.symm, (hg855).trans hb585.symm, (hg856).trans hb635.symm, (hg857).trans hb685.symm, (hg858).trans hb735.symm⟩, fun sr srf hs hf => by obtain rfl : sr = a2 := Option.some.inj (hs.symm.trans h17); obtain rfl : srf = a38 := Option.some.inj (hf.symm.trans h53); exact (SBE.mono hv272 hx311).g3 (G3.tr (G3.tr (G3.tr (G3.tr (G3.tr (G3.tr (G3.tr G3.rf (G3.st eg539 (le265.up ht0) (by decide))) (G3.st eg589 (le265.up ht0) (by decide))) (G3.st eg639 (le265.up ht0) (by decide))) (G3.st eg689 (le265.up ht0) (by decide))) (G3.st eg739 (le265.up ht0) (by decide))) (G3.cp eg832 h522 (by decide))) (G3.cp eg851 h524 (by decide)))⟩)⟩, CB.mk ht hP hD⟩, hS.F ht⟩) hS.2.2 dX6_become_199
    · skip
      have c498 := i_nle (Eq.refl x464.toInt) (Eq.refl v365.toInt) c498
      refine lv_iload_n hx hb dX6_become_51 rfl (lv_at hl 0 rfl) ?_
      refine lv_bipush (v := 40) hx hb dX6_become_52 (by decide) ?_
      refine lv_icmp_ge (tgt := 75) hx hb dX6_become_54 (by decide) (fun c882 => ?_) (fun c882 => ?_)
      · have c882 := i_le (show (40 : Int32).toInt = 40 by decide) (Eq.refl v365.toInt) c882; exfalso; omega
      have c882 := i_nle (show (40 : Int32).toInt = 40 by decide) (Eq.refl v365.toInt) c882
      refine lv_aload_n hx hb dX6_become_57 rfl (lv_at hl 1 rfl) ?_
      refine ok2 hT (le265.up ht0) (fun p917 x883 a884 x885 a886 x887 a888 a889 x890 a891 a892 x893 a894 x895 hk918 h896 h897 h898 h899 h900 h901 h902 h903 h904 h905 h906 h907 h908 h909 h910 h911 h912 h913 h914 h915 h916 => ?_)
      refine va_get (D := D) (ci := 6) (v := .ref a886) (C := RX6) (T := TX6) (N := 13) hx hb hg inGX6 hown hKN.1 hP p917 hk918 rfl 3 (by decide) (hg _ kw_45) (fun _ h9 => h9) rfl dX6_become_58 ?_
      refine lv_iload_n hx hb dX6_become_61 rfl (lv_at hl 0 rfl) ?_
      refine lv_aload_n hx hb dX6_become_62 rfl (lv_at hl 2 rfl) ?_
      refine va_get (D := D) (ci := 6) (v := .ref a465) (C := RX6) (T := TX6) (N := 13) hx hb hg inGX6 hown hKN.1 hP p496 hk497 rfl 3 (by decide) (hg _ kw_45) (fun _ h9 => h9) rfl dX6_become_63 ?_
      refine lv_iload_n hx hb dX6_become_66 rfl (lv_at hl 0 rfl) ?_
      refine tr_ld18 hx hb hKN hP hT h481 (vp_in_iff.mpr ⟨by omega, by omega⟩) dX6_become_67 (fun r919 hr919 => ?_)
      refine W.eq (g2 := F0 m 68 ls [va_rf r919, .int v365, .ref a886]) rfl ?_
      rcases r919 with _ | b920
      · skip
        refine W.eq (g2 := F0 m 68 ls [.null, .int v365, .ref a886]) rfl ?_
        refine tr_st18N hx hb hKN hP hD hS hT h902 (vp_in_iff.mpr ⟨by omega, by omega⟩) dX6_become_68 (fun w921 H locs hP hD hS hT kp922 => ?_)
        have ke923 : KF 1 T ws w921 := KF.tr ke459 (KF.le (by decide) le265 (KF.kp kp922 h902 (by decide)))
        have ke924 : KF 6 T ws w921 := KF.tr ke460 (KF.le (by decide) le265 (KF.kp kp922 h902 (by decide)))
        have hk925 := kp922 _ _ hk497 (rne (le265.up ht1) h902 (by decide))
        have hk926 := kp922 _ _ hk918 (rne (le265.up ht0) h902 (by decide))
        obtain ⟨v927, ev927⟩ : ∃ y : Int32, y = v365 + 1 := ⟨_, rfl⟩
        have hv927 := i_add (Eq.refl v365.toInt) (show (1 : Int32).toInt = 1 by decide) ev927 (by omega) (by omega)
        refine lv_iinc (v := v927) (lv' := [(2, .int v927), (0, .ref p0), (1, .ref p1)]) hx hb dX6_become_69 hl (k := 0) rfl (by rw [ev927]; rfl) (by decide) rfl (fun ls hl => ?_)
        refine lv_goto (tgt := 43) hx hb dX6_become_72 (by decide) ?_
        exact ih461 (v927, w921) H locs ls (by show (40 - v927.toInt).toNat < (40 - v365.toInt).toNat; omega) ⟨hP, hD, hS, lv_sub hl [0, 1, 2] rfl, hT, ke923, ke924, by omega⟩
      · skip
        have ht928 := hr919 b920 rfl
        refine W.eq (g2 := F0 m 68 ls [.ref b920, .int v365, .ref a886]) rfl ?_
        refine tr_st18 hx hb hKN hP hD hS hT h902 ht928 (vp_in_iff.mpr ⟨by omega, by omega⟩) dX6_become_68 (fun w929 H locs hP hD hS hT kp930 => ?_)
        have ke931 : KF 1 T ws w929 := KF.tr ke459 (KF.le (by decide) le265 (KF.kp kp930 h902 (by decide)))
        have ke932 : KF 6 T ws w929 := KF.tr ke460 (KF.le (by decide) le265 (KF.kp kp930 h902 (by decide)))
        have hk933 := kp930 _ _ hk497 (rne (le265.up ht1) h902 (by decide))
        have hk934 := kp930 _ _ hk918 (rne (le265.up ht0) h902 (by decide))
        obtain ⟨v935, ev935⟩ : ∃ y : Int32, y = v365 + 1 := ⟨_, rfl⟩
        have hv935 := i_add (Eq.refl v365.toInt) (show (1 : Int32).toInt = 1 by decide) ev935 (by omega) (by omega)
        refine lv_iinc (v := v935) (lv' := [(2, .int v935), (0, .ref p0), (1, .ref p1)]) hx hb dX6_become_69 hl (k := 0) rfl (by rw [ev935]; rfl) (by decide) rfl (fun ls hl => ?_)
        refine lv_goto (tgt := 43) hx hb dX6_become_72 (by decide) ?_
        exact ih461 (v935, w929) H locs ls (by show (40 - v935.toInt).toNat < (40 - v365.toInt).toNat; omega) ⟨hP, hD, hS, lv_sub hl [0, 1, 2] rfl, hT, ke931, ke932, by omega⟩
  · skip
    have c310 := i_nle (Eq.refl x274.toInt) (Eq.refl v128.toInt) c310
    refine lv_iload_n hx hb dX6_become_10 rfl (lv_at hl 0 rfl) ?_
    refine lv_bipush (v := 12) hx hb dX6_become_11 (by decide) ?_
    refine lv_icmp_ge (tgt := 41) hx hb dX6_become_13 (by decide) (fun c936 => ?_) (fun c936 => ?_)
    · have c936 := i_le (show (12 : Int32).toInt = 12 by decide) (Eq.refl v128.toInt) c936; exfalso; omega
    have c936 := i_nle (show (12 : Int32).toInt = 12 by decide) (Eq.refl v128.toInt) c936
    refine lv_aload_n hx hb dX6_become_16 rfl (lv_at hl 2 rfl) ?_
    refine lv_iload_n hx hb dX6_become_17 rfl (lv_at hl 0 rfl) ?_
    refine cga (rn_V (As := [.int v128]) (rest := []) (b := p1) (x_starAtS l D Y Z H.size w129 T130 g131 q132 j2 p1 v128 hT (le265.up ht1)) ⟨hx, hb, hml, hown, hg⟩ lk_X6_58 ⟨CPC.blind, va_recv hKN.1 hP (ci := 6) (q0 := p308) rfl hk309, CPC.at hP hKN hD hSZ hS hA⟩ ⟨⟨rfl, rfl⟩, ⟨Nat.le_of_ble_eq_true rfl, Nat.le_of_ble_eq_true rfl⟩, ⟨(show _ ≤ (24 : Nat) by omega), (show _ ≤ (7248 : Nat) by omega)⟩⟩ hl.1 rfl (Nat.le_of_ble_eq_true rfl) dX6_become_18) hP hD hS hA (fun u937 H locs hw938 hP hD hS => ?_)
    obtain ⟨ht940, hw941, hw942⟩ : (∀ b, u937 = some b → T130 b = (3, j2, v128.toNatClampNeg)) ∧ (∀ sr, q132 p1 1 = some sr → SAT g131 q132 p1 sr v128 u937) ∧ (∀ b, u937 = some b → 0 ≤ v128.toInt ∧ v128.toInt ≤ 11) := hw938
    refine W.eq (g2 := F0 m 21 ls [va_rf u937]) rfl ?_
    rcases u937 with _ | b943
    · skip
      refine W.eq (g2 := F0 m 21 ls [.null]) rfl ?_
      refine lv_astore_nN (lv' := [(3, .null), (2, .int v128), (0, .ref p0), (1, .ref p1)]) hx hb dX6_become_21 rfl hl (by decide) rfl (fun ls hl => ?_)
      refine lv_aload_nN hx hb dX6_become_22 rfl (lv_at hl 0 rfl) ?_
      refine lv_ifnullN (tgt := 35) hx hb dX6_become_23 (by decide) ?_
      obtain ⟨v944, ev944⟩ : ∃ y : Int32, y = v128 + 1 := ⟨_, rfl⟩
      have hv944 := i_add (Eq.refl v128.toInt) (show (1 : Int32).toInt = 1 by decide) ev944 (by omega) (by omega)
      refine lv_iinc (v := v944) (lv' := [(2, .int v944), (3, .null), (0, .ref p0), (1, .ref p1)]) hx hb dX6_become_35 hl (k := 1) rfl (by rw [ev944]; rfl) (by decide) rfl (fun ls hl => ?_)
      refine lv_goto (tgt := 2) hx hb dX6_become_38 (by decide) ?_
      have sb945q : q132 p1 1 = some a38 := by rw [qj270 p1 (by rw [ht1]; exact Nat.succ_ne_zero _) (Or.inl (by rw [ht1]; show (2 : Nat) ≠ 17; decide))]; exact h53
      have sb945r : q132 a38 = q a38 := qj270 a38 (by rw [h52]; exact Nat.succ_ne_zero _) (Or.inr (by rw [h52]; exact hj))
      have sb945s := (hw941 a38 sb945q).1 ⟨by omega, by rw [h288]; omega⟩
      rw [sb945r] at sb945s
      exact ih273 (v944, w129, T130, g131, q132) _ _ H locs ls (by show (12 - v944.toInt).toNat < (12 - v128.toInt).toNat; omega) (by show (bd262 + 0) + 2 * ((12 - v944.toInt).toNat) ≤ 0 + 2 * 12 ∧ (sd263 + 0) + 604 * ((12 - v944.toInt).toNat) ≤ 0 + 604 * 12; omega) ⟨hP, hD, hS, lv_sub hl [0, 2, 3] rfl, hT, le265, ke266, ke267, ge268, gj269, qj270, ho271, (SBE.skip (L := v128) hv272 (by omega) sb945s.symm (by omega)), by omega⟩
    · skip
      have ht946 := ht940 b943 rfl
      have h947 := hw942 b943 rfl
      refine W.eq (g2 := F0 m 21 ls [.ref b943]) rfl ?_
      refine lv_astore_n (lv' := [(3, .ref b943), (2, .int v128), (0, .ref p0), (1, .ref p1)]) hx hb dX6_become_21 rfl hl (by decide) rfl (fun ls hl => ?_)
      refine lv_aload_n hx hb dX6_become_22 rfl (lv_at hl 0 rfl) ?_
      refine lv_ifnull hx hb dX6_become_23 ?_
      refine lv_aload_n hx hb dX6_become_26 rfl (lv_at hl 2 rfl) ?_
      refine lv_iload_n hx hb dX6_become_27 rfl (lv_at hl 1 rfl) ?_
      refine ok2 hT (le265.up ht0) (fun p982 x948 a949 x950 a951 x952 a953 a954 x955 a956 a957 x958 a959 x960 hk983 h961 h962 h963 h964 h965 h966 h967 h968 h969 h970 h971 h972 h973 h974 h975 h976 h977 h978 h979 h980 h981 => ?_)
      refine cga (rn_V (As := [.int v128]) (rest := []) (b := p0) (x_placeForS l D Y Z H.size w129 T130 g131 q132 j p0 v128 hT (le265.up ht0) (show (0 ≤ v128.toInt ∧ v128.toInt ≤ 11) by omega)) ⟨hx, hb, hml, hown, hg⟩ lk_X6_68 ⟨CPC.blind, va_recv hKN.1 hP (ci := 6) (q0 := p982) rfl hk983, CPC.at hP hKN hD hSZ hS hA⟩ ⟨⟨rfl, rfl⟩, ⟨Nat.le_of_ble_eq_true rfl, Nat.le_of_ble_eq_true rfl⟩, ⟨(show _ ≤ (24 : Nat) by omega), (show _ ≤ (7248 : Nat) by omega)⟩⟩ hl.1 rfl (Nat.le_of_ble_eq_true rfl) dX6_become_28) hP hD hS hA (fun u984 H locs hw985 hP hD hS => ?_)
      refine W.widen (k := (bd262 + 2)) (n := (sd263 + 604)) (by omega) (by omega) ?_
      obtain ⟨b986, w987, T988, g989, q990⟩ := u984
      obtain ⟨le991, hT, ke992, ke993, ge994, gj995, qj996, ht997, hw998⟩ : TLe T130 T988 ∧ TW Y Z T988 g989 q990 w987 ∧ KF 1 T130 w129 w987 ∧ KF 6 T130 w129 w987 ∧ GE T130 g131 g989 ∧ GJ T130 j g131 g989 ∧ QJ T130 j q132 q990 ∧ T988 b986 = (3, j, v128.toNatClampNeg) ∧ (∀ sr, q132 p0 1 = some sr → PLF T130 g131 g989 q132 q990 sr v128.toNatClampNeg b986) := hw985
      have gj999 : GJ T j g g989 := GJ.tr gj269 (GJ.le le265 gj995)
      have qj1000 : QJ T j q q990 := QJ.tr qj270 (QJ.le le265 qj996)
      have ke1001 : KF 1 T ws w987 := KF.tr ke266 (KF.le (by decide) le265 ke992)
      have ke1002 : KF 6 T ws w987 := KF.tr ke267 (KF.le (by decide) le265 ke993)
      have ho1003 : g989 p1 = g p1 := Eq.trans (b := g131 p1) (ge994 p1 (by rw [(le265.up ht1)]; exact Nat.succ_ne_zero _) (by rw [(le265.up ht1)]; show (2 : Nat) ≠ 3; decide)) ho271
      have ge1004 : GE T g g989 := GE.tr ge268 (GE.le le265 ge994)
      refine W.eq (g2 := F0 m 31 ls [.ref b986]) rfl ?_
      refine lv_aload_n hx hb dX6_become_31 rfl (lv_at hl 0 rfl) ?_
      refine ok3 hT ht997 (fun p1011 x1005 x1006 x1007 a1008 hk1012 h1009 h1010 => ?_)
      refine cga (rn_NV (As := [.ref b943]) (rest := []) (b := b986) (x_becomeSt l D Y Z H.size w987 T988 g989 q990 j v128.toNatClampNeg j2 v128.toNatClampNeg b986 b943 hT ht997 (le991.up ht946)) ⟨hx, hb, hml, hown, hg⟩ hKN lk_X6_99 ⟨CPC.blind, va_recv hKN.1 hP (ci := 7) (q0 := p1011) rfl hk1012, CPC.at hP hKN hD hSZ hS hA⟩ ⟨⟨rfl, rfl⟩, ⟨Nat.le_of_ble_eq_true rfl, Nat.le_of_ble_eq_true rfl⟩, ⟨(show _ ≤ (24 : Nat) by omega), (show _ ≤ (7248 : Nat) by omega)⟩⟩ hl.1 rfl (Nat.le_of_ble_eq_true rfl) dX6_become_32) hP hD hS hA (fun u1013 H locs hw1014 hP hD hS => ?_)
      obtain ⟨w1015, g1016⟩ := u1013
      obtain ⟨hT, ke1017, ke1018, ge1019, gj1020, hw1021⟩ : TW Y Z T988 g1016 q990 w1015 ∧ KF 1 T988 w987 w1015 ∧ KF 6 T988 w987 w1015 ∧ GE T988 g989 g1016 ∧ GJ T988 j g989 g1016 ∧ (g1016 = gset g989 b986 0 (g989 b943 0)) := hw1014
      have gj1022 : GJ T j g g1016 := GJ.tr gj999 (GJ.le (le265.tr le991) gj1020)
      have ke1023 : KF 1 T ws w1015 := KF.tr ke1001 (KF.le (by decide) (le265.tr le991) ke1017)
      have ke1024 : KF 6 T ws w1015 := KF.tr ke1002 (KF.le (by decide) (le265.tr le991) ke1018)
      have ho1025 : g1016 p1 = g p1 := Eq.trans (b := g989 p1) (ge1019 p1 (by rw [(le991.up (le265.up ht1))]; exact Nat.succ_ne_zero _) (by rw [(le991.up (le265.up ht1))]; show (2 : Nat) ≠ 3; decide)) ho1003
      have ge1026 : GE T g g1016 := GE.tr ge1004 (GE.le (le265.tr le991) ge1019)
      refine W.eq (g2 := F0 m 35 ls []) rfl ?_
      obtain ⟨v1027, ev1027⟩ : ∃ y : Int32, y = v128 + 1 := ⟨_, rfl⟩
      have hv1027 := i_add (Eq.refl v128.toInt) (show (1 : Int32).toInt = 1 by decide) ev1027 (by omega) (by omega)
      refine lv_iinc (v := v1027) (lv' := [(2, .int v1027), (3, .ref b943), (0, .ref p0), (1, .ref p1)]) hx hb dX6_become_35 hl (k := 1) rfl (by rw [ev1027]; rfl) (by decide) rfl (fun ls hl => ?_)
      refine lv_goto (tgt := 2) hx hb dX6_become_38 (by decide) ?_
      have sb1028q : q132 p1 1 = some a38 := by rw [qj270 p1 (by rw [ht1]; exact Nat.succ_ne_zero _) (Or.inl (by rw [ht1]; show (2 : Nat) ≠ 17; decide))]; exact h53
      have sb1028r : q132 a38 = q a38 := qj270 a38 (by rw [h52]; exact Nat.succ_ne_zero _) (Or.inr (by rw [h52]; exact hj))
      have sb1028s := (hw941 a38 sb1028q).1 ⟨by omega, by rw [h288]; omega⟩
      rw [sb1028r] at sb1028s
      have sb1028p : q132 p0 1 = some a2 := by rw [qj270 p0 (by rw [ht0]; exact Nat.succ_ne_zero _) (Or.inl (by rw [ht0]; show (2 : Nat) ≠ 17; decide))]; exact h17
      have sb1028t := row17 hT0 h52 sb1028s.symm
      have sb1028g : g131 b943 = g b943 := gj269 b943 (by rw [sb1028t]; exact Nat.succ_ne_zero _) (by rw [sb1028t]; exact hj)
      exact ih273 (v1027, w1015, T988, g1016, q990) _ _ H locs ls (by show (12 - v1027.toInt).toNat < (12 - v128.toInt).toNat; omega) (by show (bd262 + 2) + 2 * ((12 - v1027.toInt).toNat) ≤ 0 + 2 * 12 ∧ (sd263 + 604) + 604 * ((12 - v1027.toInt).toNat) ≤ 0 + 604 * 12; omega) ⟨hP, hD, hS, lv_sub hl [0, 2, 3] rfl, hT, (le265.tr le991), ke1023, ke1024, ge1026, gj1022, qj1000, ho1025, (SBE.step (L := v128) hv272 (by omega) le991 (hw998 a2 sb1028p) ht997 hw1021 sb1028s.symm (by rw [ht946]; exact Nat.succ_ne_zero _) sb1028g (by omega)), by omega⟩
set_option maxHeartbeats 4000000 in
set_option maxRecDepth 100000 in
theorem x_isStarS (l : Launch) (D : va_G) (Y : Nat → ClassId) (Z : Nat → Nat) (sz : Nat) (ws : va_W) (T : RT) (g : GN) (q : GQ)  (p0 : Nat) (p1 : Int32) (hT : TW Y Z T g q ws) (ht0 : T p0 = (1, 0, 0)) : Met l yX10_isStar (.code yX10_isStar cX10_isStar 2 (some .boolean) :: GW) ({ frames := 1, cells := 0, slots := 0, locals := 21 }) (va_Pc [.ref p0, .int p1] (CPC D Y Z ws sz)) (QG (S := Int32) (fun u => some (.int u)) (fun u => (0 ≤ u.toInt ∧ u.toInt ≤ 1) ∧ (u.toInt = 1 → (0 ≤ p1.toInt ∧ p1.toInt ≤ 11)) ∧ (∀ s0 sr, q p0 0 = some s0 → q s0 1 = some sr → NNL g q s0 sr → (u.toInt = 1 ↔ (0 ≤ p1.toInt ∧ p1.toInt < (g s0 0).toInt)))) (fun u => CB D ws (va_A ws sz)) (va_A ws sz)) 0 0 (va_A ws sz) := by
  refine Met.ofW (cc := cX10_isStar) (maxL := 2) (ret := (some .boolean)) (by decide) rfl ?_
  intro p e s m args below meth c s₁ B hml hv
  obtain ⟨rfl, ⟨hsz, hP, hKN, hD0⟩, hSZ⟩ := hv
  have hx := B.exec
  have hb := B.bytes
  have hr := B.returns
  have hts := atoms_spec (ws := .code yX10_isStar cX10_isStar 2 (some .boolean) :: GW) B.pre
  have hg : ∀ w ∈ GW, w.before _ s = true := fun w h => hts w (List.mem_cons_of_mem _ h)
  have hown : s.vm.findClass RX10 = some m.cls := findClass_of_methodNamed B.named
  have hlocks := B.notSynchronized
  subst hsz
  have hD := hD0.self (sz := s.heap.size)
  generalize hAe : va_A ws s.heap.size = A at hD hSZ ⊢
  have hA : ∀ q : Nat, s.heap.size ≤ q → A q := fun q h => by rw [← hAe]; exact Or.inr h
  clear hAe hD0 hts B
  have hl := lv_entry ([.ref p0, .int p1]) (n := 2) (Nat.le_of_ble_eq_true rfl)
  rw [lg_entry_eq]
  generalize (lg_sl ([.ref p0, .int p1]) ++ List.replicate (2 - (lg_sl ([.ref p0, .int p1])).length) Slot.unset).toArray = ls at hl ⊢
  have hl : lv_has ls 2 [(0, .ref p0), (1, .int p1)] := hl
  refine w_start (A0 := A) hP (fun H locs hP hS => ?_)
  refine ok1 hT ht0 (fun p42 a1 a2 a3 a4 a5 x6 x7 x8 a9 a10 a11 a12 a13 a14 a15 a16 a17 x18 a19 a20 hk43 h21 h22 h23 h24 h25 h26 h27 h28 h29 h30 h31 h32 h33 h34 h35 h36 h37 h38 h39 h40 h41 => ?_)
  have hT0 := hT
  refine lv_aload_n hx hb dX10_isStar_0 rfl (lv_at hl 0 rfl) ?_
  refine va_get (D := D) (ci := 10) (v := .ref a1) (C := RX10) (T := TX10) (N := 20) hx hb hg inGX10 hown hKN.1 hP p42 hk43 rfl 0 (by decide) (hg _ kw_349) (fun _ h9 => h9) rfl dX10_isStar_1 ?_
  refine lv_iload_n hx hb dX10_isStar_4 rfl (lv_at hl 1 rfl) ?_
  refine ok2 hT h21 (fun p78 x44 a45 x46 a47 x48 a49 a50 x51 a52 a53 x54 a55 x56 hk79 h57 h58 h59 h60 h61 h62 h63 h64 h65 h66 h67 h68 h69 h70 h71 h72 h73 h74 h75 h76 h77 => ?_)
  refine cga (rn_NV (As := [.int p1]) (rest := []) (b := a1) (x_starAtS l D Y Z H.size ws T g q 0 a1 p1 hT h21) ⟨hx, hb, hml, hown, hg⟩ hKN lk_X10_108 ⟨CPC.blind, va_recv hKN.1 hP (ci := 6) (q0 := p78) rfl hk79, CPC.at hP hKN hD hSZ hS hA⟩ ⟨⟨rfl, rfl⟩, ⟨Nat.le_of_ble_eq_true rfl, Nat.le_of_ble_eq_true rfl⟩, ⟨(Nat.le_of_ble_eq_true rfl), (Nat.le_of_ble_eq_true rfl)⟩⟩ hl.1 rfl (Nat.le_of_ble_eq_true rfl) dX10_isStar_5) hP hD hS hA (fun u80 H locs hw81 hP hD hS => ?_)
  obtain ⟨ht83, hw84, hw85⟩ : (∀ b, u80 = some b → T b = (3, 0, p1.toNatClampNeg)) ∧ (∀ sr, q a1 1 = some sr → SAT g q a1 sr p1 u80) ∧ (∀ b, u80 = some b → 0 ≤ p1.toInt ∧ p1.toInt ≤ 11) := hw81
  refine W.eq (g2 := F0 m 8 ls [va_rf u80]) rfl ?_
  rcases u80 with _ | b86
  · skip
    refine W.eq (g2 := F0 m 8 ls [.null]) rfl ?_
    refine lv_ifnullN (tgt := 15) hx hb dX10_isStar_8 (by decide) ?_
    refine lv_iconst (v := 0) hx hb dX10_isStar_15 (by decide) ?_
    refine W.widen (k := 0) (n := 0) (Nat.le_of_ble_eq_true rfl) (Nat.le_of_ble_eq_true rfl) ?_
    have zi0 : (0 : Int32).toInt = 0 := by decide
    exact W.zret (v := 0) hx hb hr (by decide) (fun t ht hW => ⟨⟨(0), rfl, ⟨(show (0 ≤ (0 : Int32).toInt ∧ (0 : Int32).toInt ≤ 1) by omega), (show ((0 : Int32).toInt = 1 → (0 ≤ p1.toInt ∧ p1.toInt ≤ 11)) by omega), (show ∀ s0 sr, q p0 0 = some s0 → q s0 1 = some sr → NNL g q s0 sr → ((0 : Int32).toInt = 1 ↔ (0 ≤ p1.toInt ∧ p1.toInt < (g s0 0).toInt)) from (fun s0 sr hs hq hn => by obtain rfl : s0 = a1 := Option.some.inj (hs.symm.trans h22); exact ⟨fun h9 => absurd h9 (by decide), fun h9 => absurd h9 ((hw84 sr hq).out hn)⟩))⟩, CB.mk ht hP hD⟩, hS.F ht⟩) hS.2.2 dX10_isStar_16
  · skip
    have ht87 := ht83 b86 rfl
    have h88 := hw85 b86 rfl
    refine W.eq (g2 := F0 m 8 ls [.ref b86]) rfl ?_
    refine lv_ifnull hx hb dX10_isStar_8 ?_
    refine lv_iconst (v := 1) hx hb dX10_isStar_11 (by decide) ?_
    refine lv_goto (tgt := 16) hx hb dX10_isStar_12 (by decide) ?_
    refine W.widen (k := 0) (n := 0) (Nat.le_of_ble_eq_true rfl) (Nat.le_of_ble_eq_true rfl) ?_
    have zi1 : (1 : Int32).toInt = 1 := by decide
    exact W.zret (v := 1) hx hb hr (by decide) (fun t ht hW => ⟨⟨(1), rfl, ⟨(show (0 ≤ (1 : Int32).toInt ∧ (1 : Int32).toInt ≤ 1) by omega), (show ((1 : Int32).toInt = 1 → (0 ≤ p1.toInt ∧ p1.toInt ≤ 11)) by omega), (show ∀ s0 sr, q p0 0 = some s0 → q s0 1 = some sr → NNL g q s0 sr → ((1 : Int32).toInt = 1 ↔ (0 ≤ p1.toInt ∧ p1.toInt < (g s0 0).toInt)) from (fun s0 sr hs hq hn => by obtain rfl : s0 = a1 := Option.some.inj (hs.symm.trans h22); exact ⟨fun _ => (hw84 sr hq).in.1, fun _ => by decide⟩))⟩, CB.mk ht hP hD⟩, hS.F ht⟩) hS.2.2 dX10_isStar_16
