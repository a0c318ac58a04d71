set_option maxHeartbeats 4000000 in
set_option maxRecDepth 100000 in
theorem x_J7_fill_53178 (l : Launch) (D : va_G) (Y : Nat → ClassId) (Z : Nat → Nat) (sz : Nat) (ws : va_W) (T : RT) (g : GN) (q : GQ) (n : Nat) (p0 : Nat) (p1 : Int32) (hT : TW Y Z T g q ws) (ht0 : T p0 = (12, n, 0)) (hp0 : ((n : Int) ≤ 600)) : Met l yJ7_fill_53178 (.code yJ7_fill_53178 cJ7_fill_53178 4 none :: GW) ({ frames := 0, cells := 0, slots := 0, locals := 0 }) (va_Pc [.ref p0, .int p1] (CPC D Y Z ws sz)) (QG (S := va_W) (fun _ => none) (fun u => TW Y Z T g q u ∧ KF 1 T ws u ∧ KF 6 T ws u) (fun u => CB D u (va_A ws sz)) (va_A ws sz)) 0 0 (va_A ws sz) := by
  refine Met.ofW (cc := cJ7_fill_53178) (maxL := 4) (ret := none) (by decide) rfl ?_
  intro p e s m args below meth c s₁ B hml hv
  obtain ⟨rfl, ⟨hsz, hP, hKN, hD0⟩, hSZ⟩ := hv
  have hx := B.exec
  have hb := B.bytes
  have hr := B.returns
  have hts := atoms_spec (ws := .code yJ7_fill_53178 cJ7_fill_53178 4 none :: GW) B.pre
  have hg : ∀ w ∈ GW, w.before _ s = true := fun w h => hts w (List.mem_cons_of_mem _ h)
  have hown : s.vm.findClass RJ7 = some m.cls := findClass_of_methodNamed B.named
  have hlocks := B.notSynchronized
  subst hsz
  have hD := hD0.self (sz := s.heap.size)
  generalize hAe : va_A ws s.heap.size = A at hD hSZ ⊢
  have hA : ∀ q : Nat, s.heap.size ≤ q → A q := fun q h => by rw [← hAe]; exact Or.inr h
  clear hAe hD0 hts B
  have hl := lv_entry ([.ref p0, .int p1]) (n := 4) (Nat.le_of_ble_eq_true rfl)
  rw [lg_entry_eq]
  generalize (lg_sl ([.ref p0, .int p1]) ++ List.replicate (4 - (lg_sl ([.ref p0, .int p1])).length) Slot.unset).toArray = ls at hl ⊢
  have hl : lv_has ls 4 [(0, .ref p0), (1, .int p1)] := hl
  refine w_start (A0 := A) hP (fun H locs hP hS => ?_)
  refine lv_iconst (v := 0) hx hb dJ7_fill_53178_0 (by decide) ?_
  refine lv_istore_n (lv' := [(2, .int 0), (0, .ref p0), (1, .int p1)]) hx hb dJ7_fill_53178_1 rfl hl (by decide) rfl (fun ls hl => ?_)
  refine lv_aload_n hx hb dJ7_fill_53178_2 rfl (lv_at hl 1 rfl) ?_
  refine tr_len12 hx hb hKN hP hT ht0 rfl dJ7_fill_53178_3 ?_
  refine lv_topi (fun v2 ev2 => ?_)
  have hv2 := ofn_i (n := n) ev2 (by omega)
  refine lv_istore_n (lv' := [(3, .int v2), (2, .int 0), (0, .ref p0), (1, .int p1)]) hx hb dJ7_fill_53178_4 rfl hl (by decide) rfl (fun ls hl => ?_)
  have zi0 : (0 : Int32).toInt = 0 := by decide
  refine w_loop (σ := Int32 × va_W) (fun xx H locs ls => match xx with | (v13, w14) => va_P D vwCl w14 H ∧ va_D A w14 ∧ va_S A s.heap H locs ∧ lv_has ls 4 [(3, .int v2), (2, .int v13), (0, .ref p0), (1, .int p1)] ∧ TW Y Z T g q w14 ∧ KF 1 T ws w14 ∧ KF 6 T ws w14 ∧ (0 ≤ v13.toInt ∧ v13.toInt ≤ 600) ∧ (v13.toInt ≤ (n : Int))) (fun xx => match xx with | (v13, w14) => (600 - v13.toInt).toNat) (0, ws) ⟨hP, hD, hS, lv_sub hl [0, 1, 2, 3] rfl, hT, KF.rf, KF.rf, by omega, by omega⟩ (fun xx H locs ls hI ih => ?_)
  obtain ⟨v13, w14⟩ := xx
  obtain ⟨hP, hD, hS, hl, hT, ke29, ke30, hq27, hq28⟩ := hI
  have ih31 := ih
  refine lv_iload_n hx hb dJ7_fill_53178_5 rfl (lv_at hl 1 rfl) ?_
  refine lv_iload_n hx hb dJ7_fill_53178_6 rfl (lv_at hl 0 rfl) ?_
  refine lv_icmp_ge (tgt := 20) hx hb dJ7_fill_53178_7 (by decide) (fun c38 => ?_) (fun c38 => ?_)
  · skip
    have c38 := i_le (Eq.refl v2.toInt) (Eq.refl v13.toInt) c38
    refine W.widen (k := 0) (n := 0) (Nat.le_of_ble_eq_true rfl) (Nat.le_of_ble_eq_true rfl) ?_
    exact W.vret hx hb hr (fun t ht hW => ⟨⟨w14, rfl, ⟨hT, ke29, ke30⟩, CB.mk ht hP hD⟩, hS.F ht⟩) hS.2.2 dJ7_fill_53178_20
  · skip
    have c38 := i_nle (Eq.refl v2.toInt) (Eq.refl v13.toInt) c38
    refine lv_aload_n hx hb dJ7_fill_53178_10 rfl (lv_at hl 2 rfl) ?_
    refine lv_iload_n hx hb dJ7_fill_53178_11 rfl (lv_at hl 1 rfl) ?_
    refine lv_iload_n hx hb dJ7_fill_53178_12 rfl (lv_at hl 3 rfl) ?_
    refine tr_st12 hx hb hKN hP hD hS hT ht0 (vp_in_iff.mpr ⟨by omega, by omega⟩) dJ7_fill_53178_13 (fun w39 H locs hP hD hS hT kp40 => ?_)
    have ke41 : KF 1 T ws w39 := KF.tr ke29 (KF.kp kp40 ht0 (by decide))
    have ke42 : KF 6 T ws w39 := KF.tr ke30 (KF.kp kp40 ht0 (by decide))
    obtain ⟨v43, ev43⟩ : ∃ y : Int32, y = v13 + 1 := ⟨_, rfl⟩
    have hv43 := i_add (Eq.refl v13.toInt) (show (1 : Int32).toInt = 1 by decide) ev43 (by omega) (by omega)
    refine lv_iinc (v := v43) (lv' := [(2, .int v43), (3, .int v2), (0, .ref p0), (1, .int p1)]) hx hb dJ7_fill_53178_14 hl (k := 1) rfl (by rw [ev43]; rfl) (by decide) rfl (fun ls hl => ?_)
    refine lv_goto (tgt := 5) hx hb dJ7_fill_53178_17 (by decide) ?_
    exact ih31 (v43, w39) H locs ls (by show (600 - v43.toInt).toNat < (600 - v13.toInt).toNat; omega) ⟨hP, hD, hS, lv_sub hl [1, 0, 2, 3] rfl, hT, ke41, ke42, by omega, by omega⟩
set_option maxHeartbeats 4000000 in
set_option maxRecDepth 100000 in
theorem x_J7_fill_d0a16 (l : Launch) (D : va_G) (Y : Nat → ClassId) (Z : Nat → Nat) (sz : Nat) (ws : va_W) (T : RT) (g : GN) (q : GQ) (n : Nat) (p0 : Nat) (p1 : Int64) (hT : TW Y Z T g q ws) (ht0 : T p0 = (15, n, 0)) (hp0 : ((n : Int) ≤ 600)) : Met l yJ7_fill_d0a16 (.code yJ7_fill_d0a16 cJ7_fill_d0a16 5 none :: GW) ({ frames := 0, cells := 0, slots := 0, locals := 0 }) (va_Pc [.ref p0, .long p1] (CPC D Y Z ws sz)) (QG (S := va_W) (fun _ => none) (fun u => TW Y Z T g q u ∧ KF 1 T ws u ∧ KF 6 T ws u) (fun u => CB D u (va_A ws sz)) (va_A ws sz)) 0 0 (va_A ws sz) := by
  refine Met.ofW (cc := cJ7_fill_d0a16) (maxL := 5) (ret := none) (by decide) rfl ?_
  intro p e s m args below meth c s₁ B hml hv
  obtain ⟨rfl, ⟨hsz, hP, hKN, hD0⟩, hSZ⟩ := hv
  have hx := B.exec
  have hb := B.bytes
  have hr := B.returns
  have hts := atoms_spec (ws := .code yJ7_fill_d0a16 cJ7_fill_d0a16 5 none :: GW) B.pre
  have hg : ∀ w ∈ GW, w.before _ s = true := fun w h => hts w (List.mem_cons_of_mem _ h)
  have hown : s.vm.findClass RJ7 = some m.cls := findClass_of_methodNamed B.named
  have hlocks := B.notSynchronized
  subst hsz
  have hD := hD0.self (sz := s.heap.size)
  generalize hAe : va_A ws s.heap.size = A at hD hSZ ⊢
  have hA : ∀ q : Nat, s.heap.size ≤ q → A q := fun q h => by rw [← hAe]; exact Or.inr h
  clear hAe hD0 hts B
  have hl := lv_entry ([.ref p0, .long p1]) (n := 5) (Nat.le_of_ble_eq_true rfl)
  rw [lg_entry_eq]
  generalize (lg_sl ([.ref p0, .long p1]) ++ List.replicate (5 - (lg_sl ([.ref p0, .long p1])).length) Slot.unset).toArray = ls at hl ⊢
  have hl : lv_has ls 5 [(0, .ref p0), (1, .long p1)] := hl
  refine w_start (A0 := A) hP (fun H locs hP hS => ?_)
  refine lv_iconst (v := 0) hx hb dJ7_fill_d0a16_0 (by decide) ?_
  refine lv_istore_n (lv' := [(3, .int 0), (0, .ref p0), (1, .long p1)]) hx hb dJ7_fill_d0a16_1 rfl hl (by decide) rfl (fun ls hl => ?_)
  refine lv_aload_n hx hb dJ7_fill_d0a16_2 rfl (lv_at hl 1 rfl) ?_
  refine tr_len15 hx hb hKN hP hT ht0 rfl dJ7_fill_d0a16_3 ?_
  refine lv_topi (fun v2 ev2 => ?_)
  have hv2 := ofn_i (n := n) ev2 (by omega)
  refine lv_istore (lv' := [(4, .int v2), (3, .int 0), (0, .ref p0), (1, .long p1)]) hx hb dJ7_fill_d0a16_4 hl (by decide) rfl (fun ls hl => ?_)
  have zi0 : (0 : Int32).toInt = 0 := by decide
  refine w_loop (σ := Int32 × va_W) (fun xx H locs ls => match xx with | (v13, w14) => va_P D vwCl w14 H ∧ va_D A w14 ∧ va_S A s.heap H locs ∧ lv_has ls 5 [(4, .int v2), (3, .int v13), (0, .ref p0), (1, .long p1)] ∧ TW Y Z T g q w14 ∧ KF 1 T ws w14 ∧ KF 6 T ws w14 ∧ (0 ≤ v13.toInt ∧ v13.toInt ≤ 600) ∧ (v13.toInt ≤ (n : Int))) (fun xx => match xx with | (v13, w14) => (600 - v13.toInt).toNat) (0, ws) ⟨hP, hD, hS, lv_sub hl [0, 1, 2, 3] rfl, hT, KF.rf, KF.rf, by omega, by omega⟩ (fun xx H locs ls hI ih => ?_)
  obtain ⟨v13, w14⟩ := xx
  obtain ⟨hP, hD, hS, hl, hT, ke29, ke30, hq27, hq28⟩ := hI
  have ih31 := ih
  refine lv_iload_n hx hb dJ7_fill_d0a16_6 rfl (lv_at hl 1 rfl) ?_
  refine lv_iload hx hb dJ7_fill_d0a16_7 (lv_at hl 0 rfl) ?_
  refine lv_icmp_ge (tgt := 22) hx hb dJ7_fill_d0a16_9 (by decide) (fun c38 => ?_) (fun c38 => ?_)
  · skip
    have c38 := i_le (Eq.refl v2.toInt) (Eq.refl v13.toInt) c38
    refine W.widen (k := 0) (n := 0) (Nat.le_of_ble_eq_true rfl) (Nat.le_of_ble_eq_true rfl) ?_
    exact W.vret hx hb hr (fun t ht hW => ⟨⟨w14, rfl, ⟨hT, ke29, ke30⟩, CB.mk ht hP hD⟩, hS.F ht⟩) hS.2.2 dJ7_fill_d0a16_22
  · skip
    have c38 := i_nle (Eq.refl v2.toInt) (Eq.refl v13.toInt) c38
    refine lv_aload_n hx hb dJ7_fill_d0a16_12 rfl (lv_at hl 2 rfl) ?_
    refine lv_iload_n hx hb dJ7_fill_d0a16_13 rfl (lv_at hl 1 rfl) ?_
    refine lv_lload_n hx hb dJ7_fill_d0a16_14 rfl (lv_at hl 3 rfl) ?_
    refine tr_st15 hx hb hKN hP hD hS hT ht0 (vp_in_iff.mpr ⟨by omega, by omega⟩) dJ7_fill_d0a16_15 (fun w39 H locs hP hD hS hT kp40 => ?_)
    have ke41 : KF 1 T ws w39 := KF.tr ke29 (KF.kp kp40 ht0 (by decide))
    have ke42 : KF 6 T ws w39 := KF.tr ke30 (KF.kp kp40 ht0 (by decide))
    obtain ⟨v43, ev43⟩ : ∃ y : Int32, y = v13 + 1 := ⟨_, rfl⟩
    have hv43 := i_add (Eq.refl v13.toInt) (show (1 : Int32).toInt = 1 by decide) ev43 (by omega) (by omega)
    refine lv_iinc (v := v43) (lv' := [(3, .int v43), (4, .int v2), (0, .ref p0), (1, .long p1)]) hx hb dJ7_fill_d0a16_16 hl (k := 1) rfl (by rw [ev43]; rfl) (by decide) rfl (fun ls hl => ?_)
    refine lv_goto (tgt := 6) hx hb dJ7_fill_d0a16_19 (by decide) ?_
    exact ih31 (v43, w39) H locs ls (by show (600 - v43.toInt).toNat < (600 - v13.toInt).toNat; omega) ⟨hP, hD, hS, lv_sub hl [1, 0, 2, 3] rfl, hT, ke41, ke42, by omega, by omega⟩
set_option maxHeartbeats 4000000 in
set_option maxRecDepth 100000 in
theorem x_X7_numbers (l : Launch) (D : va_G) (Y : Nat → ClassId) (Z : Nat → Nat) (sz : Nat) (ws : va_W) (T : RT) (g : GN) (q : GQ) (j : Nat) (i : Nat) (p0 : Nat) (hT : TW Y Z T g q ws) (ht0 : T p0 = (3, j, i)) : Met l yX7_numbers (.code yX7_numbers cX7_numbers 3 (some .int) :: GW) ({ frames := 0, cells := 0, slots := 0, locals := 0 }) (va_Pc [.ref p0] (CPC D Y Z ws sz)) (QG (S := Int32) (fun u => some (.int u)) (fun u => True) (fun u => CB D ws (va_A ws sz)) (va_A ws sz)) 0 0 (va_A ws sz) := by
  refine Met.ofW (cc := cX7_numbers) (maxL := 3) (ret := (some .int)) (by decide) rfl ?_
  intro p e s m args below meth c s₁ B hml hv
  obtain ⟨rfl, ⟨hsz, hP, hKN, hD0⟩, hSZ⟩ := hv
  have hx := B.exec
  have hb := B.bytes
  have hr := B.returns
  have hts := atoms_spec (ws := .code yX7_numbers cX7_numbers 3 (some .int) :: GW) B.pre
  have hg : ∀ w ∈ GW, w.before _ s = true := fun w h => hts w (List.mem_cons_of_mem _ h)
  have hown : s.vm.findClass RX7 = some m.cls := findClass_of_methodNamed B.named
  have hlocks := B.notSynchronized
  subst hsz
  have hD := hD0.self (sz := s.heap.size)
  generalize hAe : va_A ws s.heap.size = A at hD hSZ ⊢
  have hA : ∀ q : Nat, s.heap.size ≤ q → A q := fun q h => by rw [← hAe]; exact Or.inr h
  clear hAe hD0 hts B
  have hl := lv_entry ([.ref p0]) (n := 3) (Nat.le_of_ble_eq_true rfl)
  rw [lg_entry_eq]
  generalize (lg_sl ([.ref p0]) ++ List.replicate (3 - (lg_sl ([.ref p0])).length) Slot.unset).toArray = ls at hl ⊢
  have hl : lv_has ls 3 [(0, .ref p0)] := hl
  refine w_start (A0 := A) hP (fun H locs hP hS => ?_)
  refine lv_iconst (v := 0) hx hb dX7_numbers_0 (by decide) ?_
  refine lv_istore_n (lv' := [(1, .int 0), (0, .ref p0)]) hx hb dX7_numbers_1 rfl hl (by decide) rfl (fun ls hl => ?_)
  refine lv_iconst (v := 0) hx hb dX7_numbers_2 (by decide) ?_
  refine lv_istore_n (lv' := [(2, .int 0), (1, .int 0), (0, .ref p0)]) hx hb dX7_numbers_3 rfl hl (by decide) rfl (fun ls hl => ?_)
  have zi0 : (0 : Int32).toInt = 0 := by decide
  refine w_loop (σ := Int32 × Int32) (fun xx H locs ls => match xx with | (v37, v38) => va_P D vwCl ws H ∧ va_D A ws ∧ va_S A s.heap H locs ∧ lv_has ls 3 [(2, .int v37), (1, .int v38), (0, .ref p0)] ∧ TW Y Z T g q ws ∧ (0 ≤ v37.toInt ∧ v37.toInt ≤ 600)) (fun xx => match xx with | (v37, v38) => (600 - v37.toInt).toNat) (0, 0) ⟨hP, hD, hS, lv_sub hl [0, 1, 2] rfl, hT, by omega⟩ (fun xx H locs ls hI ih => ?_)
  obtain ⟨v37, v38⟩ := xx
  obtain ⟨hP, hD, hS, hl, hT, hq77⟩ := hI
  have ih78 := ih
  refine lv_iload_n hx hb dX7_numbers_4 rfl (lv_at hl 0 rfl) ?_
  refine lv_sipush (v := 600) hx hb dX7_numbers_5 (by decide) ?_
  refine lv_icmp_ge (tgt := 36) hx hb dX7_numbers_8 (by decide) (fun c98 => ?_) (fun c98 => ?_)
  · skip
    have c98 := i_le (show (600 : Int32).toInt = 600 by decide) (Eq.refl v37.toInt) c98
    refine lv_iload_n hx hb dX7_numbers_36 rfl (lv_at hl 1 rfl) ?_
    refine W.widen (k := 0) (n := 0) (Nat.le_of_ble_eq_true rfl) (Nat.le_of_ble_eq_true rfl) ?_
    exact W.iret (v := v38) hx hb hr (fun t ht hW => ⟨⟨v38, rfl, trivial, CB.mk ht hP hD⟩, hS.F ht⟩) hS.2.2 dX7_numbers_37
  · skip
    have c98 := i_nle (show (600 : Int32).toInt = 600 by decide) (Eq.refl v37.toInt) c98
    refine lv_iload_n hx hb dX7_numbers_11 rfl (lv_at hl 1 rfl) ?_
    refine lv_aload_n hx hb dX7_numbers_12 rfl (lv_at hl 2 rfl) ?_
    refine ok3 hT ht0 (fun p105 x99 x100 x101 a102 hk106 h103 h104 => ?_)
    refine va_get (D := D) (ci := 7) (v := .ref a102) (C := RX7) (T := TX7) (N := 4) hx hb hg inGX7 hown hKN.1 hP p105 hk106 rfl 3 (by decide) (hg _ kw_441) (fun _ h9 => h9) rfl dX7_numbers_13 ?_
    refine lv_iload_n hx hb dX7_numbers_16 rfl (lv_at hl 0 rfl) ?_
    refine tr_ld12 hx hb hKN hP hT h104 (vp_in_iff.mpr ⟨by omega, by omega⟩) dX7_numbers_17 (fun v107 => ?_)
    refine lv_ldc (v := (-100000)) hx hb hown (hg _ kw_457) dX7_numbers_18 ?_
    refine w_join (σ := Int32) (pcJ := 28) (kJ := 0) (nJ := 0) (stk := fun xx => match xx with | v110 => [.int v110, .int v38]) (fun xx H locs ls => match xx with | v110 => va_P D vwCl ws H ∧ va_D A ws ∧ va_S A s.heap H locs ∧ lv_has ls 3 [(2, .int v37), (1, .int v38), (0, .ref p0)] ∧ TW Y Z T g q ws ∧ (0 ≤ v110.toInt ∧ v110.toInt ≤ 1)) (fun xx H locs ls hI => ?_) (fun jn111 => ?_)
    · skip
      revert hI
      generalize xx = v110
      intro hI
      obtain ⟨hP, hD, hS, hl, hT, hq112⟩ := hI
      refine W.eq (g2 := F0 m 28 ls [.int v110, .int v38]) rfl ?_
      refine lv_iadd hx hb dX7_numbers_28 ?_
      refine lv_topi (fun v113 ev113 => ?_)
      refine lv_istore_n (lv' := [(1, .int v113), (2, .int v37), (0, .ref p0)]) hx hb dX7_numbers_29 rfl hl (by decide) rfl (fun ls hl => ?_)
      obtain ⟨v114, ev114⟩ : ∃ y : Int32, y = v37 + 1 := ⟨_, rfl⟩
      have hv114 := i_add (Eq.refl v37.toInt) (show (1 : Int32).toInt = 1 by decide) ev114 (by omega) (by omega)
      refine lv_iinc (v := v114) (lv' := [(2, .int v114), (1, .int v113), (0, .ref p0)]) hx hb dX7_numbers_30 hl (k := 1) rfl (by rw [ev114]; rfl) (by decide) rfl (fun ls hl => ?_)
      refine lv_goto (tgt := 4) hx hb dX7_numbers_33 (by decide) ?_
      exact ih78 (v114, v113) H locs ls (by show (600 - v114.toInt).toNat < (600 - v37.toInt).toNat; omega) ⟨hP, hD, hS, lv_sub hl [0, 1, 2] rfl, hT, by omega⟩
    · skip
      have j115 := rgI v107
      refine lv_icmp_ne (tgt := 27) hx hb dX7_numbers_20 (by decide) (fun c116 => ?_) (fun c116 => ?_)
      · skip
        have c116 := i_ne (Eq.refl v107.toInt) (show ((-100000) : Int32).toInt = -100000 by decide) c116
        refine lv_iconst (v := 1) hx hb dX7_numbers_27 (by decide) ?_
        have zi1 : (1 : Int32).toInt = 1 := by decide
        refine W.widen (k := 0) (n := 0) (Nat.le_of_ble_eq_true rfl) (Nat.le_of_ble_eq_true rfl) ?_
        exact jn111 (1) H locs ls ⟨hP, hD, hS, lv_sub hl [0, 1, 2] rfl, hT, by omega⟩
      · skip
        have c116 := i_eq (Eq.refl v107.toInt) (show ((-100000) : Int32).toInt = -100000 by decide) c116
        refine lv_iconst (v := 0) hx hb dX7_numbers_23 (by decide) ?_
        refine lv_goto (tgt := 28) hx hb dX7_numbers_24 (by decide) ?_
        have zi0 : (0 : Int32).toInt = 0 := by decide
        refine W.widen (k := 0) (n := 0) (Nat.le_of_ble_eq_true rfl) (Nat.le_of_ble_eq_true rfl) ?_
        exact jn111 (0) H locs ls ⟨hP, hD, hS, lv_sub hl [0, 1, 2] rfl, hT, by omega⟩
set_option maxHeartbeats 4000000 in
set_option maxRecDepth 100000 in
theorem x_X7_mean (l : Launch) (D : va_G) (Y : Nat → ClassId) (Z : Nat → Nat) (sz : Nat) (ws : va_W) (T : RT) (g : GN) (q : GQ) (j : Nat) (i : Nat) (p0 : Nat) (hT : TW Y Z T g q ws) (ht0 : T p0 = (3, j, i)) : Met l yX7_mean (.code yX7_mean cX7_mean 6 (some .long) :: GW) ({ frames := 1, cells := 0, slots := 0, locals := 25 }) (va_Pc [.ref p0] (CPC D Y Z ws sz)) (QG (S := Int64) (fun u => some (.long u)) (fun u => True) (fun u => CB D ws (va_A ws sz)) (va_A ws sz)) 0 0 (va_A ws sz) := by
  refine Met.ofW (cc := cX7_mean) (maxL := 6) (ret := (some .long)) (by decide) rfl ?_
  intro p e s m args below meth c s₁ B hml hv
  obtain ⟨rfl, ⟨hsz, hP, hKN, hD0⟩, hSZ⟩ := hv
  have hx := B.exec
  have hb := B.bytes
  have hr := B.returns
  have hts := atoms_spec (ws := .code yX7_mean cX7_mean 6 (some .long) :: GW) B.pre
  have hg : ∀ w ∈ GW, w.before _ s = true := fun w h => hts w (List.mem_cons_of_mem _ h)
  have hown : s.vm.findClass RX7 = some m.cls := findClass_of_methodNamed B.named
  have hlocks := B.notSynchronized
  subst hsz
  have hD := hD0.self (sz := s.heap.size)
  generalize hAe : va_A ws s.heap.size = A at hD hSZ ⊢
  have hA : ∀ q : Nat, s.heap.size ≤ q → A q := fun q h => by rw [← hAe]; exact Or.inr h
  clear hAe hD0 hts B
  have hl := lv_entry ([.ref p0]) (n := 6) (Nat.le_of_ble_eq_true rfl)
  rw [lg_entry_eq]
  generalize (lg_sl ([.ref p0]) ++ List.replicate (6 - (lg_sl ([.ref p0])).length) Slot.unset).toArray = ls at hl ⊢
  have hl : lv_has ls 6 [(0, .ref p0)] := hl
  refine w_start (A0 := A) hP (fun H locs hP hS => ?_)
  refine lv_lconst (v := 0) hx hb dX7_mean_0 (by decide) ?_
  refine lv_lstore_n (lv' := [(1, .long 0), (0, .ref p0)]) hx hb dX7_mean_1 rfl hl (by decide) rfl (fun ls hl => ?_)
  refine lv_lconst (v := 0) hx hb dX7_mean_2 (by decide) ?_
  refine lv_lstore_n (lv' := [(3, .long 0), (1, .long 0), (0, .ref p0)]) hx hb dX7_mean_3 rfl hl (by decide) rfl (fun ls hl => ?_)
  refine lv_iconst (v := 0) hx hb dX7_mean_4 (by decide) ?_
  refine lv_istore (lv' := [(5, .int 0), (3, .long 0), (1, .long 0), (0, .ref p0)]) hx hb dX7_mean_5 hl (by decide) rfl (fun ls hl => ?_)
  have zi0 : (0 : Int32).toInt = 0 := by decide
  have zl0 : (0 : Int64).toInt = 0 := by decide
  refine w_loop (σ := Int32 × Int64 × Int64) (fun xx H locs ls => match xx with | (v69, v70, v71) => va_P D vwCl ws H ∧ va_D A ws ∧ va_S A s.heap H locs ∧ lv_has ls 6 [(5, .int v69), (3, .long v70), (1, .long v71), (0, .ref p0)] ∧ TW Y Z T g q ws ∧ (0 ≤ v69.toInt ∧ v69.toInt ≤ 600)) (fun xx => match xx with | (v69, v70, v71) => (600 - v69.toInt).toNat) (0, 0, 0) ⟨hP, hD, hS, lv_sub hl [0, 1, 2, 3] rfl, hT, by omega⟩ (fun xx H locs ls hI ih => ?_)
  obtain ⟨v69, v70, v71⟩ := xx
  obtain ⟨hP, hD, hS, hl, hT, hq140⟩ := hI
  have ih141 := ih
  refine lv_iload hx hb dX7_mean_7 (lv_at hl 0 rfl) ?_
  refine lv_sipush (v := 600) hx hb dX7_mean_9 (by decide) ?_
  refine lv_icmp_ge (tgt := 68) hx hb dX7_mean_12 (by decide) (fun c176 => ?_) (fun c176 => ?_)
  · skip
    have c176 := i_le (show (600 : Int32).toInt = 600 by decide) (Eq.refl v69.toInt) c176
    refine lv_lload_n hx hb dX7_mean_68 rfl (lv_at hl 1 rfl) ?_
    refine lv_lconst (v := 0) hx hb dX7_mean_69 (by decide) ?_
    refine W.lcmp hx hb dX7_mean_70 ?_
    refine lv_if_ne (tgt := 78) hx hb dX7_mean_71 (by decide) (fun c181 => ?_) (fun c181 => ?_)
    · skip
      have c181 := l_ne (Eq.refl v70.toInt) (show (0 : Int64).toInt = 0 by decide) c181
      refine lv_lload_n hx hb dX7_mean_78 rfl (lv_at hl 2 rfl) ?_
      refine lv_lload_n hx hb dX7_mean_79 rfl (lv_at hl 1 rfl) ?_
      refine cg0 (rn_S (As := [.long v71, .long v70]) (rest := []) (x_J9_floorDiv_f86c9 l D Y Z H.size v71 v70 (show (v70.toInt ≠ 0) by omega)) ⟨hx, hb, hml, hown, hg⟩ lk_X7_38 ⟨CP.blind, CP.at nilP hKN (nilD (A := fun _ => True))⟩ ⟨⟨rfl, rfl⟩, ⟨Nat.le_of_ble_eq_true rfl, Nat.le_of_ble_eq_true rfl⟩, ⟨(Nat.le_of_ble_eq_true rfl), (Nat.le_of_ble_eq_true rfl)⟩⟩ hl.1 rfl (Nat.le_of_ble_eq_true rfl) dX7_mean_80) hP hS hA (fun u182 H locs hw183 hP hS => ?_)
      refine W.eq (g2 := F0 m 83 ls [.long u182]) rfl ?_
      refine W.widen (k := 0) (n := 0) (Nat.le_of_ble_eq_true rfl) (Nat.le_of_ble_eq_true rfl) ?_
      exact W.lret (v := u182) hx hb hr (fun t ht hW => ⟨⟨u182, rfl, trivial, CB.mk ht hP hD⟩, hS.F ht⟩) hS.2.2 dX7_mean_83
    · skip
      have c181 := l_eq (Eq.refl v70.toInt) (show (0 : Int64).toInt = 0 by decide) c181
      refine lv_lconst (v := 0) hx hb dX7_mean_74 (by decide) ?_
      refine lv_goto (tgt := 83) hx hb dX7_mean_75 (by decide) ?_
      refine W.widen (k := 0) (n := 0) (Nat.le_of_ble_eq_true rfl) (Nat.le_of_ble_eq_true rfl) ?_
      have zl0 : (0 : Int64).toInt = 0 := by decide
      exact W.lret (v := 0) hx hb hr (fun t ht hW => ⟨⟨(0), rfl, trivial, CB.mk ht hP hD⟩, hS.F ht⟩) hS.2.2 dX7_mean_83
  · skip
    have c176 := i_nle (show (600 : Int32).toInt = 600 by decide) (Eq.refl v69.toInt) c176
    refine lv_lload_n hx hb dX7_mean_15 rfl (lv_at hl 2 rfl) ?_
    refine lv_aload_n hx hb dX7_mean_16 rfl (lv_at hl 3 rfl) ?_
    refine ok3 hT ht0 (fun p191 x185 x186 x187 a188 hk192 h189 h190 => ?_)
    refine va_get (D := D) (ci := 7) (v := .ref a188) (C := RX7) (T := TX7) (N := 4) hx hb hg inGX7 hown hKN.1 hP p191 hk192 rfl 3 (by decide) (hg _ kw_441) (fun _ h9 => h9) rfl dX7_mean_17 ?_
    refine lv_iload hx hb dX7_mean_20 (lv_at hl 0 rfl) ?_
    refine tr_ld12 hx hb hKN hP hT h190 (vp_in_iff.mpr ⟨by omega, by omega⟩) dX7_mean_22 (fun v193 => ?_)
    refine lv_ldc (v := (-100000)) hx hb hown (hg _ kw_457) dX7_mean_23 ?_
    refine w_join (σ := Int64) (pcJ := 40) (kJ := 0) (nJ := 0) (stk := fun xx => match xx with | v199 => [.long v199, .long v71]) (fun xx H locs ls => match xx with | v199 => va_P D vwCl ws H ∧ va_D A ws ∧ va_S A s.heap H locs ∧ lv_has ls 6 [(5, .int v69), (3, .long v70), (1, .long v71), (0, .ref p0)] ∧ TW Y Z T g q ws ∧ (0 = 0)) (fun xx H locs ls hI => ?_) (fun jn200 => ?_)
    · skip
      revert hI
      generalize xx = v199
      intro hI
      obtain ⟨hP, hD, hS, hl, hT, hq201⟩ := hI
      refine W.eq (g2 := F0 m 40 ls [.long v199, .long v71]) rfl ?_
      refine lv_ladd hx hb dX7_mean_40 ?_
      refine lv_topl (fun v202 ev202 => ?_)
      refine lv_lstore_n (lv' := [(1, .long v202), (5, .int v69), (3, .long v70), (0, .ref p0)]) hx hb dX7_mean_41 rfl hl (by decide) rfl (fun ls hl => ?_)
      refine lv_lload_n hx hb dX7_mean_42 rfl (lv_at hl 2 rfl) ?_
      refine lv_aload_n hx hb dX7_mean_43 rfl (lv_at hl 3 rfl) ?_
      refine va_get (D := D) (ci := 7) (v := .ref a188) (C := RX7) (T := TX7) (N := 4) hx hb hg inGX7 hown hKN.1 hP p191 hk192 rfl 3 (by decide) (hg _ kw_441) (fun _ h9 => h9) rfl dX7_mean_44 ?_
      refine lv_iload hx hb dX7_mean_47 (lv_at hl 1 rfl) ?_
      refine tr_ld12 hx hb hKN hP hT h190 (vp_in_iff.mpr ⟨by omega, by omega⟩) dX7_mean_49 (fun v203 => ?_)
      refine lv_ldc (v := (-100000)) hx hb hown (hg _ kw_457) dX7_mean_50 ?_
      refine w_join (σ := Int64) (pcJ := 60) (kJ := 0) (nJ := 0) (stk := fun xx => match xx with | v206 => [.long v206, .long v70]) (fun xx H locs ls => match xx with | v206 => va_P D vwCl ws H ∧ va_D A ws ∧ va_S A s.heap H locs ∧ lv_has ls 6 [(1, .long v202), (5, .int v69), (3, .long v70), (0, .ref p0)] ∧ TW Y Z T g q ws ∧ (0 ≤ v206.toInt ∧ v206.toInt ≤ 1)) (fun xx H locs ls hI => ?_) (fun jn207 => ?_)
      · skip
        revert hI
        generalize xx = v206
        intro hI
        obtain ⟨hP, hD, hS, hl, hT, hq208⟩ := hI
        refine W.eq (g2 := F0 m 60 ls [.long v206, .long v70]) rfl ?_
        refine lv_ladd hx hb dX7_mean_60 ?_
        refine lv_topl (fun v209 ev209 => ?_)
        refine lv_lstore_n (lv' := [(3, .long v209), (1, .long v202), (5, .int v69), (0, .ref p0)]) hx hb dX7_mean_61 rfl hl (by decide) rfl (fun ls hl => ?_)
        obtain ⟨v210, ev210⟩ : ∃ y : Int32, y = v69 + 1 := ⟨_, rfl⟩
        have hv210 := i_add (Eq.refl v69.toInt) (show (1 : Int32).toInt = 1 by decide) ev210 (by omega) (by omega)
        refine lv_iinc (v := v210) (lv' := [(5, .int v210), (3, .long v209), (1, .long v202), (0, .ref p0)]) hx hb dX7_mean_62 hl (k := 2) rfl (by rw [ev210]; rfl) (by decide) rfl (fun ls hl => ?_)
        refine lv_goto (tgt := 7) hx hb dX7_mean_65 (by decide) ?_
        exact ih141 (v210, v209, v202) H locs ls (by show (600 - v210.toInt).toNat < (600 - v69.toInt).toNat; omega) ⟨hP, hD, hS, lv_sub hl [0, 1, 2, 3] rfl, hT, by omega⟩
      · skip
        have j211 := rgI v203
        refine lv_icmp_ne (tgt := 59) hx hb dX7_mean_52 (by decide) (fun c212 => ?_) (fun c212 => ?_)
        · skip
          have c212 := i_ne (Eq.refl v203.toInt) (show ((-100000) : Int32).toInt = -100000 by decide) c212
          refine lv_lconst (v := 1) hx hb dX7_mean_59 (by decide) ?_
          have zl1 : (1 : Int64).toInt = 1 := by decide
          refine W.widen (k := 0) (n := 0) (Nat.le_of_ble_eq_true rfl) (Nat.le_of_ble_eq_true rfl) ?_
          exact jn207 (1) H locs ls ⟨hP, hD, hS, lv_sub hl [0, 1, 2, 3] rfl, hT, by omega⟩
        · skip
          have c212 := i_eq (Eq.refl v203.toInt) (show ((-100000) : Int32).toInt = -100000 by decide) c212
          refine lv_lconst (v := 0) hx hb dX7_mean_55 (by decide) ?_
          refine lv_goto (tgt := 60) hx hb dX7_mean_56 (by decide) ?_
          have zl0 : (0 : Int64).toInt = 0 := by decide
          refine W.widen (k := 0) (n := 0) (Nat.le_of_ble_eq_true rfl) (Nat.le_of_ble_eq_true rfl) ?_
          exact jn207 (0) H locs ls ⟨hP, hD, hS, lv_sub hl [0, 1, 2, 3] rfl, hT, by omega⟩
    · skip
      have j213 := rgI v193
      refine lv_icmp_ne (tgt := 32) hx hb dX7_mean_25 (by decide) (fun c214 => ?_) (fun c214 => ?_)
      · skip
        have c214 := i_ne (Eq.refl v193.toInt) (show ((-100000) : Int32).toInt = -100000 by decide) c214
        refine lv_aload_n hx hb dX7_mean_32 rfl (lv_at hl 3 rfl) ?_
        refine va_get (D := D) (ci := 7) (v := .ref a188) (C := RX7) (T := TX7) (N := 4) hx hb hg inGX7 hown hKN.1 hP p191 hk192 rfl 3 (by decide) (hg _ kw_441) (fun _ h9 => h9) rfl dX7_mean_33 ?_
        refine lv_iload hx hb dX7_mean_36 (lv_at hl 0 rfl) ?_
        refine tr_ld12 hx hb hKN hP hT h190 (vp_in_iff.mpr ⟨by omega, by omega⟩) dX7_mean_38 (fun v215 => ?_)
        have j216 := rgI v215
        have j217 := Int32.toInt_toInt64 v215
        refine lv_i2l (v := v215.toInt64) hx hb dX7_mean_39 (rfl) ?_
        refine W.widen (k := 0) (n := 0) (Nat.le_of_ble_eq_true rfl) (Nat.le_of_ble_eq_true rfl) ?_
        exact jn200 (v215.toInt64) H locs ls ⟨hP, hD, hS, lv_sub hl [0, 1, 2, 3] rfl, hT, by omega⟩
      · skip
        have c214 := i_eq (Eq.refl v193.toInt) (show ((-100000) : Int32).toInt = -100000 by decide) c214
        refine lv_lconst (v := 0) hx hb dX7_mean_28 (by decide) ?_
        refine lv_goto (tgt := 40) hx hb dX7_mean_29 (by decide) ?_
        have zl0 : (0 : Int64).toInt = 0 := by decide
        refine W.widen (k := 0) (n := 0) (Nat.le_of_ble_eq_true rfl) (Nat.le_of_ble_eq_true rfl) ?_
        exact jn200 (0) H locs ls ⟨hP, hD, hS, lv_sub hl [0, 1, 2, 3] rfl, hT, by omega⟩
set_option maxHeartbeats 4000000 in
set_option maxRecDepth 100000 in
theorem x_X9_isDipAt (l : Launch) (D : va_G) (Y : Nat → ClassId) (Z : Nat → Nat) (sz : Nat) (ws : va_W) (T : RT) (g : GN) (q : GQ)  (p0 : Nat) (p1 : Int32) (hT : TW Y Z T g q ws) (ht0 : T p0 = (4, 0, 0)) : Met l yX9_isDipAt (.code yX9_isDipAt cX9_isDipAt 2 (some .boolean) :: GW) ({ frames := 0, cells := 0, slots := 0, locals := 0 }) (va_Pc [.ref p0, .int p1] (CPC D Y Z ws sz)) (QG (S := Int32) (fun u => some (.int u)) (fun u => (0 ≤ u.toInt ∧ u.toInt ≤ 1)) (fun u => CB D ws (va_A ws sz)) (va_A ws sz)) 0 0 (va_A ws sz) := by
  refine Met.ofW (cc := cX9_isDipAt) (maxL := 2) (ret := (some .boolean)) (by decide) rfl ?_
  intro p e s m args below meth c s₁ B hml hv
  obtain ⟨rfl, ⟨hsz, hP, hKN, hD0⟩, hSZ⟩ := hv
  have hx := B.exec
  have hb := B.bytes
  have hr := B.returns
  have hts := atoms_spec (ws := .code yX9_isDipAt cX9_isDipAt 2 (some .boolean) :: GW) B.pre
  have hg : ∀ w ∈ GW, w.before _ s = true := fun w h => hts w (List.mem_cons_of_mem _ h)
  have hown : s.vm.findClass RX9 = some m.cls := findClass_of_methodNamed B.named
  have hlocks := B.notSynchronized
  subst hsz
  have hD := hD0.self (sz := s.heap.size)
  generalize hAe : va_A ws s.heap.size = A at hD hSZ ⊢
  have hA : ∀ q : Nat, s.heap.size ≤ q → A q := fun q h => by rw [← hAe]; exact Or.inr h
  clear hAe hD0 hts B
  have hl := lv_entry ([.ref p0, .int p1]) (n := 2) (Nat.le_of_ble_eq_true rfl)
  rw [lg_entry_eq]
  generalize (lg_sl ([.ref p0, .int p1]) ++ List.replicate (2 - (lg_sl ([.ref p0, .int p1])).length) Slot.unset).toArray = ls at hl ⊢
  have hl : lv_has ls 2 [(0, .ref p0), (1, .int p1)] := hl
  refine w_start (A0 := A) hP (fun H locs hP hS => ?_)
  refine lv_iload_n hx hb dX9_isDipAt_0 rfl (lv_at hl 1 rfl) ?_
  refine lv_aload_n hx hb dX9_isDipAt_1 rfl (lv_at hl 0 rfl) ?_
  refine ok4 hT ht0 (fun p8 x1 x2 x3 x4 x5 x6 hk9 h7 => ?_)
  refine va_get (D := D) (ci := 9) (v := .int x3) (C := RX9) (T := TX9) (N := 6) hx hb hg inGX9 hown hKN.1 hP p8 hk9 rfl 2 (by decide) (hg _ kw_573) (fun _ h9 => h9) rfl dX9_isDipAt_2 ?_
  have j10 := rgI p1
  have j11 := rgI x3
  refine lv_icmp_lt (tgt := 37) hx hb dX9_isDipAt_5 (by decide) (fun c12 => ?_) (fun c12 => ?_)
  · skip
    have c12 := i_lt (Eq.refl p1.toInt) (Eq.refl x3.toInt) c12
    refine lv_iconst (v := 0) hx hb dX9_isDipAt_37 (by decide) ?_
    refine W.widen (k := 0) (n := 0) (Nat.le_of_ble_eq_true rfl) (Nat.le_of_ble_eq_true rfl) ?_
    have zi0 : (0 : Int32).toInt = 0 := by decide
    exact W.zret (v := 0) hx hb hr (by decide) (fun t ht hW => ⟨⟨(0), rfl, ((show (0 ≤ (0 : Int32).toInt ∧ (0 : Int32).toInt ≤ 1) by omega)), CB.mk ht hP hD⟩, hS.F ht⟩) hS.2.2 dX9_isDipAt_38
  · skip
    have c12 := i_nlt (Eq.refl p1.toInt) (Eq.refl x3.toInt) c12
    refine lv_aload_n hx hb dX9_isDipAt_8 rfl (lv_at hl 0 rfl) ?_
    refine va_get (D := D) (ci := 9) (v := .int x2) (C := RX9) (T := TX9) (N := 6) hx hb hg inGX9 hown hKN.1 hP p8 hk9 rfl 1 (by decide) (hg _ kw_571) (fun _ h9 => h9) rfl dX9_isDipAt_9 ?_
    have j13 := rgI x2
    refine lv_if_le (tgt := 37) hx hb dX9_isDipAt_12 (by decide) (fun c14 => ?_) (fun c14 => ?_)
    · skip
      have c14 := i_le (Eq.refl x2.toInt) (show (0 : Int32).toInt = 0 by decide) c14
      refine lv_iconst (v := 0) hx hb dX9_isDipAt_37 (by decide) ?_
      refine W.widen (k := 0) (n := 0) (Nat.le_of_ble_eq_true rfl) (Nat.le_of_ble_eq_true rfl) ?_
      have zi0 : (0 : Int32).toInt = 0 := by decide
      exact W.zret (v := 0) hx hb hr (by decide) (fun t ht hW => ⟨⟨(0), rfl, ((show (0 ≤ (0 : Int32).toInt ∧ (0 : Int32).toInt ≤ 1) by omega)), CB.mk ht hP hD⟩, hS.F ht⟩) hS.2.2 dX9_isDipAt_38
    · skip
      have c14 := i_nle (Eq.refl x2.toInt) (show (0 : Int32).toInt = 0 by decide) c14
      refine lv_iload_n hx hb dX9_isDipAt_15 rfl (lv_at hl 1 rfl) ?_
      refine lv_aload_n hx hb dX9_isDipAt_16 rfl (lv_at hl 0 rfl) ?_
      refine va_get (D := D) (ci := 9) (v := .int x3) (C := RX9) (T := TX9) (N := 6) hx hb hg inGX9 hown hKN.1 hP p8 hk9 rfl 2 (by decide) (hg _ kw_573) (fun _ h9 => h9) rfl dX9_isDipAt_17 ?_
      refine lv_isub hx hb dX9_isDipAt_20 ?_
      refine lv_topi (fun v15 ev15 => ?_)
      refine lv_aload_n hx hb dX9_isDipAt_21 rfl (lv_at hl 0 rfl) ?_
      refine va_get (D := D) (ci := 9) (v := .int x2) (C := RX9) (T := TX9) (N := 6) hx hb hg inGX9 hown hKN.1 hP p8 hk9 rfl 1 (by decide) (hg _ kw_571) (fun _ h9 => h9) rfl dX9_isDipAt_22 ?_
      refine lv_irem hx hb dX9_isDipAt_25 (i_nz (Eq.refl x2.toInt) (by omega)) ?_
      refine lv_topi (fun v16 ev16 => ?_)
      have hv16 := i_remS (Eq.refl v15.toInt) (Eq.refl x2.toInt) ev16 (by omega)
      refine lv_aload_n hx hb dX9_isDipAt_26 rfl (lv_at hl 0 rfl) ?_
      refine va_get (D := D) (ci := 9) (v := .int x4) (C := RX9) (T := TX9) (N := 6) hx hb hg inGX9 hown hKN.1 hP p8 hk9 rfl 3 (by decide) (hg _ kw_575) (fun _ h9 => h9) rfl dX9_isDipAt_27 ?_
      have j17 := rgI x4
      refine lv_icmp_ge (tgt := 37) hx hb dX9_isDipAt_30 (by decide) (fun c18 => ?_) (fun c18 => ?_)
      · skip
        have c18 := i_le (Eq.refl x4.toInt) (Eq.refl v16.toInt) c18
        refine lv_iconst (v := 0) hx hb dX9_isDipAt_37 (by decide) ?_
        refine W.widen (k := 0) (n := 0) (Nat.le_of_ble_eq_true rfl) (Nat.le_of_ble_eq_true rfl) ?_
        have zi0 : (0 : Int32).toInt = 0 := by decide
        exact W.zret (v := 0) hx hb hr (by decide) (fun t ht hW => ⟨⟨(0), rfl, ((show (0 ≤ (0 : Int32).toInt ∧ (0 : Int32).toInt ≤ 1) by omega)), CB.mk ht hP hD⟩, hS.F ht⟩) hS.2.2 dX9_isDipAt_38
      · skip
        have c18 := i_nle (Eq.refl x4.toInt) (Eq.refl v16.toInt) c18
        refine lv_iconst (v := 1) hx hb dX9_isDipAt_33 (by decide) ?_
        refine lv_goto (tgt := 38) hx hb dX9_isDipAt_34 (by decide) ?_
        refine W.widen (k := 0) (n := 0) (Nat.le_of_ble_eq_true rfl) (Nat.le_of_ble_eq_true rfl) ?_
        have zi1 : (1 : Int32).toInt = 1 := by decide
        exact W.zret (v := 1) hx hb hr (by decide) (fun t ht hW => ⟨⟨(1), rfl, ((show (0 ≤ (1 : Int32).toInt ∧ (1 : Int32).toInt ≤ 1) by omega)), CB.mk ht hP hD⟩, hS.F ht⟩) hS.2.2 dX9_isDipAt_38
set_option maxHeartbeats 4000000 in
set_option maxRecDepth 100000 in
theorem x_X6_starAt (l : Launch) (D : va_G) (Y : Nat → ClassId) (Z : Nat → Nat) (sz : Nat) (ws : va_W) (T : RT) (g : GN) (q : GQ) (j : Nat) (p0 : Nat) (p1 : Int32) (hT : TW Y Z T g q ws) (ht0 : T p0 = (2, j, 0)) : Met l yX6_starAt (.code yX6_starAt cX6_starAt 2 (some (.object "DimStars$Star")) :: GW) ({ frames := 0, cells := 0, slots := 0, locals := 0 }) (va_Pc [.ref p0, .int p1] (CPC D Y Z ws sz)) (QG (S := (Option Nat)) (fun u => some (va_rf u)) (fun u => (∀ b, u = some b → T b = (3, j, p1.toNatClampNeg)) ∧ (∀ b, u = some b → 0 ≤ p1.toInt ∧ p1.toInt ≤ 11)) (fun u => CB D ws (va_A ws sz)) (va_A ws sz)) 0 0 (va_A ws sz) := by
  refine Met.ofW (cc := cX6_starAt) (maxL := 2) (ret := (some (.object "DimStars$Star"))) (by decide) rfl ?_
  intro p e s m args below meth c s₁ B hml hv
  obtain ⟨rfl, ⟨hsz, hP, hKN, hD0⟩, hSZ⟩ := hv
  have hx := B.exec
  have hb := B.bytes
  have hr := B.returns
  have hts := atoms_spec (ws := .code yX6_starAt cX6_starAt 2 (some (.object "DimStars$Star")) :: GW) B.pre
  have hg : ∀ w ∈ GW, w.before _ s = true := fun w h => hts w (List.mem_cons_of_mem _ h)
  have hown : s.vm.findClass RX6 = some m.cls := findClass_of_methodNamed B.named
  have hlocks := B.notSynchronized
  subst hsz
  have hD := hD0.self (sz := s.heap.size)
  generalize hAe : va_A ws s.heap.size = A at hD hSZ ⊢
  have hA : ∀ q : Nat, s.heap.size ≤ q → A q := fun q h => by rw [← hAe]; exact Or.inr h
  clear hAe hD0 hts B
  have hl := lv_entry ([.ref p0, .int p1]) (n := 2) (Nat.le_of_ble_eq_true rfl)
  rw [lg_entry_eq]
  generalize (lg_sl ([.ref p0, .int p1]) ++ List.replicate (2 - (lg_sl ([.ref p0, .int p1])).length) Slot.unset).toArray = ls at hl ⊢
  have hl : lv_has ls 2 [(0, .ref p0), (1, .int p1)] := hl
  refine w_start (A0 := A) hP (fun H locs hP hS => ?_)
  refine lv_iload_n hx hb dX6_starAt_0 rfl (lv_at hl 1 rfl) ?_
  have j1 := rgI p1
  refine lv_if_lt (tgt := 27) hx hb dX6_starAt_1 (by decide) (fun c2 => ?_) (fun c2 => ?_)
  · skip
    have c2 := i_lt (Eq.refl p1.toInt) (show (0 : Int32).toInt = 0 by decide) c2
    refine lv_null hx hb dX6_starAt_27 ?_
    refine W.widen (k := 0) (n := 0) (Nat.le_of_ble_eq_true rfl) (Nat.le_of_ble_eq_true rfl) ?_
    exact W.aret (v := .null) hx hb hr (Or.inl ⟨_, rfl⟩) (Or.inl rfl) (fun t ht hW => ⟨⟨none, rfl, ⟨(fun b h => by cases h), (show ∀ b, none = some b → 0 ≤ p1.toInt ∧ p1.toInt ≤ 11 from (fun b h => by cases h))⟩, CB.mk ht hP hD⟩, hS.F ht⟩) hS.2.2 dX6_starAt_28
  · skip
    have c2 := i_nlt (Eq.refl p1.toInt) (show (0 : Int32).toInt = 0 by decide) c2
    refine lv_iload_n hx hb dX6_starAt_4 rfl (lv_at hl 1 rfl) ?_
    refine lv_aload_n hx hb dX6_starAt_5 rfl (lv_at hl 0 rfl) ?_
    refine ok2 hT ht0 (fun p37 x3 a4 x5 a6 x7 a8 a9 x10 a11 a12 x13 a14 x15 hk38 h16 h17 h18 h19 h20 h21 h22 h23 h24 h25 h26 h27 h28 h29 h30 h31 h32 h33 h34 h35 h36 => ?_)
    refine va_get (D := D) (ci := 6) (v := .int x3) (C := RX6) (T := TX6) (N := 13) hx hb hg inGX6 hown hKN.1 hP p37 hk38 rfl 0 (by decide) (hg _ kw_39) (fun _ h9 => h9) rfl dX6_starAt_6 ?_
    refine lv_icmp_ge (tgt := 27) hx hb dX6_starAt_9 (by decide) (fun c39 => ?_) (fun c39 => ?_)
    · skip
      have c39 := i_le (Eq.refl x3.toInt) (Eq.refl p1.toInt) c39
      refine lv_null hx hb dX6_starAt_27 ?_
      refine W.widen (k := 0) (n := 0) (Nat.le_of_ble_eq_true rfl) (Nat.le_of_ble_eq_true rfl) ?_
      exact W.aret (v := .null) hx hb hr (Or.inl ⟨_, rfl⟩) (Or.inl rfl) (fun t ht hW => ⟨⟨none, rfl, ⟨(fun b h => by cases h), (show ∀ b, none = some b → 0 ≤ p1.toInt ∧ p1.toInt ≤ 11 from (fun b h => by cases h))⟩, CB.mk ht hP hD⟩, hS.F ht⟩) hS.2.2 dX6_starAt_28
    · skip
      have c39 := i_nle (Eq.refl x3.toInt) (Eq.refl p1.toInt) c39
      refine lv_iload_n hx hb dX6_starAt_12 rfl (lv_at hl 1 rfl) ?_
      refine lv_bipush (v := 12) hx hb dX6_starAt_13 (by decide) ?_
      refine lv_icmp_ge (tgt := 27) hx hb dX6_starAt_15 (by decide) (fun c40 => ?_) (fun c40 => ?_)
      · have c40 := i_le (show (12 : Int32).toInt = 12 by decide) (Eq.refl p1.toInt) c40; exfalso; omega
      have c40 := i_nle (show (12 : Int32).toInt = 12 by decide) (Eq.refl p1.toInt) c40
      refine lv_aload_n hx hb dX6_starAt_18 rfl (lv_at hl 0 rfl) ?_
      refine va_get (D := D) (ci := 6) (v := .ref a4) (C := RX6) (T := TX6) (N := 13) hx hb hg inGX6 hown hKN.1 hP p37 hk38 rfl 1 (by decide) (hg _ kw_42) (fun _ h9 => h9) rfl dX6_starAt_19 ?_
      refine lv_iload_n hx hb dX6_starAt_22 rfl (lv_at hl 1 rfl) ?_
      refine tr_ld17 hx hb hKN hP hT h18 (vp_in_iff.mpr ⟨by omega, by omega⟩) dX6_starAt_23 (fun r41 hr41 qr41 => ?_)
      refine W.eq (g2 := F0 m 24 ls [va_rf r41]) rfl ?_
      refine lv_goto (tgt := 28) hx hb dX6_starAt_24 (by decide) ?_
      refine W.widen (k := 0) (n := 0) (Nat.le_of_ble_eq_true rfl) (Nat.le_of_ble_eq_true rfl) ?_
      exact W.aret (v := va_rf r41) hx hb hr (Or.inl ⟨_, rfl⟩) (rf_or _) (fun t ht hW => ⟨⟨r41, rfl, ⟨(fun b hb => (hr41 b hb)), (show ∀ b, r41 = some b → 0 ≤ p1.toInt ∧ p1.toInt ≤ 11 from (fun b h => ⟨by omega, by omega⟩))⟩, CB.mk ht hP hD⟩, hS.F ht⟩) hS.2.2 dX6_starAt_28
set_option maxHeartbeats 4000000 in
set_option maxRecDepth 100000 in
theorem x_X6_worldAt (l : Launch) (D : va_G) (Y : Nat → ClassId) (Z : Nat → Nat) (sz : Nat) (ws : va_W) (T : RT) (g : GN) (q : GQ) (j : Nat) (p0 : Nat) (p1 : Int32) (hT : TW Y Z T g q ws) (ht0 : T p0 = (2, j, 0)) : Met l yX6_worldAt (.code yX6_worldAt cX6_worldAt 2 (some (.object "DimStars$World")) :: GW) ({ frames := 0, cells := 0, slots := 0, locals := 0 }) (va_Pc [.ref p0, .int p1] (CPC D Y Z ws sz)) (QG (S := (Option Nat)) (fun u => some (va_rf u)) (fun u => (∀ b, u = some b → T b = (4, 0, 0)) ∧ (∀ b, u = some b → 0 ≤ p1.toInt ∧ p1.toInt ≤ 39)) (fun u => CB D ws (va_A ws sz)) (va_A ws sz)) 0 0 (va_A ws sz) := by
  refine Met.ofW (cc := cX6_worldAt) (maxL := 2) (ret := (some (.object "DimStars$World"))) (by decide) rfl ?_
  intro p e s m args below meth c s₁ B hml hv
  obtain ⟨rfl, ⟨hsz, hP, hKN, hD0⟩, hSZ⟩ := hv
  have hx := B.exec
  have hb := B.bytes
  have hr := B.returns
  have hts := atoms_spec (ws := .code yX6_worldAt cX6_worldAt 2 (some (.object "DimStars$World")) :: GW) B.pre
  have hg : ∀ w ∈ GW, w.before _ s = true := fun w h => hts w (List.mem_cons_of_mem _ h)
  have hown : s.vm.findClass RX6 = some m.cls := findClass_of_methodNamed B.named
  have hlocks := B.notSynchronized
  subst hsz
  have hD := hD0.self (sz := s.heap.size)
  generalize hAe : va_A ws s.heap.size = A at hD hSZ ⊢
  have hA : ∀ q : Nat, s.heap.size ≤ q → A q := fun q h => by rw [← hAe]; exact Or.inr h
  clear hAe hD0 hts B
  have hl := lv_entry ([.ref p0, .int p1]) (n := 2) (Nat.le_of_ble_eq_true rfl)
  rw [lg_entry_eq]
  generalize (lg_sl ([.ref p0, .int p1]) ++ List.replicate (2 - (lg_sl ([.ref p0, .int p1])).length) Slot.unset).toArray = ls at hl ⊢
  have hl : lv_has ls 2 [(0, .ref p0), (1, .int p1)] := hl
  refine w_start (A0 := A) hP (fun H locs hP hS => ?_)
  refine lv_iload_n hx hb dX6_worldAt_0 rfl (lv_at hl 1 rfl) ?_
  have j1 := rgI p1
  refine lv_if_lt (tgt := 27) hx hb dX6_worldAt_1 (by decide) (fun c2 => ?_) (fun c2 => ?_)
  · skip
    have c2 := i_lt (Eq.refl p1.toInt) (show (0 : Int32).toInt = 0 by decide) c2
    refine lv_null hx hb dX6_worldAt_27 ?_
    refine W.widen (k := 0) (n := 0) (Nat.le_of_ble_eq_true rfl) (Nat.le_of_ble_eq_true rfl) ?_
    exact W.aret (v := .null) hx hb hr (Or.inl ⟨_, rfl⟩) (Or.inl rfl) (fun t ht hW => ⟨⟨none, rfl, ⟨(fun b h => by cases h), (show ∀ b, none = some b → 0 ≤ p1.toInt ∧ p1.toInt ≤ 39 from (fun b h => by cases h))⟩, CB.mk ht hP hD⟩, hS.F ht⟩) hS.2.2 dX6_worldAt_28
  · skip
    have c2 := i_nlt (Eq.refl p1.toInt) (show (0 : Int32).toInt = 0 by decide) c2
    refine lv_iload_n hx hb dX6_worldAt_4 rfl (lv_at hl 1 rfl) ?_
    refine lv_aload_n hx hb dX6_worldAt_5 rfl (lv_at hl 0 rfl) ?_
    refine ok2 hT ht0 (fun p37 x3 a4 x5 a6 x7 a8 a9 x10 a11 a12 x13 a14 x15 hk38 h16 h17 h18 h19 h20 h21 h22 h23 h24 h25 h26 h27 h28 h29 h30 h31 h32 h33 h34 h35 h36 => ?_)
    refine va_get (D := D) (ci := 6) (v := .int x5) (C := RX6) (T := TX6) (N := 13) hx hb hg inGX6 hown hKN.1 hP p37 hk38 rfl 2 (by decide) (hg _ kw_43) (fun _ h9 => h9) rfl dX6_worldAt_6 ?_
    refine lv_icmp_ge (tgt := 27) hx hb dX6_worldAt_9 (by decide) (fun c39 => ?_) (fun c39 => ?_)
    · skip
      have c39 := i_le (Eq.refl x5.toInt) (Eq.refl p1.toInt) c39
      refine lv_null hx hb dX6_worldAt_27 ?_
      refine W.widen (k := 0) (n := 0) (Nat.le_of_ble_eq_true rfl) (Nat.le_of_ble_eq_true rfl) ?_
      exact W.aret (v := .null) hx hb hr (Or.inl ⟨_, rfl⟩) (Or.inl rfl) (fun t ht hW => ⟨⟨none, rfl, ⟨(fun b h => by cases h), (show ∀ b, none = some b → 0 ≤ p1.toInt ∧ p1.toInt ≤ 39 from (fun b h => by cases h))⟩, CB.mk ht hP hD⟩, hS.F ht⟩) hS.2.2 dX6_worldAt_28
    · skip
      have c39 := i_nle (Eq.refl x5.toInt) (Eq.refl p1.toInt) c39
      refine lv_iload_n hx hb dX6_worldAt_12 rfl (lv_at hl 1 rfl) ?_
      refine lv_bipush (v := 40) hx hb dX6_worldAt_13 (by decide) ?_
      refine lv_icmp_ge (tgt := 27) hx hb dX6_worldAt_15 (by decide) (fun c40 => ?_) (fun c40 => ?_)
      · have c40 := i_le (show (40 : Int32).toInt = 40 by decide) (Eq.refl p1.toInt) c40; exfalso; omega
      have c40 := i_nle (show (40 : Int32).toInt = 40 by decide) (Eq.refl p1.toInt) c40
      refine lv_aload_n hx hb dX6_worldAt_18 rfl (lv_at hl 0 rfl) ?_
      refine va_get (D := D) (ci := 6) (v := .ref a6) (C := RX6) (T := TX6) (N := 13) hx hb hg inGX6 hown hKN.1 hP p37 hk38 rfl 3 (by decide) (hg _ kw_45) (fun _ h9 => h9) rfl dX6_worldAt_19 ?_
      refine lv_iload_n hx hb dX6_worldAt_22 rfl (lv_at hl 1 rfl) ?_
      refine tr_ld18 hx hb hKN hP hT h22 (vp_in_iff.mpr ⟨by omega, by omega⟩) dX6_worldAt_23 (fun r41 hr41 => ?_)
      refine W.eq (g2 := F0 m 24 ls [va_rf r41]) rfl ?_
      refine lv_goto (tgt := 28) hx hb dX6_worldAt_24 (by decide) ?_
      refine W.widen (k := 0) (n := 0) (Nat.le_of_ble_eq_true rfl) (Nat.le_of_ble_eq_true rfl) ?_
      exact W.aret (v := va_rf r41) hx hb hr (Or.inl ⟨_, rfl⟩) (rf_or _) (fun t ht hW => ⟨⟨r41, rfl, ⟨(fun b hb => (hr41 b hb)), (show ∀ b, r41 = some b → 0 ≤ p1.toInt ∧ p1.toInt ≤ 39 from (fun b h => ⟨by omega, by omega⟩))⟩, CB.mk ht hP hD⟩, hS.F ht⟩) hS.2.2 dX6_worldAt_28
set_option maxHeartbeats 4000000 in
set_option maxRecDepth 100000 in
theorem x_X6_putIn (l : Launch) (D : va_G) (Y : Nat → ClassId) (Z : Nat → Nat) (sz : Nat) (ws : va_W) (T : RT) (g : GN) (q : GQ) (j : Nat) (p0 : Nat) (hT : TW Y Z T g q ws) (ht0 : T p0 = (2, j, 0)) : Met l yX6_putIn (.code yX6_putIn cX6_putIn 4 (some .int) :: GW) ({ frames := 1, cells := 0, slots := 0, locals := 21 }) (va_Pc [.ref p0] (CPC D Y Z ws sz)) (QG (S := Int32) (fun u => some (.int u)) (fun u => True) (fun u => CB D ws (va_A ws sz)) (va_A ws sz)) 0 0 (va_A ws sz) := by
  refine Met.ofW (cc := cX6_putIn) (maxL := 4) (ret := (some .int)) (by decide) rfl ?_
  intro p e s m args below meth c s₁ B hml hv
  obtain ⟨rfl, ⟨hsz, hP, hKN, hD0⟩, hSZ⟩ := hv
  have hx := B.exec
  have hb := B.bytes
  have hr := B.returns
  have hts := atoms_spec (ws := .code yX6_putIn cX6_putIn 4 (some .int) :: GW) B.pre
  have hg : ∀ w ∈ GW, w.before _ s = true := fun w h => hts w (List.mem_cons_of_mem _ h)
  have hown : s.vm.findClass RX6 = some m.cls := findClass_of_methodNamed B.named
  have hlocks := B.notSynchronized
  subst hsz
  have hD := hD0.self (sz := s.heap.size)
  generalize hAe : va_A ws s.heap.size = A at hD hSZ ⊢
  have hA : ∀ q : Nat, s.heap.size ≤ q → A q := fun q h => by rw [← hAe]; exact Or.inr h
  clear hAe hD0 hts B
  have hl := lv_entry ([.ref p0]) (n := 4) (Nat.le_of_ble_eq_true rfl)
  rw [lg_entry_eq]
  generalize (lg_sl ([.ref p0]) ++ List.replicate (4 - (lg_sl ([.ref p0])).length) Slot.unset).toArray = ls at hl ⊢
  have hl : lv_has ls 4 [(0, .ref p0)] := hl
  refine w_start (A0 := A) hP (fun H locs hP hS => ?_)
  refine lv_iconst (v := 0) hx hb dX6_putIn_0 (by decide) ?_
  refine lv_istore_n (lv' := [(1, .int 0), (0, .ref p0)]) hx hb dX6_putIn_1 rfl hl (by decide) rfl (fun ls hl => ?_)
  refine lv_iconst (v := 0) hx hb dX6_putIn_2 (by decide) ?_
  refine lv_istore_n (lv' := [(2, .int 0), (1, .int 0), (0, .ref p0)]) hx hb dX6_putIn_3 rfl hl (by decide) rfl (fun ls hl => ?_)
  have zi0 : (0 : Int32).toInt = 0 := by decide
  refine w_loop (σ := Int32 × Int32) (fun xx H locs ls => match xx with | (v105, v106) => va_P D vwCl ws H ∧ va_D A ws ∧ va_S A s.heap H locs ∧ lv_has ls 4 [(2, .int v105), (1, .int v106), (0, .ref p0)] ∧ TW Y Z T g q ws ∧ (0 ≤ v105.toInt ∧ v105.toInt ≤ 40)) (fun xx => match xx with | (v105, v106) => (40 - v105.toInt).toNat) (0, 0) ⟨hP, hD, hS, lv_sub hl [0, 1, 2] rfl, hT, by omega⟩ (fun xx H locs ls hI ih => ?_)
  obtain ⟨v105, v106⟩ := xx
  obtain ⟨hP, hD, hS, hl, hT, hq217⟩ := hI
  have ih218 := ih
  refine lv_iload_n hx hb dX6_putIn_4 rfl (lv_at hl 0 rfl) ?_
  refine lv_aload_n hx hb dX6_putIn_5 rfl (lv_at hl 2 rfl) ?_
  refine ok2 hT ht0 (fun p253 x219 a220 x221 a222 x223 a224 a225 x226 a227 a228 x229 a230 x231 hk254 h232 h233 h234 h235 h236 h237 h238 h239 h240 h241 h242 h243 h244 h245 h246 h247 h248 h249 h250 h251 h252 => ?_)
  refine va_get (D := D) (ci := 6) (v := .int x221) (C := RX6) (T := TX6) (N := 13) hx hb hg inGX6 hown hKN.1 hP p253 hk254 rfl 2 (by decide) (hg _ kw_43) (fun _ h9 => h9) rfl dX6_putIn_6 ?_
  refine lv_icmp_ge (tgt := 43) hx hb dX6_putIn_9 (by decide) (fun c292 => ?_) (fun c292 => ?_)
  · skip
    have c292 := i_le (Eq.refl x221.toInt) (Eq.refl v105.toInt) c292
    refine lv_iload_n hx hb dX6_putIn_43 rfl (lv_at hl 1 rfl) ?_
    refine W.widen (k := 0) (n := 0) (Nat.le_of_ble_eq_true rfl) (Nat.le_of_ble_eq_true rfl) ?_
    exact W.iret (v := v106) hx hb hr (fun t ht hW => ⟨⟨v106, rfl, trivial, CB.mk ht hP hD⟩, hS.F ht⟩) hS.2.2 dX6_putIn_44
  · skip
    have c292 := i_nle (Eq.refl x221.toInt) (Eq.refl v105.toInt) c292
    refine lv_aload_n hx hb dX6_putIn_12 rfl (lv_at hl 2 rfl) ?_
    refine lv_iload_n hx hb dX6_putIn_13 rfl (lv_at hl 0 rfl) ?_
    refine cga (rn_V (As := [.int v105]) (rest := []) (b := p0) (x_X6_worldAt l D Y Z H.size ws T g q j p0 v105 hT ht0) ⟨hx, hb, hml, hown, hg⟩ lk_X6_50 ⟨CPC.blind, va_recv hKN.1 hP (ci := 6) (q0 := p253) rfl hk254, CPC.at hP hKN hD hSZ hS hA⟩ ⟨⟨rfl, rfl⟩, ⟨Nat.le_of_ble_eq_true rfl, Nat.le_of_ble_eq_true rfl⟩, ⟨(Nat.le_of_ble_eq_true rfl), (Nat.le_of_ble_eq_true rfl)⟩⟩ hl.1 rfl (Nat.le_of_ble_eq_true rfl) dX6_putIn_14) hP hD hS hA (fun u293 H locs hw294 hP hD hS => ?_)
    obtain ⟨ht296, hw297⟩ : (∀ b, u293 = some b → T b = (4, 0, 0)) ∧ (∀ b, u293 = some b → 0 ≤ v105.toInt ∧ v105.toInt ≤ 39) := hw294
    refine W.eq (g2 := F0 m 17 ls [va_rf u293]) rfl ?_
    rcases u293 with _ | b298
    · skip
      refine W.eq (g2 := F0 m 17 ls [.null]) rfl ?_
      refine lv_astore_nN (lv' := [(3, .null), (2, .int v105), (1, .int v106), (0, .ref p0)]) hx hb dX6_putIn_17 rfl hl (by decide) rfl (fun ls hl => ?_)
      refine lv_iload_n hx hb dX6_putIn_18 rfl (lv_at hl 2 rfl) ?_
      refine lv_aload_nN hx hb dX6_putIn_19 rfl (lv_at hl 0 rfl) ?_
      refine lv_ifnullN (tgt := 34) hx hb dX6_putIn_20 (by decide) ?_
      refine lv_iconst (v := 0) hx hb dX6_putIn_34 (by decide) ?_
      refine lv_iadd hx hb dX6_putIn_35 ?_
      refine lv_topi (fun v299 ev299 => ?_)
      have j300 := rgI v106
      have hv299 := i_add (Eq.refl v106.toInt) (show (0 : Int32).toInt = 0 by decide) ev299 (by omega) (by omega)
      refine lv_istore_n (lv' := [(1, .int v299), (3, .null), (2, .int v105), (0, .ref p0)]) hx hb dX6_putIn_36 rfl hl (by decide) rfl (fun ls hl => ?_)
      obtain ⟨v301, ev301⟩ : ∃ y : Int32, y = v105 + 1 := ⟨_, rfl⟩
      have hv301 := i_add (Eq.refl v105.toInt) (show (1 : Int32).toInt = 1 by decide) ev301 (by omega) (by omega)
      refine lv_iinc (v := v301) (lv' := [(2, .int v301), (1, .int v299), (3, .null), (0, .ref p0)]) hx hb dX6_putIn_37 hl (k := 2) rfl (by rw [ev301]; rfl) (by decide) rfl (fun ls hl => ?_)
      refine lv_goto (tgt := 4) hx hb dX6_putIn_40 (by decide) ?_
      exact ih218 (v301, v299) H locs ls (by show (40 - v301.toInt).toNat < (40 - v105.toInt).toNat; omega) ⟨hP, hD, hS, lv_sub hl [0, 1, 3] rfl, hT, by omega⟩
    · skip
      have ht302 := ht296 b298 rfl
      have h303 := hw297 b298 rfl
      refine W.eq (g2 := F0 m 17 ls [.ref b298]) rfl ?_
      refine lv_astore_n (lv' := [(3, .ref b298), (2, .int v105), (1, .int v106), (0, .ref p0)]) hx hb dX6_putIn_17 rfl hl (by decide) rfl (fun ls hl => ?_)
      refine lv_iload_n hx hb dX6_putIn_18 rfl (lv_at hl 2 rfl) ?_
      refine lv_aload_n hx hb dX6_putIn_19 rfl (lv_at hl 0 rfl) ?_
      refine w_join (σ := Int32) (pcJ := 35) (kJ := 0) (nJ := 0) (stk := fun xx => match xx with | v314 => [.int v314, .int v106]) (fun xx H locs ls => match xx with | v314 => va_P D vwCl ws H ∧ va_D A ws ∧ va_S A s.heap H locs ∧ lv_has ls 4 [(3, .ref b298), (2, .int v105), (1, .int v106), (0, .ref p0)] ∧ TW Y Z T g q ws ∧ (0 ≤ v314.toInt ∧ v314.toInt ≤ 1)) (fun xx H locs ls hI => ?_) (fun jn315 => ?_)
      · skip
        revert hI
        generalize xx = v314
        intro hI
        obtain ⟨hP, hD, hS, hl, hT, hq316⟩ := hI
        refine W.eq (g2 := F0 m 35 ls [.int v314, .int v106]) rfl ?_
        refine lv_iadd hx hb dX6_putIn_35 ?_
        refine lv_topi (fun v317 ev317 => ?_)
        refine lv_istore_n (lv' := [(1, .int v317), (3, .ref b298), (2, .int v105), (0, .ref p0)]) hx hb dX6_putIn_36 rfl hl (by decide) rfl (fun ls hl => ?_)
        obtain ⟨v318, ev318⟩ : ∃ y : Int32, y = v105 + 1 := ⟨_, rfl⟩
        have hv318 := i_add (Eq.refl v105.toInt) (show (1 : Int32).toInt = 1 by decide) ev318 (by omega) (by omega)
        refine lv_iinc (v := v318) (lv' := [(2, .int v318), (1, .int v317), (3, .ref b298), (0, .ref p0)]) hx hb dX6_putIn_37 hl (k := 2) rfl (by rw [ev318]; rfl) (by decide) rfl (fun ls hl => ?_)
        refine lv_goto (tgt := 4) hx hb dX6_putIn_40 (by decide) ?_
        exact ih218 (v318, v317) H locs ls (by show (40 - v318.toInt).toNat < (40 - v105.toInt).toNat; omega) ⟨hP, hD, hS, lv_sub hl [0, 1, 3] rfl, hT, by omega⟩
      · skip
        refine lv_ifnull hx hb dX6_putIn_20 ?_
        refine lv_aload_n hx hb dX6_putIn_23 rfl (lv_at hl 0 rfl) ?_
        refine ok4 hT ht302 (fun p326 x319 x320 x321 x322 x323 x324 hk327 h325 => ?_)
        refine va_getN (D := D) (ci := 9) (v := .int x324) (C := RX9) (T := TX9) (N := 6) hx hb hg inGX9 hown hKN.1 hP p326 hk327 rfl 5 (by decide) (va_Nw.use rfl (hKN.2.1 _ kn_580 rfl)) (fun _ h9 => h9) rfl dX6_putIn_24 ?_
        refine lv_if_eq (tgt := 34) hx hb dX6_putIn_27 (by decide) (fun c328 => ?_) (fun c328 => ?_)
        · skip
          have c328 := i_eq (Eq.refl x324.toInt) (show (0 : Int32).toInt = 0 by decide) c328
          refine lv_iconst (v := 0) hx hb dX6_putIn_34 (by decide) ?_
          have zi0 : (0 : Int32).toInt = 0 := by decide
          refine W.widen (k := 0) (n := 0) (Nat.le_of_ble_eq_true rfl) (Nat.le_of_ble_eq_true rfl) ?_
          exact jn315 (0) H locs ls ⟨hP, hD, hS, lv_sub hl [0, 1, 2, 3] rfl, hT, by omega⟩
        · skip
          have c328 := i_ne (Eq.refl x324.toInt) (show (0 : Int32).toInt = 0 by decide) c328
          refine lv_iconst (v := 1) hx hb dX6_putIn_30 (by decide) ?_
          refine lv_goto (tgt := 35) hx hb dX6_putIn_31 (by decide) ?_
          have zi1 : (1 : Int32).toInt = 1 := by decide
          refine W.widen (k := 0) (n := 0) (Nat.le_of_ble_eq_true rfl) (Nat.le_of_ble_eq_true rfl) ?_
          exact jn315 (1) H locs ls ⟨hP, hD, hS, lv_sub hl [0, 1, 2, 3] rfl, hT, by omega⟩
set_option maxHeartbeats 4000000 in
set_option maxRecDepth 100000 in
theorem x_X6_sizeOf (l : Launch) (D : va_G) (Y : Nat → ClassId) (Z : Nat → Nat) (sz : Nat) (ws : va_W) (T : RT) (g : GN) (q : GQ) (j : Nat) (p0 : Nat) (p1 : Int32) (hT : TW Y Z T g q ws) (ht0 : T p0 = (2, j, 0)) : Met l yX6_sizeOf (.code yX6_sizeOf cX6_sizeOf 3 (some .long) :: GW) ({ frames := 1, cells := 0, slots := 0, locals := 21 }) (va_Pc [.ref p0, .int p1] (CPC D Y Z ws sz)) (QG (S := Int64) (fun u => some (.long u)) (fun u => True) (fun u => CB D ws (va_A ws sz)) (va_A ws sz)) 0 0 (va_A ws sz) := by
  refine Met.ofW (cc := cX6_sizeOf) (maxL := 3) (ret := (some .long)) (by decide) rfl ?_
  intro p e s m args below meth c s₁ B hml hv
  obtain ⟨rfl, ⟨hsz, hP, hKN, hD0⟩, hSZ⟩ := hv
  have hx := B.exec
  have hb := B.bytes
  have hr := B.returns
  have hts := atoms_spec (ws := .code yX6_sizeOf cX6_sizeOf 3 (some .long) :: GW) B.pre
  have hg : ∀ w ∈ GW, w.before _ s = true := fun w h => hts w (List.mem_cons_of_mem _ h)
  have hown : s.vm.findClass RX6 = some m.cls := findClass_of_methodNamed B.named
  have hlocks := B.notSynchronized
  subst hsz
  have hD := hD0.self (sz := s.heap.size)
  generalize hAe : va_A ws s.heap.size = A at hD hSZ ⊢
  have hA : ∀ q : Nat, s.heap.size ≤ q → A q := fun q h => by rw [← hAe]; exact Or.inr h
  clear hAe hD0 hts B
  have hl := lv_entry ([.ref p0, .int p1]) (n := 3) (Nat.le_of_ble_eq_true rfl)
  rw [lg_entry_eq]
  generalize (lg_sl ([.ref p0, .int p1]) ++ List.replicate (3 - (lg_sl ([.ref p0, .int p1])).length) Slot.unset).toArray = ls at hl ⊢
  have hl : lv_has ls 3 [(0, .ref p0), (1, .int p1)] := hl
  refine w_start (A0 := A) hP (fun H locs hP hS => ?_)
  refine lv_aload_n hx hb dX6_sizeOf_0 rfl (lv_at hl 0 rfl) ?_
  refine lv_iload_n hx hb dX6_sizeOf_1 rfl (lv_at hl 1 rfl) ?_
  refine ok2 hT ht0 (fun p35 x1 a2 x3 a4 x5 a6 a7 x8 a9 a10 x11 a12 x13 hk36 h14 h15 h16 h17 h18 h19 h20 h21 h22 h23 h24 h25 h26 h27 h28 h29 h30 h31 h32 h33 h34 => ?_)
  refine cga (rn_V (As := [.int p1]) (rest := []) (b := p0) (x_X6_starAt l D Y Z H.size ws T g q j p0 p1 hT ht0) ⟨hx, hb, hml, hown, hg⟩ lk_X6_58 ⟨CPC.blind, va_recv hKN.1 hP (ci := 6) (q0 := p35) rfl hk36, CPC.at hP hKN hD hSZ hS hA⟩ ⟨⟨rfl, rfl⟩, ⟨Nat.le_of_ble_eq_true rfl, Nat.le_of_ble_eq_true rfl⟩, ⟨(Nat.le_of_ble_eq_true rfl), (Nat.le_of_ble_eq_true rfl)⟩⟩ hl.1 rfl (Nat.le_of_ble_eq_true rfl) dX6_sizeOf_2) hP hD hS hA (fun u37 H locs hw38 hP hD hS => ?_)
  obtain ⟨ht40, hw41⟩ : (∀ b, u37 = some b → T b = (3, j, p1.toNatClampNeg)) ∧ (∀ b, u37 = some b → 0 ≤ p1.toInt ∧ p1.toInt ≤ 11) := hw38
  refine W.eq (g2 := F0 m 5 ls [va_rf u37]) rfl ?_
  rcases u37 with _ | b42
  · skip
    refine W.eq (g2 := F0 m 5 ls [.null]) rfl ?_
    refine lv_astore_nN (lv' := [(2, .null), (0, .ref p0), (1, .int p1)]) hx hb dX6_sizeOf_5 rfl hl (by decide) rfl (fun ls hl => ?_)
    refine lv_aload_nN hx hb dX6_sizeOf_6 rfl (lv_at hl 0 rfl) ?_
    refine lv_ifnonnullN hx hb dX6_sizeOf_7 ?_
    refine lv_lconst (v := 0) hx hb dX6_sizeOf_10 (by decide) ?_
    refine lv_goto (tgt := 19) hx hb dX6_sizeOf_11 (by decide) ?_
    refine W.widen (k := 0) (n := 0) (Nat.le_of_ble_eq_true rfl) (Nat.le_of_ble_eq_true rfl) ?_
    have zl0 : (0 : Int64).toInt = 0 := by decide
    exact W.lret (v := 0) hx hb hr (fun t ht hW => ⟨⟨(0), rfl, trivial, CB.mk ht hP hD⟩, hS.F ht⟩) hS.2.2 dX6_sizeOf_19
  · skip
    have ht43 := ht40 b42 rfl
    have h44 := hw41 b42 rfl
    refine W.eq (g2 := F0 m 5 ls [.ref b42]) rfl ?_
    refine lv_astore_n (lv' := [(2, .ref b42), (0, .ref p0), (1, .int p1)]) hx hb dX6_sizeOf_5 rfl hl (by decide) rfl (fun ls hl => ?_)
    refine lv_aload_n hx hb dX6_sizeOf_6 rfl (lv_at hl 0 rfl) ?_
    refine lv_ifnonnull (tgt := 14) hx hb dX6_sizeOf_7 (by decide) ?_
    refine lv_aload_n hx hb dX6_sizeOf_14 rfl (lv_at hl 0 rfl) ?_
    refine ok3 hT ht43 (fun p51 x45 x46 x47 a48 hk52 h49 h50 => ?_)
    refine va_getN (D := D) (ci := 7) (v := .int x45) (C := RX7) (T := TX7) (N := 4) hx hb hg inGX7 hown hKN.1 hP p51 hk52 rfl 0 (by decide) (va_Nw.use rfl (hKN.2.1 _ kn_435 rfl)) (fun _ h9 => h9) rfl dX6_sizeOf_15 ?_
    have j53 := rgI x45
    have j54 := Int32.toInt_toInt64 x45
    refine lv_i2l (v := x45.toInt64) hx hb dX6_sizeOf_18 (rfl) ?_
    refine W.widen (k := 0) (n := 0) (Nat.le_of_ble_eq_true rfl) (Nat.le_of_ble_eq_true rfl) ?_
    exact W.lret (v := x45.toInt64) hx hb hr (fun t ht hW => ⟨⟨x45.toInt64, rfl, trivial, CB.mk ht hP hD⟩, hS.F ht⟩) hS.2.2 dX6_sizeOf_19
set_option maxHeartbeats 4000000 in
set_option maxRecDepth 100000 in
theorem x_X6_luckOf (l : Launch) (D : va_G) (Y : Nat → ClassId) (Z : Nat → Nat) (sz : Nat) (ws : va_W) (T : RT) (g : GN) (q : GQ) (j : Nat) (p0 : Nat) (p1 : Int32) (hT : TW Y Z T g q ws) (ht0 : T p0 = (2, j, 0)) : Met l yX6_luckOf (.code yX6_luckOf cX6_luckOf 3 (some .long) :: GW) ({ frames := 1, cells := 0, slots := 0, locals := 21 }) (va_Pc [.ref p0, .int p1] (CPC D Y Z ws sz)) (QG (S := Int64) (fun u => some (.long u)) (fun u => True) (fun u => CB D ws (va_A ws sz)) (va_A ws sz)) 0 0 (va_A ws sz) := by
  refine Met.ofW (cc := cX6_luckOf) (maxL := 3) (ret := (some .long)) (by decide) rfl ?_
  intro p e s m args below meth c s₁ B hml hv
  obtain ⟨rfl, ⟨hsz, hP, hKN, hD0⟩, hSZ⟩ := hv
  have hx := B.exec
  have hb := B.bytes
  have hr := B.returns
  have hts := atoms_spec (ws := .code yX6_luckOf cX6_luckOf 3 (some .long) :: GW) B.pre
  have hg : ∀ w ∈ GW, w.before _ s = true := fun w h => hts w (List.mem_cons_of_mem _ h)
  have hown : s.vm.findClass RX6 = some m.cls := findClass_of_methodNamed B.named
  have hlocks := B.notSynchronized
  subst hsz
  have hD := hD0.self (sz := s.heap.size)
  generalize hAe : va_A ws s.heap.size = A at hD hSZ ⊢
  have hA : ∀ q : Nat, s.heap.size ≤ q → A q := fun q h => by rw [← hAe]; exact Or.inr h
  clear hAe hD0 hts B
  have hl := lv_entry ([.ref p0, .int p1]) (n := 3) (Nat.le_of_ble_eq_true rfl)
  rw [lg_entry_eq]
  generalize (lg_sl ([.ref p0, .int p1]) ++ List.replicate (3 - (lg_sl ([.ref p0, .int p1])).length) Slot.unset).toArray = ls at hl ⊢
  have hl : lv_has ls 3 [(0, .ref p0), (1, .int p1)] := hl
  refine w_start (A0 := A) hP (fun H locs hP hS => ?_)
  refine lv_aload_n hx hb dX6_luckOf_0 rfl (lv_at hl 0 rfl) ?_
  refine lv_iload_n hx hb dX6_luckOf_1 rfl (lv_at hl 1 rfl) ?_
  refine ok2 hT ht0 (fun p35 x1 a2 x3 a4 x5 a6 a7 x8 a9 a10 x11 a12 x13 hk36 h14 h15 h16 h17 h18 h19 h20 h21 h22 h23 h24 h25 h26 h27 h28 h29 h30 h31 h32 h33 h34 => ?_)
  refine cga (rn_V (As := [.int p1]) (rest := []) (b := p0) (x_X6_starAt l D Y Z H.size ws T g q j p0 p1 hT ht0) ⟨hx, hb, hml, hown, hg⟩ lk_X6_58 ⟨CPC.blind, va_recv hKN.1 hP (ci := 6) (q0 := p35) rfl hk36, CPC.at hP hKN hD hSZ hS hA⟩ ⟨⟨rfl, rfl⟩, ⟨Nat.le_of_ble_eq_true rfl, Nat.le_of_ble_eq_true rfl⟩, ⟨(Nat.le_of_ble_eq_true rfl), (Nat.le_of_ble_eq_true rfl)⟩⟩ hl.1 rfl (Nat.le_of_ble_eq_true rfl) dX6_luckOf_2) hP hD hS hA (fun u37 H locs hw38 hP hD hS => ?_)
  obtain ⟨ht40, hw41⟩ : (∀ b, u37 = some b → T b = (3, j, p1.toNatClampNeg)) ∧ (∀ b, u37 = some b → 0 ≤ p1.toInt ∧ p1.toInt ≤ 11) := hw38
  refine W.eq (g2 := F0 m 5 ls [va_rf u37]) rfl ?_
  rcases u37 with _ | b42
  · skip
    refine W.eq (g2 := F0 m 5 ls [.null]) rfl ?_
    refine lv_astore_nN (lv' := [(2, .null), (0, .ref p0), (1, .int p1)]) hx hb dX6_luckOf_5 rfl hl (by decide) rfl (fun ls hl => ?_)
    refine lv_aload_nN hx hb dX6_luckOf_6 rfl (lv_at hl 0 rfl) ?_
    refine lv_ifnonnullN hx hb dX6_luckOf_7 ?_
    refine lv_lconst (v := 0) hx hb dX6_luckOf_10 (by decide) ?_
    refine lv_goto (tgt := 19) hx hb dX6_luckOf_11 (by decide) ?_
    refine W.widen (k := 0) (n := 0) (Nat.le_of_ble_eq_true rfl) (Nat.le_of_ble_eq_true rfl) ?_
    have zl0 : (0 : Int64).toInt = 0 := by decide
    exact W.lret (v := 0) hx hb hr (fun t ht hW => ⟨⟨(0), rfl, trivial, CB.mk ht hP hD⟩, hS.F ht⟩) hS.2.2 dX6_luckOf_19
  · skip
    have ht43 := ht40 b42 rfl
    have h44 := hw41 b42 rfl
    refine W.eq (g2 := F0 m 5 ls [.ref b42]) rfl ?_
    refine lv_astore_n (lv' := [(2, .ref b42), (0, .ref p0), (1, .int p1)]) hx hb dX6_luckOf_5 rfl hl (by decide) rfl (fun ls hl => ?_)
    refine lv_aload_n hx hb dX6_luckOf_6 rfl (lv_at hl 0 rfl) ?_
    refine lv_ifnonnull (tgt := 14) hx hb dX6_luckOf_7 (by decide) ?_
    refine lv_aload_n hx hb dX6_luckOf_14 rfl (lv_at hl 0 rfl) ?_
    refine ok3 hT ht43 (fun p51 x45 x46 x47 a48 hk52 h49 h50 => ?_)
    refine va_getN (D := D) (ci := 7) (v := .int x47) (C := RX7) (T := TX7) (N := 4) hx hb hg inGX7 hown hKN.1 hP p51 hk52 rfl 2 (by decide) (va_Nw.use rfl (hKN.2.1 _ kn_440 rfl)) (fun _ h9 => h9) rfl dX6_luckOf_15 ?_
    have j53 := rgI x47
    have j54 := Int32.toInt_toInt64 x47
    refine lv_i2l (v := x47.toInt64) hx hb dX6_luckOf_18 (rfl) ?_
    refine W.widen (k := 0) (n := 0) (Nat.le_of_ble_eq_true rfl) (Nat.le_of_ble_eq_true rfl) ?_
    exact W.lret (v := x47.toInt64) hx hb hr (fun t ht hW => ⟨⟨x47.toInt64, rfl, trivial, CB.mk ht hP hD⟩, hS.F ht⟩) hS.2.2 dX6_luckOf_19

