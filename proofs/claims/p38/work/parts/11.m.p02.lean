set_option maxHeartbeats 4000000 in
set_option maxRecDepth 100000 in
theorem m_lifts (l : Launch) (D : va_G) (Y : Nat → ClassId) (Z : Nat → Nat) (sz : Nat) (o : Nat) (a : Nat → Nat) (I : Nat → Int32) (J : Nat → Int64) (F : Nat → Nat → Int32) (G : Nat → Nat → Int64) (p1 : Int32) (p2 : Int32) (hk_0 : (0 ≤ p1.toInt ∧ p1.toInt ≤ 11)) (hk_1 : (0 ≤ p2.toInt ∧ p2.toInt ≤ 5)) (hk0 : TO (F 0)) (hk1 : LB (F 28)) : Met l yX11_lifts (.code yX11_lifts cX11_lifts 4 none :: GW) ({ frames := 3, cells := 0, slots := 0, locals := 77 }) (va_Pc [.ref o, .int p1, .int p2] (CP D Y Z (MW Y o a I J F G) sz)) (QG (S := Int32 × Int64 × Int64 × (Nat → Int32) × (Nat → Int32)) (fun _ => none) (fun u => (0 ≤ u.1.toInt ∧ u.1.toInt ≤ 600) ∧ (-60000000 ≤ u.2.1.toInt ∧ u.2.1.toInt ≤ 60000000) ∧ (1 ≤ u.2.2.1.toInt) ∧ LB u.2.2.2.2) (fun u => CB D (MW Y o a (upd I 29 u.1) (vp_updL (vp_updL J 30 u.2.1) 31 u.2.2.1) (vf_upd (vf_upd F 1 u.2.2.2.1) 28 u.2.2.2.2) G) (va_A (MW Y o a I J F G) sz)) (va_A (MW Y o a I J F G) sz)) 0 0 (va_A (MW Y o a I J F G) sz) := by
  refine Met.ofW (cc := cX11_lifts) (maxL := 4) (ret := none) (by decide) rfl ?_
  intro p e s m args below meth c s₁ B hml hv
  obtain ⟨rfl, hsz, hP, hKN, hD0⟩ := hv
  have hx := B.exec
  have hb := B.bytes
  have hr := B.returns
  have hts := atoms_spec (ws := .code yX11_lifts cX11_lifts 4 none :: GW) B.pre
  have hg : ∀ w ∈ GW, w.before _ s = true := fun w h => hts w (List.mem_cons_of_mem _ h)
  have hown : s.vm.findClass RX11 = some m.cls := findClass_of_methodNamed B.named
  have hlocks := B.notSynchronized
  subst hsz
  have hD := hD0.self (sz := s.heap.size)
  generalize hAe : va_A (MW Y o a I J F G) s.heap.size = A at hD ⊢
  have hA : ∀ q : Nat, s.heap.size ≤ q → A q := fun q h => by rw [← hAe]; exact Or.inr h
  clear hAe hD0 hts B
  have hl := lv_entry ([.ref o, .int p1, .int p2]) (n := 4) (Nat.le_of_ble_eq_true rfl)
  rw [lg_entry_eq]
  generalize (lg_sl ([.ref o, .int p1, .int p2]) ++ List.replicate (4 - (lg_sl ([.ref o, .int p1, .int p2])).length) Slot.unset).toArray = ls at hl ⊢
  have hl : lv_has ls 4 [(0, .ref o), (1, .int p1), (2, .int p2)] := hl
  refine w_start (A0 := A) hP (fun H locs hP hS => ?_)
  refine lv_iload_n hx hb dX11_lifts_0 rfl (lv_at hl 2 rfl) ?_
  refine lv_iconst (v := 4) hx hb dX11_lifts_1 (by decide) ?_
  refine w_join (σ := Int32 × Int32 × (Nat → Int32)) (pcJ := 9) (kJ := 0) (nJ := 0) (stk := fun xx => match xx with | (g5, g6, f7) => []) (fun xx H locs ls => match xx with | (g5, g6, f7) => va_P D vwCl (MW Y o a I J (vf_upd F 1 f7) G) H ∧ va_D A (MW Y o a I J (vf_upd F 1 f7) G) ∧ va_S A s.heap H locs ∧ lv_has ls 4 [(0, .ref o), (1, .int g5), (2, .int g6)] ∧ (0 ≤ g5.toInt ∧ g5.toInt ≤ 11) ∧ (0 ≤ g6.toInt ∧ g6.toInt ≤ 5)) (fun xx H locs ls hI => ?_) (fun jn8 => ?_)
  · skip
    obtain ⟨g5, g6, f7⟩ := xx
    obtain ⟨hP, hD, hS, hl, hq9, hq10⟩ := hI
    refine W.eq (g2 := F0 m 9 ls []) rfl ?_
    refine lv_iconst (v := 0) hx hb dX11_lifts_9 (by decide) ?_
    refine lv_istore_n (lv' := [(3, .int 0), (0, .ref o), (1, .int g5), (2, .int g6)]) hx hb dX11_lifts_10 rfl hl (by decide) rfl (fun ls hl => ?_)
    have zi0 : (0 : Int32).toInt = 0 := by decide
    refine w_loop (σ := Int32 × (Nat → Int32)) (fun xx H locs ls => match xx with | (g25, f26) => va_P D vwCl (MW Y o a I J (vf_upd (vf_upd F 1 f7) 28 f26) G) H ∧ va_D A (MW Y o a I J (vf_upd (vf_upd F 1 f7) 28 f26) G) ∧ va_S A s.heap H locs ∧ lv_has ls 4 [(3, .int g25), (0, .ref o), (1, .int g5), (2, .int g6)] ∧ (0 ≤ g25.toInt ∧ g25.toInt ≤ 600) ∧ LB f26) (fun xx => match xx with | (g25, f26) => (600 - g25.toInt).toNat) (0, (F 28)) ⟨hP, hD, hS, lv_sub hl [0, 1, 2, 3] rfl, by omega, hk1⟩ (fun xx H locs ls hI ih => ?_)
    obtain ⟨g25, f26⟩ := xx
    obtain ⟨hP, hD, hS, hl, hq43, hp44⟩ := hI
    have ih45 := ih
    refine lv_iload_n hx hb dX11_lifts_11 rfl (lv_at hl 0 rfl) ?_
    refine lv_sipush (v := 600) hx hb dX11_lifts_12 (by decide) ?_
    refine lv_icmp_ge (tgt := 37) hx hb dX11_lifts_15 (by decide) (fun c54 => ?_) (fun c54 => ?_)
    · skip
      have c54 := i_le (show (600 : Int32).toInt = 600 by decide) (Eq.refl g25.toInt) c54
      refine lv_aload_n hx hb dX11_lifts_37 rfl (lv_at hl 1 rfl) ?_
      refine cga (rn_V (As := []) (rest := []) (b := o) (m_counts l D Y Z H.size o a I J (vf_upd (vf_upd F 1 f7) 28 f26) G   hp44) ⟨hx, hb, hml, hown, hg⟩ lk_X11_391 ⟨CP.blind, va_recv hKN.1 hP (ci := 11) (q0 := 0) rfl rfl, CP.at hP hKN hD⟩ ⟨⟨rfl, rfl⟩, ⟨Nat.le_of_ble_eq_true rfl, Nat.le_of_ble_eq_true rfl⟩, ⟨Nat.le_of_ble_eq_true rfl, Nat.le_of_ble_eq_true rfl⟩⟩ hl.1 rfl (Nat.le_of_ble_eq_true rfl) dX11_lifts_38) hP hD hS hA (fun u55 H locs w56 hP hD hS => ?_)
      obtain ⟨u57, u58, u59⟩ := u55
      have w56 : (0 ≤ u57.toInt ∧ u57.toInt ≤ 600) ∧ (-60000000 ≤ u58.toInt ∧ u58.toInt ≤ 60000000) ∧ (1 ≤ u59.toInt) := w56
      obtain ⟨hw60, hw61, hw62⟩ := w56
      refine W.eq (g2 := F0 m 41 ls []) rfl ?_
      have hP : va_P D vwCl (MW Y o a (upd I 29 u57) (vp_updL (vp_updL J 30 u58) 31 u59) (vf_upd (vf_upd F 1 f7) 28 f26) G) H := hP
      have hD : va_D A (MW Y o a (upd I 29 u57) (vp_updL (vp_updL J 30 u58) 31 u59) (vf_upd (vf_upd F 1 f7) 28 f26) G) := hD
      refine W.widen (k := 0) (n := 0) (Nat.le_of_ble_eq_true rfl) (Nat.le_of_ble_eq_true rfl) ?_
      exact W.vret hx hb hr (fun t ht hW => ⟨⟨(u57, u58, u59, f7, f26), rfl, ⟨(show (0 ≤ u57.toInt ∧ u57.toInt ≤ 600) by omega), (show (-60000000 ≤ u58.toInt ∧ u58.toInt ≤ 60000000) by omega), (show (1 ≤ u59.toInt) by omega), hp44⟩, CB.mk ht hP hD⟩, hS.F ht⟩) hS.2.2 dX11_lifts_41
    · skip
      have c54 := i_nle (show (600 : Int32).toInt = 600 by decide) (Eq.refl g25.toInt) c54
      refine lv_aload_n hx hb dX11_lifts_18 rfl (lv_at hl 1 rfl) ?_
      refine va_get (D := D) (ci := 11) (v := .ref (a 28)) (C := RX11) (T := TX11) (N := 49) hx hb hg inGX11 hown hKN.1 hP 0 rfl rfl 28 (by decide) (hg _ kw_1236) (fun _ h9 => h9) rfl dX11_lifts_19 ?_
      refine lv_iload_n hx hb dX11_lifts_22 rfl (lv_at hl 0 rfl) ?_
      refine lv_aload_n hx hb dX11_lifts_23 rfl (lv_at hl 1 rfl) ?_
      refine lv_iload_n hx hb dX11_lifts_24 rfl (lv_at hl 2 rfl) ?_
      refine lv_iload_n hx hb dX11_lifts_25 rfl (lv_at hl 0 rfl) ?_
      refine lv_iload_n hx hb dX11_lifts_26 rfl (lv_at hl 3 rfl) ?_
      refine cga (rn_V (As := [.int g5, .int g25, .int g6]) (rest := [.int g25, .ref (a 28)]) (b := o) (m_seenAt l D Y Z H.size o a I J (vf_upd (vf_upd F 1 f7) 28 f26) G  g5 g25 g6 (show (0 ≤ g5.toInt ∧ g5.toInt ≤ 11) by omega) (show (0 ≤ g25.toInt ∧ g25.toInt ≤ 599) by omega) (show (0 ≤ g6.toInt ∧ g6.toInt ≤ 5) by omega) hk0) ⟨hx, hb, hml, hown, hg⟩ lk_X11_157 ⟨CP.blind, va_recv hKN.1 hP (ci := 11) (q0 := 0) rfl rfl, CP.at hP hKN hD⟩ ⟨⟨rfl, rfl⟩, ⟨Nat.le_of_ble_eq_true rfl, Nat.le_of_ble_eq_true rfl⟩, ⟨Nat.le_of_ble_eq_true rfl, Nat.le_of_ble_eq_true rfl⟩⟩ hl.1 rfl (Nat.le_of_ble_eq_true rfl) dX11_lifts_27) hP hD hS hA (fun u63 H locs w64 hP hD hS => ?_)
      have w64 : (-100000 ≤ u63.toInt ∧ u63.toInt ≤ 100000) := w64
      have hw66 := w64
      refine W.eq (g2 := F0 m 30 ls [.int u63, .int g25, .ref (a 28)]) rfl ?_
      have hP : va_P D vwCl (MW Y o a I J (vf_upd (vf_upd F 1 f7) 28 f26) G) H := hP
      have hD : va_D A (MW Y o a I J (vf_upd (vf_upd F 1 f7) 28 f26) G) := hD
      refine va_iast hx hb hKN.1 hP hD hS 19 0 rfl rfl (vp_in_iff.mpr ⟨by omega, by omega⟩) dX11_lifts_30 (fun H locs hP hD hS => ?_)
      obtain ⟨f67, ef67, hP, hD⟩ : ∃ f67 : Nat → Int32, f67 = upd f26 g25.toNatClampNeg u63 ∧ va_P D vwCl (MW Y o a I J (vf_upd (vf_upd F 1 f7) 28 f67) G) H ∧ va_D A (MW Y o a I J (vf_upd (vf_upd F 1 f7) 28 f67) G) := ⟨_, rfl, hP, hD⟩
      have t68 : LB f67 := by rw [ef67]; exact LB_set hp44 (by omega)
      obtain ⟨v69, ev69⟩ : ∃ y : Int32, y = g25 + 1 := ⟨_, rfl⟩
      have hv69 := i_add (Eq.refl g25.toInt) (show (1 : Int32).toInt = 1 by decide) ev69 (by omega) (by omega)
      refine lv_iinc (v := v69) (lv' := [(3, .int v69), (0, .ref o), (1, .int g5), (2, .int g6)]) hx hb dX11_lifts_31 hl (k := 0) rfl (by rw [ev69]; rfl) (by decide) rfl (fun ls hl => ?_)
      refine lv_goto (tgt := 11) hx hb dX11_lifts_34 (by decide) ?_
      exact ih45 (v69, f67) H locs ls (by show (600 - v69.toInt).toNat < (600 - g25.toInt).toNat; omega) ⟨hP, hD, hS, lv_sub hl [0, 1, 2, 3] rfl, by omega, t68⟩
  · skip
    refine lv_icmp_ne (tgt := 9) hx hb dX11_lifts_2 (by decide) (fun c70 => ?_) (fun c70 => ?_)
    · skip
      have c70 := i_ne (Eq.refl p2.toInt) (show (4 : Int32).toInt = 4 by decide) c70
      refine W.widen (k := 0) (n := 0) (Nat.le_of_ble_eq_true rfl) (Nat.le_of_ble_eq_true rfl) ?_
      exact jn8 (p1, p2, (F 1)) H locs ls ⟨hP, hD, hS, lv_sub hl [0, 1, 2] rfl, by omega, by omega⟩
    · skip
      have c70 := i_eq (Eq.refl p2.toInt) (show (4 : Int32).toInt = 4 by decide) c70
      refine lv_aload_n hx hb dX11_lifts_5 rfl (lv_at hl 0 rfl) ?_
      refine cga (rn_V (As := []) (rest := []) (b := o) (m_means l D Y Z H.size o a I J F G   hk0) ⟨hx, hb, hml, hown, hg⟩ lk_X11_154 ⟨CP.blind, va_recv hKN.1 hP (ci := 11) (q0 := 0) rfl rfl, CP.at hP hKN hD⟩ ⟨⟨rfl, rfl⟩, ⟨Nat.le_of_ble_eq_true rfl, Nat.le_of_ble_eq_true rfl⟩, ⟨Nat.le_of_ble_eq_true rfl, Nat.le_of_ble_eq_true rfl⟩⟩ hl.1 rfl (Nat.le_of_ble_eq_true rfl) dX11_lifts_6) hP hD hS hA (fun u71 H locs w72 hP hD hS => ?_)
      refine W.eq (g2 := F0 m 9 ls []) rfl ?_
      have hP : va_P D vwCl (MW Y o a I J (vf_upd F 1 u71) G) H := hP
      have hD : va_D A (MW Y o a I J (vf_upd F 1 u71) G) := hD
      refine W.widen (k := 0) (n := 0) (Nat.le_of_ble_eq_true rfl) (Nat.le_of_ble_eq_true rfl) ?_
      exact jn8 (p1, p2, u71) H locs ls ⟨hP, hD, hS, lv_sub hl [0, 1, 2] rfl, by omega, by omega⟩
set_option maxHeartbeats 4000000 in
set_option maxRecDepth 100000 in
theorem m_spread (l : Launch) (D : va_G) (Y : Nat → ClassId) (Z : Nat → Nat) (sz : Nat) (o : Nat) (a : Nat → Nat) (I : Nat → Int32) (J : Nat → Int64) (F : Nat → Nat → Int32) (G : Nat → Nat → Int64) (p1 : Int32) (hk0 : TO (F 0)) (hk1 : LB (F 28)) : Met l yX11_spread (.code yX11_spread cX11_spread 2 (some .long) :: GW) ({ frames := 4, cells := 0, slots := 0, locals := 100 }) (va_Pc [.ref o, .int p1] (CP D Y Z (MW Y o a I J F G) sz)) (QG (S := Int64 × Int32 × Int64 × Int64 × (Nat → Int32) × (Nat → Int32)) (fun u => some (.long u.1)) (fun u => LB u.2.2.2.2.2) (fun u => CB D (MW Y o a (upd I 29 u.2.1) (vp_updL (vp_updL J 30 u.2.2.1) 31 u.2.2.2.1) (vf_upd (vf_upd F 1 u.2.2.2.2.1) 28 u.2.2.2.2.2) G) (va_A (MW Y o a I J F G) sz)) (va_A (MW Y o a I J F G) sz)) 0 0 (va_A (MW Y o a I J F G) sz) := by
  refine Met.ofW (cc := cX11_spread) (maxL := 2) (ret := (some .long)) (by decide) rfl ?_
  intro p e s m args below meth c s₁ B hml hv
  obtain ⟨rfl, hsz, hP, hKN, hD0⟩ := hv
  have hx := B.exec
  have hb := B.bytes
  have hr := B.returns
  have hts := atoms_spec (ws := .code yX11_spread cX11_spread 2 (some .long) :: GW) B.pre
  have hg : ∀ w ∈ GW, w.before _ s = true := fun w h => hts w (List.mem_cons_of_mem _ h)
  have hown : s.vm.findClass RX11 = some m.cls := findClass_of_methodNamed B.named
  have hlocks := B.notSynchronized
  subst hsz
  have hD := hD0.self (sz := s.heap.size)
  generalize hAe : va_A (MW Y o a I J F G) s.heap.size = A at hD ⊢
  have hA : ∀ q : Nat, s.heap.size ≤ q → A q := fun q h => by rw [← hAe]; exact Or.inr h
  clear hAe hD0 hts B
  have hl := lv_entry ([.ref o, .int p1]) (n := 2) (Nat.le_of_ble_eq_true rfl)
  rw [lg_entry_eq]
  generalize (lg_sl ([.ref o, .int p1]) ++ List.replicate (2 - (lg_sl ([.ref o, .int p1])).length) Slot.unset).toArray = ls at hl ⊢
  have hl : lv_has ls 2 [(0, .ref o), (1, .int p1)] := hl
  refine w_start (A0 := A) hP (fun H locs hP hS => ?_)
  refine lv_aload_n hx hb dX11_spread_0 rfl (lv_at hl 0 rfl) ?_
  refine lv_iload_n hx hb dX11_spread_1 rfl (lv_at hl 1 rfl) ?_
  refine cga (rn_V (As := [.int p1]) (rest := []) (b := o) (m_isStar l D Y Z H.size o a I J F G  p1 hk0) ⟨hx, hb, hml, hown, hg⟩ lk_X11_108 ⟨CP.blind, va_recv hKN.1 hP (ci := 11) (q0 := 0) rfl rfl, CP.at hP hKN hD⟩ ⟨⟨rfl, rfl⟩, ⟨Nat.le_of_ble_eq_true rfl, Nat.le_of_ble_eq_true rfl⟩, ⟨Nat.le_of_ble_eq_true rfl, Nat.le_of_ble_eq_true rfl⟩⟩ hl.1 rfl (Nat.le_of_ble_eq_true rfl) dX11_spread_2) hP hD hS hA (fun u1 H locs w2 hP hD hS => ?_)
  have w2 : ((0 ≤ p1.toInt ∧ p1.toInt ≤ 11 ∧ p1.toInt < ((F 0) 0).toInt ∧ u1.toInt = 1) ∨ (¬ (0 ≤ p1.toInt ∧ p1.toInt < ((F 0) 0).toInt) ∧ u1.toInt = 0)) ∧ (0 ≤ u1.toInt ∧ u1.toInt ≤ 1) := w2
  obtain ⟨hw4, hw5⟩ := w2
  refine W.eq (g2 := F0 m 5 ls [.int u1]) rfl ?_
  have hP : va_P D vwCl (MW Y o a I J F G) H := hP
  have hD : va_D A (MW Y o a I J F G) := hD
  rcases (show u1.toInt = 1 ∨ u1.toInt = 0 by omega) with c6 | c6
  · obtain rfl : u1 = 1 := i_is c6 (by decide)
    have zi1 : (1 : Int32).toInt = 1 := by decide
    refine W.eq (g2 := F0 m 5 ls [.int 1]) rfl ?_
    refine lv_if_ne (tgt := 12) hx hb dX11_spread_5 (by decide) (fun c7 => ?_) (fun c7 => ?_)
    rotate_left
    · exact absurd c7 (by decide)
    refine lv_aload_n hx hb dX11_spread_12 rfl (lv_at hl 0 rfl) ?_
    refine lv_iload_n hx hb dX11_spread_13 rfl (lv_at hl 1 rfl) ?_
    refine lv_iconst (v := 0) hx hb dX11_spread_14 (by decide) ?_
    have zi0 : (0 : Int32).toInt = 0 := by decide
    refine cga (rn_V (As := [.int p1, .int 0]) (rest := []) (b := o) (m_lifts l D Y Z H.size o a I J F G  p1 0 (show (0 ≤ p1.toInt ∧ p1.toInt ≤ 11) by omega) (show (0 ≤ (0 : Int32).toInt ∧ (0 : Int32).toInt ≤ 5) by omega) hk0 hk1) ⟨hx, hb, hml, hown, hg⟩ lk_X11_406 ⟨CP.blind, va_recv hKN.1 hP (ci := 11) (q0 := 0) rfl rfl, CP.at hP hKN hD⟩ ⟨⟨rfl, rfl⟩, ⟨Nat.le_of_ble_eq_true rfl, Nat.le_of_ble_eq_true rfl⟩, ⟨Nat.le_of_ble_eq_true rfl, Nat.le_of_ble_eq_true rfl⟩⟩ hl.1 rfl (Nat.le_of_ble_eq_true rfl) dX11_spread_15) hP hD hS hA (fun u8 H locs w9 hP hD hS => ?_)
    obtain ⟨u10, u11, u12, f13, f14⟩ := u8
    have w9 : (0 ≤ u10.toInt ∧ u10.toInt ≤ 600) ∧ (-60000000 ≤ u11.toInt ∧ u11.toInt ≤ 60000000) ∧ (1 ≤ u12.toInt) ∧ LB f14 := w9
    obtain ⟨hw15, hw16, hw17, hw18⟩ := w9
    refine W.eq (g2 := F0 m 18 ls []) rfl ?_
    have hP : va_P D vwCl (MW Y o a (upd I 29 u10) (vp_updL (vp_updL J 30 u11) 31 u12) (vf_upd (vf_upd F 1 f13) 28 f14) G) H := hP
    have hD : va_D A (MW Y o a (upd I 29 u10) (vp_updL (vp_updL J 30 u11) 31 u12) (vf_upd (vf_upd F 1 f13) 28 f14) G) := hD
    refine lv_aload_n hx hb dX11_spread_18 rfl (lv_at hl 0 rfl) ?_
    refine va_get (D := D) (ci := 11) (v := .int u10) (C := RX11) (T := TX11) (N := 49) hx hb hg inGX11 hown hKN.1 hP 0 rfl rfl 29 (by decide) (hg _ kw_1237) (fun _ h9 => h9) rfl dX11_spread_19 ?_
    refine lv_if_ne (tgt := 31) hx hb dX11_spread_22 (by decide) (fun c20 => ?_) (fun c20 => ?_)
    · skip
      have c20 := i_ne (Eq.refl u10.toInt) (show (0 : Int32).toInt = 0 by decide) c20
      refine lv_aload_n hx hb dX11_spread_31 rfl (lv_at hl 0 rfl) ?_
      refine va_get (D := D) (ci := 11) (v := .long u12) (C := RX11) (T := TX11) (N := 49) hx hb hg inGX11 hown hKN.1 hP 0 rfl rfl 31 (by decide) (hg _ kw_1239) (fun _ h9 => h9) rfl dX11_spread_32 ?_
      refine W.widen (k := 0) (n := 0) (Nat.le_of_ble_eq_true rfl) (Nat.le_of_ble_eq_true rfl) ?_
      exact W.lret (v := u12) hx hb hr (fun t ht hW => ⟨⟨(u12, u10, u11, u12, f13, f14), rfl, (hw18), CB.mk ht hP hD⟩, hS.F ht⟩) hS.2.2 dX11_spread_35
    · skip
      have c20 := i_eq (Eq.refl u10.toInt) (show (0 : Int32).toInt = 0 by decide) c20
      refine lv_ldc2 (v := (-1)) hx hb hown (hg _ kw_1650) dX11_spread_25 ?_
      refine lv_goto (tgt := 35) hx hb dX11_spread_28 (by decide) ?_
      refine W.widen (k := 0) (n := 0) (Nat.le_of_ble_eq_true rfl) (Nat.le_of_ble_eq_true rfl) ?_
      have zlm1 : ((-1) : Int64).toInt = -1 := by decide
      exact W.lret (v := (-1)) hx hb hr (fun t ht hW => ⟨⟨((-1), u10, u11, u12, f13, f14), rfl, (hw18), CB.mk ht hP hD⟩, hS.F ht⟩) hS.2.2 dX11_spread_35
  · obtain rfl : u1 = 0 := i_is c6 (by decide)
    have zi0 : (0 : Int32).toInt = 0 := by decide
    refine W.eq (g2 := F0 m 5 ls [.int 0]) rfl ?_
    refine lv_if_ne (tgt := 12) hx hb dX11_spread_5 (by decide) (fun c21 => ?_) (fun c21 => ?_)
    · exact absurd c21 (by decide)
    refine lv_ldc2 (v := (-1)) hx hb hown (hg _ kw_1650) dX11_spread_8 ?_
    refine W.widen (k := 0) (n := 0) (Nat.le_of_ble_eq_true rfl) (Nat.le_of_ble_eq_true rfl) ?_
    have zlm1 : ((-1) : Int64).toInt = -1 := by decide
    exact W.lret (v := (-1)) hx hb hr (fun t ht hW => ⟨⟨((-1), (I 29), (J 30), (J 31), (F 1), (F 28)), rfl, (hk1), CB.mk ht hP hD⟩, hS.F ht⟩) hS.2.2 dX11_spread_11
set_option maxHeartbeats 4000000 in
set_option maxRecDepth 100000 in
theorem m_isNumber (l : Launch) (D : va_G) (Y : Nat → ClassId) (Z : Nat → Nat) (sz : Nat) (o : Nat) (a : Nat → Nat) (I : Nat → Int32) (J : Nat → Int64) (F : Nat → Nat → Int32) (G : Nat → Nat → Int64) (p1 : Int32) : Met l yX11_isNumber (.code yX11_isNumber cX11_isNumber 2 (some .boolean) :: GW) ({ frames := 1, cells := 0, slots := 0, locals := 20 }) (va_Pc [.ref o, .int p1] (CP D Y Z (MW Y o a I J F G) sz)) (QG (S := Int32) (fun u => some (.int u)) (fun u => ((0 ≤ p1.toInt ∧ p1.toInt ≤ 599 ∧ u.toInt = 1 ∧ ((F 28) p1.toNatClampNeg).toInt ≠ -100000) ∨ (u.toInt = 0 ∧ (0 ≤ p1.toInt → p1.toInt ≤ 599 → ((F 28) p1.toNatClampNeg).toInt = -100000))) ∧ (0 ≤ u.toInt ∧ u.toInt ≤ 1)) (fun u => CB D (MW Y o a I J F G) (va_A (MW Y o a I J F G) sz)) (va_A (MW Y o a I J F G) sz)) 0 0 (va_A (MW Y o a I J F G) sz) := by
  refine Met.ofW (cc := cX11_isNumber) (maxL := 2) (ret := (some .boolean)) (by decide) rfl ?_
  intro p e s m args below meth c s₁ B hml hv
  obtain ⟨rfl, hsz, hP, hKN, hD0⟩ := hv
  have hx := B.exec
  have hb := B.bytes
  have hr := B.returns
  have hts := atoms_spec (ws := .code yX11_isNumber cX11_isNumber 2 (some .boolean) :: GW) B.pre
  have hg : ∀ w ∈ GW, w.before _ s = true := fun w h => hts w (List.mem_cons_of_mem _ h)
  have hown : s.vm.findClass RX11 = some m.cls := findClass_of_methodNamed B.named
  have hlocks := B.notSynchronized
  subst hsz
  have hD := hD0.self (sz := s.heap.size)
  generalize hAe : va_A (MW Y o a I J F G) s.heap.size = A at hD ⊢
  have hA : ∀ q : Nat, s.heap.size ≤ q → A q := fun q h => by rw [← hAe]; exact Or.inr h
  clear hAe hD0 hts B
  have hl := lv_entry ([.ref o, .int p1]) (n := 2) (Nat.le_of_ble_eq_true rfl)
  rw [lg_entry_eq]
  generalize (lg_sl ([.ref o, .int p1]) ++ List.replicate (2 - (lg_sl ([.ref o, .int p1])).length) Slot.unset).toArray = ls at hl ⊢
  have hl : lv_has ls 2 [(0, .ref o), (1, .int p1)] := hl
  refine w_start (A0 := A) hP (fun H locs hP hS => ?_)
  refine lv_iload_n hx hb dX11_isNumber_0 rfl (lv_at hl 1 rfl) ?_
  refine cg0 (rn_S (As := [.int p1]) (rest := []) (m_isHour l D Y Z H.size   p1 ) ⟨hx, hb, hml, hown, hg⟩ lk_X11_112 ⟨CP.blind, CP.at nilP hKN (nilD (A := fun _ => True))⟩ ⟨⟨rfl, rfl⟩, ⟨Nat.le_of_ble_eq_true rfl, Nat.le_of_ble_eq_true rfl⟩, ⟨Nat.le_of_ble_eq_true rfl, Nat.le_of_ble_eq_true rfl⟩⟩ hl.1 rfl (Nat.le_of_ble_eq_true rfl) dX11_isNumber_1) hP hS hA (fun u1 H locs w2 hP hS => ?_)
  have w2 : ((0 ≤ p1.toInt ∧ p1.toInt ≤ 599 ∧ u1.toInt = 1) ∨ (¬ (0 ≤ p1.toInt ∧ p1.toInt ≤ 599) ∧ u1.toInt = 0)) ∧ (0 ≤ u1.toInt ∧ u1.toInt ≤ 1) := w2
  obtain ⟨hw4, hw5⟩ := w2
  refine W.eq (g2 := F0 m 4 ls [.int u1]) rfl ?_
  rcases (show u1.toInt = 1 ∨ u1.toInt = 0 by omega) with c6 | c6
  · obtain rfl : u1 = 1 := i_is c6 (by decide)
    have zi1 : (1 : Int32).toInt = 1 := by decide
    refine W.eq (g2 := F0 m 4 ls [.int 1]) rfl ?_
    refine lv_if_eq (tgt := 22) hx hb dX11_isNumber_4 (by decide) (fun c11 => ?_) (fun c11 => ?_)
    · exact absurd c11 (by decide)
    refine lv_aload_n hx hb dX11_isNumber_7 rfl (lv_at hl 0 rfl) ?_
    refine va_get (D := D) (ci := 11) (v := .ref (a 28)) (C := RX11) (T := TX11) (N := 49) hx hb hg inGX11 hown hKN.1 hP 0 rfl rfl 28 (by decide) (hg _ kw_1236) (fun _ h9 => h9) rfl dX11_isNumber_8 ?_
    refine lv_iload_n hx hb dX11_isNumber_11 rfl (lv_at hl 1 rfl) ?_
    refine va_iald hx hb hKN.1 hP 19 0 rfl rfl (vp_in_iff.mpr ⟨by omega, by omega⟩) dX11_isNumber_12 ?_
    refine lv_topi (fun v12 ev12 => ?_)
    have ev12 : v12 = (F 28) p1.toNatClampNeg := ev12
    have qv12 := congrArg Int32.toInt ev12
    refine lv_ldc (v := (-100000)) hx hb hown (hg _ kw_1367) dX11_isNumber_13 ?_
    have j15 := rgI v12
    refine lv_icmp_eq (tgt := 22) hx hb dX11_isNumber_15 (by decide) (fun c16 => ?_) (fun c16 => ?_)
    · skip
      have c16 := i_eq (Eq.refl v12.toInt) (show ((-100000) : Int32).toInt = -100000 by decide) c16
      refine lv_iconst (v := 0) hx hb dX11_isNumber_22 (by decide) ?_
      refine W.widen (k := 0) (n := 0) (Nat.le_of_ble_eq_true rfl) (Nat.le_of_ble_eq_true rfl) ?_
      have zi0 : (0 : Int32).toInt = 0 := by decide
      exact W.zret (v := 0) hx hb hr (by decide) (fun t ht hW => ⟨⟨0, rfl, ⟨(show ((0 ≤ p1.toInt ∧ p1.toInt ≤ 599 ∧ (0 : Int32).toInt = 1 ∧ ((F 28) p1.toNatClampNeg).toInt ≠ -100000) ∨ ((0 : Int32).toInt = 0 ∧ (0 ≤ p1.toInt → p1.toInt ≤ 599 → ((F 28) p1.toNatClampNeg).toInt = -100000))) by omega), (show (0 ≤ (0 : Int32).toInt ∧ (0 : Int32).toInt ≤ 1) by omega)⟩, CB.mk ht hP hD⟩, hS.F ht⟩) hS.2.2 dX11_isNumber_23
    · skip
      have c16 := i_ne (Eq.refl v12.toInt) (show ((-100000) : Int32).toInt = -100000 by decide) c16
      refine lv_iconst (v := 1) hx hb dX11_isNumber_18 (by decide) ?_
      refine lv_goto (tgt := 23) hx hb dX11_isNumber_19 (by decide) ?_
      refine W.widen (k := 0) (n := 0) (Nat.le_of_ble_eq_true rfl) (Nat.le_of_ble_eq_true rfl) ?_
      exact W.zret (v := 1) hx hb hr (by decide) (fun t ht hW => ⟨⟨1, rfl, ⟨(show ((0 ≤ p1.toInt ∧ p1.toInt ≤ 599 ∧ (1 : Int32).toInt = 1 ∧ ((F 28) p1.toNatClampNeg).toInt ≠ -100000) ∨ ((1 : Int32).toInt = 0 ∧ (0 ≤ p1.toInt → p1.toInt ≤ 599 → ((F 28) p1.toNatClampNeg).toInt = -100000))) by omega), (show (0 ≤ (1 : Int32).toInt ∧ (1 : Int32).toInt ≤ 1) by omega)⟩, CB.mk ht hP hD⟩, hS.F ht⟩) hS.2.2 dX11_isNumber_23
  · obtain rfl : u1 = 0 := i_is c6 (by decide)
    have zi0 : (0 : Int32).toInt = 0 := by decide
    refine W.eq (g2 := F0 m 4 ls [.int 0]) rfl ?_
    refine lv_if_eq (tgt := 22) hx hb dX11_isNumber_4 (by decide) (fun c18 => ?_) (fun c18 => ?_)
    rotate_left
    · exact absurd c18 (by decide)
    refine lv_iconst (v := 0) hx hb dX11_isNumber_22 (by decide) ?_
    refine W.widen (k := 0) (n := 0) (Nat.le_of_ble_eq_true rfl) (Nat.le_of_ble_eq_true rfl) ?_
    exact W.zret (v := 0) hx hb hr (by decide) (fun t ht hW => ⟨⟨0, rfl, ⟨(show ((0 ≤ p1.toInt ∧ p1.toInt ≤ 599 ∧ (0 : Int32).toInt = 1 ∧ ((F 28) p1.toNatClampNeg).toInt ≠ -100000) ∨ ((0 : Int32).toInt = 0 ∧ (0 ≤ p1.toInt → p1.toInt ≤ 599 → ((F 28) p1.toNatClampNeg).toInt = -100000))) by omega), (show (0 ≤ (0 : Int32).toInt ∧ (0 : Int32).toInt ≤ 1) by omega)⟩, CB.mk ht hP hD⟩, hS.F ht⟩) hS.2.2 dX11_isNumber_23
set_option maxHeartbeats 4000000 in
set_option maxRecDepth 100000 in
theorem m_hasHour (l : Launch) (D : va_G) (Y : Nat → ClassId) (Z : Nat → Nat) (sz : Nat) (o : Nat) (a : Nat → Nat) (I : Nat → Int32) (J : Nat → Int64) (F : Nat → Nat → Int32) (G : Nat → Nat → Int64) (p1 : Int32) (p2 : Int32) (hk_0 : (-1000 ≤ p1.toInt ∧ p1.toInt ≤ 200000)) (hk_1 : (-30 ≤ p2.toInt ∧ p2.toInt ≤ 30)) : Met l yX11_hasHour (.code yX11_hasHour cX11_hasHour 4 (some .boolean) :: GW) ({ frames := 2, cells := 0, slots := 0, locals := 41 }) (va_Pc [.ref o, .int p1, .int p2] (CP D Y Z (MW Y o a I J F G) sz)) (QG (S := Int32) (fun u => some (.int u)) (fun u => (0 ≤ u.toInt ∧ u.toInt ≤ 1)) (fun u => CB D (MW Y o a I J F G) (va_A (MW Y o a I J F G) sz)) (va_A (MW Y o a I J F G) sz)) 0 0 (va_A (MW Y o a I J F G) sz) := by
  refine Met.ofW (cc := cX11_hasHour) (maxL := 4) (ret := (some .boolean)) (by decide) rfl ?_
  intro p e s m args below meth c s₁ B hml hv
  obtain ⟨rfl, hsz, hP, hKN, hD0⟩ := hv
  have hx := B.exec
  have hb := B.bytes
  have hr := B.returns
  have hts := atoms_spec (ws := .code yX11_hasHour cX11_hasHour 4 (some .boolean) :: GW) B.pre
  have hg : ∀ w ∈ GW, w.before _ s = true := fun w h => hts w (List.mem_cons_of_mem _ h)
  have hown : s.vm.findClass RX11 = some m.cls := findClass_of_methodNamed B.named
  have hlocks := B.notSynchronized
  subst hsz
  have hD := hD0.self (sz := s.heap.size)
  generalize hAe : va_A (MW Y o a I J F G) s.heap.size = A at hD ⊢
  have hA : ∀ q : Nat, s.heap.size ≤ q → A q := fun q h => by rw [← hAe]; exact Or.inr h
  clear hAe hD0 hts B
  have hl := lv_entry ([.ref o, .int p1, .int p2]) (n := 4) (Nat.le_of_ble_eq_true rfl)
  rw [lg_entry_eq]
  generalize (lg_sl ([.ref o, .int p1, .int p2]) ++ List.replicate (4 - (lg_sl ([.ref o, .int p1, .int p2])).length) Slot.unset).toArray = ls at hl ⊢
  have hl : lv_has ls 4 [(0, .ref o), (1, .int p1), (2, .int p2)] := hl
  refine w_start (A0 := A) hP (fun H locs hP hS => ?_)
  refine lv_iload_n hx hb dX11_hasHour_0 rfl (lv_at hl 1 rfl) ?_
  refine lv_istore_n (lv' := [(3, .int p1), (0, .ref o), (1, .int p1), (2, .int p2)]) hx hb dX11_hasHour_1 rfl hl (by decide) rfl (fun ls hl => ?_)
  refine w_loop (σ := Int32) (fun xx H locs ls => match xx with | g12 => va_P D vwCl (MW Y o a I J F G) H ∧ va_D A (MW Y o a I J F G) ∧ va_S A s.heap H locs ∧ lv_has ls 4 [(3, .int g12), (0, .ref o), (1, .int p1), (2, .int p2)] ∧ (-1000 ≤ g12.toInt ∧ g12.toInt ≤ 200100) ∧ (p1.toInt ≤ g12.toInt)) (fun xx => match xx with | g12 => (p1.toInt + p2.toInt - g12.toInt + 60).toNat) (p1) ⟨hP, hD, hS, lv_sub hl [0, 1, 2, 3] rfl, by omega, by omega⟩ (fun xx H locs ls hI ih => ?_)
  revert hI ih
  generalize xx = g12
  intro hI ih
  obtain ⟨hP, hD, hS, hl, hq24, hq25⟩ := hI
  have ih26 := ih
  refine lv_iload_n hx hb dX11_hasHour_2 rfl (lv_at hl 0 rfl) ?_
  refine lv_iload_n hx hb dX11_hasHour_3 rfl (lv_at hl 2 rfl) ?_
  refine lv_iload_n hx hb dX11_hasHour_4 rfl (lv_at hl 3 rfl) ?_
  refine lv_iadd hx hb dX11_hasHour_5 ?_
  refine lv_topi (fun v27 ev27 => ?_)
  have hv27 := i_add (Eq.refl p1.toInt) (Eq.refl p2.toInt) ev27 (by omega) (by omega)
  refine lv_icmp_ge (tgt := 25) hx hb dX11_hasHour_6 (by decide) (fun c28 => ?_) (fun c28 => ?_)
  · skip
    have c28 := i_le (Eq.refl v27.toInt) (Eq.refl g12.toInt) c28
    refine lv_iconst (v := 0) hx hb dX11_hasHour_25 (by decide) ?_
    refine W.widen (k := 0) (n := 0) (Nat.le_of_ble_eq_true rfl) (Nat.le_of_ble_eq_true rfl) ?_
    have zi0 : (0 : Int32).toInt = 0 := by decide
    exact W.zret (v := 0) hx hb hr (by decide) (fun t ht hW => ⟨⟨0, rfl, ((show (0 ≤ (0 : Int32).toInt ∧ (0 : Int32).toInt ≤ 1) by omega)), CB.mk ht hP hD⟩, hS.F ht⟩) hS.2.2 dX11_hasHour_26
  · skip
    have c28 := i_nle (Eq.refl v27.toInt) (Eq.refl g12.toInt) c28
    refine lv_aload_n hx hb dX11_hasHour_9 rfl (lv_at hl 1 rfl) ?_
    refine lv_iload_n hx hb dX11_hasHour_10 rfl (lv_at hl 0 rfl) ?_
    refine cga (rn_V (As := [.int g12]) (rest := []) (b := o) (m_isNumber l D Y Z H.size o a I J F G  g12 ) ⟨hx, hb, hml, hown, hg⟩ lk_X11_409 ⟨CP.blind, va_recv hKN.1 hP (ci := 11) (q0 := 0) rfl rfl, CP.at hP hKN hD⟩ ⟨⟨rfl, rfl⟩, ⟨Nat.le_of_ble_eq_true rfl, Nat.le_of_ble_eq_true rfl⟩, ⟨Nat.le_of_ble_eq_true rfl, Nat.le_of_ble_eq_true rfl⟩⟩ hl.1 rfl (Nat.le_of_ble_eq_true rfl) dX11_hasHour_11) hP hD hS hA (fun u29 H locs w30 hP hD hS => ?_)
    have w30 : ((0 ≤ g12.toInt ∧ g12.toInt ≤ 599 ∧ u29.toInt = 1 ∧ ((F 28) g12.toNatClampNeg).toInt ≠ -100000) ∨ (u29.toInt = 0 ∧ (0 ≤ g12.toInt → g12.toInt ≤ 599 → ((F 28) g12.toNatClampNeg).toInt = -100000))) ∧ (0 ≤ u29.toInt ∧ u29.toInt ≤ 1) := w30
    obtain ⟨hw32, hw33⟩ := w30
    refine W.eq (g2 := F0 m 14 ls [.int u29]) rfl ?_
    have hP : va_P D vwCl (MW Y o a I J F G) H := hP
    have hD : va_D A (MW Y o a I J F G) := hD
    rcases (show u29.toInt = 1 ∨ u29.toInt = 0 by omega) with c34 | c34
    · obtain rfl : u29 = 1 := i_is c34 (by decide)
      have zi1 : (1 : Int32).toInt = 1 := by decide
      refine W.eq (g2 := F0 m 14 ls [.int 1]) rfl ?_
      refine lv_if_eq (tgt := 19) hx hb dX11_hasHour_14 (by decide) (fun c35 => ?_) (fun c35 => ?_)
      · exact absurd c35 (by decide)
      refine lv_iconst (v := 1) hx hb dX11_hasHour_17 (by decide) ?_
      refine W.widen (k := 0) (n := 0) (Nat.le_of_ble_eq_true rfl) (Nat.le_of_ble_eq_true rfl) ?_
      exact W.zret (v := 1) hx hb hr (by decide) (fun t ht hW => ⟨⟨1, rfl, ((show (0 ≤ (1 : Int32).toInt ∧ (1 : Int32).toInt ≤ 1) by omega)), CB.mk ht hP hD⟩, hS.F ht⟩) hS.2.2 dX11_hasHour_18
    · obtain rfl : u29 = 0 := i_is c34 (by decide)
      have zi0 : (0 : Int32).toInt = 0 := by decide
      refine W.eq (g2 := F0 m 14 ls [.int 0]) rfl ?_
      refine lv_if_eq (tgt := 19) hx hb dX11_hasHour_14 (by decide) (fun c36 => ?_) (fun c36 => ?_)
      rotate_left
      · exact absurd c36 (by decide)
      obtain ⟨v37, ev37⟩ : ∃ y : Int32, y = g12 + 1 := ⟨_, rfl⟩
      have hv37 := i_add (Eq.refl g12.toInt) (show (1 : Int32).toInt = 1 by decide) ev37 (by omega) (by omega)
      refine lv_iinc (v := v37) (lv' := [(3, .int v37), (0, .ref o), (1, .int p1), (2, .int p2)]) hx hb dX11_hasHour_19 hl (k := 0) rfl (by rw [ev37]; rfl) (by decide) rfl (fun ls hl => ?_)
      refine lv_goto (tgt := 2) hx hb dX11_hasHour_22 (by decide) ?_
      exact ih26 (v37) H locs ls (by show (p1.toInt + p2.toInt - v37.toInt + 60).toNat < (p1.toInt + p2.toInt - g12.toInt + 60).toNat; omega) ⟨hP, hD, hS, lv_sub hl [0, 1, 2, 3] rfl, by omega, by omega⟩
set_option maxHeartbeats 4000000 in
set_option maxRecDepth 100000 in
theorem m_dipAt (l : Launch) (D : va_G) (Y : Nat → ClassId) (Z : Nat → Nat) (sz : Nat)  (p0 : Int32) (p1 : Int32) (p2 : Int32) (hk_0 : (0 ≤ p0.toInt ∧ p0.toInt ≤ 599)) (hk_1 : (1 ≤ p1.toInt ∧ p1.toInt ≤ 400)) (hk_2 : (0 ≤ p2.toInt ∧ p2.toInt ≤ 400)) : Met l yX11_dipAt (.code yX11_dipAt cX11_dipAt 3 (some .int) :: GW) ({ frames := 0, cells := 0, slots := 0, locals := 0 }) (va_Pc [.int p0, .int p1, .int p2] (CP D Y Z [] sz)) (QG (S := Int32) (fun u => some (.int u)) (fun u => (-1 ≤ u.toInt ∧ u.toInt ≤ 599) ∧ ((p0.toInt < p2.toInt ∧ u.toInt = -1) ∨ (p2.toInt ≤ p0.toInt ∧ u.toInt = (p0.toInt - p2.toInt) / p1.toInt))) (fun u => CB D [] (va_A [] sz)) (va_A [] sz)) 0 0 (va_A [] sz) := by
  refine Met.ofW (cc := cX11_dipAt) (maxL := 3) (ret := (some .int)) (by decide) rfl ?_
  intro p e s m args below meth c s₁ B hml hv
  obtain ⟨rfl, hsz, hP, hKN, hD0⟩ := hv
  have hx := B.exec
  have hb := B.bytes
  have hr := B.returns
  have hts := atoms_spec (ws := .code yX11_dipAt cX11_dipAt 3 (some .int) :: GW) B.pre
  have hg : ∀ w ∈ GW, w.before _ s = true := fun w h => hts w (List.mem_cons_of_mem _ h)
  have hown : s.vm.findClass RX11 = some m.cls := findClass_of_methodNamed B.named
  have hlocks := B.notSynchronized
  subst hsz
  have hD := hD0.self (sz := s.heap.size)
  generalize hAe : va_A [] s.heap.size = A at hD ⊢
  have hA : ∀ q : Nat, s.heap.size ≤ q → A q := fun q h => by rw [← hAe]; exact Or.inr h
  clear hAe hD0 hts B
  have hl := lv_entry ([.int p0, .int p1, .int p2]) (n := 3) (Nat.le_of_ble_eq_true rfl)
  rw [lg_entry_eq]
  generalize (lg_sl ([.int p0, .int p1, .int p2]) ++ List.replicate (3 - (lg_sl ([.int p0, .int p1, .int p2])).length) Slot.unset).toArray = ls at hl ⊢
  have hl : lv_has ls 3 [(0, .int p0), (1, .int p1), (2, .int p2)] := hl
  refine w_start (A0 := A) hP (fun H locs hP hS => ?_)
  refine lv_iload_n hx hb dX11_dipAt_0 rfl (lv_at hl 0 rfl) ?_
  refine lv_iload_n hx hb dX11_dipAt_1 rfl (lv_at hl 2 rfl) ?_
  refine lv_icmp_ge (tgt := 9) hx hb dX11_dipAt_2 (by decide) (fun c4 => ?_) (fun c4 => ?_)
  · skip
    have c4 := i_le (Eq.refl p2.toInt) (Eq.refl p0.toInt) c4
    refine lv_iload_n hx hb dX11_dipAt_9 rfl (lv_at hl 0 rfl) ?_
    refine lv_iload_n hx hb dX11_dipAt_10 rfl (lv_at hl 2 rfl) ?_
    refine lv_isub hx hb dX11_dipAt_11 ?_
    refine lv_topi (fun v5 ev5 => ?_)
    have hv5 := i_sub (Eq.refl p0.toInt) (Eq.refl p2.toInt) ev5 (by omega) (by omega)
    refine lv_iload_n hx hb dX11_dipAt_12 rfl (lv_at hl 1 rfl) ?_
    refine lv_idiv hx hb dX11_dipAt_13 (i_nz (Eq.refl p1.toInt) (by omega)) ?_
    refine lv_topi (fun v6 ev6 => ?_)
    have hv6 := i_divS (Eq.refl v5.toInt) (Eq.refl p1.toInt) ev6 (by omega)
    refine W.widen (k := 0) (n := 0) (Nat.le_of_ble_eq_true rfl) (Nat.le_of_ble_eq_true rfl) ?_
    exact W.iret (v := v6) hx hb hr (fun t ht hW => ⟨⟨v6, rfl, ⟨by omega, Or.inr ⟨by omega, div_eq (hv6.1 (by omega)).1 (by omega) rfl⟩⟩, CB.nil⟩, hS.F ht⟩) hS.2.2 dX11_dipAt_14
  · skip
    have c4 := i_nle (Eq.refl p2.toInt) (Eq.refl p0.toInt) c4
    refine lv_iconst (v := (-1)) hx hb dX11_dipAt_5 (by decide) ?_
    refine lv_goto (tgt := 14) hx hb dX11_dipAt_6 (by decide) ?_
    refine W.widen (k := 0) (n := 0) (Nat.le_of_ble_eq_true rfl) (Nat.le_of_ble_eq_true rfl) ?_
    have zim1 : ((-1) : Int32).toInt = -1 := by decide
    exact W.iret (v := (-1)) hx hb hr (fun t ht hW => ⟨⟨(-1), rfl, ⟨by omega, Or.inl ⟨by omega, by decide⟩⟩, CB.nil⟩, hS.F ht⟩) hS.2.2 dX11_dipAt_14
set_option maxHeartbeats 4000000 in
set_option maxRecDepth 100000 in
theorem m_placeAt (l : Launch) (D : va_G) (Y : Nat → ClassId) (Z : Nat → Nat) (sz : Nat)  (p0 : Int32) (p1 : Int32) (p2 : Int32) (hk_0 : (0 ≤ p0.toInt ∧ p0.toInt ≤ 599)) (hk_1 : (1 ≤ p1.toInt ∧ p1.toInt ≤ 400)) (hk_2 : (0 ≤ p2.toInt ∧ p2.toInt ≤ 400)) (hk_3 : (p2.toInt ≤ p1.toInt)) : Met l yX11_placeAt (.code yX11_placeAt cX11_placeAt 3 (some .int) :: GW) ({ frames := 1, cells := 0, slots := 0, locals := 22 }) (va_Pc [.int p0, .int p1, .int p2] (CP D Y Z [] sz)) (QG (S := Int32) (fun u => some (.int u)) (fun u => (u.toInt = (plc (p1.toInt).toNat (p2.toInt).toNat (p0.toInt).toNat : Int))) (fun u => CB D [] (va_A [] sz)) (va_A [] sz)) 0 0 (va_A [] sz) := by
  refine Met.ofW (cc := cX11_placeAt) (maxL := 3) (ret := (some .int)) (by decide) rfl ?_
  intro p e s m args below meth c s₁ B hml hv
  obtain ⟨rfl, hsz, hP, hKN, hD0⟩ := hv
  have hx := B.exec
  have hb := B.bytes
  have hr := B.returns
  have hts := atoms_spec (ws := .code yX11_placeAt cX11_placeAt 3 (some .int) :: GW) B.pre
  have hg : ∀ w ∈ GW, w.before _ s = true := fun w h => hts w (List.mem_cons_of_mem _ h)
  have hown : s.vm.findClass RX11 = some m.cls := findClass_of_methodNamed B.named
  have hlocks := B.notSynchronized
  subst hsz
  have hD := hD0.self (sz := s.heap.size)
  generalize hAe : va_A [] s.heap.size = A at hD ⊢
  have hA : ∀ q : Nat, s.heap.size ≤ q → A q := fun q h => by rw [← hAe]; exact Or.inr h
  clear hAe hD0 hts B
  have hl := lv_entry ([.int p0, .int p1, .int p2]) (n := 3) (Nat.le_of_ble_eq_true rfl)
  rw [lg_entry_eq]
  generalize (lg_sl ([.int p0, .int p1, .int p2]) ++ List.replicate (3 - (lg_sl ([.int p0, .int p1, .int p2])).length) Slot.unset).toArray = ls at hl ⊢
  have hl : lv_has ls 3 [(0, .int p0), (1, .int p1), (2, .int p2)] := hl
  refine w_start (A0 := A) hP (fun H locs hP hS => ?_)
  refine lv_iload_n hx hb dX11_placeAt_0 rfl (lv_at hl 0 rfl) ?_
  refine lv_iload_n hx hb dX11_placeAt_1 rfl (lv_at hl 2 rfl) ?_
  refine lv_isub hx hb dX11_placeAt_2 ?_
  refine lv_topi (fun v1 ev1 => ?_)
  have hv1 := i_sub (Eq.refl p0.toInt) (Eq.refl p2.toInt) ev1 (by omega) (by omega)
  refine lv_iload_n hx hb dX11_placeAt_3 rfl (lv_at hl 1 rfl) ?_
  refine lv_iload_n hx hb dX11_placeAt_4 rfl (lv_at hl 0 rfl) ?_
  refine lv_iload_n hx hb dX11_placeAt_5 rfl (lv_at hl 1 rfl) ?_
  refine lv_iload_n hx hb dX11_placeAt_6 rfl (lv_at hl 2 rfl) ?_
  refine cg0 (rn_S (As := [.int p0, .int p1, .int p2]) (rest := [.int p1, .int v1]) (m_dipAt l D Y Z H.size   p0 p1 p2 (show (0 ≤ p0.toInt ∧ p0.toInt ≤ 599) by omega) (show (1 ≤ p1.toInt ∧ p1.toInt ≤ 400) by omega) (show (0 ≤ p2.toInt ∧ p2.toInt ≤ 400) by omega)) ⟨hx, hb, hml, hown, hg⟩ lk_X11_415 ⟨CP.blind, CP.at nilP hKN (nilD (A := fun _ => True))⟩ ⟨⟨rfl, rfl⟩, ⟨Nat.le_of_ble_eq_true rfl, Nat.le_of_ble_eq_true rfl⟩, ⟨Nat.le_of_ble_eq_true rfl, Nat.le_of_ble_eq_true rfl⟩⟩ hl.1 rfl (Nat.le_of_ble_eq_true rfl) dX11_placeAt_7) hP hS hA (fun u2 H locs w3 hP hS => ?_)
  have w3 : (-1 ≤ u2.toInt ∧ u2.toInt ≤ 599) ∧ ((p0.toInt < p2.toInt ∧ u2.toInt = -1) ∨ (p2.toInt ≤ p0.toInt ∧ u2.toInt = (p0.toInt - p2.toInt) / p1.toInt)) := w3
  obtain ⟨hw5, hw6⟩ := w3
  refine W.eq (g2 := F0 m 10 ls [.int u2, .int p1, .int v1]) rfl ?_
  refine lv_imul hx hb dX11_placeAt_10 ?_
  refine lv_topi (fun v7 ev7 => ?_)
  have hv7 := i_mulR (a := 1) (b := 400) (c := -1) (d := 599) (lo := -400) (hi := 239600) (Eq.refl p1.toInt) (Eq.refl u2.toInt) ev7 (by omega) (by omega) (by decide) (by decide)
  refine lv_isub hx hb dX11_placeAt_11 ?_
  refine lv_topi (fun v8 ev8 => ?_)
  have hv8 := i_sub (Eq.refl v1.toInt) (Eq.refl v7.toInt) ev8 (by omega) (by omega)
  refine W.widen (k := 0) (n := 0) (Nat.le_of_ble_eq_true rfl) (Nat.le_of_ble_eq_true rfl) ?_
  exact W.iret (v := v8) hx hb hr (fun t ht hW => ⟨⟨v8, rfl, (plc_of (b := p1.toInt) (s := p2.toInt) (h := p0.toInt) (d := u2.toInt) (by omega) (by omega) (by omega) (by omega) hw6 (by omega)), CB.nil⟩, hS.F ht⟩) hS.2.2 dX11_placeAt_12
set_option maxHeartbeats 4000000 in
set_option maxRecDepth 100000 in
theorem m_dipsOf (l : Launch) (D : va_G) (Y : Nat → ClassId) (Z : Nat → Nat) (sz : Nat) (o : Nat) (a : Nat → Nat) (I : Nat → Int32) (J : Nat → Int64) (F : Nat → Nat → Int32) (G : Nat → Nat → Int64) (p1 : Int32) (p2 : Int32) (p3 : Int32) (hk_0 : (1 ≤ p1.toInt ∧ p1.toInt ≤ 400)) (hk_1 : (0 ≤ p2.toInt ∧ p2.toInt ≤ 30)) (hk_2 : (0 ≤ p3.toInt ∧ p3.toInt ≤ 400)) : Met l yX11_dipsOf (.code yX11_dipsOf cX11_dipsOf 6 (some .int) :: GW) ({ frames := 3, cells := 0, slots := 0, locals := 64 }) (va_Pc [.ref o, .int p1, .int p2, .int p3] (CP D Y Z (MW Y o a I J F G) sz)) (QG (S := Int32) (fun u => some (.int u)) (fun u => True) (fun u => CB D (MW Y o a I J F G) (va_A (MW Y o a I J F G) sz)) (va_A (MW Y o a I J F G) sz)) 0 0 (va_A (MW Y o a I J F G) sz) := by
  refine Met.ofW (cc := cX11_dipsOf) (maxL := 6) (ret := (some .int)) (by decide) rfl ?_
  intro p e s m args below meth c s₁ B hml hv
  obtain ⟨rfl, hsz, hP, hKN, hD0⟩ := hv
  have hx := B.exec
  have hb := B.bytes
  have hr := B.returns
  have hts := atoms_spec (ws := .code yX11_dipsOf cX11_dipsOf 6 (some .int) :: GW) B.pre
  have hg : ∀ w ∈ GW, w.before _ s = true := fun w h => hts w (List.mem_cons_of_mem _ h)
  have hown : s.vm.findClass RX11 = some m.cls := findClass_of_methodNamed B.named
  have hlocks := B.notSynchronized
  subst hsz
  have hD := hD0.self (sz := s.heap.size)
  generalize hAe : va_A (MW Y o a I J F G) s.heap.size = A at hD ⊢
  have hA : ∀ q : Nat, s.heap.size ≤ q → A q := fun q h => by rw [← hAe]; exact Or.inr h
  clear hAe hD0 hts B
  have hl := lv_entry ([.ref o, .int p1, .int p2, .int p3]) (n := 6) (Nat.le_of_ble_eq_true rfl)
  rw [lg_entry_eq]
  generalize (lg_sl ([.ref o, .int p1, .int p2, .int p3]) ++ List.replicate (6 - (lg_sl ([.ref o, .int p1, .int p2, .int p3])).length) Slot.unset).toArray = ls at hl ⊢
  have hl : lv_has ls 6 [(0, .ref o), (1, .int p1), (2, .int p2), (3, .int p3)] := hl
  refine w_start (A0 := A) hP (fun H locs hP hS => ?_)
  refine lv_iconst (v := 0) hx hb dX11_dipsOf_0 (by decide) ?_
  refine lv_istore (lv' := [(4, .int 0), (0, .ref o), (1, .int p1), (2, .int p2), (3, .int p3)]) hx hb dX11_dipsOf_1 hl (by decide) rfl (fun ls hl => ?_)
  refine lv_iload_n hx hb dX11_dipsOf_3 rfl (lv_at hl 4 rfl) ?_
  refine lv_iload_n hx hb dX11_dipsOf_4 rfl (lv_at hl 2 rfl) ?_
  refine lv_isub hx hb dX11_dipsOf_5 ?_
  refine lv_topi (fun v1 ev1 => ?_)
  have hv1 := i_sub (Eq.refl p3.toInt) (Eq.refl p1.toInt) ev1 (by omega) (by omega)
  refine lv_istore (lv' := [(5, .int v1), (4, .int 0), (0, .ref o), (1, .int p1), (2, .int p2), (3, .int p3)]) hx hb dX11_dipsOf_6 hl (by decide) rfl (fun ls hl => ?_)
  have zi0 : (0 : Int32).toInt = 0 := by decide
  refine w_loop (σ := Int32 × Int32) (fun xx H locs ls => match xx with | (g30, g31) => va_P D vwCl (MW Y o a I J F G) H ∧ va_D A (MW Y o a I J F G) ∧ va_S A s.heap H locs ∧ lv_has ls 6 [(5, .int g30), (4, .int g31), (0, .ref o), (1, .int p1), (2, .int p2), (3, .int p3)] ∧ (-400 ≤ g30.toInt ∧ g30.toInt ≤ 1000)) (fun xx => match xx with | (g30, g31) => (600 - g30.toInt).toNat) (v1, 0) ⟨hP, hD, hS, lv_sub hl [0, 1, 2, 3, 4, 5] rfl, by omega⟩ (fun xx H locs ls hI ih => ?_)
  obtain ⟨g30, g31⟩ := xx
  obtain ⟨hP, hD, hS, hl, hq62⟩ := hI
  have ih63 := ih
  refine lv_iload hx hb dX11_dipsOf_8 (lv_at hl 0 rfl) ?_
  refine lv_sipush (v := 600) hx hb dX11_dipsOf_10 (by decide) ?_
  refine lv_icmp_ge (tgt := 45) hx hb dX11_dipsOf_13 (by decide) (fun c79 => ?_) (fun c79 => ?_)
  · skip
    have c79 := i_le (show (600 : Int32).toInt = 600 by decide) (Eq.refl g30.toInt) c79
    refine lv_iload hx hb dX11_dipsOf_45 (lv_at hl 1 rfl) ?_
    refine W.widen (k := 0) (n := 0) (Nat.le_of_ble_eq_true rfl) (Nat.le_of_ble_eq_true rfl) ?_
    exact W.iret (v := g31) hx hb hr (fun t ht hW => ⟨⟨g31, rfl, trivial, CB.mk ht hP hD⟩, hS.F ht⟩) hS.2.2 dX11_dipsOf_47
  · skip
    have c79 := i_nle (show (600 : Int32).toInt = 600 by decide) (Eq.refl g30.toInt) c79
    refine lv_iload hx hb dX11_dipsOf_16 (lv_at hl 1 rfl) ?_
    refine lv_aload_n hx hb dX11_dipsOf_18 rfl (lv_at hl 2 rfl) ?_
    refine lv_iload hx hb dX11_dipsOf_19 (lv_at hl 0 rfl) ?_
    refine lv_iload_n hx hb dX11_dipsOf_21 rfl (lv_at hl 4 rfl) ?_
    refine cga (rn_V (As := [.int g30, .int p2]) (rest := [.int g31]) (b := o) (m_hasHour l D Y Z H.size o a I J F G  g30 p2 (show (-1000 ≤ g30.toInt ∧ g30.toInt ≤ 200000) by omega) (show (-30 ≤ p2.toInt ∧ p2.toInt ≤ 30) by omega)) ⟨hx, hb, hml, hown, hg⟩ lk_X11_412 ⟨CP.blind, va_recv hKN.1 hP (ci := 11) (q0 := 0) rfl rfl, CP.at hP hKN hD⟩ ⟨⟨rfl, rfl⟩, ⟨Nat.le_of_ble_eq_true rfl, Nat.le_of_ble_eq_true rfl⟩, ⟨Nat.le_of_ble_eq_true rfl, Nat.le_of_ble_eq_true rfl⟩⟩ hl.1 rfl (Nat.le_of_ble_eq_true rfl) dX11_dipsOf_22) hP hD hS hA (fun u80 H locs w81 hP hD hS => ?_)
    have w81 : (0 ≤ u80.toInt ∧ u80.toInt ≤ 1) := w81
    have hw83 := w81
    refine W.eq (g2 := F0 m 25 ls [.int u80, .int g31]) rfl ?_
    have hP : va_P D vwCl (MW Y o a I J F G) H := hP
    have hD : va_D A (MW Y o a I J F G) := hD
    rcases (show u80.toInt = 1 ∨ u80.toInt = 0 by omega) with c84 | c84
    · obtain rfl : u80 = 1 := i_is c84 (by decide)
      have zi1 : (1 : Int32).toInt = 1 := by decide
      refine W.eq (g2 := F0 m 25 ls [.int 1, .int g31]) rfl ?_
      refine lv_if_eq (tgt := 32) hx hb dX11_dipsOf_25 (by decide) (fun c86 => ?_) (fun c86 => ?_)
      · exact absurd c86 (by decide)
      refine lv_iconst (v := 1) hx hb dX11_dipsOf_28 (by decide) ?_
      refine lv_goto (tgt := 33) hx hb dX11_dipsOf_29 (by decide) ?_
      refine lv_iadd hx hb dX11_dipsOf_33 ?_
      refine lv_topi (fun v87 ev87 => ?_)
      refine lv_istore (lv' := [(4, .int v87), (5, .int g30), (0, .ref o), (1, .int p1), (2, .int p2), (3, .int p3)]) hx hb dX11_dipsOf_34 hl (by decide) rfl (fun ls hl => ?_)
      refine lv_iload hx hb dX11_dipsOf_36 (lv_at hl 1 rfl) ?_
      refine lv_iload_n hx hb dX11_dipsOf_38 rfl (lv_at hl 3 rfl) ?_
      refine lv_iadd hx hb dX11_dipsOf_39 ?_
      refine lv_topi (fun v88 ev88 => ?_)
      have hv88 := i_add (Eq.refl g30.toInt) (Eq.refl p1.toInt) ev88 (by omega) (by omega)
      refine lv_istore (lv' := [(5, .int v88), (4, .int v87), (0, .ref o), (1, .int p1), (2, .int p2), (3, .int p3)]) hx hb dX11_dipsOf_40 hl (by decide) rfl (fun ls hl => ?_)
      refine lv_goto (tgt := 8) hx hb dX11_dipsOf_42 (by decide) ?_
      exact ih63 (v88, v87) H locs ls (by show (600 - v88.toInt).toNat < (600 - g30.toInt).toNat; omega) ⟨hP, hD, hS, lv_sub hl [0, 1, 2, 3, 4, 5] rfl, by omega⟩
    · obtain rfl : u80 = 0 := i_is c84 (by decide)
      have zi0 : (0 : Int32).toInt = 0 := by decide
      refine W.eq (g2 := F0 m 25 ls [.int 0, .int g31]) rfl ?_
      refine lv_if_eq (tgt := 32) hx hb dX11_dipsOf_25 (by decide) (fun c90 => ?_) (fun c90 => ?_)
      rotate_left
      · exact absurd c90 (by decide)
      refine lv_iconst (v := 0) hx hb dX11_dipsOf_32 (by decide) ?_
      refine lv_iadd hx hb dX11_dipsOf_33 ?_
      refine lv_topi (fun v91 ev91 => ?_)
      have j92 := rgI g31
      have hv91 := i_add (Eq.refl g31.toInt) (show (0 : Int32).toInt = 0 by decide) ev91 (by omega) (by omega)
      refine lv_istore (lv' := [(4, .int v91), (5, .int g30), (0, .ref o), (1, .int p1), (2, .int p2), (3, .int p3)]) hx hb dX11_dipsOf_34 hl (by decide) rfl (fun ls hl => ?_)
      refine lv_iload hx hb dX11_dipsOf_36 (lv_at hl 1 rfl) ?_
      refine lv_iload_n hx hb dX11_dipsOf_38 rfl (lv_at hl 3 rfl) ?_
      refine lv_iadd hx hb dX11_dipsOf_39 ?_
      refine lv_topi (fun v93 ev93 => ?_)
      have hv93 := i_add (Eq.refl g30.toInt) (Eq.refl p1.toInt) ev93 (by omega) (by omega)
      refine lv_istore (lv' := [(5, .int v93), (4, .int v91), (0, .ref o), (1, .int p1), (2, .int p2), (3, .int p3)]) hx hb dX11_dipsOf_40 hl (by decide) rfl (fun ls hl => ?_)
      refine lv_goto (tgt := 8) hx hb dX11_dipsOf_42 (by decide) ?_
      exact ih63 (v93, v91) H locs ls (by show (600 - v93.toInt).toNat < (600 - g30.toInt).toNat; omega) ⟨hP, hD, hS, lv_sub hl [0, 1, 2, 3, 4, 5] rfl, by omega⟩
set_option maxHeartbeats 4000000 in
set_option maxRecDepth 100000 in
theorem m_takesIn (l : Launch) (D : va_G) (Y : Nat → ClassId) (Z : Nat → Nat) (sz : Nat) (o : Nat) (a : Nat → Nat) (I : Nat → Int32) (J : Nat → Int64) (F : Nat → Nat → Int32) (G : Nat → Nat → Int64) (p1 : Int32) (p2 : Int32) (p3 : Int32) (hk_0 : (1 ≤ p1.toInt ∧ p1.toInt ≤ 400)) (hk_1 : (0 ≤ p3.toInt ∧ p3.toInt ≤ 400)) (hk_2 : (p3.toInt ≤ p1.toInt)) : Met l yX11_takesIn (.code yX11_takesIn cX11_takesIn 5 none :: GW) ({ frames := 2, cells := 0, slots := 0, locals := 44 }) (va_Pc [.ref o, .int p1, .int p2, .int p3] (CP D Y Z (MW Y o a I J F G) sz)) (QG (S := Int32 × Int64) (fun _ => none) (fun u => (0 ≤ u.1.toInt ∧ u.1.toInt ≤ 600)) (fun u => CB D (MW Y o a (upd I 32 u.1) (vp_updL J 33 u.2) F G) (va_A (MW Y o a I J F G) sz)) (va_A (MW Y o a I J F G) sz)) 0 0 (va_A (MW Y o a I J F G) sz) := by
  refine Met.ofW (cc := cX11_takesIn) (maxL := 5) (ret := none) (by decide) rfl ?_
  intro p e s m args below meth c s₁ B hml hv
  obtain ⟨rfl, hsz, hP, hKN, hD0⟩ := hv
  have hx := B.exec
  have hb := B.bytes
  have hr := B.returns
  have hts := atoms_spec (ws := .code yX11_takesIn cX11_takesIn 5 none :: GW) B.pre
  have hg : ∀ w ∈ GW, w.before _ s = true := fun w h => hts w (List.mem_cons_of_mem _ h)
  have hown : s.vm.findClass RX11 = some m.cls := findClass_of_methodNamed B.named
  have hlocks := B.notSynchronized
  subst hsz
  have hD := hD0.self (sz := s.heap.size)
  generalize hAe : va_A (MW Y o a I J F G) s.heap.size = A at hD ⊢
  have hA : ∀ q : Nat, s.heap.size ≤ q → A q := fun q h => by rw [← hAe]; exact Or.inr h
  clear hAe hD0 hts B
  have hl := lv_entry ([.ref o, .int p1, .int p2, .int p3]) (n := 5) (Nat.le_of_ble_eq_true rfl)
  rw [lg_entry_eq]
  generalize (lg_sl ([.ref o, .int p1, .int p2, .int p3]) ++ List.replicate (5 - (lg_sl ([.ref o, .int p1, .int p2, .int p3])).length) Slot.unset).toArray = ls at hl ⊢
  have hl : lv_has ls 5 [(0, .ref o), (1, .int p1), (2, .int p2), (3, .int p3)] := hl
  refine w_start (A0 := A) hP (fun H locs hP hS => ?_)
  refine lv_aload_n hx hb dX11_takesIn_0 rfl (lv_at hl 0 rfl) ?_
  refine lv_iconst (v := 0) hx hb dX11_takesIn_1 (by decide) ?_
  refine va_put (D := D) (ci := 11) (v := .int 0) (ty := .int) (C := RX11) (T := TX11) (N := 49) hx hb hg inGX11 tyX11 tyX11_ok nmX11 hown hKN.1 hP hD hS 0 rfl rfl 32 (by decide) (hg _ kw_1240) (fun _ h9 => h9) rfl (by decide +kernel) rfl rfl (Nat.le_of_ble_eq_true rfl) dX11_takesIn_2 (fun H locs hP hD hS => ?_)
  have hP : va_P D vwCl (MW Y o a (upd I 32 0) J F G) H := hP
  have hD : va_D A (MW Y o a (upd I 32 0) J F G) := hD
  refine lv_aload_n hx hb dX11_takesIn_5 rfl (lv_at hl 0 rfl) ?_
  refine lv_lconst (v := 0) hx hb dX11_takesIn_6 (by decide) ?_
  refine va_put (D := D) (ci := 11) (v := .long 0) (ty := .long) (C := RX11) (T := TX11) (N := 49) hx hb hg inGX11 tyX11 tyX11_ok nmX11 hown hKN.1 hP hD hS 0 rfl rfl 33 (by decide) (hg _ kw_1241) (fun _ h9 => h9) rfl (by decide +kernel) rfl rfl (Nat.le_of_ble_eq_true rfl) dX11_takesIn_7 (fun H locs hP hD hS => ?_)
  have hP : va_P D vwCl (MW Y o a (upd I 32 0) (vp_updL J 33 0) F G) H := hP
  have hD : va_D A (MW Y o a (upd I 32 0) (vp_updL J 33 0) F G) := hD
  refine lv_iconst (v := 0) hx hb dX11_takesIn_10 (by decide) ?_
  refine lv_istore (lv' := [(4, .int 0), (0, .ref o), (1, .int p1), (2, .int p2), (3, .int p3)]) hx hb dX11_takesIn_11 hl (by decide) rfl (fun ls hl => ?_)
  have zi0 : (0 : Int32).toInt = 0 := by decide
  have zl0 : (0 : Int64).toInt = 0 := by decide
  refine w_loop (σ := Int32 × Int32 × Int64) (fun xx H locs ls => match xx with | (g22, g23, g24) => va_P D vwCl (MW Y o a (upd I 32 g23) (vp_updL J 33 g24) F G) H ∧ va_D A (MW Y o a (upd I 32 g23) (vp_updL J 33 g24) F G) ∧ va_S A s.heap H locs ∧ lv_has ls 5 [(4, .int g22), (0, .ref o), (1, .int p1), (2, .int p2), (3, .int p3)] ∧ (0 ≤ g22.toInt ∧ g22.toInt ≤ 600) ∧ (0 ≤ g23.toInt ∧ g23.toInt ≤ 600) ∧ (g23.toInt ≤ g22.toInt)) (fun xx => match xx with | (g22, g23, g24) => (600 - g22.toInt).toNat) (0, 0, 0) ⟨hP, hD, hS, lv_sub hl [0, 1, 2, 3, 4] rfl, by omega, by omega, by omega⟩ (fun xx H locs ls hI ih => ?_)
  obtain ⟨g22, g23, g24⟩ := xx
  obtain ⟨hP, hD, hS, hl, hq49, hq50, hq51⟩ := hI
  have ih52 := ih
  refine lv_iload hx hb dX11_takesIn_13 (lv_at hl 0 rfl) ?_
  refine lv_sipush (v := 600) hx hb dX11_takesIn_15 (by decide) ?_
  refine lv_icmp_ge (tgt := 77) hx hb dX11_takesIn_18 (by decide) (fun c53 => ?_) (fun c53 => ?_)
  · skip
    have c53 := i_le (show (600 : Int32).toInt = 600 by decide) (Eq.refl g22.toInt) c53
    refine W.widen (k := 0) (n := 0) (Nat.le_of_ble_eq_true rfl) (Nat.le_of_ble_eq_true rfl) ?_
    exact W.vret hx hb hr (fun t ht hW => ⟨⟨(g23, g24), rfl, ((show (0 ≤ g23.toInt ∧ g23.toInt ≤ 600) by omega)), CB.mk ht hP hD⟩, hS.F ht⟩) hS.2.2 dX11_takesIn_77
  · skip
    have c53 := i_nle (show (600 : Int32).toInt = 600 by decide) (Eq.refl g22.toInt) c53
    refine lv_aload_n hx hb dX11_takesIn_21 rfl (lv_at hl 1 rfl) ?_
    refine lv_iload hx hb dX11_takesIn_22 (lv_at hl 0 rfl) ?_
    refine cga (rn_V (As := [.int g22]) (rest := []) (b := o) (m_isNumber l D Y Z H.size o a (upd I 32 g23) (vp_updL J 33 g24) F G  g22 ) ⟨hx, hb, hml, hown, hg⟩ lk_X11_409 ⟨CP.blind, va_recv hKN.1 hP (ci := 11) (q0 := 0) rfl rfl, CP.at hP hKN hD⟩ ⟨⟨rfl, rfl⟩, ⟨Nat.le_of_ble_eq_true rfl, Nat.le_of_ble_eq_true rfl⟩, ⟨Nat.le_of_ble_eq_true rfl, Nat.le_of_ble_eq_true rfl⟩⟩ hl.1 rfl (Nat.le_of_ble_eq_true rfl) dX11_takesIn_24) hP hD hS hA (fun u54 H locs w55 hP hD hS => ?_)
    have w55 : ((0 ≤ g22.toInt ∧ g22.toInt ≤ 599 ∧ u54.toInt = 1 ∧ ((F 28) g22.toNatClampNeg).toInt ≠ -100000) ∨ (u54.toInt = 0 ∧ (0 ≤ g22.toInt → g22.toInt ≤ 599 → ((F 28) g22.toNatClampNeg).toInt = -100000))) ∧ (0 ≤ u54.toInt ∧ u54.toInt ≤ 1) := w55
    obtain ⟨hw57, hw58⟩ := w55
    refine W.eq (g2 := F0 m 27 ls [.int u54]) rfl ?_
    have hP : va_P D vwCl (MW Y o a (upd I 32 g23) (vp_updL J 33 g24) F G) H := hP
    have hD : va_D A (MW Y o a (upd I 32 g23) (vp_updL J 33 g24) F G) := hD
    rcases (show u54.toInt = 1 ∨ u54.toInt = 0 by omega) with c59 | c59
    · obtain rfl : u54 = 1 := i_is c59 (by decide)
      have zi1 : (1 : Int32).toInt = 1 := by decide
      refine W.eq (g2 := F0 m 27 ls [.int 1]) rfl ?_
      refine lv_if_eq (tgt := 71) hx hb dX11_takesIn_27 (by decide) (fun c60 => ?_) (fun c60 => ?_)
      · exact absurd c60 (by decide)
      refine lv_iload hx hb dX11_takesIn_30 (lv_at hl 0 rfl) ?_
      refine lv_iload_n hx hb dX11_takesIn_32 rfl (lv_at hl 2 rfl) ?_
      refine lv_iload_n hx hb dX11_takesIn_33 rfl (lv_at hl 4 rfl) ?_
      refine cg0 (rn_S (As := [.int g22, .int p1, .int p3]) (rest := []) (m_placeAt l D Y Z H.size   g22 p1 p3 (show (0 ≤ g22.toInt ∧ g22.toInt ≤ 599) by omega) (show (1 ≤ p1.toInt ∧ p1.toInt ≤ 400) by omega) (show (0 ≤ p3.toInt ∧ p3.toInt ≤ 400) by omega) (show (p3.toInt ≤ p1.toInt) by omega)) ⟨hx, hb, hml, hown, hg⟩ lk_X11_448 ⟨CP.blind, CP.at nilP hKN (nilD (A := fun _ => True))⟩ ⟨⟨rfl, rfl⟩, ⟨Nat.le_of_ble_eq_true rfl, Nat.le_of_ble_eq_true rfl⟩, ⟨Nat.le_of_ble_eq_true rfl, Nat.le_of_ble_eq_true rfl⟩⟩ hl.1 rfl (Nat.le_of_ble_eq_true rfl) dX11_takesIn_34) hP hS hA (fun u61 H locs w62 hP hS => ?_)
      have w62 : (u61.toInt = (plc (p1.toInt).toNat (p3.toInt).toNat (g22.toInt).toNat : Int)) := w62
      have hw64 := w62
      refine W.eq (g2 := F0 m 37 ls [.int u61]) rfl ?_
      refine lv_iload_n hx hb dX11_takesIn_37 rfl (lv_at hl 3 rfl) ?_
      have j65 := rgI u61
      have j66 := rgI p2
      refine lv_icmp_lt (tgt := 44) hx hb dX11_takesIn_38 (by decide) (fun c67 => ?_) (fun c67 => ?_)
      · skip
        have c67 := i_lt (Eq.refl u61.toInt) (Eq.refl p2.toInt) c67
        refine lv_aload_n hx hb dX11_takesIn_44 rfl (lv_at hl 1 rfl) ?_
        refine lv_dup hx hb dX11_takesIn_45 rfl ?_
        refine va_get (D := D) (ci := 11) (v := .int g23) (C := RX11) (T := TX11) (N := 49) hx hb hg inGX11 hown hKN.1 hP 0 rfl rfl 32 (by decide) (hg _ kw_1240) (fun _ h9 => h9) rfl dX11_takesIn_46 ?_
        refine lv_iconst (v := 1) hx hb dX11_takesIn_49 (by decide) ?_
        refine lv_iadd hx hb dX11_takesIn_50 ?_
        refine lv_topi (fun v68 ev68 => ?_)
        have hv68 := i_add (Eq.refl g23.toInt) (show (1 : Int32).toInt = 1 by decide) ev68 (by omega) (by omega)
        refine va_put (D := D) (ci := 11) (v := .int v68) (ty := .int) (C := RX11) (T := TX11) (N := 49) hx hb hg inGX11 tyX11 tyX11_ok nmX11 hown hKN.1 hP hD hS 0 rfl rfl 32 (by decide) (hg _ kw_1240) (fun _ h9 => h9) rfl (by decide +kernel) rfl rfl (Nat.le_of_ble_eq_true rfl) dX11_takesIn_51 (fun H locs hP hD hS => ?_)
        have hP : va_P D vwCl (MW Y o a (upd I 32 v68) (vp_updL J 33 g24) F G) H := hP
        have hD : va_D A (MW Y o a (upd I 32 v68) (vp_updL J 33 g24) F G) := hD
        refine lv_aload_n hx hb dX11_takesIn_54 rfl (lv_at hl 1 rfl) ?_
        refine lv_dup hx hb dX11_takesIn_55 rfl ?_
        refine va_get (D := D) (ci := 11) (v := .long g24) (C := RX11) (T := TX11) (N := 49) hx hb hg inGX11 hown hKN.1 hP 0 rfl rfl 33 (by decide) (hg _ kw_1241) (fun _ h9 => h9) rfl dX11_takesIn_56 ?_
        refine lv_aload_n hx hb dX11_takesIn_59 rfl (lv_at hl 1 rfl) ?_
        refine va_get (D := D) (ci := 11) (v := .ref (a 28)) (C := RX11) (T := TX11) (N := 49) hx hb hg inGX11 hown hKN.1 hP 0 rfl rfl 28 (by decide) (hg _ kw_1236) (fun _ h9 => h9) rfl dX11_takesIn_60 ?_
        refine lv_iload hx hb dX11_takesIn_63 (lv_at hl 0 rfl) ?_
        refine va_iald hx hb hKN.1 hP 19 0 rfl rfl (vp_in_iff.mpr ⟨by omega, by omega⟩) dX11_takesIn_65 ?_
        refine lv_topi (fun v69 ev69 => ?_)
        have ev69 : v69 = (F 28) g22.toNatClampNeg := ev69
        have qv69 := congrArg Int32.toInt ev69
        have j70 := rgI v69
        have j71 := Int32.toInt_toInt64 v69
        refine lv_i2l (v := v69.toInt64) hx hb dX11_takesIn_66 (rfl) ?_
        refine lv_ladd hx hb dX11_takesIn_67 ?_
        refine lv_topl (fun v72 ev72 => ?_)
        refine va_put (D := D) (ci := 11) (v := .long v72) (ty := .long) (C := RX11) (T := TX11) (N := 49) hx hb hg inGX11 tyX11 tyX11_ok nmX11 hown hKN.1 hP hD hS 0 rfl rfl 33 (by decide) (hg _ kw_1241) (fun _ h9 => h9) rfl (by decide +kernel) rfl rfl (Nat.le_of_ble_eq_true rfl) dX11_takesIn_68 (fun H locs hP hD hS => ?_)
        have hP : va_P D vwCl (MW Y o a (upd I 32 v68) (vp_updL J 33 v72) F G) H := hP
        have hD : va_D A (MW Y o a (upd I 32 v68) (vp_updL J 33 v72) F G) := hD
        obtain ⟨v73, ev73⟩ : ∃ y : Int32, y = g22 + 1 := ⟨_, rfl⟩
        have hv73 := i_add (Eq.refl g22.toInt) (show (1 : Int32).toInt = 1 by decide) ev73 (by omega) (by omega)
        refine lv_iinc (v := v73) (lv' := [(4, .int v73), (0, .ref o), (1, .int p1), (2, .int p2), (3, .int p3)]) hx hb dX11_takesIn_71 hl (k := 0) rfl (by rw [ev73]; rfl) (by decide) rfl (fun ls hl => ?_)
        refine lv_goto (tgt := 13) hx hb dX11_takesIn_74 (by decide) ?_
        exact ih52 (v73, v68, v72) H locs ls (by show (600 - v73.toInt).toNat < (600 - g22.toInt).toNat; omega) ⟨hP, hD, hS, lv_sub hl [0, 1, 2, 3, 4] rfl, by omega, by omega, by omega⟩
      · skip
        have c67 := i_nlt (Eq.refl u61.toInt) (Eq.refl p2.toInt) c67
        refine lv_goto (tgt := 71) hx hb dX11_takesIn_41 (by decide) ?_
        obtain ⟨v74, ev74⟩ : ∃ y : Int32, y = g22 + 1 := ⟨_, rfl⟩
        have hv74 := i_add (Eq.refl g22.toInt) (show (1 : Int32).toInt = 1 by decide) ev74 (by omega) (by omega)
        refine lv_iinc (v := v74) (lv' := [(4, .int v74), (0, .ref o), (1, .int p1), (2, .int p2), (3, .int p3)]) hx hb dX11_takesIn_71 hl (k := 0) rfl (by rw [ev74]; rfl) (by decide) rfl (fun ls hl => ?_)
        refine lv_goto (tgt := 13) hx hb dX11_takesIn_74 (by decide) ?_
        exact ih52 (v74, g23, g24) H locs ls (by show (600 - v74.toInt).toNat < (600 - g22.toInt).toNat; omega) ⟨hP, hD, hS, lv_sub hl [0, 1, 2, 3, 4] rfl, by omega, by omega, by omega⟩
    · obtain rfl : u54 = 0 := i_is c59 (by decide)
      have zi0 : (0 : Int32).toInt = 0 := by decide
      refine W.eq (g2 := F0 m 27 ls [.int 0]) rfl ?_
      refine lv_if_eq (tgt := 71) hx hb dX11_takesIn_27 (by decide) (fun c75 => ?_) (fun c75 => ?_)
      rotate_left
      · exact absurd c75 (by decide)
      obtain ⟨v76, ev76⟩ : ∃ y : Int32, y = g22 + 1 := ⟨_, rfl⟩
      have hv76 := i_add (Eq.refl g22.toInt) (show (1 : Int32).toInt = 1 by decide) ev76 (by omega) (by omega)
      refine lv_iinc (v := v76) (lv' := [(4, .int v76), (0, .ref o), (1, .int p1), (2, .int p2), (3, .int p3)]) hx hb dX11_takesIn_71 hl (k := 0) rfl (by rw [ev76]; rfl) (by decide) rfl (fun ls hl => ?_)
      refine lv_goto (tgt := 13) hx hb dX11_takesIn_74 (by decide) ?_
      exact ih52 (v76, g23, g24) H locs ls (by show (600 - v76.toInt).toNat < (600 - g22.toInt).toNat; omega) ⟨hP, hD, hS, lv_sub hl [0, 1, 2, 3, 4] rfl, by omega, by omega, by omega⟩
set_option maxHeartbeats 4000000 in
set_option maxRecDepth 100000 in
theorem m_deepBy (l : Launch) (D : va_G) (Y : Nat → ClassId) (Z : Nat → Nat) (sz : Nat) (o : Nat) (a : Nat → Nat) (I : Nat → Int32) (J : Nat → Int64) (F : Nat → Nat → Int32) (G : Nat → Nat → Int64) (p1 : Int64) (p2 : Int32) (p3 : Int64) (p4 : Int32) (hk_0 : (p2.toInt ≠ 0)) (hk_1 : (p4.toInt ≠ 0)) : Met l yX11_deepBy (.code yX11_deepBy cX11_deepBy 7 (some .long) :: GW) ({ frames := 1, cells := 0, slots := 0, locals := 25 }) (va_Pc [.ref o, .long p1, .int p2, .long p3, .int p4] (CP D Y Z (MW Y o a I J F G) sz)) (QG (S := Int64) (fun u => some (.long u)) (fun u => True) (fun u => CB D (MW Y o a I J F G) (va_A (MW Y o a I J F G) sz)) (va_A (MW Y o a I J F G) sz)) 0 0 (va_A (MW Y o a I J F G) sz) := by
  refine Met.ofW (cc := cX11_deepBy) (maxL := 7) (ret := (some .long)) (by decide) rfl ?_
  intro p e s m args below meth c s₁ B hml hv
  obtain ⟨rfl, hsz, hP, hKN, hD0⟩ := hv
  have hx := B.exec
  have hb := B.bytes
  have hr := B.returns
  have hts := atoms_spec (ws := .code yX11_deepBy cX11_deepBy 7 (some .long) :: GW) B.pre
  have hg : ∀ w ∈ GW, w.before _ s = true := fun w h => hts w (List.mem_cons_of_mem _ h)
  have hown : s.vm.findClass RX11 = some m.cls := findClass_of_methodNamed B.named
  have hlocks := B.notSynchronized
  subst hsz
  have hD := hD0.self (sz := s.heap.size)
  generalize hAe : va_A (MW Y o a I J F G) s.heap.size = A at hD ⊢
  have hA : ∀ q : Nat, s.heap.size ≤ q → A q := fun q h => by rw [← hAe]; exact Or.inr h
  clear hAe hD0 hts B
  have hl := lv_entry ([.ref o, .long p1, .int p2, .long p3, .int p4]) (n := 7) (Nat.le_of_ble_eq_true rfl)
  rw [lg_entry_eq]
  generalize (lg_sl ([.ref o, .long p1, .int p2, .long p3, .int p4]) ++ List.replicate (7 - (lg_sl ([.ref o, .long p1, .int p2, .long p3, .int p4])).length) Slot.unset).toArray = ls at hl ⊢
  have hl : lv_has ls 7 [(0, .ref o), (1, .long p1), (3, .int p2), (4, .long p3), (6, .int p4)] := hl
  refine w_start (A0 := A) hP (fun H locs hP hS => ?_)
  refine lv_lload_n hx hb dX11_deepBy_0 rfl (lv_at hl 1 rfl) ?_
  refine lv_iload hx hb dX11_deepBy_1 (lv_at hl 4 rfl) ?_
  have j1 := rgI p4
  have j2 := Int32.toInt_toInt64 p4
  refine lv_i2l (v := p4.toInt64) hx hb dX11_deepBy_3 (rfl) ?_
  refine lv_lmul hx hb dX11_deepBy_4 ?_
  refine lv_topl (fun v3 ev3 => ?_)
  refine lv_lload hx hb dX11_deepBy_5 (lv_at hl 3 rfl) ?_
  refine lv_iload_n hx hb dX11_deepBy_7 rfl (lv_at hl 2 rfl) ?_
  have j4 := rgI p2
  have j5 := Int32.toInt_toInt64 p2
  refine lv_i2l (v := p2.toInt64) hx hb dX11_deepBy_8 (rfl) ?_
  refine lv_lmul hx hb dX11_deepBy_9 ?_
  refine lv_topl (fun v6 ev6 => ?_)
  refine lv_lsub hx hb dX11_deepBy_10 ?_
  refine lv_topl (fun v7 ev7 => ?_)
  refine lv_iload_n hx hb dX11_deepBy_11 rfl (lv_at hl 2 rfl) ?_
  refine lv_i2l (v := p2.toInt64) hx hb dX11_deepBy_12 (rfl) ?_
  refine lv_iload hx hb dX11_deepBy_13 (lv_at hl 4 rfl) ?_
  refine lv_i2l (v := p4.toInt64) hx hb dX11_deepBy_15 (rfl) ?_
  refine lv_lmul hx hb dX11_deepBy_16 ?_
  refine lv_topl (fun v8 ev8 => ?_)
  have hv8 := l_mulR (a := -2147483648) (b := 2147483647) (c := -2147483648) (d := 2147483647) (lo := -4611686016279904256) (hi := 4611686018427387904) (Int32.toInt_toInt64 p2) (Int32.toInt_toInt64 p4) ev8 (by omega) (by omega) (by decide) (by decide)
  have nv8 := mul_nz (by omega) (by omega) hv8.1
  refine cg0 (rn_S (As := [.long v7, .long v8]) (rest := []) (m_down l D Y Z H.size   v7 v8 (show (v8.toInt ≠ 0) by omega)) ⟨hx, hb, hml, hown, hg⟩ lk_X11_133 ⟨CP.blind, CP.at nilP hKN (nilD (A := fun _ => True))⟩ ⟨⟨rfl, rfl⟩, ⟨Nat.le_of_ble_eq_true rfl, Nat.le_of_ble_eq_true rfl⟩, ⟨Nat.le_of_ble_eq_true rfl, Nat.le_of_ble_eq_true rfl⟩⟩ hl.1 rfl (Nat.le_of_ble_eq_true rfl) dX11_deepBy_17) hP hS hA (fun u9 H locs w10 hP hS => ?_)
  refine W.eq (g2 := F0 m 20 ls [.long u9]) rfl ?_
  refine W.widen (k := 0) (n := 0) (Nat.le_of_ble_eq_true rfl) (Nat.le_of_ble_eq_true rfl) ?_
  exact W.lret (v := u9) hx hb hr (fun t ht hW => ⟨⟨u9, rfl, trivial, CB.mk ht hP hD⟩, hS.F ht⟩) hS.2.2 dX11_deepBy_20
set_option maxHeartbeats 4000000 in
set_option maxRecDepth 100000 in
theorem m_scoreOf (l : Launch) (D : va_G) (Y : Nat → ClassId) (Z : Nat → Nat) (sz : Nat) (o : Nat) (a : Nat → Nat) (I : Nat → Int32) (J : Nat → Int64) (F : Nat → Nat → Int32) (G : Nat → Nat → Int64) (p1 : Int64) (p2 : Int32) (hk_0 : (1 ≤ (J 31).toInt)) : Met l yX11_scoreOf (.code yX11_scoreOf cX11_scoreOf 4 (some .long) :: GW) ({ frames := 0, cells := 0, slots := 0, locals := 0 }) (va_Pc [.ref o, .long p1, .int p2] (CP D Y Z (MW Y o a I J F G) sz)) (QG (S := Int64) (fun u => some (.long u)) (fun u => True) (fun u => CB D (MW Y o a I J F G) (va_A (MW Y o a I J F G) sz)) (va_A (MW Y o a I J F G) sz)) 0 0 (va_A (MW Y o a I J F G) sz) := by
  refine Met.ofW (cc := cX11_scoreOf) (maxL := 4) (ret := (some .long)) (by decide) rfl ?_
  intro p e s m args below meth c s₁ B hml hv
  obtain ⟨rfl, hsz, hP, hKN, hD0⟩ := hv
  have hx := B.exec
  have hb := B.bytes
  have hr := B.returns
  have hts := atoms_spec (ws := .code yX11_scoreOf cX11_scoreOf 4 (some .long) :: GW) B.pre
  have hg : ∀ w ∈ GW, w.before _ s = true := fun w h => hts w (List.mem_cons_of_mem _ h)
  have hown : s.vm.findClass RX11 = some m.cls := findClass_of_methodNamed B.named
  have hlocks := B.notSynchronized
  subst hsz
  have hD := hD0.self (sz := s.heap.size)
  generalize hAe : va_A (MW Y o a I J F G) s.heap.size = A at hD ⊢
  have hA : ∀ q : Nat, s.heap.size ≤ q → A q := fun q h => by rw [← hAe]; exact Or.inr h
  clear hAe hD0 hts B
  have hl := lv_entry ([.ref o, .long p1, .int p2]) (n := 4) (Nat.le_of_ble_eq_true rfl)
  rw [lg_entry_eq]
  generalize (lg_sl ([.ref o, .long p1, .int p2]) ++ List.replicate (4 - (lg_sl ([.ref o, .long p1, .int p2])).length) Slot.unset).toArray = ls at hl ⊢
  have hl : lv_has ls 4 [(0, .ref o), (1, .long p1), (3, .int p2)] := hl
  refine w_start (A0 := A) hP (fun H locs hP hS => ?_)
  refine lv_lload_n hx hb dX11_scoreOf_0 rfl (lv_at hl 1 rfl) ?_
  refine lv_lconst (v := 1) hx hb dX11_scoreOf_1 (by decide) ?_
  refine W.lcmp hx hb dX11_scoreOf_2 ?_
  refine lv_if_ge (tgt := 10) hx hb dX11_scoreOf_3 (by decide) (fun c7 => ?_) (fun c7 => ?_)
  · skip
    have c7 := l_ge (Eq.refl p1.toInt) (show (1 : Int64).toInt = 1 by decide) c7
    refine lv_lload_n hx hb dX11_scoreOf_10 rfl (lv_at hl 1 rfl) ?_
    refine lv_lload_n hx hb dX11_scoreOf_11 rfl (lv_at hl 1 rfl) ?_
    refine lv_lmul hx hb dX11_scoreOf_12 ?_
    refine lv_topl (fun v8 ev8 => ?_)
    refine lv_iload_n hx hb dX11_scoreOf_13 rfl (lv_at hl 2 rfl) ?_
    have j9 := rgI p2
    have j10 := Int32.toInt_toInt64 p2
    refine lv_i2l (v := p2.toInt64) hx hb dX11_scoreOf_14 (rfl) ?_
    refine lv_lmul hx hb dX11_scoreOf_15 ?_
    refine lv_topl (fun v11 ev11 => ?_)
    refine lv_aload_n hx hb dX11_scoreOf_16 rfl (lv_at hl 0 rfl) ?_
    refine va_get (D := D) (ci := 11) (v := .long (J 31)) (C := RX11) (T := TX11) (N := 49) hx hb hg inGX11 hown hKN.1 hP 0 rfl rfl 31 (by decide) (hg _ kw_1239) (fun _ h9 => h9) rfl dX11_scoreOf_17 ?_
    refine lv_ldiv hx hb dX11_scoreOf_20 (l_nz (Eq.refl (J 31).toInt) (by omega)) ?_
    refine lv_topl (fun v12 ev12 => ?_)
    have hv12 := l_divS (Eq.refl v11.toInt) (Eq.refl (J 31).toInt) ev12 (by omega)
    refine W.widen (k := 0) (n := 0) (Nat.le_of_ble_eq_true rfl) (Nat.le_of_ble_eq_true rfl) ?_
    exact W.lret (v := v12) hx hb hr (fun t ht hW => ⟨⟨v12, rfl, trivial, CB.mk ht hP hD⟩, hS.F ht⟩) hS.2.2 dX11_scoreOf_21
  · skip
    have c7 := l_nge (Eq.refl p1.toInt) (show (1 : Int64).toInt = 1 by decide) c7
    refine lv_lconst (v := 0) hx hb dX11_scoreOf_6 (by decide) ?_
    refine lv_goto (tgt := 21) hx hb dX11_scoreOf_7 (by decide) ?_
    refine W.widen (k := 0) (n := 0) (Nat.le_of_ble_eq_true rfl) (Nat.le_of_ble_eq_true rfl) ?_
    have zl0 : (0 : Int64).toInt = 0 := by decide
    exact W.lret (v := 0) hx hb hr (fun t ht hW => ⟨⟨0, rfl, trivial, CB.mk ht hP hD⟩, hS.F ht⟩) hS.2.2 dX11_scoreOf_21
