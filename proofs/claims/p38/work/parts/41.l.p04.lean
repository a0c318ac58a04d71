set_option maxHeartbeats 4000000 in
set_option maxRecDepth 100000 in
theorem m_worldS (l : Launch) (D : va_G) (Y : Nat → ClassId) (Z : Nat → Nat) (sz : Nat) (o : Nat) (a : Nat → Nat) (I : Nat → Int32) (J : Nat → Int64) (F : Nat → Nat → Int32) (G : Nat → Nat → Int64) (p1 : Int32) (p2 : Int32) (p3 : Int32) (p4 : Int32) (p5 : Int32) (p6 : Int32) (hk0 : TO (F 0)) (hk1 : KS (F 0) (F 0)) (hk2 : KD (F 0) (F 0)) : Met l yX11_world (.code yX11_world cX11_world 8 (some .int) :: GW) ({ frames := 1, cells := 0, slots := 0, locals := 25 }) (va_Pc [.ref o, .int p1, .int p2, .int p3, .int p4, .int p5, .int p6] (CP D Y Z (MW Y o a I J F G) sz)) (QG (S := Int32 × (Nat → Int32)) (fun u => some (.int u.1)) (fun u => TO u.2 ∧ KD (F 0) u.2 ∧ (((((2 ≤ p2.toInt ∧ p2.toInt ≤ 599) ∧ (0 ≤ p3.toInt ∧ p3.toInt ≤ 599) ∧ (1 ≤ p4.toInt ∧ p4.toInt ≤ 30) ∧ p4.toInt < p2.toInt ∧ (1 ≤ p5.toInt ∧ p5.toInt ≤ 30000)) ∧ (0 ≤ p1.toInt ∧ p1.toInt < ((F 0) 0).toInt) ∧ ((F 0) 1).toInt < 40) ∧ u.1.toInt = ((F 0) 1).toInt ∧ KC 1 (F 0) u.2) ∨ (¬ (((2 ≤ p2.toInt ∧ p2.toInt ≤ 599) ∧ (0 ≤ p3.toInt ∧ p3.toInt ≤ 599) ∧ (1 ≤ p4.toInt ∧ p4.toInt ≤ 30) ∧ p4.toInt < p2.toInt ∧ (1 ≤ p5.toInt ∧ p5.toInt ≤ 30000)) ∧ (0 ≤ p1.toInt ∧ p1.toInt < ((F 0) 0).toInt) ∧ ((F 0) 1).toInt < 40) ∧ u.1.toInt = -1 ∧ KS (F 0) u.2))) (fun u => CB D (MW Y o a I J (vf_upd F 0 u.2) G) (va_A (MW Y o a I J F G) sz)) (va_A (MW Y o a I J F G) sz)) 0 0 (va_A (MW Y o a I J F G) sz) := by
  refine Met.ofW (cc := cX11_world) (maxL := 8) (ret := (some .int)) (by decide) rfl ?_
  intro p e s m args below meth c s₁ B hml hv
  obtain ⟨rfl, hsz, hP, hKN, hD0⟩ := hv
  have hx := B.exec
  have hb := B.bytes
  have hr := B.returns
  have hts := atoms_spec (ws := .code yX11_world cX11_world 8 (some .int) :: GW) B.pre
  have hg : ∀ w ∈ GW, w.before _ s = true := fun w h => hts w (List.mem_cons_of_mem _ h)
  have hown : s.vm.findClass RX11 = some m.cls := findClass_of_methodNamed B.named
  have hlocks := B.notSynchronized
  subst hsz
  have hD := hD0.self (sz := s.heap.size)
  generalize hAe : va_A (MW Y o a I J F G) s.heap.size = A at hD ⊢
  have hA : ∀ q : Nat, s.heap.size ≤ q → A q := fun q h => by rw [← hAe]; exact Or.inr h
  clear hAe hD0 hts B
  have hl := lv_entry ([.ref o, .int p1, .int p2, .int p3, .int p4, .int p5, .int p6]) (n := 8) (Nat.le_of_ble_eq_true rfl)
  rw [lg_entry_eq]
  generalize (lg_sl ([.ref o, .int p1, .int p2, .int p3, .int p4, .int p5, .int p6]) ++ List.replicate (8 - (lg_sl ([.ref o, .int p1, .int p2, .int p3, .int p4, .int p5, .int p6])).length) Slot.unset).toArray = ls at hl ⊢
  have hl : lv_has ls 8 [(0, .ref o), (1, .int p1), (2, .int p2), (3, .int p3), (4, .int p4), (5, .int p5), (6, .int p6)] := hl
  refine w_start (A0 := A) hP (fun H locs hP hS => ?_)
  refine lv_aload_n hx hb dX11_world_0 rfl (lv_at hl 0 rfl) ?_
  refine va_get (D := D) (ci := 11) (v := .ref (a 0)) (C := RX11) (T := TX11) (N := 49) hx hb hg inGX11 hown hKN.1 hP 0 rfl rfl 0 (by decide) (hg _ kw_1208) (fun _ h9 => h9) rfl dX11_world_1 ?_
  refine lv_iconst (v := 1) hx hb dX11_world_4 (by decide) ?_
  refine va_iald hx hb hKN.1 hP 1 0 rfl rfl (show ¬ ((1 : Int32) < 0 ∨ 7533 ≤ (1 : Int32).toNatClampNeg) by decide) dX11_world_5 ?_
  refine lv_topi (fun v1 ev1 => ?_)
  have ev1 : v1 = (F 0) 1 := ev1
  have kv1 := TO_1 hk0
  rw [← ev1] at kv1
  have qv1 := congrArg Int32.toInt ev1
  refine lv_bipush (v := 40) hx hb dX11_world_6 (by decide) ?_
  refine lv_icmp_eq (tgt := 77) hx hb dX11_world_8 (by decide) (fun c2 => ?_) (fun c2 => ?_)
  · skip
    have c2 := i_eq (Eq.refl v1.toInt) (show (40 : Int32).toInt = 40 by decide) c2
    refine lv_iconst (v := (-1)) hx hb dX11_world_77 (by decide) ?_
    refine W.widen (k := 0) (n := 0) (Nat.le_of_ble_eq_true rfl) (Nat.le_of_ble_eq_true rfl) ?_
    have zim1 : ((-1) : Int32).toInt = -1 := by decide
    exact W.iret (v := (-1)) hx hb hr (fun t ht hW => ⟨⟨((-1), (F 0)), rfl, ⟨hk0, hk2, (show (((((2 ≤ p2.toInt ∧ p2.toInt ≤ 599) ∧ (0 ≤ p3.toInt ∧ p3.toInt ≤ 599) ∧ (1 ≤ p4.toInt ∧ p4.toInt ≤ 30) ∧ p4.toInt < p2.toInt ∧ (1 ≤ p5.toInt ∧ p5.toInt ≤ 30000)) ∧ (0 ≤ p1.toInt ∧ p1.toInt < ((F 0) 0).toInt) ∧ ((F 0) 1).toInt < 40) ∧ ((-1) : Int32).toInt = ((F 0) 1).toInt ∧ KC 1 (F 0) (F 0)) ∨ (¬ (((2 ≤ p2.toInt ∧ p2.toInt ≤ 599) ∧ (0 ≤ p3.toInt ∧ p3.toInt ≤ 599) ∧ (1 ≤ p4.toInt ∧ p4.toInt ≤ 30) ∧ p4.toInt < p2.toInt ∧ (1 ≤ p5.toInt ∧ p5.toInt ≤ 30000)) ∧ (0 ≤ p1.toInt ∧ p1.toInt < ((F 0) 0).toInt) ∧ ((F 0) 1).toInt < 40) ∧ ((-1) : Int32).toInt = -1 ∧ KS (F 0) (F 0))) from (Or.inr ⟨by omega, by decide, hk1⟩))⟩, CB.mk ht hP hD⟩, hS.F ht⟩) hS.2.2 dX11_world_78
  · skip
    have c2 := i_ne (Eq.refl v1.toInt) (show (40 : Int32).toInt = 40 by decide) c2
    refine lv_aload_n hx hb dX11_world_11 rfl (lv_at hl 0 rfl) ?_
    refine lv_iload_n hx hb dX11_world_12 rfl (lv_at hl 1 rfl) ?_
    refine cga (rn_V (As := [.int p1]) (rest := []) (b := o) (m_isStar l D Y Z H.size o a I J F G  p1 hk0) ⟨hx, hb, hml, hown, hg⟩ lk_X11_108 ⟨CP.blind, va_recv hKN.1 hP (ci := 11) (q0 := 0) rfl rfl, CP.at hP hKN hD⟩ ⟨⟨rfl, rfl⟩, ⟨Nat.le_of_ble_eq_true rfl, Nat.le_of_ble_eq_true rfl⟩, ⟨Nat.le_of_ble_eq_true rfl, Nat.le_of_ble_eq_true rfl⟩⟩ hl.1 rfl (Nat.le_of_ble_eq_true rfl) dX11_world_13) hP hD hS hA (fun u3 H locs w4 hP hD hS => ?_)
    obtain ⟨hw6, hw7⟩ : ((0 ≤ p1.toInt ∧ p1.toInt ≤ 11 ∧ p1.toInt < ((F 0) 0).toInt ∧ u3.toInt = 1) ∨ (¬ (0 ≤ p1.toInt ∧ p1.toInt < ((F 0) 0).toInt) ∧ u3.toInt = 0)) ∧ (0 ≤ u3.toInt ∧ u3.toInt ≤ 1) := w4
    refine W.eq (g2 := F0 m 16 ls [.int u3]) rfl ?_
    have hP : va_P D vwCl (MW Y o a I J F G) H := hP
    have hD : va_D A (MW Y o a I J F G) := hD
    rcases (show u3.toInt = 1 ∨ u3.toInt = 0 by omega) with c8 | c8
    · obtain rfl : u3 = 1 := i_is c8 (by decide)
      have zi1 : (1 : Int32).toInt = 1 := by decide
      refine W.eq (g2 := F0 m 16 ls [.int 1]) rfl ?_
      refine lv_if_eq (tgt := 77) hx hb dX11_world_16 (by decide) (fun c9 => ?_) (fun c9 => ?_)
      · exact absurd c9 (by decide)
      refine lv_iload_n hx hb dX11_world_19 rfl (lv_at hl 2 rfl) ?_
      have j10 := rgI p2
      have j11 := Int32.toInt_toInt64 p2
      refine lv_i2l (v := p2.toInt64) hx hb dX11_world_20 (rfl) ?_
      refine lv_ldc2 (v := 2) hx hb hown (hg _ kw_1443) dX11_world_21 ?_
      refine lv_ldc2 (v := 599) hx hb hown (hg _ kw_1444) dX11_world_24 ?_
      have zl2 : (2 : Int64).toInt = 2 := by decide
      have zl599 : (599 : Int64).toInt = 599 := by decide
      refine cg0 (rn_S (As := [.long p2.toInt64, .long 2, .long 599]) (rest := []) (m_in l D Y Z H.size   p2.toInt64 2 599 ) ⟨hx, hb, hml, hown, hg⟩ lk_X11_99 ⟨CP.blind, CP.at nilP hKN (nilD (A := fun _ => True))⟩ ⟨⟨rfl, rfl⟩, ⟨Nat.le_of_ble_eq_true rfl, Nat.le_of_ble_eq_true rfl⟩, ⟨Nat.le_of_ble_eq_true rfl, Nat.le_of_ble_eq_true rfl⟩⟩ hl.1 rfl (Nat.le_of_ble_eq_true rfl) dX11_world_27) hP hS hA (fun u12 H locs w13 hP hS => ?_)
      obtain ⟨hw15, hw16⟩ : (((2 : Int64).toInt ≤ p2.toInt64.toInt ∧ p2.toInt64.toInt ≤ (599 : Int64).toInt ∧ u12.toInt = 1) ∨ (¬ ((2 : Int64).toInt ≤ p2.toInt64.toInt ∧ p2.toInt64.toInt ≤ (599 : Int64).toInt) ∧ u12.toInt = 0)) ∧ (0 ≤ u12.toInt ∧ u12.toInt ≤ 1) := w13
      refine W.eq (g2 := F0 m 30 ls [.int u12]) rfl ?_
      rcases (show u12.toInt = 1 ∨ u12.toInt = 0 by omega) with c17 | c17
      · obtain rfl : u12 = 1 := i_is c17 (by decide)
        refine W.eq (g2 := F0 m 30 ls [.int 1]) rfl ?_
        refine lv_if_eq (tgt := 77) hx hb dX11_world_30 (by decide) (fun c18 => ?_) (fun c18 => ?_)
        · exact absurd c18 (by decide)
        refine lv_iload_n hx hb dX11_world_33 rfl (lv_at hl 3 rfl) ?_
        have j19 := rgI p3
        have j20 := Int32.toInt_toInt64 p3
        refine lv_i2l (v := p3.toInt64) hx hb dX11_world_34 (rfl) ?_
        refine lv_lconst (v := 0) hx hb dX11_world_35 (by decide) ?_
        refine lv_ldc2 (v := 599) hx hb hown (hg _ kw_1444) dX11_world_36 ?_
        have zl0 : (0 : Int64).toInt = 0 := by decide
        refine cg0 (rn_S (As := [.long p3.toInt64, .long 0, .long 599]) (rest := []) (m_in l D Y Z H.size   p3.toInt64 0 599 ) ⟨hx, hb, hml, hown, hg⟩ lk_X11_99 ⟨CP.blind, CP.at nilP hKN (nilD (A := fun _ => True))⟩ ⟨⟨rfl, rfl⟩, ⟨Nat.le_of_ble_eq_true rfl, Nat.le_of_ble_eq_true rfl⟩, ⟨Nat.le_of_ble_eq_true rfl, Nat.le_of_ble_eq_true rfl⟩⟩ hl.1 rfl (Nat.le_of_ble_eq_true rfl) dX11_world_39) hP hS hA (fun u21 H locs w22 hP hS => ?_)
        obtain ⟨hw24, hw25⟩ : (((0 : Int64).toInt ≤ p3.toInt64.toInt ∧ p3.toInt64.toInt ≤ (599 : Int64).toInt ∧ u21.toInt = 1) ∨ (¬ ((0 : Int64).toInt ≤ p3.toInt64.toInt ∧ p3.toInt64.toInt ≤ (599 : Int64).toInt) ∧ u21.toInt = 0)) ∧ (0 ≤ u21.toInt ∧ u21.toInt ≤ 1) := w22
        refine W.eq (g2 := F0 m 42 ls [.int u21]) rfl ?_
        rcases (show u21.toInt = 1 ∨ u21.toInt = 0 by omega) with c26 | c26
        · obtain rfl : u21 = 1 := i_is c26 (by decide)
          refine W.eq (g2 := F0 m 42 ls [.int 1]) rfl ?_
          refine lv_if_eq (tgt := 77) hx hb dX11_world_42 (by decide) (fun c27 => ?_) (fun c27 => ?_)
          · exact absurd c27 (by decide)
          refine lv_iload hx hb dX11_world_45 (lv_at hl 4 rfl) ?_
          have j28 := rgI p4
          have j29 := Int32.toInt_toInt64 p4
          refine lv_i2l (v := p4.toInt64) hx hb dX11_world_47 (rfl) ?_
          refine lv_lconst (v := 1) hx hb dX11_world_48 (by decide) ?_
          refine lv_ldc2 (v := 30) hx hb hown (hg _ kw_1445) dX11_world_49 ?_
          have zl1 : (1 : Int64).toInt = 1 := by decide
          have zl30 : (30 : Int64).toInt = 30 := by decide
          refine cg0 (rn_S (As := [.long p4.toInt64, .long 1, .long 30]) (rest := []) (m_in l D Y Z H.size   p4.toInt64 1 30 ) ⟨hx, hb, hml, hown, hg⟩ lk_X11_99 ⟨CP.blind, CP.at nilP hKN (nilD (A := fun _ => True))⟩ ⟨⟨rfl, rfl⟩, ⟨Nat.le_of_ble_eq_true rfl, Nat.le_of_ble_eq_true rfl⟩, ⟨Nat.le_of_ble_eq_true rfl, Nat.le_of_ble_eq_true rfl⟩⟩ hl.1 rfl (Nat.le_of_ble_eq_true rfl) dX11_world_52) hP hS hA (fun u30 H locs w31 hP hS => ?_)
          obtain ⟨hw33, hw34⟩ : (((1 : Int64).toInt ≤ p4.toInt64.toInt ∧ p4.toInt64.toInt ≤ (30 : Int64).toInt ∧ u30.toInt = 1) ∨ (¬ ((1 : Int64).toInt ≤ p4.toInt64.toInt ∧ p4.toInt64.toInt ≤ (30 : Int64).toInt) ∧ u30.toInt = 0)) ∧ (0 ≤ u30.toInt ∧ u30.toInt ≤ 1) := w31
          refine W.eq (g2 := F0 m 55 ls [.int u30]) rfl ?_
          rcases (show u30.toInt = 1 ∨ u30.toInt = 0 by omega) with c35 | c35
          · obtain rfl : u30 = 1 := i_is c35 (by decide)
            refine W.eq (g2 := F0 m 55 ls [.int 1]) rfl ?_
            refine lv_if_eq (tgt := 77) hx hb dX11_world_55 (by decide) (fun c36 => ?_) (fun c36 => ?_)
            · exact absurd c36 (by decide)
            refine lv_iload hx hb dX11_world_58 (lv_at hl 4 rfl) ?_
            refine lv_iload_n hx hb dX11_world_60 rfl (lv_at hl 2 rfl) ?_
            refine lv_icmp_ge (tgt := 77) hx hb dX11_world_61 (by decide) (fun c37 => ?_) (fun c37 => ?_)
            · skip
              have c37 := i_le (Eq.refl p2.toInt) (Eq.refl p4.toInt) c37
              refine lv_iconst (v := (-1)) hx hb dX11_world_77 (by decide) ?_
              refine W.widen (k := 0) (n := 0) (Nat.le_of_ble_eq_true rfl) (Nat.le_of_ble_eq_true rfl) ?_
              have zim1 : ((-1) : Int32).toInt = -1 := by decide
              exact W.iret (v := (-1)) hx hb hr (fun t ht hW => ⟨⟨((-1), (F 0)), rfl, ⟨hk0, hk2, (show (((((2 ≤ p2.toInt ∧ p2.toInt ≤ 599) ∧ (0 ≤ p3.toInt ∧ p3.toInt ≤ 599) ∧ (1 ≤ p4.toInt ∧ p4.toInt ≤ 30) ∧ p4.toInt < p2.toInt ∧ (1 ≤ p5.toInt ∧ p5.toInt ≤ 30000)) ∧ (0 ≤ p1.toInt ∧ p1.toInt < ((F 0) 0).toInt) ∧ ((F 0) 1).toInt < 40) ∧ ((-1) : Int32).toInt = ((F 0) 1).toInt ∧ KC 1 (F 0) (F 0)) ∨ (¬ (((2 ≤ p2.toInt ∧ p2.toInt ≤ 599) ∧ (0 ≤ p3.toInt ∧ p3.toInt ≤ 599) ∧ (1 ≤ p4.toInt ∧ p4.toInt ≤ 30) ∧ p4.toInt < p2.toInt ∧ (1 ≤ p5.toInt ∧ p5.toInt ≤ 30000)) ∧ (0 ≤ p1.toInt ∧ p1.toInt < ((F 0) 0).toInt) ∧ ((F 0) 1).toInt < 40) ∧ ((-1) : Int32).toInt = -1 ∧ KS (F 0) (F 0))) from (Or.inr ⟨by omega, by decide, hk1⟩))⟩, CB.mk ht hP hD⟩, hS.F ht⟩) hS.2.2 dX11_world_78
            · skip
              have c37 := i_nle (Eq.refl p2.toInt) (Eq.refl p4.toInt) c37
              refine lv_iload hx hb dX11_world_64 (lv_at hl 5 rfl) ?_
              have j38 := rgI p5
              have j39 := Int32.toInt_toInt64 p5
              refine lv_i2l (v := p5.toInt64) hx hb dX11_world_66 (rfl) ?_
              refine lv_lconst (v := 1) hx hb dX11_world_67 (by decide) ?_
              refine lv_ldc2 (v := 30000) hx hb hown (hg _ kw_1380) dX11_world_68 ?_
              have zl30000 : (30000 : Int64).toInt = 30000 := by decide
              refine cg0 (rn_S (As := [.long p5.toInt64, .long 1, .long 30000]) (rest := []) (m_in l D Y Z H.size   p5.toInt64 1 30000 ) ⟨hx, hb, hml, hown, hg⟩ lk_X11_99 ⟨CP.blind, CP.at nilP hKN (nilD (A := fun _ => True))⟩ ⟨⟨rfl, rfl⟩, ⟨Nat.le_of_ble_eq_true rfl, Nat.le_of_ble_eq_true rfl⟩, ⟨Nat.le_of_ble_eq_true rfl, Nat.le_of_ble_eq_true rfl⟩⟩ hl.1 rfl (Nat.le_of_ble_eq_true rfl) dX11_world_71) hP hS hA (fun u40 H locs w41 hP hS => ?_)
              obtain ⟨hw43, hw44⟩ : (((1 : Int64).toInt ≤ p5.toInt64.toInt ∧ p5.toInt64.toInt ≤ (30000 : Int64).toInt ∧ u40.toInt = 1) ∨ (¬ ((1 : Int64).toInt ≤ p5.toInt64.toInt ∧ p5.toInt64.toInt ≤ (30000 : Int64).toInt) ∧ u40.toInt = 0)) ∧ (0 ≤ u40.toInt ∧ u40.toInt ≤ 1) := w41
              refine W.eq (g2 := F0 m 74 ls [.int u40]) rfl ?_
              rcases (show u40.toInt = 1 ∨ u40.toInt = 0 by omega) with c45 | c45
              · obtain rfl : u40 = 1 := i_is c45 (by decide)
                refine W.eq (g2 := F0 m 74 ls [.int 1]) rfl ?_
                refine lv_if_ne (tgt := 79) hx hb dX11_world_74 (by decide) (fun c46 => ?_) (fun c46 => ?_)
                rotate_left
                · exact absurd c46 (by decide)
                refine lv_bipush (v := 39) hx hb dX11_world_79 (by decide) ?_
                refine lv_bipush (v := 6) hx hb dX11_world_81 (by decide) ?_
                refine lv_aload_n hx hb dX11_world_83 rfl (lv_at hl 0 rfl) ?_
                refine va_get (D := D) (ci := 11) (v := .ref (a 0)) (C := RX11) (T := TX11) (N := 49) hx hb hg inGX11 hown hKN.1 hP 0 rfl rfl 0 (by decide) (hg _ kw_1208) (fun _ h9 => h9) rfl dX11_world_84 ?_
                refine lv_iconst (v := 1) hx hb dX11_world_87 (by decide) ?_
                refine va_iald hx hb hKN.1 hP 1 0 rfl rfl (show ¬ ((1 : Int32) < 0 ∨ 7533 ≤ (1 : Int32).toNatClampNeg) by decide) dX11_world_88 ?_
                refine lv_topi (fun v47 ev47 => ?_)
                have ev47 : v47 = (F 0) 1 := ev47
                have kv47 := TO_1 hk0
                rw [← ev47] at kv47
                have qv47 := congrArg Int32.toInt ev47
                refine lv_imul hx hb dX11_world_89 ?_
                refine lv_topi (fun v48 ev48 => ?_)
                have hv48 := i_mul (show (6 : Int32).toInt = 6 by decide) (Eq.refl v47.toInt) ev48 (by omega) (by omega)
                refine lv_iadd hx hb dX11_world_90 ?_
                refine lv_topi (fun v49 ev49 => ?_)
                have hv49 := i_add (show (39 : Int32).toInt = 39 by decide) (Eq.refl v48.toInt) ev49 (by omega) (by omega)
                refine lv_istore (lv' := [(7, .int v49), (0, .ref o), (1, .int p1), (2, .int p2), (3, .int p3), (4, .int p4), (5, .int p5), (6, .int p6)]) hx hb dX11_world_91 hl (by decide) rfl (fun ls hl => ?_)
                refine lv_aload_n hx hb dX11_world_93 rfl (lv_at hl 1 rfl) ?_
                refine va_get (D := D) (ci := 11) (v := .ref (a 0)) (C := RX11) (T := TX11) (N := 49) hx hb hg inGX11 hown hKN.1 hP 0 rfl rfl 0 (by decide) (hg _ kw_1208) (fun _ h9 => h9) rfl dX11_world_94 ?_
                refine lv_iload hx hb dX11_world_97 (lv_at hl 0 rfl) ?_
                refine lv_iload_n hx hb dX11_world_99 rfl (lv_at hl 2 rfl) ?_
                refine va_iast hx hb hKN.1 hP hD hS 1 0 rfl rfl (vp_in_iff.mpr ⟨by omega, by omega⟩) dX11_world_100 (fun H locs hP hD hS => ?_)
                obtain ⟨f50, ef50, hP, hD⟩ : ∃ f50 : Nat → Int32, f50 = upd (F 0) v49.toNatClampNeg p1 ∧ va_P D vwCl (MW Y o a I J (vf_upd F 0 f50) G) H ∧ va_D A (MW Y o a I J (vf_upd F 0 f50) G) := ⟨_, rfl, hP, hD⟩
                have ct51 := clampI (x := v49) (by omega)
                have t51 : TO f50 := by rw [ef50]; exact TO_set hk0 (by unfold trow; omega) (by omega) (by omega) (by omega) (by omega)
                have ct52 := clampI (x := v49) (by omega)
                have t52 : KS (F 0) f50 := KS_set hk1 ef50 (by omega) (by omega)
                have ct53 := clampI (x := v49) (by omega)
                have t53 : KD (F 0) f50 := KD_set hk2 ef50 (by omega) (by omega)
                have t54 : (f50 (1)).toInt = ((F 0) (1)).toInt := by rw [ef50, up_ne (by omega)]
                refine lv_aload_n hx hb dX11_world_101 rfl (lv_at hl 1 rfl) ?_
                refine va_get (D := D) (ci := 11) (v := .ref (a 0)) (C := RX11) (T := TX11) (N := 49) hx hb hg inGX11 hown hKN.1 hP 0 rfl rfl 0 (by decide) (hg _ kw_1208) (fun _ h9 => h9) rfl dX11_world_102 ?_
                refine lv_iload hx hb dX11_world_105 (lv_at hl 0 rfl) ?_
                refine lv_iconst (v := 1) hx hb dX11_world_107 (by decide) ?_
                refine lv_iadd hx hb dX11_world_108 ?_
                refine lv_topi (fun v55 ev55 => ?_)
                have hv55 := i_add (Eq.refl v49.toInt) (show (1 : Int32).toInt = 1 by decide) ev55 (by omega) (by omega)
                refine lv_iload_n hx hb dX11_world_109 rfl (lv_at hl 3 rfl) ?_
                refine va_iast hx hb hKN.1 hP hD hS 1 0 rfl rfl (vp_in_iff.mpr ⟨by omega, by omega⟩) dX11_world_110 (fun H locs hP hD hS => ?_)
                obtain ⟨f56, ef56, hP, hD⟩ : ∃ f56 : Nat → Int32, f56 = upd f50 v55.toNatClampNeg p2 ∧ va_P D vwCl (MW Y o a I J (vf_upd F 0 f56) G) H ∧ va_D A (MW Y o a I J (vf_upd F 0 f56) G) := ⟨_, rfl, hP, hD⟩
                have ct57 := clampI (x := v55) (by omega)
                have t57 : TO f56 := by rw [ef56]; exact TO_set t51 (by unfold trow; omega) (by omega) (by omega) (by omega) (by omega)
                have ct58 := clampI (x := v55) (by omega)
                have t58 : KS (F 0) f56 := KS_set t52 ef56 (by omega) (by omega)
                have ct59 := clampI (x := v55) (by omega)
                have t59 : KD (F 0) f56 := KD_set t53 ef56 (by omega) (by omega)
                have t60 : (f56 (1)).toInt = (f50 (1)).toInt := by rw [ef56, up_ne (by omega)]
                have t61 : (f56 (40 + 6 * (F 0 1).toInt.toNat)).toInt = p2.toInt := by rw [ef56, up_eq (by omega)]
                refine lv_aload_n hx hb dX11_world_111 rfl (lv_at hl 1 rfl) ?_
                refine va_get (D := D) (ci := 11) (v := .ref (a 0)) (C := RX11) (T := TX11) (N := 49) hx hb hg inGX11 hown hKN.1 hP 0 rfl rfl 0 (by decide) (hg _ kw_1208) (fun _ h9 => h9) rfl dX11_world_112 ?_
                refine lv_iload hx hb dX11_world_115 (lv_at hl 0 rfl) ?_
                refine lv_iconst (v := 2) hx hb dX11_world_117 (by decide) ?_
                refine lv_iadd hx hb dX11_world_118 ?_
                refine lv_topi (fun v62 ev62 => ?_)
                have hv62 := i_add (Eq.refl v49.toInt) (show (2 : Int32).toInt = 2 by decide) ev62 (by omega) (by omega)
                refine lv_iload_n hx hb dX11_world_119 rfl (lv_at hl 4 rfl) ?_
                refine va_iast hx hb hKN.1 hP hD hS 1 0 rfl rfl (vp_in_iff.mpr ⟨by omega, by omega⟩) dX11_world_120 (fun H locs hP hD hS => ?_)
                obtain ⟨f63, ef63, hP, hD⟩ : ∃ f63 : Nat → Int32, f63 = upd f56 v62.toNatClampNeg p3 ∧ va_P D vwCl (MW Y o a I J (vf_upd F 0 f63) G) H ∧ va_D A (MW Y o a I J (vf_upd F 0 f63) G) := ⟨_, rfl, hP, hD⟩
                have ct64 := clampI (x := v62) (by omega)
                have t64 : TO f63 := by rw [ef63]; exact TO_set t57 (by unfold trow; omega) (by omega) (by omega) (by omega) (by omega)
                have ct65 := clampI (x := v62) (by omega)
                have t65 : KS (F 0) f63 := KS_set t58 ef63 (by omega) (by omega)
                have ct66 := clampI (x := v62) (by omega)
                have t66 : KD (F 0) f63 := KD_set t59 ef63 (by omega) (by omega)
                have t67 : (f63 (1)).toInt = (f56 (1)).toInt := by rw [ef63, up_ne (by omega)]
                have t68 : (f63 (40 + 6 * (F 0 1).toInt.toNat)).toInt = (f56 (40 + 6 * (F 0 1).toInt.toNat)).toInt := by rw [ef63, up_ne (by omega)]
                refine lv_aload_n hx hb dX11_world_121 rfl (lv_at hl 1 rfl) ?_
                refine va_get (D := D) (ci := 11) (v := .ref (a 0)) (C := RX11) (T := TX11) (N := 49) hx hb hg inGX11 hown hKN.1 hP 0 rfl rfl 0 (by decide) (hg _ kw_1208) (fun _ h9 => h9) rfl dX11_world_122 ?_
                refine lv_iload hx hb dX11_world_125 (lv_at hl 0 rfl) ?_
                refine lv_iconst (v := 3) hx hb dX11_world_127 (by decide) ?_
                refine lv_iadd hx hb dX11_world_128 ?_
                refine lv_topi (fun v69 ev69 => ?_)
                have hv69 := i_add (Eq.refl v49.toInt) (show (3 : Int32).toInt = 3 by decide) ev69 (by omega) (by omega)
                refine lv_iload hx hb dX11_world_129 (lv_at hl 5 rfl) ?_
                refine va_iast hx hb hKN.1 hP hD hS 1 0 rfl rfl (vp_in_iff.mpr ⟨by omega, by omega⟩) dX11_world_131 (fun H locs hP hD hS => ?_)
                obtain ⟨f70, ef70, hP, hD⟩ : ∃ f70 : Nat → Int32, f70 = upd f63 v69.toNatClampNeg p4 ∧ va_P D vwCl (MW Y o a I J (vf_upd F 0 f70) G) H ∧ va_D A (MW Y o a I J (vf_upd F 0 f70) G) := ⟨_, rfl, hP, hD⟩
                have ct71 := clampI (x := v69) (by omega)
                have t71 : TO f70 := by rw [ef70]; exact TO_set t64 (by unfold trow; omega) (by omega) (by omega) (by omega) (by omega)
                have ct72 := clampI (x := v69) (by omega)
                have t72 : KS (F 0) f70 := KS_set t65 ef70 (by omega) (by omega)
                have ct73 := clampI (x := v69) (by omega)
                have t73 : KD (F 0) f70 := KD_set t66 ef70 (by omega) (by omega)
                have t74 : (f70 (1)).toInt = (f63 (1)).toInt := by rw [ef70, up_ne (by omega)]
                have t75 : (f70 (40 + 6 * (F 0 1).toInt.toNat)).toInt = (f63 (40 + 6 * (F 0 1).toInt.toNat)).toInt := by rw [ef70, up_ne (by omega)]
                refine lv_aload_n hx hb dX11_world_132 rfl (lv_at hl 1 rfl) ?_
                refine va_get (D := D) (ci := 11) (v := .ref (a 0)) (C := RX11) (T := TX11) (N := 49) hx hb hg inGX11 hown hKN.1 hP 0 rfl rfl 0 (by decide) (hg _ kw_1208) (fun _ h9 => h9) rfl dX11_world_133 ?_
                refine lv_iload hx hb dX11_world_136 (lv_at hl 0 rfl) ?_
                refine lv_iconst (v := 4) hx hb dX11_world_138 (by decide) ?_
                refine lv_iadd hx hb dX11_world_139 ?_
                refine lv_topi (fun v76 ev76 => ?_)
                have hv76 := i_add (Eq.refl v49.toInt) (show (4 : Int32).toInt = 4 by decide) ev76 (by omega) (by omega)
                refine lv_iload hx hb dX11_world_140 (lv_at hl 6 rfl) ?_
                refine va_iast hx hb hKN.1 hP hD hS 1 0 rfl rfl (vp_in_iff.mpr ⟨by omega, by omega⟩) dX11_world_142 (fun H locs hP hD hS => ?_)
                obtain ⟨f77, ef77, hP, hD⟩ : ∃ f77 : Nat → Int32, f77 = upd f70 v76.toNatClampNeg p5 ∧ va_P D vwCl (MW Y o a I J (vf_upd F 0 f77) G) H ∧ va_D A (MW Y o a I J (vf_upd F 0 f77) G) := ⟨_, rfl, hP, hD⟩
                have ct78 := clampI (x := v76) (by omega)
                have t78 : TO f77 := by rw [ef77]; exact TO_set t71 (by unfold trow; omega) (by omega) (by omega) (by omega) (by omega)
                have ct79 := clampI (x := v76) (by omega)
                have t79 : KS (F 0) f77 := KS_set t72 ef77 (by omega) (by omega)
                have ct80 := clampI (x := v76) (by omega)
                have t80 : KD (F 0) f77 := KD_set t73 ef77 (by omega) (by omega)
                have t81 : (f77 (1)).toInt = (f70 (1)).toInt := by rw [ef77, up_ne (by omega)]
                have t82 : (f77 (40 + 6 * (F 0 1).toInt.toNat)).toInt = (f70 (40 + 6 * (F 0 1).toInt.toNat)).toInt := by rw [ef77, up_ne (by omega)]
                refine lv_aload_n hx hb dX11_world_143 rfl (lv_at hl 1 rfl) ?_
                refine va_get (D := D) (ci := 11) (v := .ref (a 0)) (C := RX11) (T := TX11) (N := 49) hx hb hg inGX11 hown hKN.1 hP 0 rfl rfl 0 (by decide) (hg _ kw_1208) (fun _ h9 => h9) rfl dX11_world_144 ?_
                refine lv_iload hx hb dX11_world_147 (lv_at hl 0 rfl) ?_
                refine lv_iconst (v := 5) hx hb dX11_world_149 (by decide) ?_
                refine lv_iadd hx hb dX11_world_150 ?_
                refine lv_topi (fun v83 ev83 => ?_)
                have hv83 := i_add (Eq.refl v49.toInt) (show (5 : Int32).toInt = 5 by decide) ev83 (by omega) (by omega)
                refine lv_iload hx hb dX11_world_151 (lv_at hl 7 rfl) ?_
                have j84 := rgI p6
                refine lv_if_eq (tgt := 160) hx hb dX11_world_153 (by decide) (fun c85 => ?_) (fun c85 => ?_)
                · skip
                  have c85 := i_eq (Eq.refl p6.toInt) (show (0 : Int32).toInt = 0 by decide) c85
                  refine lv_iconst (v := 0) hx hb dX11_world_160 (by decide) ?_
                  refine va_iast hx hb hKN.1 hP hD hS 1 0 rfl rfl (vp_in_iff.mpr ⟨by omega, by omega⟩) dX11_world_161 (fun H locs hP hD hS => ?_)
                  obtain ⟨f86, ef86, hP, hD⟩ : ∃ f86 : Nat → Int32, f86 = upd f77 v83.toNatClampNeg 0 ∧ va_P D vwCl (MW Y o a I J (vf_upd F 0 f86) G) H ∧ va_D A (MW Y o a I J (vf_upd F 0 f86) G) := ⟨_, rfl, hP, hD⟩
                  have zi0 : (0 : Int32).toInt = 0 := by decide
                  have ct87 := clampI (x := v83) (by omega)
                  have t87 : TO f86 := by rw [ef86]; exact TO_set t78 (by unfold trow; omega) (by omega) (by omega) (by omega) (by omega)
                  have ct88 := clampI (x := v83) (by omega)
                  have t88 : KS (F 0) f86 := KS_set t79 ef86 (by omega) (by omega)
                  have ct89 := clampI (x := v83) (by omega)
                  have t89 : KD (F 0) f86 := KD_set t80 ef86 (by omega) (by omega)
                  have t90 : (f86 (1)).toInt = (f77 (1)).toInt := by rw [ef86, up_ne (by omega)]
                  have t91 : (f86 (40 + 6 * (F 0 1).toInt.toNat)).toInt = (f77 (40 + 6 * (F 0 1).toInt.toNat)).toInt := by rw [ef86, up_ne (by omega)]
                  refine lv_aload_n hx hb dX11_world_162 rfl (lv_at hl 1 rfl) ?_
                  refine va_get (D := D) (ci := 11) (v := .ref (a 0)) (C := RX11) (T := TX11) (N := 49) hx hb hg inGX11 hown hKN.1 hP 0 rfl rfl 0 (by decide) (hg _ kw_1208) (fun _ h9 => h9) rfl dX11_world_163 ?_
                  refine lv_iconst (v := 1) hx hb dX11_world_166 (by decide) ?_
                  refine lv_dup2_11 hx hb dX11_world_167 rfl rfl ?_
                  refine va_iald hx hb hKN.1 hP 1 0 rfl rfl (show ¬ ((1 : Int32) < 0 ∨ 7533 ≤ (1 : Int32).toNatClampNeg) by decide) dX11_world_168 ?_
                  refine lv_topi (fun v92 ev92 => ?_)
                  have ev92 : v92 = f86 1 := ev92
                  have kv92 := TO_1 t87
                  rw [← ev92] at kv92
                  have qv92 := congrArg Int32.toInt ev92
                  refine lv_iconst (v := 1) hx hb dX11_world_169 (by decide) ?_
                  refine lv_iadd hx hb dX11_world_170 ?_
                  refine lv_topi (fun v93 ev93 => ?_)
                  have hv93 := i_add (Eq.refl v92.toInt) (show (1 : Int32).toInt = 1 by decide) ev93 (by omega) (by omega)
                  refine va_iast hx hb hKN.1 hP hD hS 1 0 rfl rfl (show ¬ ((1 : Int32) < 0 ∨ 7533 ≤ (1 : Int32).toNatClampNeg) by decide) dX11_world_171 (fun H locs hP hD hS => ?_)
                  obtain ⟨f94, ef94, hP, hD⟩ : ∃ f94 : Nat → Int32, f94 = upd f86 1 v93 ∧ va_P D vwCl (MW Y o a I J (vf_upd F 0 f94) G) H ∧ va_D A (MW Y o a I J (vf_upd F 0 f94) G) := ⟨_, rfl, hP, hD⟩
                  have t95 : TO f94 := by rw [ef94]; exact TO_cnt1n t87 (n := (F 0 1).toInt) (by omega) (by omega) (by omega) (by omega)
                  have t97 : KD (F 0) f94 := KD_set t89 ef94 (by omega) (by omega)
                  have t98 : (f94 (1)).toInt = v93.toInt := by rw [ef94, up_eq (by omega)]
                  refine lv_aload_n hx hb dX11_world_172 rfl (lv_at hl 1 rfl) ?_
                  refine va_get (D := D) (ci := 11) (v := .ref (a 0)) (C := RX11) (T := TX11) (N := 49) hx hb hg inGX11 hown hKN.1 hP 0 rfl rfl 0 (by decide) (hg _ kw_1208) (fun _ h9 => h9) rfl dX11_world_173 ?_
                  refine lv_iconst (v := 1) hx hb dX11_world_176 (by decide) ?_
                  refine va_iald hx hb hKN.1 hP 1 0 rfl rfl (show ¬ ((1 : Int32) < 0 ∨ 7533 ≤ (1 : Int32).toNatClampNeg) by decide) dX11_world_177 ?_
                  refine lv_topi (fun v99 ev99 => ?_)
                  have ev99 : v99 = f94 1 := ev99
                  have kv99 := TO_1 t95
                  rw [← ev99] at kv99
                  have qv99 := congrArg Int32.toInt ev99
                  refine lv_iconst (v := 1) hx hb dX11_world_178 (by decide) ?_
                  refine lv_isub hx hb dX11_world_179 ?_
                  refine lv_topi (fun v100 ev100 => ?_)
                  have hv100 := i_sub (Eq.refl v99.toInt) (show (1 : Int32).toInt = 1 by decide) ev100 (by omega) (by omega)
                  refine W.widen (k := 0) (n := 0) (Nat.le_of_ble_eq_true rfl) (Nat.le_of_ble_eq_true rfl) ?_
                  exact W.iret (v := v100) hx hb hr (fun t ht hW => ⟨⟨(v100, f94), rfl, ⟨t95, t97, (show (((((2 ≤ p2.toInt ∧ p2.toInt ≤ 599) ∧ (0 ≤ p3.toInt ∧ p3.toInt ≤ 599) ∧ (1 ≤ p4.toInt ∧ p4.toInt ≤ 30) ∧ p4.toInt < p2.toInt ∧ (1 ≤ p5.toInt ∧ p5.toInt ≤ 30000)) ∧ (0 ≤ p1.toInt ∧ p1.toInt < ((F 0) 0).toInt) ∧ ((F 0) 1).toInt < 40) ∧ v100.toInt = ((F 0) 1).toInt ∧ KC 1 (F 0) f94) ∨ (¬ (((2 ≤ p2.toInt ∧ p2.toInt ≤ 599) ∧ (0 ≤ p3.toInt ∧ p3.toInt ≤ 599) ∧ (1 ≤ p4.toInt ∧ p4.toInt ≤ 30) ∧ p4.toInt < p2.toInt ∧ (1 ≤ p5.toInt ∧ p5.toInt ≤ 30000)) ∧ (0 ≤ p1.toInt ∧ p1.toInt < ((F 0) 0).toInt) ∧ ((F 0) 1).toInt < 40) ∧ v100.toInt = -1 ∧ KS (F 0) f94)) from (Or.inl ⟨by omega, by omega, KC_of t88 ef94 (by decide) (by omega)⟩))⟩, CB.mk ht hP hD⟩, hS.F ht⟩) hS.2.2 dX11_world_180
                · skip
                  have c85 := i_ne (Eq.refl p6.toInt) (show (0 : Int32).toInt = 0 by decide) c85
                  refine lv_iconst (v := 1) hx hb dX11_world_156 (by decide) ?_
                  refine lv_goto (tgt := 161) hx hb dX11_world_157 (by decide) ?_
                  refine va_iast hx hb hKN.1 hP hD hS 1 0 rfl rfl (vp_in_iff.mpr ⟨by omega, by omega⟩) dX11_world_161 (fun H locs hP hD hS => ?_)
                  obtain ⟨f101, ef101, hP, hD⟩ : ∃ f101 : Nat → Int32, f101 = upd f77 v83.toNatClampNeg 1 ∧ va_P D vwCl (MW Y o a I J (vf_upd F 0 f101) G) H ∧ va_D A (MW Y o a I J (vf_upd F 0 f101) G) := ⟨_, rfl, hP, hD⟩
                  have ct102 := clampI (x := v83) (by omega)
                  have t102 : TO f101 := by rw [ef101]; exact TO_set t78 (by unfold trow; omega) (by omega) (by omega) (by omega) (by omega)
                  have ct103 := clampI (x := v83) (by omega)
                  have t103 : KS (F 0) f101 := KS_set t79 ef101 (by omega) (by omega)
                  have ct104 := clampI (x := v83) (by omega)
                  have t104 : KD (F 0) f101 := KD_set t80 ef101 (by omega) (by omega)
                  have t105 : (f101 (1)).toInt = (f77 (1)).toInt := by rw [ef101, up_ne (by omega)]
                  have t106 : (f101 (40 + 6 * (F 0 1).toInt.toNat)).toInt = (f77 (40 + 6 * (F 0 1).toInt.toNat)).toInt := by rw [ef101, up_ne (by omega)]
                  refine lv_aload_n hx hb dX11_world_162 rfl (lv_at hl 1 rfl) ?_
                  refine va_get (D := D) (ci := 11) (v := .ref (a 0)) (C := RX11) (T := TX11) (N := 49) hx hb hg inGX11 hown hKN.1 hP 0 rfl rfl 0 (by decide) (hg _ kw_1208) (fun _ h9 => h9) rfl dX11_world_163 ?_
                  refine lv_iconst (v := 1) hx hb dX11_world_166 (by decide) ?_
                  refine lv_dup2_11 hx hb dX11_world_167 rfl rfl ?_
                  refine va_iald hx hb hKN.1 hP 1 0 rfl rfl (show ¬ ((1 : Int32) < 0 ∨ 7533 ≤ (1 : Int32).toNatClampNeg) by decide) dX11_world_168 ?_
                  refine lv_topi (fun v107 ev107 => ?_)
                  have ev107 : v107 = f101 1 := ev107
                  have kv107 := TO_1 t102
                  rw [← ev107] at kv107
                  have qv107 := congrArg Int32.toInt ev107
                  refine lv_iconst (v := 1) hx hb dX11_world_169 (by decide) ?_
                  refine lv_iadd hx hb dX11_world_170 ?_
                  refine lv_topi (fun v108 ev108 => ?_)
                  have hv108 := i_add (Eq.refl v107.toInt) (show (1 : Int32).toInt = 1 by decide) ev108 (by omega) (by omega)
                  refine va_iast hx hb hKN.1 hP hD hS 1 0 rfl rfl (show ¬ ((1 : Int32) < 0 ∨ 7533 ≤ (1 : Int32).toNatClampNeg) by decide) dX11_world_171 (fun H locs hP hD hS => ?_)
                  obtain ⟨f109, ef109, hP, hD⟩ : ∃ f109 : Nat → Int32, f109 = upd f101 1 v108 ∧ va_P D vwCl (MW Y o a I J (vf_upd F 0 f109) G) H ∧ va_D A (MW Y o a I J (vf_upd F 0 f109) G) := ⟨_, rfl, hP, hD⟩
                  have t110 : TO f109 := by rw [ef109]; exact TO_cnt1n t102 (n := (F 0 1).toInt) (by omega) (by omega) (by omega) (by omega)
                  have t112 : KD (F 0) f109 := KD_set t104 ef109 (by omega) (by omega)
                  have t113 : (f109 (1)).toInt = v108.toInt := by rw [ef109, up_eq (by omega)]
                  refine lv_aload_n hx hb dX11_world_172 rfl (lv_at hl 1 rfl) ?_
                  refine va_get (D := D) (ci := 11) (v := .ref (a 0)) (C := RX11) (T := TX11) (N := 49) hx hb hg inGX11 hown hKN.1 hP 0 rfl rfl 0 (by decide) (hg _ kw_1208) (fun _ h9 => h9) rfl dX11_world_173 ?_
                  refine lv_iconst (v := 1) hx hb dX11_world_176 (by decide) ?_
                  refine va_iald hx hb hKN.1 hP 1 0 rfl rfl (show ¬ ((1 : Int32) < 0 ∨ 7533 ≤ (1 : Int32).toNatClampNeg) by decide) dX11_world_177 ?_
                  refine lv_topi (fun v114 ev114 => ?_)
                  have ev114 : v114 = f109 1 := ev114
                  have kv114 := TO_1 t110
                  rw [← ev114] at kv114
                  have qv114 := congrArg Int32.toInt ev114
                  refine lv_iconst (v := 1) hx hb dX11_world_178 (by decide) ?_
                  refine lv_isub hx hb dX11_world_179 ?_
                  refine lv_topi (fun v115 ev115 => ?_)
                  have hv115 := i_sub (Eq.refl v114.toInt) (show (1 : Int32).toInt = 1 by decide) ev115 (by omega) (by omega)
                  refine W.widen (k := 0) (n := 0) (Nat.le_of_ble_eq_true rfl) (Nat.le_of_ble_eq_true rfl) ?_
                  exact W.iret (v := v115) hx hb hr (fun t ht hW => ⟨⟨(v115, f109), rfl, ⟨t110, t112, (show (((((2 ≤ p2.toInt ∧ p2.toInt ≤ 599) ∧ (0 ≤ p3.toInt ∧ p3.toInt ≤ 599) ∧ (1 ≤ p4.toInt ∧ p4.toInt ≤ 30) ∧ p4.toInt < p2.toInt ∧ (1 ≤ p5.toInt ∧ p5.toInt ≤ 30000)) ∧ (0 ≤ p1.toInt ∧ p1.toInt < ((F 0) 0).toInt) ∧ ((F 0) 1).toInt < 40) ∧ v115.toInt = ((F 0) 1).toInt ∧ KC 1 (F 0) f109) ∨ (¬ (((2 ≤ p2.toInt ∧ p2.toInt ≤ 599) ∧ (0 ≤ p3.toInt ∧ p3.toInt ≤ 599) ∧ (1 ≤ p4.toInt ∧ p4.toInt ≤ 30) ∧ p4.toInt < p2.toInt ∧ (1 ≤ p5.toInt ∧ p5.toInt ≤ 30000)) ∧ (0 ≤ p1.toInt ∧ p1.toInt < ((F 0) 0).toInt) ∧ ((F 0) 1).toInt < 40) ∧ v115.toInt = -1 ∧ KS (F 0) f109)) from (Or.inl ⟨by omega, by omega, KC_of t103 ef109 (by decide) (by omega)⟩))⟩, CB.mk ht hP hD⟩, hS.F ht⟩) hS.2.2 dX11_world_180
              · obtain rfl : u40 = 0 := i_is c45 (by decide)
                have zi0 : (0 : Int32).toInt = 0 := by decide
                refine W.eq (g2 := F0 m 74 ls [.int 0]) rfl ?_
                refine lv_if_ne (tgt := 79) hx hb dX11_world_74 (by decide) (fun c116 => ?_) (fun c116 => ?_)
                · exact absurd c116 (by decide)
                refine lv_iconst (v := (-1)) hx hb dX11_world_77 (by decide) ?_
                refine W.widen (k := 0) (n := 0) (Nat.le_of_ble_eq_true rfl) (Nat.le_of_ble_eq_true rfl) ?_
                have zim1 : ((-1) : Int32).toInt = -1 := by decide
                exact W.iret (v := (-1)) hx hb hr (fun t ht hW => ⟨⟨((-1), (F 0)), rfl, ⟨hk0, hk2, (show (((((2 ≤ p2.toInt ∧ p2.toInt ≤ 599) ∧ (0 ≤ p3.toInt ∧ p3.toInt ≤ 599) ∧ (1 ≤ p4.toInt ∧ p4.toInt ≤ 30) ∧ p4.toInt < p2.toInt ∧ (1 ≤ p5.toInt ∧ p5.toInt ≤ 30000)) ∧ (0 ≤ p1.toInt ∧ p1.toInt < ((F 0) 0).toInt) ∧ ((F 0) 1).toInt < 40) ∧ ((-1) : Int32).toInt = ((F 0) 1).toInt ∧ KC 1 (F 0) (F 0)) ∨ (¬ (((2 ≤ p2.toInt ∧ p2.toInt ≤ 599) ∧ (0 ≤ p3.toInt ∧ p3.toInt ≤ 599) ∧ (1 ≤ p4.toInt ∧ p4.toInt ≤ 30) ∧ p4.toInt < p2.toInt ∧ (1 ≤ p5.toInt ∧ p5.toInt ≤ 30000)) ∧ (0 ≤ p1.toInt ∧ p1.toInt < ((F 0) 0).toInt) ∧ ((F 0) 1).toInt < 40) ∧ ((-1) : Int32).toInt = -1 ∧ KS (F 0) (F 0))) from (Or.inr ⟨by omega, by decide, hk1⟩))⟩, CB.mk ht hP hD⟩, hS.F ht⟩) hS.2.2 dX11_world_78
          · obtain rfl : u30 = 0 := i_is c35 (by decide)
            have zi0 : (0 : Int32).toInt = 0 := by decide
            refine W.eq (g2 := F0 m 55 ls [.int 0]) rfl ?_
            refine lv_if_eq (tgt := 77) hx hb dX11_world_55 (by decide) (fun c117 => ?_) (fun c117 => ?_)
            rotate_left
            · exact absurd c117 (by decide)
            refine lv_iconst (v := (-1)) hx hb dX11_world_77 (by decide) ?_
            refine W.widen (k := 0) (n := 0) (Nat.le_of_ble_eq_true rfl) (Nat.le_of_ble_eq_true rfl) ?_
            have zim1 : ((-1) : Int32).toInt = -1 := by decide
            exact W.iret (v := (-1)) hx hb hr (fun t ht hW => ⟨⟨((-1), (F 0)), rfl, ⟨hk0, hk2, (show (((((2 ≤ p2.toInt ∧ p2.toInt ≤ 599) ∧ (0 ≤ p3.toInt ∧ p3.toInt ≤ 599) ∧ (1 ≤ p4.toInt ∧ p4.toInt ≤ 30) ∧ p4.toInt < p2.toInt ∧ (1 ≤ p5.toInt ∧ p5.toInt ≤ 30000)) ∧ (0 ≤ p1.toInt ∧ p1.toInt < ((F 0) 0).toInt) ∧ ((F 0) 1).toInt < 40) ∧ ((-1) : Int32).toInt = ((F 0) 1).toInt ∧ KC 1 (F 0) (F 0)) ∨ (¬ (((2 ≤ p2.toInt ∧ p2.toInt ≤ 599) ∧ (0 ≤ p3.toInt ∧ p3.toInt ≤ 599) ∧ (1 ≤ p4.toInt ∧ p4.toInt ≤ 30) ∧ p4.toInt < p2.toInt ∧ (1 ≤ p5.toInt ∧ p5.toInt ≤ 30000)) ∧ (0 ≤ p1.toInt ∧ p1.toInt < ((F 0) 0).toInt) ∧ ((F 0) 1).toInt < 40) ∧ ((-1) : Int32).toInt = -1 ∧ KS (F 0) (F 0))) from (Or.inr ⟨by omega, by decide, hk1⟩))⟩, CB.mk ht hP hD⟩, hS.F ht⟩) hS.2.2 dX11_world_78
        · obtain rfl : u21 = 0 := i_is c26 (by decide)
          have zi0 : (0 : Int32).toInt = 0 := by decide
          refine W.eq (g2 := F0 m 42 ls [.int 0]) rfl ?_
          refine lv_if_eq (tgt := 77) hx hb dX11_world_42 (by decide) (fun c118 => ?_) (fun c118 => ?_)
          rotate_left
          · exact absurd c118 (by decide)
          refine lv_iconst (v := (-1)) hx hb dX11_world_77 (by decide) ?_
          refine W.widen (k := 0) (n := 0) (Nat.le_of_ble_eq_true rfl) (Nat.le_of_ble_eq_true rfl) ?_
          have zim1 : ((-1) : Int32).toInt = -1 := by decide
          exact W.iret (v := (-1)) hx hb hr (fun t ht hW => ⟨⟨((-1), (F 0)), rfl, ⟨hk0, hk2, (show (((((2 ≤ p2.toInt ∧ p2.toInt ≤ 599) ∧ (0 ≤ p3.toInt ∧ p3.toInt ≤ 599) ∧ (1 ≤ p4.toInt ∧ p4.toInt ≤ 30) ∧ p4.toInt < p2.toInt ∧ (1 ≤ p5.toInt ∧ p5.toInt ≤ 30000)) ∧ (0 ≤ p1.toInt ∧ p1.toInt < ((F 0) 0).toInt) ∧ ((F 0) 1).toInt < 40) ∧ ((-1) : Int32).toInt = ((F 0) 1).toInt ∧ KC 1 (F 0) (F 0)) ∨ (¬ (((2 ≤ p2.toInt ∧ p2.toInt ≤ 599) ∧ (0 ≤ p3.toInt ∧ p3.toInt ≤ 599) ∧ (1 ≤ p4.toInt ∧ p4.toInt ≤ 30) ∧ p4.toInt < p2.toInt ∧ (1 ≤ p5.toInt ∧ p5.toInt ≤ 30000)) ∧ (0 ≤ p1.toInt ∧ p1.toInt < ((F 0) 0).toInt) ∧ ((F 0) 1).toInt < 40) ∧ ((-1) : Int32).toInt = -1 ∧ KS (F 0) (F 0))) from (Or.inr ⟨by omega, by decide, hk1⟩))⟩, CB.mk ht hP hD⟩, hS.F ht⟩) hS.2.2 dX11_world_78
      · obtain rfl : u12 = 0 := i_is c17 (by decide)
        have zi0 : (0 : Int32).toInt = 0 := by decide
        refine W.eq (g2 := F0 m 30 ls [.int 0]) rfl ?_
        refine lv_if_eq (tgt := 77) hx hb dX11_world_30 (by decide) (fun c119 => ?_) (fun c119 => ?_)
        rotate_left
        · exact absurd c119 (by decide)
        refine lv_iconst (v := (-1)) hx hb dX11_world_77 (by decide) ?_
        refine W.widen (k := 0) (n := 0) (Nat.le_of_ble_eq_true rfl) (Nat.le_of_ble_eq_true rfl) ?_
        have zim1 : ((-1) : Int32).toInt = -1 := by decide
        exact W.iret (v := (-1)) hx hb hr (fun t ht hW => ⟨⟨((-1), (F 0)), rfl, ⟨hk0, hk2, (show (((((2 ≤ p2.toInt ∧ p2.toInt ≤ 599) ∧ (0 ≤ p3.toInt ∧ p3.toInt ≤ 599) ∧ (1 ≤ p4.toInt ∧ p4.toInt ≤ 30) ∧ p4.toInt < p2.toInt ∧ (1 ≤ p5.toInt ∧ p5.toInt ≤ 30000)) ∧ (0 ≤ p1.toInt ∧ p1.toInt < ((F 0) 0).toInt) ∧ ((F 0) 1).toInt < 40) ∧ ((-1) : Int32).toInt = ((F 0) 1).toInt ∧ KC 1 (F 0) (F 0)) ∨ (¬ (((2 ≤ p2.toInt ∧ p2.toInt ≤ 599) ∧ (0 ≤ p3.toInt ∧ p3.toInt ≤ 599) ∧ (1 ≤ p4.toInt ∧ p4.toInt ≤ 30) ∧ p4.toInt < p2.toInt ∧ (1 ≤ p5.toInt ∧ p5.toInt ≤ 30000)) ∧ (0 ≤ p1.toInt ∧ p1.toInt < ((F 0) 0).toInt) ∧ ((F 0) 1).toInt < 40) ∧ ((-1) : Int32).toInt = -1 ∧ KS (F 0) (F 0))) from (Or.inr ⟨by omega, by decide, hk1⟩))⟩, CB.mk ht hP hD⟩, hS.F ht⟩) hS.2.2 dX11_world_78
    · obtain rfl : u3 = 0 := i_is c8 (by decide)
      have zi0 : (0 : Int32).toInt = 0 := by decide
      refine W.eq (g2 := F0 m 16 ls [.int 0]) rfl ?_
      refine lv_if_eq (tgt := 77) hx hb dX11_world_16 (by decide) (fun c120 => ?_) (fun c120 => ?_)
      rotate_left
      · exact absurd c120 (by decide)
      refine lv_iconst (v := (-1)) hx hb dX11_world_77 (by decide) ?_
      refine W.widen (k := 0) (n := 0) (Nat.le_of_ble_eq_true rfl) (Nat.le_of_ble_eq_true rfl) ?_
      have zim1 : ((-1) : Int32).toInt = -1 := by decide
      exact W.iret (v := (-1)) hx hb hr (fun t ht hW => ⟨⟨((-1), (F 0)), rfl, ⟨hk0, hk2, (show (((((2 ≤ p2.toInt ∧ p2.toInt ≤ 599) ∧ (0 ≤ p3.toInt ∧ p3.toInt ≤ 599) ∧ (1 ≤ p4.toInt ∧ p4.toInt ≤ 30) ∧ p4.toInt < p2.toInt ∧ (1 ≤ p5.toInt ∧ p5.toInt ≤ 30000)) ∧ (0 ≤ p1.toInt ∧ p1.toInt < ((F 0) 0).toInt) ∧ ((F 0) 1).toInt < 40) ∧ ((-1) : Int32).toInt = ((F 0) 1).toInt ∧ KC 1 (F 0) (F 0)) ∨ (¬ (((2 ≤ p2.toInt ∧ p2.toInt ≤ 599) ∧ (0 ≤ p3.toInt ∧ p3.toInt ≤ 599) ∧ (1 ≤ p4.toInt ∧ p4.toInt ≤ 30) ∧ p4.toInt < p2.toInt ∧ (1 ≤ p5.toInt ∧ p5.toInt ≤ 30000)) ∧ (0 ≤ p1.toInt ∧ p1.toInt < ((F 0) 0).toInt) ∧ ((F 0) 1).toInt < 40) ∧ ((-1) : Int32).toInt = -1 ∧ KS (F 0) (F 0))) from (Or.inr ⟨by omega, by decide, hk1⟩))⟩, CB.mk ht hP hD⟩, hS.F ht⟩) hS.2.2 dX11_world_78
set_option maxHeartbeats 4000000 in
set_option maxRecDepth 100000 in
theorem m_starS (l : Launch) (D : va_G) (Y : Nat → ClassId) (Z : Nat → Nat) (sz : Nat) (o : Nat) (a : Nat → Nat) (I : Nat → Int32) (J : Nat → Int64) (F : Nat → Nat → Int32) (G : Nat → Nat → Int64) (p1 : Int32) (p2 : Int32) (p3 : Int32) (hk0 : TO (F 0)) (hk1 : KS (F 0) (F 0)) (hk2 : KD (F 0) (F 0)) : Met l yX11_star (.code yX11_star cX11_star 6 (some .int) :: GW) ({ frames := 1, cells := 0, slots := 0, locals := 25 }) (va_Pc [.ref o, .int p1, .int p2, .int p3] (CP D Y Z (MW Y o a I J F G) sz)) (QG (S := Int32 × (Nat → Int32)) (fun u => some (.int u.1)) (fun u => TO u.2 ∧ KD (F 0) u.2 ∧ ((¬ (((F 0) 0).toInt < 12 ∧ (1 ≤ p1.toInt ∧ p1.toInt ≤ 999) ∧ (0 ≤ p2.toInt ∧ p2.toInt ≤ 7) ∧ (1 ≤ p3.toInt ∧ p3.toInt ≤ 1000)) ∧ u.1.toInt = -1 ∧ KS (F 0) u.2) ∨ ((((F 0) 0).toInt < 12 ∧ (1 ≤ p1.toInt ∧ p1.toInt ≤ 999) ∧ (0 ≤ p2.toInt ∧ p2.toInt ≤ 7) ∧ (1 ≤ p3.toInt ∧ p3.toInt ≤ 1000)) ∧ u.1.toInt = ((F 0) 0).toInt ∧ KN1 ((F 0) 0).toNatClampNeg p1 (F 0) u.2))) (fun u => CB D (MW Y o a I J (vf_upd F 0 u.2) G) (va_A (MW Y o a I J F G) sz)) (va_A (MW Y o a I J F G) sz)) 0 0 (va_A (MW Y o a I J F G) sz) := by
  refine Met.ofW (cc := cX11_star) (maxL := 6) (ret := (some .int)) (by decide) rfl ?_
  intro p e s m args below meth c s₁ B hml hv
  obtain ⟨rfl, hsz, hP, hKN, hD0⟩ := hv
  have hx := B.exec
  have hb := B.bytes
  have hr := B.returns
  have hts := atoms_spec (ws := .code yX11_star cX11_star 6 (some .int) :: GW) B.pre
  have hg : ∀ w ∈ GW, w.before _ s = true := fun w h => hts w (List.mem_cons_of_mem _ h)
  have hown : s.vm.findClass RX11 = some m.cls := findClass_of_methodNamed B.named
  have hlocks := B.notSynchronized
  subst hsz
  have hD := hD0.self (sz := s.heap.size)
  generalize hAe : va_A (MW Y o a I J F G) s.heap.size = A at hD ⊢
  have hA : ∀ q : Nat, s.heap.size ≤ q → A q := fun q h => by rw [← hAe]; exact Or.inr h
  clear hAe hD0 hts B
  have hl := lv_entry ([.ref o, .int p1, .int p2, .int p3]) (n := 6) (Nat.le_of_ble_eq_true rfl)
  rw [lg_entry_eq]
  generalize (lg_sl ([.ref o, .int p1, .int p2, .int p3]) ++ List.replicate (6 - (lg_sl ([.ref o, .int p1, .int p2, .int p3])).length) Slot.unset).toArray = ls at hl ⊢
  have hl : lv_has ls 6 [(0, .ref o), (1, .int p1), (2, .int p2), (3, .int p3)] := hl
  refine w_start (A0 := A) hP (fun H locs hP hS => ?_)
  refine lv_aload_n hx hb dX11_star_0 rfl (lv_at hl 0 rfl) ?_
  refine va_get (D := D) (ci := 11) (v := .ref (a 0)) (C := RX11) (T := TX11) (N := 49) hx hb hg inGX11 hown hKN.1 hP 0 rfl rfl 0 (by decide) (hg _ kw_1208) (fun _ h9 => h9) rfl dX11_star_1 ?_
  refine lv_iconst (v := 0) hx hb dX11_star_4 (by decide) ?_
  refine va_iald hx hb hKN.1 hP 1 0 rfl rfl (show ¬ ((0 : Int32) < 0 ∨ 7533 ≤ (0 : Int32).toNatClampNeg) by decide) dX11_star_5 ?_
  refine lv_topi (fun v1 ev1 => ?_)
  have ev1 : v1 = (F 0) 0 := ev1
  have kv1 := TO_0 hk0
  rw [← ev1] at kv1
  have qv1 := congrArg Int32.toInt ev1
  refine lv_bipush (v := 12) hx hb dX11_star_6 (by decide) ?_
  refine lv_icmp_eq (tgt := 47) hx hb dX11_star_8 (by decide) (fun c2 => ?_) (fun c2 => ?_)
  · skip
    have c2 := i_eq (Eq.refl v1.toInt) (show (12 : Int32).toInt = 12 by decide) c2
    refine lv_iconst (v := (-1)) hx hb dX11_star_47 (by decide) ?_
    refine W.widen (k := 0) (n := 0) (Nat.le_of_ble_eq_true rfl) (Nat.le_of_ble_eq_true rfl) ?_
    have zim1 : ((-1) : Int32).toInt = -1 := by decide
    exact W.iret (v := (-1)) hx hb hr (fun t ht hW => ⟨⟨((-1), (F 0)), rfl, ⟨hk0, hk2, (show ((¬ (((F 0) 0).toInt < 12 ∧ (1 ≤ p1.toInt ∧ p1.toInt ≤ 999) ∧ (0 ≤ p2.toInt ∧ p2.toInt ≤ 7) ∧ (1 ≤ p3.toInt ∧ p3.toInt ≤ 1000)) ∧ ((-1) : Int32).toInt = -1 ∧ KS (F 0) (F 0)) ∨ ((((F 0) 0).toInt < 12 ∧ (1 ≤ p1.toInt ∧ p1.toInt ≤ 999) ∧ (0 ≤ p2.toInt ∧ p2.toInt ≤ 7) ∧ (1 ≤ p3.toInt ∧ p3.toInt ≤ 1000)) ∧ ((-1) : Int32).toInt = ((F 0) 0).toInt ∧ KN1 ((F 0) 0).toNatClampNeg p1 (F 0) (F 0))) from (Or.inl ⟨by omega, by decide, hk1⟩))⟩, CB.mk ht hP hD⟩, hS.F ht⟩) hS.2.2 dX11_star_48
  · skip
    have c2 := i_ne (Eq.refl v1.toInt) (show (12 : Int32).toInt = 12 by decide) c2
    refine lv_iload_n hx hb dX11_star_11 rfl (lv_at hl 1 rfl) ?_
    have j3 := rgI p1
    have j4 := Int32.toInt_toInt64 p1
    refine lv_i2l (v := p1.toInt64) hx hb dX11_star_12 (rfl) ?_
    refine lv_lconst (v := 1) hx hb dX11_star_13 (by decide) ?_
    refine lv_ldc2 (v := 999) hx hb hown (hg _ kw_1361) dX11_star_14 ?_
    have zl1 : (1 : Int64).toInt = 1 := by decide
    have zl999 : (999 : Int64).toInt = 999 := by decide
    refine cg0 (rn_S (As := [.long p1.toInt64, .long 1, .long 999]) (rest := []) (m_in l D Y Z H.size   p1.toInt64 1 999 ) ⟨hx, hb, hml, hown, hg⟩ lk_X11_99 ⟨CP.blind, CP.at nilP hKN (nilD (A := fun _ => True))⟩ ⟨⟨rfl, rfl⟩, ⟨Nat.le_of_ble_eq_true rfl, Nat.le_of_ble_eq_true rfl⟩, ⟨Nat.le_of_ble_eq_true rfl, Nat.le_of_ble_eq_true rfl⟩⟩ hl.1 rfl (Nat.le_of_ble_eq_true rfl) dX11_star_17) hP hS hA (fun u5 H locs w6 hP hS => ?_)
    obtain ⟨hw8, hw9⟩ : (((1 : Int64).toInt ≤ p1.toInt64.toInt ∧ p1.toInt64.toInt ≤ (999 : Int64).toInt ∧ u5.toInt = 1) ∨ (¬ ((1 : Int64).toInt ≤ p1.toInt64.toInt ∧ p1.toInt64.toInt ≤ (999 : Int64).toInt) ∧ u5.toInt = 0)) ∧ (0 ≤ u5.toInt ∧ u5.toInt ≤ 1) := w6
    refine W.eq (g2 := F0 m 20 ls [.int u5]) rfl ?_
    rcases (show u5.toInt = 1 ∨ u5.toInt = 0 by omega) with c10 | c10
    · obtain rfl : u5 = 1 := i_is c10 (by decide)
      have zi1 : (1 : Int32).toInt = 1 := by decide
      refine W.eq (g2 := F0 m 20 ls [.int 1]) rfl ?_
      refine lv_if_eq (tgt := 47) hx hb dX11_star_20 (by decide) (fun c11 => ?_) (fun c11 => ?_)
      · exact absurd c11 (by decide)
      refine lv_iload_n hx hb dX11_star_23 rfl (lv_at hl 2 rfl) ?_
      have j12 := rgI p2
      have j13 := Int32.toInt_toInt64 p2
      refine lv_i2l (v := p2.toInt64) hx hb dX11_star_24 (rfl) ?_
      refine lv_lconst (v := 0) hx hb dX11_star_25 (by decide) ?_
      refine lv_ldc2 (v := 7) hx hb hown (hg _ kw_1365) dX11_star_26 ?_
      have zl0 : (0 : Int64).toInt = 0 := by decide
      have zl7 : (7 : Int64).toInt = 7 := by decide
      refine cg0 (rn_S (As := [.long p2.toInt64, .long 0, .long 7]) (rest := []) (m_in l D Y Z H.size   p2.toInt64 0 7 ) ⟨hx, hb, hml, hown, hg⟩ lk_X11_99 ⟨CP.blind, CP.at nilP hKN (nilD (A := fun _ => True))⟩ ⟨⟨rfl, rfl⟩, ⟨Nat.le_of_ble_eq_true rfl, Nat.le_of_ble_eq_true rfl⟩, ⟨Nat.le_of_ble_eq_true rfl, Nat.le_of_ble_eq_true rfl⟩⟩ hl.1 rfl (Nat.le_of_ble_eq_true rfl) dX11_star_29) hP hS hA (fun u14 H locs w15 hP hS => ?_)
      obtain ⟨hw17, hw18⟩ : (((0 : Int64).toInt ≤ p2.toInt64.toInt ∧ p2.toInt64.toInt ≤ (7 : Int64).toInt ∧ u14.toInt = 1) ∨ (¬ ((0 : Int64).toInt ≤ p2.toInt64.toInt ∧ p2.toInt64.toInt ≤ (7 : Int64).toInt) ∧ u14.toInt = 0)) ∧ (0 ≤ u14.toInt ∧ u14.toInt ≤ 1) := w15
      refine W.eq (g2 := F0 m 32 ls [.int u14]) rfl ?_
      rcases (show u14.toInt = 1 ∨ u14.toInt = 0 by omega) with c19 | c19
      · obtain rfl : u14 = 1 := i_is c19 (by decide)
        refine W.eq (g2 := F0 m 32 ls [.int 1]) rfl ?_
        refine lv_if_eq (tgt := 47) hx hb dX11_star_32 (by decide) (fun c20 => ?_) (fun c20 => ?_)
        · exact absurd c20 (by decide)
        refine lv_iload_n hx hb dX11_star_35 rfl (lv_at hl 3 rfl) ?_
        have j21 := rgI p3
        have j22 := Int32.toInt_toInt64 p3
        refine lv_i2l (v := p3.toInt64) hx hb dX11_star_36 (rfl) ?_
        refine lv_lconst (v := 1) hx hb dX11_star_37 (by decide) ?_
        refine lv_ldc2 (v := 1000) hx hb hown (hg _ kw_1366) dX11_star_38 ?_
        have zl1000 : (1000 : Int64).toInt = 1000 := by decide
        refine cg0 (rn_S (As := [.long p3.toInt64, .long 1, .long 1000]) (rest := []) (m_in l D Y Z H.size   p3.toInt64 1 1000 ) ⟨hx, hb, hml, hown, hg⟩ lk_X11_99 ⟨CP.blind, CP.at nilP hKN (nilD (A := fun _ => True))⟩ ⟨⟨rfl, rfl⟩, ⟨Nat.le_of_ble_eq_true rfl, Nat.le_of_ble_eq_true rfl⟩, ⟨Nat.le_of_ble_eq_true rfl, Nat.le_of_ble_eq_true rfl⟩⟩ hl.1 rfl (Nat.le_of_ble_eq_true rfl) dX11_star_41) hP hS hA (fun u23 H locs w24 hP hS => ?_)
        obtain ⟨hw26, hw27⟩ : (((1 : Int64).toInt ≤ p3.toInt64.toInt ∧ p3.toInt64.toInt ≤ (1000 : Int64).toInt ∧ u23.toInt = 1) ∨ (¬ ((1 : Int64).toInt ≤ p3.toInt64.toInt ∧ p3.toInt64.toInt ≤ (1000 : Int64).toInt) ∧ u23.toInt = 0)) ∧ (0 ≤ u23.toInt ∧ u23.toInt ≤ 1) := w24
        refine W.eq (g2 := F0 m 44 ls [.int u23]) rfl ?_
        rcases (show u23.toInt = 1 ∨ u23.toInt = 0 by omega) with c28 | c28
        · obtain rfl : u23 = 1 := i_is c28 (by decide)
          refine W.eq (g2 := F0 m 44 ls [.int 1]) rfl ?_
          refine lv_if_ne (tgt := 49) hx hb dX11_star_44 (by decide) (fun c29 => ?_) (fun c29 => ?_)
          rotate_left
          · exact absurd c29 (by decide)
          refine lv_aload_n hx hb dX11_star_49 rfl (lv_at hl 0 rfl) ?_
          refine va_get (D := D) (ci := 11) (v := .ref (a 0)) (C := RX11) (T := TX11) (N := 49) hx hb hg inGX11 hown hKN.1 hP 0 rfl rfl 0 (by decide) (hg _ kw_1208) (fun _ h9 => h9) rfl dX11_star_50 ?_
          refine lv_iconst (v := 0) hx hb dX11_star_53 (by decide) ?_
          refine va_iald hx hb hKN.1 hP 1 0 rfl rfl (show ¬ ((0 : Int32) < 0 ∨ 7533 ≤ (0 : Int32).toNatClampNeg) by decide) dX11_star_54 ?_
          refine lv_topi (fun v30 ev30 => ?_)
          have ev30 : v30 = (F 0) 0 := ev30
          have kv30 := TO_0 hk0
          rw [← ev30] at kv30
          have qv30 := congrArg Int32.toInt ev30
          refine lv_istore (lv' := [(4, .int v30), (0, .ref o), (1, .int p1), (2, .int p2), (3, .int p3)]) hx hb dX11_star_55 hl (by decide) rfl (fun ls hl => ?_)
          refine lv_aload_n hx hb dX11_star_57 rfl (lv_at hl 1 rfl) ?_
          refine va_get (D := D) (ci := 11) (v := .ref (a 0)) (C := RX11) (T := TX11) (N := 49) hx hb hg inGX11 hown hKN.1 hP 0 rfl rfl 0 (by decide) (hg _ kw_1208) (fun _ h9 => h9) rfl dX11_star_58 ?_
          refine lv_iconst (v := 3) hx hb dX11_star_61 (by decide) ?_
          refine lv_iconst (v := 3) hx hb dX11_star_62 (by decide) ?_
          refine lv_iload hx hb dX11_star_63 (lv_at hl 0 rfl) ?_
          refine lv_imul hx hb dX11_star_65 ?_
          refine lv_topi (fun v31 ev31 => ?_)
          have hv31 := i_mul (show (3 : Int32).toInt = 3 by decide) (Eq.refl v30.toInt) ev31 (by omega) (by omega)
          refine lv_iadd hx hb dX11_star_66 ?_
          refine lv_topi (fun v32 ev32 => ?_)
          have hv32 := i_add (show (3 : Int32).toInt = 3 by decide) (Eq.refl v31.toInt) ev32 (by omega) (by omega)
          refine lv_iload_n hx hb dX11_star_67 rfl (lv_at hl 2 rfl) ?_
          refine va_iast hx hb hKN.1 hP hD hS 1 0 rfl rfl (vp_in_iff.mpr ⟨by omega, by omega⟩) dX11_star_68 (fun H locs hP hD hS => ?_)
          obtain ⟨f33, ef33, hP, hD⟩ : ∃ f33 : Nat → Int32, f33 = upd (F 0) v32.toNatClampNeg p1 ∧ va_P D vwCl (MW Y o a I J (vf_upd F 0 f33) G) H ∧ va_D A (MW Y o a I J (vf_upd F 0 f33) G) := ⟨_, rfl, hP, hD⟩
          have ct34 := clampI (x := v32) (by omega)
          have t34 : TO f33 := by rw [ef33]; exact TO_set hk0 (by unfold trow; omega) (by omega) (by omega) (by omega) (by omega)
          have ct35 := clampI (x := v32) (by omega)
          have zt35 := clampI (x := F 0 0) (by omega)
          have t35 : KR (F 0 0).toNatClampNeg p1 (F 0) f33 := KR_of hk1 ef33 (by omega)
          have ct36 := clampI (x := v32) (by omega)
          have t36 : KD (F 0) f33 := KD_set hk2 ef33 (by omega) (by omega)
          have t37 : (f33 (0)).toInt = ((F 0) (0)).toInt := by rw [ef33, up_ne (by omega)]
          refine lv_aload_n hx hb dX11_star_69 rfl (lv_at hl 1 rfl) ?_
          refine va_get (D := D) (ci := 11) (v := .ref (a 0)) (C := RX11) (T := TX11) (N := 49) hx hb hg inGX11 hown hKN.1 hP 0 rfl rfl 0 (by decide) (hg _ kw_1208) (fun _ h9 => h9) rfl dX11_star_70 ?_
          refine lv_iconst (v := 3) hx hb dX11_star_73 (by decide) ?_
          refine lv_iconst (v := 3) hx hb dX11_star_74 (by decide) ?_
          refine lv_iload hx hb dX11_star_75 (lv_at hl 0 rfl) ?_
          refine lv_imul hx hb dX11_star_77 ?_
          refine lv_topi (fun v38 ev38 => ?_)
          have hv38 := i_mul (show (3 : Int32).toInt = 3 by decide) (Eq.refl v30.toInt) ev38 (by omega) (by omega)
          refine lv_iadd hx hb dX11_star_78 ?_
          refine lv_topi (fun v39 ev39 => ?_)
          have hv39 := i_add (show (3 : Int32).toInt = 3 by decide) (Eq.refl v38.toInt) ev39 (by omega) (by omega)
          refine lv_iconst (v := 1) hx hb dX11_star_79 (by decide) ?_
          refine lv_iadd hx hb dX11_star_80 ?_
          refine lv_topi (fun v40 ev40 => ?_)
          have hv40 := i_add (Eq.refl v39.toInt) (show (1 : Int32).toInt = 1 by decide) ev40 (by omega) (by omega)
          refine lv_iload_n hx hb dX11_star_81 rfl (lv_at hl 3 rfl) ?_
          refine va_iast hx hb hKN.1 hP hD hS 1 0 rfl rfl (vp_in_iff.mpr ⟨by omega, by omega⟩) dX11_star_82 (fun H locs hP hD hS => ?_)
          obtain ⟨f41, ef41, hP, hD⟩ : ∃ f41 : Nat → Int32, f41 = upd f33 v40.toNatClampNeg p2 ∧ va_P D vwCl (MW Y o a I J (vf_upd F 0 f41) G) H ∧ va_D A (MW Y o a I J (vf_upd F 0 f41) G) := ⟨_, rfl, hP, hD⟩
          have ct42 := clampI (x := v40) (by omega)
          have t42 : TO f41 := by rw [ef41]; exact TO_set t34 (by unfold trow; omega) (by omega) (by omega) (by omega) (by omega)
          have ct43 := clampI (x := v40) (by omega)
          have t43 : KD (F 0) f41 := KD_set t36 ef41 (by omega) (by omega)
          have ct44 := clampI (x := v40) (by omega)
          have zt44 := clampI (x := F 0 0) (by omega)
          have t44 : KR (F 0 0).toNatClampNeg p1 (F 0) f41 := KR_set t35 ef41 (by omega) (by omega) (by omega)
          have t45 : (f41 (0)).toInt = (f33 (0)).toInt := by rw [ef41, up_ne (by omega)]
          refine lv_aload_n hx hb dX11_star_83 rfl (lv_at hl 1 rfl) ?_
          refine va_get (D := D) (ci := 11) (v := .ref (a 0)) (C := RX11) (T := TX11) (N := 49) hx hb hg inGX11 hown hKN.1 hP 0 rfl rfl 0 (by decide) (hg _ kw_1208) (fun _ h9 => h9) rfl dX11_star_84 ?_
          refine lv_iconst (v := 3) hx hb dX11_star_87 (by decide) ?_
          refine lv_iconst (v := 3) hx hb dX11_star_88 (by decide) ?_
          refine lv_iload hx hb dX11_star_89 (lv_at hl 0 rfl) ?_
          refine lv_imul hx hb dX11_star_91 ?_
          refine lv_topi (fun v46 ev46 => ?_)
          have hv46 := i_mul (show (3 : Int32).toInt = 3 by decide) (Eq.refl v30.toInt) ev46 (by omega) (by omega)
          refine lv_iadd hx hb dX11_star_92 ?_
          refine lv_topi (fun v47 ev47 => ?_)
          have hv47 := i_add (show (3 : Int32).toInt = 3 by decide) (Eq.refl v46.toInt) ev47 (by omega) (by omega)
          refine lv_iconst (v := 2) hx hb dX11_star_93 (by decide) ?_
          refine lv_iadd hx hb dX11_star_94 ?_
          refine lv_topi (fun v48 ev48 => ?_)
          have hv48 := i_add (Eq.refl v47.toInt) (show (2 : Int32).toInt = 2 by decide) ev48 (by omega) (by omega)
          refine lv_iload_n hx hb dX11_star_95 rfl (lv_at hl 4 rfl) ?_
          refine va_iast hx hb hKN.1 hP hD hS 1 0 rfl rfl (vp_in_iff.mpr ⟨by omega, by omega⟩) dX11_star_96 (fun H locs hP hD hS => ?_)
          obtain ⟨f49, ef49, hP, hD⟩ : ∃ f49 : Nat → Int32, f49 = upd f41 v48.toNatClampNeg p3 ∧ va_P D vwCl (MW Y o a I J (vf_upd F 0 f49) G) H ∧ va_D A (MW Y o a I J (vf_upd F 0 f49) G) := ⟨_, rfl, hP, hD⟩
          have ct50 := clampI (x := v48) (by omega)
          have t50 : TO f49 := by rw [ef49]; exact TO_set t42 (by unfold trow; omega) (by omega) (by omega) (by omega) (by omega)
          have ct51 := clampI (x := v48) (by omega)
          have t51 : KD (F 0) f49 := KD_set t43 ef49 (by omega) (by omega)
          have ct52 := clampI (x := v48) (by omega)
          have zt52 := clampI (x := F 0 0) (by omega)
          have t52 : KR (F 0 0).toNatClampNeg p1 (F 0) f49 := KR_set t44 ef49 (by omega) (by omega) (by omega)
          have t53 : (f49 (0)).toInt = (f41 (0)).toInt := by rw [ef49, up_ne (by omega)]
          have t54 : (f49 (5 + 3 * (F 0 0).toInt.toNat)).toInt = p3.toInt := by rw [ef49, up_eq (by omega)]
          refine lv_iconst (v := 0) hx hb dX11_star_97 (by decide) ?_
          refine lv_istore (lv' := [(5, .int 0), (4, .int v30), (0, .ref o), (1, .int p1), (2, .int p2), (3, .int p3)]) hx hb dX11_star_98 hl (by decide) rfl (fun ls hl => ?_)
          have zi0 : (0 : Int32).toInt = 0 := by decide
          refine w_loop (σ := Int32 × (Nat → Int32)) (fun xx H locs ls => match xx with | (g65, f66) => va_P D vwCl (MW Y o a I J (vf_upd F 0 f66) G) H ∧ va_D A (MW Y o a I J (vf_upd F 0 f66) G) ∧ va_S A s.heap H locs ∧ lv_has ls 6 [(5, .int g65), (4, .int v30), (0, .ref o), (1, .int p1), (2, .int p2), (3, .int p3)] ∧ (0 ≤ g65.toInt ∧ g65.toInt ≤ 600) ∧ ((f66 0).toInt = (F 0 0).toInt) ∧ (1 ≤ (f66 (5 + 3 * (F 0 0).toInt.toNat)).toInt) ∧ TO f66 ∧ KD (F 0) f66 ∧ KR (F 0 0).toNatClampNeg p1 (F 0) f66) (fun xx => match xx with | (g65, f66) => (600 - g65.toInt).toNat) (0, f49) ⟨hP, hD, hS, lv_sub hl [0, 1, 2, 3, 4, 5] rfl, by omega, by omega, by omega, t50, t51, t52⟩ (fun xx H locs ls hI ih => ?_)
          obtain ⟨g65, f66⟩ := xx
          obtain ⟨hP, hD, hS, hl, hq78, hq79, hq80, hp81, hp82, hp83⟩ := hI
          have ih84 := ih
          refine lv_iload hx hb dX11_star_100 (lv_at hl 0 rfl) ?_
          refine lv_sipush (v := 600) hx hb dX11_star_102 (by decide) ?_
          refine lv_icmp_ge (tgt := 134) hx hb dX11_star_105 (by decide) (fun c85 => ?_) (fun c85 => ?_)
          · skip
            have c85 := i_le (show (600 : Int32).toInt = 600 by decide) (Eq.refl g65.toInt) c85
            refine lv_aload_n hx hb dX11_star_134 rfl (lv_at hl 2 rfl) ?_
            refine va_get (D := D) (ci := 11) (v := .ref (a 0)) (C := RX11) (T := TX11) (N := 49) hx hb hg inGX11 hown hKN.1 hP 0 rfl rfl 0 (by decide) (hg _ kw_1208) (fun _ h9 => h9) rfl dX11_star_135 ?_
            refine lv_iconst (v := 0) hx hb dX11_star_138 (by decide) ?_
            refine lv_dup2_11 hx hb dX11_star_139 rfl rfl ?_
            refine va_iald hx hb hKN.1 hP 1 0 rfl rfl (show ¬ ((0 : Int32) < 0 ∨ 7533 ≤ (0 : Int32).toNatClampNeg) by decide) dX11_star_140 ?_
            refine lv_topi (fun v86 ev86 => ?_)
            have ev86 : v86 = f66 0 := ev86
            have kv86 := TO_0 hp81
            rw [← ev86] at kv86
            have qv86 := congrArg Int32.toInt ev86
            refine lv_iconst (v := 1) hx hb dX11_star_141 (by decide) ?_
            refine lv_iadd hx hb dX11_star_142 ?_
            refine lv_topi (fun v87 ev87 => ?_)
            have hv87 := i_add (Eq.refl v86.toInt) (show (1 : Int32).toInt = 1 by decide) ev87 (by omega) (by omega)
            refine va_iast hx hb hKN.1 hP hD hS 1 0 rfl rfl (show ¬ ((0 : Int32) < 0 ∨ 7533 ≤ (0 : Int32).toNatClampNeg) by decide) dX11_star_143 (fun H locs hP hD hS => ?_)
            obtain ⟨f88, ef88, hP, hD⟩ : ∃ f88 : Nat → Int32, f88 = upd f66 0 v87 ∧ va_P D vwCl (MW Y o a I J (vf_upd F 0 f88) G) H ∧ va_D A (MW Y o a I J (vf_upd F 0 f88) G) := ⟨_, rfl, hP, hD⟩
            have t89 : TO f88 := by rw [ef88]; exact TO_cnt0n hp81 (n := (F 0 0).toInt) (by omega) (by omega) (by omega) (by omega)
            have t90 : KD (F 0) f88 := KD_set hp82 ef88 (by omega) (by omega)
            refine lv_iload hx hb dX11_star_144 (lv_at hl 1 rfl) ?_
            refine W.widen (k := 0) (n := 0) (Nat.le_of_ble_eq_true rfl) (Nat.le_of_ble_eq_true rfl) ?_
            exact W.iret (v := v30) hx hb hr (fun t ht hW => ⟨⟨(v30, f88), rfl, ⟨t89, t90, (show ((¬ (((F 0) 0).toInt < 12 ∧ (1 ≤ p1.toInt ∧ p1.toInt ≤ 999) ∧ (0 ≤ p2.toInt ∧ p2.toInt ≤ 7) ∧ (1 ≤ p3.toInt ∧ p3.toInt ≤ 1000)) ∧ v30.toInt = -1 ∧ KS (F 0) f88) ∨ ((((F 0) 0).toInt < 12 ∧ (1 ≤ p1.toInt ∧ p1.toInt ≤ 999) ∧ (0 ≤ p2.toInt ∧ p2.toInt ≤ 7) ∧ (1 ≤ p3.toInt ∧ p3.toInt ≤ 1000)) ∧ v30.toInt = ((F 0) 0).toInt ∧ KN1 ((F 0) 0).toNatClampNeg p1 (F 0) f88)) from (Or.inr ⟨by omega, by omega, KN1_of hp83 ef88 (by omega)⟩))⟩, CB.mk ht hP hD⟩, hS.F ht⟩) hS.2.2 dX11_star_146
          · skip
            have c85 := i_nle (show (600 : Int32).toInt = 600 by decide) (Eq.refl g65.toInt) c85
            refine lv_aload_n hx hb dX11_star_108 rfl (lv_at hl 2 rfl) ?_
            refine va_get (D := D) (ci := 11) (v := .ref (a 0)) (C := RX11) (T := TX11) (N := 49) hx hb hg inGX11 hown hKN.1 hP 0 rfl rfl 0 (by decide) (hg _ kw_1208) (fun _ h9 => h9) rfl dX11_star_109 ?_
            refine lv_sipush (v := 315) hx hb dX11_star_112 (by decide) ?_
            refine lv_sipush (v := 600) hx hb dX11_star_115 (by decide) ?_
            refine lv_iload hx hb dX11_star_118 (lv_at hl 1 rfl) ?_
            refine lv_imul hx hb dX11_star_120 ?_
            refine lv_topi (fun v92 ev92 => ?_)
            have hv92 := i_mul (show (600 : Int32).toInt = 600 by decide) (Eq.refl v30.toInt) ev92 (by omega) (by omega)
            refine lv_iadd hx hb dX11_star_121 ?_
            refine lv_topi (fun v93 ev93 => ?_)
            have hv93 := i_add (show (315 : Int32).toInt = 315 by decide) (Eq.refl v92.toInt) ev93 (by omega) (by omega)
            refine lv_iload hx hb dX11_star_122 (lv_at hl 0 rfl) ?_
            refine lv_iadd hx hb dX11_star_124 ?_
            refine lv_topi (fun v94 ev94 => ?_)
            have hv94 := i_add (Eq.refl v93.toInt) (Eq.refl g65.toInt) ev94 (by omega) (by omega)
            refine lv_ldc (v := (-100000)) hx hb hown (hg _ kw_1367) dX11_star_125 ?_
            refine va_iast hx hb hKN.1 hP hD hS 1 0 rfl rfl (vp_in_iff.mpr ⟨by omega, by omega⟩) dX11_star_127 (fun H locs hP hD hS => ?_)
            obtain ⟨f95, ef95, hP, hD⟩ : ∃ f95 : Nat → Int32, f95 = upd f66 v94.toNatClampNeg (-100000) ∧ va_P D vwCl (MW Y o a I J (vf_upd F 0 f95) G) H ∧ va_D A (MW Y o a I J (vf_upd F 0 f95) G) := ⟨_, rfl, hP, hD⟩
            have zim100000 : ((-100000) : Int32).toInt = -100000 := by decide
            have ct96 := clampI (x := v94) (by omega)
            have t96 : TO f95 := by rw [ef95]; exact TO_set hp81 (by unfold trow; omega) (by omega) (by omega) (by omega) (by omega)
            have ct97 := clampI (x := v94) (by omega)
            have t97 : KD (F 0) f95 := KD_set hp82 ef95 (by omega) (by omega)
            have ct98 := clampI (x := v94) (by omega)
            have zt98 := clampI (x := F 0 0) (by omega)
            have t98 : KR (F 0 0).toNatClampNeg p1 (F 0) f95 := KR_set hp83 ef95 (by omega) (by omega) (by omega)
            have t99 : (f95 (0)).toInt = (f66 (0)).toInt := by rw [ef95, up_ne (by omega)]
            have t100 : (f95 (5 + 3 * (F 0 0).toInt.toNat)).toInt = (f66 (5 + 3 * (F 0 0).toInt.toNat)).toInt := by rw [ef95, up_ne (by omega)]
            obtain ⟨v101, ev101⟩ : ∃ y : Int32, y = g65 + 1 := ⟨_, rfl⟩
            have hv101 := i_add (Eq.refl g65.toInt) (show (1 : Int32).toInt = 1 by decide) ev101 (by omega) (by omega)
            refine lv_iinc (v := v101) (lv' := [(5, .int v101), (4, .int v30), (0, .ref o), (1, .int p1), (2, .int p2), (3, .int p3)]) hx hb dX11_star_128 hl (k := 0) rfl (by rw [ev101]; rfl) (by decide) rfl (fun ls hl => ?_)
            refine lv_goto (tgt := 100) hx hb dX11_star_131 (by decide) ?_
            exact ih84 (v101, f95) H locs ls (by show (600 - v101.toInt).toNat < (600 - g65.toInt).toNat; omega) ⟨hP, hD, hS, lv_sub hl [0, 1, 2, 3, 4, 5] rfl, by omega, by omega, by omega, t96, t97, t98⟩
        · obtain rfl : u23 = 0 := i_is c28 (by decide)
          have zi0 : (0 : Int32).toInt = 0 := by decide
          refine W.eq (g2 := F0 m 44 ls [.int 0]) rfl ?_
          refine lv_if_ne (tgt := 49) hx hb dX11_star_44 (by decide) (fun c102 => ?_) (fun c102 => ?_)
          · exact absurd c102 (by decide)
          refine lv_iconst (v := (-1)) hx hb dX11_star_47 (by decide) ?_
          refine W.widen (k := 0) (n := 0) (Nat.le_of_ble_eq_true rfl) (Nat.le_of_ble_eq_true rfl) ?_
          have zim1 : ((-1) : Int32).toInt = -1 := by decide
          exact W.iret (v := (-1)) hx hb hr (fun t ht hW => ⟨⟨((-1), (F 0)), rfl, ⟨hk0, hk2, (show ((¬ (((F 0) 0).toInt < 12 ∧ (1 ≤ p1.toInt ∧ p1.toInt ≤ 999) ∧ (0 ≤ p2.toInt ∧ p2.toInt ≤ 7) ∧ (1 ≤ p3.toInt ∧ p3.toInt ≤ 1000)) ∧ ((-1) : Int32).toInt = -1 ∧ KS (F 0) (F 0)) ∨ ((((F 0) 0).toInt < 12 ∧ (1 ≤ p1.toInt ∧ p1.toInt ≤ 999) ∧ (0 ≤ p2.toInt ∧ p2.toInt ≤ 7) ∧ (1 ≤ p3.toInt ∧ p3.toInt ≤ 1000)) ∧ ((-1) : Int32).toInt = ((F 0) 0).toInt ∧ KN1 ((F 0) 0).toNatClampNeg p1 (F 0) (F 0))) from (Or.inl ⟨by omega, by decide, hk1⟩))⟩, CB.mk ht hP hD⟩, hS.F ht⟩) hS.2.2 dX11_star_48
      · obtain rfl : u14 = 0 := i_is c19 (by decide)
        have zi0 : (0 : Int32).toInt = 0 := by decide
        refine W.eq (g2 := F0 m 32 ls [.int 0]) rfl ?_
        refine lv_if_eq (tgt := 47) hx hb dX11_star_32 (by decide) (fun c103 => ?_) (fun c103 => ?_)
        rotate_left
        · exact absurd c103 (by decide)
        refine lv_iconst (v := (-1)) hx hb dX11_star_47 (by decide) ?_
        refine W.widen (k := 0) (n := 0) (Nat.le_of_ble_eq_true rfl) (Nat.le_of_ble_eq_true rfl) ?_
        have zim1 : ((-1) : Int32).toInt = -1 := by decide
        exact W.iret (v := (-1)) hx hb hr (fun t ht hW => ⟨⟨((-1), (F 0)), rfl, ⟨hk0, hk2, (show ((¬ (((F 0) 0).toInt < 12 ∧ (1 ≤ p1.toInt ∧ p1.toInt ≤ 999) ∧ (0 ≤ p2.toInt ∧ p2.toInt ≤ 7) ∧ (1 ≤ p3.toInt ∧ p3.toInt ≤ 1000)) ∧ ((-1) : Int32).toInt = -1 ∧ KS (F 0) (F 0)) ∨ ((((F 0) 0).toInt < 12 ∧ (1 ≤ p1.toInt ∧ p1.toInt ≤ 999) ∧ (0 ≤ p2.toInt ∧ p2.toInt ≤ 7) ∧ (1 ≤ p3.toInt ∧ p3.toInt ≤ 1000)) ∧ ((-1) : Int32).toInt = ((F 0) 0).toInt ∧ KN1 ((F 0) 0).toNatClampNeg p1 (F 0) (F 0))) from (Or.inl ⟨by omega, by decide, hk1⟩))⟩, CB.mk ht hP hD⟩, hS.F ht⟩) hS.2.2 dX11_star_48
    · obtain rfl : u5 = 0 := i_is c10 (by decide)
      have zi0 : (0 : Int32).toInt = 0 := by decide
      refine W.eq (g2 := F0 m 20 ls [.int 0]) rfl ?_
      refine lv_if_eq (tgt := 47) hx hb dX11_star_20 (by decide) (fun c104 => ?_) (fun c104 => ?_)
      rotate_left
      · exact absurd c104 (by decide)
      refine lv_iconst (v := (-1)) hx hb dX11_star_47 (by decide) ?_
      refine W.widen (k := 0) (n := 0) (Nat.le_of_ble_eq_true rfl) (Nat.le_of_ble_eq_true rfl) ?_
      have zim1 : ((-1) : Int32).toInt = -1 := by decide
      exact W.iret (v := (-1)) hx hb hr (fun t ht hW => ⟨⟨((-1), (F 0)), rfl, ⟨hk0, hk2, (show ((¬ (((F 0) 0).toInt < 12 ∧ (1 ≤ p1.toInt ∧ p1.toInt ≤ 999) ∧ (0 ≤ p2.toInt ∧ p2.toInt ≤ 7) ∧ (1 ≤ p3.toInt ∧ p3.toInt ≤ 1000)) ∧ ((-1) : Int32).toInt = -1 ∧ KS (F 0) (F 0)) ∨ ((((F 0) 0).toInt < 12 ∧ (1 ≤ p1.toInt ∧ p1.toInt ≤ 999) ∧ (0 ≤ p2.toInt ∧ p2.toInt ≤ 7) ∧ (1 ≤ p3.toInt ∧ p3.toInt ≤ 1000)) ∧ ((-1) : Int32).toInt = ((F 0) 0).toInt ∧ KN1 ((F 0) 0).toNatClampNeg p1 (F 0) (F 0))) from (Or.inl ⟨by omega, by decide, hk1⟩))⟩, CB.mk ht hP hD⟩, hS.F ht⟩) hS.2.2 dX11_star_48
set_option maxHeartbeats 4000000 in
set_option maxRecDepth 100000 in
theorem m_starOfS (l : Launch) (D : va_G) (Y : Nat → ClassId) (Z : Nat → Nat) (sz : Nat) (o : Nat) (a : Nat → Nat) (I : Nat → Int32) (J : Nat → Int64) (F : Nat → Nat → Int32) (G : Nat → Nat → Int64) (p1 : Int32) (hk_0 : (0 ≤ p1.toInt ∧ p1.toInt ≤ 11)) (hk0 : TO (F 0)) : Met l yX11_starOf (.code yX11_starOf cX11_starOf 3 (some .int) :: GW) ({ frames := 0, cells := 0, slots := 0, locals := 0 }) (va_Pc [.ref o, .int p1, .int 0] (CP D Y Z (MW Y o a I J F G) sz)) (QG (S := Int32) (fun u => some (.int u)) (fun u => (0 ≤ u.toInt ∧ u.toInt ≤ 999) ∧ u = (F 0) (3 + 3 * p1.toNatClampNeg)) (fun u => CB D (MW Y o a I J F G) (va_A (MW Y o a I J F G) sz)) (va_A (MW Y o a I J F G) sz)) 0 0 (va_A (MW Y o a I J F G) sz) := by
  refine Met.ofW (cc := cX11_starOf) (maxL := 3) (ret := (some .int)) (by decide) rfl ?_
  intro p e s m args below meth c s₁ B hml hv
  obtain ⟨rfl, hsz, hP, hKN, hD0⟩ := hv
  have hx := B.exec
  have hb := B.bytes
  have hr := B.returns
  have hts := atoms_spec (ws := .code yX11_starOf cX11_starOf 3 (some .int) :: GW) B.pre
  have hg : ∀ w ∈ GW, w.before _ s = true := fun w h => hts w (List.mem_cons_of_mem _ h)
  have hown : s.vm.findClass RX11 = some m.cls := findClass_of_methodNamed B.named
  have hlocks := B.notSynchronized
  subst hsz
  have hD := hD0.self (sz := s.heap.size)
  generalize hAe : va_A (MW Y o a I J F G) s.heap.size = A at hD ⊢
  have hA : ∀ q : Nat, s.heap.size ≤ q → A q := fun q h => by rw [← hAe]; exact Or.inr h
  clear hAe hD0 hts B
  have hl := lv_entry ([.ref o, .int p1, .int 0]) (n := 3) (Nat.le_of_ble_eq_true rfl)
  rw [lg_entry_eq]
  generalize (lg_sl ([.ref o, .int p1, .int 0]) ++ List.replicate (3 - (lg_sl ([.ref o, .int p1, .int 0])).length) Slot.unset).toArray = ls at hl ⊢
  have hl : lv_has ls 3 [(0, .ref o), (1, .int p1), (2, .int 0)] := hl
  refine w_start (A0 := A) hP (fun H locs hP hS => ?_)
  refine lv_aload_n hx hb dX11_starOf_0 rfl (lv_at hl 0 rfl) ?_
  refine va_get (D := D) (ci := 11) (v := .ref (a 0)) (C := RX11) (T := TX11) (N := 49) hx hb hg inGX11 hown hKN.1 hP 0 rfl rfl 0 (by decide) (hg _ kw_1208) (fun _ h9 => h9) rfl dX11_starOf_1 ?_
  refine lv_iconst (v := 3) hx hb dX11_starOf_4 (by decide) ?_
  refine lv_iconst (v := 3) hx hb dX11_starOf_5 (by decide) ?_
  refine lv_iload_n hx hb dX11_starOf_6 rfl (lv_at hl 1 rfl) ?_
  refine lv_imul hx hb dX11_starOf_7 ?_
  refine lv_topi (fun v1 ev1 => ?_)
  have hv1 := i_mul (show (3 : Int32).toInt = 3 by decide) (Eq.refl p1.toInt) ev1 (by omega) (by omega)
  refine lv_iadd hx hb dX11_starOf_8 ?_
  refine lv_topi (fun v2 ev2 => ?_)
  have hv2 := i_add (show (3 : Int32).toInt = 3 by decide) (Eq.refl v1.toInt) ev2 (by omega) (by omega)
  refine lv_iload_n hx hb dX11_starOf_9 rfl (lv_at hl 2 rfl) ?_
  refine lv_iadd hx hb dX11_starOf_10 ?_
  refine lv_topi (fun v3 ev3 => ?_)
  have hv3 := i_add (Eq.refl v2.toInt) (show (0 : Int32).toInt = 0 by decide) ev3 (by omega) (by omega)
  refine va_iald hx hb hKN.1 hP 1 0 rfl rfl (vp_in_iff.mpr ⟨by omega, by omega⟩) dX11_starOf_11 ?_
  refine lv_topi (fun v4 ev4 => ?_)
  have ev4 : v4 = (F 0) v3.toNatClampNeg := ev4
  have kv4 := TO_size hk0 (i := v3) p1.toInt (by omega) (by omega) (by omega)
  rw [← ev4] at kv4
  refine W.widen (k := 0) (n := 0) (Nat.le_of_ble_eq_true rfl) (Nat.le_of_ble_eq_true rfl) ?_
  have zi0 : (0 : Int32).toInt = 0 := by decide
  exact W.iret (v := v4) hx hb hr (fun t ht hW => ⟨⟨v4, rfl, ⟨(show (0 ≤ v4.toInt ∧ v4.toInt ≤ 999) by omega), (show v4 = (F 0) (3 + 3 * p1.toNatClampNeg) from (rdE ev4 (by omega) (by have c9 := clampI (x := p1) (by omega); omega)))⟩, CB.mk ht hP hD⟩, hS.F ht⟩) hS.2.2 dX11_starOf_12
set_option maxHeartbeats 4000000 in
set_option maxRecDepth 100000 in
theorem m_resizeS (l : Launch) (D : va_G) (Y : Nat → ClassId) (Z : Nat → Nat) (sz : Nat) (o : Nat) (a : Nat → Nat) (I : Nat → Int32) (J : Nat → Int64) (F : Nat → Nat → Int32) (G : Nat → Nat → Int64) (p1 : Int32) (p2 : Int32) (hk0 : TO (F 0)) (hk1 : KS (F 0) (F 0)) (hk2 : KD (F 0) (F 0)) : Met l yX11_resize (.code yX11_resize cX11_resize 4 (some .int) :: GW) ({ frames := 1, cells := 0, slots := 0, locals := 25 }) (va_Pc [.ref o, .int p1, .int p2] (CP D Y Z (MW Y o a I J F G) sz)) (QG (S := Int32 × (Nat → Int32)) (fun u => some (.int u.1)) (fun u => TO u.2 ∧ KD (F 0) u.2 ∧ ((((0 ≤ p1.toInt ∧ p1.toInt < ((F 0) 0).toInt) ∧ (1 ≤ p2.toInt ∧ p2.toInt ≤ 999)) ∧ u.1 = (F 0) (3 + 3 * p1.toNatClampNeg) ∧ KR p1.toNatClampNeg p2 (F 0) u.2) ∨ (¬ ((0 ≤ p1.toInt ∧ p1.toInt < ((F 0) 0).toInt) ∧ (1 ≤ p2.toInt ∧ p2.toInt ≤ 999)) ∧ u.1.toInt = -1 ∧ KS (F 0) u.2))) (fun u => CB D (MW Y o a I J (vf_upd F 0 u.2) G) (va_A (MW Y o a I J F G) sz)) (va_A (MW Y o a I J F G) sz)) 0 0 (va_A (MW Y o a I J F G) sz) := by
  refine Met.ofW (cc := cX11_resize) (maxL := 4) (ret := (some .int)) (by decide) rfl ?_
  intro p e s m args below meth c s₁ B hml hv
  obtain ⟨rfl, hsz, hP, hKN, hD0⟩ := hv
  have hx := B.exec
  have hb := B.bytes
  have hr := B.returns
  have hts := atoms_spec (ws := .code yX11_resize cX11_resize 4 (some .int) :: GW) B.pre
  have hg : ∀ w ∈ GW, w.before _ s = true := fun w h => hts w (List.mem_cons_of_mem _ h)
  have hown : s.vm.findClass RX11 = some m.cls := findClass_of_methodNamed B.named
  have hlocks := B.notSynchronized
  subst hsz
  have hD := hD0.self (sz := s.heap.size)
  generalize hAe : va_A (MW Y o a I J F G) s.heap.size = A at hD ⊢
  have hA : ∀ q : Nat, s.heap.size ≤ q → A q := fun q h => by rw [← hAe]; exact Or.inr h
  clear hAe hD0 hts B
  have hl := lv_entry ([.ref o, .int p1, .int p2]) (n := 4) (Nat.le_of_ble_eq_true rfl)
  rw [lg_entry_eq]
  generalize (lg_sl ([.ref o, .int p1, .int p2]) ++ List.replicate (4 - (lg_sl ([.ref o, .int p1, .int p2])).length) Slot.unset).toArray = ls at hl ⊢
  have hl : lv_has ls 4 [(0, .ref o), (1, .int p1), (2, .int p2)] := hl
  refine w_start (A0 := A) hP (fun H locs hP hS => ?_)
  refine lv_aload_n hx hb dX11_resize_0 rfl (lv_at hl 0 rfl) ?_
  refine lv_iload_n hx hb dX11_resize_1 rfl (lv_at hl 1 rfl) ?_
  refine cga (rn_V (As := [.int p1]) (rest := []) (b := o) (m_isStar l D Y Z H.size o a I J F G  p1 hk0) ⟨hx, hb, hml, hown, hg⟩ lk_X11_108 ⟨CP.blind, va_recv hKN.1 hP (ci := 11) (q0 := 0) rfl rfl, CP.at hP hKN hD⟩ ⟨⟨rfl, rfl⟩, ⟨Nat.le_of_ble_eq_true rfl, Nat.le_of_ble_eq_true rfl⟩, ⟨Nat.le_of_ble_eq_true rfl, Nat.le_of_ble_eq_true rfl⟩⟩ hl.1 rfl (Nat.le_of_ble_eq_true rfl) dX11_resize_2) hP hD hS hA (fun u1 H locs w2 hP hD hS => ?_)
  obtain ⟨hw4, hw5⟩ : ((0 ≤ p1.toInt ∧ p1.toInt ≤ 11 ∧ p1.toInt < ((F 0) 0).toInt ∧ u1.toInt = 1) ∨ (¬ (0 ≤ p1.toInt ∧ p1.toInt < ((F 0) 0).toInt) ∧ u1.toInt = 0)) ∧ (0 ≤ u1.toInt ∧ u1.toInt ≤ 1) := w2
  refine W.eq (g2 := F0 m 5 ls [.int u1]) rfl ?_
  have hP : va_P D vwCl (MW Y o a I J F G) H := hP
  have hD : va_D A (MW Y o a I J F G) := hD
  rcases (show u1.toInt = 1 ∨ u1.toInt = 0 by omega) with c6 | c6
  · obtain rfl : u1 = 1 := i_is c6 (by decide)
    have zi1 : (1 : Int32).toInt = 1 := by decide
    refine W.eq (g2 := F0 m 5 ls [.int 1]) rfl ?_
    refine lv_if_eq (tgt := 20) hx hb dX11_resize_5 (by decide) (fun c7 => ?_) (fun c7 => ?_)
    · exact absurd c7 (by decide)
    refine lv_iload_n hx hb dX11_resize_8 rfl (lv_at hl 2 rfl) ?_
    have j8 := rgI p2
    have j9 := Int32.toInt_toInt64 p2
    refine lv_i2l (v := p2.toInt64) hx hb dX11_resize_9 (rfl) ?_
    refine lv_lconst (v := 1) hx hb dX11_resize_10 (by decide) ?_
    refine lv_ldc2 (v := 999) hx hb hown (hg _ kw_1361) dX11_resize_11 ?_
    have zl1 : (1 : Int64).toInt = 1 := by decide
    have zl999 : (999 : Int64).toInt = 999 := by decide
    refine cg0 (rn_S (As := [.long p2.toInt64, .long 1, .long 999]) (rest := []) (m_in l D Y Z H.size   p2.toInt64 1 999 ) ⟨hx, hb, hml, hown, hg⟩ lk_X11_99 ⟨CP.blind, CP.at nilP hKN (nilD (A := fun _ => True))⟩ ⟨⟨rfl, rfl⟩, ⟨Nat.le_of_ble_eq_true rfl, Nat.le_of_ble_eq_true rfl⟩, ⟨Nat.le_of_ble_eq_true rfl, Nat.le_of_ble_eq_true rfl⟩⟩ hl.1 rfl (Nat.le_of_ble_eq_true rfl) dX11_resize_14) hP hS hA (fun u10 H locs w11 hP hS => ?_)
    obtain ⟨hw13, hw14⟩ : (((1 : Int64).toInt ≤ p2.toInt64.toInt ∧ p2.toInt64.toInt ≤ (999 : Int64).toInt ∧ u10.toInt = 1) ∨ (¬ ((1 : Int64).toInt ≤ p2.toInt64.toInt ∧ p2.toInt64.toInt ≤ (999 : Int64).toInt) ∧ u10.toInt = 0)) ∧ (0 ≤ u10.toInt ∧ u10.toInt ≤ 1) := w11
    refine W.eq (g2 := F0 m 17 ls [.int u10]) rfl ?_
    rcases (show u10.toInt = 1 ∨ u10.toInt = 0 by omega) with c15 | c15
    · obtain rfl : u10 = 1 := i_is c15 (by decide)
      refine W.eq (g2 := F0 m 17 ls [.int 1]) rfl ?_
      refine lv_if_ne (tgt := 22) hx hb dX11_resize_17 (by decide) (fun c16 => ?_) (fun c16 => ?_)
      rotate_left
      · exact absurd c16 (by decide)
      refine lv_aload_n hx hb dX11_resize_22 rfl (lv_at hl 0 rfl) ?_
      refine lv_iload_n hx hb dX11_resize_23 rfl (lv_at hl 1 rfl) ?_
      refine lv_iconst (v := 0) hx hb dX11_resize_24 (by decide) ?_
      have zi0 : (0 : Int32).toInt = 0 := by decide
      refine cga (rn_V (As := [.int p1, .int 0]) (rest := []) (b := o) (m_starOfS l D Y Z H.size o a I J F G  p1 (show (0 ≤ p1.toInt ∧ p1.toInt ≤ 11) by omega) hk0) ⟨hx, hb, hml, hown, hg⟩ lk_X11_120 ⟨CP.blind, va_recv hKN.1 hP (ci := 11) (q0 := 0) rfl rfl, CP.at hP hKN hD⟩ ⟨⟨rfl, rfl⟩, ⟨Nat.le_of_ble_eq_true rfl, Nat.le_of_ble_eq_true rfl⟩, ⟨Nat.le_of_ble_eq_true rfl, Nat.le_of_ble_eq_true rfl⟩⟩ hl.1 rfl (Nat.le_of_ble_eq_true rfl) dX11_resize_25) hP hD hS hA (fun u17 H locs w18 hP hD hS => ?_)
      obtain ⟨hw20, hw21⟩ : (0 ≤ u17.toInt ∧ u17.toInt ≤ 999) ∧ u17 = (F 0) (3 + 3 * p1.toNatClampNeg) := w18
      refine W.eq (g2 := F0 m 28 ls [.int u17]) rfl ?_
      have hP : va_P D vwCl (MW Y o a I J F G) H := hP
      have hD : va_D A (MW Y o a I J F G) := hD
      refine lv_istore_n (lv' := [(3, .int u17), (0, .ref o), (1, .int p1), (2, .int p2)]) hx hb dX11_resize_28 rfl hl (by decide) rfl (fun ls hl => ?_)
      refine lv_aload_n hx hb dX11_resize_29 rfl (lv_at hl 1 rfl) ?_
      refine va_get (D := D) (ci := 11) (v := .ref (a 0)) (C := RX11) (T := TX11) (N := 49) hx hb hg inGX11 hown hKN.1 hP 0 rfl rfl 0 (by decide) (hg _ kw_1208) (fun _ h9 => h9) rfl dX11_resize_30 ?_
      refine lv_iconst (v := 3) hx hb dX11_resize_33 (by decide) ?_
      refine lv_iconst (v := 3) hx hb dX11_resize_34 (by decide) ?_
      refine lv_iload_n hx hb dX11_resize_35 rfl (lv_at hl 2 rfl) ?_
      refine lv_imul hx hb dX11_resize_36 ?_
      refine lv_topi (fun v22 ev22 => ?_)
      have hv22 := i_mul (show (3 : Int32).toInt = 3 by decide) (Eq.refl p1.toInt) ev22 (by omega) (by omega)
      refine lv_iadd hx hb dX11_resize_37 ?_
      refine lv_topi (fun v23 ev23 => ?_)
      have hv23 := i_add (show (3 : Int32).toInt = 3 by decide) (Eq.refl v22.toInt) ev23 (by omega) (by omega)
      refine lv_iload_n hx hb dX11_resize_38 rfl (lv_at hl 3 rfl) ?_
      refine va_iast hx hb hKN.1 hP hD hS 1 0 rfl rfl (vp_in_iff.mpr ⟨by omega, by omega⟩) dX11_resize_39 (fun H locs hP hD hS => ?_)
      obtain ⟨f24, ef24, hP, hD⟩ : ∃ f24 : Nat → Int32, f24 = upd (F 0) v23.toNatClampNeg p2 ∧ va_P D vwCl (MW Y o a I J (vf_upd F 0 f24) G) H ∧ va_D A (MW Y o a I J (vf_upd F 0 f24) G) := ⟨_, rfl, hP, hD⟩
      have ct25 := clampI (x := v23) (by omega)
      have t25 : TO f24 := by rw [ef24]; exact TO_set hk0 (by unfold trow; omega) (by omega) (by omega) (by omega) (by omega)
      have ct26 := clampI (x := v23) (by omega)
      have zt26 := clampI (x := p1) (by omega)
      have t26 : KR p1.toNatClampNeg p2 (F 0) f24 := KR_of hk1 ef24 (by omega)
      have ct27 := clampI (x := v23) (by omega)
      have t27 : KD (F 0) f24 := KD_set hk2 ef24 (by omega) (by omega)
      refine lv_iload_n hx hb dX11_resize_40 rfl (lv_at hl 0 rfl) ?_
      refine W.widen (k := 0) (n := 0) (Nat.le_of_ble_eq_true rfl) (Nat.le_of_ble_eq_true rfl) ?_
      exact W.iret (v := u17) hx hb hr (fun t ht hW => ⟨⟨(u17, f24), rfl, ⟨t25, t27, (show ((((0 ≤ p1.toInt ∧ p1.toInt < ((F 0) 0).toInt) ∧ (1 ≤ p2.toInt ∧ p2.toInt ≤ 999)) ∧ u17 = (F 0) (3 + 3 * p1.toNatClampNeg) ∧ KR p1.toNatClampNeg p2 (F 0) f24) ∨ (¬ ((0 ≤ p1.toInt ∧ p1.toInt < ((F 0) 0).toInt) ∧ (1 ≤ p2.toInt ∧ p2.toInt ≤ 999)) ∧ u17.toInt = -1 ∧ KS (F 0) f24)) from (Or.inl ⟨by omega, hw21, t26⟩))⟩, CB.mk ht hP hD⟩, hS.F ht⟩) hS.2.2 dX11_resize_41
    · obtain rfl : u10 = 0 := i_is c15 (by decide)
      have zi0 : (0 : Int32).toInt = 0 := by decide
      refine W.eq (g2 := F0 m 17 ls [.int 0]) rfl ?_
      refine lv_if_ne (tgt := 22) hx hb dX11_resize_17 (by decide) (fun c28 => ?_) (fun c28 => ?_)
      · exact absurd c28 (by decide)
      refine lv_iconst (v := (-1)) hx hb dX11_resize_20 (by decide) ?_
      refine W.widen (k := 0) (n := 0) (Nat.le_of_ble_eq_true rfl) (Nat.le_of_ble_eq_true rfl) ?_
      have zim1 : ((-1) : Int32).toInt = -1 := by decide
      exact W.iret (v := (-1)) hx hb hr (fun t ht hW => ⟨⟨((-1), (F 0)), rfl, ⟨hk0, hk2, (show ((((0 ≤ p1.toInt ∧ p1.toInt < ((F 0) 0).toInt) ∧ (1 ≤ p2.toInt ∧ p2.toInt ≤ 999)) ∧ (-1) = (F 0) (3 + 3 * p1.toNatClampNeg) ∧ KR p1.toNatClampNeg p2 (F 0) (F 0)) ∨ (¬ ((0 ≤ p1.toInt ∧ p1.toInt < ((F 0) 0).toInt) ∧ (1 ≤ p2.toInt ∧ p2.toInt ≤ 999)) ∧ ((-1) : Int32).toInt = -1 ∧ KS (F 0) (F 0))) from (Or.inr ⟨by omega, by decide, hk1⟩))⟩, CB.mk ht hP hD⟩, hS.F ht⟩) hS.2.2 dX11_resize_21
  · obtain rfl : u1 = 0 := i_is c6 (by decide)
    have zi0 : (0 : Int32).toInt = 0 := by decide
    refine W.eq (g2 := F0 m 5 ls [.int 0]) rfl ?_
    refine lv_if_eq (tgt := 20) hx hb dX11_resize_5 (by decide) (fun c29 => ?_) (fun c29 => ?_)
    rotate_left
    · exact absurd c29 (by decide)
    refine lv_iconst (v := (-1)) hx hb dX11_resize_20 (by decide) ?_
    refine W.widen (k := 0) (n := 0) (Nat.le_of_ble_eq_true rfl) (Nat.le_of_ble_eq_true rfl) ?_
    have zim1 : ((-1) : Int32).toInt = -1 := by decide
    exact W.iret (v := (-1)) hx hb hr (fun t ht hW => ⟨⟨((-1), (F 0)), rfl, ⟨hk0, hk2, (show ((((0 ≤ p1.toInt ∧ p1.toInt < ((F 0) 0).toInt) ∧ (1 ≤ p2.toInt ∧ p2.toInt ≤ 999)) ∧ (-1) = (F 0) (3 + 3 * p1.toNatClampNeg) ∧ KR p1.toNatClampNeg p2 (F 0) (F 0)) ∨ (¬ ((0 ≤ p1.toInt ∧ p1.toInt < ((F 0) 0).toInt) ∧ (1 ≤ p2.toInt ∧ p2.toInt ≤ 999)) ∧ ((-1) : Int32).toInt = -1 ∧ KS (F 0) (F 0))) from (Or.inr ⟨by omega, by decide, hk1⟩))⟩, CB.mk ht hP hD⟩, hS.F ht⟩) hS.2.2 dX11_resize_21
set_option maxHeartbeats 4000000 in
set_option maxRecDepth 100000 in
theorem m_imageK (l : Launch) (D : va_G) (Y : Nat → ClassId) (Z : Nat → Nat) (sz : Nat) (o : Nat) (a : Nat → Nat) (I : Nat → Int32) (J : Nat → Int64) (F : Nat → Nat → Int32) (G : Nat → Nat → Int64) (p1 : Int32) (hk0 : TO (F 0)) (hk1 : IMG (F 47)) : Met l yX11_image (.code yX11_image cX11_image 3 (some .int) :: GW) ({ frames := 1, cells := 0, slots := 0, locals := 25 }) (va_Pc [.ref o, .int p1] (CP D Y Z (MW Y o a I J F G) sz)) (QG (S := Int32 × (Nat → Int32) × (Nat → Int32)) (fun u => some (.int u.1)) (fun u => IMG u.2.1 ∧ (((0 ≤ p1.toInt ∧ p1.toInt ≤ 3) ∧ u.1 = (F 0) 0 ∧ IMP p1.toNatClampNeg (F 0) (F 47) (F 48) u.2.1 u.2.2) ∨ (¬ (0 ≤ p1.toInt ∧ p1.toInt ≤ 3) ∧ u.1.toInt = -1 ∧ u.2.1 = (F 47) ∧ u.2.2 = (F 48)))) (fun u => CB D (MW Y o a I J (vf_upd (vf_upd F 47 u.2.1) 48 u.2.2) G) (va_A (MW Y o a I J F G) sz)) (va_A (MW Y o a I J F G) sz)) 0 0 (va_A (MW Y o a I J F G) sz) := by
  refine Met.ofW (cc := cX11_image) (maxL := 3) (ret := (some .int)) (by decide) rfl ?_
  intro p e s m args below meth c s₁ B hml hv
  obtain ⟨rfl, hsz, hP, hKN, hD0⟩ := hv
  have hx := B.exec
  have hb := B.bytes
  have hr := B.returns
  have hts := atoms_spec (ws := .code yX11_image cX11_image 3 (some .int) :: GW) B.pre
  have hg : ∀ w ∈ GW, w.before _ s = true := fun w h => hts w (List.mem_cons_of_mem _ h)
  have hown : s.vm.findClass RX11 = some m.cls := findClass_of_methodNamed B.named
  have hlocks := B.notSynchronized
  subst hsz
  have hD := hD0.self (sz := s.heap.size)
  generalize hAe : va_A (MW Y o a I J F G) s.heap.size = A at hD ⊢
  have hA : ∀ q : Nat, s.heap.size ≤ q → A q := fun q h => by rw [← hAe]; exact Or.inr h
  clear hAe hD0 hts B
  have hl := lv_entry ([.ref o, .int p1]) (n := 3) (Nat.le_of_ble_eq_true rfl)
  rw [lg_entry_eq]
  generalize (lg_sl ([.ref o, .int p1]) ++ List.replicate (3 - (lg_sl ([.ref o, .int p1])).length) Slot.unset).toArray = ls at hl ⊢
  have hl : lv_has ls 3 [(0, .ref o), (1, .int p1)] := hl
  refine w_start (A0 := A) hP (fun H locs hP hS => ?_)
  refine lv_iload_n hx hb dX11_image_0 rfl (lv_at hl 1 rfl) ?_
  have j1 := rgI p1
  have j2 := Int32.toInt_toInt64 p1
  refine lv_i2l (v := p1.toInt64) hx hb dX11_image_1 (rfl) ?_
  refine lv_lconst (v := 0) hx hb dX11_image_2 (by decide) ?_
  refine lv_ldc2 (v := 3) hx hb hown (hg _ kw_1912) dX11_image_3 ?_
  have zl0 : (0 : Int64).toInt = 0 := by decide
  have zl3 : (3 : Int64).toInt = 3 := by decide
  refine cg0 (rn_S (As := [.long p1.toInt64, .long 0, .long 3]) (rest := []) (m_in l D Y Z H.size   p1.toInt64 0 3 ) ⟨hx, hb, hml, hown, hg⟩ lk_X11_99 ⟨CP.blind, CP.at nilP hKN (nilD (A := fun _ => True))⟩ ⟨⟨rfl, rfl⟩, ⟨Nat.le_of_ble_eq_true rfl, Nat.le_of_ble_eq_true rfl⟩, ⟨Nat.le_of_ble_eq_true rfl, Nat.le_of_ble_eq_true rfl⟩⟩ hl.1 rfl (Nat.le_of_ble_eq_true rfl) dX11_image_6) hP hS hA (fun u3 H locs w4 hP hS => ?_)
  obtain ⟨hw6, hw7⟩ : (((0 : Int64).toInt ≤ p1.toInt64.toInt ∧ p1.toInt64.toInt ≤ (3 : Int64).toInt ∧ u3.toInt = 1) ∨ (¬ ((0 : Int64).toInt ≤ p1.toInt64.toInt ∧ p1.toInt64.toInt ≤ (3 : Int64).toInt) ∧ u3.toInt = 0)) ∧ (0 ≤ u3.toInt ∧ u3.toInt ≤ 1) := w4
  refine W.eq (g2 := F0 m 9 ls [.int u3]) rfl ?_
  rcases (show u3.toInt = 1 ∨ u3.toInt = 0 by omega) with c8 | c8
  · obtain rfl : u3 = 1 := i_is c8 (by decide)
    have zi1 : (1 : Int32).toInt = 1 := by decide
    refine W.eq (g2 := F0 m 9 ls [.int 1]) rfl ?_
    refine lv_if_ne (tgt := 14) hx hb dX11_image_9 (by decide) (fun c9 => ?_) (fun c9 => ?_)
    rotate_left
    · exact absurd c9 (by decide)
    refine lv_aload_n hx hb dX11_image_14 rfl (lv_at hl 0 rfl) ?_
    refine va_get (D := D) (ci := 11) (v := .ref (a 48)) (C := RX11) (T := TX11) (N := 49) hx hb hg inGX11 hown hKN.1 hP 0 rfl rfl 48 (by decide) (hg _ kw_1256) (fun _ h9 => h9) rfl dX11_image_15 ?_
    refine lv_iload_n hx hb dX11_image_18 rfl (lv_at hl 1 rfl) ?_
    refine lv_iconst (v := 1) hx hb dX11_image_19 (by decide) ?_
    refine va_zast hx hb hKN.1 hP hD hS 28 3 rfl rfl (vp_in_iff.mpr ⟨by omega, by omega⟩) dX11_image_20 (fun H locs hP hD hS => ?_)
    obtain ⟨f10, ef10, hP, hD⟩ : ∃ f10 : Nat → Int32, f10 = upd (F 48) p1.toNatClampNeg (vp_nar .boolean 1) ∧ va_P D vwCl (MW Y o a I J (vf_upd F 48 f10) G) H ∧ va_D A (MW Y o a I J (vf_upd F 48 f10) G) := ⟨_, rfl, hP, hD⟩
    refine lv_iconst (v := 0) hx hb dX11_image_21 (by decide) ?_
    refine lv_istore_n (lv' := [(2, .int 0), (0, .ref o), (1, .int p1)]) hx hb dX11_image_22 rfl hl (by decide) rfl (fun ls hl => ?_)
    have zi0 : (0 : Int32).toInt = 0 := by decide
    refine w_loop (σ := Int32 × (Nat → Int32)) (fun xx H locs ls => match xx with | (g17, f18) => va_P D vwCl (MW Y o a I J (vf_upd (vf_upd F 47 f18) 48 f10) G) H ∧ va_D A (MW Y o a I J (vf_upd (vf_upd F 47 f18) 48 f10) G) ∧ va_S A s.heap H locs ∧ lv_has ls 3 [(2, .int g17), (0, .ref o), (1, .int p1)] ∧ (0 ≤ g17.toInt ∧ g17.toInt ≤ 7533) ∧ (∀ n : Nat, (n : Int) < g17.toInt → f18 (7533 * (p1.toInt).toNat + n) = (F 0) n) ∧ (∀ j : Nat, j < 4 → j ≠ (p1.toInt).toNat → ∀ n, n < 7533 → f18 (7533 * j + n) = F 47 (7533 * j + n))) (fun xx => match xx with | (g17, f18) => (7533 - g17.toInt).toNat) (0, (F 47)) ⟨hP, hD, hS, lv_sub hl [0, 1, 2] rfl, by omega, (fun n h => by omega), (fun _ _ _ _ _ => rfl)⟩ (fun xx H locs ls hI ih => ?_)
    obtain ⟨g17, f18⟩ := xx
    obtain ⟨hP, hD, hS, hl, hq27, hr28, hr29⟩ := hI
    have ih30 := ih
    refine lv_iload_n hx hb dX11_image_23 rfl (lv_at hl 0 rfl) ?_
    refine lv_sipush (v := 7533) hx hb dX11_image_24 (by decide) ?_
    refine lv_icmp_ge (tgt := 54) hx hb dX11_image_27 (by decide) (fun c31 => ?_) (fun c31 => ?_)
    · skip
      have c31 := i_le (show (7533 : Int32).toInt = 7533 by decide) (Eq.refl g17.toInt) c31
      have t32 := IMG_end hk1 hk0 hr28 (by omega) hr29
      refine lv_aload_n hx hb dX11_image_54 rfl (lv_at hl 1 rfl) ?_
      refine va_get (D := D) (ci := 11) (v := .ref (a 0)) (C := RX11) (T := TX11) (N := 49) hx hb hg inGX11 hown hKN.1 hP 0 rfl rfl 0 (by decide) (hg _ kw_1208) (fun _ h9 => h9) rfl dX11_image_55 ?_
      refine lv_iconst (v := 0) hx hb dX11_image_58 (by decide) ?_
      refine va_iald hx hb hKN.1 hP 1 0 rfl rfl (show ¬ ((0 : Int32) < 0 ∨ 7533 ≤ (0 : Int32).toNatClampNeg) by decide) dX11_image_59 ?_
      refine lv_topi (fun v33 ev33 => ?_)
      have ev33 : v33 = (F 0) 0 := ev33
      have kv33 := TO_0 hk0
      rw [← ev33] at kv33
      have qv33 := congrArg Int32.toInt ev33
      refine W.widen (k := 0) (n := 0) (Nat.le_of_ble_eq_true rfl) (Nat.le_of_ble_eq_true rfl) ?_
      exact W.iret (v := v33) hx hb hr (fun t ht hW => ⟨⟨(v33, f18, f10), rfl, ⟨t32, (show (((0 ≤ p1.toInt ∧ p1.toInt ≤ 3) ∧ v33 = (F 0) 0 ∧ IMP p1.toNatClampNeg (F 0) (F 47) (F 48) f18 f10) ∨ (¬ (0 ≤ p1.toInt ∧ p1.toInt ≤ 3) ∧ v33.toInt = -1 ∧ f18 = (F 47) ∧ f10 = (F 48))) from (Or.inl ⟨⟨by omega, by omega⟩, ev33, IMP_mk (i := p1) hr28 (by omega) hr29 ef10 (by decide) rfl (by omega)⟩))⟩, CB.mk ht hP hD⟩, hS.F ht⟩) hS.2.2 dX11_image_60
    · skip
      have c31 := i_nle (show (7533 : Int32).toInt = 7533 by decide) (Eq.refl g17.toInt) c31
      refine lv_aload_n hx hb dX11_image_30 rfl (lv_at hl 1 rfl) ?_
      refine va_get (D := D) (ci := 11) (v := .ref (a 47)) (C := RX11) (T := TX11) (N := 49) hx hb hg inGX11 hown hKN.1 hP 0 rfl rfl 47 (by decide) (hg _ kw_1255) (fun _ h9 => h9) rfl dX11_image_31 ?_
      refine lv_sipush (v := 7533) hx hb dX11_image_34 (by decide) ?_
      refine lv_iload_n hx hb dX11_image_37 rfl (lv_at hl 2 rfl) ?_
      refine lv_imul hx hb dX11_image_38 ?_
      refine lv_topi (fun v34 ev34 => ?_)
      have hv34 := i_mul (show (7533 : Int32).toInt = 7533 by decide) (Eq.refl p1.toInt) ev34 (by omega) (by omega)
      refine lv_iload_n hx hb dX11_image_39 rfl (lv_at hl 0 rfl) ?_
      refine lv_iadd hx hb dX11_image_40 ?_
      refine lv_topi (fun v35 ev35 => ?_)
      have hv35 := i_add (Eq.refl v34.toInt) (Eq.refl g17.toInt) ev35 (by omega) (by omega)
      refine lv_aload_n hx hb dX11_image_41 rfl (lv_at hl 1 rfl) ?_
      refine va_get (D := D) (ci := 11) (v := .ref (a 0)) (C := RX11) (T := TX11) (N := 49) hx hb hg inGX11 hown hKN.1 hP 0 rfl rfl 0 (by decide) (hg _ kw_1208) (fun _ h9 => h9) rfl dX11_image_42 ?_
      refine lv_iload_n hx hb dX11_image_45 rfl (lv_at hl 0 rfl) ?_
      refine va_iald hx hb hKN.1 hP 1 0 rfl rfl (vp_in_iff.mpr ⟨by omega, by omega⟩) dX11_image_46 ?_
      refine lv_topi (fun v36 ev36 => ?_)
      have ev36 : v36 = (F 0) g17.toNatClampNeg := ev36
      refine va_iast hx hb hKN.1 hP hD hS 27 0 rfl rfl (vp_in_iff.mpr ⟨by omega, by omega⟩) dX11_image_47 (fun H locs hP hD hS => ?_)
      obtain ⟨f37, ef37, hP, hD⟩ : ∃ f37 : Nat → Int32, f37 = upd f18 v35.toNatClampNeg v36 ∧ va_P D vwCl (MW Y o a I J (vf_upd (vf_upd F 47 f37) 48 f10) G) H ∧ va_D A (MW Y o a I J (vf_upd (vf_upd F 47 f37) 48 f10) G) := ⟨_, rfl, hP, hD⟩
      have t38c := IC_s (K := p1.toInt.toNat) (i := g17) (idx := v35) (j := g17.toInt + 1) hr28 ef37 (by omega) (by omega) ev36 rfl
      have t38o := IO_s (K := p1.toInt.toNat) (i := g17) (idx := v35) hr29 ef37 (by omega) (by omega) (by omega)
      obtain ⟨v39, ev39⟩ : ∃ y : Int32, y = g17 + 1 := ⟨_, rfl⟩
      have hv39 := i_add (Eq.refl g17.toInt) (show (1 : Int32).toInt = 1 by decide) ev39 (by omega) (by omega)
      refine lv_iinc (v := v39) (lv' := [(2, .int v39), (0, .ref o), (1, .int p1)]) hx hb dX11_image_48 hl (k := 0) rfl (by rw [ev39]; rfl) (by decide) rfl (fun ls hl => ?_)
      refine lv_goto (tgt := 23) hx hb dX11_image_51 (by decide) ?_
      exact ih30 (v39, f37) H locs ls (by show (7533 - v39.toInt).toNat < (7533 - g17.toInt).toNat; omega) ⟨hP, hD, hS, lv_sub hl [0, 1, 2] rfl, by omega, (fun n h => t38c n (by omega)), t38o⟩
  · obtain rfl : u3 = 0 := i_is c8 (by decide)
    have zi0 : (0 : Int32).toInt = 0 := by decide
    refine W.eq (g2 := F0 m 9 ls [.int 0]) rfl ?_
    refine lv_if_ne (tgt := 14) hx hb dX11_image_9 (by decide) (fun c40 => ?_) (fun c40 => ?_)
    · exact absurd c40 (by decide)
    refine lv_iconst (v := (-1)) hx hb dX11_image_12 (by decide) ?_
    refine W.widen (k := 0) (n := 0) (Nat.le_of_ble_eq_true rfl) (Nat.le_of_ble_eq_true rfl) ?_
    have zim1 : ((-1) : Int32).toInt = -1 := by decide
    exact W.iret (v := (-1)) hx hb hr (fun t ht hW => ⟨⟨((-1), (F 47), (F 48)), rfl, ⟨hk1, (show (((0 ≤ p1.toInt ∧ p1.toInt ≤ 3) ∧ (-1) = (F 0) 0 ∧ IMP p1.toNatClampNeg (F 0) (F 47) (F 48) (F 47) (F 48)) ∨ (¬ (0 ≤ p1.toInt ∧ p1.toInt ≤ 3) ∧ ((-1) : Int32).toInt = -1 ∧ (F 47) = (F 47) ∧ (F 48) = (F 48))) from (Or.inr ⟨by omega, by decide, rfl, rfl⟩))⟩, CB.mk ht hP hD⟩, hS.F ht⟩) hS.2.2 dX11_image_13
