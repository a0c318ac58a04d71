set_option maxHeartbeats 4000000 in
set_option maxRecDepth 100000 in
theorem m_next (l : Launch) (D : va_G) (Y : Nat → ClassId) (Z : Nat → Nat) (sz : Nat) (o : Nat) (a : Nat → Nat) (I : Nat → Int32) (J : Nat → Int64) (F : Nat → Nat → Int32) (G : Nat → Nat → Int64) (p1 : Int32) (p2 : Int32) (p3 : Int32) (hk0 : TO (F 0)) (hk1 : LB (F 28)) (hk2 : TX (F 4) (F 9) (F 10) (F 11) (F 12) (F 13)) : Met l yX11_next (.code yX11_next cX11_next 5 (some .int) :: GW) ({ frames := 7, cells := 0, slots := 0, locals := 169 }) (va_Pc [.ref o, .int p1, .int p2, .int p3] (CP D Y Z (MW Y o a I J F G) sz)) (QG (S := Int32 × Int32 × Int32 × Int32 × Int32 × Int64 × Int64 × Int32 × Int64 × Int64 × (Nat → Int32) × (Nat → Int32) × (Nat → Int64) × (Nat → Int32) × (Nat → Int64) × (Nat → Int32)) (fun u => some (.int u.1)) (fun u => LB u.2.2.2.2.2.2.2.2.2.2.2.1) (fun u => CB D (MW Y o a (upd (upd (upd (upd (upd I 29 u.2.2.2.2.2.2.2.1) 34 u.2.1) 35 u.2.2.1) 36 u.2.2.2.1) 39 u.2.2.2.2.1) (vp_updL (vp_updL (vp_updL (vp_updL J 30 u.2.2.2.2.2.2.2.2.1) 31 u.2.2.2.2.2.2.2.2.2.1) 37 u.2.2.2.2.2.1) 38 u.2.2.2.2.2.2.1) (vf_upd (vf_upd (vf_upd (vf_upd F 1 u.2.2.2.2.2.2.2.2.2.2.1) 28 u.2.2.2.2.2.2.2.2.2.2.2.1) 41 u.2.2.2.2.2.2.2.2.2.2.2.2.2.1) 43 u.2.2.2.2.2.2.2.2.2.2.2.2.2.2.2) (vf_upd (vf_upd G 40 u.2.2.2.2.2.2.2.2.2.2.2.2.1) 42 u.2.2.2.2.2.2.2.2.2.2.2.2.2.2.1)) (va_A (MW Y o a I J F G) sz)) (va_A (MW Y o a I J F G) sz)) 0 0 (va_A (MW Y o a I J F G) sz) := by
  refine Met.ofW (cc := cX11_next) (maxL := 5) (ret := (some .int)) (by decide) rfl ?_
  intro p e s m args below meth c s₁ B hml hv
  obtain ⟨rfl, hsz, hP, hKN, hD0⟩ := hv
  have hx := B.exec
  have hb := B.bytes
  have hr := B.returns
  have hts := atoms_spec (ws := .code yX11_next cX11_next 5 (some .int) :: GW) B.pre
  have hg : ∀ w ∈ GW, w.before _ s = true := fun w h => hts w (List.mem_cons_of_mem _ h)
  have hown : s.vm.findClass RX11 = some m.cls := findClass_of_methodNamed B.named
  have hlocks := B.notSynchronized
  subst hsz
  have hD := hD0.self (sz := s.heap.size)
  generalize hAe : va_A (MW Y o a I J F G) s.heap.size = A at hD ⊢
  have hA : ∀ q : Nat, s.heap.size ≤ q → A q := fun q h => by rw [← hAe]; exact Or.inr h
  clear hAe hD0 hts B
  have hl := lv_entry ([.ref o, .int p1, .int p2, .int p3]) (n := 5) (Nat.le_of_ble_eq_true rfl)
  rw [lg_entry_eq]
  generalize (lg_sl ([.ref o, .int p1, .int p2, .int p3]) ++ List.replicate (5 - (lg_sl ([.ref o, .int p1, .int p2, .int p3])).length) Slot.unset).toArray = ls at hl ⊢
  have hl : lv_has ls 5 [(0, .ref o), (1, .int p1), (2, .int p2), (3, .int p3)] := hl
  refine w_start (A0 := A) hP (fun H locs hP hS => ?_)
  refine lv_aload_n hx hb dX11_next_0 rfl (lv_at hl 0 rfl) ?_
  refine lv_iconst (v := 1) hx hb dX11_next_1 (by decide) ?_
  refine lv_iload_n hx hb dX11_next_2 rfl (lv_at hl 1 rfl) ?_
  have zi1 : (1 : Int32).toInt = 1 := by decide
  refine cga (rn_V (As := [.int 1, .int p1]) (rest := []) (b := o) (m_isText1 l D Y Z H.size o a I J F G  p1 hk2) ⟨hx, hb, hml, hown, hg⟩ lk_X11_366 ⟨CP.blind, va_recv hKN.1 hP (ci := 11) (q0 := 0) rfl rfl, CP.at hP hKN hD⟩ ⟨⟨rfl, rfl⟩, ⟨Nat.le_of_ble_eq_true rfl, Nat.le_of_ble_eq_true rfl⟩, ⟨Nat.le_of_ble_eq_true rfl, Nat.le_of_ble_eq_true rfl⟩⟩ hl.1 rfl (Nat.le_of_ble_eq_true rfl) dX11_next_3) hP hD hS hA (fun u1 H locs w2 hP hD hS => ?_)
  have w2 : ((0 ≤ p1.toInt ∧ p1.toInt ≤ 5 ∧ p1.toInt < ((F 4) 1).toInt ∧ u1.toInt = 1) ∨ u1.toInt = 0) ∧ (0 ≤ u1.toInt ∧ u1.toInt ≤ 1) := w2
  obtain ⟨hw4, hw5⟩ := w2
  refine W.eq (g2 := F0 m 6 ls [.int u1]) rfl ?_
  have hP : va_P D vwCl (MW Y o a I J F G) H := hP
  have hD : va_D A (MW Y o a I J F G) := hD
  rcases (show u1.toInt = 1 ∨ u1.toInt = 0 by omega) with c6 | c6
  · obtain rfl : u1 = 1 := i_is c6 (by decide)
    refine W.eq (g2 := F0 m 6 ls [.int 1]) rfl ?_
    refine lv_if_eq (tgt := 29) hx hb dX11_next_6 (by decide) (fun c7 => ?_) (fun c7 => ?_)
    · exact absurd c7 (by decide)
    refine lv_aload_n hx hb dX11_next_9 rfl (lv_at hl 0 rfl) ?_
    refine lv_iload_n hx hb dX11_next_10 rfl (lv_at hl 2 rfl) ?_
    refine cga (rn_V (As := [.int p2]) (rest := []) (b := o) (m_isStar l D Y Z H.size o a I J F G  p2 hk0) ⟨hx, hb, hml, hown, hg⟩ lk_X11_108 ⟨CP.blind, va_recv hKN.1 hP (ci := 11) (q0 := 0) rfl rfl, CP.at hP hKN hD⟩ ⟨⟨rfl, rfl⟩, ⟨Nat.le_of_ble_eq_true rfl, Nat.le_of_ble_eq_true rfl⟩, ⟨Nat.le_of_ble_eq_true rfl, Nat.le_of_ble_eq_true rfl⟩⟩ hl.1 rfl (Nat.le_of_ble_eq_true rfl) dX11_next_11) hP hD hS hA (fun u8 H locs w9 hP hD hS => ?_)
    have w9 : ((0 ≤ p2.toInt ∧ p2.toInt ≤ 11 ∧ p2.toInt < ((F 0) 0).toInt ∧ u8.toInt = 1) ∨ (¬ (0 ≤ p2.toInt ∧ p2.toInt < ((F 0) 0).toInt) ∧ u8.toInt = 0)) ∧ (0 ≤ u8.toInt ∧ u8.toInt ≤ 1) := w9
    obtain ⟨hw11, hw12⟩ := w9
    refine W.eq (g2 := F0 m 14 ls [.int u8]) rfl ?_
    have hP : va_P D vwCl (MW Y o a I J F G) H := hP
    have hD : va_D A (MW Y o a I J F G) := hD
    rcases (show u8.toInt = 1 ∨ u8.toInt = 0 by omega) with c13 | c13
    · obtain rfl : u8 = 1 := i_is c13 (by decide)
      refine W.eq (g2 := F0 m 14 ls [.int 1]) rfl ?_
      refine lv_if_eq (tgt := 29) hx hb dX11_next_14 (by decide) (fun c14 => ?_) (fun c14 => ?_)
      · exact absurd c14 (by decide)
      refine lv_iload_n hx hb dX11_next_17 rfl (lv_at hl 3 rfl) ?_
      have j15 := rgI p3
      have j16 := Int32.toInt_toInt64 p3
      refine lv_i2l (v := p3.toInt64) hx hb dX11_next_18 (rfl) ?_
      refine lv_lconst (v := 0) hx hb dX11_next_19 (by decide) ?_
      refine lv_ldc2 (v := 99999) hx hb hown (hg _ kw_1772) dX11_next_20 ?_
      have zl0 : (0 : Int64).toInt = 0 := by decide
      have zl99999 : (99999 : Int64).toInt = 99999 := by decide
      refine cg0 (rn_S (As := [.long p3.toInt64, .long 0, .long 99999]) (rest := []) (m_in l D Y Z H.size   p3.toInt64 0 99999 ) ⟨hx, hb, hml, hown, hg⟩ lk_X11_99 ⟨CP.blind, CP.at nilP hKN (nilD (A := fun _ => True))⟩ ⟨⟨rfl, rfl⟩, ⟨Nat.le_of_ble_eq_true rfl, Nat.le_of_ble_eq_true rfl⟩, ⟨Nat.le_of_ble_eq_true rfl, Nat.le_of_ble_eq_true rfl⟩⟩ hl.1 rfl (Nat.le_of_ble_eq_true rfl) dX11_next_23) hP hS hA (fun u17 H locs w18 hP hS => ?_)
      have w18 : (((0 : Int64).toInt ≤ p3.toInt64.toInt ∧ p3.toInt64.toInt ≤ (99999 : Int64).toInt ∧ u17.toInt = 1) ∨ (¬ ((0 : Int64).toInt ≤ p3.toInt64.toInt ∧ p3.toInt64.toInt ≤ (99999 : Int64).toInt) ∧ u17.toInt = 0)) ∧ (0 ≤ u17.toInt ∧ u17.toInt ≤ 1) := w18
      obtain ⟨hw20, hw21⟩ := w18
      refine W.eq (g2 := F0 m 26 ls [.int u17]) rfl ?_
      rcases (show u17.toInt = 1 ∨ u17.toInt = 0 by omega) with c22 | c22
      · obtain rfl : u17 = 1 := i_is c22 (by decide)
        refine W.eq (g2 := F0 m 26 ls [.int 1]) rfl ?_
        refine lv_if_ne (tgt := 31) hx hb dX11_next_26 (by decide) (fun c23 => ?_) (fun c23 => ?_)
        rotate_left
        · exact absurd c23 (by decide)
        refine lv_aload_n hx hb dX11_next_31 rfl (lv_at hl 0 rfl) ?_
        refine lv_iload_n hx hb dX11_next_32 rfl (lv_at hl 1 rfl) ?_
        refine lv_iload_n hx hb dX11_next_33 rfl (lv_at hl 2 rfl) ?_
        refine lv_iconst (v := 0) hx hb dX11_next_34 (by decide) ?_
        have zi0 : (0 : Int32).toInt = 0 := by decide
        refine cga (rn_V (As := [.int p1, .int p2, .int 0]) (rest := []) (b := o) (m_finds l D Y Z H.size o a I J F G  p1 p2 0 (show (0 ≤ p1.toInt ∧ p1.toInt ≤ 5) by omega) (show (p1.toInt < ((F 4) 1).toInt) by omega) (show (0 ≤ p2.toInt ∧ p2.toInt ≤ 11) by omega) (show (0 ≤ (0 : Int32).toInt ∧ (0 : Int32).toInt ≤ 5) by omega) hk0 hk1 hk2) ⟨hx, hb, hml, hown, hg⟩ lk_X11_487 ⟨CP.blind, va_recv hKN.1 hP (ci := 11) (q0 := 0) rfl rfl, CP.at hP hKN hD⟩ ⟨⟨rfl, rfl⟩, ⟨Nat.le_of_ble_eq_true rfl, Nat.le_of_ble_eq_true rfl⟩, ⟨Nat.le_of_ble_eq_true rfl, Nat.le_of_ble_eq_true rfl⟩⟩ hl.1 rfl (Nat.le_of_ble_eq_true rfl) dX11_next_35) hP hD hS hA (fun u24 H locs w25 hP hD hS => ?_)
        obtain ⟨u26, u27, u28, u29, u30, u31, u32, u33, u34, u35, f36, f37, f38, f39, f40, f41⟩ := u24
        have w25 : ((u26.toInt = 1 ∧ 1 ≤ u32.toInt ∧ 2 ≤ u27.toInt ∧ u27.toInt ≤ 200 ∧ 1 ≤ u28.toInt ∧ u28.toInt ≤ 10 ∧ 0 ≤ u29.toInt ∧ u29.toInt < u27.toInt ∧ -9000000000000 ≤ u31.toInt ∧ u31.toInt ≤ 9000000000000 ∧ (cin f37 (u27.toInt).toNat (u28.toInt).toNat (u29.toInt).toNat 600 : Int) ≠ u33.toInt) ∨ u26.toInt = 0) ∧ (0 ≤ u26.toInt ∧ u26.toInt ≤ 1) ∧ (0 ≤ u33.toInt ∧ u33.toInt ≤ 600) ∧ (-60000000 ≤ u34.toInt ∧ u34.toInt ≤ 60000000) ∧ (1 ≤ u35.toInt) ∧ LB f37 := w25
        obtain ⟨hw42, hw43, hw44, hw45, hw46, hw47⟩ := w25
        refine W.eq (g2 := F0 m 38 ls [.int u26]) rfl ?_
        have hP : va_P D vwCl (MW Y o a (upd (upd (upd (upd (upd I 29 u33) 34 u27) 35 u28) 36 u29) 39 u30) (vp_updL (vp_updL (vp_updL (vp_updL J 30 u34) 31 u35) 37 u31) 38 u32) (vf_upd (vf_upd (vf_upd (vf_upd F 1 f36) 28 f37) 41 f39) 43 f41) (vf_upd (vf_upd G 40 f38) 42 f40)) H := hP
        have hD : va_D A (MW Y o a (upd (upd (upd (upd (upd I 29 u33) 34 u27) 35 u28) 36 u29) 39 u30) (vp_updL (vp_updL (vp_updL (vp_updL J 30 u34) 31 u35) 37 u31) 38 u32) (vf_upd (vf_upd (vf_upd (vf_upd F 1 f36) 28 f37) 41 f39) 43 f41) (vf_upd (vf_upd G 40 f38) 42 f40)) := hD
        rcases (show u26.toInt = 1 ∨ u26.toInt = 0 by omega) with c48 | c48
        · obtain rfl : u26 = 1 := i_is c48 (by decide)
          refine W.eq (g2 := F0 m 38 ls [.int 1]) rfl ?_
          refine lv_if_ne (tgt := 44) hx hb dX11_next_38 (by decide) (fun c49 => ?_) (fun c49 => ?_)
          rotate_left
          · exact absurd c49 (by decide)
          refine lv_iload_n hx hb dX11_next_44 rfl (lv_at hl 3 rfl) ?_
          refine lv_aload_n hx hb dX11_next_45 rfl (lv_at hl 0 rfl) ?_
          refine va_get (D := D) (ci := 11) (v := .int u29) (C := RX11) (T := TX11) (N := 49) hx hb hg inGX11 hown hKN.1 hP 0 rfl rfl 36 (by decide) (hg _ kw_1244) (fun _ h9 => h9) rfl dX11_next_46 ?_
          refine w_join (σ := Int32) (pcJ := 74) (kJ := 0) (nJ := 0) (stk := fun xx => match xx with | g55 => [.int g55]) (fun xx H locs ls => match xx with | g55 => va_P D vwCl (MW Y o a (upd (upd (upd (upd (upd I 29 u33) 34 u27) 35 u28) 36 u29) 39 u30) (vp_updL (vp_updL (vp_updL (vp_updL J 30 u34) 31 u35) 37 u31) 38 u32) (vf_upd (vf_upd (vf_upd (vf_upd F 1 f36) 28 f37) 41 f39) 43 f41) (vf_upd (vf_upd G 40 f38) 42 f40)) H ∧ va_D A (MW Y o a (upd (upd (upd (upd (upd I 29 u33) 34 u27) 35 u28) 36 u29) 39 u30) (vp_updL (vp_updL (vp_updL (vp_updL J 30 u34) 31 u35) 37 u31) 38 u32) (vf_upd (vf_upd (vf_upd (vf_upd F 1 f36) 28 f37) 41 f39) 43 f41) (vf_upd (vf_upd G 40 f38) 42 f40)) ∧ va_S A s.heap H locs ∧ lv_has ls 5 [(0, .ref o), (1, .int p1), (2, .int p2), (3, .int p3)] ∧ (-197 ≤ g55.toInt ∧ g55.toInt ≤ 100198)) (fun xx H locs ls hI => ?_) (fun jn56 => ?_)
          · skip
            revert hI
            generalize xx = g55
            intro hI
            obtain ⟨hP, hD, hS, hl, hq57⟩ := hI
            refine W.eq (g2 := F0 m 74 ls [.int g55]) rfl ?_
            refine lv_istore (lv' := [(4, .int g55), (0, .ref o), (1, .int p1), (2, .int p2), (3, .int p3)]) hx hb dX11_next_74 hl (by decide) rfl (fun ls hl => ?_)
            refine lv_aload_n hx hb dX11_next_76 rfl (lv_at hl 1 rfl) ?_
            refine va_get (D := D) (ci := 11) (v := .int u29) (C := RX11) (T := TX11) (N := 49) hx hb hg inGX11 hown hKN.1 hP 0 rfl rfl 36 (by decide) (hg _ kw_1244) (fun _ h9 => h9) rfl dX11_next_77 ?_
            refine lv_iload hx hb dX11_next_80 (lv_at hl 0 rfl) ?_
            refine lv_aload_n hx hb dX11_next_82 rfl (lv_at hl 1 rfl) ?_
            refine va_get (D := D) (ci := 11) (v := .int u27) (C := RX11) (T := TX11) (N := 49) hx hb hg inGX11 hown hKN.1 hP 0 rfl rfl 34 (by decide) (hg _ kw_1242) (fun _ h9 => h9) rfl dX11_next_83 ?_
            refine lv_imul hx hb dX11_next_86 ?_
            refine lv_topi (fun v58 ev58 => ?_)
            have hv58 := i_mulR (a := -197) (b := 100198) (c := 2) (d := 200) (lo := -39400) (hi := 20039600) (Eq.refl g55.toInt) (Eq.refl u27.toInt) ev58 (by omega) (by omega) (by decide) (by decide)
            refine lv_iadd hx hb dX11_next_87 ?_
            refine lv_topi (fun v59 ev59 => ?_)
            have hv59 := i_add (Eq.refl u29.toInt) (Eq.refl v58.toInt) ev59 (by omega) (by omega)
            refine W.widen (k := 0) (n := 0) (Nat.le_of_ble_eq_true rfl) (Nat.le_of_ble_eq_true rfl) ?_
            exact W.iret (v := v59) hx hb hr (fun t ht hW => ⟨⟨(v59, u27, u28, u29, u30, u31, u32, u33, u34, u35, f36, f37, f38, f39, f40, f41), rfl, (hw47), CB.mk ht hP hD⟩, hS.F ht⟩) hS.2.2 dX11_next_88
          · skip
            refine lv_icmp_gt (tgt := 56) hx hb dX11_next_49 (by decide) (fun c60 => ?_) (fun c60 => ?_)
            · skip
              have c60 := i_lt (Eq.refl u29.toInt) (Eq.refl p3.toInt) c60
              refine lv_iload_n hx hb dX11_next_56 rfl (lv_at hl 3 rfl) ?_
              refine lv_aload_n hx hb dX11_next_57 rfl (lv_at hl 0 rfl) ?_
              refine va_get (D := D) (ci := 11) (v := .int u29) (C := RX11) (T := TX11) (N := 49) hx hb hg inGX11 hown hKN.1 hP 0 rfl rfl 36 (by decide) (hg _ kw_1244) (fun _ h9 => h9) rfl dX11_next_58 ?_
              refine lv_isub hx hb dX11_next_61 ?_
              refine lv_topi (fun v61 ev61 => ?_)
              have hv61 := i_sub (Eq.refl p3.toInt) (Eq.refl u29.toInt) ev61 (by omega) (by omega)
              refine lv_aload_n hx hb dX11_next_62 rfl (lv_at hl 0 rfl) ?_
              refine va_get (D := D) (ci := 11) (v := .int u27) (C := RX11) (T := TX11) (N := 49) hx hb hg inGX11 hown hKN.1 hP 0 rfl rfl 34 (by decide) (hg _ kw_1242) (fun _ h9 => h9) rfl dX11_next_63 ?_
              refine lv_iadd hx hb dX11_next_66 ?_
              refine lv_topi (fun v62 ev62 => ?_)
              have hv62 := i_add (Eq.refl v61.toInt) (Eq.refl u27.toInt) ev62 (by omega) (by omega)
              refine lv_iconst (v := 1) hx hb dX11_next_67 (by decide) ?_
              refine lv_isub hx hb dX11_next_68 ?_
              refine lv_topi (fun v63 ev63 => ?_)
              have hv63 := i_sub (Eq.refl v62.toInt) (show (1 : Int32).toInt = 1 by decide) ev63 (by omega) (by omega)
              refine lv_aload_n hx hb dX11_next_69 rfl (lv_at hl 0 rfl) ?_
              refine va_get (D := D) (ci := 11) (v := .int u27) (C := RX11) (T := TX11) (N := 49) hx hb hg inGX11 hown hKN.1 hP 0 rfl rfl 34 (by decide) (hg _ kw_1242) (fun _ h9 => h9) rfl dX11_next_70 ?_
              refine lv_idiv hx hb dX11_next_73 (i_nz (Eq.refl u27.toInt) (by omega)) ?_
              refine lv_topi (fun v64 ev64 => ?_)
              have hv64 := i_divS (Eq.refl v63.toInt) (Eq.refl u27.toInt) ev64 (by omega)
              refine W.widen (k := 0) (n := 0) (Nat.le_of_ble_eq_true rfl) (Nat.le_of_ble_eq_true rfl) ?_
              exact jn56 (v64) H locs ls ⟨hP, hD, hS, lv_sub hl [0, 1, 2, 3] rfl, by omega⟩
            · skip
              have c60 := i_nlt (Eq.refl u29.toInt) (Eq.refl p3.toInt) c60
              refine lv_iconst (v := 0) hx hb dX11_next_52 (by decide) ?_
              refine lv_goto (tgt := 74) hx hb dX11_next_53 (by decide) ?_
              refine W.widen (k := 0) (n := 0) (Nat.le_of_ble_eq_true rfl) (Nat.le_of_ble_eq_true rfl) ?_
              exact jn56 (0) H locs ls ⟨hP, hD, hS, lv_sub hl [0, 1, 2, 3] rfl, by omega⟩
        · obtain rfl : u26 = 0 := i_is c48 (by decide)
          refine W.eq (g2 := F0 m 38 ls [.int 0]) rfl ?_
          refine lv_if_ne (tgt := 44) hx hb dX11_next_38 (by decide) (fun c65 => ?_) (fun c65 => ?_)
          · exact absurd c65 (by decide)
          refine lv_bipush (v := (-2)) hx hb dX11_next_41 (by decide) ?_
          refine W.widen (k := 0) (n := 0) (Nat.le_of_ble_eq_true rfl) (Nat.le_of_ble_eq_true rfl) ?_
          have zim2 : ((-2) : Int32).toInt = -2 := by decide
          exact W.iret (v := (-2)) hx hb hr (fun t ht hW => ⟨⟨((-2), u27, u28, u29, u30, u31, u32, u33, u34, u35, f36, f37, f38, f39, f40, f41), rfl, (hw47), CB.mk ht hP hD⟩, hS.F ht⟩) hS.2.2 dX11_next_43
      · obtain rfl : u17 = 0 := i_is c22 (by decide)
        have zi0 : (0 : Int32).toInt = 0 := by decide
        refine W.eq (g2 := F0 m 26 ls [.int 0]) rfl ?_
        refine lv_if_ne (tgt := 31) hx hb dX11_next_26 (by decide) (fun c66 => ?_) (fun c66 => ?_)
        · exact absurd c66 (by decide)
        refine lv_iconst (v := (-1)) hx hb dX11_next_29 (by decide) ?_
        refine W.widen (k := 0) (n := 0) (Nat.le_of_ble_eq_true rfl) (Nat.le_of_ble_eq_true rfl) ?_
        have zim1 : ((-1) : Int32).toInt = -1 := by decide
        exact W.iret (v := (-1)) hx hb hr (fun t ht hW => ⟨⟨((-1), (I 34), (I 35), (I 36), (I 39), (J 37), (J 38), (I 29), (J 30), (J 31), (F 1), (F 28), (G 40), (F 41), (G 42), (F 43)), rfl, (hk1), CB.mk ht hP hD⟩, hS.F ht⟩) hS.2.2 dX11_next_30
    · obtain rfl : u8 = 0 := i_is c13 (by decide)
      have zi0 : (0 : Int32).toInt = 0 := by decide
      refine W.eq (g2 := F0 m 14 ls [.int 0]) rfl ?_
      refine lv_if_eq (tgt := 29) hx hb dX11_next_14 (by decide) (fun c67 => ?_) (fun c67 => ?_)
      rotate_left
      · exact absurd c67 (by decide)
      refine lv_iconst (v := (-1)) hx hb dX11_next_29 (by decide) ?_
      refine W.widen (k := 0) (n := 0) (Nat.le_of_ble_eq_true rfl) (Nat.le_of_ble_eq_true rfl) ?_
      have zim1 : ((-1) : Int32).toInt = -1 := by decide
      exact W.iret (v := (-1)) hx hb hr (fun t ht hW => ⟨⟨((-1), (I 34), (I 35), (I 36), (I 39), (J 37), (J 38), (I 29), (J 30), (J 31), (F 1), (F 28), (G 40), (F 41), (G 42), (F 43)), rfl, (hk1), CB.mk ht hP hD⟩, hS.F ht⟩) hS.2.2 dX11_next_30
  · obtain rfl : u1 = 0 := i_is c6 (by decide)
    have zi0 : (0 : Int32).toInt = 0 := by decide
    refine W.eq (g2 := F0 m 6 ls [.int 0]) rfl ?_
    refine lv_if_eq (tgt := 29) hx hb dX11_next_6 (by decide) (fun c68 => ?_) (fun c68 => ?_)
    rotate_left
    · exact absurd c68 (by decide)
    refine lv_iconst (v := (-1)) hx hb dX11_next_29 (by decide) ?_
    refine W.widen (k := 0) (n := 0) (Nat.le_of_ble_eq_true rfl) (Nat.le_of_ble_eq_true rfl) ?_
    have zim1 : ((-1) : Int32).toInt = -1 := by decide
    exact W.iret (v := (-1)) hx hb hr (fun t ht hW => ⟨⟨((-1), (I 34), (I 35), (I 36), (I 39), (J 37), (J 38), (I 29), (J 30), (J 31), (F 1), (F 28), (G 40), (F 41), (G 42), (F 43)), rfl, (hk1), CB.mk ht hP hD⟩, hS.F ht⟩) hS.2.2 dX11_next_30
set_option maxHeartbeats 4000000 in
set_option maxRecDepth 100000 in
theorem m_alias (l : Launch) (D : va_G) (Y : Nat → ClassId) (Z : Nat → Nat) (sz : Nat) (o : Nat) (a : Nat → Nat) (I : Nat → Int32) (J : Nat → Int64) (F : Nat → Nat → Int32) (G : Nat → Nat → Int64) (p1 : Int32) (p2 : Int32) (p3 : Int32) (hk0 : TO (F 0)) (hk1 : LB (F 28)) (hk2 : TX (F 4) (F 9) (F 10) (F 11) (F 12) (F 13)) : Met l yX11_alias (.code yX11_alias cX11_alias 10 (some .long) :: GW) ({ frames := 7, cells := 0, slots := 0, locals := 169 }) (va_Pc [.ref o, .int p1, .int p2, .int p3] (CP D Y Z (MW Y o a I J F G) sz)) (QG (S := Int64 × Int32 × Int32 × Int32 × Int32 × Int64 × Int64 × Int32 × Int64 × Int64 × Int32 × Int64 × (Nat → Int32) × (Nat → Int32) × (Nat → Int64) × (Nat → Int32) × (Nat → Int64) × (Nat → Int32)) (fun u => some (.long u.1)) (fun u => LB u.2.2.2.2.2.2.2.2.2.2.2.2.2.1) (fun u => CB D (MW Y o a (upd (upd (upd (upd (upd (upd I 29 u.2.2.2.2.2.2.2.1) 32 u.2.2.2.2.2.2.2.2.2.2.1) 34 u.2.1) 35 u.2.2.1) 36 u.2.2.2.1) 39 u.2.2.2.2.1) (vp_updL (vp_updL (vp_updL (vp_updL (vp_updL J 30 u.2.2.2.2.2.2.2.2.1) 31 u.2.2.2.2.2.2.2.2.2.1) 33 u.2.2.2.2.2.2.2.2.2.2.2.1) 37 u.2.2.2.2.2.1) 38 u.2.2.2.2.2.2.1) (vf_upd (vf_upd (vf_upd (vf_upd F 1 u.2.2.2.2.2.2.2.2.2.2.2.2.1) 28 u.2.2.2.2.2.2.2.2.2.2.2.2.2.1) 41 u.2.2.2.2.2.2.2.2.2.2.2.2.2.2.2.1) 43 u.2.2.2.2.2.2.2.2.2.2.2.2.2.2.2.2.2) (vf_upd (vf_upd G 40 u.2.2.2.2.2.2.2.2.2.2.2.2.2.2.1) 42 u.2.2.2.2.2.2.2.2.2.2.2.2.2.2.2.2.1)) (va_A (MW Y o a I J F G) sz)) (va_A (MW Y o a I J F G) sz)) 0 0 (va_A (MW Y o a I J F G) sz) := by
  refine Met.ofW (cc := cX11_alias) (maxL := 10) (ret := (some .long)) (by decide) rfl ?_
  intro p e s m args below meth c s₁ B hml hv
  obtain ⟨rfl, hsz, hP, hKN, hD0⟩ := hv
  have hx := B.exec
  have hb := B.bytes
  have hr := B.returns
  have hts := atoms_spec (ws := .code yX11_alias cX11_alias 10 (some .long) :: GW) B.pre
  have hg : ∀ w ∈ GW, w.before _ s = true := fun w h => hts w (List.mem_cons_of_mem _ h)
  have hown : s.vm.findClass RX11 = some m.cls := findClass_of_methodNamed B.named
  have hlocks := B.notSynchronized
  subst hsz
  have hD := hD0.self (sz := s.heap.size)
  generalize hAe : va_A (MW Y o a I J F G) s.heap.size = A at hD ⊢
  have hA : ∀ q : Nat, s.heap.size ≤ q → A q := fun q h => by rw [← hAe]; exact Or.inr h
  clear hAe hD0 hts B
  have hl := lv_entry ([.ref o, .int p1, .int p2, .int p3]) (n := 10) (Nat.le_of_ble_eq_true rfl)
  rw [lg_entry_eq]
  generalize (lg_sl ([.ref o, .int p1, .int p2, .int p3]) ++ List.replicate (10 - (lg_sl ([.ref o, .int p1, .int p2, .int p3])).length) Slot.unset).toArray = ls at hl ⊢
  have hl : lv_has ls 10 [(0, .ref o), (1, .int p1), (2, .int p2), (3, .int p3)] := hl
  refine w_start (A0 := A) hP (fun H locs hP hS => ?_)
  refine lv_aload_n hx hb dX11_alias_0 rfl (lv_at hl 0 rfl) ?_
  refine lv_iconst (v := 1) hx hb dX11_alias_1 (by decide) ?_
  refine lv_iload_n hx hb dX11_alias_2 rfl (lv_at hl 1 rfl) ?_
  have zi1 : (1 : Int32).toInt = 1 := by decide
  refine cga (rn_V (As := [.int 1, .int p1]) (rest := []) (b := o) (m_isText1 l D Y Z H.size o a I J F G  p1 hk2) ⟨hx, hb, hml, hown, hg⟩ lk_X11_366 ⟨CP.blind, va_recv hKN.1 hP (ci := 11) (q0 := 0) rfl rfl, CP.at hP hKN hD⟩ ⟨⟨rfl, rfl⟩, ⟨Nat.le_of_ble_eq_true rfl, Nat.le_of_ble_eq_true rfl⟩, ⟨Nat.le_of_ble_eq_true rfl, Nat.le_of_ble_eq_true rfl⟩⟩ hl.1 rfl (Nat.le_of_ble_eq_true rfl) dX11_alias_3) hP hD hS hA (fun u1 H locs w2 hP hD hS => ?_)
  have w2 : ((0 ≤ p1.toInt ∧ p1.toInt ≤ 5 ∧ p1.toInt < ((F 4) 1).toInt ∧ u1.toInt = 1) ∨ u1.toInt = 0) ∧ (0 ≤ u1.toInt ∧ u1.toInt ≤ 1) := w2
  obtain ⟨hw4, hw5⟩ := w2
  refine W.eq (g2 := F0 m 6 ls [.int u1]) rfl ?_
  have hP : va_P D vwCl (MW Y o a I J F G) H := hP
  have hD : va_D A (MW Y o a I J F G) := hD
  rcases (show u1.toInt = 1 ∨ u1.toInt = 0 by omega) with c6 | c6
  · obtain rfl : u1 = 1 := i_is c6 (by decide)
    refine W.eq (g2 := F0 m 6 ls [.int 1]) rfl ?_
    refine lv_if_eq (tgt := 29) hx hb dX11_alias_6 (by decide) (fun c7 => ?_) (fun c7 => ?_)
    · exact absurd c7 (by decide)
    refine lv_aload_n hx hb dX11_alias_9 rfl (lv_at hl 0 rfl) ?_
    refine lv_iload_n hx hb dX11_alias_10 rfl (lv_at hl 2 rfl) ?_
    refine cga (rn_V (As := [.int p2]) (rest := []) (b := o) (m_isStar l D Y Z H.size o a I J F G  p2 hk0) ⟨hx, hb, hml, hown, hg⟩ lk_X11_108 ⟨CP.blind, va_recv hKN.1 hP (ci := 11) (q0 := 0) rfl rfl, CP.at hP hKN hD⟩ ⟨⟨rfl, rfl⟩, ⟨Nat.le_of_ble_eq_true rfl, Nat.le_of_ble_eq_true rfl⟩, ⟨Nat.le_of_ble_eq_true rfl, Nat.le_of_ble_eq_true rfl⟩⟩ hl.1 rfl (Nat.le_of_ble_eq_true rfl) dX11_alias_11) hP hD hS hA (fun u8 H locs w9 hP hD hS => ?_)
    have w9 : ((0 ≤ p2.toInt ∧ p2.toInt ≤ 11 ∧ p2.toInt < ((F 0) 0).toInt ∧ u8.toInt = 1) ∨ (¬ (0 ≤ p2.toInt ∧ p2.toInt < ((F 0) 0).toInt) ∧ u8.toInt = 0)) ∧ (0 ≤ u8.toInt ∧ u8.toInt ≤ 1) := w9
    obtain ⟨hw11, hw12⟩ := w9
    refine W.eq (g2 := F0 m 14 ls [.int u8]) rfl ?_
    have hP : va_P D vwCl (MW Y o a I J F G) H := hP
    have hD : va_D A (MW Y o a I J F G) := hD
    rcases (show u8.toInt = 1 ∨ u8.toInt = 0 by omega) with c13 | c13
    · obtain rfl : u8 = 1 := i_is c13 (by decide)
      refine W.eq (g2 := F0 m 14 ls [.int 1]) rfl ?_
      refine lv_if_eq (tgt := 29) hx hb dX11_alias_14 (by decide) (fun c14 => ?_) (fun c14 => ?_)
      · exact absurd c14 (by decide)
      refine lv_iload_n hx hb dX11_alias_17 rfl (lv_at hl 3 rfl) ?_
      have j15 := rgI p3
      have j16 := Int32.toInt_toInt64 p3
      refine lv_i2l (v := p3.toInt64) hx hb dX11_alias_18 (rfl) ?_
      refine lv_lconst (v := 0) hx hb dX11_alias_19 (by decide) ?_
      refine lv_ldc2 (v := 2) hx hb hown (hg _ kw_1443) dX11_alias_20 ?_
      have zl0 : (0 : Int64).toInt = 0 := by decide
      have zl2 : (2 : Int64).toInt = 2 := by decide
      refine cg0 (rn_S (As := [.long p3.toInt64, .long 0, .long 2]) (rest := []) (m_in l D Y Z H.size   p3.toInt64 0 2 ) ⟨hx, hb, hml, hown, hg⟩ lk_X11_99 ⟨CP.blind, CP.at nilP hKN (nilD (A := fun _ => True))⟩ ⟨⟨rfl, rfl⟩, ⟨Nat.le_of_ble_eq_true rfl, Nat.le_of_ble_eq_true rfl⟩, ⟨Nat.le_of_ble_eq_true rfl, Nat.le_of_ble_eq_true rfl⟩⟩ hl.1 rfl (Nat.le_of_ble_eq_true rfl) dX11_alias_23) hP hS hA (fun u17 H locs w18 hP hS => ?_)
      have w18 : (((0 : Int64).toInt ≤ p3.toInt64.toInt ∧ p3.toInt64.toInt ≤ (2 : Int64).toInt ∧ u17.toInt = 1) ∨ (¬ ((0 : Int64).toInt ≤ p3.toInt64.toInt ∧ p3.toInt64.toInt ≤ (2 : Int64).toInt) ∧ u17.toInt = 0)) ∧ (0 ≤ u17.toInt ∧ u17.toInt ≤ 1) := w18
      obtain ⟨hw20, hw21⟩ := w18
      refine W.eq (g2 := F0 m 26 ls [.int u17]) rfl ?_
      rcases (show u17.toInt = 1 ∨ u17.toInt = 0 by omega) with c22 | c22
      · obtain rfl : u17 = 1 := i_is c22 (by decide)
        refine W.eq (g2 := F0 m 26 ls [.int 1]) rfl ?_
        refine lv_if_ne (tgt := 33) hx hb dX11_alias_26 (by decide) (fun c23 => ?_) (fun c23 => ?_)
        rotate_left
        · exact absurd c23 (by decide)
        refine lv_aload_n hx hb dX11_alias_33 rfl (lv_at hl 0 rfl) ?_
        refine lv_iload_n hx hb dX11_alias_34 rfl (lv_at hl 1 rfl) ?_
        refine lv_iload_n hx hb dX11_alias_35 rfl (lv_at hl 2 rfl) ?_
        refine lv_iconst (v := 0) hx hb dX11_alias_36 (by decide) ?_
        have zi0 : (0 : Int32).toInt = 0 := by decide
        refine cga (rn_V (As := [.int p1, .int p2, .int 0]) (rest := []) (b := o) (m_finds l D Y Z H.size o a I J F G  p1 p2 0 (show (0 ≤ p1.toInt ∧ p1.toInt ≤ 5) by omega) (show (p1.toInt < ((F 4) 1).toInt) by omega) (show (0 ≤ p2.toInt ∧ p2.toInt ≤ 11) by omega) (show (0 ≤ (0 : Int32).toInt ∧ (0 : Int32).toInt ≤ 5) by omega) hk0 hk1 hk2) ⟨hx, hb, hml, hown, hg⟩ lk_X11_487 ⟨CP.blind, va_recv hKN.1 hP (ci := 11) (q0 := 0) rfl rfl, CP.at hP hKN hD⟩ ⟨⟨rfl, rfl⟩, ⟨Nat.le_of_ble_eq_true rfl, Nat.le_of_ble_eq_true rfl⟩, ⟨Nat.le_of_ble_eq_true rfl, Nat.le_of_ble_eq_true rfl⟩⟩ hl.1 rfl (Nat.le_of_ble_eq_true rfl) dX11_alias_37) hP hD hS hA (fun u24 H locs w25 hP hD hS => ?_)
        obtain ⟨u26, u27, u28, u29, u30, u31, u32, u33, u34, u35, f36, f37, f38, f39, f40, f41⟩ := u24
        have w25 : ((u26.toInt = 1 ∧ 1 ≤ u32.toInt ∧ 2 ≤ u27.toInt ∧ u27.toInt ≤ 200 ∧ 1 ≤ u28.toInt ∧ u28.toInt ≤ 10 ∧ 0 ≤ u29.toInt ∧ u29.toInt < u27.toInt ∧ -9000000000000 ≤ u31.toInt ∧ u31.toInt ≤ 9000000000000 ∧ (cin f37 (u27.toInt).toNat (u28.toInt).toNat (u29.toInt).toNat 600 : Int) ≠ u33.toInt) ∨ u26.toInt = 0) ∧ (0 ≤ u26.toInt ∧ u26.toInt ≤ 1) ∧ (0 ≤ u33.toInt ∧ u33.toInt ≤ 600) ∧ (-60000000 ≤ u34.toInt ∧ u34.toInt ≤ 60000000) ∧ (1 ≤ u35.toInt) ∧ LB f37 := w25
        obtain ⟨hw42, hw43, hw44, hw45, hw46, hw47⟩ := w25
        refine W.eq (g2 := F0 m 40 ls [.int u26]) rfl ?_
        have hP : va_P D vwCl (MW Y o a (upd (upd (upd (upd (upd I 29 u33) 34 u27) 35 u28) 36 u29) 39 u30) (vp_updL (vp_updL (vp_updL (vp_updL J 30 u34) 31 u35) 37 u31) 38 u32) (vf_upd (vf_upd (vf_upd (vf_upd F 1 f36) 28 f37) 41 f39) 43 f41) (vf_upd (vf_upd G 40 f38) 42 f40)) H := hP
        have hD : va_D A (MW Y o a (upd (upd (upd (upd (upd I 29 u33) 34 u27) 35 u28) 36 u29) 39 u30) (vp_updL (vp_updL (vp_updL (vp_updL J 30 u34) 31 u35) 37 u31) 38 u32) (vf_upd (vf_upd (vf_upd (vf_upd F 1 f36) 28 f37) 41 f39) 43 f41) (vf_upd (vf_upd G 40 f38) 42 f40)) := hD
        rcases (show u26.toInt = 1 ∨ u26.toInt = 0 by omega) with c48 | c48
        · obtain rfl : u26 = 1 := i_is c48 (by decide)
          refine W.eq (g2 := F0 m 40 ls [.int 1]) rfl ?_
          refine lv_if_ne (tgt := 47) hx hb dX11_alias_40 (by decide) (fun c49 => ?_) (fun c49 => ?_)
          rotate_left
          · exact absurd c49 (by decide)
          refine lv_lconst (v := 0) hx hb dX11_alias_47 (by decide) ?_
          refine lv_lstore (lv' := [(4, .long 0), (0, .ref o), (1, .int p1), (2, .int p2), (3, .int p3)]) hx hb dX11_alias_48 hl (by decide) rfl (fun ls hl => ?_)
          refine lv_iconst (v := 2) hx hb dX11_alias_50 (by decide) ?_
          refine lv_aload_n hx hb dX11_alias_51 rfl (lv_at hl 1 rfl) ?_
          refine va_get (D := D) (ci := 11) (v := .int u27) (C := RX11) (T := TX11) (N := 49) hx hb hg inGX11 hown hKN.1 hP 0 rfl rfl 34 (by decide) (hg _ kw_1242) (fun _ h9 => h9) rfl dX11_alias_52 ?_
          refine lv_imul hx hb dX11_alias_55 ?_
          refine lv_topi (fun v50 ev50 => ?_)
          have hv50 := i_mul (show (2 : Int32).toInt = 2 by decide) (Eq.refl u27.toInt) ev50 (by omega) (by omega)
          refine lv_sipush (v := 200) hx hb dX11_alias_56 (by decide) ?_
          refine w_join (σ := Int64 × Int32 × Int64) (pcJ := 124) (kJ := 0) (nJ := 0) (stk := fun xx => match xx with | (g69, g70, g71) => []) (fun xx H locs ls => match xx with | (g69, g70, g71) => va_P D vwCl (MW Y o a (upd (upd (upd (upd (upd (upd I 29 u33) 32 g70) 34 u27) 35 u28) 36 u29) 39 u30) (vp_updL (vp_updL (vp_updL (vp_updL (vp_updL J 30 u34) 31 u35) 33 g71) 37 u31) 38 u32) (vf_upd (vf_upd (vf_upd (vf_upd F 1 f36) 28 f37) 41 f39) 43 f41) (vf_upd (vf_upd G 40 f38) 42 f40)) H ∧ va_D A (MW Y o a (upd (upd (upd (upd (upd (upd I 29 u33) 32 g70) 34 u27) 35 u28) 36 u29) 39 u30) (vp_updL (vp_updL (vp_updL (vp_updL (vp_updL J 30 u34) 31 u35) 33 g71) 37 u31) 38 u32) (vf_upd (vf_upd (vf_upd (vf_upd F 1 f36) 28 f37) 41 f39) 43 f41) (vf_upd (vf_upd G 40 f38) 42 f40)) ∧ va_S A s.heap H locs ∧ lv_has ls 10 [(4, .long g69), (0, .ref o), (1, .int p1), (2, .int p2), (3, .int p3)]) (fun xx H locs ls hI => ?_) (fun jn72 => ?_)
          · skip
            obtain ⟨g69, g70, g71⟩ := xx
            obtain ⟨hP, hD, hS, hl⟩ := hI
            refine W.eq (g2 := F0 m 124 ls []) rfl ?_
            refine lv_aload_n hx hb dX11_alias_124 rfl (lv_at hl 1 rfl) ?_
            refine va_get (D := D) (ci := 11) (v := .int u27) (C := RX11) (T := TX11) (N := 49) hx hb hg inGX11 hown hKN.1 hP 0 rfl rfl 34 (by decide) (hg _ kw_1242) (fun _ h9 => h9) rfl dX11_alias_125 ?_
            refine lv_iconst (v := 2) hx hb dX11_alias_128 (by decide) ?_
            have zi2 : (2 : Int32).toInt = 2 := by decide
            refine lv_idiv hx hb dX11_alias_129 (i_nz (show (2 : Int32).toInt = 2 by decide) (by omega)) ?_
            refine lv_topi (fun v73 ev73 => ?_)
            have hv73 := i_div (Eq.refl u27.toInt) (show (2 : Int32).toInt = 2 by decide) ev73 (by omega) (by omega)
            refine lv_istore (lv' := [(6, .int v73), (4, .long g69), (0, .ref o), (1, .int p1), (2, .int p2), (3, .int p3)]) hx hb dX11_alias_130 hl (by decide) rfl (fun ls hl => ?_)
            refine lv_aload_n hx hb dX11_alias_132 rfl (lv_at hl 2 rfl) ?_
            refine va_get (D := D) (ci := 11) (v := .int u27) (C := RX11) (T := TX11) (N := 49) hx hb hg inGX11 hown hKN.1 hP 0 rfl rfl 34 (by decide) (hg _ kw_1242) (fun _ h9 => h9) rfl dX11_alias_133 ?_
            refine lv_iconst (v := 2) hx hb dX11_alias_136 (by decide) ?_
            refine lv_irem hx hb dX11_alias_137 (i_nz (show (2 : Int32).toInt = 2 by decide) (by omega)) ?_
            refine lv_topi (fun v74 ev74 => ?_)
            have hv74 := i_rem (Eq.refl u27.toInt) (show (2 : Int32).toInt = 2 by decide) ev74 (by omega) (by omega)
            refine lv_iconst (v := 1) hx hb dX11_alias_138 (by decide) ?_
            refine w_join (σ := Int64 × Int32 × Int64) (pcJ := 172) (kJ := 0) (nJ := 0) (stk := fun xx => match xx with | (g83, g84, g85) => [.long g83]) (fun xx H locs ls => match xx with | (g83, g84, g85) => va_P D vwCl (MW Y o a (upd (upd (upd (upd (upd (upd I 29 u33) 32 g84) 34 u27) 35 u28) 36 u29) 39 u30) (vp_updL (vp_updL (vp_updL (vp_updL (vp_updL J 30 u34) 31 u35) 33 g85) 37 u31) 38 u32) (vf_upd (vf_upd (vf_upd (vf_upd F 1 f36) 28 f37) 41 f39) 43 f41) (vf_upd (vf_upd G 40 f38) 42 f40)) H ∧ va_D A (MW Y o a (upd (upd (upd (upd (upd (upd I 29 u33) 32 g84) 34 u27) 35 u28) 36 u29) 39 u30) (vp_updL (vp_updL (vp_updL (vp_updL (vp_updL J 30 u34) 31 u35) 33 g85) 37 u31) 38 u32) (vf_upd (vf_upd (vf_upd (vf_upd F 1 f36) 28 f37) 41 f39) 43 f41) (vf_upd (vf_upd G 40 f38) 42 f40)) ∧ va_S A s.heap H locs ∧ lv_has ls 10 [(6, .int v73), (4, .long g69), (0, .ref o), (1, .int p1), (2, .int p2), (3, .int p3)]) (fun xx H locs ls hI => ?_) (fun jn86 => ?_)
            · skip
              obtain ⟨g83, g84, g85⟩ := xx
              obtain ⟨hP, hD, hS, hl⟩ := hI
              refine W.eq (g2 := F0 m 172 ls [.long g83]) rfl ?_
              refine lv_lstore (lv' := [(7, .long g83), (6, .int v73), (4, .long g69), (0, .ref o), (1, .int p1), (2, .int p2), (3, .int p3)]) hx hb dX11_alias_172 hl (by decide) rfl (fun ls hl => ?_)
              refine lv_iload_n hx hb dX11_alias_174 rfl (lv_at hl 6 rfl) ?_
              refine lv_if_le (tgt := 191) hx hb dX11_alias_175 (by decide) (fun c87 => ?_) (fun c87 => ?_)
              · skip
                have c87 := i_le (Eq.refl p3.toInt) (show (0 : Int32).toInt = 0 by decide) c87
                refine lv_aload_n hx hb dX11_alias_191 rfl (lv_at hl 3 rfl) ?_
                refine va_get (D := D) (ci := 11) (v := .long u32) (C := RX11) (T := TX11) (N := 49) hx hb hg inGX11 hown hKN.1 hP 0 rfl rfl 38 (by decide) (hg _ kw_1246) (fun _ h9 => h9) rfl dX11_alias_192 ?_
                refine lv_lload hx hb dX11_alias_195 (lv_at hl 2 rfl) ?_
                refine W.lcmp hx hb dX11_alias_197 ?_
                refine lv_if_lt (tgt := 215) hx hb dX11_alias_198 (by decide) (fun c92 => ?_) (fun c92 => ?_)
                · skip
                  have c92 := l_lt (Eq.refl u32.toInt) (Eq.refl g69.toInt) c92
                  refine lv_lload hx hb dX11_alias_215 (lv_at hl 2 rfl) ?_
                  refine lv_lload hx hb dX11_alias_217 (lv_at hl 0 rfl) ?_
                  refine W.lcmp hx hb dX11_alias_219 ?_
                  refine lv_if_lt (tgt := 227) hx hb dX11_alias_220 (by decide) (fun c94 => ?_) (fun c94 => ?_)
                  · skip
                    have c94 := l_lt (Eq.refl g69.toInt) (Eq.refl g83.toInt) c94
                    refine lv_ldc2 (v := 2) hx hb hown (hg _ kw_1443) dX11_alias_227 ?_
                    refine W.widen (k := 0) (n := 0) (Nat.le_of_ble_eq_true rfl) (Nat.le_of_ble_eq_true rfl) ?_
                    exact W.lret (v := 2) hx hb hr (fun t ht hW => ⟨⟨(2, u27, u28, u29, u30, u31, u32, u33, u34, u35, g84, g85, f36, f37, f38, f39, f40, f41), rfl, (hw47), CB.mk ht hP hD⟩, hS.F ht⟩) hS.2.2 dX11_alias_230
                  · skip
                    have c94 := l_nlt (Eq.refl g69.toInt) (Eq.refl g83.toInt) c94
                    refine lv_lconst (v := 1) hx hb dX11_alias_223 (by decide) ?_
                    refine lv_goto (tgt := 230) hx hb dX11_alias_224 (by decide) ?_
                    refine W.widen (k := 0) (n := 0) (Nat.le_of_ble_eq_true rfl) (Nat.le_of_ble_eq_true rfl) ?_
                    have zl1 : (1 : Int64).toInt = 1 := by decide
                    exact W.lret (v := 1) hx hb hr (fun t ht hW => ⟨⟨(1, u27, u28, u29, u30, u31, u32, u33, u34, u35, g84, g85, f36, f37, f38, f39, f40, f41), rfl, (hw47), CB.mk ht hP hD⟩, hS.F ht⟩) hS.2.2 dX11_alias_230
                · skip
                  have c92 := l_nlt (Eq.refl u32.toInt) (Eq.refl g69.toInt) c92
                  refine lv_aload_n hx hb dX11_alias_201 rfl (lv_at hl 3 rfl) ?_
                  refine va_get (D := D) (ci := 11) (v := .long u32) (C := RX11) (T := TX11) (N := 49) hx hb hg inGX11 hown hKN.1 hP 0 rfl rfl 38 (by decide) (hg _ kw_1246) (fun _ h9 => h9) rfl dX11_alias_202 ?_
                  refine lv_lload hx hb dX11_alias_205 (lv_at hl 0 rfl) ?_
                  refine W.lcmp hx hb dX11_alias_207 ?_
                  refine lv_if_lt (tgt := 215) hx hb dX11_alias_208 (by decide) (fun c97 => ?_) (fun c97 => ?_)
                  · skip
                    have c97 := l_lt (Eq.refl u32.toInt) (Eq.refl g83.toInt) c97
                    refine lv_lload hx hb dX11_alias_215 (lv_at hl 2 rfl) ?_
                    refine lv_lload hx hb dX11_alias_217 (lv_at hl 0 rfl) ?_
                    refine W.lcmp hx hb dX11_alias_219 ?_
                    refine lv_if_lt (tgt := 227) hx hb dX11_alias_220 (by decide) (fun c99 => ?_) (fun c99 => ?_)
                    · skip
                      have c99 := l_lt (Eq.refl g69.toInt) (Eq.refl g83.toInt) c99
                      refine lv_ldc2 (v := 2) hx hb hown (hg _ kw_1443) dX11_alias_227 ?_
                      refine W.widen (k := 0) (n := 0) (Nat.le_of_ble_eq_true rfl) (Nat.le_of_ble_eq_true rfl) ?_
                      exact W.lret (v := 2) hx hb hr (fun t ht hW => ⟨⟨(2, u27, u28, u29, u30, u31, u32, u33, u34, u35, g84, g85, f36, f37, f38, f39, f40, f41), rfl, (hw47), CB.mk ht hP hD⟩, hS.F ht⟩) hS.2.2 dX11_alias_230
                    · skip
                      have c99 := l_nlt (Eq.refl g69.toInt) (Eq.refl g83.toInt) c99
                      refine lv_lconst (v := 1) hx hb dX11_alias_223 (by decide) ?_
                      refine lv_goto (tgt := 230) hx hb dX11_alias_224 (by decide) ?_
                      refine W.widen (k := 0) (n := 0) (Nat.le_of_ble_eq_true rfl) (Nat.le_of_ble_eq_true rfl) ?_
                      have zl1 : (1 : Int64).toInt = 1 := by decide
                      exact W.lret (v := 1) hx hb hr (fun t ht hW => ⟨⟨(1, u27, u28, u29, u30, u31, u32, u33, u34, u35, g84, g85, f36, f37, f38, f39, f40, f41), rfl, (hw47), CB.mk ht hP hD⟩, hS.F ht⟩) hS.2.2 dX11_alias_230
                  · skip
                    have c97 := l_nlt (Eq.refl u32.toInt) (Eq.refl g83.toInt) c97
                    refine lv_lconst (v := 0) hx hb dX11_alias_211 (by decide) ?_
                    refine lv_goto (tgt := 230) hx hb dX11_alias_212 (by decide) ?_
                    refine W.widen (k := 0) (n := 0) (Nat.le_of_ble_eq_true rfl) (Nat.le_of_ble_eq_true rfl) ?_
                    exact W.lret (v := 0) hx hb hr (fun t ht hW => ⟨⟨(0, u27, u28, u29, u30, u31, u32, u33, u34, u35, g84, g85, f36, f37, f38, f39, f40, f41), rfl, (hw47), CB.mk ht hP hD⟩, hS.F ht⟩) hS.2.2 dX11_alias_230
              · skip
                have c87 := i_nle (Eq.refl p3.toInt) (show (0 : Int32).toInt = 0 by decide) c87
                refine lv_iload_n hx hb dX11_alias_178 rfl (lv_at hl 6 rfl) ?_
                refine lv_iconst (v := 1) hx hb dX11_alias_179 (by decide) ?_
                refine lv_icmp_ne (tgt := 188) hx hb dX11_alias_180 (by decide) (fun c101 => ?_) (fun c101 => ?_)
                · skip
                  have c101 := i_ne (Eq.refl p3.toInt) (show (1 : Int32).toInt = 1 by decide) c101
                  refine lv_lload hx hb dX11_alias_188 (lv_at hl 0 rfl) ?_
                  refine W.widen (k := 0) (n := 0) (Nat.le_of_ble_eq_true rfl) (Nat.le_of_ble_eq_true rfl) ?_
                  exact W.lret (v := g83) hx hb hr (fun t ht hW => ⟨⟨(g83, u27, u28, u29, u30, u31, u32, u33, u34, u35, g84, g85, f36, f37, f38, f39, f40, f41), rfl, (hw47), CB.mk ht hP hD⟩, hS.F ht⟩) hS.2.2 dX11_alias_190
                · skip
                  have c101 := i_eq (Eq.refl p3.toInt) (show (1 : Int32).toInt = 1 by decide) c101
                  refine lv_lload hx hb dX11_alias_183 (lv_at hl 2 rfl) ?_
                  refine lv_goto (tgt := 190) hx hb dX11_alias_185 (by decide) ?_
                  refine W.widen (k := 0) (n := 0) (Nat.le_of_ble_eq_true rfl) (Nat.le_of_ble_eq_true rfl) ?_
                  exact W.lret (v := g69) hx hb hr (fun t ht hW => ⟨⟨(g69, u27, u28, u29, u30, u31, u32, u33, u34, u35, g84, g85, f36, f37, f38, f39, f40, f41), rfl, (hw47), CB.mk ht hP hD⟩, hS.F ht⟩) hS.2.2 dX11_alias_190
            · skip
              refine lv_icmp_eq (tgt := 151) hx hb dX11_alias_139 (by decide) (fun c102 => ?_) (fun c102 => ?_)
              · skip
                have c102 := i_eq (Eq.refl v74.toInt) (show (1 : Int32).toInt = 1 by decide) c102
                refine lv_lconst (v := 0) hx hb dX11_alias_151 (by decide) ?_
                refine lv_goto (tgt := 172) hx hb dX11_alias_152 (by decide) ?_
                refine W.widen (k := 0) (n := 0) (Nat.le_of_ble_eq_true rfl) (Nat.le_of_ble_eq_true rfl) ?_
                exact jn86 (0, g70, g71) H locs ls ⟨hP, hD, hS, lv_sub hl [0, 1, 2, 3, 4, 5] rfl⟩
              · skip
                have c102 := i_ne (Eq.refl v74.toInt) (show (1 : Int32).toInt = 1 by decide) c102
                refine lv_aload_n hx hb dX11_alias_142 rfl (lv_at hl 2 rfl) ?_
                refine va_get (D := D) (ci := 11) (v := .int u28) (C := RX11) (T := TX11) (N := 49) hx hb hg inGX11 hown hKN.1 hP 0 rfl rfl 35 (by decide) (hg _ kw_1243) (fun _ h9 => h9) rfl dX11_alias_143 ?_
                refine lv_iload hx hb dX11_alias_146 (lv_at hl 0 rfl) ?_
                refine lv_icmp_lt (tgt := 155) hx hb dX11_alias_148 (by decide) (fun c103 => ?_) (fun c103 => ?_)
                · skip
                  have c103 := i_lt (Eq.refl u28.toInt) (Eq.refl v73.toInt) c103
                  refine lv_aload_n hx hb dX11_alias_155 rfl (lv_at hl 2 rfl) ?_
                  refine lv_iload hx hb dX11_alias_156 (lv_at hl 0 rfl) ?_
                  refine lv_aload_n hx hb dX11_alias_158 rfl (lv_at hl 2 rfl) ?_
                  refine va_get (D := D) (ci := 11) (v := .int u28) (C := RX11) (T := TX11) (N := 49) hx hb hg inGX11 hown hKN.1 hP 0 rfl rfl 35 (by decide) (hg _ kw_1243) (fun _ h9 => h9) rfl dX11_alias_159 ?_
                  refine lv_aload_n hx hb dX11_alias_162 rfl (lv_at hl 2 rfl) ?_
                  refine va_get (D := D) (ci := 11) (v := .int u29) (C := RX11) (T := TX11) (N := 49) hx hb hg inGX11 hown hKN.1 hP 0 rfl rfl 36 (by decide) (hg _ kw_1244) (fun _ h9 => h9) rfl dX11_alias_163 ?_
                  refine lv_iload hx hb dX11_alias_166 (lv_at hl 0 rfl) ?_
                  refine lv_irem hx hb dX11_alias_168 (i_nz (Eq.refl v73.toInt) (by omega)) ?_
                  refine lv_topi (fun v104 ev104 => ?_)
                  have hv104 := i_rem (Eq.refl u29.toInt) (Eq.refl v73.toInt) ev104 (by omega) (by omega)
                  refine cga (rn_V (As := [.int v73, .int u28, .int v104]) (rest := []) (b := o) (m_scoreTried l D Y Z H.size o a (upd (upd (upd (upd (upd (upd I 29 u33) 32 g70) 34 u27) 35 u28) 36 u29) 39 u30) (vp_updL (vp_updL (vp_updL (vp_updL (vp_updL J 30 u34) 31 u35) 33 g71) 37 u31) 38 u32) (vf_upd (vf_upd (vf_upd (vf_upd F 1 f36) 28 f37) 41 f39) 43 f41) (vf_upd (vf_upd G 40 f38) 42 f40)  v73 u28 v104 (show (0 ≤ u33.toInt ∧ u33.toInt ≤ 600) by omega) (show (1 ≤ v73.toInt ∧ v73.toInt ≤ 400) by omega) (show (0 ≤ v104.toInt ∧ v104.toInt ≤ 400) by omega) (show (v104.toInt ≤ v73.toInt) by omega) (show (1 ≤ u35.toInt) by omega)) ⟨hx, hb, hml, hown, hg⟩ lk_X11_445 ⟨CP.blind, va_recv hKN.1 hP (ci := 11) (q0 := 0) rfl rfl, CP.at hP hKN hD⟩ ⟨⟨rfl, rfl⟩, ⟨Nat.le_of_ble_eq_true rfl, Nat.le_of_ble_eq_true rfl⟩, ⟨Nat.le_of_ble_eq_true rfl, Nat.le_of_ble_eq_true rfl⟩⟩ hl.1 rfl (Nat.le_of_ble_eq_true rfl) dX11_alias_169) hP hD hS hA (fun u105 H locs w106 hP hD hS => ?_)
                  obtain ⟨u107, u108, u109⟩ := u105
                  refine W.eq (g2 := F0 m 172 ls [.long u107]) rfl ?_
                  have hP : va_P D vwCl (MW Y o a (upd (upd (upd (upd (upd (upd I 29 u33) 32 u108) 34 u27) 35 u28) 36 u29) 39 u30) (vp_updL (vp_updL (vp_updL (vp_updL (vp_updL J 30 u34) 31 u35) 33 u109) 37 u31) 38 u32) (vf_upd (vf_upd (vf_upd (vf_upd F 1 f36) 28 f37) 41 f39) 43 f41) (vf_upd (vf_upd G 40 f38) 42 f40)) H := hP
                  have hD : va_D A (MW Y o a (upd (upd (upd (upd (upd (upd I 29 u33) 32 u108) 34 u27) 35 u28) 36 u29) 39 u30) (vp_updL (vp_updL (vp_updL (vp_updL (vp_updL J 30 u34) 31 u35) 33 u109) 37 u31) 38 u32) (vf_upd (vf_upd (vf_upd (vf_upd F 1 f36) 28 f37) 41 f39) 43 f41) (vf_upd (vf_upd G 40 f38) 42 f40)) := hD
                  refine W.widen (k := 0) (n := 0) (Nat.le_of_ble_eq_true rfl) (Nat.le_of_ble_eq_true rfl) ?_
                  exact jn86 (u107, u108, u109) H locs ls ⟨hP, hD, hS, lv_sub hl [0, 1, 2, 3, 4, 5] rfl⟩
                · skip
                  have c103 := i_nlt (Eq.refl u28.toInt) (Eq.refl v73.toInt) c103
                  refine lv_lconst (v := 0) hx hb dX11_alias_151 (by decide) ?_
                  refine lv_goto (tgt := 172) hx hb dX11_alias_152 (by decide) ?_
                  refine W.widen (k := 0) (n := 0) (Nat.le_of_ble_eq_true rfl) (Nat.le_of_ble_eq_true rfl) ?_
                  exact jn86 (0, g70, g71) H locs ls ⟨hP, hD, hS, lv_sub hl [0, 1, 2, 3, 4, 5] rfl⟩
          · skip
            refine lv_icmp_gt (tgt := 124) hx hb dX11_alias_59 (by decide) (fun c110 => ?_) (fun c110 => ?_)
            · skip
              have c110 := i_lt (show (200 : Int32).toInt = 200 by decide) (Eq.refl v50.toInt) c110
              refine W.widen (k := 0) (n := 0) (Nat.le_of_ble_eq_true rfl) (Nat.le_of_ble_eq_true rfl) ?_
              exact jn72 (0, (I 32), (J 33)) H locs ls ⟨hP, hD, hS, lv_sub hl [0, 1, 2, 3, 4] rfl⟩
            · skip
              have c110 := i_nlt (show (200 : Int32).toInt = 200 by decide) (Eq.refl v50.toInt) c110
              refine lv_aload_n hx hb dX11_alias_62 rfl (lv_at hl 1 rfl) ?_
              refine lv_iconst (v := 2) hx hb dX11_alias_63 (by decide) ?_
              refine lv_aload_n hx hb dX11_alias_64 rfl (lv_at hl 1 rfl) ?_
              refine va_get (D := D) (ci := 11) (v := .int u27) (C := RX11) (T := TX11) (N := 49) hx hb hg inGX11 hown hKN.1 hP 0 rfl rfl 34 (by decide) (hg _ kw_1242) (fun _ h9 => h9) rfl dX11_alias_65 ?_
              refine lv_imul hx hb dX11_alias_68 ?_
              refine lv_topi (fun v111 ev111 => ?_)
              have hv111 := i_mul (show (2 : Int32).toInt = 2 by decide) (Eq.refl u27.toInt) ev111 (by omega) (by omega)
              refine lv_aload_n hx hb dX11_alias_69 rfl (lv_at hl 1 rfl) ?_
              refine va_get (D := D) (ci := 11) (v := .int u28) (C := RX11) (T := TX11) (N := 49) hx hb hg inGX11 hown hKN.1 hP 0 rfl rfl 35 (by decide) (hg _ kw_1243) (fun _ h9 => h9) rfl dX11_alias_70 ?_
              refine lv_aload_n hx hb dX11_alias_73 rfl (lv_at hl 1 rfl) ?_
              refine va_get (D := D) (ci := 11) (v := .int u29) (C := RX11) (T := TX11) (N := 49) hx hb hg inGX11 hown hKN.1 hP 0 rfl rfl 36 (by decide) (hg _ kw_1244) (fun _ h9 => h9) rfl dX11_alias_74 ?_
              refine cga (rn_V (As := [.int v111, .int u28, .int u29]) (rest := []) (b := o) (m_scoreTried l D Y Z H.size o a (upd (upd (upd (upd (upd I 29 u33) 34 u27) 35 u28) 36 u29) 39 u30) (vp_updL (vp_updL (vp_updL (vp_updL J 30 u34) 31 u35) 37 u31) 38 u32) (vf_upd (vf_upd (vf_upd (vf_upd F 1 f36) 28 f37) 41 f39) 43 f41) (vf_upd (vf_upd G 40 f38) 42 f40)  v111 u28 u29 (show (0 ≤ u33.toInt ∧ u33.toInt ≤ 600) by omega) (show (1 ≤ v111.toInt ∧ v111.toInt ≤ 400) by omega) (show (0 ≤ u29.toInt ∧ u29.toInt ≤ 400) by omega) (show (u29.toInt ≤ v111.toInt) by omega) (show (1 ≤ u35.toInt) by omega)) ⟨hx, hb, hml, hown, hg⟩ lk_X11_445 ⟨CP.blind, va_recv hKN.1 hP (ci := 11) (q0 := 0) rfl rfl, CP.at hP hKN hD⟩ ⟨⟨rfl, rfl⟩, ⟨Nat.le_of_ble_eq_true rfl, Nat.le_of_ble_eq_true rfl⟩, ⟨Nat.le_of_ble_eq_true rfl, Nat.le_of_ble_eq_true rfl⟩⟩ hl.1 rfl (Nat.le_of_ble_eq_true rfl) dX11_alias_77) hP hD hS hA (fun u112 H locs w113 hP hD hS => ?_)
              obtain ⟨u114, u115, u116⟩ := u112
              refine W.eq (g2 := F0 m 80 ls [.long u114]) rfl ?_
              have hP : va_P D vwCl (MW Y o a (upd (upd (upd (upd (upd (upd I 29 u33) 32 u115) 34 u27) 35 u28) 36 u29) 39 u30) (vp_updL (vp_updL (vp_updL (vp_updL (vp_updL J 30 u34) 31 u35) 33 u116) 37 u31) 38 u32) (vf_upd (vf_upd (vf_upd (vf_upd F 1 f36) 28 f37) 41 f39) 43 f41) (vf_upd (vf_upd G 40 f38) 42 f40)) H := hP
              have hD : va_D A (MW Y o a (upd (upd (upd (upd (upd (upd I 29 u33) 32 u115) 34 u27) 35 u28) 36 u29) 39 u30) (vp_updL (vp_updL (vp_updL (vp_updL (vp_updL J 30 u34) 31 u35) 33 u116) 37 u31) 38 u32) (vf_upd (vf_upd (vf_upd (vf_upd F 1 f36) 28 f37) 41 f39) 43 f41) (vf_upd (vf_upd G 40 f38) 42 f40)) := hD
              refine lv_lstore (lv' := [(6, .long u114), (4, .long 0), (0, .ref o), (1, .int p1), (2, .int p2), (3, .int p3)]) hx hb dX11_alias_80 hl (by decide) rfl (fun ls hl => ?_)
              refine lv_aload_n hx hb dX11_alias_82 rfl (lv_at hl 2 rfl) ?_
              refine lv_iconst (v := 2) hx hb dX11_alias_83 (by decide) ?_
              refine lv_aload_n hx hb dX11_alias_84 rfl (lv_at hl 2 rfl) ?_
              refine va_get (D := D) (ci := 11) (v := .int u27) (C := RX11) (T := TX11) (N := 49) hx hb hg inGX11 hown hKN.1 hP 0 rfl rfl 34 (by decide) (hg _ kw_1242) (fun _ h9 => h9) rfl dX11_alias_85 ?_
              refine lv_imul hx hb dX11_alias_88 ?_
              refine lv_topi (fun v117 ev117 => ?_)
              have hv117 := i_mul (show (2 : Int32).toInt = 2 by decide) (Eq.refl u27.toInt) ev117 (by omega) (by omega)
              refine lv_aload_n hx hb dX11_alias_89 rfl (lv_at hl 2 rfl) ?_
              refine va_get (D := D) (ci := 11) (v := .int u28) (C := RX11) (T := TX11) (N := 49) hx hb hg inGX11 hown hKN.1 hP 0 rfl rfl 35 (by decide) (hg _ kw_1243) (fun _ h9 => h9) rfl dX11_alias_90 ?_
              refine lv_aload_n hx hb dX11_alias_93 rfl (lv_at hl 2 rfl) ?_
              refine va_get (D := D) (ci := 11) (v := .int u29) (C := RX11) (T := TX11) (N := 49) hx hb hg inGX11 hown hKN.1 hP 0 rfl rfl 36 (by decide) (hg _ kw_1244) (fun _ h9 => h9) rfl dX11_alias_94 ?_
              refine lv_aload_n hx hb dX11_alias_97 rfl (lv_at hl 2 rfl) ?_
              refine va_get (D := D) (ci := 11) (v := .int u27) (C := RX11) (T := TX11) (N := 49) hx hb hg inGX11 hown hKN.1 hP 0 rfl rfl 34 (by decide) (hg _ kw_1242) (fun _ h9 => h9) rfl dX11_alias_98 ?_
              refine lv_iadd hx hb dX11_alias_101 ?_
              refine lv_topi (fun v118 ev118 => ?_)
              have hv118 := i_add (Eq.refl u29.toInt) (Eq.refl u27.toInt) ev118 (by omega) (by omega)
              refine cga (rn_V (As := [.int v117, .int u28, .int v118]) (rest := []) (b := o) (m_scoreTried l D Y Z H.size o a (upd (upd (upd (upd (upd (upd I 29 u33) 32 u115) 34 u27) 35 u28) 36 u29) 39 u30) (vp_updL (vp_updL (vp_updL (vp_updL (vp_updL J 30 u34) 31 u35) 33 u116) 37 u31) 38 u32) (vf_upd (vf_upd (vf_upd (vf_upd F 1 f36) 28 f37) 41 f39) 43 f41) (vf_upd (vf_upd G 40 f38) 42 f40)  v117 u28 v118 (show (0 ≤ u33.toInt ∧ u33.toInt ≤ 600) by omega) (show (1 ≤ v117.toInt ∧ v117.toInt ≤ 400) by omega) (show (0 ≤ v118.toInt ∧ v118.toInt ≤ 400) by omega) (show (v118.toInt ≤ v117.toInt) by omega) (show (1 ≤ u35.toInt) by omega)) ⟨hx, hb, hml, hown, hg⟩ lk_X11_445 ⟨CP.blind, va_recv hKN.1 hP (ci := 11) (q0 := 0) rfl rfl, CP.at hP hKN hD⟩ ⟨⟨rfl, rfl⟩, ⟨Nat.le_of_ble_eq_true rfl, Nat.le_of_ble_eq_true rfl⟩, ⟨Nat.le_of_ble_eq_true rfl, Nat.le_of_ble_eq_true rfl⟩⟩ hl.1 rfl (Nat.le_of_ble_eq_true rfl) dX11_alias_102) hP hD hS hA (fun u119 H locs w120 hP hD hS => ?_)
              obtain ⟨u121, u122, u123⟩ := u119
              refine W.eq (g2 := F0 m 105 ls [.long u121]) rfl ?_
              have hP : va_P D vwCl (MW Y o a (upd (upd (upd (upd (upd (upd I 29 u33) 32 u122) 34 u27) 35 u28) 36 u29) 39 u30) (vp_updL (vp_updL (vp_updL (vp_updL (vp_updL J 30 u34) 31 u35) 33 u123) 37 u31) 38 u32) (vf_upd (vf_upd (vf_upd (vf_upd F 1 f36) 28 f37) 41 f39) 43 f41) (vf_upd (vf_upd G 40 f38) 42 f40)) H := hP
              have hD : va_D A (MW Y o a (upd (upd (upd (upd (upd (upd I 29 u33) 32 u122) 34 u27) 35 u28) 36 u29) 39 u30) (vp_updL (vp_updL (vp_updL (vp_updL (vp_updL J 30 u34) 31 u35) 33 u123) 37 u31) 38 u32) (vf_upd (vf_upd (vf_upd (vf_upd F 1 f36) 28 f37) 41 f39) 43 f41) (vf_upd (vf_upd G 40 f38) 42 f40)) := hD
              refine lv_lstore (lv' := [(8, .long u121), (6, .long u114), (4, .long 0), (0, .ref o), (1, .int p1), (2, .int p2), (3, .int p3)]) hx hb dX11_alias_105 hl (by decide) rfl (fun ls hl => ?_)
              refine lv_lload hx hb dX11_alias_107 (lv_at hl 1 rfl) ?_
              refine lv_lload hx hb dX11_alias_109 (lv_at hl 0 rfl) ?_
              refine w_join (σ := Int64) (pcJ := 122) (kJ := 0) (nJ := 0) (stk := fun xx => match xx with | g125 => [.long g125]) (fun xx H locs ls => match xx with | g125 => va_P D vwCl (MW Y o a (upd (upd (upd (upd (upd (upd I 29 u33) 32 u122) 34 u27) 35 u28) 36 u29) 39 u30) (vp_updL (vp_updL (vp_updL (vp_updL (vp_updL J 30 u34) 31 u35) 33 u123) 37 u31) 38 u32) (vf_upd (vf_upd (vf_upd (vf_upd F 1 f36) 28 f37) 41 f39) 43 f41) (vf_upd (vf_upd G 40 f38) 42 f40)) H ∧ va_D A (MW Y o a (upd (upd (upd (upd (upd (upd I 29 u33) 32 u122) 34 u27) 35 u28) 36 u29) 39 u30) (vp_updL (vp_updL (vp_updL (vp_updL (vp_updL J 30 u34) 31 u35) 33 u123) 37 u31) 38 u32) (vf_upd (vf_upd (vf_upd (vf_upd F 1 f36) 28 f37) 41 f39) 43 f41) (vf_upd (vf_upd G 40 f38) 42 f40)) ∧ va_S A s.heap H locs ∧ lv_has ls 10 [(8, .long u121), (6, .long u114), (4, .long 0), (0, .ref o), (1, .int p1), (2, .int p2), (3, .int p3)]) (fun xx H locs ls hI => ?_) (fun jn126 => ?_)
              · skip
                revert hI
                generalize xx = g125
                intro hI
                obtain ⟨hP, hD, hS, hl⟩ := hI
                refine W.eq (g2 := F0 m 122 ls [.long g125]) rfl ?_
                refine lv_lstore (lv' := [(4, .long g125), (8, .long u121), (6, .long u114), (0, .ref o), (1, .int p1), (2, .int p2), (3, .int p3)]) hx hb dX11_alias_122 hl (by decide) rfl (fun ls hl => ?_)
                refine W.widen (k := 0) (n := 0) (Nat.le_of_ble_eq_true rfl) (Nat.le_of_ble_eq_true rfl) ?_
                exact jn72 (g125, u122, u123) H locs ls ⟨hP, hD, hS, lv_sub hl [0, 3, 4, 5, 6] rfl⟩
              · skip
                refine W.lcmp hx hb dX11_alias_111 ?_
                refine lv_if_le (tgt := 120) hx hb dX11_alias_112 (by decide) (fun c127 => ?_) (fun c127 => ?_)
                · skip
                  have c127 := l_le (Eq.refl u114.toInt) (Eq.refl u121.toInt) c127
                  refine lv_lload hx hb dX11_alias_120 (lv_at hl 0 rfl) ?_
                  refine W.widen (k := 0) (n := 0) (Nat.le_of_ble_eq_true rfl) (Nat.le_of_ble_eq_true rfl) ?_
                  exact jn126 (u121) H locs ls ⟨hP, hD, hS, lv_sub hl [0, 1, 2, 3, 4, 5, 6] rfl⟩
                · skip
                  have c127 := l_nle (Eq.refl u114.toInt) (Eq.refl u121.toInt) c127
                  refine lv_lload hx hb dX11_alias_115 (lv_at hl 1 rfl) ?_
                  refine lv_goto (tgt := 122) hx hb dX11_alias_117 (by decide) ?_
                  refine W.widen (k := 0) (n := 0) (Nat.le_of_ble_eq_true rfl) (Nat.le_of_ble_eq_true rfl) ?_
                  exact jn126 (u114) H locs ls ⟨hP, hD, hS, lv_sub hl [0, 1, 2, 3, 4, 5, 6] rfl⟩
        · obtain rfl : u26 = 0 := i_is c48 (by decide)
          refine W.eq (g2 := F0 m 40 ls [.int 0]) rfl ?_
          refine lv_if_ne (tgt := 47) hx hb dX11_alias_40 (by decide) (fun c128 => ?_) (fun c128 => ?_)
          · exact absurd c128 (by decide)
          refine lv_ldc2 (v := (-2)) hx hb hown (hg _ kw_1707) dX11_alias_43 ?_
          refine W.widen (k := 0) (n := 0) (Nat.le_of_ble_eq_true rfl) (Nat.le_of_ble_eq_true rfl) ?_
          have zlm2 : ((-2) : Int64).toInt = -2 := by decide
          exact W.lret (v := (-2)) hx hb hr (fun t ht hW => ⟨⟨((-2), u27, u28, u29, u30, u31, u32, u33, u34, u35, (I 32), (J 33), f36, f37, f38, f39, f40, f41), rfl, (hw47), CB.mk ht hP hD⟩, hS.F ht⟩) hS.2.2 dX11_alias_46
      · obtain rfl : u17 = 0 := i_is c22 (by decide)
        have zi0 : (0 : Int32).toInt = 0 := by decide
        refine W.eq (g2 := F0 m 26 ls [.int 0]) rfl ?_
        refine lv_if_ne (tgt := 33) hx hb dX11_alias_26 (by decide) (fun c129 => ?_) (fun c129 => ?_)
        · exact absurd c129 (by decide)
        refine lv_ldc2 (v := (-1)) hx hb hown (hg _ kw_1650) dX11_alias_29 ?_
        refine W.widen (k := 0) (n := 0) (Nat.le_of_ble_eq_true rfl) (Nat.le_of_ble_eq_true rfl) ?_
        have zlm1 : ((-1) : Int64).toInt = -1 := by decide
        exact W.lret (v := (-1)) hx hb hr (fun t ht hW => ⟨⟨((-1), (I 34), (I 35), (I 36), (I 39), (J 37), (J 38), (I 29), (J 30), (J 31), (I 32), (J 33), (F 1), (F 28), (G 40), (F 41), (G 42), (F 43)), rfl, (hk1), CB.mk ht hP hD⟩, hS.F ht⟩) hS.2.2 dX11_alias_32
    · obtain rfl : u8 = 0 := i_is c13 (by decide)
      have zi0 : (0 : Int32).toInt = 0 := by decide
      refine W.eq (g2 := F0 m 14 ls [.int 0]) rfl ?_
      refine lv_if_eq (tgt := 29) hx hb dX11_alias_14 (by decide) (fun c130 => ?_) (fun c130 => ?_)
      rotate_left
      · exact absurd c130 (by decide)
      refine lv_ldc2 (v := (-1)) hx hb hown (hg _ kw_1650) dX11_alias_29 ?_
      refine W.widen (k := 0) (n := 0) (Nat.le_of_ble_eq_true rfl) (Nat.le_of_ble_eq_true rfl) ?_
      have zlm1 : ((-1) : Int64).toInt = -1 := by decide
      exact W.lret (v := (-1)) hx hb hr (fun t ht hW => ⟨⟨((-1), (I 34), (I 35), (I 36), (I 39), (J 37), (J 38), (I 29), (J 30), (J 31), (I 32), (J 33), (F 1), (F 28), (G 40), (F 41), (G 42), (F 43)), rfl, (hk1), CB.mk ht hP hD⟩, hS.F ht⟩) hS.2.2 dX11_alias_32
  · obtain rfl : u1 = 0 := i_is c6 (by decide)
    have zi0 : (0 : Int32).toInt = 0 := by decide
    refine W.eq (g2 := F0 m 6 ls [.int 0]) rfl ?_
    refine lv_if_eq (tgt := 29) hx hb dX11_alias_6 (by decide) (fun c131 => ?_) (fun c131 => ?_)
    rotate_left
    · exact absurd c131 (by decide)
    refine lv_ldc2 (v := (-1)) hx hb hown (hg _ kw_1650) dX11_alias_29 ?_
    refine W.widen (k := 0) (n := 0) (Nat.le_of_ble_eq_true rfl) (Nat.le_of_ble_eq_true rfl) ?_
    have zlm1 : ((-1) : Int64).toInt = -1 := by decide
    exact W.lret (v := (-1)) hx hb hr (fun t ht hW => ⟨⟨((-1), (I 34), (I 35), (I 36), (I 39), (J 37), (J 38), (I 29), (J 30), (J 31), (I 32), (J 33), (F 1), (F 28), (G 40), (F 41), (G 42), (F 43)), rfl, (hk1), CB.mk ht hP hD⟩, hS.F ht⟩) hS.2.2 dX11_alias_32
set_option maxHeartbeats 4000000 in
set_option maxRecDepth 100000 in
theorem m_radiusOf (l : Launch) (D : va_G) (Y : Nat → ClassId) (Z : Nat → Nat) (sz : Nat) (o : Nat) (a : Nat → Nat) (I : Nat → Int32) (J : Nat → Int64) (F : Nat → Nat → Int32) (G : Nat → Nat → Int64) (p1 : Int32) (hk_0 : (0 ≤ p1.toInt ∧ p1.toInt ≤ 11)) (hk_1 : (-9000000000000 ≤ (J 37).toInt ∧ (J 37).toInt ≤ 9000000000000)) (hk0 : TO (F 0)) : Met l yX11_radiusOf (.code yX11_radiusOf cX11_radiusOf 5 (some .int) :: GW) ({ frames := 1, cells := 0, slots := 0, locals := 22 }) (va_Pc [.ref o, .int p1] (CP D Y Z (MW Y o a I J F G) sz)) (QG (S := Int32) (fun u => some (.int u)) (fun u => True) (fun u => CB D (MW Y o a I J F G) (va_A (MW Y o a I J F G) sz)) (va_A (MW Y o a I J F G) sz)) 0 0 (va_A (MW Y o a I J F G) sz) := by
  refine Met.ofW (cc := cX11_radiusOf) (maxL := 5) (ret := (some .int)) (by decide) rfl ?_
  intro p e s m args below meth c s₁ B hml hv
  obtain ⟨rfl, hsz, hP, hKN, hD0⟩ := hv
  have hx := B.exec
  have hb := B.bytes
  have hr := B.returns
  have hts := atoms_spec (ws := .code yX11_radiusOf cX11_radiusOf 5 (some .int) :: GW) B.pre
  have hg : ∀ w ∈ GW, w.before _ s = true := fun w h => hts w (List.mem_cons_of_mem _ h)
  have hown : s.vm.findClass RX11 = some m.cls := findClass_of_methodNamed B.named
  have hlocks := B.notSynchronized
  subst hsz
  have hD := hD0.self (sz := s.heap.size)
  generalize hAe : va_A (MW Y o a I J F G) s.heap.size = A at hD ⊢
  have hA : ∀ q : Nat, s.heap.size ≤ q → A q := fun q h => by rw [← hAe]; exact Or.inr h
  clear hAe hD0 hts B
  have hl := lv_entry ([.ref o, .int p1]) (n := 5) (Nat.le_of_ble_eq_true rfl)
  rw [lg_entry_eq]
  generalize (lg_sl ([.ref o, .int p1]) ++ List.replicate (5 - (lg_sl ([.ref o, .int p1])).length) Slot.unset).toArray = ls at hl ⊢
  have hl : lv_has ls 5 [(0, .ref o), (1, .int p1)] := hl
  refine w_start (A0 := A) hP (fun H locs hP hS => ?_)
  refine lv_aload_n hx hb dX11_radiusOf_0 rfl (lv_at hl 0 rfl) ?_
  refine va_get (D := D) (ci := 11) (v := .long (J 37)) (C := RX11) (T := TX11) (N := 49) hx hb hg inGX11 hown hKN.1 hP 0 rfl rfl 37 (by decide) (hg _ kw_1245) (fun _ h9 => h9) rfl dX11_radiusOf_1 ?_
  refine lv_aload_n hx hb dX11_radiusOf_4 rfl (lv_at hl 0 rfl) ?_
  refine lv_iload_n hx hb dX11_radiusOf_5 rfl (lv_at hl 1 rfl) ?_
  refine lv_iconst (v := 0) hx hb dX11_radiusOf_6 (by decide) ?_
  have zi0 : (0 : Int32).toInt = 0 := by decide
  refine cga (rn_V (As := [.int p1, .int 0]) (rest := [.long (J 37)]) (b := o) (m_starOf0 l D Y Z H.size o a I J F G  p1 (show (0 ≤ p1.toInt ∧ p1.toInt ≤ 11) by omega) hk0) ⟨hx, hb, hml, hown, hg⟩ lk_X11_120 ⟨CP.blind, va_recv hKN.1 hP (ci := 11) (q0 := 0) rfl rfl, CP.at hP hKN hD⟩ ⟨⟨rfl, rfl⟩, ⟨Nat.le_of_ble_eq_true rfl, Nat.le_of_ble_eq_true rfl⟩, ⟨Nat.le_of_ble_eq_true rfl, Nat.le_of_ble_eq_true rfl⟩⟩ hl.1 rfl (Nat.le_of_ble_eq_true rfl) dX11_radiusOf_7) hP hD hS hA (fun u1 H locs w2 hP hD hS => ?_)
  have w2 : (0 ≤ u1.toInt ∧ u1.toInt ≤ 999) := w2
  have hw4 := w2
  refine W.eq (g2 := F0 m 10 ls [.int u1, .long (J 37)]) rfl ?_
  have hP : va_P D vwCl (MW Y o a I J F G) H := hP
  have hD : va_D A (MW Y o a I J F G) := hD
  have j5 := Int32.toInt_toInt64 u1
  refine lv_i2l (v := u1.toInt64) hx hb dX11_radiusOf_10 (rfl) ?_
  refine lv_lmul hx hb dX11_radiusOf_11 ?_
  refine lv_topl (fun v6 ev6 => ?_)
  have hv6 := l_mulR (a := -9000000000000) (b := 9000000000000) (c := 0) (d := 999) (lo := -8991000000000000) (hi := 8991000000000000) (Eq.refl (J 37).toInt) (Int32.toInt_toInt64 u1) ev6 (by omega) (by omega) (by decide) (by decide)
  refine lv_aload_n hx hb dX11_radiusOf_12 rfl (lv_at hl 0 rfl) ?_
  refine lv_iload_n hx hb dX11_radiusOf_13 rfl (lv_at hl 1 rfl) ?_
  refine lv_iconst (v := 0) hx hb dX11_radiusOf_14 (by decide) ?_
  refine cga (rn_V (As := [.int p1, .int 0]) (rest := [.long v6]) (b := o) (m_starOf0 l D Y Z H.size o a I J F G  p1 (show (0 ≤ p1.toInt ∧ p1.toInt ≤ 11) by omega) hk0) ⟨hx, hb, hml, hown, hg⟩ lk_X11_120 ⟨CP.blind, va_recv hKN.1 hP (ci := 11) (q0 := 0) rfl rfl, CP.at hP hKN hD⟩ ⟨⟨rfl, rfl⟩, ⟨Nat.le_of_ble_eq_true rfl, Nat.le_of_ble_eq_true rfl⟩, ⟨Nat.le_of_ble_eq_true rfl, Nat.le_of_ble_eq_true rfl⟩⟩ hl.1 rfl (Nat.le_of_ble_eq_true rfl) dX11_radiusOf_15) hP hD hS hA (fun u7 H locs w8 hP hD hS => ?_)
  have w8 : (0 ≤ u7.toInt ∧ u7.toInt ≤ 999) := w8
  have hw10 := w8
  refine W.eq (g2 := F0 m 18 ls [.int u7, .long v6]) rfl ?_
  have hP : va_P D vwCl (MW Y o a I J F G) H := hP
  have hD : va_D A (MW Y o a I J F G) := hD
  have j11 := Int32.toInt_toInt64 u7
  refine lv_i2l (v := u7.toInt64) hx hb dX11_radiusOf_18 (rfl) ?_
  refine lv_lmul hx hb dX11_radiusOf_19 ?_
  refine lv_topl (fun v12 ev12 => ?_)
  have hv12 := l_mulR (a := -8991000000000000) (b := 8991000000000000) (c := 0) (d := 999) (lo := -8982009000000000000) (hi := 8982009000000000000) (Eq.refl v6.toInt) (Int32.toInt_toInt64 u7) ev12 (by omega) (by omega) (by decide) (by decide)
  refine lv_lstore_n (lv' := [(2, .long v12), (0, .ref o), (1, .int p1)]) hx hb dX11_radiusOf_20 rfl hl (by decide) rfl (fun ls hl => ?_)
  refine lv_iconst (v := 0) hx hb dX11_radiusOf_21 (by decide) ?_
  refine lv_istore (lv' := [(4, .int 0), (2, .long v12), (0, .ref o), (1, .int p1)]) hx hb dX11_radiusOf_22 hl (by decide) rfl (fun ls hl => ?_)
  refine w_loop (σ := Int32) (fun xx H locs ls => match xx with | g19 => va_P D vwCl (MW Y o a I J F G) H ∧ va_D A (MW Y o a I J F G) ∧ va_S A s.heap H locs ∧ lv_has ls 5 [(4, .int g19), (2, .long v12), (0, .ref o), (1, .int p1)] ∧ (0 ≤ g19.toInt ∧ g19.toInt ≤ 9490000)) (fun xx => match xx with | g19 => (9490000 - g19.toInt).toNat) (0) ⟨hP, hD, hS, lv_sub hl [0, 1, 2, 3] rfl, by omega⟩ (fun xx H locs ls hI ih => ?_)
  revert hI ih
  generalize xx = g19
  intro hI ih
  obtain ⟨hP, hD, hS, hl, hq29⟩ := hI
  have ih30 := ih
  refine lv_iload hx hb dX11_radiusOf_24 (lv_at hl 0 rfl) ?_
  have j31 := Int32.toInt_toInt64 g19
  refine lv_i2l (v := g19.toInt64) hx hb dX11_radiusOf_26 (rfl) ?_
  refine lv_lconst (v := 1) hx hb dX11_radiusOf_27 (by decide) ?_
  refine lv_ladd hx hb dX11_radiusOf_28 ?_
  refine lv_topl (fun v32 ev32 => ?_)
  have hv32 := l_add (Int32.toInt_toInt64 g19) (show (1 : Int64).toInt = 1 by decide) ev32 (by omega) (by omega)
  refine lv_iload hx hb dX11_radiusOf_29 (lv_at hl 0 rfl) ?_
  refine lv_i2l (v := g19.toInt64) hx hb dX11_radiusOf_31 (rfl) ?_
  refine lv_lconst (v := 1) hx hb dX11_radiusOf_32 (by decide) ?_
  refine lv_ladd hx hb dX11_radiusOf_33 ?_
  refine lv_topl (fun v33 ev33 => ?_)
  have hv33 := l_add (Int32.toInt_toInt64 g19) (show (1 : Int64).toInt = 1 by decide) ev33 (by omega) (by omega)
  refine lv_lmul hx hb dX11_radiusOf_34 ?_
  refine lv_topl (fun v34 ev34 => ?_)
  have hv34 := l_mulR (a := 1) (b := 9490001) (c := 1) (d := 9490001) (lo := 1) (hi := 90060118980001) (Eq.refl v32.toInt) (Eq.refl v33.toInt) ev34 (by omega) (by omega) (by decide) (by decide)
  refine lv_ldc2 (v := 100000) hx hb hown (hg _ kw_1864) dX11_radiusOf_35 ?_
  refine lv_lmul hx hb dX11_radiusOf_38 ?_
  refine lv_topl (fun v35 ev35 => ?_)
  have hv35 := l_mul (Eq.refl v34.toInt) (show (100000 : Int64).toInt = 100000 by decide) ev35 (by omega) (by omega)
  refine lv_lload_n hx hb dX11_radiusOf_39 rfl (lv_at hl 1 rfl) ?_
  refine W.lcmp hx hb dX11_radiusOf_40 ?_
  refine lv_if_gt (tgt := 50) hx hb dX11_radiusOf_41 (by decide) (fun c39 => ?_) (fun c39 => ?_)
  · skip
    have c39 := l_gt (Eq.refl v35.toInt) (Eq.refl v12.toInt) c39
    refine lv_iload hx hb dX11_radiusOf_50 (lv_at hl 0 rfl) ?_
    refine W.widen (k := 0) (n := 0) (Nat.le_of_ble_eq_true rfl) (Nat.le_of_ble_eq_true rfl) ?_
    exact W.iret (v := g19) hx hb hr (fun t ht hW => ⟨⟨g19, rfl, trivial, CB.mk ht hP hD⟩, hS.F ht⟩) hS.2.2 dX11_radiusOf_52
  · skip
    have c39 := l_ngt (Eq.refl v35.toInt) (Eq.refl v12.toInt) c39
    have t40 := sq_bd (r := g19.toInt) (most := v12.toInt) (by omega) hv32 hv33 hv34.1 hv35 (by omega) (by omega)
    obtain ⟨v41, ev41⟩ : ∃ y : Int32, y = g19 + 1 := ⟨_, rfl⟩
    have hv41 := i_add (Eq.refl g19.toInt) (show (1 : Int32).toInt = 1 by decide) ev41 (by omega) (by omega)
    refine lv_iinc (v := v41) (lv' := [(4, .int v41), (2, .long v12), (0, .ref o), (1, .int p1)]) hx hb dX11_radiusOf_44 hl (k := 0) rfl (by rw [ev41]; rfl) (by decide) rfl (fun ls hl => ?_)
    refine lv_goto (tgt := 24) hx hb dX11_radiusOf_47 (by decide) ?_
    exact ih30 (v41) H locs ls (by show (9490000 - v41.toInt).toNat < (9490000 - g19.toInt).toNat; omega) ⟨hP, hD, hS, lv_sub hl [0, 1, 2, 3] rfl, by omega⟩
set_option maxHeartbeats 4000000 in
set_option maxRecDepth 100000 in
theorem m_radius (l : Launch) (D : va_G) (Y : Nat → ClassId) (Z : Nat → Nat) (sz : Nat) (o : Nat) (a : Nat → Nat) (I : Nat → Int32) (J : Nat → Int64) (F : Nat → Nat → Int32) (G : Nat → Nat → Int64) (p1 : Int32) (p2 : Int32) (hk0 : TO (F 0)) (hk1 : LB (F 28)) (hk2 : TX (F 4) (F 9) (F 10) (F 11) (F 12) (F 13)) : Met l yX11_radius (.code yX11_radius cX11_radius 3 (some .int) :: GW) ({ frames := 7, cells := 0, slots := 0, locals := 169 }) (va_Pc [.ref o, .int p1, .int p2] (CP D Y Z (MW Y o a I J F G) sz)) (QG (S := Int32 × Int32 × Int32 × Int32 × Int32 × Int64 × Int64 × Int32 × Int64 × Int64 × (Nat → Int32) × (Nat → Int32) × (Nat → Int64) × (Nat → Int32) × (Nat → Int64) × (Nat → Int32)) (fun u => some (.int u.1)) (fun u => LB u.2.2.2.2.2.2.2.2.2.2.2.1) (fun u => CB D (MW Y o a (upd (upd (upd (upd (upd I 29 u.2.2.2.2.2.2.2.1) 34 u.2.1) 35 u.2.2.1) 36 u.2.2.2.1) 39 u.2.2.2.2.1) (vp_updL (vp_updL (vp_updL (vp_updL J 30 u.2.2.2.2.2.2.2.2.1) 31 u.2.2.2.2.2.2.2.2.2.1) 37 u.2.2.2.2.2.1) 38 u.2.2.2.2.2.2.1) (vf_upd (vf_upd (vf_upd (vf_upd F 1 u.2.2.2.2.2.2.2.2.2.2.1) 28 u.2.2.2.2.2.2.2.2.2.2.2.1) 41 u.2.2.2.2.2.2.2.2.2.2.2.2.2.1) 43 u.2.2.2.2.2.2.2.2.2.2.2.2.2.2.2) (vf_upd (vf_upd G 40 u.2.2.2.2.2.2.2.2.2.2.2.2.1) 42 u.2.2.2.2.2.2.2.2.2.2.2.2.2.2.1)) (va_A (MW Y o a I J F G) sz)) (va_A (MW Y o a I J F G) sz)) 0 0 (va_A (MW Y o a I J F G) sz) := by
  refine Met.ofW (cc := cX11_radius) (maxL := 3) (ret := (some .int)) (by decide) rfl ?_
  intro p e s m args below meth c s₁ B hml hv
  obtain ⟨rfl, hsz, hP, hKN, hD0⟩ := hv
  have hx := B.exec
  have hb := B.bytes
  have hr := B.returns
  have hts := atoms_spec (ws := .code yX11_radius cX11_radius 3 (some .int) :: GW) B.pre
  have hg : ∀ w ∈ GW, w.before _ s = true := fun w h => hts w (List.mem_cons_of_mem _ h)
  have hown : s.vm.findClass RX11 = some m.cls := findClass_of_methodNamed B.named
  have hlocks := B.notSynchronized
  subst hsz
  have hD := hD0.self (sz := s.heap.size)
  generalize hAe : va_A (MW Y o a I J F G) s.heap.size = A at hD ⊢
  have hA : ∀ q : Nat, s.heap.size ≤ q → A q := fun q h => by rw [← hAe]; exact Or.inr h
  clear hAe hD0 hts B
  have hl := lv_entry ([.ref o, .int p1, .int p2]) (n := 3) (Nat.le_of_ble_eq_true rfl)
  rw [lg_entry_eq]
  generalize (lg_sl ([.ref o, .int p1, .int p2]) ++ List.replicate (3 - (lg_sl ([.ref o, .int p1, .int p2])).length) Slot.unset).toArray = ls at hl ⊢
  have hl : lv_has ls 3 [(0, .ref o), (1, .int p1), (2, .int p2)] := hl
  refine w_start (A0 := A) hP (fun H locs hP hS => ?_)
  refine lv_aload_n hx hb dX11_radius_0 rfl (lv_at hl 0 rfl) ?_
  refine lv_iconst (v := 1) hx hb dX11_radius_1 (by decide) ?_
  refine lv_iload_n hx hb dX11_radius_2 rfl (lv_at hl 1 rfl) ?_
  have zi1 : (1 : Int32).toInt = 1 := by decide
  refine cga (rn_V (As := [.int 1, .int p1]) (rest := []) (b := o) (m_isText1 l D Y Z H.size o a I J F G  p1 hk2) ⟨hx, hb, hml, hown, hg⟩ lk_X11_366 ⟨CP.blind, va_recv hKN.1 hP (ci := 11) (q0 := 0) rfl rfl, CP.at hP hKN hD⟩ ⟨⟨rfl, rfl⟩, ⟨Nat.le_of_ble_eq_true rfl, Nat.le_of_ble_eq_true rfl⟩, ⟨Nat.le_of_ble_eq_true rfl, Nat.le_of_ble_eq_true rfl⟩⟩ hl.1 rfl (Nat.le_of_ble_eq_true rfl) dX11_radius_3) hP hD hS hA (fun u1 H locs w2 hP hD hS => ?_)
  have w2 : ((0 ≤ p1.toInt ∧ p1.toInt ≤ 5 ∧ p1.toInt < ((F 4) 1).toInt ∧ u1.toInt = 1) ∨ u1.toInt = 0) ∧ (0 ≤ u1.toInt ∧ u1.toInt ≤ 1) := w2
  obtain ⟨hw4, hw5⟩ := w2
  refine W.eq (g2 := F0 m 6 ls [.int u1]) rfl ?_
  have hP : va_P D vwCl (MW Y o a I J F G) H := hP
  have hD : va_D A (MW Y o a I J F G) := hD
  rcases (show u1.toInt = 1 ∨ u1.toInt = 0 by omega) with c6 | c6
  · obtain rfl : u1 = 1 := i_is c6 (by decide)
    refine W.eq (g2 := F0 m 6 ls [.int 1]) rfl ?_
    refine lv_if_eq (tgt := 17) hx hb dX11_radius_6 (by decide) (fun c7 => ?_) (fun c7 => ?_)
    · exact absurd c7 (by decide)
    refine lv_aload_n hx hb dX11_radius_9 rfl (lv_at hl 0 rfl) ?_
    refine lv_iload_n hx hb dX11_radius_10 rfl (lv_at hl 2 rfl) ?_
    refine cga (rn_V (As := [.int p2]) (rest := []) (b := o) (m_isStar l D Y Z H.size o a I J F G  p2 hk0) ⟨hx, hb, hml, hown, hg⟩ lk_X11_108 ⟨CP.blind, va_recv hKN.1 hP (ci := 11) (q0 := 0) rfl rfl, CP.at hP hKN hD⟩ ⟨⟨rfl, rfl⟩, ⟨Nat.le_of_ble_eq_true rfl, Nat.le_of_ble_eq_true rfl⟩, ⟨Nat.le_of_ble_eq_true rfl, Nat.le_of_ble_eq_true rfl⟩⟩ hl.1 rfl (Nat.le_of_ble_eq_true rfl) dX11_radius_11) hP hD hS hA (fun u8 H locs w9 hP hD hS => ?_)
    have w9 : ((0 ≤ p2.toInt ∧ p2.toInt ≤ 11 ∧ p2.toInt < ((F 0) 0).toInt ∧ u8.toInt = 1) ∨ (¬ (0 ≤ p2.toInt ∧ p2.toInt < ((F 0) 0).toInt) ∧ u8.toInt = 0)) ∧ (0 ≤ u8.toInt ∧ u8.toInt ≤ 1) := w9
    obtain ⟨hw11, hw12⟩ := w9
    refine W.eq (g2 := F0 m 14 ls [.int u8]) rfl ?_
    have hP : va_P D vwCl (MW Y o a I J F G) H := hP
    have hD : va_D A (MW Y o a I J F G) := hD
    rcases (show u8.toInt = 1 ∨ u8.toInt = 0 by omega) with c13 | c13
    · obtain rfl : u8 = 1 := i_is c13 (by decide)
      refine W.eq (g2 := F0 m 14 ls [.int 1]) rfl ?_
      refine lv_if_ne (tgt := 19) hx hb dX11_radius_14 (by decide) (fun c14 => ?_) (fun c14 => ?_)
      rotate_left
      · exact absurd c14 (by decide)
      refine lv_aload_n hx hb dX11_radius_19 rfl (lv_at hl 0 rfl) ?_
      refine lv_iload_n hx hb dX11_radius_20 rfl (lv_at hl 1 rfl) ?_
      refine lv_iload_n hx hb dX11_radius_21 rfl (lv_at hl 2 rfl) ?_
      refine lv_iconst (v := 0) hx hb dX11_radius_22 (by decide) ?_
      have zi0 : (0 : Int32).toInt = 0 := by decide
      refine cga (rn_V (As := [.int p1, .int p2, .int 0]) (rest := []) (b := o) (m_finds l D Y Z H.size o a I J F G  p1 p2 0 (show (0 ≤ p1.toInt ∧ p1.toInt ≤ 5) by omega) (show (p1.toInt < ((F 4) 1).toInt) by omega) (show (0 ≤ p2.toInt ∧ p2.toInt ≤ 11) by omega) (show (0 ≤ (0 : Int32).toInt ∧ (0 : Int32).toInt ≤ 5) by omega) hk0 hk1 hk2) ⟨hx, hb, hml, hown, hg⟩ lk_X11_487 ⟨CP.blind, va_recv hKN.1 hP (ci := 11) (q0 := 0) rfl rfl, CP.at hP hKN hD⟩ ⟨⟨rfl, rfl⟩, ⟨Nat.le_of_ble_eq_true rfl, Nat.le_of_ble_eq_true rfl⟩, ⟨Nat.le_of_ble_eq_true rfl, Nat.le_of_ble_eq_true rfl⟩⟩ hl.1 rfl (Nat.le_of_ble_eq_true rfl) dX11_radius_23) hP hD hS hA (fun u15 H locs w16 hP hD hS => ?_)
      obtain ⟨u17, u18, u19, u20, u21, u22, u23, u24, u25, u26, f27, f28, f29, f30, f31, f32⟩ := u15
      have w16 : ((u17.toInt = 1 ∧ 1 ≤ u23.toInt ∧ 2 ≤ u18.toInt ∧ u18.toInt ≤ 200 ∧ 1 ≤ u19.toInt ∧ u19.toInt ≤ 10 ∧ 0 ≤ u20.toInt ∧ u20.toInt < u18.toInt ∧ -9000000000000 ≤ u22.toInt ∧ u22.toInt ≤ 9000000000000 ∧ (cin f28 (u18.toInt).toNat (u19.toInt).toNat (u20.toInt).toNat 600 : Int) ≠ u24.toInt) ∨ u17.toInt = 0) ∧ (0 ≤ u17.toInt ∧ u17.toInt ≤ 1) ∧ (0 ≤ u24.toInt ∧ u24.toInt ≤ 600) ∧ (-60000000 ≤ u25.toInt ∧ u25.toInt ≤ 60000000) ∧ (1 ≤ u26.toInt) ∧ LB f28 := w16
      obtain ⟨hw33, hw34, hw35, hw36, hw37, hw38⟩ := w16
      refine W.eq (g2 := F0 m 26 ls [.int u17]) rfl ?_
      have hP : va_P D vwCl (MW Y o a (upd (upd (upd (upd (upd I 29 u24) 34 u18) 35 u19) 36 u20) 39 u21) (vp_updL (vp_updL (vp_updL (vp_updL J 30 u25) 31 u26) 37 u22) 38 u23) (vf_upd (vf_upd (vf_upd (vf_upd F 1 f27) 28 f28) 41 f30) 43 f32) (vf_upd (vf_upd G 40 f29) 42 f31)) H := hP
      have hD : va_D A (MW Y o a (upd (upd (upd (upd (upd I 29 u24) 34 u18) 35 u19) 36 u20) 39 u21) (vp_updL (vp_updL (vp_updL (vp_updL J 30 u25) 31 u26) 37 u22) 38 u23) (vf_upd (vf_upd (vf_upd (vf_upd F 1 f27) 28 f28) 41 f30) 43 f32) (vf_upd (vf_upd G 40 f29) 42 f31)) := hD
      rcases (show u17.toInt = 1 ∨ u17.toInt = 0 by omega) with c39 | c39
      · obtain rfl : u17 = 1 := i_is c39 (by decide)
        refine W.eq (g2 := F0 m 26 ls [.int 1]) rfl ?_
        refine lv_if_eq (tgt := 37) hx hb dX11_radius_26 (by decide) (fun c44 => ?_) (fun c44 => ?_)
        · exact absurd c44 (by decide)
        refine lv_aload_n hx hb dX11_radius_29 rfl (lv_at hl 0 rfl) ?_
        refine lv_iload_n hx hb dX11_radius_30 rfl (lv_at hl 2 rfl) ?_
        refine cga (rn_V (As := [.int p2]) (rest := []) (b := o) (m_radiusOf l D Y Z H.size o a (upd (upd (upd (upd (upd I 29 u24) 34 u18) 35 u19) 36 u20) 39 u21) (vp_updL (vp_updL (vp_updL (vp_updL J 30 u25) 31 u26) 37 u22) 38 u23) (vf_upd (vf_upd (vf_upd (vf_upd F 1 f27) 28 f28) 41 f30) 43 f32) (vf_upd (vf_upd G 40 f29) 42 f31)  p2 (show (0 ≤ p2.toInt ∧ p2.toInt ≤ 11) by omega) (show (-9000000000000 ≤ u22.toInt ∧ u22.toInt ≤ 9000000000000) by omega) hk0) ⟨hx, hb, hml, hown, hg⟩ lk_X11_558 ⟨CP.blind, va_recv hKN.1 hP (ci := 11) (q0 := 0) rfl rfl, CP.at hP hKN hD⟩ ⟨⟨rfl, rfl⟩, ⟨Nat.le_of_ble_eq_true rfl, Nat.le_of_ble_eq_true rfl⟩, ⟨Nat.le_of_ble_eq_true rfl, Nat.le_of_ble_eq_true rfl⟩⟩ hl.1 rfl (Nat.le_of_ble_eq_true rfl) dX11_radius_31) hP hD hS hA (fun u45 H locs w46 hP hD hS => ?_)
        refine W.eq (g2 := F0 m 34 ls [.int u45]) rfl ?_
        have hP : va_P D vwCl (MW Y o a (upd (upd (upd (upd (upd I 29 u24) 34 u18) 35 u19) 36 u20) 39 u21) (vp_updL (vp_updL (vp_updL (vp_updL J 30 u25) 31 u26) 37 u22) 38 u23) (vf_upd (vf_upd (vf_upd (vf_upd F 1 f27) 28 f28) 41 f30) 43 f32) (vf_upd (vf_upd G 40 f29) 42 f31)) H := hP
        have hD : va_D A (MW Y o a (upd (upd (upd (upd (upd I 29 u24) 34 u18) 35 u19) 36 u20) 39 u21) (vp_updL (vp_updL (vp_updL (vp_updL J 30 u25) 31 u26) 37 u22) 38 u23) (vf_upd (vf_upd (vf_upd (vf_upd F 1 f27) 28 f28) 41 f30) 43 f32) (vf_upd (vf_upd G 40 f29) 42 f31)) := hD
        refine lv_goto (tgt := 39) hx hb dX11_radius_34 (by decide) ?_
        refine W.widen (k := 0) (n := 0) (Nat.le_of_ble_eq_true rfl) (Nat.le_of_ble_eq_true rfl) ?_
        exact W.iret (v := u45) hx hb hr (fun t ht hW => ⟨⟨(u45, u18, u19, u20, u21, u22, u23, u24, u25, u26, f27, f28, f29, f30, f31, f32), rfl, (hw38), CB.mk ht hP hD⟩, hS.F ht⟩) hS.2.2 dX11_radius_39
      · obtain rfl : u17 = 0 := i_is c39 (by decide)
        refine W.eq (g2 := F0 m 26 ls [.int 0]) rfl ?_
        refine lv_if_eq (tgt := 37) hx hb dX11_radius_26 (by decide) (fun c49 => ?_) (fun c49 => ?_)
        rotate_left
        · exact absurd c49 (by decide)
        refine lv_bipush (v := (-2)) hx hb dX11_radius_37 (by decide) ?_
        refine W.widen (k := 0) (n := 0) (Nat.le_of_ble_eq_true rfl) (Nat.le_of_ble_eq_true rfl) ?_
        have zim2 : ((-2) : Int32).toInt = -2 := by decide
        exact W.iret (v := (-2)) hx hb hr (fun t ht hW => ⟨⟨((-2), u18, u19, u20, u21, u22, u23, u24, u25, u26, f27, f28, f29, f30, f31, f32), rfl, (hw38), CB.mk ht hP hD⟩, hS.F ht⟩) hS.2.2 dX11_radius_39
    · obtain rfl : u8 = 0 := i_is c13 (by decide)
      have zi0 : (0 : Int32).toInt = 0 := by decide
      refine W.eq (g2 := F0 m 14 ls [.int 0]) rfl ?_
      refine lv_if_ne (tgt := 19) hx hb dX11_radius_14 (by decide) (fun c50 => ?_) (fun c50 => ?_)
      · exact absurd c50 (by decide)
      refine lv_iconst (v := (-1)) hx hb dX11_radius_17 (by decide) ?_
      refine W.widen (k := 0) (n := 0) (Nat.le_of_ble_eq_true rfl) (Nat.le_of_ble_eq_true rfl) ?_
      have zim1 : ((-1) : Int32).toInt = -1 := by decide
      exact W.iret (v := (-1)) hx hb hr (fun t ht hW => ⟨⟨((-1), (I 34), (I 35), (I 36), (I 39), (J 37), (J 38), (I 29), (J 30), (J 31), (F 1), (F 28), (G 40), (F 41), (G 42), (F 43)), rfl, (hk1), CB.mk ht hP hD⟩, hS.F ht⟩) hS.2.2 dX11_radius_18
  · obtain rfl : u1 = 0 := i_is c6 (by decide)
    have zi0 : (0 : Int32).toInt = 0 := by decide
    refine W.eq (g2 := F0 m 6 ls [.int 0]) rfl ?_
    refine lv_if_eq (tgt := 17) hx hb dX11_radius_6 (by decide) (fun c51 => ?_) (fun c51 => ?_)
    rotate_left
    · exact absurd c51 (by decide)
    refine lv_iconst (v := (-1)) hx hb dX11_radius_17 (by decide) ?_
    refine W.widen (k := 0) (n := 0) (Nat.le_of_ble_eq_true rfl) (Nat.le_of_ble_eq_true rfl) ?_
    have zim1 : ((-1) : Int32).toInt = -1 := by decide
    exact W.iret (v := (-1)) hx hb hr (fun t ht hW => ⟨⟨((-1), (I 34), (I 35), (I 36), (I 39), (J 37), (J 38), (I 29), (J 30), (J 31), (F 1), (F 28), (G 40), (F 41), (G 42), (F 43)), rfl, (hk1), CB.mk ht hP hD⟩, hS.F ht⟩) hS.2.2 dX11_radius_18
set_option maxHeartbeats 4000000 in
set_option maxRecDepth 100000 in
theorem m_finest (l : Launch) (D : va_G) (Y : Nat → ClassId) (Z : Nat → Nat) (sz : Nat) (o : Nat) (a : Nat → Nat) (I : Nat → Int32) (J : Nat → Int64) (F : Nat → Nat → Int32) (G : Nat → Nat → Int64) (hk0 : TO (F 0)) (hk1 : LB (F 28)) (hk2 : TX (F 4) (F 9) (F 10) (F 11) (F 12) (F 13)) : Met l yX11_finest (.code yX11_finest cX11_finest 8 (some .int) :: GW) ({ frames := 9, cells := 0, slots := 0, locals := 214 }) (va_Pc [.ref o] (CP D Y Z (MW Y o a I J F G) sz)) (QG (S := Int32 × Int32 × Int32 × Int32 × Int32 × Int64 × Int64 × Int32 × Int64 × Int64 × (Nat → Int32) × (Nat → Int32) × (Nat → Int64) × (Nat → Int32) × (Nat → Int64) × (Nat → Int32)) (fun u => some (.int u.1)) (fun u => LB u.2.2.2.2.2.2.2.2.2.2.2.1) (fun u => CB D (MW Y o a (upd (upd (upd (upd (upd I 29 u.2.2.2.2.2.2.2.1) 34 u.2.1) 35 u.2.2.1) 36 u.2.2.2.1) 39 u.2.2.2.2.1) (vp_updL (vp_updL (vp_updL (vp_updL J 30 u.2.2.2.2.2.2.2.2.1) 31 u.2.2.2.2.2.2.2.2.2.1) 37 u.2.2.2.2.2.1) 38 u.2.2.2.2.2.2.1) (vf_upd (vf_upd (vf_upd (vf_upd F 1 u.2.2.2.2.2.2.2.2.2.2.1) 28 u.2.2.2.2.2.2.2.2.2.2.2.1) 41 u.2.2.2.2.2.2.2.2.2.2.2.2.2.1) 43 u.2.2.2.2.2.2.2.2.2.2.2.2.2.2.2) (vf_upd (vf_upd G 40 u.2.2.2.2.2.2.2.2.2.2.2.2.1) 42 u.2.2.2.2.2.2.2.2.2.2.2.2.2.2.1)) (va_A (MW Y o a I J F G) sz)) (va_A (MW Y o a I J F G) sz)) 0 0 (va_A (MW Y o a I J F G) sz) := by
  refine Met.ofW (cc := cX11_finest) (maxL := 8) (ret := (some .int)) (by decide) rfl ?_
  intro p e s m args below meth c s₁ B hml hv
  obtain ⟨rfl, hsz, hP, hKN, hD0⟩ := hv
  have hx := B.exec
  have hb := B.bytes
  have hr := B.returns
  have hts := atoms_spec (ws := .code yX11_finest cX11_finest 8 (some .int) :: GW) B.pre
  have hg : ∀ w ∈ GW, w.before _ s = true := fun w h => hts w (List.mem_cons_of_mem _ h)
  have hown : s.vm.findClass RX11 = some m.cls := findClass_of_methodNamed B.named
  have hlocks := B.notSynchronized
  subst hsz
  have hD := hD0.self (sz := s.heap.size)
  generalize hAe : va_A (MW Y o a I J F G) s.heap.size = A at hD ⊢
  have hA : ∀ q : Nat, s.heap.size ≤ q → A q := fun q h => by rw [← hAe]; exact Or.inr h
  clear hAe hD0 hts B
  have hl := lv_entry ([.ref o]) (n := 8) (Nat.le_of_ble_eq_true rfl)
  rw [lg_entry_eq]
  generalize (lg_sl ([.ref o]) ++ List.replicate (8 - (lg_sl ([.ref o])).length) Slot.unset).toArray = ls at hl ⊢
  have hl : lv_has ls 8 [(0, .ref o)] := hl
  refine w_start (A0 := A) hP (fun H locs hP hS => ?_)
  refine lv_iconst (v := (-1)) hx hb dX11_finest_0 (by decide) ?_
  refine lv_istore_n (lv' := [(1, .int (-1)), (0, .ref o)]) hx hb dX11_finest_1 rfl hl (by decide) rfl (fun ls hl => ?_)
  refine lv_iconst (v := 0) hx hb dX11_finest_2 (by decide) ?_
  refine lv_istore_n (lv' := [(2, .int 0), (1, .int (-1)), (0, .ref o)]) hx hb dX11_finest_3 rfl hl (by decide) rfl (fun ls hl => ?_)
  refine lv_iconst (v := 0) hx hb dX11_finest_4 (by decide) ?_
  refine lv_istore_n (lv' := [(3, .int 0), (2, .int 0), (1, .int (-1)), (0, .ref o)]) hx hb dX11_finest_5 rfl hl (by decide) rfl (fun ls hl => ?_)
  refine lv_iconst (v := 0) hx hb dX11_finest_6 (by decide) ?_
  refine lv_istore (lv' := [(4, .int 0), (3, .int 0), (2, .int 0), (1, .int (-1)), (0, .ref o)]) hx hb dX11_finest_7 hl (by decide) rfl (fun ls hl => ?_)
  have zi0 : (0 : Int32).toInt = 0 := by decide
  have zim1 : ((-1) : Int32).toInt = -1 := by decide
  refine w_loop (σ := Int32 × Int32 × Int32 × Int32 × Int32 × Int64 × Int64 × Int32 × Int32 × Int32 × Int64 × Int64 × Int32 × (Nat → Int32) × (Nat → Int32) × (Nat → Int64) × (Nat → Int32) × (Nat → Int64) × (Nat → Int32)) (fun xx H locs ls => match xx with | (g704, g705, g706, g707, g708, g709, g710, g711, g712, g713, g714, g715, g716, f717, f718, f719, f720, f721, f722) => va_P D vwCl (MW Y o a (upd (upd (upd (upd (upd I 29 g708) 34 g711) 35 g712) 36 g713) 39 g716) (vp_updL (vp_updL (vp_updL (vp_updL J 30 g709) 31 g710) 37 g714) 38 g715) (vf_upd (vf_upd (vf_upd (vf_upd F 1 f717) 28 f718) 41 f720) 43 f722) (vf_upd (vf_upd G 40 f719) 42 f721)) H ∧ va_D A (MW Y o a (upd (upd (upd (upd (upd I 29 g708) 34 g711) 35 g712) 36 g713) 39 g716) (vp_updL (vp_updL (vp_updL (vp_updL J 30 g709) 31 g710) 37 g714) 38 g715) (vf_upd (vf_upd (vf_upd (vf_upd F 1 f717) 28 f718) 41 f720) 43 f722) (vf_upd (vf_upd G 40 f719) 42 f721)) ∧ va_S A s.heap H locs ∧ lv_has ls 8 [(4, .int g704), (3, .int g705), (2, .int g706), (1, .int g707), (0, .ref o)] ∧ (0 ≤ g704.toInt ∧ g704.toInt ≤ 6) ∧ LB f718) (fun xx => match xx with | (g704, g705, g706, g707, g708, g709, g710, g711, g712, g713, g714, g715, g716, f717, f718, f719, f720, f721, f722) => (6 - g704.toInt).toNat) (0, 0, 0, (-1), (I 29), (J 30), (J 31), (I 34), (I 35), (I 36), (J 37), (J 38), (I 39), (F 1), (F 28), (G 40), (F 41), (G 42), (F 43)) ⟨hP, hD, hS, lv_sub hl [0, 1, 2, 3, 4] rfl, by omega, hk1⟩ (fun xx H locs ls hI ih => ?_)
  obtain ⟨g704, g705, g706, g707, g708, g709, g710, g711, g712, g713, g714, g715, g716, f717, f718, f719, f720, f721, f722⟩ := xx
  obtain ⟨hP, hD, hS, hl, hq1468, hp1469⟩ := hI
  have ih1470 := ih
  refine lv_iload hx hb dX11_finest_9 (lv_at hl 0 rfl) ?_
  refine lv_aload_n hx hb dX11_finest_11 rfl (lv_at hl 4 rfl) ?_
  refine va_get (D := D) (ci := 11) (v := .ref (a 4)) (C := RX11) (T := TX11) (N := 49) hx hb hg inGX11 hown hKN.1 hP 0 rfl rfl 4 (by decide) (hg _ kw_1212) (fun _ h9 => h9) rfl dX11_finest_12 ?_
  refine lv_iconst (v := 1) hx hb dX11_finest_15 (by decide) ?_
  refine va_iald hx hb hKN.1 hP 4 0 rfl rfl (show ¬ ((1 : Int32) < 0 ∨ 3 ≤ (1 : Int32).toNatClampNeg) by decide) dX11_finest_16 ?_
  refine lv_topi (fun v1471 ev1471 => ?_)
  have ev1471 : v1471 = (F 4) 1 := ev1471
  have kv1471 := TX_t hk2 (i := 1) (by decide) (by decide)
  have kv1471 : 0 ≤ ((F 4) 1).toInt ∧ ((F 4) 1).toInt ≤ 6 := kv1471
  have qv1471 := congrArg Int32.toInt ev1471
  refine lv_icmp_ge (tgt := 122) hx hb dX11_finest_17 (by decide) (fun c1844 => ?_) (fun c1844 => ?_)
  · skip
    have c1844 := i_le (Eq.refl v1471.toInt) (Eq.refl g704.toInt) c1844
    refine lv_iload_n hx hb dX11_finest_122 rfl (lv_at hl 3 rfl) ?_
    refine W.widen (k := 0) (n := 0) (Nat.le_of_ble_eq_true rfl) (Nat.le_of_ble_eq_true rfl) ?_
    exact W.iret (v := g707) hx hb hr (fun t ht hW => ⟨⟨(g707, g711, g712, g713, g716, g714, g715, g708, g709, g710, f717, f718, f719, f720, f721, f722), rfl, (hp1469), CB.mk ht hP hD⟩, hS.F ht⟩) hS.2.2 dX11_finest_123
  · skip
    have c1844 := i_nle (Eq.refl v1471.toInt) (Eq.refl g704.toInt) c1844
    refine lv_aload_n hx hb dX11_finest_20 rfl (lv_at hl 4 rfl) ?_
    refine lv_iload hx hb dX11_finest_21 (lv_at hl 0 rfl) ?_
    refine cga (rn_V (As := [.int g704]) (rest := []) (b := o) (m_caughtBy l D Y Z H.size o a (upd (upd (upd (upd (upd I 29 g708) 34 g711) 35 g712) 36 g713) 39 g716) (vp_updL (vp_updL (vp_updL (vp_updL J 30 g709) 31 g710) 37 g714) 38 g715) (vf_upd (vf_upd (vf_upd (vf_upd F 1 f717) 28 f718) 41 f720) 43 f722) (vf_upd (vf_upd G 40 f719) 42 f721)  g704 (show (0 ≤ g704.toInt ∧ g704.toInt ≤ 5) by omega) (show (g704.toInt < ((F 4) 1).toInt) by omega) hk0 hp1469 hk2) ⟨hx, hb, hml, hown, hg⟩ lk_X11_509 ⟨CP.blind, va_recv hKN.1 hP (ci := 11) (q0 := 0) rfl rfl, CP.at hP hKN hD⟩ ⟨⟨rfl, rfl⟩, ⟨Nat.le_of_ble_eq_true rfl, Nat.le_of_ble_eq_true rfl⟩, ⟨Nat.le_of_ble_eq_true rfl, Nat.le_of_ble_eq_true rfl⟩⟩ hl.1 rfl (Nat.le_of_ble_eq_true rfl) dX11_finest_23) hP hD hS hA (fun u1845 H locs w1846 hP hD hS => ?_)
    obtain ⟨u1847, u1848, u1849, u1850, u1851, u1852, u1853, u1854, u1855, u1856, f1857, f1858, f1859, f1860, f1861⟩ := u1845
    have w1846 : (0 ≤ u1847.toInt ∧ u1847.toInt ≤ 40) ∧ LB f1857 := w1846
    obtain ⟨hw1862, hw1863⟩ := w1846
    refine W.eq (g2 := F0 m 26 ls [.int u1847]) rfl ?_
    have hP : va_P D vwCl (MW Y o a (upd (upd (upd (upd (upd I 29 u1854) 34 u1848) 35 u1849) 36 u1850) 39 u1851) (vp_updL (vp_updL (vp_updL (vp_updL J 30 u1855) 31 u1856) 37 u1852) 38 u1853) (vf_upd (vf_upd (vf_upd (vf_upd F 1 f717) 28 f1857) 41 f1859) 43 f1861) (vf_upd (vf_upd G 40 f1858) 42 f1860)) H := hP
    have hD : va_D A (MW Y o a (upd (upd (upd (upd (upd I 29 u1854) 34 u1848) 35 u1849) 36 u1850) 39 u1851) (vp_updL (vp_updL (vp_updL (vp_updL J 30 u1855) 31 u1856) 37 u1852) 38 u1853) (vf_upd (vf_upd (vf_upd (vf_upd F 1 f717) 28 f1857) 41 f1859) 43 f1861) (vf_upd (vf_upd G 40 f1858) 42 f1860)) := hD
    refine lv_istore (lv' := [(5, .int u1847), (4, .int g704), (3, .int g705), (2, .int g706), (1, .int g707), (0, .ref o)]) hx hb dX11_finest_26 hl (by decide) rfl (fun ls hl => ?_)
    refine lv_iconst (v := 0) hx hb dX11_finest_28 (by decide) ?_
    refine lv_istore (lv' := [(6, .int 0), (5, .int u1847), (4, .int g704), (3, .int g705), (2, .int g706), (1, .int g707), (0, .ref o)]) hx hb dX11_finest_29 hl (by decide) rfl (fun ls hl => ?_)
    refine lv_iconst (v := 0) hx hb dX11_finest_31 (by decide) ?_
    refine lv_istore (lv' := [(7, .int 0), (6, .int 0), (5, .int u1847), (4, .int g704), (3, .int g705), (2, .int g706), (1, .int g707), (0, .ref o)]) hx hb dX11_finest_32 hl (by decide) rfl (fun ls hl => ?_)
    have zi0 : (0 : Int32).toInt = 0 := by decide
    refine w_loop (σ := Int32 × Int32 × Int32 × Int64 × Int64 × Int32 × Int32 × Int32 × Int64 × Int64 × Int32 × (Nat → Int32) × (Nat → Int32) × (Nat → Int64) × (Nat → Int32) × (Nat → Int64) × (Nat → Int32)) (fun xx H locs ls => match xx with | (g1963, g1964, g1965, g1966, g1967, g1968, g1969, g1970, g1971, g1972, g1973, f1974, f1975, f1976, f1977, f1978, f1979) => va_P D vwCl (MW Y o a (upd (upd (upd (upd (upd I 29 g1965) 34 g1968) 35 g1969) 36 g1970) 39 g1973) (vp_updL (vp_updL (vp_updL (vp_updL J 30 g1966) 31 g1967) 37 g1971) 38 g1972) (vf_upd (vf_upd (vf_upd (vf_upd F 1 f1974) 28 f1975) 41 f1977) 43 f1979) (vf_upd (vf_upd G 40 f1976) 42 f1978)) H ∧ va_D A (MW Y o a (upd (upd (upd (upd (upd I 29 g1965) 34 g1968) 35 g1969) 36 g1970) 39 g1973) (vp_updL (vp_updL (vp_updL (vp_updL J 30 g1966) 31 g1967) 37 g1971) 38 g1972) (vf_upd (vf_upd (vf_upd (vf_upd F 1 f1974) 28 f1975) 41 f1977) 43 f1979) (vf_upd (vf_upd G 40 f1976) 42 f1978)) ∧ va_S A s.heap H locs ∧ lv_has ls 8 [(7, .int g1963), (6, .int g1964), (5, .int u1847), (4, .int g704), (3, .int g705), (2, .int g706), (1, .int g707), (0, .ref o)] ∧ (0 ≤ g1963.toInt ∧ g1963.toInt ≤ 12) ∧ LB f1975) (fun xx => match xx with | (g1963, g1964, g1965, g1966, g1967, g1968, g1969, g1970, g1971, g1972, g1973, f1974, f1975, f1976, f1977, f1978, f1979) => (12 - g1963.toInt).toNat) (0, 0, u1854, u1855, u1856, u1848, u1849, u1850, u1852, u1853, u1851, f717, f1857, f1858, f1859, f1860, f1861) ⟨hP, hD, hS, lv_sub hl [0, 1, 2, 3, 4, 5, 6, 7] rfl, by omega, hw1863⟩ (fun xx H locs ls hI ih => ?_)
    obtain ⟨g1963, g1964, g1965, g1966, g1967, g1968, g1969, g1970, g1971, g1972, g1973, f1974, f1975, f1976, f1977, f1978, f1979⟩ := xx
    obtain ⟨hP, hD, hS, hl, hq2085, hp2086⟩ := hI
    have ih2087 := ih
    refine lv_iload hx hb dX11_finest_34 (lv_at hl 0 rfl) ?_
    refine lv_aload_n hx hb dX11_finest_36 rfl (lv_at hl 7 rfl) ?_
    refine va_get (D := D) (ci := 11) (v := .ref (a 0)) (C := RX11) (T := TX11) (N := 49) hx hb hg inGX11 hown hKN.1 hP 0 rfl rfl 0 (by decide) (hg _ kw_1208) (fun _ h9 => h9) rfl dX11_finest_37 ?_
    refine lv_iconst (v := 0) hx hb dX11_finest_40 (by decide) ?_
    refine va_iald hx hb hKN.1 hP 1 0 rfl rfl (show ¬ ((0 : Int32) < 0 ∨ 7533 ≤ (0 : Int32).toNatClampNeg) by decide) dX11_finest_41 ?_
    refine lv_topi (fun v2088 ev2088 => ?_)
    have ev2088 : v2088 = (F 0) 0 := ev2088
    have kv2088 := TO_0 hk0
    rw [← ev2088] at kv2088
    have qv2088 := congrArg Int32.toInt ev2088
    refine lv_icmp_ge (tgt := 82) hx hb dX11_finest_42 (by decide) (fun c2141 => ?_) (fun c2141 => ?_)
    · skip
      have c2141 := i_le (Eq.refl v2088.toInt) (Eq.refl g1963.toInt) c2141
      refine lv_iload_n hx hb dX11_finest_82 rfl (lv_at hl 6 rfl) ?_
      refine w_join (σ := Int32 × Int32 × Int32) (pcJ := 116) (kJ := 0) (nJ := 0) (stk := fun xx => match xx with | (g2150, g2151, g2152) => []) (fun xx H locs ls => match xx with | (g2150, g2151, g2152) => va_P D vwCl (MW Y o a (upd (upd (upd (upd (upd I 29 g1965) 34 g1968) 35 g1969) 36 g1970) 39 g1973) (vp_updL (vp_updL (vp_updL (vp_updL J 30 g1966) 31 g1967) 37 g1971) 38 g1972) (vf_upd (vf_upd (vf_upd (vf_upd F 1 f1974) 28 f1975) 41 f1977) 43 f1979) (vf_upd (vf_upd G 40 f1976) 42 f1978)) H ∧ va_D A (MW Y o a (upd (upd (upd (upd (upd I 29 g1965) 34 g1968) 35 g1969) 36 g1970) 39 g1973) (vp_updL (vp_updL (vp_updL (vp_updL J 30 g1966) 31 g1967) 37 g1971) 38 g1972) (vf_upd (vf_upd (vf_upd (vf_upd F 1 f1974) 28 f1975) 41 f1977) 43 f1979) (vf_upd (vf_upd G 40 f1976) 42 f1978)) ∧ va_S A s.heap H locs ∧ lv_has ls 8 [(3, .int g2150), (2, .int g2151), (1, .int g2152), (7, .int g1963), (6, .int g1964), (5, .int u1847), (4, .int g704), (0, .ref o)] ∧ (0 ≤ g2151.toInt) ∧ (0 ≤ g2152.toInt)) (fun xx H locs ls hI => ?_) (fun jn2153 => ?_)
      · skip
        obtain ⟨g2150, g2151, g2152⟩ := xx
        obtain ⟨hP, hD, hS, hl, hq2154, hq2155⟩ := hI
        refine W.eq (g2 := F0 m 116 ls []) rfl ?_
        obtain ⟨v2156, ev2156⟩ : ∃ y : Int32, y = g704 + 1 := ⟨_, rfl⟩
        have hv2156 := i_add (Eq.refl g704.toInt) (show (1 : Int32).toInt = 1 by decide) ev2156 (by omega) (by omega)
        refine lv_iinc (v := v2156) (lv' := [(4, .int v2156), (3, .int g2150), (2, .int g2151), (1, .int g2152), (7, .int g1963), (6, .int g1964), (5, .int u1847), (0, .ref o)]) hx hb dX11_finest_116 hl (k := 6) rfl (by rw [ev2156]; rfl) (by decide) rfl (fun ls hl => ?_)
        refine lv_goto (tgt := 9) hx hb dX11_finest_119 (by decide) ?_
        exact ih1470 (v2156, g2150, g2151, g2152, g1965, g1966, g1967, g1968, g1969, g1970, g1971, g1972, g1973, f1974, f1975, f1976, f1977, f1978, f1979) H locs ls (by show (6 - v2156.toInt).toNat < (6 - g704.toInt).toNat; omega) ⟨hP, hD, hS, lv_sub hl [0, 1, 2, 3, 7] rfl, by omega, hp2086⟩
      · skip
        have j2157 := rgI g707
        refine lv_if_lt (tgt := 107) hx hb dX11_finest_83 (by decide) (fun c2158 => ?_) (fun c2158 => ?_)
        · skip
          have c2158 := i_lt (Eq.refl g707.toInt) (show (0 : Int32).toInt = 0 by decide) c2158
          refine lv_iload hx hb dX11_finest_107 (lv_at hl 3 rfl) ?_
          refine lv_istore_n (lv' := [(1, .int g704), (7, .int g1963), (6, .int g1964), (5, .int u1847), (4, .int g704), (3, .int g705), (2, .int g706), (0, .ref o)]) hx hb dX11_finest_109 rfl hl (by decide) rfl (fun ls hl => ?_)
          refine lv_iload hx hb dX11_finest_110 (lv_at hl 3 rfl) ?_
          refine lv_istore_n (lv' := [(2, .int u1847), (1, .int g704), (7, .int g1963), (6, .int g1964), (5, .int u1847), (4, .int g704), (3, .int g705), (0, .ref o)]) hx hb dX11_finest_112 rfl hl (by decide) rfl (fun ls hl => ?_)
          refine lv_iload hx hb dX11_finest_113 (lv_at hl 3 rfl) ?_
          refine lv_istore_n (lv' := [(3, .int g1964), (2, .int u1847), (1, .int g704), (7, .int g1963), (6, .int g1964), (5, .int u1847), (4, .int g704), (0, .ref o)]) hx hb dX11_finest_115 rfl hl (by decide) rfl (fun ls hl => ?_)
          refine W.widen (k := 0) (n := 0) (Nat.le_of_ble_eq_true rfl) (Nat.le_of_ble_eq_true rfl) ?_
          exact jn2153 (g1964, u1847, g704) H locs ls ⟨hP, hD, hS, lv_sub hl [0, 1, 2, 3, 4, 5, 6, 7] rfl, by omega, by omega⟩
        · skip
          have c2158 := i_nlt (Eq.refl g707.toInt) (show (0 : Int32).toInt = 0 by decide) c2158
          refine lv_iload hx hb dX11_finest_86 (lv_at hl 2 rfl) ?_
          refine lv_iload_n hx hb dX11_finest_88 rfl (lv_at hl 5 rfl) ?_
          have j2159 := rgI g706
          refine lv_icmp_lt (tgt := 116) hx hb dX11_finest_89 (by decide) (fun c2160 => ?_) (fun c2160 => ?_)
          · skip
            have c2160 := i_lt (Eq.refl u1847.toInt) (Eq.refl g706.toInt) c2160
            refine W.widen (k := 0) (n := 0) (Nat.le_of_ble_eq_true rfl) (Nat.le_of_ble_eq_true rfl) ?_
            exact jn2153 (g705, g706, g707) H locs ls ⟨hP, hD, hS, lv_sub hl [4, 5, 6, 0, 1, 2, 3, 7] rfl, by omega, by omega⟩
          · skip
            have c2160 := i_nlt (Eq.refl u1847.toInt) (Eq.refl g706.toInt) c2160
            refine lv_iload hx hb dX11_finest_92 (lv_at hl 2 rfl) ?_
            refine lv_iload_n hx hb dX11_finest_94 rfl (lv_at hl 5 rfl) ?_
            refine lv_icmp_ne (tgt := 107) hx hb dX11_finest_95 (by decide) (fun c2161 => ?_) (fun c2161 => ?_)
            · skip
              have c2161 := i_ne (Eq.refl u1847.toInt) (Eq.refl g706.toInt) c2161
              refine lv_iload hx hb dX11_finest_107 (lv_at hl 3 rfl) ?_
              refine lv_istore_n (lv' := [(1, .int g704), (7, .int g1963), (6, .int g1964), (5, .int u1847), (4, .int g704), (3, .int g705), (2, .int g706), (0, .ref o)]) hx hb dX11_finest_109 rfl hl (by decide) rfl (fun ls hl => ?_)
              refine lv_iload hx hb dX11_finest_110 (lv_at hl 3 rfl) ?_
              refine lv_istore_n (lv' := [(2, .int u1847), (1, .int g704), (7, .int g1963), (6, .int g1964), (5, .int u1847), (4, .int g704), (3, .int g705), (0, .ref o)]) hx hb dX11_finest_112 rfl hl (by decide) rfl (fun ls hl => ?_)
              refine lv_iload hx hb dX11_finest_113 (lv_at hl 3 rfl) ?_
              refine lv_istore_n (lv' := [(3, .int g1964), (2, .int u1847), (1, .int g704), (7, .int g1963), (6, .int g1964), (5, .int u1847), (4, .int g704), (0, .ref o)]) hx hb dX11_finest_115 rfl hl (by decide) rfl (fun ls hl => ?_)
              refine W.widen (k := 0) (n := 0) (Nat.le_of_ble_eq_true rfl) (Nat.le_of_ble_eq_true rfl) ?_
              exact jn2153 (g1964, u1847, g704) H locs ls ⟨hP, hD, hS, lv_sub hl [0, 1, 2, 3, 4, 5, 6, 7] rfl, by omega, by omega⟩
            · skip
              have c2161 := i_eq (Eq.refl u1847.toInt) (Eq.refl g706.toInt) c2161
              refine lv_iload hx hb dX11_finest_98 (lv_at hl 1 rfl) ?_
              refine lv_iload_n hx hb dX11_finest_100 rfl (lv_at hl 4 rfl) ?_
              have j2162 := rgI g1964
              have j2163 := rgI g705
              refine lv_icmp_lt (tgt := 107) hx hb dX11_finest_101 (by decide) (fun c2164 => ?_) (fun c2164 => ?_)
              · skip
                have c2164 := i_lt (Eq.refl g1964.toInt) (Eq.refl g705.toInt) c2164
                refine lv_iload hx hb dX11_finest_107 (lv_at hl 3 rfl) ?_
                refine lv_istore_n (lv' := [(1, .int g704), (7, .int g1963), (6, .int g1964), (5, .int u1847), (4, .int g704), (3, .int g705), (2, .int g706), (0, .ref o)]) hx hb dX11_finest_109 rfl hl (by decide) rfl (fun ls hl => ?_)
                refine lv_iload hx hb dX11_finest_110 (lv_at hl 3 rfl) ?_
                refine lv_istore_n (lv' := [(2, .int u1847), (1, .int g704), (7, .int g1963), (6, .int g1964), (5, .int u1847), (4, .int g704), (3, .int g705), (0, .ref o)]) hx hb dX11_finest_112 rfl hl (by decide) rfl (fun ls hl => ?_)
                refine lv_iload hx hb dX11_finest_113 (lv_at hl 3 rfl) ?_
                refine lv_istore_n (lv' := [(3, .int g1964), (2, .int u1847), (1, .int g704), (7, .int g1963), (6, .int g1964), (5, .int u1847), (4, .int g704), (0, .ref o)]) hx hb dX11_finest_115 rfl hl (by decide) rfl (fun ls hl => ?_)
                refine W.widen (k := 0) (n := 0) (Nat.le_of_ble_eq_true rfl) (Nat.le_of_ble_eq_true rfl) ?_
                exact jn2153 (g1964, u1847, g704) H locs ls ⟨hP, hD, hS, lv_sub hl [0, 1, 2, 3, 4, 5, 6, 7] rfl, by omega, by omega⟩
              · skip
                have c2164 := i_nlt (Eq.refl g1964.toInt) (Eq.refl g705.toInt) c2164
                refine lv_goto (tgt := 116) hx hb dX11_finest_104 (by decide) ?_
                refine W.widen (k := 0) (n := 0) (Nat.le_of_ble_eq_true rfl) (Nat.le_of_ble_eq_true rfl) ?_
                exact jn2153 (g705, g706, g707) H locs ls ⟨hP, hD, hS, lv_sub hl [4, 5, 6, 0, 1, 2, 3, 7] rfl, by omega, by omega⟩
    · skip
      have c2141 := i_nle (Eq.refl v2088.toInt) (Eq.refl g1963.toInt) c2141
      refine lv_iload hx hb dX11_finest_45 (lv_at hl 1 rfl) ?_
      refine lv_aload_n hx hb dX11_finest_47 rfl (lv_at hl 7 rfl) ?_
      refine lv_iload hx hb dX11_finest_48 (lv_at hl 3 rfl) ?_
      refine lv_iload hx hb dX11_finest_50 (lv_at hl 0 rfl) ?_
      refine lv_iconst (v := 1) hx hb dX11_finest_52 (by decide) ?_
      have zi1 : (1 : Int32).toInt = 1 := by decide
      refine cga (rn_V (As := [.int g704, .int g1963, .int 1]) (rest := [.int g1964]) (b := o) (m_finds l D Y Z H.size o a (upd (upd (upd (upd (upd I 29 g1965) 34 g1968) 35 g1969) 36 g1970) 39 g1973) (vp_updL (vp_updL (vp_updL (vp_updL J 30 g1966) 31 g1967) 37 g1971) 38 g1972) (vf_upd (vf_upd (vf_upd (vf_upd F 1 f1974) 28 f1975) 41 f1977) 43 f1979) (vf_upd (vf_upd G 40 f1976) 42 f1978)  g704 g1963 1 (show (0 ≤ g704.toInt ∧ g704.toInt ≤ 5) by omega) (show (g704.toInt < ((F 4) 1).toInt) by omega) (show (0 ≤ g1963.toInt ∧ g1963.toInt ≤ 11) by omega) (show (0 ≤ (1 : Int32).toInt ∧ (1 : Int32).toInt ≤ 5) by omega) hk0 hp2086 hk2) ⟨hx, hb, hml, hown, hg⟩ lk_X11_487 ⟨CP.blind, va_recv hKN.1 hP (ci := 11) (q0 := 0) rfl rfl, CP.at hP hKN hD⟩ ⟨⟨rfl, rfl⟩, ⟨Nat.le_of_ble_eq_true rfl, Nat.le_of_ble_eq_true rfl⟩, ⟨Nat.le_of_ble_eq_true rfl, Nat.le_of_ble_eq_true rfl⟩⟩ hl.1 rfl (Nat.le_of_ble_eq_true rfl) dX11_finest_53) hP hD hS hA (fun u2165 H locs w2166 hP hD hS => ?_)
      obtain ⟨u2167, u2168, u2169, u2170, u2171, u2172, u2173, u2174, u2175, u2176, f2177, f2178, f2179, f2180, f2181, f2182⟩ := u2165
      have w2166 : ((u2167.toInt = 1 ∧ 1 ≤ u2173.toInt ∧ 2 ≤ u2168.toInt ∧ u2168.toInt ≤ 200 ∧ 1 ≤ u2169.toInt ∧ u2169.toInt ≤ 10 ∧ 0 ≤ u2170.toInt ∧ u2170.toInt < u2168.toInt ∧ -9000000000000 ≤ u2172.toInt ∧ u2172.toInt ≤ 9000000000000 ∧ (cin f2178 (u2168.toInt).toNat (u2169.toInt).toNat (u2170.toInt).toNat 600 : Int) ≠ u2174.toInt) ∨ u2167.toInt = 0) ∧ (0 ≤ u2167.toInt ∧ u2167.toInt ≤ 1) ∧ (0 ≤ u2174.toInt ∧ u2174.toInt ≤ 600) ∧ (-60000000 ≤ u2175.toInt ∧ u2175.toInt ≤ 60000000) ∧ (1 ≤ u2176.toInt) ∧ LB f2178 := w2166
      obtain ⟨hw2183, hw2184, hw2185, hw2186, hw2187, hw2188⟩ := w2166
      refine W.eq (g2 := F0 m 56 ls [.int u2167, .int g1964]) rfl ?_
      have hP : va_P D vwCl (MW Y o a (upd (upd (upd (upd (upd I 29 u2174) 34 u2168) 35 u2169) 36 u2170) 39 u2171) (vp_updL (vp_updL (vp_updL (vp_updL J 30 u2175) 31 u2176) 37 u2172) 38 u2173) (vf_upd (vf_upd (vf_upd (vf_upd F 1 f2177) 28 f2178) 41 f2180) 43 f2182) (vf_upd (vf_upd G 40 f2179) 42 f2181)) H := hP
      have hD : va_D A (MW Y o a (upd (upd (upd (upd (upd I 29 u2174) 34 u2168) 35 u2169) 36 u2170) 39 u2171) (vp_updL (vp_updL (vp_updL (vp_updL J 30 u2175) 31 u2176) 37 u2172) 38 u2173) (vf_upd (vf_upd (vf_upd (vf_upd F 1 f2177) 28 f2178) 41 f2180) 43 f2182) (vf_upd (vf_upd G 40 f2179) 42 f2181)) := hD
      rcases (show u2167.toInt = 1 ∨ u2167.toInt = 0 by omega) with c2189 | c2189
      · obtain rfl : u2167 = 1 := i_is c2189 (by decide)
        refine W.eq (g2 := F0 m 56 ls [.int 1, .int g1964]) rfl ?_
        refine w_join (σ := Int32) (pcJ := 73) (kJ := 0) (nJ := 0) (stk := fun xx => match xx with | g2198 => [.int g2198, .int g1964]) (fun xx H locs ls => match xx with | g2198 => va_P D vwCl (MW Y o a (upd (upd (upd (upd (upd I 29 u2174) 34 u2168) 35 u2169) 36 u2170) 39 u2171) (vp_updL (vp_updL (vp_updL (vp_updL J 30 u2175) 31 u2176) 37 u2172) 38 u2173) (vf_upd (vf_upd (vf_upd (vf_upd F 1 f2177) 28 f2178) 41 f2180) 43 f2182) (vf_upd (vf_upd G 40 f2179) 42 f2181)) H ∧ va_D A (MW Y o a (upd (upd (upd (upd (upd I 29 u2174) 34 u2168) 35 u2169) 36 u2170) 39 u2171) (vp_updL (vp_updL (vp_updL (vp_updL J 30 u2175) 31 u2176) 37 u2172) 38 u2173) (vf_upd (vf_upd (vf_upd (vf_upd F 1 f2177) 28 f2178) 41 f2180) 43 f2182) (vf_upd (vf_upd G 40 f2179) 42 f2181)) ∧ va_S A s.heap H locs ∧ lv_has ls 8 [(7, .int g1963), (6, .int g1964), (5, .int u1847), (4, .int g704), (3, .int g705), (2, .int g706), (1, .int g707), (0, .ref o)] ∧ (0 ≤ g2198.toInt ∧ g2198.toInt ≤ 1)) (fun xx H locs ls hI => ?_) (fun jn2199 => ?_)
        · skip
          revert hI
          generalize xx = g2198
          intro hI
          obtain ⟨hP, hD, hS, hl, hq2200⟩ := hI
          refine W.eq (g2 := F0 m 73 ls [.int g2198, .int g1964]) rfl ?_
          refine lv_iadd hx hb dX11_finest_73 ?_
          refine lv_topi (fun v2201 ev2201 => ?_)
          refine lv_istore (lv' := [(6, .int v2201), (7, .int g1963), (5, .int u1847), (4, .int g704), (3, .int g705), (2, .int g706), (1, .int g707), (0, .ref o)]) hx hb dX11_finest_74 hl (by decide) rfl (fun ls hl => ?_)
          obtain ⟨v2202, ev2202⟩ : ∃ y : Int32, y = g1963 + 1 := ⟨_, rfl⟩
          have hv2202 := i_add (Eq.refl g1963.toInt) (show (1 : Int32).toInt = 1 by decide) ev2202 (by omega) (by omega)
          refine lv_iinc (v := v2202) (lv' := [(7, .int v2202), (6, .int v2201), (5, .int u1847), (4, .int g704), (3, .int g705), (2, .int g706), (1, .int g707), (0, .ref o)]) hx hb dX11_finest_76 hl (k := 1) rfl (by rw [ev2202]; rfl) (by decide) rfl (fun ls hl => ?_)
          refine lv_goto (tgt := 34) hx hb dX11_finest_79 (by decide) ?_
          exact ih2087 (v2202, v2201, u2174, u2175, u2176, u2168, u2169, u2170, u2172, u2173, u2171, f2177, f2178, f2179, f2180, f2181, f2182) H locs ls (by show (12 - v2202.toInt).toNat < (12 - g1963.toInt).toNat; omega) ⟨hP, hD, hS, lv_sub hl [0, 1, 2, 3, 4, 5, 6, 7] rfl, by omega, hw2188⟩
        · skip
          refine lv_if_eq (tgt := 72) hx hb dX11_finest_56 (by decide) (fun c2203 => ?_) (fun c2203 => ?_)
          · exact absurd c2203 (by decide)
          refine lv_aload_n hx hb dX11_finest_59 rfl (lv_at hl 7 rfl) ?_
          refine lv_iload hx hb dX11_finest_60 (lv_at hl 3 rfl) ?_
          refine cga (rn_V (As := [.int g704]) (rest := [.int g1964]) (b := o) (m_isSeen l D Y Z H.size o a (upd (upd (upd (upd (upd I 29 u2174) 34 u2168) 35 u2169) 36 u2170) 39 u2171) (vp_updL (vp_updL (vp_updL (vp_updL J 30 u2175) 31 u2176) 37 u2172) 38 u2173) (vf_upd (vf_upd (vf_upd (vf_upd F 1 f2177) 28 f2178) 41 f2180) 43 f2182) (vf_upd (vf_upd G 40 f2179) 42 f2181)  g704 (show (0 ≤ g704.toInt ∧ g704.toInt ≤ 5) by omega)) ⟨hx, hb, hml, hown, hg⟩ lk_X11_494 ⟨CP.blind, va_recv hKN.1 hP (ci := 11) (q0 := 0) rfl rfl, CP.at hP hKN hD⟩ ⟨⟨rfl, rfl⟩, ⟨Nat.le_of_ble_eq_true rfl, Nat.le_of_ble_eq_true rfl⟩, ⟨Nat.le_of_ble_eq_true rfl, Nat.le_of_ble_eq_true rfl⟩⟩ hl.1 rfl (Nat.le_of_ble_eq_true rfl) dX11_finest_62) hP hD hS hA (fun u2204 H locs w2205 hP hD hS => ?_)
          have w2205 : (0 ≤ u2204.toInt ∧ u2204.toInt ≤ 1) := w2205
          have hw2207 := w2205
          refine W.eq (g2 := F0 m 65 ls [.int u2204, .int g1964]) rfl ?_
          have hP : va_P D vwCl (MW Y o a (upd (upd (upd (upd (upd I 29 u2174) 34 u2168) 35 u2169) 36 u2170) 39 u2171) (vp_updL (vp_updL (vp_updL (vp_updL J 30 u2175) 31 u2176) 37 u2172) 38 u2173) (vf_upd (vf_upd (vf_upd (vf_upd F 1 f2177) 28 f2178) 41 f2180) 43 f2182) (vf_upd (vf_upd G 40 f2179) 42 f2181)) H := hP
          have hD : va_D A (MW Y o a (upd (upd (upd (upd (upd I 29 u2174) 34 u2168) 35 u2169) 36 u2170) 39 u2171) (vp_updL (vp_updL (vp_updL (vp_updL J 30 u2175) 31 u2176) 37 u2172) 38 u2173) (vf_upd (vf_upd (vf_upd (vf_upd F 1 f2177) 28 f2178) 41 f2180) 43 f2182) (vf_upd (vf_upd G 40 f2179) 42 f2181)) := hD
          rcases (show u2204.toInt = 1 ∨ u2204.toInt = 0 by omega) with c2208 | c2208
          · obtain rfl : u2204 = 1 := i_is c2208 (by decide)
            refine W.eq (g2 := F0 m 65 ls [.int 1, .int g1964]) rfl ?_
            refine lv_if_eq (tgt := 72) hx hb dX11_finest_65 (by decide) (fun c2209 => ?_) (fun c2209 => ?_)
            · exact absurd c2209 (by decide)
            refine lv_iconst (v := 1) hx hb dX11_finest_68 (by decide) ?_
            refine lv_goto (tgt := 73) hx hb dX11_finest_69 (by decide) ?_
            refine W.widen (k := 0) (n := 0) (Nat.le_of_ble_eq_true rfl) (Nat.le_of_ble_eq_true rfl) ?_
            exact jn2199 (1) H locs ls ⟨hP, hD, hS, lv_sub hl [0, 1, 2, 3, 4, 5, 6, 7] rfl, by omega⟩
          · obtain rfl : u2204 = 0 := i_is c2208 (by decide)
            have zi0 : (0 : Int32).toInt = 0 := by decide
            refine W.eq (g2 := F0 m 65 ls [.int 0, .int g1964]) rfl ?_
            refine lv_if_eq (tgt := 72) hx hb dX11_finest_65 (by decide) (fun c2210 => ?_) (fun c2210 => ?_)
            rotate_left
            · exact absurd c2210 (by decide)
            refine lv_iconst (v := 0) hx hb dX11_finest_72 (by decide) ?_
            refine W.widen (k := 0) (n := 0) (Nat.le_of_ble_eq_true rfl) (Nat.le_of_ble_eq_true rfl) ?_
            exact jn2199 (0) H locs ls ⟨hP, hD, hS, lv_sub hl [0, 1, 2, 3, 4, 5, 6, 7] rfl, by omega⟩
      · obtain rfl : u2167 = 0 := i_is c2189 (by decide)
        have zi0 : (0 : Int32).toInt = 0 := by decide
        refine W.eq (g2 := F0 m 56 ls [.int 0, .int g1964]) rfl ?_
        refine lv_if_eq (tgt := 72) hx hb dX11_finest_56 (by decide) (fun c2212 => ?_) (fun c2212 => ?_)
        rotate_left
        · exact absurd c2212 (by decide)
        refine lv_iconst (v := 0) hx hb dX11_finest_72 (by decide) ?_
        refine lv_iadd hx hb dX11_finest_73 ?_
        refine lv_topi (fun v2213 ev2213 => ?_)
        have j2214 := rgI g1964
        have hv2213 := i_add (Eq.refl g1964.toInt) (show (0 : Int32).toInt = 0 by decide) ev2213 (by omega) (by omega)
        refine lv_istore (lv' := [(6, .int v2213), (7, .int g1963), (5, .int u1847), (4, .int g704), (3, .int g705), (2, .int g706), (1, .int g707), (0, .ref o)]) hx hb dX11_finest_74 hl (by decide) rfl (fun ls hl => ?_)
        obtain ⟨v2215, ev2215⟩ : ∃ y : Int32, y = g1963 + 1 := ⟨_, rfl⟩
        have hv2215 := i_add (Eq.refl g1963.toInt) (show (1 : Int32).toInt = 1 by decide) ev2215 (by omega) (by omega)
        refine lv_iinc (v := v2215) (lv' := [(7, .int v2215), (6, .int v2213), (5, .int u1847), (4, .int g704), (3, .int g705), (2, .int g706), (1, .int g707), (0, .ref o)]) hx hb dX11_finest_76 hl (k := 1) rfl (by rw [ev2215]; rfl) (by decide) rfl (fun ls hl => ?_)
        refine lv_goto (tgt := 34) hx hb dX11_finest_79 (by decide) ?_
        exact ih2087 (v2215, v2213, u2174, u2175, u2176, u2168, u2169, u2170, u2172, u2173, u2171, f2177, f2178, f2179, f2180, f2181, f2182) H locs ls (by show (12 - v2215.toInt).toNat < (12 - g1963.toInt).toNat; omega) ⟨hP, hD, hS, lv_sub hl [0, 1, 2, 3, 4, 5, 6, 7] rfl, by omega, hw2188⟩
