set_option maxHeartbeats 4000000 in
set_option maxRecDepth 100000 in
theorem x_X3_readSign (l : Launch) (D : va_G) (Y : Nat → ClassId) (Z : Nat → Nat) (sz : Nat) (ws : va_W) (T : RT) (g : GN) (q : GQ)  (p0 : Nat) (hT : TW Y Z T g q ws) (ht0 : T p0 = (7, 0, 0)) : Met l yX3_readSign (.code yX3_readSign cX3_readSign 3 none :: GW) ({ frames := 1, cells := 0, slots := 0, locals := 22 }) (va_Pc [.ref p0] (CPC D Y Z ws sz)) (QG (S := va_W) (fun _ => none) (fun u => TW Y Z T g q u ∧ KF 1 T ws u ∧ KF 6 T ws u) (fun u => CB D u (va_A ws sz)) (va_A ws sz)) 0 0 (va_A ws sz) := by
  refine Met.ofW (cc := cX3_readSign) (maxL := 3) (ret := none) (by decide) rfl ?_
  intro p e s m args below meth c s₁ B hml hv
  obtain ⟨rfl, ⟨hsz, hP, hKN, hD0⟩, hSZ⟩ := hv
  have hx := B.exec
  have hb := B.bytes
  have hr := B.returns
  have hts := atoms_spec (ws := .code yX3_readSign cX3_readSign 3 none :: GW) B.pre
  have hg : ∀ w ∈ GW, w.before _ s = true := fun w h => hts w (List.mem_cons_of_mem _ h)
  have hown : s.vm.findClass RX3 = some m.cls := findClass_of_methodNamed B.named
  have hlocks := B.notSynchronized
  subst hsz
  have hD := hD0.self (sz := s.heap.size)
  generalize hAe : va_A ws s.heap.size = A at hD hSZ ⊢
  have hA : ∀ q : Nat, s.heap.size ≤ q → A q := fun q h => by rw [← hAe]; exact Or.inr h
  clear hAe hD0 hts B
  have hl := lv_entry ([.ref p0]) (n := 3) (Nat.le_of_ble_eq_true rfl)
  rw [lg_entry_eq]
  generalize (lg_sl ([.ref p0]) ++ List.replicate (3 - (lg_sl ([.ref p0])).length) Slot.unset).toArray = ls at hl ⊢
  have hl : lv_has ls 3 [(0, .ref p0)] := hl
  refine w_start (A0 := A) hP (fun H locs hP hS => ?_)
  refine lv_aload_n hx hb dX3_readSign_0 rfl (lv_at hl 0 rfl) ?_
  refine ok7 hT ht0 (fun p21 n1 a2 x3 x4 x5 x6 x7 x8 x9 x10 a11 a12 x13 hk22 h14 h15 h16 h17 h18 h19 h20 => ?_)
  refine va_get (D := D) (ci := 3) (v := .int x5) (C := RX3) (T := TX3) (N := 12) hx hb hg inGX3 hown hKN.1 hP p21 hk22 rfl 3 (by decide) (hg _ kw_181) (fun _ h9 => h9) rfl dX3_readSign_1 ?_
  refine lv_bipush (v := 60) hx hb dX3_readSign_4 (by decide) ?_
  refine w_join (σ := Int32) (pcJ := 24) (kJ := 0) (nJ := 0) (stk := fun xx => match xx with | v26 => [.int v26]) (fun xx H locs ls => match xx with | v26 => va_P D vwCl ws H ∧ va_D A ws ∧ va_S A s.heap H locs ∧ lv_has ls 3 [(0, .ref p0)] ∧ TW Y Z T g q ws ∧ (0 ≤ v26.toInt ∧ v26.toInt ≤ 1)) (fun xx H locs ls hI => ?_) (fun jn27 => ?_)
  · skip
    revert hI
    generalize xx = v26
    intro hI
    obtain ⟨hP, hD, hS, hl, hT, hq28⟩ := hI
    refine W.eq (g2 := F0 m 24 ls [.int v26]) rfl ?_
    refine lv_istore_n (lv' := [(1, .int v26), (0, .ref p0)]) hx hb dX3_readSign_24 rfl hl (by decide) rfl (fun ls hl => ?_)
    refine lv_aload_n hx hb dX3_readSign_25 rfl (lv_at hl 1 rfl) ?_
    refine va_get (D := D) (ci := 3) (v := .int x5) (C := RX3) (T := TX3) (N := 12) hx hb hg inGX3 hown hKN.1 hP p21 hk22 rfl 3 (by decide) (hg _ kw_181) (fun _ h9 => h9) rfl dX3_readSign_26 ?_
    refine lv_bipush (v := 62) hx hb dX3_readSign_29 (by decide) ?_
    refine w_join (σ := Int32) (pcJ := 49) (kJ := 0) (nJ := 0) (stk := fun xx => match xx with | v32 => [.int v32]) (fun xx H locs ls => match xx with | v32 => va_P D vwCl ws H ∧ va_D A ws ∧ va_S A s.heap H locs ∧ lv_has ls 3 [(1, .int v26), (0, .ref p0)] ∧ TW Y Z T g q ws ∧ (0 ≤ v32.toInt ∧ v32.toInt ≤ 1)) (fun xx H locs ls hI => ?_) (fun jn33 => ?_)
    · skip
      revert hI
      generalize xx = v32
      intro hI
      obtain ⟨hP, hD, hS, hl, hT, hq34⟩ := hI
      refine W.eq (g2 := F0 m 49 ls [.int v32]) rfl ?_
      refine lv_istore_n (lv' := [(2, .int v32), (1, .int v26), (0, .ref p0)]) hx hb dX3_readSign_49 rfl hl (by decide) rfl (fun ls hl => ?_)
      refine lv_iload_n hx hb dX3_readSign_50 rfl (lv_at hl 1 rfl) ?_
      refine lv_if_ne (tgt := 75) hx hb dX3_readSign_51 (by decide) (fun c35 => ?_) (fun c35 => ?_)
      · skip
        have c35 := i_ne (Eq.refl v26.toInt) (show (0 : Int32).toInt = 0 by decide) c35
        refine lv_aload_n hx hb dX3_readSign_75 rfl (lv_at hl 2 rfl) ?_
        refine va_get (D := D) (ci := 3) (v := .int x9) (C := RX3) (T := TX3) (N := 12) hx hb hg inGX3 hown hKN.1 hP p21 hk22 rfl 7 (by decide) (hg _ kw_185) (fun _ h9 => h9) rfl dX3_readSign_76 ?_
        refine lv_bipush (v := 60) hx hb dX3_readSign_79 (by decide) ?_
        have j36 := rgI x9
        refine lv_icmp_lt (tgt := 92) hx hb dX3_readSign_81 (by decide) (fun c37 => ?_) (fun c37 => ?_)
        · skip
          have c37 := i_lt (Eq.refl x9.toInt) (show (60 : Int32).toInt = 60 by decide) c37
          refine lv_aload_n hx hb dX3_readSign_92 rfl (lv_at hl 2 rfl) ?_
          refine lv_dup hx hb dX3_readSign_93 rfl ?_
          refine va_get (D := D) (ci := 3) (v := .int x9) (C := RX3) (T := TX3) (N := 12) hx hb hg inGX3 hown hKN.1 hP p21 hk22 rfl 7 (by decide) (hg _ kw_185) (fun _ h9 => h9) rfl dX3_readSign_94 ?_
          refine lv_iconst (v := 1) hx hb dX3_readSign_97 (by decide) ?_
          refine lv_iadd hx hb dX3_readSign_98 ?_
          refine lv_topi (fun v38 ev38 => ?_)
          have hv38 := i_add (Eq.refl x9.toInt) (show (1 : Int32).toInt = 1 by decide) ev38 (by omega) (by omega)
          refine va_put (D := D) (ci := 3) (v := .int v38) (ty := .int) (C := RX3) (T := TX3) (N := 12) hx hb hg inGX3 tyX3 tyX3_ok nmX3 hown hKN.1 hP hD hS p21 hk22 rfl 7 (by decide) (hg _ kw_185) (fun _ h9 => h9) rfl (by decide +kernel) rfl rfl (Nat.le_of_ble_eq_true rfl) dX3_readSign_99 (fun H locs hP hD2 hS => ?_)
          obtain ⟨w39, hP, hD, hT, hk41, kp40⟩ : ∃ wz, va_P D vwCl wz H ∧ va_D A wz ∧ TW Y Z T g q wz ∧ wz[p21]? = some (p0, .inr (3, [.ref a2, .int x3, .int x4, .int x5, .int x6, .int x7, .int x8, .int v38, .int x10, .ref (Z a11), .ref a12, .int x13])) ∧ Kp p0 ws wz := ⟨_, hP, hD2, st7 hT hD hk22 ht0 ⟨n1, a2, x3, x4, x5, x6, x7, x8, v38, x10, a11, a12, x13, rfl, h14, by omega, by omega, h17, h18, by omega, h20⟩, sw_eq hk22, sw_kp hk22⟩
          have ke42 : KF 1 T ws w39 := KF.tr KF.rf (KF.kp kp40 ht0 (by decide))
          have ke43 : KF 6 T ws w39 := KF.tr KF.rf (KF.kp kp40 ht0 (by decide))
          refine lv_aload_n hx hb dX3_readSign_102 rfl (lv_at hl 2 rfl) ?_
          refine cga (rn_V (As := []) (rest := []) (b := p0) (x_X3_step l D Y Z H.size w39 T g q p0 hT ht0) ⟨hx, hb, hml, hown, hg⟩ lk_X3_61 ⟨CPC.blind, va_recv hKN.1 hP (ci := 3) (q0 := p21) rfl hk41, CPC.at hP hKN hD hSZ hS hA⟩ ⟨⟨rfl, rfl⟩, ⟨Nat.le_of_ble_eq_true rfl, Nat.le_of_ble_eq_true rfl⟩, ⟨(Nat.le_of_ble_eq_true rfl), (Nat.le_of_ble_eq_true rfl)⟩⟩ hl.1 rfl (Nat.le_of_ble_eq_true rfl) dX3_readSign_103) hP hD hS hA (fun u44 H locs hw45 hP hD hS => ?_)
          obtain ⟨hT, ke47, ke48⟩ : TW Y Z T g q u44 ∧ KF 1 T w39 u44 ∧ KF 6 T w39 u44 := hw45
          have ke49 : KF 1 T ws u44 := KF.tr ke42 ke47
          have ke50 : KF 6 T ws u44 := KF.tr ke43 ke48
          refine W.eq (g2 := F0 m 106 ls []) rfl ?_
          refine W.widen (k := 0) (n := 0) (Nat.le_of_ble_eq_true rfl) (Nat.le_of_ble_eq_true rfl) ?_
          exact W.vret hx hb hr (fun t ht hW => ⟨⟨u44, rfl, ⟨hT, ke49, ke50⟩, CB.mk ht hP hD⟩, hS.F ht⟩) hS.2.2 dX3_readSign_106
        · skip
          have c37 := i_nlt (Eq.refl x9.toInt) (show (60 : Int32).toInt = 60 by decide) c37
          refine lv_aload_n hx hb dX3_readSign_84 rfl (lv_at hl 2 rfl) ?_
          refine lv_iconst (v := 3) hx hb dX3_readSign_85 (by decide) ?_
          have zi3 : (3 : Int32).toInt = 3 := by decide
          refine cga (rn_V (As := [.int 3]) (rest := []) (b := p0) (x_X3_setFault l D Y Z H.size ws T g q p0 3 hT ht0) ⟨hx, hb, hml, hown, hg⟩ lk_X3_78 ⟨CPC.blind, va_recv hKN.1 hP (ci := 3) (q0 := p21) rfl hk22, CPC.at hP hKN hD hSZ hS hA⟩ ⟨⟨rfl, rfl⟩, ⟨Nat.le_of_ble_eq_true rfl, Nat.le_of_ble_eq_true rfl⟩, ⟨(Nat.le_of_ble_eq_true rfl), (Nat.le_of_ble_eq_true rfl)⟩⟩ hl.1 rfl (Nat.le_of_ble_eq_true rfl) dX3_readSign_86) hP hD hS hA (fun u51 H locs hw52 hP hD hS => ?_)
          obtain ⟨hT, ke54, ke55⟩ : TW Y Z T g q u51 ∧ KF 1 T ws u51 ∧ KF 6 T ws u51 := hw52
          have ke56 : KF 1 T ws u51 := KF.tr KF.rf ke54
          have ke57 : KF 6 T ws u51 := KF.tr KF.rf ke55
          refine W.eq (g2 := F0 m 89 ls []) rfl ?_
          refine lv_goto (tgt := 106) hx hb dX3_readSign_89 (by decide) ?_
          refine W.widen (k := 0) (n := 0) (Nat.le_of_ble_eq_true rfl) (Nat.le_of_ble_eq_true rfl) ?_
          exact W.vret hx hb hr (fun t ht hW => ⟨⟨u51, rfl, ⟨hT, ke56, ke57⟩, CB.mk ht hP hD⟩, hS.F ht⟩) hS.2.2 dX3_readSign_106
      · skip
        have c35 := i_eq (Eq.refl v26.toInt) (show (0 : Int32).toInt = 0 by decide) c35
        refine lv_iload_n hx hb dX3_readSign_54 rfl (lv_at hl 0 rfl) ?_
        refine lv_if_ne (tgt := 75) hx hb dX3_readSign_55 (by decide) (fun c58 => ?_) (fun c58 => ?_)
        · skip
          have c58 := i_ne (Eq.refl v32.toInt) (show (0 : Int32).toInt = 0 by decide) c58
          refine lv_aload_n hx hb dX3_readSign_75 rfl (lv_at hl 2 rfl) ?_
          refine va_get (D := D) (ci := 3) (v := .int x9) (C := RX3) (T := TX3) (N := 12) hx hb hg inGX3 hown hKN.1 hP p21 hk22 rfl 7 (by decide) (hg _ kw_185) (fun _ h9 => h9) rfl dX3_readSign_76 ?_
          refine lv_bipush (v := 60) hx hb dX3_readSign_79 (by decide) ?_
          have j59 := rgI x9
          refine lv_icmp_lt (tgt := 92) hx hb dX3_readSign_81 (by decide) (fun c60 => ?_) (fun c60 => ?_)
          · skip
            have c60 := i_lt (Eq.refl x9.toInt) (show (60 : Int32).toInt = 60 by decide) c60
            refine lv_aload_n hx hb dX3_readSign_92 rfl (lv_at hl 2 rfl) ?_
            refine lv_dup hx hb dX3_readSign_93 rfl ?_
            refine va_get (D := D) (ci := 3) (v := .int x9) (C := RX3) (T := TX3) (N := 12) hx hb hg inGX3 hown hKN.1 hP p21 hk22 rfl 7 (by decide) (hg _ kw_185) (fun _ h9 => h9) rfl dX3_readSign_94 ?_
            refine lv_iconst (v := 1) hx hb dX3_readSign_97 (by decide) ?_
            refine lv_iadd hx hb dX3_readSign_98 ?_
            refine lv_topi (fun v61 ev61 => ?_)
            have hv61 := i_add (Eq.refl x9.toInt) (show (1 : Int32).toInt = 1 by decide) ev61 (by omega) (by omega)
            refine va_put (D := D) (ci := 3) (v := .int v61) (ty := .int) (C := RX3) (T := TX3) (N := 12) hx hb hg inGX3 tyX3 tyX3_ok nmX3 hown hKN.1 hP hD hS p21 hk22 rfl 7 (by decide) (hg _ kw_185) (fun _ h9 => h9) rfl (by decide +kernel) rfl rfl (Nat.le_of_ble_eq_true rfl) dX3_readSign_99 (fun H locs hP hD2 hS => ?_)
            obtain ⟨w62, hP, hD, hT, hk64, kp63⟩ : ∃ wz, va_P D vwCl wz H ∧ va_D A wz ∧ TW Y Z T g q wz ∧ wz[p21]? = some (p0, .inr (3, [.ref a2, .int x3, .int x4, .int x5, .int x6, .int x7, .int x8, .int v61, .int x10, .ref (Z a11), .ref a12, .int x13])) ∧ Kp p0 ws wz := ⟨_, hP, hD2, st7 hT hD hk22 ht0 ⟨n1, a2, x3, x4, x5, x6, x7, x8, v61, x10, a11, a12, x13, rfl, h14, by omega, by omega, h17, h18, by omega, h20⟩, sw_eq hk22, sw_kp hk22⟩
            have ke65 : KF 1 T ws w62 := KF.tr KF.rf (KF.kp kp63 ht0 (by decide))
            have ke66 : KF 6 T ws w62 := KF.tr KF.rf (KF.kp kp63 ht0 (by decide))
            refine lv_aload_n hx hb dX3_readSign_102 rfl (lv_at hl 2 rfl) ?_
            refine cga (rn_V (As := []) (rest := []) (b := p0) (x_X3_step l D Y Z H.size w62 T g q p0 hT ht0) ⟨hx, hb, hml, hown, hg⟩ lk_X3_61 ⟨CPC.blind, va_recv hKN.1 hP (ci := 3) (q0 := p21) rfl hk64, CPC.at hP hKN hD hSZ hS hA⟩ ⟨⟨rfl, rfl⟩, ⟨Nat.le_of_ble_eq_true rfl, Nat.le_of_ble_eq_true rfl⟩, ⟨(Nat.le_of_ble_eq_true rfl), (Nat.le_of_ble_eq_true rfl)⟩⟩ hl.1 rfl (Nat.le_of_ble_eq_true rfl) dX3_readSign_103) hP hD hS hA (fun u67 H locs hw68 hP hD hS => ?_)
            obtain ⟨hT, ke70, ke71⟩ : TW Y Z T g q u67 ∧ KF 1 T w62 u67 ∧ KF 6 T w62 u67 := hw68
            have ke72 : KF 1 T ws u67 := KF.tr ke65 ke70
            have ke73 : KF 6 T ws u67 := KF.tr ke66 ke71
            refine W.eq (g2 := F0 m 106 ls []) rfl ?_
            refine W.widen (k := 0) (n := 0) (Nat.le_of_ble_eq_true rfl) (Nat.le_of_ble_eq_true rfl) ?_
            exact W.vret hx hb hr (fun t ht hW => ⟨⟨u67, rfl, ⟨hT, ke72, ke73⟩, CB.mk ht hP hD⟩, hS.F ht⟩) hS.2.2 dX3_readSign_106
          · skip
            have c60 := i_nlt (Eq.refl x9.toInt) (show (60 : Int32).toInt = 60 by decide) c60
            refine lv_aload_n hx hb dX3_readSign_84 rfl (lv_at hl 2 rfl) ?_
            refine lv_iconst (v := 3) hx hb dX3_readSign_85 (by decide) ?_
            have zi3 : (3 : Int32).toInt = 3 := by decide
            refine cga (rn_V (As := [.int 3]) (rest := []) (b := p0) (x_X3_setFault l D Y Z H.size ws T g q p0 3 hT ht0) ⟨hx, hb, hml, hown, hg⟩ lk_X3_78 ⟨CPC.blind, va_recv hKN.1 hP (ci := 3) (q0 := p21) rfl hk22, CPC.at hP hKN hD hSZ hS hA⟩ ⟨⟨rfl, rfl⟩, ⟨Nat.le_of_ble_eq_true rfl, Nat.le_of_ble_eq_true rfl⟩, ⟨(Nat.le_of_ble_eq_true rfl), (Nat.le_of_ble_eq_true rfl)⟩⟩ hl.1 rfl (Nat.le_of_ble_eq_true rfl) dX3_readSign_86) hP hD hS hA (fun u74 H locs hw75 hP hD hS => ?_)
            obtain ⟨hT, ke77, ke78⟩ : TW Y Z T g q u74 ∧ KF 1 T ws u74 ∧ KF 6 T ws u74 := hw75
            have ke79 : KF 1 T ws u74 := KF.tr KF.rf ke77
            have ke80 : KF 6 T ws u74 := KF.tr KF.rf ke78
            refine W.eq (g2 := F0 m 89 ls []) rfl ?_
            refine lv_goto (tgt := 106) hx hb dX3_readSign_89 (by decide) ?_
            refine W.widen (k := 0) (n := 0) (Nat.le_of_ble_eq_true rfl) (Nat.le_of_ble_eq_true rfl) ?_
            exact W.vret hx hb hr (fun t ht hW => ⟨⟨u74, rfl, ⟨hT, ke79, ke80⟩, CB.mk ht hP hD⟩, hS.F ht⟩) hS.2.2 dX3_readSign_106
        · skip
          have c58 := i_eq (Eq.refl v32.toInt) (show (0 : Int32).toInt = 0 by decide) c58
          refine lv_aload_n hx hb dX3_readSign_58 rfl (lv_at hl 2 rfl) ?_
          refine va_get (D := D) (ci := 3) (v := .int x5) (C := RX3) (T := TX3) (N := 12) hx hb hg inGX3 hown hKN.1 hP p21 hk22 rfl 3 (by decide) (hg _ kw_181) (fun _ h9 => h9) rfl dX3_readSign_59 ?_
          refine lv_bipush (v := 61) hx hb dX3_readSign_62 (by decide) ?_
          have j81 := rgI x5
          refine lv_icmp_eq (tgt := 75) hx hb dX3_readSign_64 (by decide) (fun c82 => ?_) (fun c82 => ?_)
          · skip
            have c82 := i_eq (Eq.refl x5.toInt) (show (61 : Int32).toInt = 61 by decide) c82
            refine lv_aload_n hx hb dX3_readSign_75 rfl (lv_at hl 2 rfl) ?_
            refine va_get (D := D) (ci := 3) (v := .int x9) (C := RX3) (T := TX3) (N := 12) hx hb hg inGX3 hown hKN.1 hP p21 hk22 rfl 7 (by decide) (hg _ kw_185) (fun _ h9 => h9) rfl dX3_readSign_76 ?_
            refine lv_bipush (v := 60) hx hb dX3_readSign_79 (by decide) ?_
            have j83 := rgI x9
            refine lv_icmp_lt (tgt := 92) hx hb dX3_readSign_81 (by decide) (fun c84 => ?_) (fun c84 => ?_)
            · skip
              have c84 := i_lt (Eq.refl x9.toInt) (show (60 : Int32).toInt = 60 by decide) c84
              refine lv_aload_n hx hb dX3_readSign_92 rfl (lv_at hl 2 rfl) ?_
              refine lv_dup hx hb dX3_readSign_93 rfl ?_
              refine va_get (D := D) (ci := 3) (v := .int x9) (C := RX3) (T := TX3) (N := 12) hx hb hg inGX3 hown hKN.1 hP p21 hk22 rfl 7 (by decide) (hg _ kw_185) (fun _ h9 => h9) rfl dX3_readSign_94 ?_
              refine lv_iconst (v := 1) hx hb dX3_readSign_97 (by decide) ?_
              refine lv_iadd hx hb dX3_readSign_98 ?_
              refine lv_topi (fun v85 ev85 => ?_)
              have hv85 := i_add (Eq.refl x9.toInt) (show (1 : Int32).toInt = 1 by decide) ev85 (by omega) (by omega)
              refine va_put (D := D) (ci := 3) (v := .int v85) (ty := .int) (C := RX3) (T := TX3) (N := 12) hx hb hg inGX3 tyX3 tyX3_ok nmX3 hown hKN.1 hP hD hS p21 hk22 rfl 7 (by decide) (hg _ kw_185) (fun _ h9 => h9) rfl (by decide +kernel) rfl rfl (Nat.le_of_ble_eq_true rfl) dX3_readSign_99 (fun H locs hP hD2 hS => ?_)
              obtain ⟨w86, hP, hD, hT, hk88, kp87⟩ : ∃ wz, va_P D vwCl wz H ∧ va_D A wz ∧ TW Y Z T g q wz ∧ wz[p21]? = some (p0, .inr (3, [.ref a2, .int x3, .int x4, .int x5, .int x6, .int x7, .int x8, .int v85, .int x10, .ref (Z a11), .ref a12, .int x13])) ∧ Kp p0 ws wz := ⟨_, hP, hD2, st7 hT hD hk22 ht0 ⟨n1, a2, x3, x4, x5, x6, x7, x8, v85, x10, a11, a12, x13, rfl, h14, by omega, by omega, h17, h18, by omega, h20⟩, sw_eq hk22, sw_kp hk22⟩
              have ke89 : KF 1 T ws w86 := KF.tr KF.rf (KF.kp kp87 ht0 (by decide))
              have ke90 : KF 6 T ws w86 := KF.tr KF.rf (KF.kp kp87 ht0 (by decide))
              refine lv_aload_n hx hb dX3_readSign_102 rfl (lv_at hl 2 rfl) ?_
              refine cga (rn_V (As := []) (rest := []) (b := p0) (x_X3_step l D Y Z H.size w86 T g q p0 hT ht0) ⟨hx, hb, hml, hown, hg⟩ lk_X3_61 ⟨CPC.blind, va_recv hKN.1 hP (ci := 3) (q0 := p21) rfl hk88, CPC.at hP hKN hD hSZ hS hA⟩ ⟨⟨rfl, rfl⟩, ⟨Nat.le_of_ble_eq_true rfl, Nat.le_of_ble_eq_true rfl⟩, ⟨(Nat.le_of_ble_eq_true rfl), (Nat.le_of_ble_eq_true rfl)⟩⟩ hl.1 rfl (Nat.le_of_ble_eq_true rfl) dX3_readSign_103) hP hD hS hA (fun u91 H locs hw92 hP hD hS => ?_)
              obtain ⟨hT, ke94, ke95⟩ : TW Y Z T g q u91 ∧ KF 1 T w86 u91 ∧ KF 6 T w86 u91 := hw92
              have ke96 : KF 1 T ws u91 := KF.tr ke89 ke94
              have ke97 : KF 6 T ws u91 := KF.tr ke90 ke95
              refine W.eq (g2 := F0 m 106 ls []) rfl ?_
              refine W.widen (k := 0) (n := 0) (Nat.le_of_ble_eq_true rfl) (Nat.le_of_ble_eq_true rfl) ?_
              exact W.vret hx hb hr (fun t ht hW => ⟨⟨u91, rfl, ⟨hT, ke96, ke97⟩, CB.mk ht hP hD⟩, hS.F ht⟩) hS.2.2 dX3_readSign_106
            · skip
              have c84 := i_nlt (Eq.refl x9.toInt) (show (60 : Int32).toInt = 60 by decide) c84
              refine lv_aload_n hx hb dX3_readSign_84 rfl (lv_at hl 2 rfl) ?_
              refine lv_iconst (v := 3) hx hb dX3_readSign_85 (by decide) ?_
              have zi3 : (3 : Int32).toInt = 3 := by decide
              refine cga (rn_V (As := [.int 3]) (rest := []) (b := p0) (x_X3_setFault l D Y Z H.size ws T g q p0 3 hT ht0) ⟨hx, hb, hml, hown, hg⟩ lk_X3_78 ⟨CPC.blind, va_recv hKN.1 hP (ci := 3) (q0 := p21) rfl hk22, CPC.at hP hKN hD hSZ hS hA⟩ ⟨⟨rfl, rfl⟩, ⟨Nat.le_of_ble_eq_true rfl, Nat.le_of_ble_eq_true rfl⟩, ⟨(Nat.le_of_ble_eq_true rfl), (Nat.le_of_ble_eq_true rfl)⟩⟩ hl.1 rfl (Nat.le_of_ble_eq_true rfl) dX3_readSign_86) hP hD hS hA (fun u98 H locs hw99 hP hD hS => ?_)
              obtain ⟨hT, ke101, ke102⟩ : TW Y Z T g q u98 ∧ KF 1 T ws u98 ∧ KF 6 T ws u98 := hw99
              have ke103 : KF 1 T ws u98 := KF.tr KF.rf ke101
              have ke104 : KF 6 T ws u98 := KF.tr KF.rf ke102
              refine W.eq (g2 := F0 m 89 ls []) rfl ?_
              refine lv_goto (tgt := 106) hx hb dX3_readSign_89 (by decide) ?_
              refine W.widen (k := 0) (n := 0) (Nat.le_of_ble_eq_true rfl) (Nat.le_of_ble_eq_true rfl) ?_
              exact W.vret hx hb hr (fun t ht hW => ⟨⟨u98, rfl, ⟨hT, ke103, ke104⟩, CB.mk ht hP hD⟩, hS.F ht⟩) hS.2.2 dX3_readSign_106
          · skip
            have c82 := i_ne (Eq.refl x5.toInt) (show (61 : Int32).toInt = 61 by decide) c82
            refine lv_aload_n hx hb dX3_readSign_67 rfl (lv_at hl 2 rfl) ?_
            refine lv_iconst (v := 0) hx hb dX3_readSign_68 (by decide) ?_
            have zi0 : (0 : Int32).toInt = 0 := by decide
            refine cga (rn_V (As := [.int 0]) (rest := []) (b := p0) (x_X3_setFault l D Y Z H.size ws T g q p0 0 hT ht0) ⟨hx, hb, hml, hown, hg⟩ lk_X3_78 ⟨CPC.blind, va_recv hKN.1 hP (ci := 3) (q0 := p21) rfl hk22, CPC.at hP hKN hD hSZ hS hA⟩ ⟨⟨rfl, rfl⟩, ⟨Nat.le_of_ble_eq_true rfl, Nat.le_of_ble_eq_true rfl⟩, ⟨(Nat.le_of_ble_eq_true rfl), (Nat.le_of_ble_eq_true rfl)⟩⟩ hl.1 rfl (Nat.le_of_ble_eq_true rfl) dX3_readSign_69) hP hD hS hA (fun u105 H locs hw106 hP hD hS => ?_)
            obtain ⟨hT, ke108, ke109⟩ : TW Y Z T g q u105 ∧ KF 1 T ws u105 ∧ KF 6 T ws u105 := hw106
            have ke110 : KF 1 T ws u105 := KF.tr KF.rf ke108
            have ke111 : KF 6 T ws u105 := KF.tr KF.rf ke109
            refine W.eq (g2 := F0 m 72 ls []) rfl ?_
            refine lv_goto (tgt := 106) hx hb dX3_readSign_72 (by decide) ?_
            refine W.widen (k := 0) (n := 0) (Nat.le_of_ble_eq_true rfl) (Nat.le_of_ble_eq_true rfl) ?_
            exact W.vret hx hb hr (fun t ht hW => ⟨⟨u105, rfl, ⟨hT, ke110, ke111⟩, CB.mk ht hP hD⟩, hS.F ht⟩) hS.2.2 dX3_readSign_106
    · skip
      have j112 := rgI x5
      refine lv_icmp_eq (tgt := 44) hx hb dX3_readSign_31 (by decide) (fun c113 => ?_) (fun c113 => ?_)
      · skip
        have c113 := i_eq (Eq.refl x5.toInt) (show (62 : Int32).toInt = 62 by decide) c113
        refine lv_iconst (v := 1) hx hb dX3_readSign_44 (by decide) ?_
        refine lv_goto (tgt := 49) hx hb dX3_readSign_45 (by decide) ?_
        have zi1 : (1 : Int32).toInt = 1 := by decide
        refine W.widen (k := 0) (n := 0) (Nat.le_of_ble_eq_true rfl) (Nat.le_of_ble_eq_true rfl) ?_
        exact jn33 (1) H locs ls ⟨hP, hD, hS, lv_sub hl [0, 1] rfl, hT, by omega⟩
      · skip
        have c113 := i_ne (Eq.refl x5.toInt) (show (62 : Int32).toInt = 62 by decide) c113
        refine lv_aload_n hx hb dX3_readSign_34 rfl (lv_at hl 1 rfl) ?_
        refine va_get (D := D) (ci := 3) (v := .int x5) (C := RX3) (T := TX3) (N := 12) hx hb hg inGX3 hown hKN.1 hP p21 hk22 rfl 3 (by decide) (hg _ kw_181) (fun _ h9 => h9) rfl dX3_readSign_35 ?_
        refine lv_sipush (v := 260) hx hb dX3_readSign_38 (by decide) ?_
        refine lv_icmp_ne (tgt := 48) hx hb dX3_readSign_41 (by decide) (fun c114 => ?_) (fun c114 => ?_)
        · skip
          have c114 := i_ne (Eq.refl x5.toInt) (show (260 : Int32).toInt = 260 by decide) c114
          refine lv_iconst (v := 0) hx hb dX3_readSign_48 (by decide) ?_
          have zi0 : (0 : Int32).toInt = 0 := by decide
          refine W.widen (k := 0) (n := 0) (Nat.le_of_ble_eq_true rfl) (Nat.le_of_ble_eq_true rfl) ?_
          exact jn33 (0) H locs ls ⟨hP, hD, hS, lv_sub hl [0, 1] rfl, hT, by omega⟩
        · skip
          have c114 := i_eq (Eq.refl x5.toInt) (show (260 : Int32).toInt = 260 by decide) c114
          refine lv_iconst (v := 1) hx hb dX3_readSign_44 (by decide) ?_
          refine lv_goto (tgt := 49) hx hb dX3_readSign_45 (by decide) ?_
          have zi1 : (1 : Int32).toInt = 1 := by decide
          refine W.widen (k := 0) (n := 0) (Nat.le_of_ble_eq_true rfl) (Nat.le_of_ble_eq_true rfl) ?_
          exact jn33 (1) H locs ls ⟨hP, hD, hS, lv_sub hl [0, 1] rfl, hT, by omega⟩
  · skip
    have j115 := rgI x5
    refine lv_icmp_eq (tgt := 19) hx hb dX3_readSign_6 (by decide) (fun c116 => ?_) (fun c116 => ?_)
    · skip
      have c116 := i_eq (Eq.refl x5.toInt) (show (60 : Int32).toInt = 60 by decide) c116
      refine lv_iconst (v := 1) hx hb dX3_readSign_19 (by decide) ?_
      refine lv_goto (tgt := 24) hx hb dX3_readSign_20 (by decide) ?_
      have zi1 : (1 : Int32).toInt = 1 := by decide
      refine W.widen (k := 0) (n := 0) (Nat.le_of_ble_eq_true rfl) (Nat.le_of_ble_eq_true rfl) ?_
      exact jn27 (1) H locs ls ⟨hP, hD, hS, lv_sub hl [0] rfl, hT, by omega⟩
    · skip
      have c116 := i_ne (Eq.refl x5.toInt) (show (60 : Int32).toInt = 60 by decide) c116
      refine lv_aload_n hx hb dX3_readSign_9 rfl (lv_at hl 0 rfl) ?_
      refine va_get (D := D) (ci := 3) (v := .int x5) (C := RX3) (T := TX3) (N := 12) hx hb hg inGX3 hown hKN.1 hP p21 hk22 rfl 3 (by decide) (hg _ kw_181) (fun _ h9 => h9) rfl dX3_readSign_10 ?_
      refine lv_sipush (v := 259) hx hb dX3_readSign_13 (by decide) ?_
      refine lv_icmp_ne (tgt := 23) hx hb dX3_readSign_16 (by decide) (fun c117 => ?_) (fun c117 => ?_)
      · skip
        have c117 := i_ne (Eq.refl x5.toInt) (show (259 : Int32).toInt = 259 by decide) c117
        refine lv_iconst (v := 0) hx hb dX3_readSign_23 (by decide) ?_
        have zi0 : (0 : Int32).toInt = 0 := by decide
        refine W.widen (k := 0) (n := 0) (Nat.le_of_ble_eq_true rfl) (Nat.le_of_ble_eq_true rfl) ?_
        exact jn27 (0) H locs ls ⟨hP, hD, hS, lv_sub hl [0] rfl, hT, by omega⟩
      · skip
        have c117 := i_eq (Eq.refl x5.toInt) (show (259 : Int32).toInt = 259 by decide) c117
        refine lv_iconst (v := 1) hx hb dX3_readSign_19 (by decide) ?_
        refine lv_goto (tgt := 24) hx hb dX3_readSign_20 (by decide) ?_
        have zi1 : (1 : Int32).toInt = 1 := by decide
        refine W.widen (k := 0) (n := 0) (Nat.le_of_ble_eq_true rfl) (Nat.le_of_ble_eq_true rfl) ?_
        exact jn27 (1) H locs ls ⟨hP, hD, hS, lv_sub hl [0] rfl, hT, by omega⟩
set_option maxHeartbeats 4000000 in
set_option maxRecDepth 100000 in
theorem x_X3_readValue (l : Launch) (D : va_G) (Y : Nat → ClassId) (Z : Nat → Nat) (sz : Nat) (ws : va_W) (T : RT) (g : GN) (q : GQ)  (p0 : Nat) (hT : TW Y Z T g q ws) (ht0 : T p0 = (7, 0, 0)) : Met l yX3_readValue (.code yX3_readValue cX3_readValue 2 none :: GW) ({ frames := 5, cells := 0, slots := 0, locals := 111 }) (va_Pc [.ref p0] (CPC D Y Z ws sz)) (QG (S := va_W) (fun _ => none) (fun u => TW Y Z T g q u ∧ KF 1 T ws u ∧ KF 6 T ws u) (fun u => CB D u (va_A ws sz)) (va_A ws sz)) 0 0 (va_A ws sz) := by
  refine Met.ofW (cc := cX3_readValue) (maxL := 2) (ret := none) (by decide) rfl ?_
  intro p e s m args below meth c s₁ B hml hv
  obtain ⟨rfl, ⟨hsz, hP, hKN, hD0⟩, hSZ⟩ := hv
  have hx := B.exec
  have hb := B.bytes
  have hr := B.returns
  have hts := atoms_spec (ws := .code yX3_readValue cX3_readValue 2 none :: GW) B.pre
  have hg : ∀ w ∈ GW, w.before _ s = true := fun w h => hts w (List.mem_cons_of_mem _ h)
  have hown : s.vm.findClass RX3 = some m.cls := findClass_of_methodNamed B.named
  have hlocks := B.notSynchronized
  subst hsz
  have hD := hD0.self (sz := s.heap.size)
  generalize hAe : va_A ws s.heap.size = A at hD hSZ ⊢
  have hA : ∀ q : Nat, s.heap.size ≤ q → A q := fun q h => by rw [← hAe]; exact Or.inr h
  clear hAe hD0 hts B
  have hl := lv_entry ([.ref p0]) (n := 2) (Nat.le_of_ble_eq_true rfl)
  rw [lg_entry_eq]
  generalize (lg_sl ([.ref p0]) ++ List.replicate (2 - (lg_sl ([.ref p0])).length) Slot.unset).toArray = ls at hl ⊢
  have hl : lv_has ls 2 [(0, .ref p0)] := hl
  refine w_start (A0 := A) hP (fun H locs hP hS => ?_)
  refine lv_aload_n hx hb dX3_readValue_0 rfl (lv_at hl 0 rfl) ?_
  refine lv_aload_n hx hb dX3_readValue_1 rfl (lv_at hl 0 rfl) ?_
  refine ok7 hT ht0 (fun p21 n1 a2 x3 x4 x5 x6 x7 x8 x9 x10 a11 a12 x13 hk22 h14 h15 h16 h17 h18 h19 h20 => ?_)
  refine va_get (D := D) (ci := 3) (v := .ref (Z a11)) (C := RX3) (T := TX3) (N := 12) hx hb hg inGX3 hown hKN.1 hP p21 hk22 rfl 9 (by decide) (hg _ kw_187) (fun _ h9 => h9) rfl dX3_readValue_2 ?_
  refine cga (rn_V (As := [.ref (Z a11)]) (rest := []) (b := p0) (x_X3_whichOf l D Y Z H.size ws T g q a11 p0 hT ht0 (show a11 < 9 by omega)) ⟨hx, hb, hml, hown, hg⟩ lk_X3_99 ⟨CPC.blind, va_recv hKN.1 hP (ci := 3) (q0 := p21) rfl hk22, CPC.at hP hKN hD hSZ hS hA⟩ ⟨⟨rfl, rfl⟩, ⟨Nat.le_of_ble_eq_true rfl, Nat.le_of_ble_eq_true rfl⟩, ⟨(Nat.le_of_ble_eq_true rfl), (Nat.le_of_ble_eq_true rfl)⟩⟩ hl.1 rfl (Nat.le_of_ble_eq_true rfl) dX3_readValue_5) hP hD hS hA (fun u23 H locs hw24 hP hD hS => ?_)
  refine W.eq (g2 := F0 m 8 ls [.int u23]) rfl ?_
  refine lv_istore_n (lv' := [(1, .int u23), (0, .ref p0)]) hx hb dX3_readValue_8 rfl hl (by decide) rfl (fun ls hl => ?_)
  refine lv_aload_n hx hb dX3_readValue_9 rfl (lv_at hl 1 rfl) ?_
  refine va_get (D := D) (ci := 3) (v := .int x5) (C := RX3) (T := TX3) (N := 12) hx hb hg inGX3 hown hKN.1 hP p21 hk22 rfl 3 (by decide) (hg _ kw_181) (fun _ h9 => h9) rfl dX3_readValue_10 ?_
  refine lv_sipush (v := 257) hx hb dX3_readValue_13 (by decide) ?_
  have j26 := rgI x5
  refine lv_icmp_eq (tgt := 32) hx hb dX3_readValue_16 (by decide) (fun c27 => ?_) (fun c27 => ?_)
  · skip
    have c27 := i_eq (Eq.refl x5.toInt) (show (257 : Int32).toInt = 257 by decide) c27
    refine lv_aload_n hx hb dX3_readValue_32 rfl (lv_at hl 1 rfl) ?_
    refine va_get (D := D) (ci := 3) (v := .int x5) (C := RX3) (T := TX3) (N := 12) hx hb hg inGX3 hown hKN.1 hP p21 hk22 rfl 3 (by decide) (hg _ kw_181) (fun _ h9 => h9) rfl dX3_readValue_33 ?_
    refine lv_sipush (v := 257) hx hb dX3_readValue_36 (by decide) ?_
    refine lv_icmp_ne (tgt := 58) hx hb dX3_readValue_39 (by decide) (fun c28 => ?_) (fun c28 => ?_)
    · have c28 := i_ne (Eq.refl x5.toInt) (show (257 : Int32).toInt = 257 by decide) c28; exfalso; omega
    have c28 := i_eq (Eq.refl x5.toInt) (show (257 : Int32).toInt = 257 by decide) c28
    refine lv_aload_n hx hb dX3_readValue_42 rfl (lv_at hl 1 rfl) ?_
    refine va_get (D := D) (ci := 3) (v := .int x7) (C := RX3) (T := TX3) (N := 12) hx hb hg inGX3 hown hKN.1 hP p21 hk22 rfl 5 (by decide) (hg _ kw_183) (fun _ h9 => h9) rfl dX3_readValue_43 ?_
    refine lv_iconst (v := (-1)) hx hb dX3_readValue_46 (by decide) ?_
    have j29 := rgI x7
    refine lv_icmp_ne (tgt := 58) hx hb dX3_readValue_47 (by decide) (fun c30 => ?_) (fun c30 => ?_)
    · skip
      have c30 := i_ne (Eq.refl x7.toInt) (show ((-1) : Int32).toInt = -1 by decide) c30
      refine lv_aload_n hx hb dX3_readValue_58 rfl (lv_at hl 1 rfl) ?_
      refine va_get (D := D) (ci := 3) (v := .int x9) (C := RX3) (T := TX3) (N := 12) hx hb hg inGX3 hown hKN.1 hP p21 hk22 rfl 7 (by decide) (hg _ kw_185) (fun _ h9 => h9) rfl dX3_readValue_59 ?_
      refine lv_bipush (v := 60) hx hb dX3_readValue_62 (by decide) ?_
      have j31 := rgI x9
      refine lv_icmp_lt (tgt := 75) hx hb dX3_readValue_64 (by decide) (fun c32 => ?_) (fun c32 => ?_)
      · skip
        have c32 := i_lt (Eq.refl x9.toInt) (show (60 : Int32).toInt = 60 by decide) c32
        refine lv_aload_n hx hb dX3_readValue_75 rfl (lv_at hl 1 rfl) ?_
        refine lv_dup hx hb dX3_readValue_76 rfl ?_
        refine va_get (D := D) (ci := 3) (v := .int x9) (C := RX3) (T := TX3) (N := 12) hx hb hg inGX3 hown hKN.1 hP p21 hk22 rfl 7 (by decide) (hg _ kw_185) (fun _ h9 => h9) rfl dX3_readValue_77 ?_
        refine lv_iconst (v := 1) hx hb dX3_readValue_80 (by decide) ?_
        refine lv_iadd hx hb dX3_readValue_81 ?_
        refine lv_topi (fun v33 ev33 => ?_)
        have hv33 := i_add (Eq.refl x9.toInt) (show (1 : Int32).toInt = 1 by decide) ev33 (by omega) (by omega)
        refine va_put (D := D) (ci := 3) (v := .int v33) (ty := .int) (C := RX3) (T := TX3) (N := 12) hx hb hg inGX3 tyX3 tyX3_ok nmX3 hown hKN.1 hP hD hS p21 hk22 rfl 7 (by decide) (hg _ kw_185) (fun _ h9 => h9) rfl (by decide +kernel) rfl rfl (Nat.le_of_ble_eq_true rfl) dX3_readValue_82 (fun H locs hP hD2 hS => ?_)
        obtain ⟨w34, hP, hD, hT, hk36, kp35⟩ : ∃ wz, va_P D vwCl wz H ∧ va_D A wz ∧ TW Y Z T g q wz ∧ wz[p21]? = some (p0, .inr (3, [.ref a2, .int x3, .int x4, .int x5, .int x6, .int x7, .int x8, .int v33, .int x10, .ref (Z a11), .ref a12, .int x13])) ∧ Kp p0 ws wz := ⟨_, hP, hD2, st7 hT hD hk22 ht0 ⟨n1, a2, x3, x4, x5, x6, x7, x8, v33, x10, a11, a12, x13, rfl, h14, by omega, by omega, h17, h18, by omega, h20⟩, sw_eq hk22, sw_kp hk22⟩
        have ke37 : KF 1 T ws w34 := KF.tr KF.rf (KF.kp kp35 ht0 (by decide))
        have ke38 : KF 6 T ws w34 := KF.tr KF.rf (KF.kp kp35 ht0 (by decide))
        refine lv_aload_n hx hb dX3_readValue_85 rfl (lv_at hl 1 rfl) ?_
        refine va_get (D := D) (ci := 3) (v := .ref a12) (C := RX3) (T := TX3) (N := 12) hx hb hg inGX3 hown hKN.1 hP p21 hk36 rfl 10 (by decide) (hg _ kw_188) (fun _ h9 => h9) rfl dX3_readValue_86 ?_
        refine lv_aload_n hx hb dX3_readValue_89 rfl (lv_at hl 1 rfl) ?_
        refine va_get (D := D) (ci := 3) (v := .int x5) (C := RX3) (T := TX3) (N := 12) hx hb hg inGX3 hown hKN.1 hP p21 hk36 rfl 3 (by decide) (hg _ kw_181) (fun _ h9 => h9) rfl dX3_readValue_90 ?_
        refine lv_sipush (v := 257) hx hb dX3_readValue_93 (by decide) ?_
        refine lv_icmp_ne (tgt := 106) hx hb dX3_readValue_96 (by decide) (fun c39 => ?_) (fun c39 => ?_)
        · have c39 := i_ne (Eq.refl x5.toInt) (show (257 : Int32).toInt = 257 by decide) c39; exfalso; omega
        have c39 := i_eq (Eq.refl x5.toInt) (show (257 : Int32).toInt = 257 by decide) c39
        refine lv_aload_n hx hb dX3_readValue_99 rfl (lv_at hl 1 rfl) ?_
        refine va_get (D := D) (ci := 3) (v := .int x7) (C := RX3) (T := TX3) (N := 12) hx hb hg inGX3 hown hKN.1 hP p21 hk36 rfl 5 (by decide) (hg _ kw_183) (fun _ h9 => h9) rfl dX3_readValue_100 ?_
        refine lv_goto (tgt := 110) hx hb dX3_readValue_103 (by decide) ?_
        refine ok5 hT h18 (fun p61 x40 x41 x42 x43 x44 x45 x46 x47 a48 a49 a50 a51 a52 x53 hk62 h54 h55 h56 h57 h58 h59 h60 => ?_)
        refine cga (rn_NV (As := [.int x7]) (rest := []) (b := a12) (x_X8_addCode l D Y Z H.size w34 T g q a12 x7 hT h18) ⟨hx, hb, hml, hown, hg⟩ hKN lk_X3_154 ⟨CPC.blind, va_recv hKN.1 hP (ci := 8) (q0 := p61) rfl hk62, CPC.at hP hKN hD hSZ hS hA⟩ ⟨⟨rfl, rfl⟩, ⟨Nat.le_of_ble_eq_true rfl, Nat.le_of_ble_eq_true rfl⟩, ⟨(Nat.le_of_ble_eq_true rfl), (Nat.le_of_ble_eq_true rfl)⟩⟩ hl.1 rfl (Nat.le_of_ble_eq_true rfl) dX3_readValue_110) hP hD hS hA (fun u63 H locs hw64 hP hD hS => ?_)
        obtain ⟨hT, ke66, ke67⟩ : TW Y Z T g q u63 ∧ KF 1 T w34 u63 ∧ KF 6 T w34 u63 := hw64
        have ke68 : KF 1 T ws u63 := KF.tr ke37 ke66
        have ke69 : KF 6 T ws u63 := KF.tr ke38 ke67
        refine W.eq (g2 := F0 m 113 ls []) rfl ?_
        refine lv_aload_n hx hb dX3_readValue_113 rfl (lv_at hl 1 rfl) ?_
        refine ok7 hT ht0 (fun p90 n70 a71 x72 x73 x74 x75 x76 x77 x78 x79 a80 a81 x82 hk91 h83 h84 h85 h86 h87 h88 h89 => ?_)
        refine cga (rn_V (As := []) (rest := []) (b := p0) (x_X3_step l D Y Z H.size u63 T g q p0 hT ht0) ⟨hx, hb, hml, hown, hg⟩ lk_X3_61 ⟨CPC.blind, va_recv hKN.1 hP (ci := 3) (q0 := p90) rfl hk91, CPC.at hP hKN hD hSZ hS hA⟩ ⟨⟨rfl, rfl⟩, ⟨Nat.le_of_ble_eq_true rfl, Nat.le_of_ble_eq_true rfl⟩, ⟨(Nat.le_of_ble_eq_true rfl), (Nat.le_of_ble_eq_true rfl)⟩⟩ hl.1 rfl (Nat.le_of_ble_eq_true rfl) dX3_readValue_114) hP hD hS hA (fun u92 H locs hw93 hP hD hS => ?_)
        obtain ⟨hT, ke95, ke96⟩ : TW Y Z T g q u92 ∧ KF 1 T u63 u92 ∧ KF 6 T u63 u92 := hw93
        have ke97 : KF 1 T ws u92 := KF.tr ke68 ke95
        have ke98 : KF 6 T ws u92 := KF.tr ke69 ke96
        refine W.eq (g2 := F0 m 117 ls []) rfl ?_
        refine W.widen (k := 0) (n := 0) (Nat.le_of_ble_eq_true rfl) (Nat.le_of_ble_eq_true rfl) ?_
        exact W.vret hx hb hr (fun t ht hW => ⟨⟨u92, rfl, ⟨hT, ke97, ke98⟩, CB.mk ht hP hD⟩, hS.F ht⟩) hS.2.2 dX3_readValue_117
      · skip
        have c32 := i_nlt (Eq.refl x9.toInt) (show (60 : Int32).toInt = 60 by decide) c32
        refine lv_aload_n hx hb dX3_readValue_67 rfl (lv_at hl 1 rfl) ?_
        refine lv_iconst (v := 3) hx hb dX3_readValue_68 (by decide) ?_
        have zi3 : (3 : Int32).toInt = 3 := by decide
        refine cga (rn_V (As := [.int 3]) (rest := []) (b := p0) (x_X3_setFault l D Y Z H.size ws T g q p0 3 hT ht0) ⟨hx, hb, hml, hown, hg⟩ lk_X3_78 ⟨CPC.blind, va_recv hKN.1 hP (ci := 3) (q0 := p21) rfl hk22, CPC.at hP hKN hD hSZ hS hA⟩ ⟨⟨rfl, rfl⟩, ⟨Nat.le_of_ble_eq_true rfl, Nat.le_of_ble_eq_true rfl⟩, ⟨(Nat.le_of_ble_eq_true rfl), (Nat.le_of_ble_eq_true rfl)⟩⟩ hl.1 rfl (Nat.le_of_ble_eq_true rfl) dX3_readValue_69) hP hD hS hA (fun u99 H locs hw100 hP hD hS => ?_)
        obtain ⟨hT, ke102, ke103⟩ : TW Y Z T g q u99 ∧ KF 1 T ws u99 ∧ KF 6 T ws u99 := hw100
        have ke104 : KF 1 T ws u99 := KF.tr KF.rf ke102
        have ke105 : KF 6 T ws u99 := KF.tr KF.rf ke103
        refine W.eq (g2 := F0 m 72 ls []) rfl ?_
        refine lv_goto (tgt := 117) hx hb dX3_readValue_72 (by decide) ?_
        refine W.widen (k := 0) (n := 0) (Nat.le_of_ble_eq_true rfl) (Nat.le_of_ble_eq_true rfl) ?_
        exact W.vret hx hb hr (fun t ht hW => ⟨⟨u99, rfl, ⟨hT, ke104, ke105⟩, CB.mk ht hP hD⟩, hS.F ht⟩) hS.2.2 dX3_readValue_117
    · skip
      have c30 := i_eq (Eq.refl x7.toInt) (show ((-1) : Int32).toInt = -1 by decide) c30
      refine lv_aload_n hx hb dX3_readValue_50 rfl (lv_at hl 1 rfl) ?_
      refine lv_iconst (v := 1) hx hb dX3_readValue_51 (by decide) ?_
      have zi1 : (1 : Int32).toInt = 1 := by decide
      refine cga (rn_V (As := [.int 1]) (rest := []) (b := p0) (x_X3_setFault l D Y Z H.size ws T g q p0 1 hT ht0) ⟨hx, hb, hml, hown, hg⟩ lk_X3_78 ⟨CPC.blind, va_recv hKN.1 hP (ci := 3) (q0 := p21) rfl hk22, CPC.at hP hKN hD hSZ hS hA⟩ ⟨⟨rfl, rfl⟩, ⟨Nat.le_of_ble_eq_true rfl, Nat.le_of_ble_eq_true rfl⟩, ⟨(Nat.le_of_ble_eq_true rfl), (Nat.le_of_ble_eq_true rfl)⟩⟩ hl.1 rfl (Nat.le_of_ble_eq_true rfl) dX3_readValue_52) hP hD hS hA (fun u106 H locs hw107 hP hD hS => ?_)
      obtain ⟨hT, ke109, ke110⟩ : TW Y Z T g q u106 ∧ KF 1 T ws u106 ∧ KF 6 T ws u106 := hw107
      have ke111 : KF 1 T ws u106 := KF.tr KF.rf ke109
      have ke112 : KF 6 T ws u106 := KF.tr KF.rf ke110
      refine W.eq (g2 := F0 m 55 ls []) rfl ?_
      refine lv_goto (tgt := 117) hx hb dX3_readValue_55 (by decide) ?_
      refine W.widen (k := 0) (n := 0) (Nat.le_of_ble_eq_true rfl) (Nat.le_of_ble_eq_true rfl) ?_
      exact W.vret hx hb hr (fun t ht hW => ⟨⟨u106, rfl, ⟨hT, ke111, ke112⟩, CB.mk ht hP hD⟩, hS.F ht⟩) hS.2.2 dX3_readValue_117
  · skip
    have c27 := i_ne (Eq.refl x5.toInt) (show (257 : Int32).toInt = 257 by decide) c27
    refine lv_iload_n hx hb dX3_readValue_19 rfl (lv_at hl 0 rfl) ?_
    refine lv_iconst (v := (-1)) hx hb dX3_readValue_20 (by decide) ?_
    have j113 := rgI u23
    refine lv_icmp_ne (tgt := 32) hx hb dX3_readValue_21 (by decide) (fun c114 => ?_) (fun c114 => ?_)
    · skip
      have c114 := i_ne (Eq.refl u23.toInt) (show ((-1) : Int32).toInt = -1 by decide) c114
      refine lv_aload_n hx hb dX3_readValue_32 rfl (lv_at hl 1 rfl) ?_
      refine va_get (D := D) (ci := 3) (v := .int x5) (C := RX3) (T := TX3) (N := 12) hx hb hg inGX3 hown hKN.1 hP p21 hk22 rfl 3 (by decide) (hg _ kw_181) (fun _ h9 => h9) rfl dX3_readValue_33 ?_
      refine lv_sipush (v := 257) hx hb dX3_readValue_36 (by decide) ?_
      refine lv_icmp_ne (tgt := 58) hx hb dX3_readValue_39 (by decide) (fun c115 => ?_) (fun c115 => ?_)
      · skip
        have c115 := i_ne (Eq.refl x5.toInt) (show (257 : Int32).toInt = 257 by decide) c115
        refine lv_aload_n hx hb dX3_readValue_58 rfl (lv_at hl 1 rfl) ?_
        refine va_get (D := D) (ci := 3) (v := .int x9) (C := RX3) (T := TX3) (N := 12) hx hb hg inGX3 hown hKN.1 hP p21 hk22 rfl 7 (by decide) (hg _ kw_185) (fun _ h9 => h9) rfl dX3_readValue_59 ?_
        refine lv_bipush (v := 60) hx hb dX3_readValue_62 (by decide) ?_
        have j116 := rgI x9
        refine lv_icmp_lt (tgt := 75) hx hb dX3_readValue_64 (by decide) (fun c117 => ?_) (fun c117 => ?_)
        · skip
          have c117 := i_lt (Eq.refl x9.toInt) (show (60 : Int32).toInt = 60 by decide) c117
          refine lv_aload_n hx hb dX3_readValue_75 rfl (lv_at hl 1 rfl) ?_
          refine lv_dup hx hb dX3_readValue_76 rfl ?_
          refine va_get (D := D) (ci := 3) (v := .int x9) (C := RX3) (T := TX3) (N := 12) hx hb hg inGX3 hown hKN.1 hP p21 hk22 rfl 7 (by decide) (hg _ kw_185) (fun _ h9 => h9) rfl dX3_readValue_77 ?_
          refine lv_iconst (v := 1) hx hb dX3_readValue_80 (by decide) ?_
          refine lv_iadd hx hb dX3_readValue_81 ?_
          refine lv_topi (fun v118 ev118 => ?_)
          have hv118 := i_add (Eq.refl x9.toInt) (show (1 : Int32).toInt = 1 by decide) ev118 (by omega) (by omega)
          refine va_put (D := D) (ci := 3) (v := .int v118) (ty := .int) (C := RX3) (T := TX3) (N := 12) hx hb hg inGX3 tyX3 tyX3_ok nmX3 hown hKN.1 hP hD hS p21 hk22 rfl 7 (by decide) (hg _ kw_185) (fun _ h9 => h9) rfl (by decide +kernel) rfl rfl (Nat.le_of_ble_eq_true rfl) dX3_readValue_82 (fun H locs hP hD2 hS => ?_)
          obtain ⟨w119, hP, hD, hT, hk121, kp120⟩ : ∃ wz, va_P D vwCl wz H ∧ va_D A wz ∧ TW Y Z T g q wz ∧ wz[p21]? = some (p0, .inr (3, [.ref a2, .int x3, .int x4, .int x5, .int x6, .int x7, .int x8, .int v118, .int x10, .ref (Z a11), .ref a12, .int x13])) ∧ Kp p0 ws wz := ⟨_, hP, hD2, st7 hT hD hk22 ht0 ⟨n1, a2, x3, x4, x5, x6, x7, x8, v118, x10, a11, a12, x13, rfl, h14, by omega, by omega, h17, h18, by omega, h20⟩, sw_eq hk22, sw_kp hk22⟩
          have ke122 : KF 1 T ws w119 := KF.tr KF.rf (KF.kp kp120 ht0 (by decide))
          have ke123 : KF 6 T ws w119 := KF.tr KF.rf (KF.kp kp120 ht0 (by decide))
          refine lv_aload_n hx hb dX3_readValue_85 rfl (lv_at hl 1 rfl) ?_
          refine va_get (D := D) (ci := 3) (v := .ref a12) (C := RX3) (T := TX3) (N := 12) hx hb hg inGX3 hown hKN.1 hP p21 hk121 rfl 10 (by decide) (hg _ kw_188) (fun _ h9 => h9) rfl dX3_readValue_86 ?_
          refine lv_aload_n hx hb dX3_readValue_89 rfl (lv_at hl 1 rfl) ?_
          refine va_get (D := D) (ci := 3) (v := .int x5) (C := RX3) (T := TX3) (N := 12) hx hb hg inGX3 hown hKN.1 hP p21 hk121 rfl 3 (by decide) (hg _ kw_181) (fun _ h9 => h9) rfl dX3_readValue_90 ?_
          refine lv_sipush (v := 257) hx hb dX3_readValue_93 (by decide) ?_
          refine lv_icmp_ne (tgt := 106) hx hb dX3_readValue_96 (by decide) (fun c124 => ?_) (fun c124 => ?_)
          · skip
            have c124 := i_ne (Eq.refl x5.toInt) (show (257 : Int32).toInt = 257 by decide) c124
            refine lv_ldc (v := 100000) hx hb hown (hg _ kw_712) dX3_readValue_106 ?_
            refine lv_iload_n hx hb dX3_readValue_108 rfl (lv_at hl 0 rfl) ?_
            refine lv_iadd hx hb dX3_readValue_109 ?_
            refine lv_topi (fun v125 ev125 => ?_)
            refine ok5 hT h18 (fun p147 x126 x127 x128 x129 x130 x131 x132 x133 a134 a135 a136 a137 a138 x139 hk148 h140 h141 h142 h143 h144 h145 h146 => ?_)
            refine cga (rn_NV (As := [.int v125]) (rest := []) (b := a12) (x_X8_addCode l D Y Z H.size w119 T g q a12 v125 hT h18) ⟨hx, hb, hml, hown, hg⟩ hKN lk_X3_154 ⟨CPC.blind, va_recv hKN.1 hP (ci := 8) (q0 := p147) rfl hk148, CPC.at hP hKN hD hSZ hS hA⟩ ⟨⟨rfl, rfl⟩, ⟨Nat.le_of_ble_eq_true rfl, Nat.le_of_ble_eq_true rfl⟩, ⟨(Nat.le_of_ble_eq_true rfl), (Nat.le_of_ble_eq_true rfl)⟩⟩ hl.1 rfl (Nat.le_of_ble_eq_true rfl) dX3_readValue_110) hP hD hS hA (fun u149 H locs hw150 hP hD hS => ?_)
            obtain ⟨hT, ke152, ke153⟩ : TW Y Z T g q u149 ∧ KF 1 T w119 u149 ∧ KF 6 T w119 u149 := hw150
            have ke154 : KF 1 T ws u149 := KF.tr ke122 ke152
            have ke155 : KF 6 T ws u149 := KF.tr ke123 ke153
            refine W.eq (g2 := F0 m 113 ls []) rfl ?_
            refine lv_aload_n hx hb dX3_readValue_113 rfl (lv_at hl 1 rfl) ?_
            refine ok7 hT ht0 (fun p176 n156 a157 x158 x159 x160 x161 x162 x163 x164 x165 a166 a167 x168 hk177 h169 h170 h171 h172 h173 h174 h175 => ?_)
            refine cga (rn_V (As := []) (rest := []) (b := p0) (x_X3_step l D Y Z H.size u149 T g q p0 hT ht0) ⟨hx, hb, hml, hown, hg⟩ lk_X3_61 ⟨CPC.blind, va_recv hKN.1 hP (ci := 3) (q0 := p176) rfl hk177, CPC.at hP hKN hD hSZ hS hA⟩ ⟨⟨rfl, rfl⟩, ⟨Nat.le_of_ble_eq_true rfl, Nat.le_of_ble_eq_true rfl⟩, ⟨(Nat.le_of_ble_eq_true rfl), (Nat.le_of_ble_eq_true rfl)⟩⟩ hl.1 rfl (Nat.le_of_ble_eq_true rfl) dX3_readValue_114) hP hD hS hA (fun u178 H locs hw179 hP hD hS => ?_)
            obtain ⟨hT, ke181, ke182⟩ : TW Y Z T g q u178 ∧ KF 1 T u149 u178 ∧ KF 6 T u149 u178 := hw179
            have ke183 : KF 1 T ws u178 := KF.tr ke154 ke181
            have ke184 : KF 6 T ws u178 := KF.tr ke155 ke182
            refine W.eq (g2 := F0 m 117 ls []) rfl ?_
            refine W.widen (k := 0) (n := 0) (Nat.le_of_ble_eq_true rfl) (Nat.le_of_ble_eq_true rfl) ?_
            exact W.vret hx hb hr (fun t ht hW => ⟨⟨u178, rfl, ⟨hT, ke183, ke184⟩, CB.mk ht hP hD⟩, hS.F ht⟩) hS.2.2 dX3_readValue_117
          · skip
            have c124 := i_eq (Eq.refl x5.toInt) (show (257 : Int32).toInt = 257 by decide) c124
            refine lv_aload_n hx hb dX3_readValue_99 rfl (lv_at hl 1 rfl) ?_
            refine va_get (D := D) (ci := 3) (v := .int x7) (C := RX3) (T := TX3) (N := 12) hx hb hg inGX3 hown hKN.1 hP p21 hk121 rfl 5 (by decide) (hg _ kw_183) (fun _ h9 => h9) rfl dX3_readValue_100 ?_
            refine lv_goto (tgt := 110) hx hb dX3_readValue_103 (by decide) ?_
            refine ok5 hT h18 (fun p206 x185 x186 x187 x188 x189 x190 x191 x192 a193 a194 a195 a196 a197 x198 hk207 h199 h200 h201 h202 h203 h204 h205 => ?_)
            refine cga (rn_NV (As := [.int x7]) (rest := []) (b := a12) (x_X8_addCode l D Y Z H.size w119 T g q a12 x7 hT h18) ⟨hx, hb, hml, hown, hg⟩ hKN lk_X3_154 ⟨CPC.blind, va_recv hKN.1 hP (ci := 8) (q0 := p206) rfl hk207, CPC.at hP hKN hD hSZ hS hA⟩ ⟨⟨rfl, rfl⟩, ⟨Nat.le_of_ble_eq_true rfl, Nat.le_of_ble_eq_true rfl⟩, ⟨(Nat.le_of_ble_eq_true rfl), (Nat.le_of_ble_eq_true rfl)⟩⟩ hl.1 rfl (Nat.le_of_ble_eq_true rfl) dX3_readValue_110) hP hD hS hA (fun u208 H locs hw209 hP hD hS => ?_)
            obtain ⟨hT, ke211, ke212⟩ : TW Y Z T g q u208 ∧ KF 1 T w119 u208 ∧ KF 6 T w119 u208 := hw209
            have ke213 : KF 1 T ws u208 := KF.tr ke122 ke211
            have ke214 : KF 6 T ws u208 := KF.tr ke123 ke212
            refine W.eq (g2 := F0 m 113 ls []) rfl ?_
            refine lv_aload_n hx hb dX3_readValue_113 rfl (lv_at hl 1 rfl) ?_
            refine ok7 hT ht0 (fun p235 n215 a216 x217 x218 x219 x220 x221 x222 x223 x224 a225 a226 x227 hk236 h228 h229 h230 h231 h232 h233 h234 => ?_)
            refine cga (rn_V (As := []) (rest := []) (b := p0) (x_X3_step l D Y Z H.size u208 T g q p0 hT ht0) ⟨hx, hb, hml, hown, hg⟩ lk_X3_61 ⟨CPC.blind, va_recv hKN.1 hP (ci := 3) (q0 := p235) rfl hk236, CPC.at hP hKN hD hSZ hS hA⟩ ⟨⟨rfl, rfl⟩, ⟨Nat.le_of_ble_eq_true rfl, Nat.le_of_ble_eq_true rfl⟩, ⟨(Nat.le_of_ble_eq_true rfl), (Nat.le_of_ble_eq_true rfl)⟩⟩ hl.1 rfl (Nat.le_of_ble_eq_true rfl) dX3_readValue_114) hP hD hS hA (fun u237 H locs hw238 hP hD hS => ?_)
            obtain ⟨hT, ke240, ke241⟩ : TW Y Z T g q u237 ∧ KF 1 T u208 u237 ∧ KF 6 T u208 u237 := hw238
            have ke242 : KF 1 T ws u237 := KF.tr ke213 ke240
            have ke243 : KF 6 T ws u237 := KF.tr ke214 ke241
            refine W.eq (g2 := F0 m 117 ls []) rfl ?_
            refine W.widen (k := 0) (n := 0) (Nat.le_of_ble_eq_true rfl) (Nat.le_of_ble_eq_true rfl) ?_
            exact W.vret hx hb hr (fun t ht hW => ⟨⟨u237, rfl, ⟨hT, ke242, ke243⟩, CB.mk ht hP hD⟩, hS.F ht⟩) hS.2.2 dX3_readValue_117
        · skip
          have c117 := i_nlt (Eq.refl x9.toInt) (show (60 : Int32).toInt = 60 by decide) c117
          refine lv_aload_n hx hb dX3_readValue_67 rfl (lv_at hl 1 rfl) ?_
          refine lv_iconst (v := 3) hx hb dX3_readValue_68 (by decide) ?_
          have zi3 : (3 : Int32).toInt = 3 := by decide
          refine cga (rn_V (As := [.int 3]) (rest := []) (b := p0) (x_X3_setFault l D Y Z H.size ws T g q p0 3 hT ht0) ⟨hx, hb, hml, hown, hg⟩ lk_X3_78 ⟨CPC.blind, va_recv hKN.1 hP (ci := 3) (q0 := p21) rfl hk22, CPC.at hP hKN hD hSZ hS hA⟩ ⟨⟨rfl, rfl⟩, ⟨Nat.le_of_ble_eq_true rfl, Nat.le_of_ble_eq_true rfl⟩, ⟨(Nat.le_of_ble_eq_true rfl), (Nat.le_of_ble_eq_true rfl)⟩⟩ hl.1 rfl (Nat.le_of_ble_eq_true rfl) dX3_readValue_69) hP hD hS hA (fun u244 H locs hw245 hP hD hS => ?_)
          obtain ⟨hT, ke247, ke248⟩ : TW Y Z T g q u244 ∧ KF 1 T ws u244 ∧ KF 6 T ws u244 := hw245
          have ke249 : KF 1 T ws u244 := KF.tr KF.rf ke247
          have ke250 : KF 6 T ws u244 := KF.tr KF.rf ke248
          refine W.eq (g2 := F0 m 72 ls []) rfl ?_
          refine lv_goto (tgt := 117) hx hb dX3_readValue_72 (by decide) ?_
          refine W.widen (k := 0) (n := 0) (Nat.le_of_ble_eq_true rfl) (Nat.le_of_ble_eq_true rfl) ?_
          exact W.vret hx hb hr (fun t ht hW => ⟨⟨u244, rfl, ⟨hT, ke249, ke250⟩, CB.mk ht hP hD⟩, hS.F ht⟩) hS.2.2 dX3_readValue_117
      · skip
        have c115 := i_eq (Eq.refl x5.toInt) (show (257 : Int32).toInt = 257 by decide) c115
        refine lv_aload_n hx hb dX3_readValue_42 rfl (lv_at hl 1 rfl) ?_
        refine va_get (D := D) (ci := 3) (v := .int x7) (C := RX3) (T := TX3) (N := 12) hx hb hg inGX3 hown hKN.1 hP p21 hk22 rfl 5 (by decide) (hg _ kw_183) (fun _ h9 => h9) rfl dX3_readValue_43 ?_
        refine lv_iconst (v := (-1)) hx hb dX3_readValue_46 (by decide) ?_
        have j251 := rgI x7
        refine lv_icmp_ne (tgt := 58) hx hb dX3_readValue_47 (by decide) (fun c252 => ?_) (fun c252 => ?_)
        · skip
          have c252 := i_ne (Eq.refl x7.toInt) (show ((-1) : Int32).toInt = -1 by decide) c252
          refine lv_aload_n hx hb dX3_readValue_58 rfl (lv_at hl 1 rfl) ?_
          refine va_get (D := D) (ci := 3) (v := .int x9) (C := RX3) (T := TX3) (N := 12) hx hb hg inGX3 hown hKN.1 hP p21 hk22 rfl 7 (by decide) (hg _ kw_185) (fun _ h9 => h9) rfl dX3_readValue_59 ?_
          refine lv_bipush (v := 60) hx hb dX3_readValue_62 (by decide) ?_
          have j253 := rgI x9
          refine lv_icmp_lt (tgt := 75) hx hb dX3_readValue_64 (by decide) (fun c254 => ?_) (fun c254 => ?_)
          · skip
            have c254 := i_lt (Eq.refl x9.toInt) (show (60 : Int32).toInt = 60 by decide) c254
            refine lv_aload_n hx hb dX3_readValue_75 rfl (lv_at hl 1 rfl) ?_
            refine lv_dup hx hb dX3_readValue_76 rfl ?_
            refine va_get (D := D) (ci := 3) (v := .int x9) (C := RX3) (T := TX3) (N := 12) hx hb hg inGX3 hown hKN.1 hP p21 hk22 rfl 7 (by decide) (hg _ kw_185) (fun _ h9 => h9) rfl dX3_readValue_77 ?_
            refine lv_iconst (v := 1) hx hb dX3_readValue_80 (by decide) ?_
            refine lv_iadd hx hb dX3_readValue_81 ?_
            refine lv_topi (fun v255 ev255 => ?_)
            have hv255 := i_add (Eq.refl x9.toInt) (show (1 : Int32).toInt = 1 by decide) ev255 (by omega) (by omega)
            refine va_put (D := D) (ci := 3) (v := .int v255) (ty := .int) (C := RX3) (T := TX3) (N := 12) hx hb hg inGX3 tyX3 tyX3_ok nmX3 hown hKN.1 hP hD hS p21 hk22 rfl 7 (by decide) (hg _ kw_185) (fun _ h9 => h9) rfl (by decide +kernel) rfl rfl (Nat.le_of_ble_eq_true rfl) dX3_readValue_82 (fun H locs hP hD2 hS => ?_)
            obtain ⟨w256, hP, hD, hT, hk258, kp257⟩ : ∃ wz, va_P D vwCl wz H ∧ va_D A wz ∧ TW Y Z T g q wz ∧ wz[p21]? = some (p0, .inr (3, [.ref a2, .int x3, .int x4, .int x5, .int x6, .int x7, .int x8, .int v255, .int x10, .ref (Z a11), .ref a12, .int x13])) ∧ Kp p0 ws wz := ⟨_, hP, hD2, st7 hT hD hk22 ht0 ⟨n1, a2, x3, x4, x5, x6, x7, x8, v255, x10, a11, a12, x13, rfl, h14, by omega, by omega, h17, h18, by omega, h20⟩, sw_eq hk22, sw_kp hk22⟩
            have ke259 : KF 1 T ws w256 := KF.tr KF.rf (KF.kp kp257 ht0 (by decide))
            have ke260 : KF 6 T ws w256 := KF.tr KF.rf (KF.kp kp257 ht0 (by decide))
            refine lv_aload_n hx hb dX3_readValue_85 rfl (lv_at hl 1 rfl) ?_
            refine va_get (D := D) (ci := 3) (v := .ref a12) (C := RX3) (T := TX3) (N := 12) hx hb hg inGX3 hown hKN.1 hP p21 hk258 rfl 10 (by decide) (hg _ kw_188) (fun _ h9 => h9) rfl dX3_readValue_86 ?_
            refine lv_aload_n hx hb dX3_readValue_89 rfl (lv_at hl 1 rfl) ?_
            refine va_get (D := D) (ci := 3) (v := .int x5) (C := RX3) (T := TX3) (N := 12) hx hb hg inGX3 hown hKN.1 hP p21 hk258 rfl 3 (by decide) (hg _ kw_181) (fun _ h9 => h9) rfl dX3_readValue_90 ?_
            refine lv_sipush (v := 257) hx hb dX3_readValue_93 (by decide) ?_
            refine lv_icmp_ne (tgt := 106) hx hb dX3_readValue_96 (by decide) (fun c261 => ?_) (fun c261 => ?_)
            · have c261 := i_ne (Eq.refl x5.toInt) (show (257 : Int32).toInt = 257 by decide) c261; exfalso; omega
            have c261 := i_eq (Eq.refl x5.toInt) (show (257 : Int32).toInt = 257 by decide) c261
            refine lv_aload_n hx hb dX3_readValue_99 rfl (lv_at hl 1 rfl) ?_
            refine va_get (D := D) (ci := 3) (v := .int x7) (C := RX3) (T := TX3) (N := 12) hx hb hg inGX3 hown hKN.1 hP p21 hk258 rfl 5 (by decide) (hg _ kw_183) (fun _ h9 => h9) rfl dX3_readValue_100 ?_
            refine lv_goto (tgt := 110) hx hb dX3_readValue_103 (by decide) ?_
            refine ok5 hT h18 (fun p283 x262 x263 x264 x265 x266 x267 x268 x269 a270 a271 a272 a273 a274 x275 hk284 h276 h277 h278 h279 h280 h281 h282 => ?_)
            refine cga (rn_NV (As := [.int x7]) (rest := []) (b := a12) (x_X8_addCode l D Y Z H.size w256 T g q a12 x7 hT h18) ⟨hx, hb, hml, hown, hg⟩ hKN lk_X3_154 ⟨CPC.blind, va_recv hKN.1 hP (ci := 8) (q0 := p283) rfl hk284, CPC.at hP hKN hD hSZ hS hA⟩ ⟨⟨rfl, rfl⟩, ⟨Nat.le_of_ble_eq_true rfl, Nat.le_of_ble_eq_true rfl⟩, ⟨(Nat.le_of_ble_eq_true rfl), (Nat.le_of_ble_eq_true rfl)⟩⟩ hl.1 rfl (Nat.le_of_ble_eq_true rfl) dX3_readValue_110) hP hD hS hA (fun u285 H locs hw286 hP hD hS => ?_)
            obtain ⟨hT, ke288, ke289⟩ : TW Y Z T g q u285 ∧ KF 1 T w256 u285 ∧ KF 6 T w256 u285 := hw286
            have ke290 : KF 1 T ws u285 := KF.tr ke259 ke288
            have ke291 : KF 6 T ws u285 := KF.tr ke260 ke289
            refine W.eq (g2 := F0 m 113 ls []) rfl ?_
            refine lv_aload_n hx hb dX3_readValue_113 rfl (lv_at hl 1 rfl) ?_
            refine ok7 hT ht0 (fun p312 n292 a293 x294 x295 x296 x297 x298 x299 x300 x301 a302 a303 x304 hk313 h305 h306 h307 h308 h309 h310 h311 => ?_)
            refine cga (rn_V (As := []) (rest := []) (b := p0) (x_X3_step l D Y Z H.size u285 T g q p0 hT ht0) ⟨hx, hb, hml, hown, hg⟩ lk_X3_61 ⟨CPC.blind, va_recv hKN.1 hP (ci := 3) (q0 := p312) rfl hk313, CPC.at hP hKN hD hSZ hS hA⟩ ⟨⟨rfl, rfl⟩, ⟨Nat.le_of_ble_eq_true rfl, Nat.le_of_ble_eq_true rfl⟩, ⟨(Nat.le_of_ble_eq_true rfl), (Nat.le_of_ble_eq_true rfl)⟩⟩ hl.1 rfl (Nat.le_of_ble_eq_true rfl) dX3_readValue_114) hP hD hS hA (fun u314 H locs hw315 hP hD hS => ?_)
            obtain ⟨hT, ke317, ke318⟩ : TW Y Z T g q u314 ∧ KF 1 T u285 u314 ∧ KF 6 T u285 u314 := hw315
            have ke319 : KF 1 T ws u314 := KF.tr ke290 ke317
            have ke320 : KF 6 T ws u314 := KF.tr ke291 ke318
            refine W.eq (g2 := F0 m 117 ls []) rfl ?_
            refine W.widen (k := 0) (n := 0) (Nat.le_of_ble_eq_true rfl) (Nat.le_of_ble_eq_true rfl) ?_
            exact W.vret hx hb hr (fun t ht hW => ⟨⟨u314, rfl, ⟨hT, ke319, ke320⟩, CB.mk ht hP hD⟩, hS.F ht⟩) hS.2.2 dX3_readValue_117
          · skip
            have c254 := i_nlt (Eq.refl x9.toInt) (show (60 : Int32).toInt = 60 by decide) c254
            refine lv_aload_n hx hb dX3_readValue_67 rfl (lv_at hl 1 rfl) ?_
            refine lv_iconst (v := 3) hx hb dX3_readValue_68 (by decide) ?_
            have zi3 : (3 : Int32).toInt = 3 := by decide
            refine cga (rn_V (As := [.int 3]) (rest := []) (b := p0) (x_X3_setFault l D Y Z H.size ws T g q p0 3 hT ht0) ⟨hx, hb, hml, hown, hg⟩ lk_X3_78 ⟨CPC.blind, va_recv hKN.1 hP (ci := 3) (q0 := p21) rfl hk22, CPC.at hP hKN hD hSZ hS hA⟩ ⟨⟨rfl, rfl⟩, ⟨Nat.le_of_ble_eq_true rfl, Nat.le_of_ble_eq_true rfl⟩, ⟨(Nat.le_of_ble_eq_true rfl), (Nat.le_of_ble_eq_true rfl)⟩⟩ hl.1 rfl (Nat.le_of_ble_eq_true rfl) dX3_readValue_69) hP hD hS hA (fun u321 H locs hw322 hP hD hS => ?_)
            obtain ⟨hT, ke324, ke325⟩ : TW Y Z T g q u321 ∧ KF 1 T ws u321 ∧ KF 6 T ws u321 := hw322
            have ke326 : KF 1 T ws u321 := KF.tr KF.rf ke324
            have ke327 : KF 6 T ws u321 := KF.tr KF.rf ke325
            refine W.eq (g2 := F0 m 72 ls []) rfl ?_
            refine lv_goto (tgt := 117) hx hb dX3_readValue_72 (by decide) ?_
            refine W.widen (k := 0) (n := 0) (Nat.le_of_ble_eq_true rfl) (Nat.le_of_ble_eq_true rfl) ?_
            exact W.vret hx hb hr (fun t ht hW => ⟨⟨u321, rfl, ⟨hT, ke326, ke327⟩, CB.mk ht hP hD⟩, hS.F ht⟩) hS.2.2 dX3_readValue_117
        · skip
          have c252 := i_eq (Eq.refl x7.toInt) (show ((-1) : Int32).toInt = -1 by decide) c252
          refine lv_aload_n hx hb dX3_readValue_50 rfl (lv_at hl 1 rfl) ?_
          refine lv_iconst (v := 1) hx hb dX3_readValue_51 (by decide) ?_
          have zi1 : (1 : Int32).toInt = 1 := by decide
          refine cga (rn_V (As := [.int 1]) (rest := []) (b := p0) (x_X3_setFault l D Y Z H.size ws T g q p0 1 hT ht0) ⟨hx, hb, hml, hown, hg⟩ lk_X3_78 ⟨CPC.blind, va_recv hKN.1 hP (ci := 3) (q0 := p21) rfl hk22, CPC.at hP hKN hD hSZ hS hA⟩ ⟨⟨rfl, rfl⟩, ⟨Nat.le_of_ble_eq_true rfl, Nat.le_of_ble_eq_true rfl⟩, ⟨(Nat.le_of_ble_eq_true rfl), (Nat.le_of_ble_eq_true rfl)⟩⟩ hl.1 rfl (Nat.le_of_ble_eq_true rfl) dX3_readValue_52) hP hD hS hA (fun u328 H locs hw329 hP hD hS => ?_)
          obtain ⟨hT, ke331, ke332⟩ : TW Y Z T g q u328 ∧ KF 1 T ws u328 ∧ KF 6 T ws u328 := hw329
          have ke333 : KF 1 T ws u328 := KF.tr KF.rf ke331
          have ke334 : KF 6 T ws u328 := KF.tr KF.rf ke332
          refine W.eq (g2 := F0 m 55 ls []) rfl ?_
          refine lv_goto (tgt := 117) hx hb dX3_readValue_55 (by decide) ?_
          refine W.widen (k := 0) (n := 0) (Nat.le_of_ble_eq_true rfl) (Nat.le_of_ble_eq_true rfl) ?_
          exact W.vret hx hb hr (fun t ht hW => ⟨⟨u328, rfl, ⟨hT, ke333, ke334⟩, CB.mk ht hP hD⟩, hS.F ht⟩) hS.2.2 dX3_readValue_117
    · skip
      have c114 := i_eq (Eq.refl u23.toInt) (show ((-1) : Int32).toInt = -1 by decide) c114
      refine lv_aload_n hx hb dX3_readValue_24 rfl (lv_at hl 1 rfl) ?_
      refine lv_iconst (v := 0) hx hb dX3_readValue_25 (by decide) ?_
      have zi0 : (0 : Int32).toInt = 0 := by decide
      refine cga (rn_V (As := [.int 0]) (rest := []) (b := p0) (x_X3_setFault l D Y Z H.size ws T g q p0 0 hT ht0) ⟨hx, hb, hml, hown, hg⟩ lk_X3_78 ⟨CPC.blind, va_recv hKN.1 hP (ci := 3) (q0 := p21) rfl hk22, CPC.at hP hKN hD hSZ hS hA⟩ ⟨⟨rfl, rfl⟩, ⟨Nat.le_of_ble_eq_true rfl, Nat.le_of_ble_eq_true rfl⟩, ⟨(Nat.le_of_ble_eq_true rfl), (Nat.le_of_ble_eq_true rfl)⟩⟩ hl.1 rfl (Nat.le_of_ble_eq_true rfl) dX3_readValue_26) hP hD hS hA (fun u335 H locs hw336 hP hD hS => ?_)
      obtain ⟨hT, ke338, ke339⟩ : TW Y Z T g q u335 ∧ KF 1 T ws u335 ∧ KF 6 T ws u335 := hw336
      have ke340 : KF 1 T ws u335 := KF.tr KF.rf ke338
      have ke341 : KF 6 T ws u335 := KF.tr KF.rf ke339
      refine W.eq (g2 := F0 m 29 ls []) rfl ?_
      refine lv_goto (tgt := 117) hx hb dX3_readValue_29 (by decide) ?_
      refine W.widen (k := 0) (n := 0) (Nat.le_of_ble_eq_true rfl) (Nat.le_of_ble_eq_true rfl) ?_
      exact W.vret hx hb hr (fun t ht hW => ⟨⟨u335, rfl, ⟨hT, ke340, ke341⟩, CB.mk ht hP hD⟩, hS.F ht⟩) hS.2.2 dX3_readValue_117
set_option maxHeartbeats 4000000 in
set_option maxRecDepth 100000 in
theorem x_X3_readSum (l : Launch) (D : va_G) (Y : Nat → ClassId) (Z : Nat → Nat) (sz : Nat) (ws : va_W) (T : RT) (g : GN) (q : GQ)  (p0 : Nat) (hT : TW Y Z T g q ws) (ht0 : T p0 = (7, 0, 0)) : Met l yX3_readSum (.code yX3_readSum cX3_readSum 5 none :: GW) ({ frames := 6, cells := 0, slots := 0, locals := 132 }) (va_Pc [.ref p0] (CPC D Y Z ws sz)) (QG (S := va_W) (fun _ => none) (fun u => TW Y Z T g q u ∧ KF 1 T ws u ∧ KF 6 T ws u) (fun u => CB D u (va_A ws sz)) (va_A ws sz)) 0 0 (va_A ws sz) := by
  refine Met.ofW (cc := cX3_readSum) (maxL := 5) (ret := none) (by decide) rfl ?_
  intro p e s m args below meth c s₁ B hml hv
  obtain ⟨rfl, ⟨hsz, hP, hKN, hD0⟩, hSZ⟩ := hv
  have hx := B.exec
  have hb := B.bytes
  have hr := B.returns
  have hts := atoms_spec (ws := .code yX3_readSum cX3_readSum 5 none :: GW) B.pre
  have hg : ∀ w ∈ GW, w.before _ s = true := fun w h => hts w (List.mem_cons_of_mem _ h)
  have hown : s.vm.findClass RX3 = some m.cls := findClass_of_methodNamed B.named
  have hlocks := B.notSynchronized
  subst hsz
  have hD := hD0.self (sz := s.heap.size)
  generalize hAe : va_A ws s.heap.size = A at hD hSZ ⊢
  have hA : ∀ q : Nat, s.heap.size ≤ q → A q := fun q h => by rw [← hAe]; exact Or.inr h
  clear hAe hD0 hts B
  have hl := lv_entry ([.ref p0]) (n := 5) (Nat.le_of_ble_eq_true rfl)
  rw [lg_entry_eq]
  generalize (lg_sl ([.ref p0]) ++ List.replicate (5 - (lg_sl ([.ref p0])).length) Slot.unset).toArray = ls at hl ⊢
  have hl : lv_has ls 5 [(0, .ref p0)] := hl
  refine w_start (A0 := A) hP (fun H locs hP hS => ?_)
  refine lv_iconst (v := (-1)) hx hb dX3_readSum_0 (by decide) ?_
  refine lv_istore_n (lv' := [(1, .int (-1)), (0, .ref p0)]) hx hb dX3_readSum_1 rfl hl (by decide) rfl (fun ls hl => ?_)
  refine lv_aload_n hx hb dX3_readSum_2 rfl (lv_at hl 1 rfl) ?_
  refine ok7 hT ht0 (fun p21 n1 a2 x3 x4 x5 x6 x7 x8 x9 x10 a11 a12 x13 hk22 h14 h15 h16 h17 h18 h19 h20 => ?_)
  refine cga (rn_V (As := []) (rest := []) (b := p0) (x_X3_readValue l D Y Z H.size ws T g q p0 hT ht0) ⟨hx, hb, hml, hown, hg⟩ lk_X3_165 ⟨CPC.blind, va_recv hKN.1 hP (ci := 3) (q0 := p21) rfl hk22, CPC.at hP hKN hD hSZ hS hA⟩ ⟨⟨rfl, rfl⟩, ⟨Nat.le_of_ble_eq_true rfl, Nat.le_of_ble_eq_true rfl⟩, ⟨(Nat.le_of_ble_eq_true rfl), (Nat.le_of_ble_eq_true rfl)⟩⟩ hl.1 rfl (Nat.le_of_ble_eq_true rfl) dX3_readSum_3) hP hD hS hA (fun u23 H locs hw24 hP hD hS => ?_)
  obtain ⟨hT, ke26, ke27⟩ : TW Y Z T g q u23 ∧ KF 1 T ws u23 ∧ KF 6 T ws u23 := hw24
  have ke28 : KF 1 T ws u23 := KF.tr KF.rf ke26
  have ke29 : KF 6 T ws u23 := KF.tr KF.rf ke27
  refine W.eq (g2 := F0 m 6 ls []) rfl ?_
  refine lv_iconst (v := 0) hx hb dX3_readSum_6 (by decide) ?_
  refine lv_istore_n (lv' := [(2, .int 0), (1, .int (-1)), (0, .ref p0)]) hx hb dX3_readSum_7 rfl hl (by decide) rfl (fun ls hl => ?_)
  have zi0 : (0 : Int32).toInt = 0 := by decide
  have zim1 : ((-1) : Int32).toInt = -1 := by decide
  refine w_loop (σ := Int32 × Int32 × va_W) (fun xx H locs ls => match xx with | (v327, v328, w329) => va_P D vwCl w329 H ∧ va_D A w329 ∧ va_S A s.heap H locs ∧ lv_has ls 5 [(2, .int v327), (1, .int v328), (0, .ref p0)] ∧ TW Y Z T g q w329 ∧ KF 1 T ws w329 ∧ KF 6 T ws w329 ∧ (0 ≤ v327.toInt ∧ v327.toInt ≤ 400)) (fun xx => match xx with | (v327, v328, w329) => (400 - v327.toInt).toNat) (0, (-1), u23) ⟨hP, hD, hS, lv_sub hl [0, 1, 2] rfl, hT, ke28, ke29, by omega⟩ (fun xx H locs ls hI ih => ?_)
  obtain ⟨v327, v328, w329⟩ := xx
  obtain ⟨hP, hD, hS, hl, hT, ke804, ke805, hq803⟩ := hI
  have ih806 := ih
  refine lv_iload_n hx hb dX3_readSum_8 rfl (lv_at hl 0 rfl) ?_
  refine lv_sipush (v := 400) hx hb dX3_readSum_9 (by decide) ?_
  refine lv_icmp_ge (tgt := 128) hx hb dX3_readSum_12 (by decide) (fun c807 => ?_) (fun c807 => ?_)
  · skip
    have c807 := i_le (show (400 : Int32).toInt = 400 by decide) (Eq.refl v327.toInt) c807
    refine lv_iload_n hx hb dX3_readSum_128 rfl (lv_at hl 1 rfl) ?_
    refine lv_iconst (v := (-1)) hx hb dX3_readSum_129 (by decide) ?_
    have j808 := rgI v328
    refine lv_icmp_eq (tgt := 144) hx hb dX3_readSum_130 (by decide) (fun c809 => ?_) (fun c809 => ?_)
    · skip
      have c809 := i_eq (Eq.refl v328.toInt) (show ((-1) : Int32).toInt = -1 by decide) c809
      refine W.widen (k := 0) (n := 0) (Nat.le_of_ble_eq_true rfl) (Nat.le_of_ble_eq_true rfl) ?_
      exact W.vret hx hb hr (fun t ht hW => ⟨⟨w329, rfl, ⟨hT, ke804, ke805⟩, CB.mk ht hP hD⟩, hS.F ht⟩) hS.2.2 dX3_readSum_144
    · skip
      have c809 := i_ne (Eq.refl v328.toInt) (show ((-1) : Int32).toInt = -1 by decide) c809
      refine lv_aload_n hx hb dX3_readSum_133 rfl (lv_at hl 2 rfl) ?_
      refine ok7 hT ht0 (fun p830 n810 a811 x812 x813 x814 x815 x816 x817 x818 x819 a820 a821 x822 hk831 h823 h824 h825 h826 h827 h828 h829 => ?_)
      refine va_get (D := D) (ci := 3) (v := .ref a821) (C := RX3) (T := TX3) (N := 12) hx hb hg inGX3 hown hKN.1 hP p830 hk831 rfl 10 (by decide) (hg _ kw_188) (fun _ h9 => h9) rfl dX3_readSum_134 ?_
      refine lv_ldc (v := 200000) hx hb hown (hg _ kw_717) dX3_readSum_137 ?_
      refine lv_iload_n hx hb dX3_readSum_139 rfl (lv_at hl 1 rfl) ?_
      refine lv_iadd hx hb dX3_readSum_140 ?_
      refine lv_topi (fun v832 ev832 => ?_)
      refine ok5 hT h827 (fun p854 x833 x834 x835 x836 x837 x838 x839 x840 a841 a842 a843 a844 a845 x846 hk855 h847 h848 h849 h850 h851 h852 h853 => ?_)
      refine cga (rn_NV (As := [.int v832]) (rest := []) (b := a821) (x_X8_addCode l D Y Z H.size w329 T g q a821 v832 hT h827) ⟨hx, hb, hml, hown, hg⟩ hKN lk_X3_154 ⟨CPC.blind, va_recv hKN.1 hP (ci := 8) (q0 := p854) rfl hk855, CPC.at hP hKN hD hSZ hS hA⟩ ⟨⟨rfl, rfl⟩, ⟨Nat.le_of_ble_eq_true rfl, Nat.le_of_ble_eq_true rfl⟩, ⟨(Nat.le_of_ble_eq_true rfl), (Nat.le_of_ble_eq_true rfl)⟩⟩ hl.1 rfl (Nat.le_of_ble_eq_true rfl) dX3_readSum_141) hP hD hS hA (fun u856 H locs hw857 hP hD hS => ?_)
      obtain ⟨hT, ke859, ke860⟩ : TW Y Z T g q u856 ∧ KF 1 T w329 u856 ∧ KF 6 T w329 u856 := hw857
      have ke861 : KF 1 T ws u856 := KF.tr ke804 ke859
      have ke862 : KF 6 T ws u856 := KF.tr ke805 ke860
      refine W.eq (g2 := F0 m 144 ls []) rfl ?_
      refine W.widen (k := 0) (n := 0) (Nat.le_of_ble_eq_true rfl) (Nat.le_of_ble_eq_true rfl) ?_
      exact W.vret hx hb hr (fun t ht hW => ⟨⟨u856, rfl, ⟨hT, ke861, ke862⟩, CB.mk ht hP hD⟩, hS.F ht⟩) hS.2.2 dX3_readSum_144
  · skip
    have c807 := i_nle (show (400 : Int32).toInt = 400 by decide) (Eq.refl v327.toInt) c807
    refine lv_aload_n hx hb dX3_readSum_15 rfl (lv_at hl 2 rfl) ?_
    refine ok7 hT ht0 (fun p883 n863 a864 x865 x866 x867 x868 x869 x870 x871 x872 a873 a874 x875 hk884 h876 h877 h878 h879 h880 h881 h882 => ?_)
    refine va_get (D := D) (ci := 3) (v := .int x870) (C := RX3) (T := TX3) (N := 12) hx hb hg inGX3 hown hKN.1 hP p883 hk884 rfl 6 (by decide) (hg _ kw_184) (fun _ h9 => h9) rfl dX3_readSum_16 ?_
    have j885 := rgI x870
    refine lv_if_ne (tgt := 128) hx hb dX3_readSum_19 (by decide) (fun c886 => ?_) (fun c886 => ?_)
    · skip
      have c886 := i_ne (Eq.refl x870.toInt) (show (0 : Int32).toInt = 0 by decide) c886
      refine lv_iload_n hx hb dX3_readSum_128 rfl (lv_at hl 1 rfl) ?_
      refine lv_iconst (v := (-1)) hx hb dX3_readSum_129 (by decide) ?_
      have j887 := rgI v328
      refine lv_icmp_eq (tgt := 144) hx hb dX3_readSum_130 (by decide) (fun c888 => ?_) (fun c888 => ?_)
      · skip
        have c888 := i_eq (Eq.refl v328.toInt) (show ((-1) : Int32).toInt = -1 by decide) c888
        refine W.widen (k := 0) (n := 0) (Nat.le_of_ble_eq_true rfl) (Nat.le_of_ble_eq_true rfl) ?_
        exact W.vret hx hb hr (fun t ht hW => ⟨⟨w329, rfl, ⟨hT, ke804, ke805⟩, CB.mk ht hP hD⟩, hS.F ht⟩) hS.2.2 dX3_readSum_144
      · skip
        have c888 := i_ne (Eq.refl v328.toInt) (show ((-1) : Int32).toInt = -1 by decide) c888
        refine lv_aload_n hx hb dX3_readSum_133 rfl (lv_at hl 2 rfl) ?_
        refine va_get (D := D) (ci := 3) (v := .ref a874) (C := RX3) (T := TX3) (N := 12) hx hb hg inGX3 hown hKN.1 hP p883 hk884 rfl 10 (by decide) (hg _ kw_188) (fun _ h9 => h9) rfl dX3_readSum_134 ?_
        refine lv_ldc (v := 200000) hx hb hown (hg _ kw_717) dX3_readSum_137 ?_
        refine lv_iload_n hx hb dX3_readSum_139 rfl (lv_at hl 1 rfl) ?_
        refine lv_iadd hx hb dX3_readSum_140 ?_
        refine lv_topi (fun v889 ev889 => ?_)
        refine ok5 hT h880 (fun p911 x890 x891 x892 x893 x894 x895 x896 x897 a898 a899 a900 a901 a902 x903 hk912 h904 h905 h906 h907 h908 h909 h910 => ?_)
        refine cga (rn_NV (As := [.int v889]) (rest := []) (b := a874) (x_X8_addCode l D Y Z H.size w329 T g q a874 v889 hT h880) ⟨hx, hb, hml, hown, hg⟩ hKN lk_X3_154 ⟨CPC.blind, va_recv hKN.1 hP (ci := 8) (q0 := p911) rfl hk912, CPC.at hP hKN hD hSZ hS hA⟩ ⟨⟨rfl, rfl⟩, ⟨Nat.le_of_ble_eq_true rfl, Nat.le_of_ble_eq_true rfl⟩, ⟨(Nat.le_of_ble_eq_true rfl), (Nat.le_of_ble_eq_true rfl)⟩⟩ hl.1 rfl (Nat.le_of_ble_eq_true rfl) dX3_readSum_141) hP hD hS hA (fun u913 H locs hw914 hP hD hS => ?_)
        obtain ⟨hT, ke916, ke917⟩ : TW Y Z T g q u913 ∧ KF 1 T w329 u913 ∧ KF 6 T w329 u913 := hw914
        have ke918 : KF 1 T ws u913 := KF.tr ke804 ke916
        have ke919 : KF 6 T ws u913 := KF.tr ke805 ke917
        refine W.eq (g2 := F0 m 144 ls []) rfl ?_
        refine W.widen (k := 0) (n := 0) (Nat.le_of_ble_eq_true rfl) (Nat.le_of_ble_eq_true rfl) ?_
        exact W.vret hx hb hr (fun t ht hW => ⟨⟨u913, rfl, ⟨hT, ke918, ke919⟩, CB.mk ht hP hD⟩, hS.F ht⟩) hS.2.2 dX3_readSum_144
    · skip
      have c886 := i_eq (Eq.refl x870.toInt) (show (0 : Int32).toInt = 0 by decide) c886
      refine lv_aload_n hx hb dX3_readSum_22 rfl (lv_at hl 2 rfl) ?_
      refine va_get (D := D) (ci := 3) (v := .int x867) (C := RX3) (T := TX3) (N := 12) hx hb hg inGX3 hown hKN.1 hP p883 hk884 rfl 3 (by decide) (hg _ kw_181) (fun _ h9 => h9) rfl dX3_readSum_23 ?_
      refine lv_istore_n (lv' := [(3, .int x867), (2, .int v327), (1, .int v328), (0, .ref p0)]) hx hb dX3_readSum_26 rfl hl (by decide) rfl (fun ls hl => ?_)
      refine lv_iload_n hx hb dX3_readSum_27 rfl (lv_at hl 0 rfl) ?_
      refine lv_bipush (v := 42) hx hb dX3_readSum_28 (by decide) ?_
      have j920 := rgI x867
      refine lv_icmp_eq (tgt := 39) hx hb dX3_readSum_30 (by decide) (fun c921 => ?_) (fun c921 => ?_)
      · skip
        have c921 := i_eq (Eq.refl x867.toInt) (show (42 : Int32).toInt = 42 by decide) c921
        refine lv_iconst (v := 1) hx hb dX3_readSum_39 (by decide) ?_
        refine lv_goto (tgt := 44) hx hb dX3_readSum_40 (by decide) ?_
        refine lv_istore (lv' := [(4, .int 1), (3, .int x867), (2, .int v327), (1, .int v328), (0, .ref p0)]) hx hb dX3_readSum_44 hl (by decide) rfl (fun ls hl => ?_)
        refine lv_iload hx hb dX3_readSum_46 (lv_at hl 0 rfl) ?_
        refine lv_if_ne (tgt := 66) hx hb dX3_readSum_48 (by decide) (fun c922 => ?_) (fun c922 => ?_)
        rotate_left
        · exact absurd c922 (by decide)
        refine lv_aload_n hx hb dX3_readSum_66 rfl (lv_at hl 4 rfl) ?_
        refine cga (rn_V (As := []) (rest := []) (b := p0) (x_X3_step l D Y Z H.size w329 T g q p0 hT ht0) ⟨hx, hb, hml, hown, hg⟩ lk_X3_61 ⟨CPC.blind, va_recv hKN.1 hP (ci := 3) (q0 := p883) rfl hk884, CPC.at hP hKN hD hSZ hS hA⟩ ⟨⟨rfl, rfl⟩, ⟨Nat.le_of_ble_eq_true rfl, Nat.le_of_ble_eq_true rfl⟩, ⟨(Nat.le_of_ble_eq_true rfl), (Nat.le_of_ble_eq_true rfl)⟩⟩ hl.1 rfl (Nat.le_of_ble_eq_true rfl) dX3_readSum_67) hP hD hS hA (fun u923 H locs hw924 hP hD hS => ?_)
        obtain ⟨hT, ke926, ke927⟩ : TW Y Z T g q u923 ∧ KF 1 T w329 u923 ∧ KF 6 T w329 u923 := hw924
        have ke928 : KF 1 T ws u923 := KF.tr ke804 ke926
        have ke929 : KF 6 T ws u923 := KF.tr ke805 ke927
        refine W.eq (g2 := F0 m 70 ls []) rfl ?_
        refine lv_iload hx hb dX3_readSum_70 (lv_at hl 0 rfl) ?_
        refine lv_if_ne (tgt := 91) hx hb dX3_readSum_72 (by decide) (fun c930 => ?_) (fun c930 => ?_)
        rotate_left
        · exact absurd c930 (by decide)
        refine lv_iload hx hb dX3_readSum_91 (lv_at hl 0 rfl) ?_
        refine lv_if_eq (tgt := 100) hx hb dX3_readSum_93 (by decide) (fun c931 => ?_) (fun c931 => ?_)
        · exact absurd c931 (by decide)
        refine lv_iload_n hx hb dX3_readSum_96 rfl (lv_at hl 3 rfl) ?_
        refine lv_goto (tgt := 101) hx hb dX3_readSum_97 (by decide) ?_
        refine lv_istore_n (lv' := [(1, .int v328), (4, .int 1), (3, .int x867), (2, .int v327), (0, .ref p0)]) hx hb dX3_readSum_101 rfl hl (by decide) rfl (fun ls hl => ?_)
        refine lv_aload_n hx hb dX3_readSum_102 rfl (lv_at hl 4 rfl) ?_
        refine ok7 hT ht0 (fun p952 n932 a933 x934 x935 x936 x937 x938 x939 x940 x941 a942 a943 x944 hk953 h945 h946 h947 h948 h949 h950 h951 => ?_)
        refine cga (rn_V (As := []) (rest := []) (b := p0) (x_X3_readValue l D Y Z H.size u923 T g q p0 hT ht0) ⟨hx, hb, hml, hown, hg⟩ lk_X3_165 ⟨CPC.blind, va_recv hKN.1 hP (ci := 3) (q0 := p952) rfl hk953, CPC.at hP hKN hD hSZ hS hA⟩ ⟨⟨rfl, rfl⟩, ⟨Nat.le_of_ble_eq_true rfl, Nat.le_of_ble_eq_true rfl⟩, ⟨(Nat.le_of_ble_eq_true rfl), (Nat.le_of_ble_eq_true rfl)⟩⟩ hl.1 rfl (Nat.le_of_ble_eq_true rfl) dX3_readSum_103) hP hD hS hA (fun u954 H locs hw955 hP hD hS => ?_)
        obtain ⟨hT, ke957, ke958⟩ : TW Y Z T g q u954 ∧ KF 1 T u923 u954 ∧ KF 6 T u923 u954 := hw955
        have ke959 : KF 1 T ws u954 := KF.tr ke928 ke957
        have ke960 : KF 6 T ws u954 := KF.tr ke929 ke958
        refine W.eq (g2 := F0 m 106 ls []) rfl ?_
        refine lv_iload hx hb dX3_readSum_106 (lv_at hl 1 rfl) ?_
        refine lv_if_eq (tgt := 122) hx hb dX3_readSum_108 (by decide) (fun c961 => ?_) (fun c961 => ?_)
        · exact absurd c961 (by decide)
        refine lv_aload_n hx hb dX3_readSum_111 rfl (lv_at hl 4 rfl) ?_
        refine ok7 hT ht0 (fun p982 n962 a963 x964 x965 x966 x967 x968 x969 x970 x971 a972 a973 x974 hk983 h975 h976 h977 h978 h979 h980 h981 => ?_)
        refine va_get (D := D) (ci := 3) (v := .ref a973) (C := RX3) (T := TX3) (N := 12) hx hb hg inGX3 hown hKN.1 hP p982 hk983 rfl 10 (by decide) (hg _ kw_188) (fun _ h9 => h9) rfl dX3_readSum_112 ?_
        refine lv_ldc (v := 200000) hx hb hown (hg _ kw_717) dX3_readSum_115 ?_
        refine lv_iload_n hx hb dX3_readSum_117 rfl (lv_at hl 2 rfl) ?_
        refine lv_iadd hx hb dX3_readSum_118 ?_
        refine lv_topi (fun v984 ev984 => ?_)
        have hv984 := i_add (show (200000 : Int32).toInt = 200000 by decide) (Eq.refl x867.toInt) ev984 (by omega) (by omega)
        refine ok5 hT h979 (fun p1006 x985 x986 x987 x988 x989 x990 x991 x992 a993 a994 a995 a996 a997 x998 hk1007 h999 h1000 h1001 h1002 h1003 h1004 h1005 => ?_)
        refine cga (rn_NV (As := [.int v984]) (rest := []) (b := a973) (x_X8_addCode l D Y Z H.size u954 T g q a973 v984 hT h979) ⟨hx, hb, hml, hown, hg⟩ hKN lk_X3_154 ⟨CPC.blind, va_recv hKN.1 hP (ci := 8) (q0 := p1006) rfl hk1007, CPC.at hP hKN hD hSZ hS hA⟩ ⟨⟨rfl, rfl⟩, ⟨Nat.le_of_ble_eq_true rfl, Nat.le_of_ble_eq_true rfl⟩, ⟨(Nat.le_of_ble_eq_true rfl), (Nat.le_of_ble_eq_true rfl)⟩⟩ hl.1 rfl (Nat.le_of_ble_eq_true rfl) dX3_readSum_119) hP hD hS hA (fun u1008 H locs hw1009 hP hD hS => ?_)
        obtain ⟨hT, ke1011, ke1012⟩ : TW Y Z T g q u1008 ∧ KF 1 T u954 u1008 ∧ KF 6 T u954 u1008 := hw1009
        have ke1013 : KF 1 T ws u1008 := KF.tr ke959 ke1011
        have ke1014 : KF 6 T ws u1008 := KF.tr ke960 ke1012
        refine W.eq (g2 := F0 m 122 ls []) rfl ?_
        obtain ⟨v1015, ev1015⟩ : ∃ y : Int32, y = v327 + 1 := ⟨_, rfl⟩
        have hv1015 := i_add (Eq.refl v327.toInt) (show (1 : Int32).toInt = 1 by decide) ev1015 (by omega) (by omega)
        refine lv_iinc (v := v1015) (lv' := [(2, .int v1015), (1, .int v328), (4, .int 1), (3, .int x867), (0, .ref p0)]) hx hb dX3_readSum_122 hl (k := 3) rfl (by rw [ev1015]; rfl) (by decide) rfl (fun ls hl => ?_)
        refine lv_goto (tgt := 8) hx hb dX3_readSum_125 (by decide) ?_
        have zi1 : (1 : Int32).toInt = 1 := by decide
        exact ih806 (v1015, v328, u1008) H locs ls (by show (400 - v1015.toInt).toNat < (400 - v327.toInt).toNat; omega) ⟨hP, hD, hS, lv_sub hl [0, 1, 4] rfl, hT, ke1013, ke1014, by omega⟩
      · skip
        have c921 := i_ne (Eq.refl x867.toInt) (show (42 : Int32).toInt = 42 by decide) c921
        refine lv_iload_n hx hb dX3_readSum_33 rfl (lv_at hl 0 rfl) ?_
        refine lv_bipush (v := 47) hx hb dX3_readSum_34 (by decide) ?_
        refine lv_icmp_ne (tgt := 43) hx hb dX3_readSum_36 (by decide) (fun c1016 => ?_) (fun c1016 => ?_)
        · skip
          have c1016 := i_ne (Eq.refl x867.toInt) (show (47 : Int32).toInt = 47 by decide) c1016
          refine lv_iconst (v := 0) hx hb dX3_readSum_43 (by decide) ?_
          refine lv_istore (lv' := [(4, .int 0), (3, .int x867), (2, .int v327), (1, .int v328), (0, .ref p0)]) hx hb dX3_readSum_44 hl (by decide) rfl (fun ls hl => ?_)
          refine lv_iload hx hb dX3_readSum_46 (lv_at hl 0 rfl) ?_
          refine lv_if_ne (tgt := 66) hx hb dX3_readSum_48 (by decide) (fun c1017 => ?_) (fun c1017 => ?_)
          · exact absurd c1017 (by decide)
          refine lv_iload_n hx hb dX3_readSum_51 rfl (lv_at hl 1 rfl) ?_
          refine lv_bipush (v := 43) hx hb dX3_readSum_52 (by decide) ?_
          refine lv_icmp_eq (tgt := 66) hx hb dX3_readSum_54 (by decide) (fun c1018 => ?_) (fun c1018 => ?_)
          · skip
            have c1018 := i_eq (Eq.refl x867.toInt) (show (43 : Int32).toInt = 43 by decide) c1018
            refine lv_aload_n hx hb dX3_readSum_66 rfl (lv_at hl 4 rfl) ?_
            refine cga (rn_V (As := []) (rest := []) (b := p0) (x_X3_step l D Y Z H.size w329 T g q p0 hT ht0) ⟨hx, hb, hml, hown, hg⟩ lk_X3_61 ⟨CPC.blind, va_recv hKN.1 hP (ci := 3) (q0 := p883) rfl hk884, CPC.at hP hKN hD hSZ hS hA⟩ ⟨⟨rfl, rfl⟩, ⟨Nat.le_of_ble_eq_true rfl, Nat.le_of_ble_eq_true rfl⟩, ⟨(Nat.le_of_ble_eq_true rfl), (Nat.le_of_ble_eq_true rfl)⟩⟩ hl.1 rfl (Nat.le_of_ble_eq_true rfl) dX3_readSum_67) hP hD hS hA (fun u1019 H locs hw1020 hP hD hS => ?_)
            obtain ⟨hT, ke1022, ke1023⟩ : TW Y Z T g q u1019 ∧ KF 1 T w329 u1019 ∧ KF 6 T w329 u1019 := hw1020
            have ke1024 : KF 1 T ws u1019 := KF.tr ke804 ke1022
            have ke1025 : KF 6 T ws u1019 := KF.tr ke805 ke1023
            refine W.eq (g2 := F0 m 70 ls []) rfl ?_
            refine lv_iload hx hb dX3_readSum_70 (lv_at hl 0 rfl) ?_
            refine lv_if_ne (tgt := 91) hx hb dX3_readSum_72 (by decide) (fun c1026 => ?_) (fun c1026 => ?_)
            · exact absurd c1026 (by decide)
            refine lv_iload_n hx hb dX3_readSum_75 rfl (lv_at hl 3 rfl) ?_
            refine lv_iconst (v := (-1)) hx hb dX3_readSum_76 (by decide) ?_
            have j1027 := rgI v328
            refine lv_icmp_eq (tgt := 91) hx hb dX3_readSum_77 (by decide) (fun c1028 => ?_) (fun c1028 => ?_)
            · skip
              have c1028 := i_eq (Eq.refl v328.toInt) (show ((-1) : Int32).toInt = -1 by decide) c1028
              refine lv_iload hx hb dX3_readSum_91 (lv_at hl 0 rfl) ?_
              refine lv_if_eq (tgt := 100) hx hb dX3_readSum_93 (by decide) (fun c1029 => ?_) (fun c1029 => ?_)
              rotate_left
              · exact absurd c1029 (by decide)
              refine lv_iload_n hx hb dX3_readSum_100 rfl (lv_at hl 1 rfl) ?_
              refine lv_istore_n (lv' := [(1, .int x867), (4, .int 0), (3, .int x867), (2, .int v327), (0, .ref p0)]) hx hb dX3_readSum_101 rfl hl (by decide) rfl (fun ls hl => ?_)
              refine lv_aload_n hx hb dX3_readSum_102 rfl (lv_at hl 4 rfl) ?_
              refine ok7 hT ht0 (fun p1050 n1030 a1031 x1032 x1033 x1034 x1035 x1036 x1037 x1038 x1039 a1040 a1041 x1042 hk1051 h1043 h1044 h1045 h1046 h1047 h1048 h1049 => ?_)
              refine cga (rn_V (As := []) (rest := []) (b := p0) (x_X3_readValue l D Y Z H.size u1019 T g q p0 hT ht0) ⟨hx, hb, hml, hown, hg⟩ lk_X3_165 ⟨CPC.blind, va_recv hKN.1 hP (ci := 3) (q0 := p1050) rfl hk1051, CPC.at hP hKN hD hSZ hS hA⟩ ⟨⟨rfl, rfl⟩, ⟨Nat.le_of_ble_eq_true rfl, Nat.le_of_ble_eq_true rfl⟩, ⟨(Nat.le_of_ble_eq_true rfl), (Nat.le_of_ble_eq_true rfl)⟩⟩ hl.1 rfl (Nat.le_of_ble_eq_true rfl) dX3_readSum_103) hP hD hS hA (fun u1052 H locs hw1053 hP hD hS => ?_)
              obtain ⟨hT, ke1055, ke1056⟩ : TW Y Z T g q u1052 ∧ KF 1 T u1019 u1052 ∧ KF 6 T u1019 u1052 := hw1053
              have ke1057 : KF 1 T ws u1052 := KF.tr ke1024 ke1055
              have ke1058 : KF 6 T ws u1052 := KF.tr ke1025 ke1056
              refine W.eq (g2 := F0 m 106 ls []) rfl ?_
              refine lv_iload hx hb dX3_readSum_106 (lv_at hl 1 rfl) ?_
              refine lv_if_eq (tgt := 122) hx hb dX3_readSum_108 (by decide) (fun c1059 => ?_) (fun c1059 => ?_)
              rotate_left
              · exact absurd c1059 (by decide)
              obtain ⟨v1060, ev1060⟩ : ∃ y : Int32, y = v327 + 1 := ⟨_, rfl⟩
              have hv1060 := i_add (Eq.refl v327.toInt) (show (1 : Int32).toInt = 1 by decide) ev1060 (by omega) (by omega)
              refine lv_iinc (v := v1060) (lv' := [(2, .int v1060), (1, .int x867), (4, .int 0), (3, .int x867), (0, .ref p0)]) hx hb dX3_readSum_122 hl (k := 3) rfl (by rw [ev1060]; rfl) (by decide) rfl (fun ls hl => ?_)
              refine lv_goto (tgt := 8) hx hb dX3_readSum_125 (by decide) ?_
              have zi0 : (0 : Int32).toInt = 0 := by decide
              exact ih806 (v1060, x867, u1052) H locs ls (by show (400 - v1060.toInt).toNat < (400 - v327.toInt).toNat; omega) ⟨hP, hD, hS, lv_sub hl [0, 1, 4] rfl, hT, ke1057, ke1058, by omega⟩
            · skip
              have c1028 := i_ne (Eq.refl v328.toInt) (show ((-1) : Int32).toInt = -1 by decide) c1028
              refine lv_aload_n hx hb dX3_readSum_80 rfl (lv_at hl 4 rfl) ?_
              refine ok7 hT ht0 (fun p1081 n1061 a1062 x1063 x1064 x1065 x1066 x1067 x1068 x1069 x1070 a1071 a1072 x1073 hk1082 h1074 h1075 h1076 h1077 h1078 h1079 h1080 => ?_)
              refine va_get (D := D) (ci := 3) (v := .ref a1072) (C := RX3) (T := TX3) (N := 12) hx hb hg inGX3 hown hKN.1 hP p1081 hk1082 rfl 10 (by decide) (hg _ kw_188) (fun _ h9 => h9) rfl dX3_readSum_81 ?_
              refine lv_ldc (v := 200000) hx hb hown (hg _ kw_717) dX3_readSum_84 ?_
              refine lv_iload_n hx hb dX3_readSum_86 rfl (lv_at hl 3 rfl) ?_
              refine lv_iadd hx hb dX3_readSum_87 ?_
              refine lv_topi (fun v1083 ev1083 => ?_)
              refine ok5 hT h1078 (fun p1105 x1084 x1085 x1086 x1087 x1088 x1089 x1090 x1091 a1092 a1093 a1094 a1095 a1096 x1097 hk1106 h1098 h1099 h1100 h1101 h1102 h1103 h1104 => ?_)
              refine cga (rn_NV (As := [.int v1083]) (rest := []) (b := a1072) (x_X8_addCode l D Y Z H.size u1019 T g q a1072 v1083 hT h1078) ⟨hx, hb, hml, hown, hg⟩ hKN lk_X3_154 ⟨CPC.blind, va_recv hKN.1 hP (ci := 8) (q0 := p1105) rfl hk1106, CPC.at hP hKN hD hSZ hS hA⟩ ⟨⟨rfl, rfl⟩, ⟨Nat.le_of_ble_eq_true rfl, Nat.le_of_ble_eq_true rfl⟩, ⟨(Nat.le_of_ble_eq_true rfl), (Nat.le_of_ble_eq_true rfl)⟩⟩ hl.1 rfl (Nat.le_of_ble_eq_true rfl) dX3_readSum_88) hP hD hS hA (fun u1107 H locs hw1108 hP hD hS => ?_)
              obtain ⟨hT, ke1110, ke1111⟩ : TW Y Z T g q u1107 ∧ KF 1 T u1019 u1107 ∧ KF 6 T u1019 u1107 := hw1108
              have ke1112 : KF 1 T ws u1107 := KF.tr ke1024 ke1110
              have ke1113 : KF 6 T ws u1107 := KF.tr ke1025 ke1111
              refine W.eq (g2 := F0 m 91 ls []) rfl ?_
              refine lv_iload hx hb dX3_readSum_91 (lv_at hl 0 rfl) ?_
              refine lv_if_eq (tgt := 100) hx hb dX3_readSum_93 (by decide) (fun c1114 => ?_) (fun c1114 => ?_)
              rotate_left
              · exact absurd c1114 (by decide)
              refine lv_iload_n hx hb dX3_readSum_100 rfl (lv_at hl 1 rfl) ?_
              refine lv_istore_n (lv' := [(1, .int x867), (4, .int 0), (3, .int x867), (2, .int v327), (0, .ref p0)]) hx hb dX3_readSum_101 rfl hl (by decide) rfl (fun ls hl => ?_)
              refine lv_aload_n hx hb dX3_readSum_102 rfl (lv_at hl 4 rfl) ?_
              refine ok7 hT ht0 (fun p1135 n1115 a1116 x1117 x1118 x1119 x1120 x1121 x1122 x1123 x1124 a1125 a1126 x1127 hk1136 h1128 h1129 h1130 h1131 h1132 h1133 h1134 => ?_)
              refine cga (rn_V (As := []) (rest := []) (b := p0) (x_X3_readValue l D Y Z H.size u1107 T g q p0 hT ht0) ⟨hx, hb, hml, hown, hg⟩ lk_X3_165 ⟨CPC.blind, va_recv hKN.1 hP (ci := 3) (q0 := p1135) rfl hk1136, CPC.at hP hKN hD hSZ hS hA⟩ ⟨⟨rfl, rfl⟩, ⟨Nat.le_of_ble_eq_true rfl, Nat.le_of_ble_eq_true rfl⟩, ⟨(Nat.le_of_ble_eq_true rfl), (Nat.le_of_ble_eq_true rfl)⟩⟩ hl.1 rfl (Nat.le_of_ble_eq_true rfl) dX3_readSum_103) hP hD hS hA (fun u1137 H locs hw1138 hP hD hS => ?_)
              obtain ⟨hT, ke1140, ke1141⟩ : TW Y Z T g q u1137 ∧ KF 1 T u1107 u1137 ∧ KF 6 T u1107 u1137 := hw1138
              have ke1142 : KF 1 T ws u1137 := KF.tr ke1112 ke1140
              have ke1143 : KF 6 T ws u1137 := KF.tr ke1113 ke1141
              refine W.eq (g2 := F0 m 106 ls []) rfl ?_
              refine lv_iload hx hb dX3_readSum_106 (lv_at hl 1 rfl) ?_
              refine lv_if_eq (tgt := 122) hx hb dX3_readSum_108 (by decide) (fun c1144 => ?_) (fun c1144 => ?_)
              rotate_left
              · exact absurd c1144 (by decide)
              obtain ⟨v1145, ev1145⟩ : ∃ y : Int32, y = v327 + 1 := ⟨_, rfl⟩
              have hv1145 := i_add (Eq.refl v327.toInt) (show (1 : Int32).toInt = 1 by decide) ev1145 (by omega) (by omega)
              refine lv_iinc (v := v1145) (lv' := [(2, .int v1145), (1, .int x867), (4, .int 0), (3, .int x867), (0, .ref p0)]) hx hb dX3_readSum_122 hl (k := 3) rfl (by rw [ev1145]; rfl) (by decide) rfl (fun ls hl => ?_)
              refine lv_goto (tgt := 8) hx hb dX3_readSum_125 (by decide) ?_
              have zi0 : (0 : Int32).toInt = 0 := by decide
              exact ih806 (v1145, x867, u1137) H locs ls (by show (400 - v1145.toInt).toNat < (400 - v327.toInt).toNat; omega) ⟨hP, hD, hS, lv_sub hl [0, 1, 4] rfl, hT, ke1142, ke1143, by omega⟩
          · skip
            have c1018 := i_ne (Eq.refl x867.toInt) (show (43 : Int32).toInt = 43 by decide) c1018
            refine lv_iload_n hx hb dX3_readSum_57 rfl (lv_at hl 1 rfl) ?_
            refine lv_bipush (v := 45) hx hb dX3_readSum_58 (by decide) ?_
            refine lv_icmp_eq (tgt := 66) hx hb dX3_readSum_60 (by decide) (fun c1146 => ?_) (fun c1146 => ?_)
            · skip
              have c1146 := i_eq (Eq.refl x867.toInt) (show (45 : Int32).toInt = 45 by decide) c1146
              refine lv_aload_n hx hb dX3_readSum_66 rfl (lv_at hl 4 rfl) ?_
              refine cga (rn_V (As := []) (rest := []) (b := p0) (x_X3_step l D Y Z H.size w329 T g q p0 hT ht0) ⟨hx, hb, hml, hown, hg⟩ lk_X3_61 ⟨CPC.blind, va_recv hKN.1 hP (ci := 3) (q0 := p883) rfl hk884, CPC.at hP hKN hD hSZ hS hA⟩ ⟨⟨rfl, rfl⟩, ⟨Nat.le_of_ble_eq_true rfl, Nat.le_of_ble_eq_true rfl⟩, ⟨(Nat.le_of_ble_eq_true rfl), (Nat.le_of_ble_eq_true rfl)⟩⟩ hl.1 rfl (Nat.le_of_ble_eq_true rfl) dX3_readSum_67) hP hD hS hA (fun u1147 H locs hw1148 hP hD hS => ?_)
              obtain ⟨hT, ke1150, ke1151⟩ : TW Y Z T g q u1147 ∧ KF 1 T w329 u1147 ∧ KF 6 T w329 u1147 := hw1148
              have ke1152 : KF 1 T ws u1147 := KF.tr ke804 ke1150
              have ke1153 : KF 6 T ws u1147 := KF.tr ke805 ke1151
              refine W.eq (g2 := F0 m 70 ls []) rfl ?_
              refine lv_iload hx hb dX3_readSum_70 (lv_at hl 0 rfl) ?_
              refine lv_if_ne (tgt := 91) hx hb dX3_readSum_72 (by decide) (fun c1154 => ?_) (fun c1154 => ?_)
              · exact absurd c1154 (by decide)
              refine lv_iload_n hx hb dX3_readSum_75 rfl (lv_at hl 3 rfl) ?_
              refine lv_iconst (v := (-1)) hx hb dX3_readSum_76 (by decide) ?_
              have j1155 := rgI v328
              refine lv_icmp_eq (tgt := 91) hx hb dX3_readSum_77 (by decide) (fun c1156 => ?_) (fun c1156 => ?_)
              · skip
                have c1156 := i_eq (Eq.refl v328.toInt) (show ((-1) : Int32).toInt = -1 by decide) c1156
                refine lv_iload hx hb dX3_readSum_91 (lv_at hl 0 rfl) ?_
                refine lv_if_eq (tgt := 100) hx hb dX3_readSum_93 (by decide) (fun c1157 => ?_) (fun c1157 => ?_)
                rotate_left
                · exact absurd c1157 (by decide)
                refine lv_iload_n hx hb dX3_readSum_100 rfl (lv_at hl 1 rfl) ?_
                refine lv_istore_n (lv' := [(1, .int x867), (4, .int 0), (3, .int x867), (2, .int v327), (0, .ref p0)]) hx hb dX3_readSum_101 rfl hl (by decide) rfl (fun ls hl => ?_)
                refine lv_aload_n hx hb dX3_readSum_102 rfl (lv_at hl 4 rfl) ?_
                refine ok7 hT ht0 (fun p1178 n1158 a1159 x1160 x1161 x1162 x1163 x1164 x1165 x1166 x1167 a1168 a1169 x1170 hk1179 h1171 h1172 h1173 h1174 h1175 h1176 h1177 => ?_)
                refine cga (rn_V (As := []) (rest := []) (b := p0) (x_X3_readValue l D Y Z H.size u1147 T g q p0 hT ht0) ⟨hx, hb, hml, hown, hg⟩ lk_X3_165 ⟨CPC.blind, va_recv hKN.1 hP (ci := 3) (q0 := p1178) rfl hk1179, CPC.at hP hKN hD hSZ hS hA⟩ ⟨⟨rfl, rfl⟩, ⟨Nat.le_of_ble_eq_true rfl, Nat.le_of_ble_eq_true rfl⟩, ⟨(Nat.le_of_ble_eq_true rfl), (Nat.le_of_ble_eq_true rfl)⟩⟩ hl.1 rfl (Nat.le_of_ble_eq_true rfl) dX3_readSum_103) hP hD hS hA (fun u1180 H locs hw1181 hP hD hS => ?_)
                obtain ⟨hT, ke1183, ke1184⟩ : TW Y Z T g q u1180 ∧ KF 1 T u1147 u1180 ∧ KF 6 T u1147 u1180 := hw1181
                have ke1185 : KF 1 T ws u1180 := KF.tr ke1152 ke1183
                have ke1186 : KF 6 T ws u1180 := KF.tr ke1153 ke1184
                refine W.eq (g2 := F0 m 106 ls []) rfl ?_
                refine lv_iload hx hb dX3_readSum_106 (lv_at hl 1 rfl) ?_
                refine lv_if_eq (tgt := 122) hx hb dX3_readSum_108 (by decide) (fun c1187 => ?_) (fun c1187 => ?_)
                rotate_left
                · exact absurd c1187 (by decide)
                obtain ⟨v1188, ev1188⟩ : ∃ y : Int32, y = v327 + 1 := ⟨_, rfl⟩
                have hv1188 := i_add (Eq.refl v327.toInt) (show (1 : Int32).toInt = 1 by decide) ev1188 (by omega) (by omega)
                refine lv_iinc (v := v1188) (lv' := [(2, .int v1188), (1, .int x867), (4, .int 0), (3, .int x867), (0, .ref p0)]) hx hb dX3_readSum_122 hl (k := 3) rfl (by rw [ev1188]; rfl) (by decide) rfl (fun ls hl => ?_)
                refine lv_goto (tgt := 8) hx hb dX3_readSum_125 (by decide) ?_
                have zi0 : (0 : Int32).toInt = 0 := by decide
                exact ih806 (v1188, x867, u1180) H locs ls (by show (400 - v1188.toInt).toNat < (400 - v327.toInt).toNat; omega) ⟨hP, hD, hS, lv_sub hl [0, 1, 4] rfl, hT, ke1185, ke1186, by omega⟩
              · skip
                have c1156 := i_ne (Eq.refl v328.toInt) (show ((-1) : Int32).toInt = -1 by decide) c1156
                refine lv_aload_n hx hb dX3_readSum_80 rfl (lv_at hl 4 rfl) ?_
                refine ok7 hT ht0 (fun p1209 n1189 a1190 x1191 x1192 x1193 x1194 x1195 x1196 x1197 x1198 a1199 a1200 x1201 hk1210 h1202 h1203 h1204 h1205 h1206 h1207 h1208 => ?_)
                refine va_get (D := D) (ci := 3) (v := .ref a1200) (C := RX3) (T := TX3) (N := 12) hx hb hg inGX3 hown hKN.1 hP p1209 hk1210 rfl 10 (by decide) (hg _ kw_188) (fun _ h9 => h9) rfl dX3_readSum_81 ?_
                refine lv_ldc (v := 200000) hx hb hown (hg _ kw_717) dX3_readSum_84 ?_
                refine lv_iload_n hx hb dX3_readSum_86 rfl (lv_at hl 3 rfl) ?_
                refine lv_iadd hx hb dX3_readSum_87 ?_
                refine lv_topi (fun v1211 ev1211 => ?_)
                refine ok5 hT h1206 (fun p1233 x1212 x1213 x1214 x1215 x1216 x1217 x1218 x1219 a1220 a1221 a1222 a1223 a1224 x1225 hk1234 h1226 h1227 h1228 h1229 h1230 h1231 h1232 => ?_)
                refine cga (rn_NV (As := [.int v1211]) (rest := []) (b := a1200) (x_X8_addCode l D Y Z H.size u1147 T g q a1200 v1211 hT h1206) ⟨hx, hb, hml, hown, hg⟩ hKN lk_X3_154 ⟨CPC.blind, va_recv hKN.1 hP (ci := 8) (q0 := p1233) rfl hk1234, CPC.at hP hKN hD hSZ hS hA⟩ ⟨⟨rfl, rfl⟩, ⟨Nat.le_of_ble_eq_true rfl, Nat.le_of_ble_eq_true rfl⟩, ⟨(Nat.le_of_ble_eq_true rfl), (Nat.le_of_ble_eq_true rfl)⟩⟩ hl.1 rfl (Nat.le_of_ble_eq_true rfl) dX3_readSum_88) hP hD hS hA (fun u1235 H locs hw1236 hP hD hS => ?_)
                obtain ⟨hT, ke1238, ke1239⟩ : TW Y Z T g q u1235 ∧ KF 1 T u1147 u1235 ∧ KF 6 T u1147 u1235 := hw1236
                have ke1240 : KF 1 T ws u1235 := KF.tr ke1152 ke1238
                have ke1241 : KF 6 T ws u1235 := KF.tr ke1153 ke1239
                refine W.eq (g2 := F0 m 91 ls []) rfl ?_
                refine lv_iload hx hb dX3_readSum_91 (lv_at hl 0 rfl) ?_
                refine lv_if_eq (tgt := 100) hx hb dX3_readSum_93 (by decide) (fun c1242 => ?_) (fun c1242 => ?_)
                rotate_left
                · exact absurd c1242 (by decide)
                refine lv_iload_n hx hb dX3_readSum_100 rfl (lv_at hl 1 rfl) ?_
                refine lv_istore_n (lv' := [(1, .int x867), (4, .int 0), (3, .int x867), (2, .int v327), (0, .ref p0)]) hx hb dX3_readSum_101 rfl hl (by decide) rfl (fun ls hl => ?_)
                refine lv_aload_n hx hb dX3_readSum_102 rfl (lv_at hl 4 rfl) ?_
                refine ok7 hT ht0 (fun p1263 n1243 a1244 x1245 x1246 x1247 x1248 x1249 x1250 x1251 x1252 a1253 a1254 x1255 hk1264 h1256 h1257 h1258 h1259 h1260 h1261 h1262 => ?_)
                refine cga (rn_V (As := []) (rest := []) (b := p0) (x_X3_readValue l D Y Z H.size u1235 T g q p0 hT ht0) ⟨hx, hb, hml, hown, hg⟩ lk_X3_165 ⟨CPC.blind, va_recv hKN.1 hP (ci := 3) (q0 := p1263) rfl hk1264, CPC.at hP hKN hD hSZ hS hA⟩ ⟨⟨rfl, rfl⟩, ⟨Nat.le_of_ble_eq_true rfl, Nat.le_of_ble_eq_true rfl⟩, ⟨(Nat.le_of_ble_eq_true rfl), (Nat.le_of_ble_eq_true rfl)⟩⟩ hl.1 rfl (Nat.le_of_ble_eq_true rfl) dX3_readSum_103) hP hD hS hA (fun u1265 H locs hw1266 hP hD hS => ?_)
                obtain ⟨hT, ke1268, ke1269⟩ : TW Y Z T g q u1265 ∧ KF 1 T u1235 u1265 ∧ KF 6 T u1235 u1265 := hw1266
                have ke1270 : KF 1 T ws u1265 := KF.tr ke1240 ke1268
                have ke1271 : KF 6 T ws u1265 := KF.tr ke1241 ke1269
                refine W.eq (g2 := F0 m 106 ls []) rfl ?_
                refine lv_iload hx hb dX3_readSum_106 (lv_at hl 1 rfl) ?_
                refine lv_if_eq (tgt := 122) hx hb dX3_readSum_108 (by decide) (fun c1272 => ?_) (fun c1272 => ?_)
                rotate_left
                · exact absurd c1272 (by decide)
                obtain ⟨v1273, ev1273⟩ : ∃ y : Int32, y = v327 + 1 := ⟨_, rfl⟩
                have hv1273 := i_add (Eq.refl v327.toInt) (show (1 : Int32).toInt = 1 by decide) ev1273 (by omega) (by omega)
                refine lv_iinc (v := v1273) (lv' := [(2, .int v1273), (1, .int x867), (4, .int 0), (3, .int x867), (0, .ref p0)]) hx hb dX3_readSum_122 hl (k := 3) rfl (by rw [ev1273]; rfl) (by decide) rfl (fun ls hl => ?_)
                refine lv_goto (tgt := 8) hx hb dX3_readSum_125 (by decide) ?_
                have zi0 : (0 : Int32).toInt = 0 := by decide
                exact ih806 (v1273, x867, u1265) H locs ls (by show (400 - v1273.toInt).toNat < (400 - v327.toInt).toNat; omega) ⟨hP, hD, hS, lv_sub hl [0, 1, 4] rfl, hT, ke1270, ke1271, by omega⟩
            · skip
              have c1146 := i_ne (Eq.refl x867.toInt) (show (45 : Int32).toInt = 45 by decide) c1146
              refine lv_goto (tgt := 128) hx hb dX3_readSum_63 (by decide) ?_
              refine lv_iload_n hx hb dX3_readSum_128 rfl (lv_at hl 3 rfl) ?_
              refine lv_iconst (v := (-1)) hx hb dX3_readSum_129 (by decide) ?_
              have j1274 := rgI v328
              refine lv_icmp_eq (tgt := 144) hx hb dX3_readSum_130 (by decide) (fun c1275 => ?_) (fun c1275 => ?_)
              · skip
                have c1275 := i_eq (Eq.refl v328.toInt) (show ((-1) : Int32).toInt = -1 by decide) c1275
                refine W.widen (k := 0) (n := 0) (Nat.le_of_ble_eq_true rfl) (Nat.le_of_ble_eq_true rfl) ?_
                have zi0 : (0 : Int32).toInt = 0 := by decide
                exact W.vret hx hb hr (fun t ht hW => ⟨⟨w329, rfl, ⟨hT, ke804, ke805⟩, CB.mk ht hP hD⟩, hS.F ht⟩) hS.2.2 dX3_readSum_144
              · skip
                have c1275 := i_ne (Eq.refl v328.toInt) (show ((-1) : Int32).toInt = -1 by decide) c1275
                refine lv_aload_n hx hb dX3_readSum_133 rfl (lv_at hl 4 rfl) ?_
                refine va_get (D := D) (ci := 3) (v := .ref a874) (C := RX3) (T := TX3) (N := 12) hx hb hg inGX3 hown hKN.1 hP p883 hk884 rfl 10 (by decide) (hg _ kw_188) (fun _ h9 => h9) rfl dX3_readSum_134 ?_
                refine lv_ldc (v := 200000) hx hb hown (hg _ kw_717) dX3_readSum_137 ?_
                refine lv_iload_n hx hb dX3_readSum_139 rfl (lv_at hl 3 rfl) ?_
                refine lv_iadd hx hb dX3_readSum_140 ?_
                refine lv_topi (fun v1276 ev1276 => ?_)
                refine ok5 hT h880 (fun p1298 x1277 x1278 x1279 x1280 x1281 x1282 x1283 x1284 a1285 a1286 a1287 a1288 a1289 x1290 hk1299 h1291 h1292 h1293 h1294 h1295 h1296 h1297 => ?_)
                refine cga (rn_NV (As := [.int v1276]) (rest := []) (b := a874) (x_X8_addCode l D Y Z H.size w329 T g q a874 v1276 hT h880) ⟨hx, hb, hml, hown, hg⟩ hKN lk_X3_154 ⟨CPC.blind, va_recv hKN.1 hP (ci := 8) (q0 := p1298) rfl hk1299, CPC.at hP hKN hD hSZ hS hA⟩ ⟨⟨rfl, rfl⟩, ⟨Nat.le_of_ble_eq_true rfl, Nat.le_of_ble_eq_true rfl⟩, ⟨(Nat.le_of_ble_eq_true rfl), (Nat.le_of_ble_eq_true rfl)⟩⟩ hl.1 rfl (Nat.le_of_ble_eq_true rfl) dX3_readSum_141) hP hD hS hA (fun u1300 H locs hw1301 hP hD hS => ?_)
                obtain ⟨hT, ke1303, ke1304⟩ : TW Y Z T g q u1300 ∧ KF 1 T w329 u1300 ∧ KF 6 T w329 u1300 := hw1301
                have ke1305 : KF 1 T ws u1300 := KF.tr ke804 ke1303
                have ke1306 : KF 6 T ws u1300 := KF.tr ke805 ke1304
                refine W.eq (g2 := F0 m 144 ls []) rfl ?_
                refine W.widen (k := 0) (n := 0) (Nat.le_of_ble_eq_true rfl) (Nat.le_of_ble_eq_true rfl) ?_
                have zi0 : (0 : Int32).toInt = 0 := by decide
                exact W.vret hx hb hr (fun t ht hW => ⟨⟨u1300, rfl, ⟨hT, ke1305, ke1306⟩, CB.mk ht hP hD⟩, hS.F ht⟩) hS.2.2 dX3_readSum_144
        · skip
          have c1016 := i_eq (Eq.refl x867.toInt) (show (47 : Int32).toInt = 47 by decide) c1016
          refine lv_iconst (v := 1) hx hb dX3_readSum_39 (by decide) ?_
          refine lv_goto (tgt := 44) hx hb dX3_readSum_40 (by decide) ?_
          refine lv_istore (lv' := [(4, .int 1), (3, .int x867), (2, .int v327), (1, .int v328), (0, .ref p0)]) hx hb dX3_readSum_44 hl (by decide) rfl (fun ls hl => ?_)
          refine lv_iload hx hb dX3_readSum_46 (lv_at hl 0 rfl) ?_
          refine lv_if_ne (tgt := 66) hx hb dX3_readSum_48 (by decide) (fun c1307 => ?_) (fun c1307 => ?_)
          rotate_left
          · exact absurd c1307 (by decide)
          refine lv_aload_n hx hb dX3_readSum_66 rfl (lv_at hl 4 rfl) ?_
          refine cga (rn_V (As := []) (rest := []) (b := p0) (x_X3_step l D Y Z H.size w329 T g q p0 hT ht0) ⟨hx, hb, hml, hown, hg⟩ lk_X3_61 ⟨CPC.blind, va_recv hKN.1 hP (ci := 3) (q0 := p883) rfl hk884, CPC.at hP hKN hD hSZ hS hA⟩ ⟨⟨rfl, rfl⟩, ⟨Nat.le_of_ble_eq_true rfl, Nat.le_of_ble_eq_true rfl⟩, ⟨(Nat.le_of_ble_eq_true rfl), (Nat.le_of_ble_eq_true rfl)⟩⟩ hl.1 rfl (Nat.le_of_ble_eq_true rfl) dX3_readSum_67) hP hD hS hA (fun u1308 H locs hw1309 hP hD hS => ?_)
          obtain ⟨hT, ke1311, ke1312⟩ : TW Y Z T g q u1308 ∧ KF 1 T w329 u1308 ∧ KF 6 T w329 u1308 := hw1309
          have ke1313 : KF 1 T ws u1308 := KF.tr ke804 ke1311
          have ke1314 : KF 6 T ws u1308 := KF.tr ke805 ke1312
          refine W.eq (g2 := F0 m 70 ls []) rfl ?_
          refine lv_iload hx hb dX3_readSum_70 (lv_at hl 0 rfl) ?_
          refine lv_if_ne (tgt := 91) hx hb dX3_readSum_72 (by decide) (fun c1315 => ?_) (fun c1315 => ?_)
          rotate_left
          · exact absurd c1315 (by decide)
          refine lv_iload hx hb dX3_readSum_91 (lv_at hl 0 rfl) ?_
          refine lv_if_eq (tgt := 100) hx hb dX3_readSum_93 (by decide) (fun c1316 => ?_) (fun c1316 => ?_)
          · exact absurd c1316 (by decide)
          refine lv_iload_n hx hb dX3_readSum_96 rfl (lv_at hl 3 rfl) ?_
          refine lv_goto (tgt := 101) hx hb dX3_readSum_97 (by decide) ?_
          refine lv_istore_n (lv' := [(1, .int v328), (4, .int 1), (3, .int x867), (2, .int v327), (0, .ref p0)]) hx hb dX3_readSum_101 rfl hl (by decide) rfl (fun ls hl => ?_)
          refine lv_aload_n hx hb dX3_readSum_102 rfl (lv_at hl 4 rfl) ?_
          refine ok7 hT ht0 (fun p1337 n1317 a1318 x1319 x1320 x1321 x1322 x1323 x1324 x1325 x1326 a1327 a1328 x1329 hk1338 h1330 h1331 h1332 h1333 h1334 h1335 h1336 => ?_)
          refine cga (rn_V (As := []) (rest := []) (b := p0) (x_X3_readValue l D Y Z H.size u1308 T g q p0 hT ht0) ⟨hx, hb, hml, hown, hg⟩ lk_X3_165 ⟨CPC.blind, va_recv hKN.1 hP (ci := 3) (q0 := p1337) rfl hk1338, CPC.at hP hKN hD hSZ hS hA⟩ ⟨⟨rfl, rfl⟩, ⟨Nat.le_of_ble_eq_true rfl, Nat.le_of_ble_eq_true rfl⟩, ⟨(Nat.le_of_ble_eq_true rfl), (Nat.le_of_ble_eq_true rfl)⟩⟩ hl.1 rfl (Nat.le_of_ble_eq_true rfl) dX3_readSum_103) hP hD hS hA (fun u1339 H locs hw1340 hP hD hS => ?_)
          obtain ⟨hT, ke1342, ke1343⟩ : TW Y Z T g q u1339 ∧ KF 1 T u1308 u1339 ∧ KF 6 T u1308 u1339 := hw1340
          have ke1344 : KF 1 T ws u1339 := KF.tr ke1313 ke1342
          have ke1345 : KF 6 T ws u1339 := KF.tr ke1314 ke1343
          refine W.eq (g2 := F0 m 106 ls []) rfl ?_
          refine lv_iload hx hb dX3_readSum_106 (lv_at hl 1 rfl) ?_
          refine lv_if_eq (tgt := 122) hx hb dX3_readSum_108 (by decide) (fun c1346 => ?_) (fun c1346 => ?_)
          · exact absurd c1346 (by decide)
          refine lv_aload_n hx hb dX3_readSum_111 rfl (lv_at hl 4 rfl) ?_
          refine ok7 hT ht0 (fun p1367 n1347 a1348 x1349 x1350 x1351 x1352 x1353 x1354 x1355 x1356 a1357 a1358 x1359 hk1368 h1360 h1361 h1362 h1363 h1364 h1365 h1366 => ?_)
          refine va_get (D := D) (ci := 3) (v := .ref a1358) (C := RX3) (T := TX3) (N := 12) hx hb hg inGX3 hown hKN.1 hP p1367 hk1368 rfl 10 (by decide) (hg _ kw_188) (fun _ h9 => h9) rfl dX3_readSum_112 ?_
          refine lv_ldc (v := 200000) hx hb hown (hg _ kw_717) dX3_readSum_115 ?_
          refine lv_iload_n hx hb dX3_readSum_117 rfl (lv_at hl 2 rfl) ?_
          refine lv_iadd hx hb dX3_readSum_118 ?_
          refine lv_topi (fun v1369 ev1369 => ?_)
          have hv1369 := i_add (show (200000 : Int32).toInt = 200000 by decide) (Eq.refl x867.toInt) ev1369 (by omega) (by omega)
          refine ok5 hT h1364 (fun p1391 x1370 x1371 x1372 x1373 x1374 x1375 x1376 x1377 a1378 a1379 a1380 a1381 a1382 x1383 hk1392 h1384 h1385 h1386 h1387 h1388 h1389 h1390 => ?_)
          refine cga (rn_NV (As := [.int v1369]) (rest := []) (b := a1358) (x_X8_addCode l D Y Z H.size u1339 T g q a1358 v1369 hT h1364) ⟨hx, hb, hml, hown, hg⟩ hKN lk_X3_154 ⟨CPC.blind, va_recv hKN.1 hP (ci := 8) (q0 := p1391) rfl hk1392, CPC.at hP hKN hD hSZ hS hA⟩ ⟨⟨rfl, rfl⟩, ⟨Nat.le_of_ble_eq_true rfl, Nat.le_of_ble_eq_true rfl⟩, ⟨(Nat.le_of_ble_eq_true rfl), (Nat.le_of_ble_eq_true rfl)⟩⟩ hl.1 rfl (Nat.le_of_ble_eq_true rfl) dX3_readSum_119) hP hD hS hA (fun u1393 H locs hw1394 hP hD hS => ?_)
          obtain ⟨hT, ke1396, ke1397⟩ : TW Y Z T g q u1393 ∧ KF 1 T u1339 u1393 ∧ KF 6 T u1339 u1393 := hw1394
          have ke1398 : KF 1 T ws u1393 := KF.tr ke1344 ke1396
          have ke1399 : KF 6 T ws u1393 := KF.tr ke1345 ke1397
          refine W.eq (g2 := F0 m 122 ls []) rfl ?_
          obtain ⟨v1400, ev1400⟩ : ∃ y : Int32, y = v327 + 1 := ⟨_, rfl⟩
          have hv1400 := i_add (Eq.refl v327.toInt) (show (1 : Int32).toInt = 1 by decide) ev1400 (by omega) (by omega)
          refine lv_iinc (v := v1400) (lv' := [(2, .int v1400), (1, .int v328), (4, .int 1), (3, .int x867), (0, .ref p0)]) hx hb dX3_readSum_122 hl (k := 3) rfl (by rw [ev1400]; rfl) (by decide) rfl (fun ls hl => ?_)
          refine lv_goto (tgt := 8) hx hb dX3_readSum_125 (by decide) ?_
          have zi1 : (1 : Int32).toInt = 1 := by decide
          exact ih806 (v1400, v328, u1393) H locs ls (by show (400 - v1400.toInt).toNat < (400 - v327.toInt).toNat; omega) ⟨hP, hD, hS, lv_sub hl [0, 1, 4] rfl, hT, ke1398, ke1399, by omega⟩
