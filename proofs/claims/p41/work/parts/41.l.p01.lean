set_option maxHeartbeats 4000000 in
set_option maxRecDepth 100000 in
theorem x_worldE (l : Launch) (D : va_G) (Y : Nat → ClassId) (Z : Nat → Nat) (sz : Nat) (ws : va_W) (T : RT) (g : GN) (q : GQ)  (p0 : Nat) (p1 : Int32) (p2 : Int32) (p3 : Int32) (p4 : Int32) (p5 : Int32) (p6 : Int32) (hT : TW Y Z T g q ws) (ht0 : T p0 = (1, 0, 0)) (hp0 : (0 ≤ p6.toInt ∧ p6.toInt ≤ 1)) : Met l yX10_world (.code yX10_world cX10_world 9 (some .int) :: GW) ({ frames := 2, cells := 1, slots := 6, locals := 46 }) (va_Pc [.ref p0, .int p1, .int p2, .int p3, .int p4, .int p5, .int p6] (CPC D Y Z ws sz)) (QG (S := Int32 × va_W × RT × GN) (fun u => some (.int u.1)) (fun u => TLe T u.2.2.1 ∧ TW Y Z u.2.2.1 u.2.2.2 q u.2.1 ∧ KF 1 T ws u.2.1 ∧ KF 6 T ws u.2.1 ∧ (∀ s0, q p0 0 = some s0 → GO T g u.2.2.2 s0 2)) (fun u => CB D u.2.1 (va_A ws sz)) (va_A ws sz)) 1 6 (va_A ws sz) := by
  refine Met.ofW (cc := cX10_world) (maxL := 9) (ret := (some .int)) (by decide) rfl ?_
  intro p e s m args below meth c s₁ B hml hv
  obtain ⟨rfl, ⟨hsz, hP, hKN, hD0⟩, hSZ⟩ := hv
  have hx := B.exec
  have hb := B.bytes
  have hr := B.returns
  have hts := atoms_spec (ws := .code yX10_world cX10_world 9 (some .int) :: GW) B.pre
  have hg : ∀ w ∈ GW, w.before _ s = true := fun w h => hts w (List.mem_cons_of_mem _ h)
  have hown : s.vm.findClass RX10 = some m.cls := findClass_of_methodNamed B.named
  have hlocks := B.notSynchronized
  subst hsz
  have hD := hD0.self (sz := s.heap.size)
  generalize hAe : va_A ws s.heap.size = A at hD hSZ ⊢
  have hA : ∀ q : Nat, s.heap.size ≤ q → A q := fun q h => by rw [← hAe]; exact Or.inr h
  clear hAe hD0 hts B
  have hl := lv_entry ([.ref p0, .int p1, .int p2, .int p3, .int p4, .int p5, .int p6]) (n := 9) (Nat.le_of_ble_eq_true rfl)
  rw [lg_entry_eq]
  generalize (lg_sl ([.ref p0, .int p1, .int p2, .int p3, .int p4, .int p5, .int p6]) ++ List.replicate (9 - (lg_sl ([.ref p0, .int p1, .int p2, .int p3, .int p4, .int p5, .int p6])).length) Slot.unset).toArray = ls at hl ⊢
  have hl : lv_has ls 9 [(0, .ref p0), (1, .int p1), (2, .int p2), (3, .int p3), (4, .int p4), (5, .int p5), (6, .int p6)] := hl
  refine w_start (A0 := A) hP (fun H locs hP hS => ?_)
  refine ok1 hT ht0 (fun p42 a1 a2 a3 a4 a5 x6 x7 x8 a9 a10 a11 a12 a13 a14 a15 a16 a17 x18 a19 a20 hk43 h21 h22 h23 h24 h25 h26 h27 h28 h29 h30 h31 h32 h33 h34 h35 h36 h37 h38 h39 h40 h41 => ?_)
  refine lv_iload_n hx hb dX10_world_0 rfl (lv_at hl 2 rfl) ?_
  refine lv_iconst (v := 2) hx hb dX10_world_1 (by decide) ?_
  refine lv_sipush (v := 599) hx hb dX10_world_2 (by decide) ?_
  have zi2 : (2 : Int32).toInt = 2 := by decide
  have zi599 : (599 : Int32).toInt = 599 := by decide
  refine cg0 (rn_S (As := [.int p2, .int 2, .int 599]) (rest := []) (x_X10_isWithin l D Y Z H.size p2 2 599) ⟨hx, hb, hml, hown, hg⟩ lk_X10_100 ⟨CP.blind, CP.at nilP hKN (nilD (A := fun _ => True))⟩ ⟨⟨rfl, rfl⟩, ⟨Nat.le_of_ble_eq_true rfl, Nat.le_of_ble_eq_true rfl⟩, ⟨(Nat.le_of_ble_eq_true rfl), (Nat.le_of_ble_eq_true rfl)⟩⟩ hl.1 rfl (Nat.le_of_ble_eq_true rfl) dX10_world_5) hP hS hA (fun u44 H locs hw45 hP hS => ?_)
  obtain ⟨hw47, hw48⟩ : (((2 : Int32).toInt ≤ p2.toInt ∧ p2.toInt ≤ (599 : Int32).toInt ∧ u44.toInt = 1) ∨ (¬ ((2 : Int32).toInt ≤ p2.toInt ∧ p2.toInt ≤ (599 : Int32).toInt) ∧ u44.toInt = 0)) ∧ (0 ≤ u44.toInt ∧ u44.toInt ≤ 1) := hw45
  refine W.eq (g2 := F0 m 8 ls [.int u44]) rfl ?_
  rcases (show u44.toInt = 1 ∨ u44.toInt = 0 by omega) with c49 | c49
  · obtain rfl : u44 = 1 := i_is c49 (by decide)
    have zi1 : (1 : Int32).toInt = 1 := by decide
    refine W.eq (g2 := F0 m 8 ls [.int 1]) rfl ?_
    refine lv_if_eq (tgt := 22) hx hb dX10_world_8 (by decide) (fun c50 => ?_) (fun c50 => ?_)
    · exact absurd c50 (by decide)
    refine lv_iload_n hx hb dX10_world_11 rfl (lv_at hl 3 rfl) ?_
    refine cg0 (rn_S (As := [.int p3]) (rest := []) (x_X10_isHour l D Y Z H.size p3) ⟨hx, hb, hml, hown, hg⟩ lk_X10_113 ⟨CP.blind, CP.at nilP hKN (nilD (A := fun _ => True))⟩ ⟨⟨rfl, rfl⟩, ⟨Nat.le_of_ble_eq_true rfl, Nat.le_of_ble_eq_true rfl⟩, ⟨(Nat.le_of_ble_eq_true rfl), (Nat.le_of_ble_eq_true rfl)⟩⟩ hl.1 rfl (Nat.le_of_ble_eq_true rfl) dX10_world_12) hP hS hA (fun u51 H locs hw52 hP hS => ?_)
    obtain ⟨hw54, hw55⟩ : ((0 ≤ p3.toInt ∧ p3.toInt ≤ 599 ∧ u51.toInt = 1) ∨ (¬ (0 ≤ p3.toInt ∧ p3.toInt ≤ 599) ∧ u51.toInt = 0)) ∧ (0 ≤ u51.toInt ∧ u51.toInt ≤ 1) := hw52
    refine W.eq (g2 := F0 m 15 ls [.int u51]) rfl ?_
    rcases (show u51.toInt = 1 ∨ u51.toInt = 0 by omega) with c56 | c56
    · obtain rfl : u51 = 1 := i_is c56 (by decide)
      refine W.eq (g2 := F0 m 15 ls [.int 1]) rfl ?_
      refine lv_if_eq (tgt := 22) hx hb dX10_world_15 (by decide) (fun c57 => ?_) (fun c57 => ?_)
      · exact absurd c57 (by decide)
      refine lv_iconst (v := 1) hx hb dX10_world_18 (by decide) ?_
      refine lv_goto (tgt := 23) hx hb dX10_world_19 (by decide) ?_
      refine lv_istore (lv' := [(7, .int 1), (0, .ref p0), (1, .int p1), (2, .int p2), (3, .int p3), (4, .int p4), (5, .int p5), (6, .int p6)]) hx hb dX10_world_23 hl (by decide) rfl (fun ls hl => ?_)
      refine lv_iload hx hb dX10_world_25 (lv_at hl 5 rfl) ?_
      refine lv_iconst (v := 1) hx hb dX10_world_27 (by decide) ?_
      refine lv_bipush (v := 30) hx hb dX10_world_28 (by decide) ?_
      have zi30 : (30 : Int32).toInt = 30 := by decide
      refine cg0 (rn_S (As := [.int p4, .int 1, .int 30]) (rest := []) (x_X10_isWithin l D Y Z H.size p4 1 30) ⟨hx, hb, hml, hown, hg⟩ lk_X10_100 ⟨CP.blind, CP.at nilP hKN (nilD (A := fun _ => True))⟩ ⟨⟨rfl, rfl⟩, ⟨Nat.le_of_ble_eq_true rfl, Nat.le_of_ble_eq_true rfl⟩, ⟨(Nat.le_of_ble_eq_true rfl), (Nat.le_of_ble_eq_true rfl)⟩⟩ hl.1 rfl (Nat.le_of_ble_eq_true rfl) dX10_world_30) hP hS hA (fun u58 H locs hw59 hP hS => ?_)
      obtain ⟨hw61, hw62⟩ : (((1 : Int32).toInt ≤ p4.toInt ∧ p4.toInt ≤ (30 : Int32).toInt ∧ u58.toInt = 1) ∨ (¬ ((1 : Int32).toInt ≤ p4.toInt ∧ p4.toInt ≤ (30 : Int32).toInt) ∧ u58.toInt = 0)) ∧ (0 ≤ u58.toInt ∧ u58.toInt ≤ 1) := hw59
      refine W.eq (g2 := F0 m 33 ls [.int u58]) rfl ?_
      rcases (show u58.toInt = 1 ∨ u58.toInt = 0 by omega) with c63 | c63
      · obtain rfl : u58 = 1 := i_is c63 (by decide)
        refine W.eq (g2 := F0 m 33 ls [.int 1]) rfl ?_
        refine lv_if_eq (tgt := 58) hx hb dX10_world_33 (by decide) (fun c64 => ?_) (fun c64 => ?_)
        · exact absurd c64 (by decide)
        refine lv_iload hx hb dX10_world_36 (lv_at hl 5 rfl) ?_
        refine lv_iload_n hx hb dX10_world_38 rfl (lv_at hl 3 rfl) ?_
        refine lv_icmp_ge (tgt := 58) hx hb dX10_world_39 (by decide) (fun c65 => ?_) (fun c65 => ?_)
        · skip
          have c65 := i_le (Eq.refl p2.toInt) (Eq.refl p4.toInt) c65
          refine lv_iconst (v := 0) hx hb dX10_world_58 (by decide) ?_
          refine lv_istore (lv' := [(8, .int 0), (7, .int 1), (0, .ref p0), (1, .int p1), (2, .int p2), (3, .int p3), (4, .int p4), (5, .int p5), (6, .int p6)]) hx hb dX10_world_59 hl (by decide) rfl (fun ls hl => ?_)
          refine lv_aload_n hx hb dX10_world_61 rfl (lv_at hl 2 rfl) ?_
          refine lv_iload_n hx hb dX10_world_62 rfl (lv_at hl 3 rfl) ?_
          refine cga (rn_V (As := [.int p1]) (rest := []) (b := p0) (x_X10_isStar l D Y Z H.size ws T g q p0 p1 hT ht0) ⟨hx, hb, hml, hown, hg⟩ lk_X10_137 ⟨CPC.blind, va_recv hKN.1 hP (ci := 10) (q0 := p42) rfl hk43, CPC.at hP hKN hD hSZ hS hA⟩ ⟨⟨rfl, rfl⟩, ⟨Nat.le_of_ble_eq_true rfl, Nat.le_of_ble_eq_true rfl⟩, ⟨(Nat.le_of_ble_eq_true rfl), (Nat.le_of_ble_eq_true rfl)⟩⟩ hl.1 rfl (Nat.le_of_ble_eq_true rfl) dX10_world_63) hP hD hS hA (fun u66 H locs hw67 hP hD hS => ?_)
          obtain ⟨hw69, hw70⟩ : (0 ≤ u66.toInt ∧ u66.toInt ≤ 1) ∧ (u66.toInt = 1 → (0 ≤ p1.toInt ∧ p1.toInt ≤ 11)) := hw67
          refine W.eq (g2 := F0 m 66 ls [.int u66]) rfl ?_
          rcases (show u66.toInt = 1 ∨ u66.toInt = 0 by omega) with c71 | c71
          · obtain rfl : u66 = 1 := i_is c71 (by decide)
            replace hw70 := hw70 (by decide)
            refine W.eq (g2 := F0 m 66 ls [.int 1]) rfl ?_
            refine lv_if_eq (tgt := 91) hx hb dX10_world_66 (by decide) (fun c72 => ?_) (fun c72 => ?_)
            · exact absurd c72 (by decide)
            refine lv_iload hx hb dX10_world_69 (lv_at hl 1 rfl) ?_
            refine lv_if_eq (tgt := 91) hx hb dX10_world_71 (by decide) (fun c73 => ?_) (fun c73 => ?_)
            · exact absurd c73 (by decide)
            refine lv_iload hx hb dX10_world_74 (lv_at hl 0 rfl) ?_
            refine lv_if_eq (tgt := 91) hx hb dX10_world_76 (by decide) (fun c74 => ?_) (fun c74 => ?_)
            rotate_left
            · exact absurd c74 (by decide)
            refine lv_iconst (v := (-1)) hx hb dX10_world_91 (by decide) ?_
            refine W.widen (k := 1) (n := 6) (Nat.le_of_ble_eq_true rfl) (Nat.le_of_ble_eq_true rfl) ?_
            have zim1 : ((-1) : Int32).toInt = -1 := by decide
            have zi0 : (0 : Int32).toInt = 0 := by decide
            exact W.iret (v := (-1)) hx hb hr (fun t ht hW => ⟨⟨(((-1)), ws, T, g), rfl, ⟨TLe.rf, hT, KF.rf, KF.rf, (show ∀ s0, q p0 0 = some s0 → GO T g g s0 2 from (fun s0 _ => ⟨_, GS.rf⟩))⟩, CB.mk ht hP hD⟩, hS.F ht⟩) hS.2.2 dX10_world_92
          · obtain rfl : u66 = 0 := i_is c71 (by decide)
            have zi0 : (0 : Int32).toInt = 0 := by decide
            clear hw70
            refine W.eq (g2 := F0 m 66 ls [.int 0]) rfl ?_
            refine lv_if_eq (tgt := 91) hx hb dX10_world_66 (by decide) (fun c75 => ?_) (fun c75 => ?_)
            rotate_left
            · exact absurd c75 (by decide)
            refine lv_iconst (v := (-1)) hx hb dX10_world_91 (by decide) ?_
            refine W.widen (k := 1) (n := 6) (Nat.le_of_ble_eq_true rfl) (Nat.le_of_ble_eq_true rfl) ?_
            have zim1 : ((-1) : Int32).toInt = -1 := by decide
            exact W.iret (v := (-1)) hx hb hr (fun t ht hW => ⟨⟨(((-1)), ws, T, g), rfl, ⟨TLe.rf, hT, KF.rf, KF.rf, (show ∀ s0, q p0 0 = some s0 → GO T g g s0 2 from (fun s0 _ => ⟨_, GS.rf⟩))⟩, CB.mk ht hP hD⟩, hS.F ht⟩) hS.2.2 dX10_world_92
        · skip
          have c65 := i_nle (Eq.refl p2.toInt) (Eq.refl p4.toInt) c65
          refine lv_iload hx hb dX10_world_42 (lv_at hl 6 rfl) ?_
          refine lv_iconst (v := 1) hx hb dX10_world_44 (by decide) ?_
          refine lv_sipush (v := 30000) hx hb dX10_world_45 (by decide) ?_
          have zi30000 : (30000 : Int32).toInt = 30000 := by decide
          refine cg0 (rn_S (As := [.int p5, .int 1, .int 30000]) (rest := []) (x_X10_isWithin l D Y Z H.size p5 1 30000) ⟨hx, hb, hml, hown, hg⟩ lk_X10_100 ⟨CP.blind, CP.at nilP hKN (nilD (A := fun _ => True))⟩ ⟨⟨rfl, rfl⟩, ⟨Nat.le_of_ble_eq_true rfl, Nat.le_of_ble_eq_true rfl⟩, ⟨(Nat.le_of_ble_eq_true rfl), (Nat.le_of_ble_eq_true rfl)⟩⟩ hl.1 rfl (Nat.le_of_ble_eq_true rfl) dX10_world_48) hP hS hA (fun u76 H locs hw77 hP hS => ?_)
          obtain ⟨hw79, hw80⟩ : (((1 : Int32).toInt ≤ p5.toInt ∧ p5.toInt ≤ (30000 : Int32).toInt ∧ u76.toInt = 1) ∨ (¬ ((1 : Int32).toInt ≤ p5.toInt ∧ p5.toInt ≤ (30000 : Int32).toInt) ∧ u76.toInt = 0)) ∧ (0 ≤ u76.toInt ∧ u76.toInt ≤ 1) := hw77
          refine W.eq (g2 := F0 m 51 ls [.int u76]) rfl ?_
          rcases (show u76.toInt = 1 ∨ u76.toInt = 0 by omega) with c81 | c81
          · obtain rfl : u76 = 1 := i_is c81 (by decide)
            refine W.eq (g2 := F0 m 51 ls [.int 1]) rfl ?_
            refine lv_if_eq (tgt := 58) hx hb dX10_world_51 (by decide) (fun c82 => ?_) (fun c82 => ?_)
            · exact absurd c82 (by decide)
            refine lv_iconst (v := 1) hx hb dX10_world_54 (by decide) ?_
            refine lv_goto (tgt := 59) hx hb dX10_world_55 (by decide) ?_
            refine lv_istore (lv' := [(8, .int 1), (7, .int 1), (0, .ref p0), (1, .int p1), (2, .int p2), (3, .int p3), (4, .int p4), (5, .int p5), (6, .int p6)]) hx hb dX10_world_59 hl (by decide) rfl (fun ls hl => ?_)
            refine lv_aload_n hx hb dX10_world_61 rfl (lv_at hl 2 rfl) ?_
            refine lv_iload_n hx hb dX10_world_62 rfl (lv_at hl 3 rfl) ?_
            refine cga (rn_V (As := [.int p1]) (rest := []) (b := p0) (x_X10_isStar l D Y Z H.size ws T g q p0 p1 hT ht0) ⟨hx, hb, hml, hown, hg⟩ lk_X10_137 ⟨CPC.blind, va_recv hKN.1 hP (ci := 10) (q0 := p42) rfl hk43, CPC.at hP hKN hD hSZ hS hA⟩ ⟨⟨rfl, rfl⟩, ⟨Nat.le_of_ble_eq_true rfl, Nat.le_of_ble_eq_true rfl⟩, ⟨(Nat.le_of_ble_eq_true rfl), (Nat.le_of_ble_eq_true rfl)⟩⟩ hl.1 rfl (Nat.le_of_ble_eq_true rfl) dX10_world_63) hP hD hS hA (fun u83 H locs hw84 hP hD hS => ?_)
            obtain ⟨hw86, hw87⟩ : (0 ≤ u83.toInt ∧ u83.toInt ≤ 1) ∧ (u83.toInt = 1 → (0 ≤ p1.toInt ∧ p1.toInt ≤ 11)) := hw84
            refine W.eq (g2 := F0 m 66 ls [.int u83]) rfl ?_
            rcases (show u83.toInt = 1 ∨ u83.toInt = 0 by omega) with c88 | c88
            · obtain rfl : u83 = 1 := i_is c88 (by decide)
              replace hw87 := hw87 (by decide)
              refine W.eq (g2 := F0 m 66 ls [.int 1]) rfl ?_
              refine lv_if_eq (tgt := 91) hx hb dX10_world_66 (by decide) (fun c89 => ?_) (fun c89 => ?_)
              · exact absurd c89 (by decide)
              refine lv_iload hx hb dX10_world_69 (lv_at hl 1 rfl) ?_
              refine lv_if_eq (tgt := 91) hx hb dX10_world_71 (by decide) (fun c90 => ?_) (fun c90 => ?_)
              · exact absurd c90 (by decide)
              refine lv_iload hx hb dX10_world_74 (lv_at hl 0 rfl) ?_
              refine lv_if_eq (tgt := 91) hx hb dX10_world_76 (by decide) (fun c91 => ?_) (fun c91 => ?_)
              · exact absurd c91 (by decide)
              refine lv_aload_n hx hb dX10_world_79 rfl (lv_at hl 2 rfl) ?_
              refine va_get (D := D) (ci := 10) (v := .ref a1) (C := RX10) (T := TX10) (N := 20) hx hb hg inGX10 hown hKN.1 hP p42 hk43 rfl 0 (by decide) (hg _ kw_349) (fun _ h9 => h9) rfl dX10_world_80 ?_
              refine ok2 hT h21 (fun p126 x92 a93 x94 a95 x96 a97 a98 x99 a100 a101 x102 a103 x104 hk127 h105 h106 h107 h108 h109 h110 h111 h112 h113 h114 h115 h116 h117 h118 h119 h120 h121 h122 h123 h124 h125 => ?_)
              refine va_getN (D := D) (ci := 6) (v := .int x94) (C := RX6) (T := TX6) (N := 13) hx hb hg inGX6 hown hKN.1 hP p126 hk127 rfl 2 (by decide) (va_Nw.use rfl (hKN.2.1 _ kn_44 rfl)) (fun _ h9 => h9) rfl dX10_world_83 ?_
              refine lv_bipush (v := 40) hx hb dX10_world_86 (by decide) ?_
              refine lv_icmp_lt (tgt := 93) hx hb dX10_world_88 (by decide) (fun c128 => ?_) (fun c128 => ?_)
              · skip
                have c128 := i_lt (Eq.refl x94.toInt) (show (40 : Int32).toInt = 40 by decide) c128
                refine lv_aload_n hx hb dX10_world_93 rfl (lv_at hl 2 rfl) ?_
                refine va_get (D := D) (ci := 10) (v := .ref a1) (C := RX10) (T := TX10) (N := 20) hx hb hg inGX10 hown hKN.1 hP p42 hk43 rfl 0 (by decide) (hg _ kw_349) (fun _ h9 => h9) rfl dX10_world_94 ?_
                refine va_getN (D := D) (ci := 6) (v := .ref a95) (C := RX6) (T := TX6) (N := 13) hx hb hg inGX6 hown hKN.1 hP p126 hk127 rfl 3 (by decide) (va_Nw.use rfl (hKN.2.1 _ kn_46 rfl)) (fun _ h9 => h9) rfl dX10_world_97 ?_
                refine lv_aload_n hx hb dX10_world_100 rfl (lv_at hl 2 rfl) ?_
                refine va_get (D := D) (ci := 10) (v := .ref a1) (C := RX10) (T := TX10) (N := 20) hx hb hg inGX10 hown hKN.1 hP p42 hk43 rfl 0 (by decide) (hg _ kw_349) (fun _ h9 => h9) rfl dX10_world_101 ?_
                refine va_getN (D := D) (ci := 6) (v := .int x94) (C := RX6) (T := TX6) (N := 13) hx hb hg inGX6 hown hKN.1 hP p126 hk127 rfl 2 (by decide) (va_Nw.use rfl (hKN.2.1 _ kn_44 rfl)) (fun _ h9 => h9) rfl dX10_world_104 ?_
                refine va_new (ci := 9) (fs := [.int 0, .int 0, .int 0, .int 0, .int 0, .int 0]) (C := RX9) (T := TX9) (N := 6) hx hb hg inGX9 tyX9 tyX9_ok hown (hg _ kw_562) (hg _ kw_563) (hg _ kw_15) hKN.1 hP hD hS hA rfl (fun j hj => by rcases (show j = 0 ∨ j = 1 ∨ j = 2 ∨ j = 3 ∨ j = 4 ∨ j = 5 by omega) with rfl | rfl | rfl | rfl | rfl | rfl <;> rfl) (Nat.le_of_ble_eq_true rfl) (Nat.le_of_ble_eq_true rfl) dX10_world_107 (fun b129 H hP hD hS => ?_)
                refine W.widen (k := 1) (n := 6) (Nat.le_of_ble_eq_true rfl) (Nat.le_of_ble_eq_true rfl) ?_
                refine lv_dup hx hb dX10_world_110 rfl ?_
                refine lv_iload_n hx hb dX10_world_111 rfl (lv_at hl 3 rfl) ?_
                refine lv_iload_n hx hb dX10_world_112 rfl (lv_at hl 4 rfl) ?_
                refine lv_iload_n hx hb dX10_world_113 rfl (lv_at hl 5 rfl) ?_
                refine lv_iload hx hb dX10_world_114 (lv_at hl 6 rfl) ?_
                refine lv_iload hx hb dX10_world_116 (lv_at hl 7 rfl) ?_
                refine lv_iload hx hb dX10_world_118 (lv_at hl 8 rfl) ?_
                have hP130 : va_P D vwCl [(b129, .inr (9, [.int 0, .int 0, .int 0, .int 0, .int 0, .int 0]))] H := va_P.last hP
                have hD131 : va_D A [(b129, .inr (9, [.int 0, .int 0, .int 0, .int 0, .int 0, .int 0]))] := va_D.last hD
                refine cgn (rn_NI (As := [.int p1, .int p2, .int p3, .int p4, .int p5, .int p6]) (rest := [.ref b129, .int x94, .ref a95]) (b := b129) (c_X9 l D Y Z H.size b129 p1 p2 p3 p4 p5 p6 (show (0 ≤ p6.toInt ∧ p6.toInt ≤ 1) by omega)) ⟨hx, hb, hml, hown, hg⟩ hKN lk_X10_159 ⟨CP.blind, CP.at hP130 hKN hD131⟩ ⟨⟨rfl, rfl⟩, ⟨Nat.le_of_ble_eq_true rfl, Nat.le_of_ble_eq_true rfl⟩, ⟨(Nat.le_of_ble_eq_true rfl), (Nat.le_of_ble_eq_true rfl)⟩⟩ hl.1 rfl (Nat.le_of_ble_eq_true rfl) dX10_world_120) hP hD hS hA (fun u132 H locs hw133 hP hD hS => ?_)
                refine W.eq (g2 := F0 m 123 ls [.ref b129, .int x94, .ref a95]) rfl ?_
                obtain ⟨w135, T134, hP, hD, hT, le136, ht137, ex138⟩ := nw_X9 ⟨by omega, by omega⟩ hT hP hD
                have ke139 : KF 1 T ws w135 := KF.tr KF.rf (KF.ex ex138.1)
                have ke140 : KF 6 T ws w135 := KF.tr KF.rf (KF.ex ex138.1)
                have hk141 := ex138.1 _ _ hk43
                have hk142 := ex138.1 _ _ hk127
                refine tr_st18 hx hb hKN hP hD hS hT (le136.up h111) ht137 (vp_in_iff.mpr ⟨by omega, by omega⟩) dX10_world_123 (fun w143 H locs hP hD hS hT kp144 => ?_)
                have ke145 : KF 1 T ws w143 := KF.tr ke139 (KF.le (by decide) le136 (KF.kp kp144 (le136.up h111) (by decide)))
                have ke146 : KF 6 T ws w143 := KF.tr ke140 (KF.le (by decide) le136 (KF.kp kp144 (le136.up h111) (by decide)))
                have hk147 := kp144 _ _ hk141 (rne (le136.up ht0) (le136.up h111) (by decide))
                have hk148 := kp144 _ _ hk142 (rne (le136.up h21) (le136.up h111) (by decide))
                refine lv_aload_n hx hb dX10_world_124 rfl (lv_at hl 2 rfl) ?_
                refine va_get (D := D) (ci := 10) (v := .ref a1) (C := RX10) (T := TX10) (N := 20) hx hb hg inGX10 hown hKN.1 hP p42 hk147 rfl 0 (by decide) (hg _ kw_349) (fun _ h9 => h9) rfl dX10_world_125 ?_
                refine lv_dup hx hb dX10_world_128 rfl ?_
                refine va_getN (D := D) (ci := 6) (v := .int x94) (C := RX6) (T := TX6) (N := 13) hx hb hg inGX6 hown hKN.1 hP p126 hk148 rfl 2 (by decide) (va_Nw.use rfl (hKN.2.1 _ kn_44 rfl)) (fun _ h9 => h9) rfl dX10_world_129 ?_
                refine lv_iconst (v := 1) hx hb dX10_world_132 (by decide) ?_
                refine lv_iadd hx hb dX10_world_133 ?_
                refine lv_topi (fun v149 ev149 => ?_)
                have hv149 := i_add (Eq.refl x94.toInt) (show (1 : Int32).toInt = 1 by decide) ev149 (by omega) (by omega)
                refine va_putN (D := D) (ci := 6) (v := .int v149) (ty := .int) (C := RX6) (T := TX6) (N := 13) hx hb hg inGX6 tyX6 tyX6_ok nmX6 hown hKN.1 hP hD hS p126 hk148 rfl 2 (by decide) (va_Nw.use rfl (hKN.2.1 _ kn_44 rfl)) (fun _ h9 => h9) rfl (by decide +kernel) rfl rfl (Nat.le_of_ble_eq_true rfl) dX10_world_134 (fun H locs hP hD2 hS => ?_)
                obtain ⟨w150, g153, eg153, hP, hD, hT, hk152, kp151⟩ : ∃ wz gz, gz = gset g a1 2 v149 ∧ va_P D vwCl wz H ∧ va_D A wz ∧ TW Y Z T134 gz q wz ∧ wz[p126]? = some (a1, .inr (6, (.int x92 :: .ref a93 :: .int v149 :: .ref a95 :: .int x96 :: .ref a97 :: .ref a98 :: .int x99 :: .ref a100 :: .ref a101 :: .int x102 :: .ref a103 :: .int x104 :: []))) ∧ Kp a1 w143 wz := ⟨_, _, rfl, hP, hD2, tw_sg (k := 2) (g2 := gset g a1 2 v149) (q2 := q) hT hD hk148 (le136.up h21) (fun _ hc => gset_ne hc) (fun _ _ => rfl) (show Sh2 Y Z T134 ((gset g a1 2 v149) a1) (q a1) 0 0 _ from ⟨x92, a93, v149, a95, x96, a97, a98, x99, a100, a101, x102, a103, x104, rfl, by omega, ((gs_ne (by decide)).trans h106), (le136.up h107), h108, by omega, gs_eq, (le136.up h111), by omega, ((gs_ne (by decide)).trans h113), (le136.up h114), h115, (le136.up h116), h117, by omega, ((gs_ne (by decide)).trans h119), (le136.up h120), (le136.up h121), by omega, ((gs_ne (by decide)).trans h123), (le136.up h124), by omega⟩), sw_eq hk148, sw_kp hk148⟩
                have hg154 : g153 a1 0 = x92 := by rw [eg153]; exact ((gs_ne (by decide)).trans h106)
                have hg155 : g153 a1 2 = v149 := by rw [eg153]; exact gs_eq
                have hg156 : g153 a1 4 = x96 := by rw [eg153]; exact ((gs_ne (by decide)).trans h113)
                have hg157 : g153 a1 7 = x99 := by rw [eg153]; exact ((gs_ne (by decide)).trans h119)
                have hg158 : g153 a1 10 = x102 := by rw [eg153]; exact ((gs_ne (by decide)).trans h123)
                have ke159 : KF 1 T ws w150 := KF.tr ke145 (KF.le (by decide) le136 (KF.kp kp151 (le136.up h21) (by decide)))
                have ke160 : KF 6 T ws w150 := KF.tr ke146 (KF.le (by decide) le136 (KF.kp kp151 (le136.up h21) (by decide)))
                have hk161 := kp151 _ _ hk147 (rne (le136.up ht0) (le136.up h21) (by decide))
                refine lv_aload_n hx hb dX10_world_137 rfl (lv_at hl 2 rfl) ?_
                refine va_get (D := D) (ci := 10) (v := .ref a1) (C := RX10) (T := TX10) (N := 20) hx hb hg inGX10 hown hKN.1 hP p42 hk161 rfl 0 (by decide) (hg _ kw_349) (fun _ h9 => h9) rfl dX10_world_138 ?_
                refine va_getN (D := D) (ci := 6) (v := .int v149) (C := RX6) (T := TX6) (N := 13) hx hb hg inGX6 hown hKN.1 hP p126 hk152 rfl 2 (by decide) (va_Nw.use rfl (hKN.2.1 _ kn_44 rfl)) (fun _ h9 => h9) rfl dX10_world_141 ?_
                refine lv_iconst (v := 1) hx hb dX10_world_144 (by decide) ?_
                refine lv_isub hx hb dX10_world_145 ?_
                refine lv_topi (fun v162 ev162 => ?_)
                have hv162 := i_sub (Eq.refl v149.toInt) (show (1 : Int32).toInt = 1 by decide) ev162 (by omega) (by omega)
                refine W.widen (k := 1) (n := 6) (Nat.le_of_ble_eq_true rfl) (Nat.le_of_ble_eq_true rfl) ?_
                exact W.iret (v := v162) hx hb hr (fun t ht hW => ⟨⟨(v162, w150, T134, g153), rfl, ⟨le136, hT, ke159, ke160, (show ∀ s0, q p0 0 = some s0 → GO T g g153 s0 2 from (fun s0 hs => by obtain rfl : s0 = a1 := Option.some.inj (hs.symm.trans h22); exact ⟨_, GS.of GA.rf eg153 h21⟩))⟩, CB.mk ht hP hD⟩, hS.F ht⟩) hS.2.2 dX10_world_146
              · skip
                have c128 := i_nlt (Eq.refl x94.toInt) (show (40 : Int32).toInt = 40 by decide) c128
                refine lv_iconst (v := (-1)) hx hb dX10_world_91 (by decide) ?_
                refine W.widen (k := 1) (n := 6) (Nat.le_of_ble_eq_true rfl) (Nat.le_of_ble_eq_true rfl) ?_
                have zim1 : ((-1) : Int32).toInt = -1 := by decide
                exact W.iret (v := (-1)) hx hb hr (fun t ht hW => ⟨⟨(((-1)), ws, T, g), rfl, ⟨TLe.rf, hT, KF.rf, KF.rf, (show ∀ s0, q p0 0 = some s0 → GO T g g s0 2 from (fun s0 _ => ⟨_, GS.rf⟩))⟩, CB.mk ht hP hD⟩, hS.F ht⟩) hS.2.2 dX10_world_92
            · obtain rfl : u83 = 0 := i_is c88 (by decide)
              have zi0 : (0 : Int32).toInt = 0 := by decide
              clear hw87
              refine W.eq (g2 := F0 m 66 ls [.int 0]) rfl ?_
              refine lv_if_eq (tgt := 91) hx hb dX10_world_66 (by decide) (fun c163 => ?_) (fun c163 => ?_)
              rotate_left
              · exact absurd c163 (by decide)
              refine lv_iconst (v := (-1)) hx hb dX10_world_91 (by decide) ?_
              refine W.widen (k := 1) (n := 6) (Nat.le_of_ble_eq_true rfl) (Nat.le_of_ble_eq_true rfl) ?_
              have zim1 : ((-1) : Int32).toInt = -1 := by decide
              exact W.iret (v := (-1)) hx hb hr (fun t ht hW => ⟨⟨(((-1)), ws, T, g), rfl, ⟨TLe.rf, hT, KF.rf, KF.rf, (show ∀ s0, q p0 0 = some s0 → GO T g g s0 2 from (fun s0 _ => ⟨_, GS.rf⟩))⟩, CB.mk ht hP hD⟩, hS.F ht⟩) hS.2.2 dX10_world_92
          · obtain rfl : u76 = 0 := i_is c81 (by decide)
            have zi0 : (0 : Int32).toInt = 0 := by decide
            refine W.eq (g2 := F0 m 51 ls [.int 0]) rfl ?_
            refine lv_if_eq (tgt := 58) hx hb dX10_world_51 (by decide) (fun c164 => ?_) (fun c164 => ?_)
            rotate_left
            · exact absurd c164 (by decide)
            refine lv_iconst (v := 0) hx hb dX10_world_58 (by decide) ?_
            refine lv_istore (lv' := [(8, .int 0), (7, .int 1), (0, .ref p0), (1, .int p1), (2, .int p2), (3, .int p3), (4, .int p4), (5, .int p5), (6, .int p6)]) hx hb dX10_world_59 hl (by decide) rfl (fun ls hl => ?_)
            refine lv_aload_n hx hb dX10_world_61 rfl (lv_at hl 2 rfl) ?_
            refine lv_iload_n hx hb dX10_world_62 rfl (lv_at hl 3 rfl) ?_
            refine cga (rn_V (As := [.int p1]) (rest := []) (b := p0) (x_X10_isStar l D Y Z H.size ws T g q p0 p1 hT ht0) ⟨hx, hb, hml, hown, hg⟩ lk_X10_137 ⟨CPC.blind, va_recv hKN.1 hP (ci := 10) (q0 := p42) rfl hk43, CPC.at hP hKN hD hSZ hS hA⟩ ⟨⟨rfl, rfl⟩, ⟨Nat.le_of_ble_eq_true rfl, Nat.le_of_ble_eq_true rfl⟩, ⟨(Nat.le_of_ble_eq_true rfl), (Nat.le_of_ble_eq_true rfl)⟩⟩ hl.1 rfl (Nat.le_of_ble_eq_true rfl) dX10_world_63) hP hD hS hA (fun u165 H locs hw166 hP hD hS => ?_)
            obtain ⟨hw168, hw169⟩ : (0 ≤ u165.toInt ∧ u165.toInt ≤ 1) ∧ (u165.toInt = 1 → (0 ≤ p1.toInt ∧ p1.toInt ≤ 11)) := hw166
            refine W.eq (g2 := F0 m 66 ls [.int u165]) rfl ?_
            rcases (show u165.toInt = 1 ∨ u165.toInt = 0 by omega) with c170 | c170
            · obtain rfl : u165 = 1 := i_is c170 (by decide)
              replace hw169 := hw169 (by decide)
              refine W.eq (g2 := F0 m 66 ls [.int 1]) rfl ?_
              refine lv_if_eq (tgt := 91) hx hb dX10_world_66 (by decide) (fun c171 => ?_) (fun c171 => ?_)
              · exact absurd c171 (by decide)
              refine lv_iload hx hb dX10_world_69 (lv_at hl 1 rfl) ?_
              refine lv_if_eq (tgt := 91) hx hb dX10_world_71 (by decide) (fun c172 => ?_) (fun c172 => ?_)
              · exact absurd c172 (by decide)
              refine lv_iload hx hb dX10_world_74 (lv_at hl 0 rfl) ?_
              refine lv_if_eq (tgt := 91) hx hb dX10_world_76 (by decide) (fun c173 => ?_) (fun c173 => ?_)
              rotate_left
              · exact absurd c173 (by decide)
              refine lv_iconst (v := (-1)) hx hb dX10_world_91 (by decide) ?_
              refine W.widen (k := 1) (n := 6) (Nat.le_of_ble_eq_true rfl) (Nat.le_of_ble_eq_true rfl) ?_
              have zim1 : ((-1) : Int32).toInt = -1 := by decide
              exact W.iret (v := (-1)) hx hb hr (fun t ht hW => ⟨⟨(((-1)), ws, T, g), rfl, ⟨TLe.rf, hT, KF.rf, KF.rf, (show ∀ s0, q p0 0 = some s0 → GO T g g s0 2 from (fun s0 _ => ⟨_, GS.rf⟩))⟩, CB.mk ht hP hD⟩, hS.F ht⟩) hS.2.2 dX10_world_92
            · obtain rfl : u165 = 0 := i_is c170 (by decide)
              clear hw169
              refine W.eq (g2 := F0 m 66 ls [.int 0]) rfl ?_
              refine lv_if_eq (tgt := 91) hx hb dX10_world_66 (by decide) (fun c174 => ?_) (fun c174 => ?_)
              rotate_left
              · exact absurd c174 (by decide)
              refine lv_iconst (v := (-1)) hx hb dX10_world_91 (by decide) ?_
              refine W.widen (k := 1) (n := 6) (Nat.le_of_ble_eq_true rfl) (Nat.le_of_ble_eq_true rfl) ?_
              have zim1 : ((-1) : Int32).toInt = -1 := by decide
              exact W.iret (v := (-1)) hx hb hr (fun t ht hW => ⟨⟨(((-1)), ws, T, g), rfl, ⟨TLe.rf, hT, KF.rf, KF.rf, (show ∀ s0, q p0 0 = some s0 → GO T g g s0 2 from (fun s0 _ => ⟨_, GS.rf⟩))⟩, CB.mk ht hP hD⟩, hS.F ht⟩) hS.2.2 dX10_world_92
      · obtain rfl : u58 = 0 := i_is c63 (by decide)
        have zi0 : (0 : Int32).toInt = 0 := by decide
        refine W.eq (g2 := F0 m 33 ls [.int 0]) rfl ?_
        refine lv_if_eq (tgt := 58) hx hb dX10_world_33 (by decide) (fun c175 => ?_) (fun c175 => ?_)
        rotate_left
        · exact absurd c175 (by decide)
        refine lv_iconst (v := 0) hx hb dX10_world_58 (by decide) ?_
        refine lv_istore (lv' := [(8, .int 0), (7, .int 1), (0, .ref p0), (1, .int p1), (2, .int p2), (3, .int p3), (4, .int p4), (5, .int p5), (6, .int p6)]) hx hb dX10_world_59 hl (by decide) rfl (fun ls hl => ?_)
        refine lv_aload_n hx hb dX10_world_61 rfl (lv_at hl 2 rfl) ?_
        refine lv_iload_n hx hb dX10_world_62 rfl (lv_at hl 3 rfl) ?_
        refine cga (rn_V (As := [.int p1]) (rest := []) (b := p0) (x_X10_isStar l D Y Z H.size ws T g q p0 p1 hT ht0) ⟨hx, hb, hml, hown, hg⟩ lk_X10_137 ⟨CPC.blind, va_recv hKN.1 hP (ci := 10) (q0 := p42) rfl hk43, CPC.at hP hKN hD hSZ hS hA⟩ ⟨⟨rfl, rfl⟩, ⟨Nat.le_of_ble_eq_true rfl, Nat.le_of_ble_eq_true rfl⟩, ⟨(Nat.le_of_ble_eq_true rfl), (Nat.le_of_ble_eq_true rfl)⟩⟩ hl.1 rfl (Nat.le_of_ble_eq_true rfl) dX10_world_63) hP hD hS hA (fun u176 H locs hw177 hP hD hS => ?_)
        obtain ⟨hw179, hw180⟩ : (0 ≤ u176.toInt ∧ u176.toInt ≤ 1) ∧ (u176.toInt = 1 → (0 ≤ p1.toInt ∧ p1.toInt ≤ 11)) := hw177
        refine W.eq (g2 := F0 m 66 ls [.int u176]) rfl ?_
        rcases (show u176.toInt = 1 ∨ u176.toInt = 0 by omega) with c181 | c181
        · obtain rfl : u176 = 1 := i_is c181 (by decide)
          replace hw180 := hw180 (by decide)
          refine W.eq (g2 := F0 m 66 ls [.int 1]) rfl ?_
          refine lv_if_eq (tgt := 91) hx hb dX10_world_66 (by decide) (fun c182 => ?_) (fun c182 => ?_)
          · exact absurd c182 (by decide)
          refine lv_iload hx hb dX10_world_69 (lv_at hl 1 rfl) ?_
          refine lv_if_eq (tgt := 91) hx hb dX10_world_71 (by decide) (fun c183 => ?_) (fun c183 => ?_)
          · exact absurd c183 (by decide)
          refine lv_iload hx hb dX10_world_74 (lv_at hl 0 rfl) ?_
          refine lv_if_eq (tgt := 91) hx hb dX10_world_76 (by decide) (fun c184 => ?_) (fun c184 => ?_)
          rotate_left
          · exact absurd c184 (by decide)
          refine lv_iconst (v := (-1)) hx hb dX10_world_91 (by decide) ?_
          refine W.widen (k := 1) (n := 6) (Nat.le_of_ble_eq_true rfl) (Nat.le_of_ble_eq_true rfl) ?_
          have zim1 : ((-1) : Int32).toInt = -1 := by decide
          exact W.iret (v := (-1)) hx hb hr (fun t ht hW => ⟨⟨(((-1)), ws, T, g), rfl, ⟨TLe.rf, hT, KF.rf, KF.rf, (show ∀ s0, q p0 0 = some s0 → GO T g g s0 2 from (fun s0 _ => ⟨_, GS.rf⟩))⟩, CB.mk ht hP hD⟩, hS.F ht⟩) hS.2.2 dX10_world_92
        · obtain rfl : u176 = 0 := i_is c181 (by decide)
          clear hw180
          refine W.eq (g2 := F0 m 66 ls [.int 0]) rfl ?_
          refine lv_if_eq (tgt := 91) hx hb dX10_world_66 (by decide) (fun c185 => ?_) (fun c185 => ?_)
          rotate_left
          · exact absurd c185 (by decide)
          refine lv_iconst (v := (-1)) hx hb dX10_world_91 (by decide) ?_
          refine W.widen (k := 1) (n := 6) (Nat.le_of_ble_eq_true rfl) (Nat.le_of_ble_eq_true rfl) ?_
          have zim1 : ((-1) : Int32).toInt = -1 := by decide
          exact W.iret (v := (-1)) hx hb hr (fun t ht hW => ⟨⟨(((-1)), ws, T, g), rfl, ⟨TLe.rf, hT, KF.rf, KF.rf, (show ∀ s0, q p0 0 = some s0 → GO T g g s0 2 from (fun s0 _ => ⟨_, GS.rf⟩))⟩, CB.mk ht hP hD⟩, hS.F ht⟩) hS.2.2 dX10_world_92
    · obtain rfl : u51 = 0 := i_is c56 (by decide)
      have zi0 : (0 : Int32).toInt = 0 := by decide
      refine W.eq (g2 := F0 m 15 ls [.int 0]) rfl ?_
      refine lv_if_eq (tgt := 22) hx hb dX10_world_15 (by decide) (fun c186 => ?_) (fun c186 => ?_)
      rotate_left
      · exact absurd c186 (by decide)
      refine lv_iconst (v := 0) hx hb dX10_world_22 (by decide) ?_
      refine lv_istore (lv' := [(7, .int 0), (0, .ref p0), (1, .int p1), (2, .int p2), (3, .int p3), (4, .int p4), (5, .int p5), (6, .int p6)]) hx hb dX10_world_23 hl (by decide) rfl (fun ls hl => ?_)
      refine lv_iload hx hb dX10_world_25 (lv_at hl 5 rfl) ?_
      refine lv_iconst (v := 1) hx hb dX10_world_27 (by decide) ?_
      refine lv_bipush (v := 30) hx hb dX10_world_28 (by decide) ?_
      have zi30 : (30 : Int32).toInt = 30 := by decide
      refine cg0 (rn_S (As := [.int p4, .int 1, .int 30]) (rest := []) (x_X10_isWithin l D Y Z H.size p4 1 30) ⟨hx, hb, hml, hown, hg⟩ lk_X10_100 ⟨CP.blind, CP.at nilP hKN (nilD (A := fun _ => True))⟩ ⟨⟨rfl, rfl⟩, ⟨Nat.le_of_ble_eq_true rfl, Nat.le_of_ble_eq_true rfl⟩, ⟨(Nat.le_of_ble_eq_true rfl), (Nat.le_of_ble_eq_true rfl)⟩⟩ hl.1 rfl (Nat.le_of_ble_eq_true rfl) dX10_world_30) hP hS hA (fun u187 H locs hw188 hP hS => ?_)
      obtain ⟨hw190, hw191⟩ : (((1 : Int32).toInt ≤ p4.toInt ∧ p4.toInt ≤ (30 : Int32).toInt ∧ u187.toInt = 1) ∨ (¬ ((1 : Int32).toInt ≤ p4.toInt ∧ p4.toInt ≤ (30 : Int32).toInt) ∧ u187.toInt = 0)) ∧ (0 ≤ u187.toInt ∧ u187.toInt ≤ 1) := hw188
      refine W.eq (g2 := F0 m 33 ls [.int u187]) rfl ?_
      rcases (show u187.toInt = 1 ∨ u187.toInt = 0 by omega) with c192 | c192
      · obtain rfl : u187 = 1 := i_is c192 (by decide)
        refine W.eq (g2 := F0 m 33 ls [.int 1]) rfl ?_
        refine lv_if_eq (tgt := 58) hx hb dX10_world_33 (by decide) (fun c193 => ?_) (fun c193 => ?_)
        · exact absurd c193 (by decide)
        refine lv_iload hx hb dX10_world_36 (lv_at hl 5 rfl) ?_
        refine lv_iload_n hx hb dX10_world_38 rfl (lv_at hl 3 rfl) ?_
        refine lv_icmp_ge (tgt := 58) hx hb dX10_world_39 (by decide) (fun c194 => ?_) (fun c194 => ?_)
        · skip
          have c194 := i_le (Eq.refl p2.toInt) (Eq.refl p4.toInt) c194
          refine lv_iconst (v := 0) hx hb dX10_world_58 (by decide) ?_
          refine lv_istore (lv' := [(8, .int 0), (7, .int 0), (0, .ref p0), (1, .int p1), (2, .int p2), (3, .int p3), (4, .int p4), (5, .int p5), (6, .int p6)]) hx hb dX10_world_59 hl (by decide) rfl (fun ls hl => ?_)
          refine lv_aload_n hx hb dX10_world_61 rfl (lv_at hl 2 rfl) ?_
          refine lv_iload_n hx hb dX10_world_62 rfl (lv_at hl 3 rfl) ?_
          refine cga (rn_V (As := [.int p1]) (rest := []) (b := p0) (x_X10_isStar l D Y Z H.size ws T g q p0 p1 hT ht0) ⟨hx, hb, hml, hown, hg⟩ lk_X10_137 ⟨CPC.blind, va_recv hKN.1 hP (ci := 10) (q0 := p42) rfl hk43, CPC.at hP hKN hD hSZ hS hA⟩ ⟨⟨rfl, rfl⟩, ⟨Nat.le_of_ble_eq_true rfl, Nat.le_of_ble_eq_true rfl⟩, ⟨(Nat.le_of_ble_eq_true rfl), (Nat.le_of_ble_eq_true rfl)⟩⟩ hl.1 rfl (Nat.le_of_ble_eq_true rfl) dX10_world_63) hP hD hS hA (fun u195 H locs hw196 hP hD hS => ?_)
          obtain ⟨hw198, hw199⟩ : (0 ≤ u195.toInt ∧ u195.toInt ≤ 1) ∧ (u195.toInt = 1 → (0 ≤ p1.toInt ∧ p1.toInt ≤ 11)) := hw196
          refine W.eq (g2 := F0 m 66 ls [.int u195]) rfl ?_
          rcases (show u195.toInt = 1 ∨ u195.toInt = 0 by omega) with c200 | c200
          · obtain rfl : u195 = 1 := i_is c200 (by decide)
            replace hw199 := hw199 (by decide)
            refine W.eq (g2 := F0 m 66 ls [.int 1]) rfl ?_
            refine lv_if_eq (tgt := 91) hx hb dX10_world_66 (by decide) (fun c201 => ?_) (fun c201 => ?_)
            · exact absurd c201 (by decide)
            refine lv_iload hx hb dX10_world_69 (lv_at hl 1 rfl) ?_
            refine lv_if_eq (tgt := 91) hx hb dX10_world_71 (by decide) (fun c202 => ?_) (fun c202 => ?_)
            rotate_left
            · exact absurd c202 (by decide)
            refine lv_iconst (v := (-1)) hx hb dX10_world_91 (by decide) ?_
            refine W.widen (k := 1) (n := 6) (Nat.le_of_ble_eq_true rfl) (Nat.le_of_ble_eq_true rfl) ?_
            have zim1 : ((-1) : Int32).toInt = -1 := by decide
            exact W.iret (v := (-1)) hx hb hr (fun t ht hW => ⟨⟨(((-1)), ws, T, g), rfl, ⟨TLe.rf, hT, KF.rf, KF.rf, (show ∀ s0, q p0 0 = some s0 → GO T g g s0 2 from (fun s0 _ => ⟨_, GS.rf⟩))⟩, CB.mk ht hP hD⟩, hS.F ht⟩) hS.2.2 dX10_world_92
          · obtain rfl : u195 = 0 := i_is c200 (by decide)
            clear hw199
            refine W.eq (g2 := F0 m 66 ls [.int 0]) rfl ?_
            refine lv_if_eq (tgt := 91) hx hb dX10_world_66 (by decide) (fun c203 => ?_) (fun c203 => ?_)
            rotate_left
            · exact absurd c203 (by decide)
            refine lv_iconst (v := (-1)) hx hb dX10_world_91 (by decide) ?_
            refine W.widen (k := 1) (n := 6) (Nat.le_of_ble_eq_true rfl) (Nat.le_of_ble_eq_true rfl) ?_
            have zim1 : ((-1) : Int32).toInt = -1 := by decide
            exact W.iret (v := (-1)) hx hb hr (fun t ht hW => ⟨⟨(((-1)), ws, T, g), rfl, ⟨TLe.rf, hT, KF.rf, KF.rf, (show ∀ s0, q p0 0 = some s0 → GO T g g s0 2 from (fun s0 _ => ⟨_, GS.rf⟩))⟩, CB.mk ht hP hD⟩, hS.F ht⟩) hS.2.2 dX10_world_92
        · skip
          have c194 := i_nle (Eq.refl p2.toInt) (Eq.refl p4.toInt) c194
          refine lv_iload hx hb dX10_world_42 (lv_at hl 6 rfl) ?_
          refine lv_iconst (v := 1) hx hb dX10_world_44 (by decide) ?_
          refine lv_sipush (v := 30000) hx hb dX10_world_45 (by decide) ?_
          have zi30000 : (30000 : Int32).toInt = 30000 := by decide
          refine cg0 (rn_S (As := [.int p5, .int 1, .int 30000]) (rest := []) (x_X10_isWithin l D Y Z H.size p5 1 30000) ⟨hx, hb, hml, hown, hg⟩ lk_X10_100 ⟨CP.blind, CP.at nilP hKN (nilD (A := fun _ => True))⟩ ⟨⟨rfl, rfl⟩, ⟨Nat.le_of_ble_eq_true rfl, Nat.le_of_ble_eq_true rfl⟩, ⟨(Nat.le_of_ble_eq_true rfl), (Nat.le_of_ble_eq_true rfl)⟩⟩ hl.1 rfl (Nat.le_of_ble_eq_true rfl) dX10_world_48) hP hS hA (fun u204 H locs hw205 hP hS => ?_)
          obtain ⟨hw207, hw208⟩ : (((1 : Int32).toInt ≤ p5.toInt ∧ p5.toInt ≤ (30000 : Int32).toInt ∧ u204.toInt = 1) ∨ (¬ ((1 : Int32).toInt ≤ p5.toInt ∧ p5.toInt ≤ (30000 : Int32).toInt) ∧ u204.toInt = 0)) ∧ (0 ≤ u204.toInt ∧ u204.toInt ≤ 1) := hw205
          refine W.eq (g2 := F0 m 51 ls [.int u204]) rfl ?_
          rcases (show u204.toInt = 1 ∨ u204.toInt = 0 by omega) with c209 | c209
          · obtain rfl : u204 = 1 := i_is c209 (by decide)
            refine W.eq (g2 := F0 m 51 ls [.int 1]) rfl ?_
            refine lv_if_eq (tgt := 58) hx hb dX10_world_51 (by decide) (fun c210 => ?_) (fun c210 => ?_)
            · exact absurd c210 (by decide)
            refine lv_iconst (v := 1) hx hb dX10_world_54 (by decide) ?_
            refine lv_goto (tgt := 59) hx hb dX10_world_55 (by decide) ?_
            refine lv_istore (lv' := [(8, .int 1), (7, .int 0), (0, .ref p0), (1, .int p1), (2, .int p2), (3, .int p3), (4, .int p4), (5, .int p5), (6, .int p6)]) hx hb dX10_world_59 hl (by decide) rfl (fun ls hl => ?_)
            refine lv_aload_n hx hb dX10_world_61 rfl (lv_at hl 2 rfl) ?_
            refine lv_iload_n hx hb dX10_world_62 rfl (lv_at hl 3 rfl) ?_
            refine cga (rn_V (As := [.int p1]) (rest := []) (b := p0) (x_X10_isStar l D Y Z H.size ws T g q p0 p1 hT ht0) ⟨hx, hb, hml, hown, hg⟩ lk_X10_137 ⟨CPC.blind, va_recv hKN.1 hP (ci := 10) (q0 := p42) rfl hk43, CPC.at hP hKN hD hSZ hS hA⟩ ⟨⟨rfl, rfl⟩, ⟨Nat.le_of_ble_eq_true rfl, Nat.le_of_ble_eq_true rfl⟩, ⟨(Nat.le_of_ble_eq_true rfl), (Nat.le_of_ble_eq_true rfl)⟩⟩ hl.1 rfl (Nat.le_of_ble_eq_true rfl) dX10_world_63) hP hD hS hA (fun u211 H locs hw212 hP hD hS => ?_)
            obtain ⟨hw214, hw215⟩ : (0 ≤ u211.toInt ∧ u211.toInt ≤ 1) ∧ (u211.toInt = 1 → (0 ≤ p1.toInt ∧ p1.toInt ≤ 11)) := hw212
            refine W.eq (g2 := F0 m 66 ls [.int u211]) rfl ?_
            rcases (show u211.toInt = 1 ∨ u211.toInt = 0 by omega) with c216 | c216
            · obtain rfl : u211 = 1 := i_is c216 (by decide)
              replace hw215 := hw215 (by decide)
              refine W.eq (g2 := F0 m 66 ls [.int 1]) rfl ?_
              refine lv_if_eq (tgt := 91) hx hb dX10_world_66 (by decide) (fun c217 => ?_) (fun c217 => ?_)
              · exact absurd c217 (by decide)
              refine lv_iload hx hb dX10_world_69 (lv_at hl 1 rfl) ?_
              refine lv_if_eq (tgt := 91) hx hb dX10_world_71 (by decide) (fun c218 => ?_) (fun c218 => ?_)
              rotate_left
              · exact absurd c218 (by decide)
              refine lv_iconst (v := (-1)) hx hb dX10_world_91 (by decide) ?_
              refine W.widen (k := 1) (n := 6) (Nat.le_of_ble_eq_true rfl) (Nat.le_of_ble_eq_true rfl) ?_
              have zim1 : ((-1) : Int32).toInt = -1 := by decide
              exact W.iret (v := (-1)) hx hb hr (fun t ht hW => ⟨⟨(((-1)), ws, T, g), rfl, ⟨TLe.rf, hT, KF.rf, KF.rf, (show ∀ s0, q p0 0 = some s0 → GO T g g s0 2 from (fun s0 _ => ⟨_, GS.rf⟩))⟩, CB.mk ht hP hD⟩, hS.F ht⟩) hS.2.2 dX10_world_92
            · obtain rfl : u211 = 0 := i_is c216 (by decide)
              clear hw215
              refine W.eq (g2 := F0 m 66 ls [.int 0]) rfl ?_
              refine lv_if_eq (tgt := 91) hx hb dX10_world_66 (by decide) (fun c219 => ?_) (fun c219 => ?_)
              rotate_left
              · exact absurd c219 (by decide)
              refine lv_iconst (v := (-1)) hx hb dX10_world_91 (by decide) ?_
              refine W.widen (k := 1) (n := 6) (Nat.le_of_ble_eq_true rfl) (Nat.le_of_ble_eq_true rfl) ?_
              have zim1 : ((-1) : Int32).toInt = -1 := by decide
              exact W.iret (v := (-1)) hx hb hr (fun t ht hW => ⟨⟨(((-1)), ws, T, g), rfl, ⟨TLe.rf, hT, KF.rf, KF.rf, (show ∀ s0, q p0 0 = some s0 → GO T g g s0 2 from (fun s0 _ => ⟨_, GS.rf⟩))⟩, CB.mk ht hP hD⟩, hS.F ht⟩) hS.2.2 dX10_world_92
          · obtain rfl : u204 = 0 := i_is c209 (by decide)
            refine W.eq (g2 := F0 m 51 ls [.int 0]) rfl ?_
            refine lv_if_eq (tgt := 58) hx hb dX10_world_51 (by decide) (fun c220 => ?_) (fun c220 => ?_)
            rotate_left
            · exact absurd c220 (by decide)
            refine lv_iconst (v := 0) hx hb dX10_world_58 (by decide) ?_
            refine lv_istore (lv' := [(8, .int 0), (7, .int 0), (0, .ref p0), (1, .int p1), (2, .int p2), (3, .int p3), (4, .int p4), (5, .int p5), (6, .int p6)]) hx hb dX10_world_59 hl (by decide) rfl (fun ls hl => ?_)
            refine lv_aload_n hx hb dX10_world_61 rfl (lv_at hl 2 rfl) ?_
            refine lv_iload_n hx hb dX10_world_62 rfl (lv_at hl 3 rfl) ?_
            refine cga (rn_V (As := [.int p1]) (rest := []) (b := p0) (x_X10_isStar l D Y Z H.size ws T g q p0 p1 hT ht0) ⟨hx, hb, hml, hown, hg⟩ lk_X10_137 ⟨CPC.blind, va_recv hKN.1 hP (ci := 10) (q0 := p42) rfl hk43, CPC.at hP hKN hD hSZ hS hA⟩ ⟨⟨rfl, rfl⟩, ⟨Nat.le_of_ble_eq_true rfl, Nat.le_of_ble_eq_true rfl⟩, ⟨(Nat.le_of_ble_eq_true rfl), (Nat.le_of_ble_eq_true rfl)⟩⟩ hl.1 rfl (Nat.le_of_ble_eq_true rfl) dX10_world_63) hP hD hS hA (fun u221 H locs hw222 hP hD hS => ?_)
            obtain ⟨hw224, hw225⟩ : (0 ≤ u221.toInt ∧ u221.toInt ≤ 1) ∧ (u221.toInt = 1 → (0 ≤ p1.toInt ∧ p1.toInt ≤ 11)) := hw222
            refine W.eq (g2 := F0 m 66 ls [.int u221]) rfl ?_
            rcases (show u221.toInt = 1 ∨ u221.toInt = 0 by omega) with c226 | c226
            · obtain rfl : u221 = 1 := i_is c226 (by decide)
              replace hw225 := hw225 (by decide)
              refine W.eq (g2 := F0 m 66 ls [.int 1]) rfl ?_
              refine lv_if_eq (tgt := 91) hx hb dX10_world_66 (by decide) (fun c227 => ?_) (fun c227 => ?_)
              · exact absurd c227 (by decide)
              refine lv_iload hx hb dX10_world_69 (lv_at hl 1 rfl) ?_
              refine lv_if_eq (tgt := 91) hx hb dX10_world_71 (by decide) (fun c228 => ?_) (fun c228 => ?_)
              rotate_left
              · exact absurd c228 (by decide)
              refine lv_iconst (v := (-1)) hx hb dX10_world_91 (by decide) ?_
              refine W.widen (k := 1) (n := 6) (Nat.le_of_ble_eq_true rfl) (Nat.le_of_ble_eq_true rfl) ?_
              have zim1 : ((-1) : Int32).toInt = -1 := by decide
              exact W.iret (v := (-1)) hx hb hr (fun t ht hW => ⟨⟨(((-1)), ws, T, g), rfl, ⟨TLe.rf, hT, KF.rf, KF.rf, (show ∀ s0, q p0 0 = some s0 → GO T g g s0 2 from (fun s0 _ => ⟨_, GS.rf⟩))⟩, CB.mk ht hP hD⟩, hS.F ht⟩) hS.2.2 dX10_world_92
            · obtain rfl : u221 = 0 := i_is c226 (by decide)
              clear hw225
              refine W.eq (g2 := F0 m 66 ls [.int 0]) rfl ?_
              refine lv_if_eq (tgt := 91) hx hb dX10_world_66 (by decide) (fun c229 => ?_) (fun c229 => ?_)
              rotate_left
              · exact absurd c229 (by decide)
              refine lv_iconst (v := (-1)) hx hb dX10_world_91 (by decide) ?_
              refine W.widen (k := 1) (n := 6) (Nat.le_of_ble_eq_true rfl) (Nat.le_of_ble_eq_true rfl) ?_
              have zim1 : ((-1) : Int32).toInt = -1 := by decide
              exact W.iret (v := (-1)) hx hb hr (fun t ht hW => ⟨⟨(((-1)), ws, T, g), rfl, ⟨TLe.rf, hT, KF.rf, KF.rf, (show ∀ s0, q p0 0 = some s0 → GO T g g s0 2 from (fun s0 _ => ⟨_, GS.rf⟩))⟩, CB.mk ht hP hD⟩, hS.F ht⟩) hS.2.2 dX10_world_92
      · obtain rfl : u187 = 0 := i_is c192 (by decide)
        refine W.eq (g2 := F0 m 33 ls [.int 0]) rfl ?_
        refine lv_if_eq (tgt := 58) hx hb dX10_world_33 (by decide) (fun c230 => ?_) (fun c230 => ?_)
        rotate_left
        · exact absurd c230 (by decide)
        refine lv_iconst (v := 0) hx hb dX10_world_58 (by decide) ?_
        refine lv_istore (lv' := [(8, .int 0), (7, .int 0), (0, .ref p0), (1, .int p1), (2, .int p2), (3, .int p3), (4, .int p4), (5, .int p5), (6, .int p6)]) hx hb dX10_world_59 hl (by decide) rfl (fun ls hl => ?_)
        refine lv_aload_n hx hb dX10_world_61 rfl (lv_at hl 2 rfl) ?_
        refine lv_iload_n hx hb dX10_world_62 rfl (lv_at hl 3 rfl) ?_
        refine cga (rn_V (As := [.int p1]) (rest := []) (b := p0) (x_X10_isStar l D Y Z H.size ws T g q p0 p1 hT ht0) ⟨hx, hb, hml, hown, hg⟩ lk_X10_137 ⟨CPC.blind, va_recv hKN.1 hP (ci := 10) (q0 := p42) rfl hk43, CPC.at hP hKN hD hSZ hS hA⟩ ⟨⟨rfl, rfl⟩, ⟨Nat.le_of_ble_eq_true rfl, Nat.le_of_ble_eq_true rfl⟩, ⟨(Nat.le_of_ble_eq_true rfl), (Nat.le_of_ble_eq_true rfl)⟩⟩ hl.1 rfl (Nat.le_of_ble_eq_true rfl) dX10_world_63) hP hD hS hA (fun u231 H locs hw232 hP hD hS => ?_)
        obtain ⟨hw234, hw235⟩ : (0 ≤ u231.toInt ∧ u231.toInt ≤ 1) ∧ (u231.toInt = 1 → (0 ≤ p1.toInt ∧ p1.toInt ≤ 11)) := hw232
        refine W.eq (g2 := F0 m 66 ls [.int u231]) rfl ?_
        rcases (show u231.toInt = 1 ∨ u231.toInt = 0 by omega) with c236 | c236
        · obtain rfl : u231 = 1 := i_is c236 (by decide)
          replace hw235 := hw235 (by decide)
          refine W.eq (g2 := F0 m 66 ls [.int 1]) rfl ?_
          refine lv_if_eq (tgt := 91) hx hb dX10_world_66 (by decide) (fun c237 => ?_) (fun c237 => ?_)
          · exact absurd c237 (by decide)
          refine lv_iload hx hb dX10_world_69 (lv_at hl 1 rfl) ?_
          refine lv_if_eq (tgt := 91) hx hb dX10_world_71 (by decide) (fun c238 => ?_) (fun c238 => ?_)
          rotate_left
          · exact absurd c238 (by decide)
          refine lv_iconst (v := (-1)) hx hb dX10_world_91 (by decide) ?_
          refine W.widen (k := 1) (n := 6) (Nat.le_of_ble_eq_true rfl) (Nat.le_of_ble_eq_true rfl) ?_
          have zim1 : ((-1) : Int32).toInt = -1 := by decide
          exact W.iret (v := (-1)) hx hb hr (fun t ht hW => ⟨⟨(((-1)), ws, T, g), rfl, ⟨TLe.rf, hT, KF.rf, KF.rf, (show ∀ s0, q p0 0 = some s0 → GO T g g s0 2 from (fun s0 _ => ⟨_, GS.rf⟩))⟩, CB.mk ht hP hD⟩, hS.F ht⟩) hS.2.2 dX10_world_92
        · obtain rfl : u231 = 0 := i_is c236 (by decide)
          clear hw235
          refine W.eq (g2 := F0 m 66 ls [.int 0]) rfl ?_
          refine lv_if_eq (tgt := 91) hx hb dX10_world_66 (by decide) (fun c239 => ?_) (fun c239 => ?_)
          rotate_left
          · exact absurd c239 (by decide)
          refine lv_iconst (v := (-1)) hx hb dX10_world_91 (by decide) ?_
          refine W.widen (k := 1) (n := 6) (Nat.le_of_ble_eq_true rfl) (Nat.le_of_ble_eq_true rfl) ?_
          have zim1 : ((-1) : Int32).toInt = -1 := by decide
          exact W.iret (v := (-1)) hx hb hr (fun t ht hW => ⟨⟨(((-1)), ws, T, g), rfl, ⟨TLe.rf, hT, KF.rf, KF.rf, (show ∀ s0, q p0 0 = some s0 → GO T g g s0 2 from (fun s0 _ => ⟨_, GS.rf⟩))⟩, CB.mk ht hP hD⟩, hS.F ht⟩) hS.2.2 dX10_world_92
  · obtain rfl : u44 = 0 := i_is c49 (by decide)
    have zi0 : (0 : Int32).toInt = 0 := by decide
    refine W.eq (g2 := F0 m 8 ls [.int 0]) rfl ?_
    refine lv_if_eq (tgt := 22) hx hb dX10_world_8 (by decide) (fun c240 => ?_) (fun c240 => ?_)
    rotate_left
    · exact absurd c240 (by decide)
    refine lv_iconst (v := 0) hx hb dX10_world_22 (by decide) ?_
    refine lv_istore (lv' := [(7, .int 0), (0, .ref p0), (1, .int p1), (2, .int p2), (3, .int p3), (4, .int p4), (5, .int p5), (6, .int p6)]) hx hb dX10_world_23 hl (by decide) rfl (fun ls hl => ?_)
    refine lv_iload hx hb dX10_world_25 (lv_at hl 5 rfl) ?_
    refine lv_iconst (v := 1) hx hb dX10_world_27 (by decide) ?_
    refine lv_bipush (v := 30) hx hb dX10_world_28 (by decide) ?_
    have zi1 : (1 : Int32).toInt = 1 := by decide
    have zi30 : (30 : Int32).toInt = 30 := by decide
    refine cg0 (rn_S (As := [.int p4, .int 1, .int 30]) (rest := []) (x_X10_isWithin l D Y Z H.size p4 1 30) ⟨hx, hb, hml, hown, hg⟩ lk_X10_100 ⟨CP.blind, CP.at nilP hKN (nilD (A := fun _ => True))⟩ ⟨⟨rfl, rfl⟩, ⟨Nat.le_of_ble_eq_true rfl, Nat.le_of_ble_eq_true rfl⟩, ⟨(Nat.le_of_ble_eq_true rfl), (Nat.le_of_ble_eq_true rfl)⟩⟩ hl.1 rfl (Nat.le_of_ble_eq_true rfl) dX10_world_30) hP hS hA (fun u241 H locs hw242 hP hS => ?_)
    obtain ⟨hw244, hw245⟩ : (((1 : Int32).toInt ≤ p4.toInt ∧ p4.toInt ≤ (30 : Int32).toInt ∧ u241.toInt = 1) ∨ (¬ ((1 : Int32).toInt ≤ p4.toInt ∧ p4.toInt ≤ (30 : Int32).toInt) ∧ u241.toInt = 0)) ∧ (0 ≤ u241.toInt ∧ u241.toInt ≤ 1) := hw242
    refine W.eq (g2 := F0 m 33 ls [.int u241]) rfl ?_
    rcases (show u241.toInt = 1 ∨ u241.toInt = 0 by omega) with c246 | c246
    · obtain rfl : u241 = 1 := i_is c246 (by decide)
      refine W.eq (g2 := F0 m 33 ls [.int 1]) rfl ?_
      refine lv_if_eq (tgt := 58) hx hb dX10_world_33 (by decide) (fun c247 => ?_) (fun c247 => ?_)
      · exact absurd c247 (by decide)
      refine lv_iload hx hb dX10_world_36 (lv_at hl 5 rfl) ?_
      refine lv_iload_n hx hb dX10_world_38 rfl (lv_at hl 3 rfl) ?_
      have j248 := rgI p2
      refine lv_icmp_ge (tgt := 58) hx hb dX10_world_39 (by decide) (fun c249 => ?_) (fun c249 => ?_)
      · skip
        have c249 := i_le (Eq.refl p2.toInt) (Eq.refl p4.toInt) c249
        refine lv_iconst (v := 0) hx hb dX10_world_58 (by decide) ?_
        refine lv_istore (lv' := [(8, .int 0), (7, .int 0), (0, .ref p0), (1, .int p1), (2, .int p2), (3, .int p3), (4, .int p4), (5, .int p5), (6, .int p6)]) hx hb dX10_world_59 hl (by decide) rfl (fun ls hl => ?_)
        refine lv_aload_n hx hb dX10_world_61 rfl (lv_at hl 2 rfl) ?_
        refine lv_iload_n hx hb dX10_world_62 rfl (lv_at hl 3 rfl) ?_
        refine cga (rn_V (As := [.int p1]) (rest := []) (b := p0) (x_X10_isStar l D Y Z H.size ws T g q p0 p1 hT ht0) ⟨hx, hb, hml, hown, hg⟩ lk_X10_137 ⟨CPC.blind, va_recv hKN.1 hP (ci := 10) (q0 := p42) rfl hk43, CPC.at hP hKN hD hSZ hS hA⟩ ⟨⟨rfl, rfl⟩, ⟨Nat.le_of_ble_eq_true rfl, Nat.le_of_ble_eq_true rfl⟩, ⟨(Nat.le_of_ble_eq_true rfl), (Nat.le_of_ble_eq_true rfl)⟩⟩ hl.1 rfl (Nat.le_of_ble_eq_true rfl) dX10_world_63) hP hD hS hA (fun u250 H locs hw251 hP hD hS => ?_)
        obtain ⟨hw253, hw254⟩ : (0 ≤ u250.toInt ∧ u250.toInt ≤ 1) ∧ (u250.toInt = 1 → (0 ≤ p1.toInt ∧ p1.toInt ≤ 11)) := hw251
        refine W.eq (g2 := F0 m 66 ls [.int u250]) rfl ?_
        rcases (show u250.toInt = 1 ∨ u250.toInt = 0 by omega) with c255 | c255
        · obtain rfl : u250 = 1 := i_is c255 (by decide)
          replace hw254 := hw254 (by decide)
          refine W.eq (g2 := F0 m 66 ls [.int 1]) rfl ?_
          refine lv_if_eq (tgt := 91) hx hb dX10_world_66 (by decide) (fun c256 => ?_) (fun c256 => ?_)
          · exact absurd c256 (by decide)
          refine lv_iload hx hb dX10_world_69 (lv_at hl 1 rfl) ?_
          refine lv_if_eq (tgt := 91) hx hb dX10_world_71 (by decide) (fun c257 => ?_) (fun c257 => ?_)
          rotate_left
          · exact absurd c257 (by decide)
          refine lv_iconst (v := (-1)) hx hb dX10_world_91 (by decide) ?_
          refine W.widen (k := 1) (n := 6) (Nat.le_of_ble_eq_true rfl) (Nat.le_of_ble_eq_true rfl) ?_
          have zim1 : ((-1) : Int32).toInt = -1 := by decide
          exact W.iret (v := (-1)) hx hb hr (fun t ht hW => ⟨⟨(((-1)), ws, T, g), rfl, ⟨TLe.rf, hT, KF.rf, KF.rf, (show ∀ s0, q p0 0 = some s0 → GO T g g s0 2 from (fun s0 _ => ⟨_, GS.rf⟩))⟩, CB.mk ht hP hD⟩, hS.F ht⟩) hS.2.2 dX10_world_92
        · obtain rfl : u250 = 0 := i_is c255 (by decide)
          clear hw254
          refine W.eq (g2 := F0 m 66 ls [.int 0]) rfl ?_
          refine lv_if_eq (tgt := 91) hx hb dX10_world_66 (by decide) (fun c258 => ?_) (fun c258 => ?_)
          rotate_left
          · exact absurd c258 (by decide)
          refine lv_iconst (v := (-1)) hx hb dX10_world_91 (by decide) ?_
          refine W.widen (k := 1) (n := 6) (Nat.le_of_ble_eq_true rfl) (Nat.le_of_ble_eq_true rfl) ?_
          have zim1 : ((-1) : Int32).toInt = -1 := by decide
          exact W.iret (v := (-1)) hx hb hr (fun t ht hW => ⟨⟨(((-1)), ws, T, g), rfl, ⟨TLe.rf, hT, KF.rf, KF.rf, (show ∀ s0, q p0 0 = some s0 → GO T g g s0 2 from (fun s0 _ => ⟨_, GS.rf⟩))⟩, CB.mk ht hP hD⟩, hS.F ht⟩) hS.2.2 dX10_world_92
      · skip
        have c249 := i_nle (Eq.refl p2.toInt) (Eq.refl p4.toInt) c249
        refine lv_iload hx hb dX10_world_42 (lv_at hl 6 rfl) ?_
        refine lv_iconst (v := 1) hx hb dX10_world_44 (by decide) ?_
        refine lv_sipush (v := 30000) hx hb dX10_world_45 (by decide) ?_
        have zi30000 : (30000 : Int32).toInt = 30000 := by decide
        refine cg0 (rn_S (As := [.int p5, .int 1, .int 30000]) (rest := []) (x_X10_isWithin l D Y Z H.size p5 1 30000) ⟨hx, hb, hml, hown, hg⟩ lk_X10_100 ⟨CP.blind, CP.at nilP hKN (nilD (A := fun _ => True))⟩ ⟨⟨rfl, rfl⟩, ⟨Nat.le_of_ble_eq_true rfl, Nat.le_of_ble_eq_true rfl⟩, ⟨(Nat.le_of_ble_eq_true rfl), (Nat.le_of_ble_eq_true rfl)⟩⟩ hl.1 rfl (Nat.le_of_ble_eq_true rfl) dX10_world_48) hP hS hA (fun u259 H locs hw260 hP hS => ?_)
        obtain ⟨hw262, hw263⟩ : (((1 : Int32).toInt ≤ p5.toInt ∧ p5.toInt ≤ (30000 : Int32).toInt ∧ u259.toInt = 1) ∨ (¬ ((1 : Int32).toInt ≤ p5.toInt ∧ p5.toInt ≤ (30000 : Int32).toInt) ∧ u259.toInt = 0)) ∧ (0 ≤ u259.toInt ∧ u259.toInt ≤ 1) := hw260
        refine W.eq (g2 := F0 m 51 ls [.int u259]) rfl ?_
        rcases (show u259.toInt = 1 ∨ u259.toInt = 0 by omega) with c264 | c264
        · obtain rfl : u259 = 1 := i_is c264 (by decide)
          refine W.eq (g2 := F0 m 51 ls [.int 1]) rfl ?_
          refine lv_if_eq (tgt := 58) hx hb dX10_world_51 (by decide) (fun c265 => ?_) (fun c265 => ?_)
          · exact absurd c265 (by decide)
          refine lv_iconst (v := 1) hx hb dX10_world_54 (by decide) ?_
          refine lv_goto (tgt := 59) hx hb dX10_world_55 (by decide) ?_
          refine lv_istore (lv' := [(8, .int 1), (7, .int 0), (0, .ref p0), (1, .int p1), (2, .int p2), (3, .int p3), (4, .int p4), (5, .int p5), (6, .int p6)]) hx hb dX10_world_59 hl (by decide) rfl (fun ls hl => ?_)
          refine lv_aload_n hx hb dX10_world_61 rfl (lv_at hl 2 rfl) ?_
          refine lv_iload_n hx hb dX10_world_62 rfl (lv_at hl 3 rfl) ?_
          refine cga (rn_V (As := [.int p1]) (rest := []) (b := p0) (x_X10_isStar l D Y Z H.size ws T g q p0 p1 hT ht0) ⟨hx, hb, hml, hown, hg⟩ lk_X10_137 ⟨CPC.blind, va_recv hKN.1 hP (ci := 10) (q0 := p42) rfl hk43, CPC.at hP hKN hD hSZ hS hA⟩ ⟨⟨rfl, rfl⟩, ⟨Nat.le_of_ble_eq_true rfl, Nat.le_of_ble_eq_true rfl⟩, ⟨(Nat.le_of_ble_eq_true rfl), (Nat.le_of_ble_eq_true rfl)⟩⟩ hl.1 rfl (Nat.le_of_ble_eq_true rfl) dX10_world_63) hP hD hS hA (fun u266 H locs hw267 hP hD hS => ?_)
          obtain ⟨hw269, hw270⟩ : (0 ≤ u266.toInt ∧ u266.toInt ≤ 1) ∧ (u266.toInt = 1 → (0 ≤ p1.toInt ∧ p1.toInt ≤ 11)) := hw267
          refine W.eq (g2 := F0 m 66 ls [.int u266]) rfl ?_
          rcases (show u266.toInt = 1 ∨ u266.toInt = 0 by omega) with c271 | c271
          · obtain rfl : u266 = 1 := i_is c271 (by decide)
            replace hw270 := hw270 (by decide)
            refine W.eq (g2 := F0 m 66 ls [.int 1]) rfl ?_
            refine lv_if_eq (tgt := 91) hx hb dX10_world_66 (by decide) (fun c272 => ?_) (fun c272 => ?_)
            · exact absurd c272 (by decide)
            refine lv_iload hx hb dX10_world_69 (lv_at hl 1 rfl) ?_
            refine lv_if_eq (tgt := 91) hx hb dX10_world_71 (by decide) (fun c273 => ?_) (fun c273 => ?_)
            rotate_left
            · exact absurd c273 (by decide)
            refine lv_iconst (v := (-1)) hx hb dX10_world_91 (by decide) ?_
            refine W.widen (k := 1) (n := 6) (Nat.le_of_ble_eq_true rfl) (Nat.le_of_ble_eq_true rfl) ?_
            have zim1 : ((-1) : Int32).toInt = -1 := by decide
            exact W.iret (v := (-1)) hx hb hr (fun t ht hW => ⟨⟨(((-1)), ws, T, g), rfl, ⟨TLe.rf, hT, KF.rf, KF.rf, (show ∀ s0, q p0 0 = some s0 → GO T g g s0 2 from (fun s0 _ => ⟨_, GS.rf⟩))⟩, CB.mk ht hP hD⟩, hS.F ht⟩) hS.2.2 dX10_world_92
          · obtain rfl : u266 = 0 := i_is c271 (by decide)
            clear hw270
            refine W.eq (g2 := F0 m 66 ls [.int 0]) rfl ?_
            refine lv_if_eq (tgt := 91) hx hb dX10_world_66 (by decide) (fun c274 => ?_) (fun c274 => ?_)
            rotate_left
            · exact absurd c274 (by decide)
            refine lv_iconst (v := (-1)) hx hb dX10_world_91 (by decide) ?_
            refine W.widen (k := 1) (n := 6) (Nat.le_of_ble_eq_true rfl) (Nat.le_of_ble_eq_true rfl) ?_
            have zim1 : ((-1) : Int32).toInt = -1 := by decide
            exact W.iret (v := (-1)) hx hb hr (fun t ht hW => ⟨⟨(((-1)), ws, T, g), rfl, ⟨TLe.rf, hT, KF.rf, KF.rf, (show ∀ s0, q p0 0 = some s0 → GO T g g s0 2 from (fun s0 _ => ⟨_, GS.rf⟩))⟩, CB.mk ht hP hD⟩, hS.F ht⟩) hS.2.2 dX10_world_92
        · obtain rfl : u259 = 0 := i_is c264 (by decide)
          refine W.eq (g2 := F0 m 51 ls [.int 0]) rfl ?_
          refine lv_if_eq (tgt := 58) hx hb dX10_world_51 (by decide) (fun c275 => ?_) (fun c275 => ?_)
          rotate_left
          · exact absurd c275 (by decide)
          refine lv_iconst (v := 0) hx hb dX10_world_58 (by decide) ?_
          refine lv_istore (lv' := [(8, .int 0), (7, .int 0), (0, .ref p0), (1, .int p1), (2, .int p2), (3, .int p3), (4, .int p4), (5, .int p5), (6, .int p6)]) hx hb dX10_world_59 hl (by decide) rfl (fun ls hl => ?_)
          refine lv_aload_n hx hb dX10_world_61 rfl (lv_at hl 2 rfl) ?_
          refine lv_iload_n hx hb dX10_world_62 rfl (lv_at hl 3 rfl) ?_
          refine cga (rn_V (As := [.int p1]) (rest := []) (b := p0) (x_X10_isStar l D Y Z H.size ws T g q p0 p1 hT ht0) ⟨hx, hb, hml, hown, hg⟩ lk_X10_137 ⟨CPC.blind, va_recv hKN.1 hP (ci := 10) (q0 := p42) rfl hk43, CPC.at hP hKN hD hSZ hS hA⟩ ⟨⟨rfl, rfl⟩, ⟨Nat.le_of_ble_eq_true rfl, Nat.le_of_ble_eq_true rfl⟩, ⟨(Nat.le_of_ble_eq_true rfl), (Nat.le_of_ble_eq_true rfl)⟩⟩ hl.1 rfl (Nat.le_of_ble_eq_true rfl) dX10_world_63) hP hD hS hA (fun u276 H locs hw277 hP hD hS => ?_)
          obtain ⟨hw279, hw280⟩ : (0 ≤ u276.toInt ∧ u276.toInt ≤ 1) ∧ (u276.toInt = 1 → (0 ≤ p1.toInt ∧ p1.toInt ≤ 11)) := hw277
          refine W.eq (g2 := F0 m 66 ls [.int u276]) rfl ?_
          rcases (show u276.toInt = 1 ∨ u276.toInt = 0 by omega) with c281 | c281
          · obtain rfl : u276 = 1 := i_is c281 (by decide)
            replace hw280 := hw280 (by decide)
            refine W.eq (g2 := F0 m 66 ls [.int 1]) rfl ?_
            refine lv_if_eq (tgt := 91) hx hb dX10_world_66 (by decide) (fun c282 => ?_) (fun c282 => ?_)
            · exact absurd c282 (by decide)
            refine lv_iload hx hb dX10_world_69 (lv_at hl 1 rfl) ?_
            refine lv_if_eq (tgt := 91) hx hb dX10_world_71 (by decide) (fun c283 => ?_) (fun c283 => ?_)
            rotate_left
            · exact absurd c283 (by decide)
            refine lv_iconst (v := (-1)) hx hb dX10_world_91 (by decide) ?_
            refine W.widen (k := 1) (n := 6) (Nat.le_of_ble_eq_true rfl) (Nat.le_of_ble_eq_true rfl) ?_
            have zim1 : ((-1) : Int32).toInt = -1 := by decide
            exact W.iret (v := (-1)) hx hb hr (fun t ht hW => ⟨⟨(((-1)), ws, T, g), rfl, ⟨TLe.rf, hT, KF.rf, KF.rf, (show ∀ s0, q p0 0 = some s0 → GO T g g s0 2 from (fun s0 _ => ⟨_, GS.rf⟩))⟩, CB.mk ht hP hD⟩, hS.F ht⟩) hS.2.2 dX10_world_92
          · obtain rfl : u276 = 0 := i_is c281 (by decide)
            clear hw280
            refine W.eq (g2 := F0 m 66 ls [.int 0]) rfl ?_
            refine lv_if_eq (tgt := 91) hx hb dX10_world_66 (by decide) (fun c284 => ?_) (fun c284 => ?_)
            rotate_left
            · exact absurd c284 (by decide)
            refine lv_iconst (v := (-1)) hx hb dX10_world_91 (by decide) ?_
            refine W.widen (k := 1) (n := 6) (Nat.le_of_ble_eq_true rfl) (Nat.le_of_ble_eq_true rfl) ?_
            have zim1 : ((-1) : Int32).toInt = -1 := by decide
            exact W.iret (v := (-1)) hx hb hr (fun t ht hW => ⟨⟨(((-1)), ws, T, g), rfl, ⟨TLe.rf, hT, KF.rf, KF.rf, (show ∀ s0, q p0 0 = some s0 → GO T g g s0 2 from (fun s0 _ => ⟨_, GS.rf⟩))⟩, CB.mk ht hP hD⟩, hS.F ht⟩) hS.2.2 dX10_world_92
    · obtain rfl : u241 = 0 := i_is c246 (by decide)
      refine W.eq (g2 := F0 m 33 ls [.int 0]) rfl ?_
      refine lv_if_eq (tgt := 58) hx hb dX10_world_33 (by decide) (fun c285 => ?_) (fun c285 => ?_)
      rotate_left
      · exact absurd c285 (by decide)
      refine lv_iconst (v := 0) hx hb dX10_world_58 (by decide) ?_
      refine lv_istore (lv' := [(8, .int 0), (7, .int 0), (0, .ref p0), (1, .int p1), (2, .int p2), (3, .int p3), (4, .int p4), (5, .int p5), (6, .int p6)]) hx hb dX10_world_59 hl (by decide) rfl (fun ls hl => ?_)
      refine lv_aload_n hx hb dX10_world_61 rfl (lv_at hl 2 rfl) ?_
      refine lv_iload_n hx hb dX10_world_62 rfl (lv_at hl 3 rfl) ?_
      refine cga (rn_V (As := [.int p1]) (rest := []) (b := p0) (x_X10_isStar l D Y Z H.size ws T g q p0 p1 hT ht0) ⟨hx, hb, hml, hown, hg⟩ lk_X10_137 ⟨CPC.blind, va_recv hKN.1 hP (ci := 10) (q0 := p42) rfl hk43, CPC.at hP hKN hD hSZ hS hA⟩ ⟨⟨rfl, rfl⟩, ⟨Nat.le_of_ble_eq_true rfl, Nat.le_of_ble_eq_true rfl⟩, ⟨(Nat.le_of_ble_eq_true rfl), (Nat.le_of_ble_eq_true rfl)⟩⟩ hl.1 rfl (Nat.le_of_ble_eq_true rfl) dX10_world_63) hP hD hS hA (fun u286 H locs hw287 hP hD hS => ?_)
      obtain ⟨hw289, hw290⟩ : (0 ≤ u286.toInt ∧ u286.toInt ≤ 1) ∧ (u286.toInt = 1 → (0 ≤ p1.toInt ∧ p1.toInt ≤ 11)) := hw287
      refine W.eq (g2 := F0 m 66 ls [.int u286]) rfl ?_
      rcases (show u286.toInt = 1 ∨ u286.toInt = 0 by omega) with c291 | c291
      · obtain rfl : u286 = 1 := i_is c291 (by decide)
        replace hw290 := hw290 (by decide)
        refine W.eq (g2 := F0 m 66 ls [.int 1]) rfl ?_
        refine lv_if_eq (tgt := 91) hx hb dX10_world_66 (by decide) (fun c292 => ?_) (fun c292 => ?_)
        · exact absurd c292 (by decide)
        refine lv_iload hx hb dX10_world_69 (lv_at hl 1 rfl) ?_
        refine lv_if_eq (tgt := 91) hx hb dX10_world_71 (by decide) (fun c293 => ?_) (fun c293 => ?_)
        rotate_left
        · exact absurd c293 (by decide)
        refine lv_iconst (v := (-1)) hx hb dX10_world_91 (by decide) ?_
        refine W.widen (k := 1) (n := 6) (Nat.le_of_ble_eq_true rfl) (Nat.le_of_ble_eq_true rfl) ?_
        have zim1 : ((-1) : Int32).toInt = -1 := by decide
        exact W.iret (v := (-1)) hx hb hr (fun t ht hW => ⟨⟨(((-1)), ws, T, g), rfl, ⟨TLe.rf, hT, KF.rf, KF.rf, (show ∀ s0, q p0 0 = some s0 → GO T g g s0 2 from (fun s0 _ => ⟨_, GS.rf⟩))⟩, CB.mk ht hP hD⟩, hS.F ht⟩) hS.2.2 dX10_world_92
      · obtain rfl : u286 = 0 := i_is c291 (by decide)
        clear hw290
        refine W.eq (g2 := F0 m 66 ls [.int 0]) rfl ?_
        refine lv_if_eq (tgt := 91) hx hb dX10_world_66 (by decide) (fun c294 => ?_) (fun c294 => ?_)
        rotate_left
        · exact absurd c294 (by decide)
        refine lv_iconst (v := (-1)) hx hb dX10_world_91 (by decide) ?_
        refine W.widen (k := 1) (n := 6) (Nat.le_of_ble_eq_true rfl) (Nat.le_of_ble_eq_true rfl) ?_
        have zim1 : ((-1) : Int32).toInt = -1 := by decide
        exact W.iret (v := (-1)) hx hb hr (fun t ht hW => ⟨⟨(((-1)), ws, T, g), rfl, ⟨TLe.rf, hT, KF.rf, KF.rf, (show ∀ s0, q p0 0 = some s0 → GO T g g s0 2 from (fun s0 _ => ⟨_, GS.rf⟩))⟩, CB.mk ht hP hD⟩, hS.F ht⟩) hS.2.2 dX10_world_92
set_option maxHeartbeats 4000000 in
set_option maxRecDepth 100000 in
theorem x_candidateE (l : Launch) (D : va_G) (Y : Nat → ClassId) (Z : Nat → Nat) (sz : Nat) (ws : va_W) (T : RT) (g : GN) (q : GQ)  (p0 : Nat) (p1 : Int32) (p2 : Int32) (p3 : Int32) (hT : TW Y Z T g q ws) (ht0 : T p0 = (1, 0, 0)) : Met l yX10_candidate (.code yX10_candidate cX10_candidate 5 (some .int) :: GW) ({ frames := 2, cells := 0, slots := 0, locals := 42 }) (va_Pc [.ref p0, .int p1, .int p2, .int p3] (CPC D Y Z ws sz)) (QG (S := Int32 × va_W × GN) (fun u => some (.int u.1)) (fun u => TW Y Z T u.2.2 q u.2.1 ∧ KF 1 T ws u.2.1 ∧ KF 6 T ws u.2.1 ∧ (∀ s0, q p0 0 = some s0 → GO T g u.2.2 s0 4)) (fun u => CB D u.2.1 (va_A ws sz)) (va_A ws sz)) 0 0 (va_A ws sz) := by
  refine Met.ofW (cc := cX10_candidate) (maxL := 5) (ret := (some .int)) (by decide) rfl ?_
  intro p e s m args below meth c s₁ B hml hv
  obtain ⟨rfl, ⟨hsz, hP, hKN, hD0⟩, hSZ⟩ := hv
  have hx := B.exec
  have hb := B.bytes
  have hr := B.returns
  have hts := atoms_spec (ws := .code yX10_candidate cX10_candidate 5 (some .int) :: GW) B.pre
  have hg : ∀ w ∈ GW, w.before _ s = true := fun w h => hts w (List.mem_cons_of_mem _ h)
  have hown : s.vm.findClass RX10 = some m.cls := findClass_of_methodNamed B.named
  have hlocks := B.notSynchronized
  subst hsz
  have hD := hD0.self (sz := s.heap.size)
  generalize hAe : va_A ws s.heap.size = A at hD hSZ ⊢
  have hA : ∀ q : Nat, s.heap.size ≤ q → A q := fun q h => by rw [← hAe]; exact Or.inr h
  clear hAe hD0 hts B
  have hl := lv_entry ([.ref p0, .int p1, .int p2, .int p3]) (n := 5) (Nat.le_of_ble_eq_true rfl)
  rw [lg_entry_eq]
  generalize (lg_sl ([.ref p0, .int p1, .int p2, .int p3]) ++ List.replicate (5 - (lg_sl ([.ref p0, .int p1, .int p2, .int p3])).length) Slot.unset).toArray = ls at hl ⊢
  have hl : lv_has ls 5 [(0, .ref p0), (1, .int p1), (2, .int p2), (3, .int p3)] := hl
  refine w_start (A0 := A) hP (fun H locs hP hS => ?_)
  refine ok1 hT ht0 (fun p42 a1 a2 a3 a4 a5 x6 x7 x8 a9 a10 a11 a12 a13 a14 a15 a16 a17 x18 a19 a20 hk43 h21 h22 h23 h24 h25 h26 h27 h28 h29 h30 h31 h32 h33 h34 h35 h36 h37 h38 h39 h40 h41 => ?_)
  refine lv_aload_n hx hb dX10_candidate_0 rfl (lv_at hl 0 rfl) ?_
  refine lv_iload_n hx hb dX10_candidate_1 rfl (lv_at hl 1 rfl) ?_
  refine cga (rn_V (As := [.int p1]) (rest := []) (b := p0) (x_X10_isStar l D Y Z H.size ws T g q p0 p1 hT ht0) ⟨hx, hb, hml, hown, hg⟩ lk_X10_137 ⟨CPC.blind, va_recv hKN.1 hP (ci := 10) (q0 := p42) rfl hk43, CPC.at hP hKN hD hSZ hS hA⟩ ⟨⟨rfl, rfl⟩, ⟨Nat.le_of_ble_eq_true rfl, Nat.le_of_ble_eq_true rfl⟩, ⟨(Nat.le_of_ble_eq_true rfl), (Nat.le_of_ble_eq_true rfl)⟩⟩ hl.1 rfl (Nat.le_of_ble_eq_true rfl) dX10_candidate_2) hP hD hS hA (fun u44 H locs hw45 hP hD hS => ?_)
  obtain ⟨hw47, hw48⟩ : (0 ≤ u44.toInt ∧ u44.toInt ≤ 1) ∧ (u44.toInt = 1 → (0 ≤ p1.toInt ∧ p1.toInt ≤ 11)) := hw45
  refine W.eq (g2 := F0 m 5 ls [.int u44]) rfl ?_
  rcases (show u44.toInt = 1 ∨ u44.toInt = 0 by omega) with c49 | c49
  · obtain rfl : u44 = 1 := i_is c49 (by decide)
    have zi1 : (1 : Int32).toInt = 1 := by decide
    replace hw48 := hw48 (by decide)
    refine W.eq (g2 := F0 m 5 ls [.int 1]) rfl ?_
    refine lv_if_eq (tgt := 33) hx hb dX10_candidate_5 (by decide) (fun c50 => ?_) (fun c50 => ?_)
    · exact absurd c50 (by decide)
    refine lv_iload_n hx hb dX10_candidate_8 rfl (lv_at hl 2 rfl) ?_
    refine lv_iconst (v := 1) hx hb dX10_candidate_9 (by decide) ?_
    refine lv_bipush (v := 99) hx hb dX10_candidate_10 (by decide) ?_
    have zi99 : (99 : Int32).toInt = 99 := by decide
    refine cg0 (rn_S (As := [.int p2, .int 1, .int 99]) (rest := []) (x_X10_isWithin l D Y Z H.size p2 1 99) ⟨hx, hb, hml, hown, hg⟩ lk_X10_100 ⟨CP.blind, CP.at nilP hKN (nilD (A := fun _ => True))⟩ ⟨⟨rfl, rfl⟩, ⟨Nat.le_of_ble_eq_true rfl, Nat.le_of_ble_eq_true rfl⟩, ⟨(Nat.le_of_ble_eq_true rfl), (Nat.le_of_ble_eq_true rfl)⟩⟩ hl.1 rfl (Nat.le_of_ble_eq_true rfl) dX10_candidate_12) hP hS hA (fun u51 H locs hw52 hP hS => ?_)
    obtain ⟨hw54, hw55⟩ : (((1 : Int32).toInt ≤ p2.toInt ∧ p2.toInt ≤ (99 : Int32).toInt ∧ u51.toInt = 1) ∨ (¬ ((1 : Int32).toInt ≤ p2.toInt ∧ p2.toInt ≤ (99 : Int32).toInt) ∧ u51.toInt = 0)) ∧ (0 ≤ u51.toInt ∧ u51.toInt ≤ 1) := hw52
    refine W.eq (g2 := F0 m 15 ls [.int u51]) rfl ?_
    rcases (show u51.toInt = 1 ∨ u51.toInt = 0 by omega) with c56 | c56
    · obtain rfl : u51 = 1 := i_is c56 (by decide)
      refine W.eq (g2 := F0 m 15 ls [.int 1]) rfl ?_
      refine lv_if_eq (tgt := 33) hx hb dX10_candidate_15 (by decide) (fun c57 => ?_) (fun c57 => ?_)
      · exact absurd c57 (by decide)
      refine lv_iload_n hx hb dX10_candidate_18 rfl (lv_at hl 3 rfl) ?_
      refine lv_iconst (v := 0) hx hb dX10_candidate_19 (by decide) ?_
      refine lv_sipush (v := 9999) hx hb dX10_candidate_20 (by decide) ?_
      have zi0 : (0 : Int32).toInt = 0 := by decide
      have zi9999 : (9999 : Int32).toInt = 9999 := by decide
      refine cg0 (rn_S (As := [.int p3, .int 0, .int 9999]) (rest := []) (x_X10_isWithin l D Y Z H.size p3 0 9999) ⟨hx, hb, hml, hown, hg⟩ lk_X10_100 ⟨CP.blind, CP.at nilP hKN (nilD (A := fun _ => True))⟩ ⟨⟨rfl, rfl⟩, ⟨Nat.le_of_ble_eq_true rfl, Nat.le_of_ble_eq_true rfl⟩, ⟨(Nat.le_of_ble_eq_true rfl), (Nat.le_of_ble_eq_true rfl)⟩⟩ hl.1 rfl (Nat.le_of_ble_eq_true rfl) dX10_candidate_23) hP hS hA (fun u58 H locs hw59 hP hS => ?_)
      obtain ⟨hw61, hw62⟩ : (((0 : Int32).toInt ≤ p3.toInt ∧ p3.toInt ≤ (9999 : Int32).toInt ∧ u58.toInt = 1) ∨ (¬ ((0 : Int32).toInt ≤ p3.toInt ∧ p3.toInt ≤ (9999 : Int32).toInt) ∧ u58.toInt = 0)) ∧ (0 ≤ u58.toInt ∧ u58.toInt ≤ 1) := hw59
      refine W.eq (g2 := F0 m 26 ls [.int u58]) rfl ?_
      rcases (show u58.toInt = 1 ∨ u58.toInt = 0 by omega) with c63 | c63
      · obtain rfl : u58 = 1 := i_is c63 (by decide)
        refine W.eq (g2 := F0 m 26 ls [.int 1]) rfl ?_
        refine lv_if_eq (tgt := 33) hx hb dX10_candidate_26 (by decide) (fun c64 => ?_) (fun c64 => ?_)
        · exact absurd c64 (by decide)
        refine lv_iconst (v := 1) hx hb dX10_candidate_29 (by decide) ?_
        refine lv_goto (tgt := 34) hx hb dX10_candidate_30 (by decide) ?_
        refine lv_istore (lv' := [(4, .int 1), (0, .ref p0), (1, .int p1), (2, .int p2), (3, .int p3)]) hx hb dX10_candidate_34 hl (by decide) rfl (fun ls hl => ?_)
        refine lv_iload hx hb dX10_candidate_36 (lv_at hl 0 rfl) ?_
        refine lv_if_eq (tgt := 53) hx hb dX10_candidate_38 (by decide) (fun c65 => ?_) (fun c65 => ?_)
        · exact absurd c65 (by decide)
        refine lv_aload_n hx hb dX10_candidate_41 rfl (lv_at hl 1 rfl) ?_
        refine va_get (D := D) (ci := 10) (v := .ref a1) (C := RX10) (T := TX10) (N := 20) hx hb hg inGX10 hown hKN.1 hP p42 hk43 rfl 0 (by decide) (hg _ kw_349) (fun _ h9 => h9) rfl dX10_candidate_42 ?_
        refine ok2 hT h21 (fun p100 x66 a67 x68 a69 x70 a71 a72 x73 a74 a75 x76 a77 x78 hk101 h79 h80 h81 h82 h83 h84 h85 h86 h87 h88 h89 h90 h91 h92 h93 h94 h95 h96 h97 h98 h99 => ?_)
        refine va_getN (D := D) (ci := 6) (v := .int x70) (C := RX6) (T := TX6) (N := 13) hx hb hg inGX6 hown hKN.1 hP p100 hk101 rfl 4 (by decide) (va_Nw.use rfl (hKN.2.1 _ kn_48 rfl)) (fun _ h9 => h9) rfl dX10_candidate_45 ?_
        refine lv_bipush (v := 12) hx hb dX10_candidate_48 (by decide) ?_
        refine lv_icmp_lt (tgt := 55) hx hb dX10_candidate_50 (by decide) (fun c102 => ?_) (fun c102 => ?_)
        · skip
          have c102 := i_lt (Eq.refl x70.toInt) (show (12 : Int32).toInt = 12 by decide) c102
          refine lv_aload_n hx hb dX10_candidate_55 rfl (lv_at hl 1 rfl) ?_
          refine va_get (D := D) (ci := 10) (v := .ref a1) (C := RX10) (T := TX10) (N := 20) hx hb hg inGX10 hown hKN.1 hP p42 hk43 rfl 0 (by decide) (hg _ kw_349) (fun _ h9 => h9) rfl dX10_candidate_56 ?_
          refine va_getN (D := D) (ci := 6) (v := .ref a71) (C := RX6) (T := TX6) (N := 13) hx hb hg inGX6 hown hKN.1 hP p100 hk101 rfl 5 (by decide) (va_Nw.use rfl (hKN.2.1 _ kn_50 rfl)) (fun _ h9 => h9) rfl dX10_candidate_59 ?_
          refine lv_aload_n hx hb dX10_candidate_62 rfl (lv_at hl 1 rfl) ?_
          refine va_get (D := D) (ci := 10) (v := .ref a1) (C := RX10) (T := TX10) (N := 20) hx hb hg inGX10 hown hKN.1 hP p42 hk43 rfl 0 (by decide) (hg _ kw_349) (fun _ h9 => h9) rfl dX10_candidate_63 ?_
          refine va_getN (D := D) (ci := 6) (v := .int x70) (C := RX6) (T := TX6) (N := 13) hx hb hg inGX6 hown hKN.1 hP p100 hk101 rfl 4 (by decide) (va_Nw.use rfl (hKN.2.1 _ kn_48 rfl)) (fun _ h9 => h9) rfl dX10_candidate_66 ?_
          refine lv_iload_n hx hb dX10_candidate_69 rfl (lv_at hl 3 rfl) ?_
          refine tr_st14 hx hb hKN hP hD hS hT h88 (vp_in_iff.mpr ⟨by omega, by omega⟩) dX10_candidate_70 (fun w103 H locs hP hD hS hT kp104 => ?_)
          have ke105 : KF 1 T ws w103 := KF.tr KF.rf (KF.kp kp104 h88 (by decide))
          have ke106 : KF 6 T ws w103 := KF.tr KF.rf (KF.kp kp104 h88 (by decide))
          have hk107 := kp104 _ _ hk43 (rne ht0 h88 (by decide))
          have hk108 := kp104 _ _ hk101 (rne h21 h88 (by decide))
          obtain ⟨g109, eg109, hT⟩ : ∃ gz, gz = gset g a71 x70.toNatClampNeg p2 ∧ TW Y Z T gz q w103 := ⟨_, rfl, hT⟩
          have hg110 : g109 a1 0 = x66 := by rw [eg109, gset_ne (rne h21 h88 (by decide))]; exact h80
          have hg111 : g109 a1 2 = x68 := by rw [eg109, gset_ne (rne h21 h88 (by decide))]; exact h84
          have hg112 : g109 a1 4 = x70 := by rw [eg109, gset_ne (rne h21 h88 (by decide))]; exact h87
          have hg113 : g109 a1 7 = x73 := by rw [eg109, gset_ne (rne h21 h88 (by decide))]; exact h93
          have hg114 : g109 a1 10 = x76 := by rw [eg109, gset_ne (rne h21 h88 (by decide))]; exact h97
          refine lv_aload_n hx hb dX10_candidate_71 rfl (lv_at hl 1 rfl) ?_
          refine va_get (D := D) (ci := 10) (v := .ref a1) (C := RX10) (T := TX10) (N := 20) hx hb hg inGX10 hown hKN.1 hP p42 hk107 rfl 0 (by decide) (hg _ kw_349) (fun _ h9 => h9) rfl dX10_candidate_72 ?_
          refine va_getN (D := D) (ci := 6) (v := .ref a72) (C := RX6) (T := TX6) (N := 13) hx hb hg inGX6 hown hKN.1 hP p100 hk108 rfl 6 (by decide) (va_Nw.use rfl (hKN.2.1 _ kn_52 rfl)) (fun _ h9 => h9) rfl dX10_candidate_75 ?_
          refine lv_aload_n hx hb dX10_candidate_78 rfl (lv_at hl 1 rfl) ?_
          refine va_get (D := D) (ci := 10) (v := .ref a1) (C := RX10) (T := TX10) (N := 20) hx hb hg inGX10 hown hKN.1 hP p42 hk107 rfl 0 (by decide) (hg _ kw_349) (fun _ h9 => h9) rfl dX10_candidate_79 ?_
          refine va_getN (D := D) (ci := 6) (v := .int x70) (C := RX6) (T := TX6) (N := 13) hx hb hg inGX6 hown hKN.1 hP p100 hk108 rfl 4 (by decide) (va_Nw.use rfl (hKN.2.1 _ kn_48 rfl)) (fun _ h9 => h9) rfl dX10_candidate_82 ?_
          refine lv_iload_n hx hb dX10_candidate_85 rfl (lv_at hl 4 rfl) ?_
          refine tr_st14 hx hb hKN hP hD hS hT h90 (vp_in_iff.mpr ⟨by omega, by omega⟩) dX10_candidate_86 (fun w115 H locs hP hD hS hT kp116 => ?_)
          have ke117 : KF 1 T ws w115 := KF.tr ke105 (KF.kp kp116 h90 (by decide))
          have ke118 : KF 6 T ws w115 := KF.tr ke106 (KF.kp kp116 h90 (by decide))
          have hk119 := kp116 _ _ hk107 (rne ht0 h90 (by decide))
          have hk120 := kp116 _ _ hk108 (rne h21 h90 (by decide))
          obtain ⟨g121, eg121, hT⟩ : ∃ gz, gz = gset g109 a72 x70.toNatClampNeg p3 ∧ TW Y Z T gz q w115 := ⟨_, rfl, hT⟩
          have hg122 : g121 a1 0 = x66 := by rw [eg121, gset_ne (rne h21 h90 (by decide))]; exact hg110
          have hg123 : g121 a1 2 = x68 := by rw [eg121, gset_ne (rne h21 h90 (by decide))]; exact hg111
          have hg124 : g121 a1 4 = x70 := by rw [eg121, gset_ne (rne h21 h90 (by decide))]; exact hg112
          have hg125 : g121 a1 7 = x73 := by rw [eg121, gset_ne (rne h21 h90 (by decide))]; exact hg113
          have hg126 : g121 a1 10 = x76 := by rw [eg121, gset_ne (rne h21 h90 (by decide))]; exact hg114
          refine lv_aload_n hx hb dX10_candidate_87 rfl (lv_at hl 1 rfl) ?_
          refine va_get (D := D) (ci := 10) (v := .ref a1) (C := RX10) (T := TX10) (N := 20) hx hb hg inGX10 hown hKN.1 hP p42 hk119 rfl 0 (by decide) (hg _ kw_349) (fun _ h9 => h9) rfl dX10_candidate_88 ?_
          refine lv_dup hx hb dX10_candidate_91 rfl ?_
          refine va_getN (D := D) (ci := 6) (v := .int x70) (C := RX6) (T := TX6) (N := 13) hx hb hg inGX6 hown hKN.1 hP p100 hk120 rfl 4 (by decide) (va_Nw.use rfl (hKN.2.1 _ kn_48 rfl)) (fun _ h9 => h9) rfl dX10_candidate_92 ?_
          refine lv_iconst (v := 1) hx hb dX10_candidate_95 (by decide) ?_
          refine lv_iadd hx hb dX10_candidate_96 ?_
          refine lv_topi (fun v127 ev127 => ?_)
          have hv127 := i_add (Eq.refl x70.toInt) (show (1 : Int32).toInt = 1 by decide) ev127 (by omega) (by omega)
          refine va_putN (D := D) (ci := 6) (v := .int v127) (ty := .int) (C := RX6) (T := TX6) (N := 13) hx hb hg inGX6 tyX6 tyX6_ok nmX6 hown hKN.1 hP hD hS p100 hk120 rfl 4 (by decide) (va_Nw.use rfl (hKN.2.1 _ kn_48 rfl)) (fun _ h9 => h9) rfl (by decide +kernel) rfl rfl (Nat.le_of_ble_eq_true rfl) dX10_candidate_97 (fun H locs hP hD2 hS => ?_)
          obtain ⟨w128, g131, eg131, hP, hD, hT, hk130, kp129⟩ : ∃ wz gz, gz = gset g121 a1 4 v127 ∧ va_P D vwCl wz H ∧ va_D A wz ∧ TW Y Z T gz q wz ∧ wz[p100]? = some (a1, .inr (6, (.int x66 :: .ref a67 :: .int x68 :: .ref a69 :: .int v127 :: .ref a71 :: .ref a72 :: .int x73 :: .ref a74 :: .ref a75 :: .int x76 :: .ref a77 :: .int x78 :: []))) ∧ Kp a1 w115 wz := ⟨_, _, rfl, hP, hD2, tw_sg (k := 2) (g2 := gset g121 a1 4 v127) (q2 := q) hT hD hk120 h21 (fun _ hc => gset_ne hc) (fun _ _ => rfl) (show Sh2 Y Z T ((gset g121 a1 4 v127) a1) (q a1) 0 0 _ from ⟨x66, a67, x68, a69, v127, a71, a72, x73, a74, a75, x76, a77, x78, rfl, by omega, ((gs_ne (by decide)).trans hg122), h81, h82, by omega, ((gs_ne (by decide)).trans hg123), h85, by omega, gs_eq, h88, h89, h90, h91, by omega, ((gs_ne (by decide)).trans hg125), h94, h95, by omega, ((gs_ne (by decide)).trans hg126), h98, by omega⟩), sw_eq hk120, sw_kp hk120⟩
          have hg132 : g131 a1 0 = x66 := by rw [eg131]; exact ((gs_ne (by decide)).trans hg122)
          have hg133 : g131 a1 2 = x68 := by rw [eg131]; exact ((gs_ne (by decide)).trans hg123)
          have hg134 : g131 a1 4 = v127 := by rw [eg131]; exact gs_eq
          have hg135 : g131 a1 7 = x73 := by rw [eg131]; exact ((gs_ne (by decide)).trans hg125)
          have hg136 : g131 a1 10 = x76 := by rw [eg131]; exact ((gs_ne (by decide)).trans hg126)
          have ke137 : KF 1 T ws w128 := KF.tr ke117 (KF.kp kp129 h21 (by decide))
          have ke138 : KF 6 T ws w128 := KF.tr ke118 (KF.kp kp129 h21 (by decide))
          have hk139 := kp129 _ _ hk119 (rne ht0 h21 (by decide))
          refine lv_aload_n hx hb dX10_candidate_100 rfl (lv_at hl 1 rfl) ?_
          refine va_get (D := D) (ci := 10) (v := .ref a1) (C := RX10) (T := TX10) (N := 20) hx hb hg inGX10 hown hKN.1 hP p42 hk139 rfl 0 (by decide) (hg _ kw_349) (fun _ h9 => h9) rfl dX10_candidate_101 ?_
          refine va_getN (D := D) (ci := 6) (v := .int v127) (C := RX6) (T := TX6) (N := 13) hx hb hg inGX6 hown hKN.1 hP p100 hk130 rfl 4 (by decide) (va_Nw.use rfl (hKN.2.1 _ kn_48 rfl)) (fun _ h9 => h9) rfl dX10_candidate_104 ?_
          refine lv_iconst (v := 1) hx hb dX10_candidate_107 (by decide) ?_
          refine lv_isub hx hb dX10_candidate_108 ?_
          refine lv_topi (fun v140 ev140 => ?_)
          have hv140 := i_sub (Eq.refl v127.toInt) (show (1 : Int32).toInt = 1 by decide) ev140 (by omega) (by omega)
          refine W.widen (k := 0) (n := 0) (Nat.le_of_ble_eq_true rfl) (Nat.le_of_ble_eq_true rfl) ?_
          exact W.iret (v := v140) hx hb hr (fun t ht hW => ⟨⟨(v140, w128, g131), rfl, ⟨hT, ke137, ke138, (show ∀ s0, q p0 0 = some s0 → GO T g g131 s0 4 from (fun s0 hs => by obtain rfl : s0 = a1 := Option.some.inj (hs.symm.trans h22); exact ⟨_, GS.of (GA.tr (GA.tr GA.rf (GA.st eg109 h88)) (GA.st eg121 h90)) eg131 h21⟩))⟩, CB.mk ht hP hD⟩, hS.F ht⟩) hS.2.2 dX10_candidate_109
        · skip
          have c102 := i_nlt (Eq.refl x70.toInt) (show (12 : Int32).toInt = 12 by decide) c102
          refine lv_iconst (v := (-1)) hx hb dX10_candidate_53 (by decide) ?_
          refine W.widen (k := 0) (n := 0) (Nat.le_of_ble_eq_true rfl) (Nat.le_of_ble_eq_true rfl) ?_
          have zim1 : ((-1) : Int32).toInt = -1 := by decide
          exact W.iret (v := (-1)) hx hb hr (fun t ht hW => ⟨⟨(((-1)), ws, g), rfl, ⟨hT, KF.rf, KF.rf, (show ∀ s0, q p0 0 = some s0 → GO T g g s0 4 from (fun s0 _ => ⟨_, GS.rf⟩))⟩, CB.mk ht hP hD⟩, hS.F ht⟩) hS.2.2 dX10_candidate_54
      · obtain rfl : u58 = 0 := i_is c63 (by decide)
        refine W.eq (g2 := F0 m 26 ls [.int 0]) rfl ?_
        refine lv_if_eq (tgt := 33) hx hb dX10_candidate_26 (by decide) (fun c141 => ?_) (fun c141 => ?_)
        rotate_left
        · exact absurd c141 (by decide)
        refine lv_iconst (v := 0) hx hb dX10_candidate_33 (by decide) ?_
        refine lv_istore (lv' := [(4, .int 0), (0, .ref p0), (1, .int p1), (2, .int p2), (3, .int p3)]) hx hb dX10_candidate_34 hl (by decide) rfl (fun ls hl => ?_)
        refine lv_iload hx hb dX10_candidate_36 (lv_at hl 0 rfl) ?_
        refine lv_if_eq (tgt := 53) hx hb dX10_candidate_38 (by decide) (fun c142 => ?_) (fun c142 => ?_)
        rotate_left
        · exact absurd c142 (by decide)
        refine lv_iconst (v := (-1)) hx hb dX10_candidate_53 (by decide) ?_
        refine W.widen (k := 0) (n := 0) (Nat.le_of_ble_eq_true rfl) (Nat.le_of_ble_eq_true rfl) ?_
        have zim1 : ((-1) : Int32).toInt = -1 := by decide
        exact W.iret (v := (-1)) hx hb hr (fun t ht hW => ⟨⟨(((-1)), ws, g), rfl, ⟨hT, KF.rf, KF.rf, (show ∀ s0, q p0 0 = some s0 → GO T g g s0 4 from (fun s0 _ => ⟨_, GS.rf⟩))⟩, CB.mk ht hP hD⟩, hS.F ht⟩) hS.2.2 dX10_candidate_54
    · obtain rfl : u51 = 0 := i_is c56 (by decide)
      have zi0 : (0 : Int32).toInt = 0 := by decide
      refine W.eq (g2 := F0 m 15 ls [.int 0]) rfl ?_
      refine lv_if_eq (tgt := 33) hx hb dX10_candidate_15 (by decide) (fun c143 => ?_) (fun c143 => ?_)
      rotate_left
      · exact absurd c143 (by decide)
      refine lv_iconst (v := 0) hx hb dX10_candidate_33 (by decide) ?_
      refine lv_istore (lv' := [(4, .int 0), (0, .ref p0), (1, .int p1), (2, .int p2), (3, .int p3)]) hx hb dX10_candidate_34 hl (by decide) rfl (fun ls hl => ?_)
      refine lv_iload hx hb dX10_candidate_36 (lv_at hl 0 rfl) ?_
      refine lv_if_eq (tgt := 53) hx hb dX10_candidate_38 (by decide) (fun c144 => ?_) (fun c144 => ?_)
      rotate_left
      · exact absurd c144 (by decide)
      refine lv_iconst (v := (-1)) hx hb dX10_candidate_53 (by decide) ?_
      refine W.widen (k := 0) (n := 0) (Nat.le_of_ble_eq_true rfl) (Nat.le_of_ble_eq_true rfl) ?_
      have zim1 : ((-1) : Int32).toInt = -1 := by decide
      exact W.iret (v := (-1)) hx hb hr (fun t ht hW => ⟨⟨(((-1)), ws, g), rfl, ⟨hT, KF.rf, KF.rf, (show ∀ s0, q p0 0 = some s0 → GO T g g s0 4 from (fun s0 _ => ⟨_, GS.rf⟩))⟩, CB.mk ht hP hD⟩, hS.F ht⟩) hS.2.2 dX10_candidate_54
  · obtain rfl : u44 = 0 := i_is c49 (by decide)
    have zi0 : (0 : Int32).toInt = 0 := by decide
    clear hw48
    refine W.eq (g2 := F0 m 5 ls [.int 0]) rfl ?_
    refine lv_if_eq (tgt := 33) hx hb dX10_candidate_5 (by decide) (fun c145 => ?_) (fun c145 => ?_)
    rotate_left
    · exact absurd c145 (by decide)
    refine lv_iconst (v := 0) hx hb dX10_candidate_33 (by decide) ?_
    refine lv_istore (lv' := [(4, .int 0), (0, .ref p0), (1, .int p1), (2, .int p2), (3, .int p3)]) hx hb dX10_candidate_34 hl (by decide) rfl (fun ls hl => ?_)
    refine lv_iload hx hb dX10_candidate_36 (lv_at hl 0 rfl) ?_
    refine lv_if_eq (tgt := 53) hx hb dX10_candidate_38 (by decide) (fun c146 => ?_) (fun c146 => ?_)
    rotate_left
    · exact absurd c146 (by decide)
    refine lv_iconst (v := (-1)) hx hb dX10_candidate_53 (by decide) ?_
    refine W.widen (k := 0) (n := 0) (Nat.le_of_ble_eq_true rfl) (Nat.le_of_ble_eq_true rfl) ?_
    have zim1 : ((-1) : Int32).toInt = -1 := by decide
    exact W.iret (v := (-1)) hx hb hr (fun t ht hW => ⟨⟨(((-1)), ws, g), rfl, ⟨hT, KF.rf, KF.rf, (show ∀ s0, q p0 0 = some s0 → GO T g g s0 4 from (fun s0 _ => ⟨_, GS.rf⟩))⟩, CB.mk ht hP hD⟩, hS.F ht⟩) hS.2.2 dX10_candidate_54
set_option maxHeartbeats 4000000 in
set_option maxRecDepth 100000 in
theorem x_imageE (l : Launch) (D : va_G) (Y : Nat → ClassId) (Z : Nat → Nat) (sz : Nat) (ws : va_W) (T : RT) (g : GN) (q : GQ)  (p0 : Nat) (p1 : Int32) (hT : TW Y Z T g q ws) (ht0 : T p0 = (1, 0, 0)) : Met l yX10_image (.code yX10_image cX10_image 3 (some .int) :: GW) ({ frames := 4, cells := 32, slots := 7753, locals := 85 }) (va_Pc [.ref p0, .int p1] (CPC D Y Z ws sz)) (QG (S := Int32 × va_W × RT × GN × GQ) (fun u => some (.int u.1)) (fun u => TLe T u.2.2.1 ∧ TW Y Z u.2.2.1 u.2.2.2.1 u.2.2.2.2 u.2.1 ∧ KF 1 T ws u.2.1 ∧ KF 6 T ws u.2.1 ∧ (∀ s0 ia, q p0 0 = some s0 → q p0 1 = some ia → ((0 ≤ p1.toInt ∧ p1.toInt ≤ 3) ∧ u.1 = g s0 0 ∧ IMC T u.2.2.1 g u.2.2.2.1 q u.2.2.2.2 p0 s0 ia p1.toNatClampNeg) ∨ (¬ (0 ≤ p1.toInt ∧ p1.toInt ≤ 3) ∧ u.1.toInt = -1 ∧ u.2.2.2.1 = g ∧ u.2.2.2.2 = q))) (fun u => CB D u.2.1 (va_A ws sz)) (va_A ws sz)) 32 7753 (va_A ws sz) := by
  refine Met.ofW (cc := cX10_image) (maxL := 3) (ret := (some .int)) (by decide) rfl ?_
  intro p e s m args below meth c s₁ B hml hv
  obtain ⟨rfl, ⟨hsz, hP, hKN, hD0⟩, hSZ⟩ := hv
  have hx := B.exec
  have hb := B.bytes
  have hr := B.returns
  have hts := atoms_spec (ws := .code yX10_image cX10_image 3 (some .int) :: GW) B.pre
  have hg : ∀ w ∈ GW, w.before _ s = true := fun w h => hts w (List.mem_cons_of_mem _ h)
  have hown : s.vm.findClass RX10 = some m.cls := findClass_of_methodNamed B.named
  have hlocks := B.notSynchronized
  subst hsz
  have hD := hD0.self (sz := s.heap.size)
  generalize hAe : va_A ws s.heap.size = A at hD hSZ ⊢
  have hA : ∀ q : Nat, s.heap.size ≤ q → A q := fun q h => by rw [← hAe]; exact Or.inr h
  clear hAe hD0 hts B
  have hl := lv_entry ([.ref p0, .int p1]) (n := 3) (Nat.le_of_ble_eq_true rfl)
  rw [lg_entry_eq]
  generalize (lg_sl ([.ref p0, .int p1]) ++ List.replicate (3 - (lg_sl ([.ref p0, .int p1])).length) Slot.unset).toArray = ls at hl ⊢
  have hl : lv_has ls 3 [(0, .ref p0), (1, .int p1)] := hl
  refine w_start (A0 := A) hP (fun H locs hP hS => ?_)
  refine ok1 hT ht0 (fun p42 a1 a2 a3 a4 a5 x6 x7 x8 a9 a10 a11 a12 a13 a14 a15 a16 a17 x18 a19 a20 hk43 h21 h22 h23 h24 h25 h26 h27 h28 h29 h30 h31 h32 h33 h34 h35 h36 h37 h38 h39 h40 h41 => ?_)
  refine lv_iload_n hx hb dX10_image_0 rfl (lv_at hl 1 rfl) ?_
  refine lv_iconst (v := 0) hx hb dX10_image_1 (by decide) ?_
  refine lv_iconst (v := 3) hx hb dX10_image_2 (by decide) ?_
  have zi0 : (0 : Int32).toInt = 0 := by decide
  have zi3 : (3 : Int32).toInt = 3 := by decide
  refine cg0 (rn_S (As := [.int p1, .int 0, .int 3]) (rest := []) (x_X10_isWithin l D Y Z H.size p1 0 3) ⟨hx, hb, hml, hown, hg⟩ lk_X10_100 ⟨CP.blind, CP.at nilP hKN (nilD (A := fun _ => True))⟩ ⟨⟨rfl, rfl⟩, ⟨Nat.le_of_ble_eq_true rfl, Nat.le_of_ble_eq_true rfl⟩, ⟨(Nat.le_of_ble_eq_true rfl), (Nat.le_of_ble_eq_true rfl)⟩⟩ hl.1 rfl (Nat.le_of_ble_eq_true rfl) dX10_image_3) hP hS hA (fun u44 H locs hw45 hP hS => ?_)
  obtain ⟨hw47, hw48⟩ : (((0 : Int32).toInt ≤ p1.toInt ∧ p1.toInt ≤ (3 : Int32).toInt ∧ u44.toInt = 1) ∨ (¬ ((0 : Int32).toInt ≤ p1.toInt ∧ p1.toInt ≤ (3 : Int32).toInt) ∧ u44.toInt = 0)) ∧ (0 ≤ u44.toInt ∧ u44.toInt ≤ 1) := hw45
  refine W.eq (g2 := F0 m 6 ls [.int u44]) rfl ?_
  rcases (show u44.toInt = 1 ∨ u44.toInt = 0 by omega) with c49 | c49
  · obtain rfl : u44 = 1 := i_is c49 (by decide)
    have zi1 : (1 : Int32).toInt = 1 := by decide
    refine W.eq (g2 := F0 m 6 ls [.int 1]) rfl ?_
    refine lv_if_ne (tgt := 11) hx hb dX10_image_6 (by decide) (fun c50 => ?_) (fun c50 => ?_)
    rotate_left
    · exact absurd c50 (by decide)
    refine lv_aload_n hx hb dX10_image_11 rfl (lv_at hl 0 rfl) ?_
    refine va_get (D := D) (ci := 10) (v := .ref a2) (C := RX10) (T := TX10) (N := 20) hx hb hg inGX10 hown hKN.1 hP p42 hk43 rfl 1 (by decide) (hg _ kw_350) (fun _ h9 => h9) rfl dX10_image_12 ?_
    refine lv_iload_n hx hb dX10_image_15 rfl (lv_at hl 1 rfl) ?_
    refine tr_ld19 hx hb hKN hP hT h23 (vp_in_iff.mpr ⟨by omega, by omega⟩) dX10_image_16 (fun r51 hr51 qr51 => ?_)
    refine W.eq (g2 := F0 m 17 ls [va_rf r51]) rfl ?_
    rcases r51 with _ | b52
    · skip
      refine W.eq (g2 := F0 m 17 ls [.null]) rfl ?_
      refine lv_astore_nN (lv' := [(2, .null), (0, .ref p0), (1, .int p1)]) hx hb dX10_image_17 rfl hl (by decide) rfl (fun ls hl => ?_)
      refine lv_aload_nN hx hb dX10_image_18 rfl (lv_at hl 0 rfl) ?_
      refine lv_ifnonnullN hx hb dX10_image_19 ?_
      refine va_new (ci := 6) (fs := (.int 0 :: .null :: .int 0 :: .null :: .int 0 :: .null :: .null :: .int 0 :: .null :: .null :: .int 0 :: .null :: .int 0 :: [])) (C := RX6) (T := TX6) (N := 13) hx hb hg inGX6 tyX6 tyX6_ok hown (hg _ kw_29) (hg _ kw_30) (hg _ kw_2) hKN.1 hP hD hS hA rfl (fun j hj => by rcases (show j = 0 ∨ j = 1 ∨ j = 2 ∨ j = 3 ∨ j = 4 ∨ j = 5 ∨ j = 6 ∨ j = 7 ∨ j = 8 ∨ j = 9 ∨ j = 10 ∨ j = 11 ∨ j = 12 by omega) with rfl | rfl | rfl | rfl | rfl | rfl | rfl | rfl | rfl | rfl | rfl | rfl | rfl <;> rfl) (Nat.le_of_ble_eq_true rfl) (Nat.le_of_ble_eq_true rfl) dX10_image_22 (fun b53 H hP hD hS => ?_)
      refine W.widen (k := 1) (n := 13) (Nat.le_of_ble_eq_true rfl) (Nat.le_of_ble_eq_true rfl) ?_
      refine lv_dup hx hb dX10_image_25 rfl ?_
      have hP54 : va_P D vwCl [(b53, .inr (6, (.int 0 :: .null :: .int 0 :: .null :: .int 0 :: .null :: .null :: .int 0 :: .null :: .null :: .int 0 :: .null :: .int 0 :: [])))] H := va_P.last hP
      have hD55 : va_D A [(b53, .inr (6, (.int 0 :: .null :: .int 0 :: .null :: .int 0 :: .null :: .null :: .int 0 :: .null :: .null :: .int 0 :: .null :: .int 0 :: [])))] := va_D.last hD
      refine cgn (rn_NI (As := []) (rest := [.ref b53]) (b := b53) (c_X6 l D Y Z H.size b53  ) ⟨hx, hb, hml, hown, hg⟩ hKN lk_X10_9 ⟨CP.blind, CP.at hP54 hKN hD55⟩ ⟨⟨rfl, rfl⟩, ⟨Nat.le_of_ble_eq_true rfl, Nat.le_of_ble_eq_true rfl⟩, ⟨(Nat.le_of_ble_eq_true rfl), (Nat.le_of_ble_eq_true rfl)⟩⟩ hl.1 rfl (Nat.le_of_ble_eq_true rfl) dX10_image_26) hP hD hS hA (fun u56 H locs hw57 hP hD hS => ?_)
      refine W.widen (k := 8) (n := 505) (Nat.le_of_ble_eq_true rfl) (Nat.le_of_ble_eq_true rfl) ?_
      refine W.eq (g2 := F0 m 29 ls [.ref b53]) rfl ?_
      obtain ⟨w59, T58, g62, q63, hP, hD, hT, le60, ht61, ex64⟩ := nw_X6 (p1.toNatClampNeg + 1) hT hP hD
      have ke65 : KF 1 T ws w59 := KF.tr KF.rf (KF.ex ex64.1)
      have ke66 : KF 6 T ws w59 := KF.tr KF.rf (KF.ex ex64.1)
      have hk67 := ex64.1 _ _ hk43
      have hg68 := (congrFun (ex64.2.2 p0 (by rw [ht0]; exact Nat.succ_ne_zero _)) 0).trans h22
      have hg69 := (congrFun (ex64.2.2 p0 (by rw [ht0]; exact Nat.succ_ne_zero _)) 1).trans h24
      have ge70 : GE T g g62 := GE.tr GE.rf (GE.ex ex64.2.1)
      refine lv_astore_n (lv' := [(2, .ref b53), (0, .ref p0), (1, .int p1)]) hx hb dX10_image_29 rfl hl (by decide) rfl (fun ls hl => ?_)
      refine lv_aload_n hx hb dX10_image_30 rfl (lv_at hl 1 rfl) ?_
      refine va_get (D := D) (ci := 10) (v := .ref a2) (C := RX10) (T := TX10) (N := 20) hx hb hg inGX10 hown hKN.1 hP p42 hk67 rfl 1 (by decide) (hg _ kw_350) (fun _ h9 => h9) rfl dX10_image_31 ?_
      refine lv_iload_n hx hb dX10_image_34 rfl (lv_at hl 2 rfl) ?_
      refine lv_aload_n hx hb dX10_image_35 rfl (lv_at hl 0 rfl) ?_
      refine tr_st19 hx hb hKN hP hD hS hT (le60.up h23) ht61 (vp_in_iff.mpr ⟨by omega, by omega⟩) dX10_image_36 (fun w71 H locs hP hD hS hT kp72 => ?_)
      have ke73 : KF 1 T ws w71 := KF.tr ke65 (KF.le (by decide) le60 (KF.kp kp72 (le60.up h23) (by decide)))
      have ke74 : KF 6 T ws w71 := KF.tr ke66 (KF.le (by decide) le60 (KF.kp kp72 (le60.up h23) (by decide)))
      have hk75 := kp72 _ _ hk67 (rne (le60.up ht0) (le60.up h23) (by decide))
      obtain ⟨q76, eq76, hT⟩ : ∃ qz, qz = qset q63 a2 p1.toNatClampNeg (some b53) ∧ TW Y Z T58 g62 qz w71 := ⟨_, rfl, hT⟩
      have hg77 : q76 p0 0 = some a1 := by rw [eq76, qset_ne (rne (le60.up ht0) (le60.up h23) (by decide))]; exact hg68
      have hg78 : q76 p0 1 = some a2 := by rw [eq76, qset_ne (rne (le60.up ht0) (le60.up h23) (by decide))]; exact hg69
      refine lv_aload_n hx hb dX10_image_37 rfl (lv_at hl 0 rfl) ?_
      refine lv_aload_n hx hb dX10_image_38 rfl (lv_at hl 1 rfl) ?_
      refine va_get (D := D) (ci := 10) (v := .ref a1) (C := RX10) (T := TX10) (N := 20) hx hb hg inGX10 hown hKN.1 hP p42 hk75 rfl 0 (by decide) (hg _ kw_349) (fun _ h9 => h9) rfl dX10_image_39 ?_
      refine ok2 hT ht61 (fun p113 x79 a80 x81 a82 x83 a84 a85 x86 a87 a88 x89 a90 x91 hk114 h92 h93 h94 h95 h96 h97 h98 h99 h100 h101 h102 h103 h104 h105 h106 h107 h108 h109 h110 h111 h112 => ?_)
      refine cga (rn_NV (As := [.ref a1]) (rest := []) (b := b53) (x_becomeE l D Y Z H.size w71 T58 g62 q76 (p1.toNatClampNeg + 1) 0 b53 a1 hT ht61 (le60.up h21) (rne2 (le60.up h21) ht61 (Ne.symm (Nat.succ_ne_zero _)))) ⟨hx, hb, hml, hown, hg⟩ hKN lk_X10_429 ⟨CPC.blind, va_recv hKN.1 hP (ci := 6) (q0 := p113) rfl hk114, CPC.at hP hKN hD hSZ hS hA⟩ ⟨⟨rfl, rfl⟩, ⟨Nat.le_of_ble_eq_true rfl, Nat.le_of_ble_eq_true rfl⟩, ⟨(Nat.le_of_ble_eq_true rfl), (Nat.le_of_ble_eq_true rfl)⟩⟩ hl.1 rfl (Nat.le_of_ble_eq_true rfl) dX10_image_42) hP hD hS hA (fun u115 H locs hw116 hP hD hS => ?_)
      refine W.widen (k := 32) (n := 7753) (Nat.le_of_ble_eq_true rfl) (Nat.le_of_ble_eq_true rfl) ?_
      obtain ⟨w117, T118, g119, q120⟩ := u115
      obtain ⟨le121, hT, ke122, ke123, qe124, hw125⟩ : TLe T58 T118 ∧ TW Y Z T118 g119 q120 w117 ∧ KF 1 T58 w71 w117 ∧ KF 6 T58 w71 w117 ∧ QE T58 q76 q120 ∧ (BE5 g62 g119 b53 a1 ∧ G2 T58 b53 g62 g119) := hw116
      have hk126 := ke122 _ _ hk75 (show (T58 p0).1 = 1 by rw [(le60.up ht0)])
      have ke127 : KF 1 T ws w117 := KF.tr ke73 (KF.le (by decide) le60 ke122)
      have ke128 : KF 6 T ws w117 := KF.tr ke74 (KF.le (by decide) le60 ke123)
      refine W.eq (g2 := F0 m 45 ls []) rfl ?_
      refine lv_aload_n hx hb dX10_image_45 rfl (lv_at hl 1 rfl) ?_
      refine ok1 hT (le121.up (le60.up ht0)) (fun p170 a129 a130 a131 a132 a133 x134 x135 x136 a137 a138 a139 a140 a141 a142 a143 a144 a145 x146 a147 a148 hk171 h149 h150 h151 h152 h153 h154 h155 h156 h157 h158 h159 h160 h161 h162 h163 h164 h165 h166 h167 h168 h169 => ?_)
      refine va_get (D := D) (ci := 10) (v := .ref a129) (C := RX10) (T := TX10) (N := 20) hx hb hg inGX10 hown hKN.1 hP p170 hk171 rfl 0 (by decide) (hg _ kw_349) (fun _ h9 => h9) rfl dX10_image_46 ?_
      refine ok2 hT h149 (fun p206 x172 a173 x174 a175 x176 a177 a178 x179 a180 a181 x182 a183 x184 hk207 h185 h186 h187 h188 h189 h190 h191 h192 h193 h194 h195 h196 h197 h198 h199 h200 h201 h202 h203 h204 h205 => ?_)
      refine va_getN (D := D) (ci := 6) (v := .int x172) (C := RX6) (T := TX6) (N := 13) hx hb hg inGX6 hown hKN.1 hP p206 hk207 rfl 0 (by decide) (va_Nw.use rfl (hKN.2.1 _ kn_41 rfl)) (fun _ h9 => h9) rfl dX10_image_49 ?_
      refine W.widen (k := 32) (n := 7753) (Nat.le_of_ble_eq_true rfl) (Nat.le_of_ble_eq_true rfl) ?_
      exact W.iret (v := x172) hx hb hr (fun t ht hW => ⟨⟨(x172, w117, T118, g119, q120), rfl, ⟨(le60.tr le121), hT, ke127, ke128, (show ∀ s0 ia, q p0 0 = some s0 → q p0 1 = some ia → ((0 ≤ p1.toInt ∧ p1.toInt ≤ 3) ∧ x172 = g s0 0 ∧ IMC T T118 g g119 q q120 p0 s0 ia p1.toNatClampNeg) ∨ (¬ (0 ≤ p1.toInt ∧ p1.toInt ≤ 3) ∧ x172.toInt = -1 ∧ g119 = g ∧ q120 = q) from (fun s0 ia hs hi => by obtain rfl : s0 = a1 := Option.some.inj (hs.symm.trans h22); obtain rfl : ia = a2 := Option.some.inj (hi.symm.trans h24); exact Or.inl ⟨⟨by omega, by omega⟩, IMC.of ht0 h21 h23 le60 le121 ht61 (ex64.2.1) (fun a h0 hne => by rw [eq76, qset_ne hne]; exact ex64.2.2 a h0) (by rw [eq76]; exact qs_eq) (fun j hj => by rw [eq76, qs_ne hj, ex64.2.2 _ (by rw [h23]; show (19 : Nat) ≠ 0; decide)]) hw125 qe124 h22 h150 h186⟩))⟩, CB.mk ht hP hD⟩, hS.F ht⟩) hS.2.2 dX10_image_52
    · skip
      have ht208 := hr51 b52 rfl
      refine W.eq (g2 := F0 m 17 ls [.ref b52]) rfl ?_
      refine lv_astore_n (lv' := [(2, .ref b52), (0, .ref p0), (1, .int p1)]) hx hb dX10_image_17 rfl hl (by decide) rfl (fun ls hl => ?_)
      refine lv_aload_n hx hb dX10_image_18 rfl (lv_at hl 0 rfl) ?_
      refine lv_ifnonnull (tgt := 37) hx hb dX10_image_19 (by decide) ?_
      refine lv_aload_n hx hb dX10_image_37 rfl (lv_at hl 0 rfl) ?_
      refine lv_aload_n hx hb dX10_image_38 rfl (lv_at hl 1 rfl) ?_
      refine va_get (D := D) (ci := 10) (v := .ref a1) (C := RX10) (T := TX10) (N := 20) hx hb hg inGX10 hown hKN.1 hP p42 hk43 rfl 0 (by decide) (hg _ kw_349) (fun _ h9 => h9) rfl dX10_image_39 ?_
      refine ok2 hT ht208 (fun p243 x209 a210 x211 a212 x213 a214 a215 x216 a217 a218 x219 a220 x221 hk244 h222 h223 h224 h225 h226 h227 h228 h229 h230 h231 h232 h233 h234 h235 h236 h237 h238 h239 h240 h241 h242 => ?_)
      refine cga (rn_NV (As := [.ref a1]) (rest := []) (b := b52) (x_becomeE l D Y Z H.size ws T g q (p1.toNatClampNeg + 1) 0 b52 a1 hT ht208 h21 (rne2 h21 ht208 (Ne.symm (Nat.succ_ne_zero _)))) ⟨hx, hb, hml, hown, hg⟩ hKN lk_X10_429 ⟨CPC.blind, va_recv hKN.1 hP (ci := 6) (q0 := p243) rfl hk244, CPC.at hP hKN hD hSZ hS hA⟩ ⟨⟨rfl, rfl⟩, ⟨Nat.le_of_ble_eq_true rfl, Nat.le_of_ble_eq_true rfl⟩, ⟨(Nat.le_of_ble_eq_true rfl), (Nat.le_of_ble_eq_true rfl)⟩⟩ hl.1 rfl (Nat.le_of_ble_eq_true rfl) dX10_image_42) hP hD hS hA (fun u245 H locs hw246 hP hD hS => ?_)
      refine W.widen (k := 24) (n := 7248) (Nat.le_of_ble_eq_true rfl) (Nat.le_of_ble_eq_true rfl) ?_
      obtain ⟨w247, T248, g249, q250⟩ := u245
      obtain ⟨le251, hT, ke252, ke253, qe254, hw255⟩ : TLe T T248 ∧ TW Y Z T248 g249 q250 w247 ∧ KF 1 T ws w247 ∧ KF 6 T ws w247 ∧ QE T q q250 ∧ (BE5 g g249 b52 a1 ∧ G2 T b52 g g249) := hw246
      have hk256 := ke252 _ _ hk43 (show (T p0).1 = 1 by rw [ht0])
      have ke257 : KF 1 T ws w247 := KF.tr KF.rf ke252
      have ke258 : KF 6 T ws w247 := KF.tr KF.rf ke253
      refine W.eq (g2 := F0 m 45 ls []) rfl ?_
      refine lv_aload_n hx hb dX10_image_45 rfl (lv_at hl 1 rfl) ?_
      refine ok1 hT (le251.up ht0) (fun p300 a259 a260 a261 a262 a263 x264 x265 x266 a267 a268 a269 a270 a271 a272 a273 a274 a275 x276 a277 a278 hk301 h279 h280 h281 h282 h283 h284 h285 h286 h287 h288 h289 h290 h291 h292 h293 h294 h295 h296 h297 h298 h299 => ?_)
      refine va_get (D := D) (ci := 10) (v := .ref a259) (C := RX10) (T := TX10) (N := 20) hx hb hg inGX10 hown hKN.1 hP p300 hk301 rfl 0 (by decide) (hg _ kw_349) (fun _ h9 => h9) rfl dX10_image_46 ?_
      refine ok2 hT h279 (fun p336 x302 a303 x304 a305 x306 a307 a308 x309 a310 a311 x312 a313 x314 hk337 h315 h316 h317 h318 h319 h320 h321 h322 h323 h324 h325 h326 h327 h328 h329 h330 h331 h332 h333 h334 h335 => ?_)
      refine va_getN (D := D) (ci := 6) (v := .int x302) (C := RX6) (T := TX6) (N := 13) hx hb hg inGX6 hown hKN.1 hP p336 hk337 rfl 0 (by decide) (va_Nw.use rfl (hKN.2.1 _ kn_41 rfl)) (fun _ h9 => h9) rfl dX10_image_49 ?_
      refine W.widen (k := 32) (n := 7753) (Nat.le_of_ble_eq_true rfl) (Nat.le_of_ble_eq_true rfl) ?_
      exact W.iret (v := x302) hx hb hr (fun t ht hW => ⟨⟨(x302, w247, T248, g249, q250), rfl, ⟨le251, hT, ke257, ke258, (show ∀ s0 ia, q p0 0 = some s0 → q p0 1 = some ia → ((0 ≤ p1.toInt ∧ p1.toInt ≤ 3) ∧ x302 = g s0 0 ∧ IMC T T248 g g249 q q250 p0 s0 ia p1.toNatClampNeg) ∨ (¬ (0 ≤ p1.toInt ∧ p1.toInt ≤ 3) ∧ x302.toInt = -1 ∧ g249 = g ∧ q250 = q) from (fun s0 ia hs hi => by obtain rfl : s0 = a1 := Option.some.inj (hs.symm.trans h22); obtain rfl : ia = a2 := Option.some.inj (hi.symm.trans h24); exact Or.inl ⟨⟨by omega, by omega⟩, IMC.of ht0 h21 h23 TLe.rf le251 (hr51 _ rfl) (fun _ _ => rfl) (fun _ _ _ => rfl) qr51.symm (fun _ _ => rfl) hw255 qe254 h22 h280 h316⟩))⟩, CB.mk ht hP hD⟩, hS.F ht⟩) hS.2.2 dX10_image_52
  · obtain rfl : u44 = 0 := i_is c49 (by decide)
    refine W.eq (g2 := F0 m 6 ls [.int 0]) rfl ?_
    refine lv_if_ne (tgt := 11) hx hb dX10_image_6 (by decide) (fun c338 => ?_) (fun c338 => ?_)
    · exact absurd c338 (by decide)
    refine lv_iconst (v := (-1)) hx hb dX10_image_9 (by decide) ?_
    refine W.widen (k := 32) (n := 7753) (Nat.le_of_ble_eq_true rfl) (Nat.le_of_ble_eq_true rfl) ?_
    have zim1 : ((-1) : Int32).toInt = -1 := by decide
    exact W.iret (v := (-1)) hx hb hr (fun t ht hW => ⟨⟨(((-1)), ws, T, g, q), rfl, ⟨TLe.rf, hT, KF.rf, KF.rf, (show ∀ s0 ia, q p0 0 = some s0 → q p0 1 = some ia → ((0 ≤ p1.toInt ∧ p1.toInt ≤ 3) ∧ (-1) = g s0 0 ∧ IMC T T g g q q p0 s0 ia p1.toNatClampNeg) ∨ (¬ (0 ≤ p1.toInt ∧ p1.toInt ≤ 3) ∧ ((-1) : Int32).toInt = -1 ∧ g = g ∧ q = q) from (fun s0 ia _ _ => Or.inr ⟨by omega, by decide, rfl, rfl⟩))⟩, CB.mk ht hP hD⟩, hS.F ht⟩) hS.2.2 dX10_image_10
