set_option maxHeartbeats 4000000 in
set_option maxRecDepth 100000 in
theorem x_candidateS (l : Launch) (D : va_G) (Y : Nat → ClassId) (Z : Nat → Nat) (sz : Nat) (ws : va_W) (T : RT) (g : GN) (q : GQ)  (p0 : Nat) (p1 : Int32) (p2 : Int32) (p3 : Int32) (hT : TW Y Z T g q ws) (ht0 : T p0 = (1, 0, 0)) : Met l yX10_candidate (.code yX10_candidate cX10_candidate 5 (some .int) :: GW) ({ frames := 2, cells := 0, slots := 0, locals := 42 }) (va_Pc [.ref p0, .int p1, .int p2, .int p3] (CPC D Y Z ws sz)) (QG (S := Int32 × va_W × GN) (fun u => some (.int u.1)) (fun u => TW Y Z T u.2.2 q u.2.1 ∧ KF 1 T ws u.2.1 ∧ KF 6 T ws u.2.1 ∧ GJ T 0 g u.2.2 ∧ (∀ s0 na wa, q p0 0 = some s0 → q s0 5 = some na → q s0 6 = some wa → CDE g u.2.2 s0 na wa u.1 p2 p3) ∧ (∀ s0 sr, q p0 0 = some s0 → q s0 1 = some sr → NNL g q s0 sr → ((((1 ≤ p2.toInt ∧ p2.toInt ≤ 99) ∧ (0 ≤ p3.toInt ∧ p3.toInt ≤ 9999)) ∧ (0 ≤ p1.toInt ∧ p1.toInt < (g s0 0).toInt) ∧ (g s0 4).toInt < 12) ∧ u.1.toInt = (g s0 4).toInt ∧ UPP T g u.2.2 s0 4) ∨ (¬ (((1 ≤ p2.toInt ∧ p2.toInt ≤ 99) ∧ (0 ≤ p3.toInt ∧ p3.toInt ≤ 9999)) ∧ (0 ≤ p1.toInt ∧ p1.toInt < (g s0 0).toInt) ∧ (g s0 4).toInt < 12) ∧ u.1.toInt = -1 ∧ u.2.2 = g))) (fun u => CB D u.2.1 (va_A ws sz)) (va_A ws sz)) 0 0 (va_A ws sz) := by
  refine Met.ofW (cc := cX10_candidate) (maxL := 5) (ret := (some .int)) (by decide) rfl ?_
  intro p e s m args below meth c s₁ B hml hv
  obtain ⟨rfl, ⟨hsz, hP, hKN, hD0⟩, hSZ⟩ := hv
  have hx := B.exec
  have hb := B.bytes
  have hr := B.returns
  have hts := atoms_spec (ws := .code yX10_candidate cX10_candidate 5 (some .int) :: GW) B.pre
  have hg : ∀ w ∈ GW, w.before _ s = true := fun w h => hts w (List.mem_cons_of_mem _ h)
  have hown : s.vm.findClass RX10 = some m.cls := findClass_of_methodNamed B.named
  have hlocks := B.notSynchronized
  subst hsz
  have hD := hD0.self (sz := s.heap.size)
  generalize hAe : va_A ws s.heap.size = A at hD hSZ ⊢
  have hA : ∀ q : Nat, s.heap.size ≤ q → A q := fun q h => by rw [← hAe]; exact Or.inr h
  clear hAe hD0 hts B
  have hl := lv_entry ([.ref p0, .int p1, .int p2, .int p3]) (n := 5) (Nat.le_of_ble_eq_true rfl)
  rw [lg_entry_eq]
  generalize (lg_sl ([.ref p0, .int p1, .int p2, .int p3]) ++ List.replicate (5 - (lg_sl ([.ref p0, .int p1, .int p2, .int p3])).length) Slot.unset).toArray = ls at hl ⊢
  have hl : lv_has ls 5 [(0, .ref p0), (1, .int p1), (2, .int p2), (3, .int p3)] := hl
  refine w_start (A0 := A) hP (fun H locs hP hS => ?_)
  refine ok1 hT ht0 (fun p42 a1 a2 a3 a4 a5 x6 x7 x8 a9 a10 a11 a12 a13 a14 a15 a16 a17 x18 a19 a20 hk43 h21 h22 h23 h24 h25 h26 h27 h28 h29 h30 h31 h32 h33 h34 h35 h36 h37 h38 h39 h40 h41 => ?_)
  have hT0 := hT
  refine lv_aload_n hx hb dX10_candidate_0 rfl (lv_at hl 0 rfl) ?_
  refine lv_iload_n hx hb dX10_candidate_1 rfl (lv_at hl 1 rfl) ?_
  refine cga (rn_V (As := [.int p1]) (rest := []) (b := p0) (x_isStarS l D Y Z H.size ws T g q p0 p1 hT ht0) ⟨hx, hb, hml, hown, hg⟩ lk_X10_137 ⟨CPC.blind, va_recv hKN.1 hP (ci := 10) (q0 := p42) rfl hk43, CPC.at hP hKN hD hSZ hS hA⟩ ⟨⟨rfl, rfl⟩, ⟨Nat.le_of_ble_eq_true rfl, Nat.le_of_ble_eq_true rfl⟩, ⟨(Nat.le_of_ble_eq_true rfl), (Nat.le_of_ble_eq_true rfl)⟩⟩ hl.1 rfl (Nat.le_of_ble_eq_true rfl) dX10_candidate_2) hP hD hS hA (fun u44 H locs hw45 hP hD hS => ?_)
  obtain ⟨hw47, hw48, hw49⟩ : (0 ≤ u44.toInt ∧ u44.toInt ≤ 1) ∧ (u44.toInt = 1 → (0 ≤ p1.toInt ∧ p1.toInt ≤ 11)) ∧ (∀ s0 sr, q p0 0 = some s0 → q s0 1 = some sr → NNL g q s0 sr → (u44.toInt = 1 ↔ (0 ≤ p1.toInt ∧ p1.toInt < (g s0 0).toInt))) := hw45
  refine W.eq (g2 := F0 m 5 ls [.int u44]) rfl ?_
  rcases (show u44.toInt = 1 ∨ u44.toInt = 0 by omega) with c50 | c50
  · obtain rfl : u44 = 1 := i_is c50 (by decide)
    have zi1 : (1 : Int32).toInt = 1 := by decide
    replace hw48 := hw48 (by decide)
    refine W.eq (g2 := F0 m 5 ls [.int 1]) rfl ?_
    refine lv_if_eq (tgt := 33) hx hb dX10_candidate_5 (by decide) (fun c51 => ?_) (fun c51 => ?_)
    · exact absurd c51 (by decide)
    refine lv_iload_n hx hb dX10_candidate_8 rfl (lv_at hl 2 rfl) ?_
    refine lv_iconst (v := 1) hx hb dX10_candidate_9 (by decide) ?_
    refine lv_bipush (v := 99) hx hb dX10_candidate_10 (by decide) ?_
    have zi99 : (99 : Int32).toInt = 99 := by decide
    refine cg0 (rn_S (As := [.int p2, .int 1, .int 99]) (rest := []) (x_X10_isWithin l D Y Z H.size p2 1 99) ⟨hx, hb, hml, hown, hg⟩ lk_X10_100 ⟨CP.blind, CP.at nilP hKN (nilD (A := fun _ => True))⟩ ⟨⟨rfl, rfl⟩, ⟨Nat.le_of_ble_eq_true rfl, Nat.le_of_ble_eq_true rfl⟩, ⟨(Nat.le_of_ble_eq_true rfl), (Nat.le_of_ble_eq_true rfl)⟩⟩ hl.1 rfl (Nat.le_of_ble_eq_true rfl) dX10_candidate_12) hP hS hA (fun u52 H locs hw53 hP hS => ?_)
    obtain ⟨hw55, hw56⟩ : (((1 : Int32).toInt ≤ p2.toInt ∧ p2.toInt ≤ (99 : Int32).toInt ∧ u52.toInt = 1) ∨ (¬ ((1 : Int32).toInt ≤ p2.toInt ∧ p2.toInt ≤ (99 : Int32).toInt) ∧ u52.toInt = 0)) ∧ (0 ≤ u52.toInt ∧ u52.toInt ≤ 1) := hw53
    refine W.eq (g2 := F0 m 15 ls [.int u52]) rfl ?_
    rcases (show u52.toInt = 1 ∨ u52.toInt = 0 by omega) with c57 | c57
    · obtain rfl : u52 = 1 := i_is c57 (by decide)
      refine W.eq (g2 := F0 m 15 ls [.int 1]) rfl ?_
      refine lv_if_eq (tgt := 33) hx hb dX10_candidate_15 (by decide) (fun c58 => ?_) (fun c58 => ?_)
      · exact absurd c58 (by decide)
      refine lv_iload_n hx hb dX10_candidate_18 rfl (lv_at hl 3 rfl) ?_
      refine lv_iconst (v := 0) hx hb dX10_candidate_19 (by decide) ?_
      refine lv_sipush (v := 9999) hx hb dX10_candidate_20 (by decide) ?_
      have zi0 : (0 : Int32).toInt = 0 := by decide
      have zi9999 : (9999 : Int32).toInt = 9999 := by decide
      refine cg0 (rn_S (As := [.int p3, .int 0, .int 9999]) (rest := []) (x_X10_isWithin l D Y Z H.size p3 0 9999) ⟨hx, hb, hml, hown, hg⟩ lk_X10_100 ⟨CP.blind, CP.at nilP hKN (nilD (A := fun _ => True))⟩ ⟨⟨rfl, rfl⟩, ⟨Nat.le_of_ble_eq_true rfl, Nat.le_of_ble_eq_true rfl⟩, ⟨(Nat.le_of_ble_eq_true rfl), (Nat.le_of_ble_eq_true rfl)⟩⟩ hl.1 rfl (Nat.le_of_ble_eq_true rfl) dX10_candidate_23) hP hS hA (fun u59 H locs hw60 hP hS => ?_)
      obtain ⟨hw62, hw63⟩ : (((0 : Int32).toInt ≤ p3.toInt ∧ p3.toInt ≤ (9999 : Int32).toInt ∧ u59.toInt = 1) ∨ (¬ ((0 : Int32).toInt ≤ p3.toInt ∧ p3.toInt ≤ (9999 : Int32).toInt) ∧ u59.toInt = 0)) ∧ (0 ≤ u59.toInt ∧ u59.toInt ≤ 1) := hw60
      refine W.eq (g2 := F0 m 26 ls [.int u59]) rfl ?_
      rcases (show u59.toInt = 1 ∨ u59.toInt = 0 by omega) with c64 | c64
      · obtain rfl : u59 = 1 := i_is c64 (by decide)
        refine W.eq (g2 := F0 m 26 ls [.int 1]) rfl ?_
        refine lv_if_eq (tgt := 33) hx hb dX10_candidate_26 (by decide) (fun c65 => ?_) (fun c65 => ?_)
        · exact absurd c65 (by decide)
        refine lv_iconst (v := 1) hx hb dX10_candidate_29 (by decide) ?_
        refine lv_goto (tgt := 34) hx hb dX10_candidate_30 (by decide) ?_
        refine lv_istore (lv' := [(4, .int 1), (0, .ref p0), (1, .int p1), (2, .int p2), (3, .int p3)]) hx hb dX10_candidate_34 hl (by decide) rfl (fun ls hl => ?_)
        refine lv_iload hx hb dX10_candidate_36 (lv_at hl 0 rfl) ?_
        refine lv_if_eq (tgt := 53) hx hb dX10_candidate_38 (by decide) (fun c66 => ?_) (fun c66 => ?_)
        · exact absurd c66 (by decide)
        refine lv_aload_n hx hb dX10_candidate_41 rfl (lv_at hl 1 rfl) ?_
        refine va_get (D := D) (ci := 10) (v := .ref a1) (C := RX10) (T := TX10) (N := 20) hx hb hg inGX10 hown hKN.1 hP p42 hk43 rfl 0 (by decide) (hg _ kw_349) (fun _ h9 => h9) rfl dX10_candidate_42 ?_
        refine ok2 hT h21 (fun p101 x67 a68 x69 a70 x71 a72 a73 x74 a75 a76 x77 a78 x79 hk102 h80 h81 h82 h83 h84 h85 h86 h87 h88 h89 h90 h91 h92 h93 h94 h95 h96 h97 h98 h99 h100 => ?_)
        refine va_getN (D := D) (ci := 6) (v := .int x71) (C := RX6) (T := TX6) (N := 13) hx hb hg inGX6 hown hKN.1 hP p101 hk102 rfl 4 (by decide) (va_Nw.use rfl (hKN.2.1 _ kn_48 rfl)) (fun _ h9 => h9) rfl dX10_candidate_45 ?_
        refine lv_bipush (v := 12) hx hb dX10_candidate_48 (by decide) ?_
        refine lv_icmp_lt (tgt := 55) hx hb dX10_candidate_50 (by decide) (fun c103 => ?_) (fun c103 => ?_)
        · skip
          have c103 := i_lt (Eq.refl x71.toInt) (show (12 : Int32).toInt = 12 by decide) c103
          refine lv_aload_n hx hb dX10_candidate_55 rfl (lv_at hl 1 rfl) ?_
          refine va_get (D := D) (ci := 10) (v := .ref a1) (C := RX10) (T := TX10) (N := 20) hx hb hg inGX10 hown hKN.1 hP p42 hk43 rfl 0 (by decide) (hg _ kw_349) (fun _ h9 => h9) rfl dX10_candidate_56 ?_
          refine va_getN (D := D) (ci := 6) (v := .ref a72) (C := RX6) (T := TX6) (N := 13) hx hb hg inGX6 hown hKN.1 hP p101 hk102 rfl 5 (by decide) (va_Nw.use rfl (hKN.2.1 _ kn_50 rfl)) (fun _ h9 => h9) rfl dX10_candidate_59 ?_
          refine lv_aload_n hx hb dX10_candidate_62 rfl (lv_at hl 1 rfl) ?_
          refine va_get (D := D) (ci := 10) (v := .ref a1) (C := RX10) (T := TX10) (N := 20) hx hb hg inGX10 hown hKN.1 hP p42 hk43 rfl 0 (by decide) (hg _ kw_349) (fun _ h9 => h9) rfl dX10_candidate_63 ?_
          refine va_getN (D := D) (ci := 6) (v := .int x71) (C := RX6) (T := TX6) (N := 13) hx hb hg inGX6 hown hKN.1 hP p101 hk102 rfl 4 (by decide) (va_Nw.use rfl (hKN.2.1 _ kn_48 rfl)) (fun _ h9 => h9) rfl dX10_candidate_66 ?_
          refine lv_iload_n hx hb dX10_candidate_69 rfl (lv_at hl 3 rfl) ?_
          refine tr_st14 hx hb hKN hP hD hS hT h89 (vp_in_iff.mpr ⟨by omega, by omega⟩) dX10_candidate_70 (fun w104 H locs hP hD hS hT kp105 => ?_)
          have ke106 : KF 1 T ws w104 := KF.tr KF.rf (KF.kp kp105 h89 (by decide))
          have ke107 : KF 6 T ws w104 := KF.tr KF.rf (KF.kp kp105 h89 (by decide))
          have hk108 := kp105 _ _ hk43 (rne ht0 h89 (by decide))
          have hk109 := kp105 _ _ hk102 (rne h21 h89 (by decide))
          obtain ⟨g110, eg110, hT⟩ : ∃ gz, gz = gset g a72 x71.toNatClampNeg p2 ∧ TW Y Z T gz q w104 := ⟨_, rfl, hT⟩
          have gj111 : GJ T 0 g g110 := GJ.tr GJ.rf (GJ.st eg110 h89)
          have hg112 : g110 a1 0 = x67 := by rw [eg110, gset_ne (rne h21 h89 (by decide))]; exact h81
          have hg113 : g110 a1 2 = x69 := by rw [eg110, gset_ne (rne h21 h89 (by decide))]; exact h85
          have hg114 : g110 a1 4 = x71 := by rw [eg110, gset_ne (rne h21 h89 (by decide))]; exact h88
          have hg115 : g110 a1 7 = x74 := by rw [eg110, gset_ne (rne h21 h89 (by decide))]; exact h94
          have hg116 : g110 a1 10 = x77 := by rw [eg110, gset_ne (rne h21 h89 (by decide))]; exact h98
          refine lv_aload_n hx hb dX10_candidate_71 rfl (lv_at hl 1 rfl) ?_
          refine va_get (D := D) (ci := 10) (v := .ref a1) (C := RX10) (T := TX10) (N := 20) hx hb hg inGX10 hown hKN.1 hP p42 hk108 rfl 0 (by decide) (hg _ kw_349) (fun _ h9 => h9) rfl dX10_candidate_72 ?_
          refine va_getN (D := D) (ci := 6) (v := .ref a73) (C := RX6) (T := TX6) (N := 13) hx hb hg inGX6 hown hKN.1 hP p101 hk109 rfl 6 (by decide) (va_Nw.use rfl (hKN.2.1 _ kn_52 rfl)) (fun _ h9 => h9) rfl dX10_candidate_75 ?_
          refine lv_aload_n hx hb dX10_candidate_78 rfl (lv_at hl 1 rfl) ?_
          refine va_get (D := D) (ci := 10) (v := .ref a1) (C := RX10) (T := TX10) (N := 20) hx hb hg inGX10 hown hKN.1 hP p42 hk108 rfl 0 (by decide) (hg _ kw_349) (fun _ h9 => h9) rfl dX10_candidate_79 ?_
          refine va_getN (D := D) (ci := 6) (v := .int x71) (C := RX6) (T := TX6) (N := 13) hx hb hg inGX6 hown hKN.1 hP p101 hk109 rfl 4 (by decide) (va_Nw.use rfl (hKN.2.1 _ kn_48 rfl)) (fun _ h9 => h9) rfl dX10_candidate_82 ?_
          refine lv_iload_n hx hb dX10_candidate_85 rfl (lv_at hl 4 rfl) ?_
          refine tr_st14 hx hb hKN hP hD hS hT h91 (vp_in_iff.mpr ⟨by omega, by omega⟩) dX10_candidate_86 (fun w117 H locs hP hD hS hT kp118 => ?_)
          have ke119 : KF 1 T ws w117 := KF.tr ke106 (KF.kp kp118 h91 (by decide))
          have ke120 : KF 6 T ws w117 := KF.tr ke107 (KF.kp kp118 h91 (by decide))
          have hk121 := kp118 _ _ hk108 (rne ht0 h91 (by decide))
          have hk122 := kp118 _ _ hk109 (rne h21 h91 (by decide))
          obtain ⟨g123, eg123, hT⟩ : ∃ gz, gz = gset g110 a73 x71.toNatClampNeg p3 ∧ TW Y Z T gz q w117 := ⟨_, rfl, hT⟩
          have gj124 : GJ T 0 g g123 := GJ.tr gj111 (GJ.st eg123 h91)
          have hg125 : g123 a1 0 = x67 := by rw [eg123, gset_ne (rne h21 h91 (by decide))]; exact hg112
          have hg126 : g123 a1 2 = x69 := by rw [eg123, gset_ne (rne h21 h91 (by decide))]; exact hg113
          have hg127 : g123 a1 4 = x71 := by rw [eg123, gset_ne (rne h21 h91 (by decide))]; exact hg114
          have hg128 : g123 a1 7 = x74 := by rw [eg123, gset_ne (rne h21 h91 (by decide))]; exact hg115
          have hg129 : g123 a1 10 = x77 := by rw [eg123, gset_ne (rne h21 h91 (by decide))]; exact hg116
          refine lv_aload_n hx hb dX10_candidate_87 rfl (lv_at hl 1 rfl) ?_
          refine va_get (D := D) (ci := 10) (v := .ref a1) (C := RX10) (T := TX10) (N := 20) hx hb hg inGX10 hown hKN.1 hP p42 hk121 rfl 0 (by decide) (hg _ kw_349) (fun _ h9 => h9) rfl dX10_candidate_88 ?_
          refine lv_dup hx hb dX10_candidate_91 rfl ?_
          refine va_getN (D := D) (ci := 6) (v := .int x71) (C := RX6) (T := TX6) (N := 13) hx hb hg inGX6 hown hKN.1 hP p101 hk122 rfl 4 (by decide) (va_Nw.use rfl (hKN.2.1 _ kn_48 rfl)) (fun _ h9 => h9) rfl dX10_candidate_92 ?_
          refine lv_iconst (v := 1) hx hb dX10_candidate_95 (by decide) ?_
          refine lv_iadd hx hb dX10_candidate_96 ?_
          refine lv_topi (fun v130 ev130 => ?_)
          have hv130 := i_add (Eq.refl x71.toInt) (show (1 : Int32).toInt = 1 by decide) ev130 (by omega) (by omega)
          refine va_putN (D := D) (ci := 6) (v := .int v130) (ty := .int) (C := RX6) (T := TX6) (N := 13) hx hb hg inGX6 tyX6 tyX6_ok nmX6 hown hKN.1 hP hD hS p101 hk122 rfl 4 (by decide) (va_Nw.use rfl (hKN.2.1 _ kn_48 rfl)) (fun _ h9 => h9) rfl (by decide +kernel) rfl rfl (Nat.le_of_ble_eq_true rfl) dX10_candidate_97 (fun H locs hP hD2 hS => ?_)
          obtain ⟨w131, g134, eg134, hP, hD, hT, hk133, kp132⟩ : ∃ wz gz, gz = gset g123 a1 4 v130 ∧ va_P D vwCl wz H ∧ va_D A wz ∧ TW Y Z T gz q wz ∧ wz[p101]? = some (a1, .inr (6, (.int x67 :: .ref a68 :: .int x69 :: .ref a70 :: .int v130 :: .ref a72 :: .ref a73 :: .int x74 :: .ref a75 :: .ref a76 :: .int x77 :: .ref a78 :: .int x79 :: []))) ∧ Kp a1 w117 wz := ⟨_, _, rfl, hP, hD2, tw_sg (k := 2) (g2 := gset g123 a1 4 v130) (q2 := q) hT hD hk122 h21 (fun _ hc => gset_ne hc) (fun _ _ => rfl) (show Sh2 Y Z T ((gset g123 a1 4 v130) a1) (q a1) 0 0 _ from ⟨x67, a68, x69, a70, v130, a72, a73, x74, a75, a76, x77, a78, x79, rfl, by omega, ((gs_ne (by decide)).trans hg125), h82, h83, by omega, ((gs_ne (by decide)).trans hg126), h86, by omega, gs_eq, h89, h90, h91, h92, by omega, ((gs_ne (by decide)).trans hg128), h95, h96, by omega, ((gs_ne (by decide)).trans hg129), h99, by omega⟩), sw_eq hk122, sw_kp hk122⟩
          have hg135 : g134 a1 0 = x67 := by rw [eg134]; exact ((gs_ne (by decide)).trans hg125)
          have hg136 : g134 a1 2 = x69 := by rw [eg134]; exact ((gs_ne (by decide)).trans hg126)
          have hg137 : g134 a1 4 = v130 := by rw [eg134]; exact gs_eq
          have hg138 : g134 a1 7 = x74 := by rw [eg134]; exact ((gs_ne (by decide)).trans hg128)
          have hg139 : g134 a1 10 = x77 := by rw [eg134]; exact ((gs_ne (by decide)).trans hg129)
          have gj140 : GJ T 0 g g134 := GJ.tr gj124 (GJ.st eg134 h21)
          have ke141 : KF 1 T ws w131 := KF.tr ke119 (KF.kp kp132 h21 (by decide))
          have ke142 : KF 6 T ws w131 := KF.tr ke120 (KF.kp kp132 h21 (by decide))
          have hk143 := kp132 _ _ hk121 (rne ht0 h21 (by decide))
          refine lv_aload_n hx hb dX10_candidate_100 rfl (lv_at hl 1 rfl) ?_
          refine va_get (D := D) (ci := 10) (v := .ref a1) (C := RX10) (T := TX10) (N := 20) hx hb hg inGX10 hown hKN.1 hP p42 hk143 rfl 0 (by decide) (hg _ kw_349) (fun _ h9 => h9) rfl dX10_candidate_101 ?_
          refine va_getN (D := D) (ci := 6) (v := .int v130) (C := RX6) (T := TX6) (N := 13) hx hb hg inGX6 hown hKN.1 hP p101 hk133 rfl 4 (by decide) (va_Nw.use rfl (hKN.2.1 _ kn_48 rfl)) (fun _ h9 => h9) rfl dX10_candidate_104 ?_
          refine lv_iconst (v := 1) hx hb dX10_candidate_107 (by decide) ?_
          refine lv_isub hx hb dX10_candidate_108 ?_
          refine lv_topi (fun v144 ev144 => ?_)
          have hv144 := i_sub (Eq.refl v130.toInt) (show (1 : Int32).toInt = 1 by decide) ev144 (by omega) (by omega)
          refine W.widen (k := 0) (n := 0) (Nat.le_of_ble_eq_true rfl) (Nat.le_of_ble_eq_true rfl) ?_
          exact W.iret (v := v144) hx hb hr (fun t ht hW => ⟨⟨(v144, w131, g134), rfl, ⟨hT, ke141, ke142, gj140, (show ∀ s0 na wa, q p0 0 = some s0 → q s0 5 = some na → q s0 6 = some wa → CDE g g134 s0 na wa v144 p2 p3 from (fun s0 na wa hs h8 h9 => by obtain rfl : s0 = a1 := Option.some.inj (hs.symm.trans h22); obtain rfl : na = a72 := Option.some.inj (h8.symm.trans h90); obtain rfl : wa = a73 := Option.some.inj (h9.symm.trans h92); have c9 := congrArg Int32.toInt h88; exact Or.inr ⟨by omega, _, by rw [h88, eg134, eg123, eg110]⟩)), (show ∀ s0 sr, q p0 0 = some s0 → q s0 1 = some sr → NNL g q s0 sr → ((((1 ≤ p2.toInt ∧ p2.toInt ≤ 99) ∧ (0 ≤ p3.toInt ∧ p3.toInt ≤ 9999)) ∧ (0 ≤ p1.toInt ∧ p1.toInt < (g s0 0).toInt) ∧ (g s0 4).toInt < 12) ∧ v144.toInt = (g s0 4).toInt ∧ UPP T g g134 s0 4) ∨ (¬ (((1 ≤ p2.toInt ∧ p2.toInt ≤ 99) ∧ (0 ≤ p3.toInt ∧ p3.toInt ≤ 9999)) ∧ (0 ≤ p1.toInt ∧ p1.toInt < (g s0 0).toInt) ∧ (g s0 4).toInt < 12) ∧ v144.toInt = -1 ∧ g134 = g) from (fun s0 sr hs hq hn => by obtain rfl : s0 = a1 := Option.some.inj (hs.symm.trans h22); have k9 := hw49 _ sr hs hq hn; have c9 := congrArg Int32.toInt h88; exact Or.inl ⟨by omega, by omega, (⟨v130, by omega, UPS.of (G14.tr (G14.tr G14.rf (G14.st eg110 h89)) (G14.st eg123 h91)) eg134 h21⟩ : UPP _ _ _ _ _)⟩))⟩, CB.mk ht hP hD⟩, hS.F ht⟩) hS.2.2 dX10_candidate_109
        · skip
          have c103 := i_nlt (Eq.refl x71.toInt) (show (12 : Int32).toInt = 12 by decide) c103
          refine lv_iconst (v := (-1)) hx hb dX10_candidate_53 (by decide) ?_
          refine W.widen (k := 0) (n := 0) (Nat.le_of_ble_eq_true rfl) (Nat.le_of_ble_eq_true rfl) ?_
          have zim1 : ((-1) : Int32).toInt = -1 := by decide
          exact W.iret (v := (-1)) hx hb hr (fun t ht hW => ⟨⟨(((-1)), ws, g), rfl, ⟨hT, KF.rf, KF.rf, GJ.rf, (show ∀ s0 na wa, q p0 0 = some s0 → q s0 5 = some na → q s0 6 = some wa → CDE g g s0 na wa (-1) p2 p3 from (fun s0 na wa _ _ _ => Or.inl ⟨by decide, rfl⟩)), (show ∀ s0 sr, q p0 0 = some s0 → q s0 1 = some sr → NNL g q s0 sr → ((((1 ≤ p2.toInt ∧ p2.toInt ≤ 99) ∧ (0 ≤ p3.toInt ∧ p3.toInt ≤ 9999)) ∧ (0 ≤ p1.toInt ∧ p1.toInt < (g s0 0).toInt) ∧ (g s0 4).toInt < 12) ∧ ((-1) : Int32).toInt = (g s0 4).toInt ∧ UPP T g g s0 4) ∨ (¬ (((1 ≤ p2.toInt ∧ p2.toInt ≤ 99) ∧ (0 ≤ p3.toInt ∧ p3.toInt ≤ 9999)) ∧ (0 ≤ p1.toInt ∧ p1.toInt < (g s0 0).toInt) ∧ (g s0 4).toInt < 12) ∧ ((-1) : Int32).toInt = -1 ∧ g = g) from (fun s0 sr hs hq hn => by obtain rfl : s0 = a1 := Option.some.inj (hs.symm.trans h22); have k9 := hw49 _ sr hs hq hn; have c9 := congrArg Int32.toInt h88; exact Or.inr ⟨by omega, by decide, rfl⟩))⟩, CB.mk ht hP hD⟩, hS.F ht⟩) hS.2.2 dX10_candidate_54
      · obtain rfl : u59 = 0 := i_is c64 (by decide)
        refine W.eq (g2 := F0 m 26 ls [.int 0]) rfl ?_
        refine lv_if_eq (tgt := 33) hx hb dX10_candidate_26 (by decide) (fun c145 => ?_) (fun c145 => ?_)
        rotate_left
        · exact absurd c145 (by decide)
        refine lv_iconst (v := 0) hx hb dX10_candidate_33 (by decide) ?_
        refine lv_istore (lv' := [(4, .int 0), (0, .ref p0), (1, .int p1), (2, .int p2), (3, .int p3)]) hx hb dX10_candidate_34 hl (by decide) rfl (fun ls hl => ?_)
        refine lv_iload hx hb dX10_candidate_36 (lv_at hl 0 rfl) ?_
        refine lv_if_eq (tgt := 53) hx hb dX10_candidate_38 (by decide) (fun c146 => ?_) (fun c146 => ?_)
        rotate_left
        · exact absurd c146 (by decide)
        refine lv_iconst (v := (-1)) hx hb dX10_candidate_53 (by decide) ?_
        refine W.widen (k := 0) (n := 0) (Nat.le_of_ble_eq_true rfl) (Nat.le_of_ble_eq_true rfl) ?_
        have zim1 : ((-1) : Int32).toInt = -1 := by decide
        exact W.iret (v := (-1)) hx hb hr (fun t ht hW => ⟨⟨(((-1)), ws, g), rfl, ⟨hT, KF.rf, KF.rf, GJ.rf, (show ∀ s0 na wa, q p0 0 = some s0 → q s0 5 = some na → q s0 6 = some wa → CDE g g s0 na wa (-1) p2 p3 from (fun s0 na wa _ _ _ => Or.inl ⟨by decide, rfl⟩)), (show ∀ s0 sr, q p0 0 = some s0 → q s0 1 = some sr → NNL g q s0 sr → ((((1 ≤ p2.toInt ∧ p2.toInt ≤ 99) ∧ (0 ≤ p3.toInt ∧ p3.toInt ≤ 9999)) ∧ (0 ≤ p1.toInt ∧ p1.toInt < (g s0 0).toInt) ∧ (g s0 4).toInt < 12) ∧ ((-1) : Int32).toInt = (g s0 4).toInt ∧ UPP T g g s0 4) ∨ (¬ (((1 ≤ p2.toInt ∧ p2.toInt ≤ 99) ∧ (0 ≤ p3.toInt ∧ p3.toInt ≤ 9999)) ∧ (0 ≤ p1.toInt ∧ p1.toInt < (g s0 0).toInt) ∧ (g s0 4).toInt < 12) ∧ ((-1) : Int32).toInt = -1 ∧ g = g) from (fun s0 sr hs hq hn => by obtain rfl : s0 = a1 := Option.some.inj (hs.symm.trans h22); have k9 := hw49 _ sr hs hq hn; exact Or.inr ⟨by omega, by decide, rfl⟩))⟩, CB.mk ht hP hD⟩, hS.F ht⟩) hS.2.2 dX10_candidate_54
    · obtain rfl : u52 = 0 := i_is c57 (by decide)
      have zi0 : (0 : Int32).toInt = 0 := by decide
      refine W.eq (g2 := F0 m 15 ls [.int 0]) rfl ?_
      refine lv_if_eq (tgt := 33) hx hb dX10_candidate_15 (by decide) (fun c147 => ?_) (fun c147 => ?_)
      rotate_left
      · exact absurd c147 (by decide)
      refine lv_iconst (v := 0) hx hb dX10_candidate_33 (by decide) ?_
      refine lv_istore (lv' := [(4, .int 0), (0, .ref p0), (1, .int p1), (2, .int p2), (3, .int p3)]) hx hb dX10_candidate_34 hl (by decide) rfl (fun ls hl => ?_)
      refine lv_iload hx hb dX10_candidate_36 (lv_at hl 0 rfl) ?_
      refine lv_if_eq (tgt := 53) hx hb dX10_candidate_38 (by decide) (fun c148 => ?_) (fun c148 => ?_)
      rotate_left
      · exact absurd c148 (by decide)
      refine lv_iconst (v := (-1)) hx hb dX10_candidate_53 (by decide) ?_
      refine W.widen (k := 0) (n := 0) (Nat.le_of_ble_eq_true rfl) (Nat.le_of_ble_eq_true rfl) ?_
      have zim1 : ((-1) : Int32).toInt = -1 := by decide
      exact W.iret (v := (-1)) hx hb hr (fun t ht hW => ⟨⟨(((-1)), ws, g), rfl, ⟨hT, KF.rf, KF.rf, GJ.rf, (show ∀ s0 na wa, q p0 0 = some s0 → q s0 5 = some na → q s0 6 = some wa → CDE g g s0 na wa (-1) p2 p3 from (fun s0 na wa _ _ _ => Or.inl ⟨by decide, rfl⟩)), (show ∀ s0 sr, q p0 0 = some s0 → q s0 1 = some sr → NNL g q s0 sr → ((((1 ≤ p2.toInt ∧ p2.toInt ≤ 99) ∧ (0 ≤ p3.toInt ∧ p3.toInt ≤ 9999)) ∧ (0 ≤ p1.toInt ∧ p1.toInt < (g s0 0).toInt) ∧ (g s0 4).toInt < 12) ∧ ((-1) : Int32).toInt = (g s0 4).toInt ∧ UPP T g g s0 4) ∨ (¬ (((1 ≤ p2.toInt ∧ p2.toInt ≤ 99) ∧ (0 ≤ p3.toInt ∧ p3.toInt ≤ 9999)) ∧ (0 ≤ p1.toInt ∧ p1.toInt < (g s0 0).toInt) ∧ (g s0 4).toInt < 12) ∧ ((-1) : Int32).toInt = -1 ∧ g = g) from (fun s0 sr hs hq hn => by obtain rfl : s0 = a1 := Option.some.inj (hs.symm.trans h22); have k9 := hw49 _ sr hs hq hn; exact Or.inr ⟨by omega, by decide, rfl⟩))⟩, CB.mk ht hP hD⟩, hS.F ht⟩) hS.2.2 dX10_candidate_54
  · obtain rfl : u44 = 0 := i_is c50 (by decide)
    have zi0 : (0 : Int32).toInt = 0 := by decide
    clear hw48
    refine W.eq (g2 := F0 m 5 ls [.int 0]) rfl ?_
    refine lv_if_eq (tgt := 33) hx hb dX10_candidate_5 (by decide) (fun c149 => ?_) (fun c149 => ?_)
    rotate_left
    · exact absurd c149 (by decide)
    refine lv_iconst (v := 0) hx hb dX10_candidate_33 (by decide) ?_
    refine lv_istore (lv' := [(4, .int 0), (0, .ref p0), (1, .int p1), (2, .int p2), (3, .int p3)]) hx hb dX10_candidate_34 hl (by decide) rfl (fun ls hl => ?_)
    refine lv_iload hx hb dX10_candidate_36 (lv_at hl 0 rfl) ?_
    refine lv_if_eq (tgt := 53) hx hb dX10_candidate_38 (by decide) (fun c150 => ?_) (fun c150 => ?_)
    rotate_left
    · exact absurd c150 (by decide)
    refine lv_iconst (v := (-1)) hx hb dX10_candidate_53 (by decide) ?_
    refine W.widen (k := 0) (n := 0) (Nat.le_of_ble_eq_true rfl) (Nat.le_of_ble_eq_true rfl) ?_
    have zim1 : ((-1) : Int32).toInt = -1 := by decide
    exact W.iret (v := (-1)) hx hb hr (fun t ht hW => ⟨⟨(((-1)), ws, g), rfl, ⟨hT, KF.rf, KF.rf, GJ.rf, (show ∀ s0 na wa, q p0 0 = some s0 → q s0 5 = some na → q s0 6 = some wa → CDE g g s0 na wa (-1) p2 p3 from (fun s0 na wa _ _ _ => Or.inl ⟨by decide, rfl⟩)), (show ∀ s0 sr, q p0 0 = some s0 → q s0 1 = some sr → NNL g q s0 sr → ((((1 ≤ p2.toInt ∧ p2.toInt ≤ 99) ∧ (0 ≤ p3.toInt ∧ p3.toInt ≤ 9999)) ∧ (0 ≤ p1.toInt ∧ p1.toInt < (g s0 0).toInt) ∧ (g s0 4).toInt < 12) ∧ ((-1) : Int32).toInt = (g s0 4).toInt ∧ UPP T g g s0 4) ∨ (¬ (((1 ≤ p2.toInt ∧ p2.toInt ≤ 99) ∧ (0 ≤ p3.toInt ∧ p3.toInt ≤ 9999)) ∧ (0 ≤ p1.toInt ∧ p1.toInt < (g s0 0).toInt) ∧ (g s0 4).toInt < 12) ∧ ((-1) : Int32).toInt = -1 ∧ g = g) from (fun s0 sr hs hq hn => by obtain rfl : s0 = a1 := Option.some.inj (hs.symm.trans h22); have k9 := hw49 _ sr hs hq hn; exact Or.inr ⟨by omega, by decide, rfl⟩))⟩, CB.mk ht hP hD⟩, hS.F ht⟩) hS.2.2 dX10_candidate_54
set_option maxHeartbeats 4000000 in
set_option maxRecDepth 100000 in
theorem x_resizeS (l : Launch) (D : va_G) (Y : Nat → ClassId) (Z : Nat → Nat) (sz : Nat) (ws : va_W) (T : RT) (g : GN) (q : GQ)  (p0 : Nat) (p1 : Int32) (p2 : Int32) (hT : TW Y Z T g q ws) (ht0 : T p0 = (1, 0, 0)) : Met l yX10_resize (.code yX10_resize cX10_resize 5 (some .int) :: GW) ({ frames := 2, cells := 0, slots := 0, locals := 42 }) (va_Pc [.ref p0, .int p1, .int p2] (CPC D Y Z ws sz)) (QG (S := Int32 × va_W × GN) (fun u => some (.int u.1)) (fun u => TW Y Z T u.2.2 q u.2.1 ∧ KF 1 T ws u.2.1 ∧ KF 6 T ws u.2.1 ∧ GE T g u.2.2 ∧ GJ T 0 g u.2.2 ∧ (∀ s0 sr, q p0 0 = some s0 → q s0 1 = some sr → NNL g q s0 sr → (((0 ≤ p1.toInt ∧ p1.toInt < (g s0 0).toInt) ∧ (1 ≤ p2.toInt ∧ p2.toInt ≤ 999)) ∧ RSZ g u.2.2 q sr p1.toNatClampNeg u.1 p2) ∨ (¬ ((0 ≤ p1.toInt ∧ p1.toInt < (g s0 0).toInt) ∧ (1 ≤ p2.toInt ∧ p2.toInt ≤ 999)) ∧ u.1.toInt = -1 ∧ u.2.2 = g))) (fun u => CB D u.2.1 (va_A ws sz)) (va_A ws sz)) 0 0 (va_A ws sz) := by
  refine Met.ofW (cc := cX10_resize) (maxL := 5) (ret := (some .int)) (by decide) rfl ?_
  intro p e s m args below meth c s₁ B hml hv
  obtain ⟨rfl, ⟨hsz, hP, hKN, hD0⟩, hSZ⟩ := hv
  have hx := B.exec
  have hb := B.bytes
  have hr := B.returns
  have hts := atoms_spec (ws := .code yX10_resize cX10_resize 5 (some .int) :: GW) B.pre
  have hg : ∀ w ∈ GW, w.before _ s = true := fun w h => hts w (List.mem_cons_of_mem _ h)
  have hown : s.vm.findClass RX10 = some m.cls := findClass_of_methodNamed B.named
  have hlocks := B.notSynchronized
  subst hsz
  have hD := hD0.self (sz := s.heap.size)
  generalize hAe : va_A ws s.heap.size = A at hD hSZ ⊢
  have hA : ∀ q : Nat, s.heap.size ≤ q → A q := fun q h => by rw [← hAe]; exact Or.inr h
  clear hAe hD0 hts B
  have hl := lv_entry ([.ref p0, .int p1, .int p2]) (n := 5) (Nat.le_of_ble_eq_true rfl)
  rw [lg_entry_eq]
  generalize (lg_sl ([.ref p0, .int p1, .int p2]) ++ List.replicate (5 - (lg_sl ([.ref p0, .int p1, .int p2])).length) Slot.unset).toArray = ls at hl ⊢
  have hl : lv_has ls 5 [(0, .ref p0), (1, .int p1), (2, .int p2)] := hl
  refine w_start (A0 := A) hP (fun H locs hP hS => ?_)
  refine ok1 hT ht0 (fun p42 a1 a2 a3 a4 a5 x6 x7 x8 a9 a10 a11 a12 a13 a14 a15 a16 a17 x18 a19 a20 hk43 h21 h22 h23 h24 h25 h26 h27 h28 h29 h30 h31 h32 h33 h34 h35 h36 h37 h38 h39 h40 h41 => ?_)
  have hT0 := hT
  refine lv_aload_n hx hb dX10_resize_0 rfl (lv_at hl 0 rfl) ?_
  refine va_get (D := D) (ci := 10) (v := .ref a1) (C := RX10) (T := TX10) (N := 20) hx hb hg inGX10 hown hKN.1 hP p42 hk43 rfl 0 (by decide) (hg _ kw_349) (fun _ h9 => h9) rfl dX10_resize_1 ?_
  refine lv_iload_n hx hb dX10_resize_4 rfl (lv_at hl 1 rfl) ?_
  refine ok2 hT h21 (fun p78 x44 a45 x46 a47 x48 a49 a50 x51 a52 a53 x54 a55 x56 hk79 h57 h58 h59 h60 h61 h62 h63 h64 h65 h66 h67 h68 h69 h70 h71 h72 h73 h74 h75 h76 h77 => ?_)
  refine cga (rn_NV (As := [.int p1]) (rest := []) (b := a1) (x_starAtS l D Y Z H.size ws T g q 0 a1 p1 hT h21) ⟨hx, hb, hml, hown, hg⟩ hKN lk_X10_108 ⟨CPC.blind, va_recv hKN.1 hP (ci := 6) (q0 := p78) rfl hk79, CPC.at hP hKN hD hSZ hS hA⟩ ⟨⟨rfl, rfl⟩, ⟨Nat.le_of_ble_eq_true rfl, Nat.le_of_ble_eq_true rfl⟩, ⟨(Nat.le_of_ble_eq_true rfl), (Nat.le_of_ble_eq_true rfl)⟩⟩ hl.1 rfl (Nat.le_of_ble_eq_true rfl) dX10_resize_5) hP hD hS hA (fun u80 H locs hw81 hP hD hS => ?_)
  obtain ⟨ht83, hw84, hw85⟩ : (∀ b, u80 = some b → T b = (3, 0, p1.toNatClampNeg)) ∧ (∀ sr, q a1 1 = some sr → SAT g q a1 sr p1 u80) ∧ (∀ b, u80 = some b → 0 ≤ p1.toInt ∧ p1.toInt ≤ 11) := hw81
  refine W.eq (g2 := F0 m 8 ls [va_rf u80]) rfl ?_
  rcases u80 with _ | b86
  · skip
    refine W.eq (g2 := F0 m 8 ls [.null]) rfl ?_
    refine lv_astore_nN (lv' := [(3, .null), (0, .ref p0), (1, .int p1), (2, .int p2)]) hx hb dX10_resize_8 rfl hl (by decide) rfl (fun ls hl => ?_)
    refine lv_aload_nN hx hb dX10_resize_9 rfl (lv_at hl 0 rfl) ?_
    refine lv_ifnullN (tgt := 20) hx hb dX10_resize_10 (by decide) ?_
    refine lv_iconst (v := (-1)) hx hb dX10_resize_20 (by decide) ?_
    refine W.widen (k := 0) (n := 0) (Nat.le_of_ble_eq_true rfl) (Nat.le_of_ble_eq_true rfl) ?_
    have zim1 : ((-1) : Int32).toInt = -1 := by decide
    exact W.iret (v := (-1)) hx hb hr (fun t ht hW => ⟨⟨(((-1)), ws, g), rfl, ⟨hT, KF.rf, KF.rf, GE.rf, GJ.rf, (show ∀ s0 sr, q p0 0 = some s0 → q s0 1 = some sr → NNL g q s0 sr → (((0 ≤ p1.toInt ∧ p1.toInt < (g s0 0).toInt) ∧ (1 ≤ p2.toInt ∧ p2.toInt ≤ 999)) ∧ RSZ g g q sr p1.toNatClampNeg (-1) p2) ∨ (¬ ((0 ≤ p1.toInt ∧ p1.toInt < (g s0 0).toInt) ∧ (1 ≤ p2.toInt ∧ p2.toInt ≤ 999)) ∧ ((-1) : Int32).toInt = -1 ∧ g = g) from (fun s0 sr hs hq hn => by obtain rfl : s0 = a1 := Option.some.inj (hs.symm.trans h22); exact Or.inr ⟨fun h9 => (hw84 sr hq).out hn h9.1, by decide, rfl⟩))⟩, CB.mk ht hP hD⟩, hS.F ht⟩) hS.2.2 dX10_resize_21
  · skip
    have ht87 := ht83 b86 rfl
    have h88 := hw85 b86 rfl
    refine W.eq (g2 := F0 m 8 ls [.ref b86]) rfl ?_
    refine lv_astore_n (lv' := [(3, .ref b86), (0, .ref p0), (1, .int p1), (2, .int p2)]) hx hb dX10_resize_8 rfl hl (by decide) rfl (fun ls hl => ?_)
    refine lv_aload_n hx hb dX10_resize_9 rfl (lv_at hl 0 rfl) ?_
    refine lv_ifnull hx hb dX10_resize_10 ?_
    refine lv_iload_n hx hb dX10_resize_13 rfl (lv_at hl 3 rfl) ?_
    refine cg0 (rn_S (As := [.int p2]) (rest := []) (x_X10_isSize l D Y Z H.size p2) ⟨hx, hb, hml, hown, hg⟩ lk_X10_96 ⟨CP.blind, CP.at nilP hKN (nilD (A := fun _ => True))⟩ ⟨⟨rfl, rfl⟩, ⟨Nat.le_of_ble_eq_true rfl, Nat.le_of_ble_eq_true rfl⟩, ⟨(Nat.le_of_ble_eq_true rfl), (Nat.le_of_ble_eq_true rfl)⟩⟩ hl.1 rfl (Nat.le_of_ble_eq_true rfl) dX10_resize_14) hP hS hA (fun u89 H locs hw90 hP hS => ?_)
    obtain ⟨hw92, hw93⟩ : ((1 ≤ p2.toInt ∧ p2.toInt ≤ 999 ∧ u89.toInt = 1) ∨ (¬ (1 ≤ p2.toInt ∧ p2.toInt ≤ 999) ∧ u89.toInt = 0)) ∧ (0 ≤ u89.toInt ∧ u89.toInt ≤ 1) := hw90
    refine W.eq (g2 := F0 m 17 ls [.int u89]) rfl ?_
    rcases (show u89.toInt = 1 ∨ u89.toInt = 0 by omega) with c94 | c94
    · obtain rfl : u89 = 1 := i_is c94 (by decide)
      have zi1 : (1 : Int32).toInt = 1 := by decide
      refine W.eq (g2 := F0 m 17 ls [.int 1]) rfl ?_
      refine lv_if_ne (tgt := 22) hx hb dX10_resize_17 (by decide) (fun c95 => ?_) (fun c95 => ?_)
      rotate_left
      · exact absurd c95 (by decide)
      refine lv_aload_n hx hb dX10_resize_22 rfl (lv_at hl 0 rfl) ?_
      refine ok3 hT ht87 (fun p102 x96 x97 x98 a99 hk103 h100 h101 => ?_)
      refine va_getN (D := D) (ci := 7) (v := .int x96) (C := RX7) (T := TX7) (N := 4) hx hb hg inGX7 hown hKN.1 hP p102 hk103 rfl 0 (by decide) (va_Nw.use rfl (hKN.2.1 _ kn_434 rfl)) (fun _ h9 => h9) rfl dX10_resize_23 ?_
      refine lv_istore (lv' := [(4, .int x96), (3, .ref b86), (0, .ref p0), (1, .int p1), (2, .int p2)]) hx hb dX10_resize_26 hl (by decide) rfl (fun ls hl => ?_)
      refine lv_aload_n hx hb dX10_resize_28 rfl (lv_at hl 1 rfl) ?_
      refine lv_iload_n hx hb dX10_resize_29 rfl (lv_at hl 4 rfl) ?_
      refine va_putN (D := D) (ci := 7) (v := .int p2) (ty := .int) (C := RX7) (T := TX7) (N := 4) hx hb hg inGX7 tyX7 tyX7_ok nmX7 hown hKN.1 hP hD hS p102 hk103 rfl 0 (by decide) (va_Nw.use rfl (hKN.2.1 _ kn_434 rfl)) (fun _ h9 => h9) rfl (by decide +kernel) rfl rfl (Nat.le_of_ble_eq_true rfl) dX10_resize_30 (fun H locs hP hD2 hS => ?_)
      obtain ⟨w104, g107, eg107, hP, hD, hT, hk106, kp105⟩ : ∃ wz gz, gz = gset g b86 0 p2 ∧ va_P D vwCl wz H ∧ va_D A wz ∧ TW Y Z T gz q wz ∧ wz[p102]? = some (b86, .inr (7, [.int p2, .int x97, .int x98, .ref a99])) ∧ Kp b86 ws wz := ⟨_, _, rfl, hP, hD2, tw_sg (k := 3) (g2 := gset g b86 0 p2) (q2 := q) hT hD hk103 ht87 (fun _ hc => gset_ne hc) (fun _ _ => rfl) (show Sh3 Y Z T ((gset g b86 0 p2) b86) (q b86) 0 p1.toNatClampNeg _ from ⟨p2, x97, x98, a99, rfl, gs_eq, h101⟩), sw_eq hk103, sw_kp hk103⟩
      have hg108 : g107 b86 0 = p2 := by rw [eg107]; exact gs_eq
      have gj109 : GJ T 0 g g107 := GJ.tr GJ.rf (GJ.st eg107 ht87)
      have ge110 : GE T g g107 := GE.tr GE.rf (GE.st eg107 ht87)
      have hg111 : g107 a1 0 = x44 := by rw [eg107, gset_ne (rne h21 ht87 (by decide))]; exact h58
      have hg112 : g107 a1 2 = x46 := by rw [eg107, gset_ne (rne h21 ht87 (by decide))]; exact h62
      have hg113 : g107 a1 4 = x48 := by rw [eg107, gset_ne (rne h21 ht87 (by decide))]; exact h65
      have hg114 : g107 a1 7 = x51 := by rw [eg107, gset_ne (rne h21 ht87 (by decide))]; exact h71
      have hg115 : g107 a1 10 = x54 := by rw [eg107, gset_ne (rne h21 ht87 (by decide))]; exact h75
      have ke116 : KF 1 T ws w104 := KF.tr KF.rf (KF.kp kp105 ht87 (by decide))
      have ke117 : KF 6 T ws w104 := KF.tr KF.rf (KF.kp kp105 ht87 (by decide))
      have hk118 := kp105 _ _ hk43 (rne ht0 ht87 (by decide))
      have hk119 := kp105 _ _ hk79 (rne h21 ht87 (by decide))
      refine lv_iload hx hb dX10_resize_33 (lv_at hl 0 rfl) ?_
      refine W.widen (k := 0) (n := 0) (Nat.le_of_ble_eq_true rfl) (Nat.le_of_ble_eq_true rfl) ?_
      exact W.iret (v := x96) hx hb hr (fun t ht hW => ⟨⟨(x96, w104, g107), rfl, ⟨hT, ke116, ke117, ge110, gj109, (show ∀ s0 sr, q p0 0 = some s0 → q s0 1 = some sr → NNL g q s0 sr → (((0 ≤ p1.toInt ∧ p1.toInt < (g s0 0).toInt) ∧ (1 ≤ p2.toInt ∧ p2.toInt ≤ 999)) ∧ RSZ g g107 q sr p1.toNatClampNeg x96 p2) ∨ (¬ ((0 ≤ p1.toInt ∧ p1.toInt < (g s0 0).toInt) ∧ (1 ≤ p2.toInt ∧ p2.toInt ≤ 999)) ∧ x96.toInt = -1 ∧ g107 = g) from (fun s0 sr hs hq hn => by obtain rfl : s0 = a1 := Option.some.inj (hs.symm.trans h22); exact Or.inl ⟨⟨(hw84 sr hq).in.1, by omega⟩, (⟨b86, (hw84 sr hq).in.2, h100.symm, eg107⟩ : RSZ _ _ _ _ _ _ _)⟩))⟩, CB.mk ht hP hD⟩, hS.F ht⟩) hS.2.2 dX10_resize_35
    · obtain rfl : u89 = 0 := i_is c94 (by decide)
      have zi0 : (0 : Int32).toInt = 0 := by decide
      refine W.eq (g2 := F0 m 17 ls [.int 0]) rfl ?_
      refine lv_if_ne (tgt := 22) hx hb dX10_resize_17 (by decide) (fun c120 => ?_) (fun c120 => ?_)
      · exact absurd c120 (by decide)
      refine lv_iconst (v := (-1)) hx hb dX10_resize_20 (by decide) ?_
      refine W.widen (k := 0) (n := 0) (Nat.le_of_ble_eq_true rfl) (Nat.le_of_ble_eq_true rfl) ?_
      have zim1 : ((-1) : Int32).toInt = -1 := by decide
      exact W.iret (v := (-1)) hx hb hr (fun t ht hW => ⟨⟨(((-1)), ws, g), rfl, ⟨hT, KF.rf, KF.rf, GE.rf, GJ.rf, (show ∀ s0 sr, q p0 0 = some s0 → q s0 1 = some sr → NNL g q s0 sr → (((0 ≤ p1.toInt ∧ p1.toInt < (g s0 0).toInt) ∧ (1 ≤ p2.toInt ∧ p2.toInt ≤ 999)) ∧ RSZ g g q sr p1.toNatClampNeg (-1) p2) ∨ (¬ ((0 ≤ p1.toInt ∧ p1.toInt < (g s0 0).toInt) ∧ (1 ≤ p2.toInt ∧ p2.toInt ≤ 999)) ∧ ((-1) : Int32).toInt = -1 ∧ g = g) from (fun s0 sr hs hq hn => by obtain rfl : s0 = a1 := Option.some.inj (hs.symm.trans h22); exact Or.inr ⟨by omega, by decide, rfl⟩))⟩, CB.mk ht hP hD⟩, hS.F ht⟩) hS.2.2 dX10_resize_21
set_option maxHeartbeats 4000000 in
set_option maxRecDepth 100000 in
theorem x_starS (l : Launch) (D : va_G) (Y : Nat → ClassId) (Z : Nat → Nat) (sz : Nat) (ws : va_W) (T : RT) (g : GN) (q : GQ)  (p0 : Nat) (p1 : Int32) (p2 : Int32) (p3 : Int32) (hT : TW Y Z T g q ws) (ht0 : T p0 = (1, 0, 0)) : Met l yX10_star (.code yX10_star cX10_star 4 (some .int) :: GW) ({ frames := 4, cells := 2, slots := 604, locals := 86 }) (va_Pc [.ref p0, .int p1, .int p2, .int p3] (CPC D Y Z ws sz)) (QG (S := Int32 × va_W × RT × GN × GQ) (fun u => some (.int u.1)) (fun u => TLe T u.2.2.1 ∧ TW Y Z u.2.2.1 u.2.2.2.1 u.2.2.2.2 u.2.1 ∧ KF 1 T ws u.2.1 ∧ KF 6 T ws u.2.1 ∧ GJ T 0 g u.2.2.2.1 ∧ QJ T 0 q u.2.2.2.2 ∧ (∀ s0 sr, q p0 0 = some s0 → q s0 1 = some sr → (((1 ≤ p1.toInt ∧ p1.toInt ≤ 999) ∧ (0 ≤ p2.toInt ∧ p2.toInt ≤ 7) ∧ (1 ≤ p3.toInt ∧ p3.toInt ≤ 1000)) ∧ ((u.1.toInt = -1 ∧ 12 ≤ (g s0 0).toInt ∧ u.2.2.2.1 = g ∧ u.2.2.2.2 = q) ∨ ((g s0 0).toInt < 12 ∧ u.1.toInt = (g s0 0).toInt ∧ ADS T u.2.2.1 g u.2.2.2.1 q u.2.2.2.2 0 s0 sr (g s0 0).toNatClampNeg p1))) ∨ (¬ ((1 ≤ p1.toInt ∧ p1.toInt ≤ 999) ∧ (0 ≤ p2.toInt ∧ p2.toInt ≤ 7) ∧ (1 ≤ p3.toInt ∧ p3.toInt ≤ 1000)) ∧ u.1.toInt = -1 ∧ u.2.2.2.1 = g ∧ u.2.2.2.2 = q))) (fun u => CB D u.2.1 (va_A ws sz)) (va_A ws sz)) 2 604 (va_A ws sz) := by
  refine Met.ofW (cc := cX10_star) (maxL := 4) (ret := (some .int)) (by decide) rfl ?_
  intro p e s m args below meth c s₁ B hml hv
  obtain ⟨rfl, ⟨hsz, hP, hKN, hD0⟩, hSZ⟩ := hv
  have hx := B.exec
  have hb := B.bytes
  have hr := B.returns
  have hts := atoms_spec (ws := .code yX10_star cX10_star 4 (some .int) :: GW) B.pre
  have hg : ∀ w ∈ GW, w.before _ s = true := fun w h => hts w (List.mem_cons_of_mem _ h)
  have hown : s.vm.findClass RX10 = some m.cls := findClass_of_methodNamed B.named
  have hlocks := B.notSynchronized
  subst hsz
  have hD := hD0.self (sz := s.heap.size)
  generalize hAe : va_A ws s.heap.size = A at hD hSZ ⊢
  have hA : ∀ q : Nat, s.heap.size ≤ q → A q := fun q h => by rw [← hAe]; exact Or.inr h
  clear hAe hD0 hts B
  have hl := lv_entry ([.ref p0, .int p1, .int p2, .int p3]) (n := 4) (Nat.le_of_ble_eq_true rfl)
  rw [lg_entry_eq]
  generalize (lg_sl ([.ref p0, .int p1, .int p2, .int p3]) ++ List.replicate (4 - (lg_sl ([.ref p0, .int p1, .int p2, .int p3])).length) Slot.unset).toArray = ls at hl ⊢
  have hl : lv_has ls 4 [(0, .ref p0), (1, .int p1), (2, .int p2), (3, .int p3)] := hl
  refine w_start (A0 := A) hP (fun H locs hP hS => ?_)
  refine ok1 hT ht0 (fun p42 a1 a2 a3 a4 a5 x6 x7 x8 a9 a10 a11 a12 a13 a14 a15 a16 a17 x18 a19 a20 hk43 h21 h22 h23 h24 h25 h26 h27 h28 h29 h30 h31 h32 h33 h34 h35 h36 h37 h38 h39 h40 h41 => ?_)
  have hT0 := hT
  refine lv_iload_n hx hb dX10_star_0 rfl (lv_at hl 1 rfl) ?_
  refine cg0 (rn_S (As := [.int p1]) (rest := []) (x_X10_isSize l D Y Z H.size p1) ⟨hx, hb, hml, hown, hg⟩ lk_X10_96 ⟨CP.blind, CP.at nilP hKN (nilD (A := fun _ => True))⟩ ⟨⟨rfl, rfl⟩, ⟨Nat.le_of_ble_eq_true rfl, Nat.le_of_ble_eq_true rfl⟩, ⟨(Nat.le_of_ble_eq_true rfl), (Nat.le_of_ble_eq_true rfl)⟩⟩ hl.1 rfl (Nat.le_of_ble_eq_true rfl) dX10_star_1) hP hS hA (fun u44 H locs hw45 hP hS => ?_)
  obtain ⟨hw47, hw48⟩ : ((1 ≤ p1.toInt ∧ p1.toInt ≤ 999 ∧ u44.toInt = 1) ∨ (¬ (1 ≤ p1.toInt ∧ p1.toInt ≤ 999) ∧ u44.toInt = 0)) ∧ (0 ≤ u44.toInt ∧ u44.toInt ≤ 1) := hw45
  refine W.eq (g2 := F0 m 4 ls [.int u44]) rfl ?_
  rcases (show u44.toInt = 1 ∨ u44.toInt = 0 by omega) with c49 | c49
  · obtain rfl : u44 = 1 := i_is c49 (by decide)
    have zi1 : (1 : Int32).toInt = 1 := by decide
    refine W.eq (g2 := F0 m 4 ls [.int 1]) rfl ?_
    refine lv_if_eq (tgt := 28) hx hb dX10_star_4 (by decide) (fun c50 => ?_) (fun c50 => ?_)
    · exact absurd c50 (by decide)
    refine lv_iload_n hx hb dX10_star_7 rfl (lv_at hl 2 rfl) ?_
    refine lv_iconst (v := 0) hx hb dX10_star_8 (by decide) ?_
    refine lv_bipush (v := 7) hx hb dX10_star_9 (by decide) ?_
    have zi0 : (0 : Int32).toInt = 0 := by decide
    have zi7 : (7 : Int32).toInt = 7 := by decide
    refine cg0 (rn_S (As := [.int p2, .int 0, .int 7]) (rest := []) (x_X10_isWithin l D Y Z H.size p2 0 7) ⟨hx, hb, hml, hown, hg⟩ lk_X10_100 ⟨CP.blind, CP.at nilP hKN (nilD (A := fun _ => True))⟩ ⟨⟨rfl, rfl⟩, ⟨Nat.le_of_ble_eq_true rfl, Nat.le_of_ble_eq_true rfl⟩, ⟨(Nat.le_of_ble_eq_true rfl), (Nat.le_of_ble_eq_true rfl)⟩⟩ hl.1 rfl (Nat.le_of_ble_eq_true rfl) dX10_star_11) hP hS hA (fun u51 H locs hw52 hP hS => ?_)
    obtain ⟨hw54, hw55⟩ : (((0 : Int32).toInt ≤ p2.toInt ∧ p2.toInt ≤ (7 : Int32).toInt ∧ u51.toInt = 1) ∨ (¬ ((0 : Int32).toInt ≤ p2.toInt ∧ p2.toInt ≤ (7 : Int32).toInt) ∧ u51.toInt = 0)) ∧ (0 ≤ u51.toInt ∧ u51.toInt ≤ 1) := hw52
    refine W.eq (g2 := F0 m 14 ls [.int u51]) rfl ?_
    rcases (show u51.toInt = 1 ∨ u51.toInt = 0 by omega) with c56 | c56
    · obtain rfl : u51 = 1 := i_is c56 (by decide)
      refine W.eq (g2 := F0 m 14 ls [.int 1]) rfl ?_
      refine lv_if_eq (tgt := 28) hx hb dX10_star_14 (by decide) (fun c57 => ?_) (fun c57 => ?_)
      · exact absurd c57 (by decide)
      refine lv_iload_n hx hb dX10_star_17 rfl (lv_at hl 3 rfl) ?_
      refine lv_iconst (v := 1) hx hb dX10_star_18 (by decide) ?_
      refine lv_sipush (v := 1000) hx hb dX10_star_19 (by decide) ?_
      have zi1000 : (1000 : Int32).toInt = 1000 := by decide
      refine cg0 (rn_S (As := [.int p3, .int 1, .int 1000]) (rest := []) (x_X10_isWithin l D Y Z H.size p3 1 1000) ⟨hx, hb, hml, hown, hg⟩ lk_X10_100 ⟨CP.blind, CP.at nilP hKN (nilD (A := fun _ => True))⟩ ⟨⟨rfl, rfl⟩, ⟨Nat.le_of_ble_eq_true rfl, Nat.le_of_ble_eq_true rfl⟩, ⟨(Nat.le_of_ble_eq_true rfl), (Nat.le_of_ble_eq_true rfl)⟩⟩ hl.1 rfl (Nat.le_of_ble_eq_true rfl) dX10_star_22) hP hS hA (fun u58 H locs hw59 hP hS => ?_)
      obtain ⟨hw61, hw62⟩ : (((1 : Int32).toInt ≤ p3.toInt ∧ p3.toInt ≤ (1000 : Int32).toInt ∧ u58.toInt = 1) ∨ (¬ ((1 : Int32).toInt ≤ p3.toInt ∧ p3.toInt ≤ (1000 : Int32).toInt) ∧ u58.toInt = 0)) ∧ (0 ≤ u58.toInt ∧ u58.toInt ≤ 1) := hw59
      refine W.eq (g2 := F0 m 25 ls [.int u58]) rfl ?_
      rcases (show u58.toInt = 1 ∨ u58.toInt = 0 by omega) with c63 | c63
      · obtain rfl : u58 = 1 := i_is c63 (by decide)
        refine W.eq (g2 := F0 m 25 ls [.int 1]) rfl ?_
        refine lv_if_ne (tgt := 30) hx hb dX10_star_25 (by decide) (fun c64 => ?_) (fun c64 => ?_)
        rotate_left
        · exact absurd c64 (by decide)
        refine lv_aload_n hx hb dX10_star_30 rfl (lv_at hl 0 rfl) ?_
        refine va_get (D := D) (ci := 10) (v := .ref a1) (C := RX10) (T := TX10) (N := 20) hx hb hg inGX10 hown hKN.1 hP p42 hk43 rfl 0 (by decide) (hg _ kw_349) (fun _ h9 => h9) rfl dX10_star_31 ?_
        refine lv_iload_n hx hb dX10_star_34 rfl (lv_at hl 1 rfl) ?_
        refine lv_iload_n hx hb dX10_star_35 rfl (lv_at hl 2 rfl) ?_
        refine lv_iload_n hx hb dX10_star_36 rfl (lv_at hl 3 rfl) ?_
        refine ok2 hT h21 (fun p99 x65 a66 x67 a68 x69 a70 a71 x72 a73 a74 x75 a76 x77 hk100 h78 h79 h80 h81 h82 h83 h84 h85 h86 h87 h88 h89 h90 h91 h92 h93 h94 h95 h96 h97 h98 => ?_)
        refine cga (rn_NV (As := [.int p1, .int p2, .int p3]) (rest := []) (b := a1) (x_addStarS l D Y Z H.size ws T g q 0 a1 p1 p2 p3 hT h21) ⟨hx, hb, hml, hown, hg⟩ hKN lk_X10_104 ⟨CPC.blind, va_recv hKN.1 hP (ci := 6) (q0 := p99) rfl hk100, CPC.at hP hKN hD hSZ hS hA⟩ ⟨⟨rfl, rfl⟩, ⟨Nat.le_of_ble_eq_true rfl, Nat.le_of_ble_eq_true rfl⟩, ⟨(Nat.le_of_ble_eq_true rfl), (Nat.le_of_ble_eq_true rfl)⟩⟩ hl.1 rfl (Nat.le_of_ble_eq_true rfl) dX10_star_37) hP hD hS hA (fun u101 H locs hw102 hP hD hS => ?_)
        refine W.widen (k := 2) (n := 604) (Nat.le_of_ble_eq_true rfl) (Nat.le_of_ble_eq_true rfl) ?_
        obtain ⟨u103, w104, T105, g106, q107⟩ := u101
        obtain ⟨le108, hT, ke109, ke110, gj111, qj112, hw113⟩ : TLe T T105 ∧ TW Y Z T105 g106 q107 w104 ∧ KF 1 T ws w104 ∧ KF 6 T ws w104 ∧ GJ T 0 g g106 ∧ QJ T 0 q q107 ∧ (∀ sr, q a1 1 = some sr → (u103.toInt = -1 ∧ 12 ≤ (g a1 0).toInt ∧ g106 = g ∧ q107 = q) ∨ ((g a1 0).toInt < 12 ∧ u103.toInt = (g a1 0).toInt ∧ ADS T T105 g g106 q q107 0 a1 sr (g a1 0).toNatClampNeg p1)) := hw102
        have hk114 := ke109 _ _ hk43 (show (T p0).1 = 1 by rw [ht0])
        have gj115 : GJ T 0 g g106 := GJ.tr GJ.rf gj111
        have qj116 : QJ T 0 q q107 := QJ.tr QJ.rf qj112
        have ke117 : KF 1 T ws w104 := KF.tr KF.rf ke109
        have ke118 : KF 6 T ws w104 := KF.tr KF.rf ke110
        refine W.eq (g2 := F0 m 40 ls [.int u103]) rfl ?_
        refine W.widen (k := 2) (n := 604) (Nat.le_of_ble_eq_true rfl) (Nat.le_of_ble_eq_true rfl) ?_
        exact W.iret (v := u103) hx hb hr (fun t ht hW => ⟨⟨(u103, w104, T105, g106, q107), rfl, ⟨le108, hT, ke117, ke118, gj115, qj116, (show ∀ s0 sr, q p0 0 = some s0 → q s0 1 = some sr → (((1 ≤ p1.toInt ∧ p1.toInt ≤ 999) ∧ (0 ≤ p2.toInt ∧ p2.toInt ≤ 7) ∧ (1 ≤ p3.toInt ∧ p3.toInt ≤ 1000)) ∧ ((u103.toInt = -1 ∧ 12 ≤ (g s0 0).toInt ∧ g106 = g ∧ q107 = q) ∨ ((g s0 0).toInt < 12 ∧ u103.toInt = (g s0 0).toInt ∧ ADS T T105 g g106 q q107 0 s0 sr (g s0 0).toNatClampNeg p1))) ∨ (¬ ((1 ≤ p1.toInt ∧ p1.toInt ≤ 999) ∧ (0 ≤ p2.toInt ∧ p2.toInt ≤ 7) ∧ (1 ≤ p3.toInt ∧ p3.toInt ≤ 1000)) ∧ u103.toInt = -1 ∧ g106 = g ∧ q107 = q) from (fun s0 sr hs hq => by obtain rfl : s0 = a1 := Option.some.inj (hs.symm.trans h22); exact Or.inl ⟨(by clear hw113; omega), hw113 sr hq⟩))⟩, CB.mk ht hP hD⟩, hS.F ht⟩) hS.2.2 dX10_star_40
      · obtain rfl : u58 = 0 := i_is c63 (by decide)
        refine W.eq (g2 := F0 m 25 ls [.int 0]) rfl ?_
        refine lv_if_ne (tgt := 30) hx hb dX10_star_25 (by decide) (fun c119 => ?_) (fun c119 => ?_)
        · exact absurd c119 (by decide)
        refine lv_iconst (v := (-1)) hx hb dX10_star_28 (by decide) ?_
        refine W.widen (k := 2) (n := 604) (Nat.le_of_ble_eq_true rfl) (Nat.le_of_ble_eq_true rfl) ?_
        have zim1 : ((-1) : Int32).toInt = -1 := by decide
        exact W.iret (v := (-1)) hx hb hr (fun t ht hW => ⟨⟨(((-1)), ws, T, g, q), rfl, ⟨TLe.rf, hT, KF.rf, KF.rf, GJ.rf, QJ.rf, (show ∀ s0 sr, q p0 0 = some s0 → q s0 1 = some sr → (((1 ≤ p1.toInt ∧ p1.toInt ≤ 999) ∧ (0 ≤ p2.toInt ∧ p2.toInt ≤ 7) ∧ (1 ≤ p3.toInt ∧ p3.toInt ≤ 1000)) ∧ ((((-1) : Int32).toInt = -1 ∧ 12 ≤ (g s0 0).toInt ∧ g = g ∧ q = q) ∨ ((g s0 0).toInt < 12 ∧ ((-1) : Int32).toInt = (g s0 0).toInt ∧ ADS T T g g q q 0 s0 sr (g s0 0).toNatClampNeg p1))) ∨ (¬ ((1 ≤ p1.toInt ∧ p1.toInt ≤ 999) ∧ (0 ≤ p2.toInt ∧ p2.toInt ≤ 7) ∧ (1 ≤ p3.toInt ∧ p3.toInt ≤ 1000)) ∧ ((-1) : Int32).toInt = -1 ∧ g = g ∧ q = q) from (fun s0 sr hs hq => Or.inr ⟨by omega, by decide, rfl, rfl⟩))⟩, CB.mk ht hP hD⟩, hS.F ht⟩) hS.2.2 dX10_star_29
    · obtain rfl : u51 = 0 := i_is c56 (by decide)
      refine W.eq (g2 := F0 m 14 ls [.int 0]) rfl ?_
      refine lv_if_eq (tgt := 28) hx hb dX10_star_14 (by decide) (fun c120 => ?_) (fun c120 => ?_)
      rotate_left
      · exact absurd c120 (by decide)
      refine lv_iconst (v := (-1)) hx hb dX10_star_28 (by decide) ?_
      refine W.widen (k := 2) (n := 604) (Nat.le_of_ble_eq_true rfl) (Nat.le_of_ble_eq_true rfl) ?_
      have zim1 : ((-1) : Int32).toInt = -1 := by decide
      exact W.iret (v := (-1)) hx hb hr (fun t ht hW => ⟨⟨(((-1)), ws, T, g, q), rfl, ⟨TLe.rf, hT, KF.rf, KF.rf, GJ.rf, QJ.rf, (show ∀ s0 sr, q p0 0 = some s0 → q s0 1 = some sr → (((1 ≤ p1.toInt ∧ p1.toInt ≤ 999) ∧ (0 ≤ p2.toInt ∧ p2.toInt ≤ 7) ∧ (1 ≤ p3.toInt ∧ p3.toInt ≤ 1000)) ∧ ((((-1) : Int32).toInt = -1 ∧ 12 ≤ (g s0 0).toInt ∧ g = g ∧ q = q) ∨ ((g s0 0).toInt < 12 ∧ ((-1) : Int32).toInt = (g s0 0).toInt ∧ ADS T T g g q q 0 s0 sr (g s0 0).toNatClampNeg p1))) ∨ (¬ ((1 ≤ p1.toInt ∧ p1.toInt ≤ 999) ∧ (0 ≤ p2.toInt ∧ p2.toInt ≤ 7) ∧ (1 ≤ p3.toInt ∧ p3.toInt ≤ 1000)) ∧ ((-1) : Int32).toInt = -1 ∧ g = g ∧ q = q) from (fun s0 sr hs hq => Or.inr ⟨by omega, by decide, rfl, rfl⟩))⟩, CB.mk ht hP hD⟩, hS.F ht⟩) hS.2.2 dX10_star_29
  · obtain rfl : u44 = 0 := i_is c49 (by decide)
    have zi0 : (0 : Int32).toInt = 0 := by decide
    refine W.eq (g2 := F0 m 4 ls [.int 0]) rfl ?_
    refine lv_if_eq (tgt := 28) hx hb dX10_star_4 (by decide) (fun c121 => ?_) (fun c121 => ?_)
    rotate_left
    · exact absurd c121 (by decide)
    refine lv_iconst (v := (-1)) hx hb dX10_star_28 (by decide) ?_
    refine W.widen (k := 2) (n := 604) (Nat.le_of_ble_eq_true rfl) (Nat.le_of_ble_eq_true rfl) ?_
    have zim1 : ((-1) : Int32).toInt = -1 := by decide
    exact W.iret (v := (-1)) hx hb hr (fun t ht hW => ⟨⟨(((-1)), ws, T, g, q), rfl, ⟨TLe.rf, hT, KF.rf, KF.rf, GJ.rf, QJ.rf, (show ∀ s0 sr, q p0 0 = some s0 → q s0 1 = some sr → (((1 ≤ p1.toInt ∧ p1.toInt ≤ 999) ∧ (0 ≤ p2.toInt ∧ p2.toInt ≤ 7) ∧ (1 ≤ p3.toInt ∧ p3.toInt ≤ 1000)) ∧ ((((-1) : Int32).toInt = -1 ∧ 12 ≤ (g s0 0).toInt ∧ g = g ∧ q = q) ∨ ((g s0 0).toInt < 12 ∧ ((-1) : Int32).toInt = (g s0 0).toInt ∧ ADS T T g g q q 0 s0 sr (g s0 0).toNatClampNeg p1))) ∨ (¬ ((1 ≤ p1.toInt ∧ p1.toInt ≤ 999) ∧ (0 ≤ p2.toInt ∧ p2.toInt ≤ 7) ∧ (1 ≤ p3.toInt ∧ p3.toInt ≤ 1000)) ∧ ((-1) : Int32).toInt = -1 ∧ g = g ∧ q = q) from (fun s0 sr hs hq => Or.inr ⟨by omega, by decide, rfl, rfl⟩))⟩, CB.mk ht hP hD⟩, hS.F ht⟩) hS.2.2 dX10_star_29
set_option maxHeartbeats 4000000 in
set_option maxRecDepth 100000 in
theorem x_imageS (l : Launch) (D : va_G) (Y : Nat → ClassId) (Z : Nat → Nat) (sz : Nat) (ws : va_W) (T : RT) (g : GN) (q : GQ)  (p0 : Nat) (p1 : Int32) (hT : TW Y Z T g q ws) (ht0 : T p0 = (1, 0, 0)) : Met l yX10_image (.code yX10_image cX10_image 3 (some .int) :: GW) ({ frames := 4, cells := 32, slots := 7753, locals := 85 }) (va_Pc [.ref p0, .int p1] (CPC D Y Z ws sz)) (QG (S := Int32 × va_W × RT × GN × GQ) (fun u => some (.int u.1)) (fun u => TLe T u.2.2.1 ∧ TW Y Z u.2.2.1 u.2.2.2.1 u.2.2.2.2 u.2.1 ∧ KF 1 T ws u.2.1 ∧ KF 6 T ws u.2.1 ∧ (∀ s0 ia, q p0 0 = some s0 → q p0 1 = some ia → (0 ≤ p1.toInt ∧ p1.toInt ≤ 3) → IMD g u.2.2.2.1 q u.2.2.2.2 s0 ia p1.toNatClampNeg) ∧ (∀ s0 ia, q p0 0 = some s0 → q p0 1 = some ia → ((0 ≤ p1.toInt ∧ p1.toInt ≤ 3) ∧ u.1 = g s0 0 ∧ IMS T u.2.2.1 g u.2.2.2.1 q u.2.2.2.2 p0 s0 ia p1.toNatClampNeg) ∨ (¬ (0 ≤ p1.toInt ∧ p1.toInt ≤ 3) ∧ u.1.toInt = -1 ∧ u.2.2.2.1 = g ∧ u.2.2.2.2 = q))) (fun u => CB D u.2.1 (va_A ws sz)) (va_A ws sz)) 32 7753 (va_A ws sz) := by
  refine Met.ofW (cc := cX10_image) (maxL := 3) (ret := (some .int)) (by decide) rfl ?_
  intro p e s m args below meth c s₁ B hml hv
  obtain ⟨rfl, ⟨hsz, hP, hKN, hD0⟩, hSZ⟩ := hv
  have hx := B.exec
  have hb := B.bytes
  have hr := B.returns
  have hts := atoms_spec (ws := .code yX10_image cX10_image 3 (some .int) :: GW) B.pre
  have hg : ∀ w ∈ GW, w.before _ s = true := fun w h => hts w (List.mem_cons_of_mem _ h)
  have hown : s.vm.findClass RX10 = some m.cls := findClass_of_methodNamed B.named
  have hlocks := B.notSynchronized
  subst hsz
  have hD := hD0.self (sz := s.heap.size)
  generalize hAe : va_A ws s.heap.size = A at hD hSZ ⊢
  have hA : ∀ q : Nat, s.heap.size ≤ q → A q := fun q h => by rw [← hAe]; exact Or.inr h
  clear hAe hD0 hts B
  have hl := lv_entry ([.ref p0, .int p1]) (n := 3) (Nat.le_of_ble_eq_true rfl)
  rw [lg_entry_eq]
  generalize (lg_sl ([.ref p0, .int p1]) ++ List.replicate (3 - (lg_sl ([.ref p0, .int p1])).length) Slot.unset).toArray = ls at hl ⊢
  have hl : lv_has ls 3 [(0, .ref p0), (1, .int p1)] := hl
  refine w_start (A0 := A) hP (fun H locs hP hS => ?_)
  refine ok1 hT ht0 (fun p42 a1 a2 a3 a4 a5 x6 x7 x8 a9 a10 a11 a12 a13 a14 a15 a16 a17 x18 a19 a20 hk43 h21 h22 h23 h24 h25 h26 h27 h28 h29 h30 h31 h32 h33 h34 h35 h36 h37 h38 h39 h40 h41 => ?_)
  have hT0 := hT
  refine lv_iload_n hx hb dX10_image_0 rfl (lv_at hl 1 rfl) ?_
  refine lv_iconst (v := 0) hx hb dX10_image_1 (by decide) ?_
  refine lv_iconst (v := 3) hx hb dX10_image_2 (by decide) ?_
  have zi0 : (0 : Int32).toInt = 0 := by decide
  have zi3 : (3 : Int32).toInt = 3 := by decide
  refine cg0 (rn_S (As := [.int p1, .int 0, .int 3]) (rest := []) (x_X10_isWithin l D Y Z H.size p1 0 3) ⟨hx, hb, hml, hown, hg⟩ lk_X10_100 ⟨CP.blind, CP.at nilP hKN (nilD (A := fun _ => True))⟩ ⟨⟨rfl, rfl⟩, ⟨Nat.le_of_ble_eq_true rfl, Nat.le_of_ble_eq_true rfl⟩, ⟨(Nat.le_of_ble_eq_true rfl), (Nat.le_of_ble_eq_true rfl)⟩⟩ hl.1 rfl (Nat.le_of_ble_eq_true rfl) dX10_image_3) hP hS hA (fun u44 H locs hw45 hP hS => ?_)
  obtain ⟨hw47, hw48⟩ : (((0 : Int32).toInt ≤ p1.toInt ∧ p1.toInt ≤ (3 : Int32).toInt ∧ u44.toInt = 1) ∨ (¬ ((0 : Int32).toInt ≤ p1.toInt ∧ p1.toInt ≤ (3 : Int32).toInt) ∧ u44.toInt = 0)) ∧ (0 ≤ u44.toInt ∧ u44.toInt ≤ 1) := hw45
  refine W.eq (g2 := F0 m 6 ls [.int u44]) rfl ?_
  rcases (show u44.toInt = 1 ∨ u44.toInt = 0 by omega) with c49 | c49
  · obtain rfl : u44 = 1 := i_is c49 (by decide)
    have zi1 : (1 : Int32).toInt = 1 := by decide
    refine W.eq (g2 := F0 m 6 ls [.int 1]) rfl ?_
    refine lv_if_ne (tgt := 11) hx hb dX10_image_6 (by decide) (fun c50 => ?_) (fun c50 => ?_)
    rotate_left
    · exact absurd c50 (by decide)
    refine lv_aload_n hx hb dX10_image_11 rfl (lv_at hl 0 rfl) ?_
    refine va_get (D := D) (ci := 10) (v := .ref a2) (C := RX10) (T := TX10) (N := 20) hx hb hg inGX10 hown hKN.1 hP p42 hk43 rfl 1 (by decide) (hg _ kw_350) (fun _ h9 => h9) rfl dX10_image_12 ?_
    refine lv_iload_n hx hb dX10_image_15 rfl (lv_at hl 1 rfl) ?_
    refine tr_ld19 hx hb hKN hP hT h23 (vp_in_iff.mpr ⟨by omega, by omega⟩) dX10_image_16 (fun r51 hr51 qr51 => ?_)
    refine W.eq (g2 := F0 m 17 ls [va_rf r51]) rfl ?_
    rcases r51 with _ | b52
    · skip
      refine W.eq (g2 := F0 m 17 ls [.null]) rfl ?_
      refine lv_astore_nN (lv' := [(2, .null), (0, .ref p0), (1, .int p1)]) hx hb dX10_image_17 rfl hl (by decide) rfl (fun ls hl => ?_)
      refine lv_aload_nN hx hb dX10_image_18 rfl (lv_at hl 0 rfl) ?_
      refine lv_ifnonnullN hx hb dX10_image_19 ?_
      refine va_new (ci := 6) (fs := (.int 0 :: .null :: .int 0 :: .null :: .int 0 :: .null :: .null :: .int 0 :: .null :: .null :: .int 0 :: .null :: .int 0 :: [])) (C := RX6) (T := TX6) (N := 13) hx hb hg inGX6 tyX6 tyX6_ok hown (hg _ kw_29) (hg _ kw_30) (hg _ kw_2) hKN.1 hP hD hS hA rfl (fun j hj => by rcases (show j = 0 ∨ j = 1 ∨ j = 2 ∨ j = 3 ∨ j = 4 ∨ j = 5 ∨ j = 6 ∨ j = 7 ∨ j = 8 ∨ j = 9 ∨ j = 10 ∨ j = 11 ∨ j = 12 by omega) with rfl | rfl | rfl | rfl | rfl | rfl | rfl | rfl | rfl | rfl | rfl | rfl | rfl <;> rfl) (Nat.le_of_ble_eq_true rfl) (Nat.le_of_ble_eq_true rfl) dX10_image_22 (fun b53 H hP hD hS => ?_)
      refine W.widen (k := 1) (n := 13) (Nat.le_of_ble_eq_true rfl) (Nat.le_of_ble_eq_true rfl) ?_
      refine lv_dup hx hb dX10_image_25 rfl ?_
      have hP54 : va_P D vwCl [(b53, .inr (6, (.int 0 :: .null :: .int 0 :: .null :: .int 0 :: .null :: .null :: .int 0 :: .null :: .null :: .int 0 :: .null :: .int 0 :: [])))] H := va_P.last hP
      have hD55 : va_D A [(b53, .inr (6, (.int 0 :: .null :: .int 0 :: .null :: .int 0 :: .null :: .null :: .int 0 :: .null :: .null :: .int 0 :: .null :: .int 0 :: [])))] := va_D.last hD
      refine cgn (rn_NI (As := []) (rest := [.ref b53]) (b := b53) (c_X6 l D Y Z H.size b53  ) ⟨hx, hb, hml, hown, hg⟩ hKN lk_X10_9 ⟨CP.blind, CP.at hP54 hKN hD55⟩ ⟨⟨rfl, rfl⟩, ⟨Nat.le_of_ble_eq_true rfl, Nat.le_of_ble_eq_true rfl⟩, ⟨(Nat.le_of_ble_eq_true rfl), (Nat.le_of_ble_eq_true rfl)⟩⟩ hl.1 rfl (Nat.le_of_ble_eq_true rfl) dX10_image_26) hP hD hS hA (fun u56 H locs hw57 hP hD hS => ?_)
      refine W.widen (k := 8) (n := 505) (Nat.le_of_ble_eq_true rfl) (Nat.le_of_ble_eq_true rfl) ?_
      refine W.eq (g2 := F0 m 29 ls [.ref b53]) rfl ?_
      obtain ⟨w59, T58, g62, q63, hP, hD, hT, le60, ht61, ex64⟩ := nw_X6 (p1.toNatClampNeg + 1) hT hP hD
      have ke65 : KF 1 T ws w59 := KF.tr KF.rf (KF.ex ex64.1)
      have ke66 : KF 6 T ws w59 := KF.tr KF.rf (KF.ex ex64.1)
      have hk67 := ex64.1 _ _ hk43
      have hg68 := (congrFun (ex64.2.2 p0 (by rw [ht0]; exact Nat.succ_ne_zero _)) 0).trans h22
      have hg69 := (congrFun (ex64.2.2 p0 (by rw [ht0]; exact Nat.succ_ne_zero _)) 1).trans h24
      have ge70 : GE T g g62 := GE.tr GE.rf (GE.ex ex64.2.1)
      refine lv_astore_n (lv' := [(2, .ref b53), (0, .ref p0), (1, .int p1)]) hx hb dX10_image_29 rfl hl (by decide) rfl (fun ls hl => ?_)
      refine lv_aload_n hx hb dX10_image_30 rfl (lv_at hl 1 rfl) ?_
      refine va_get (D := D) (ci := 10) (v := .ref a2) (C := RX10) (T := TX10) (N := 20) hx hb hg inGX10 hown hKN.1 hP p42 hk67 rfl 1 (by decide) (hg _ kw_350) (fun _ h9 => h9) rfl dX10_image_31 ?_
      refine lv_iload_n hx hb dX10_image_34 rfl (lv_at hl 2 rfl) ?_
      refine lv_aload_n hx hb dX10_image_35 rfl (lv_at hl 0 rfl) ?_
      refine tr_st19 hx hb hKN hP hD hS hT (le60.up h23) ht61 (vp_in_iff.mpr ⟨by omega, by omega⟩) dX10_image_36 (fun w71 H locs hP hD hS hT kp72 => ?_)
      have ke73 : KF 1 T ws w71 := KF.tr ke65 (KF.le (by decide) le60 (KF.kp kp72 (le60.up h23) (by decide)))
      have ke74 : KF 6 T ws w71 := KF.tr ke66 (KF.le (by decide) le60 (KF.kp kp72 (le60.up h23) (by decide)))
      have hk75 := kp72 _ _ hk67 (rne (le60.up ht0) (le60.up h23) (by decide))
      obtain ⟨q76, eq76, hT⟩ : ∃ qz, qz = qset q63 a2 p1.toNatClampNeg (some b53) ∧ TW Y Z T58 g62 qz w71 := ⟨_, rfl, hT⟩
      have hg77 : q76 p0 0 = some a1 := by rw [eq76, qset_ne (rne (le60.up ht0) (le60.up h23) (by decide))]; exact hg68
      have hg78 : q76 p0 1 = some a2 := by rw [eq76, qset_ne (rne (le60.up ht0) (le60.up h23) (by decide))]; exact hg69
      refine lv_aload_n hx hb dX10_image_37 rfl (lv_at hl 0 rfl) ?_
      refine lv_aload_n hx hb dX10_image_38 rfl (lv_at hl 1 rfl) ?_
      refine va_get (D := D) (ci := 10) (v := .ref a1) (C := RX10) (T := TX10) (N := 20) hx hb hg inGX10 hown hKN.1 hP p42 hk75 rfl 0 (by decide) (hg _ kw_349) (fun _ h9 => h9) rfl dX10_image_39 ?_
      refine ok2 hT ht61 (fun p113 x79 a80 x81 a82 x83 a84 a85 x86 a87 a88 x89 a90 x91 hk114 h92 h93 h94 h95 h96 h97 h98 h99 h100 h101 h102 h103 h104 h105 h106 h107 h108 h109 h110 h111 h112 => ?_)
      refine cga (rn_NV (As := [.ref a1]) (rest := []) (b := b53) (x_becomeS l D Y Z H.size w71 T58 g62 q76 (p1.toNatClampNeg + 1) 0 b53 a1 hT ht61 (le60.up h21) (Ne.symm (Nat.succ_ne_zero _))) ⟨hx, hb, hml, hown, hg⟩ hKN lk_X10_429 ⟨CPC.blind, va_recv hKN.1 hP (ci := 6) (q0 := p113) rfl hk114, CPC.at hP hKN hD hSZ hS hA⟩ ⟨⟨rfl, rfl⟩, ⟨Nat.le_of_ble_eq_true rfl, Nat.le_of_ble_eq_true rfl⟩, ⟨(Nat.le_of_ble_eq_true rfl), (Nat.le_of_ble_eq_true rfl)⟩⟩ hl.1 rfl (Nat.le_of_ble_eq_true rfl) dX10_image_42) hP hD hS hA (fun u115 H locs hw116 hP hD hS => ?_)
      refine W.widen (k := 32) (n := 7753) (Nat.le_of_ble_eq_true rfl) (Nat.le_of_ble_eq_true rfl) ?_
      obtain ⟨w117, T118, g119, q120⟩ := u115
      obtain ⟨le121, hT, ke122, ke123, gj124, qj125, hw126, hw127⟩ : TLe T58 T118 ∧ TW Y Z T118 g119 q120 w117 ∧ KF 1 T58 w71 w117 ∧ KF 6 T58 w71 w117 ∧ GJ T58 (p1.toNatClampNeg + 1) g62 g119 ∧ QJ T58 (p1.toNatClampNeg + 1) q76 q120 ∧ (BRW g62 g119 q76 b53 a1) ∧ (BE5 g62 g119 b53 a1 ∧ ∀ sr srf, q76 b53 1 = some sr → q76 a1 1 = some srf → SBE T118 g62 g119 q76 q120 (p1.toNatClampNeg + 1) sr srf (g62 a1 0).toInt) := hw116
      have hk128 := ke122 _ _ hk75 (show (T58 p0).1 = 1 by rw [(le60.up ht0)])
      have ke129 : KF 1 T ws w117 := KF.tr ke73 (KF.le (by decide) le60 ke122)
      have ke130 : KF 6 T ws w117 := KF.tr ke74 (KF.le (by decide) le60 ke123)
      refine W.eq (g2 := F0 m 45 ls []) rfl ?_
      refine lv_aload_n hx hb dX10_image_45 rfl (lv_at hl 1 rfl) ?_
      refine ok1 hT (le121.up (le60.up ht0)) (fun p172 a131 a132 a133 a134 a135 x136 x137 x138 a139 a140 a141 a142 a143 a144 a145 a146 a147 x148 a149 a150 hk173 h151 h152 h153 h154 h155 h156 h157 h158 h159 h160 h161 h162 h163 h164 h165 h166 h167 h168 h169 h170 h171 => ?_)
      refine va_get (D := D) (ci := 10) (v := .ref a131) (C := RX10) (T := TX10) (N := 20) hx hb hg inGX10 hown hKN.1 hP p172 hk173 rfl 0 (by decide) (hg _ kw_349) (fun _ h9 => h9) rfl dX10_image_46 ?_
      refine ok2 hT h151 (fun p208 x174 a175 x176 a177 x178 a179 a180 x181 a182 a183 x184 a185 x186 hk209 h187 h188 h189 h190 h191 h192 h193 h194 h195 h196 h197 h198 h199 h200 h201 h202 h203 h204 h205 h206 h207 => ?_)
      refine va_getN (D := D) (ci := 6) (v := .int x174) (C := RX6) (T := TX6) (N := 13) hx hb hg inGX6 hown hKN.1 hP p208 hk209 rfl 0 (by decide) (va_Nw.use rfl (hKN.2.1 _ kn_41 rfl)) (fun _ h9 => h9) rfl dX10_image_49 ?_
      refine W.widen (k := 32) (n := 7753) (Nat.le_of_ble_eq_true rfl) (Nat.le_of_ble_eq_true rfl) ?_
      have hTz210 := hT
      exact W.iret (v := x174) hx hb hr (fun t ht hW => ⟨⟨(x174, w117, T118, g119, q120), rfl, ⟨(le60.tr le121), hT, ke129, ke130, (show ∀ s0 ia, q p0 0 = some s0 → q p0 1 = some ia → (0 ≤ p1.toInt ∧ p1.toInt ≤ 3) → IMD g g119 q q120 s0 ia p1.toNatClampNeg from (fun s0 ia hs hi _ => by obtain rfl : s0 = a1 := Option.some.inj (hs.symm.trans h22); obtain rfl : ia = a2 := Option.some.inj (hi.symm.trans h24); exact IMD.of h21 h23 le60 ht61 (ex64.2.1) (fun a h0 hne => by rw [eq76, qset_ne hne]; exact ex64.2.2 a h0) (by rw [eq76]; exact qs_eq) qj125 hw126 hT0)), (show ∀ s0 ia, q p0 0 = some s0 → q p0 1 = some ia → ((0 ≤ p1.toInt ∧ p1.toInt ≤ 3) ∧ x174 = g s0 0 ∧ IMS T T118 g g119 q q120 p0 s0 ia p1.toNatClampNeg) ∨ (¬ (0 ≤ p1.toInt ∧ p1.toInt ≤ 3) ∧ x174.toInt = -1 ∧ g119 = g ∧ q120 = q) from (fun s0 ia hs hi => by obtain rfl : s0 = a1 := Option.some.inj (hs.symm.trans h22); obtain rfl : ia = a2 := Option.some.inj (hi.symm.trans h24); exact Or.inl ⟨⟨by omega, by omega⟩, IMS.of ht0 h21 h23 le60 le121 ht61 (ex64.2.1) (fun a h0 hne => by rw [eq76, qset_ne hne]; exact ex64.2.2 a h0) (by rw [eq76]; exact qs_eq) (fun j hj => by rw [eq76, qs_ne hj, ex64.2.2 _ (by rw [h23]; show (19 : Nat) ≠ 0; decide)]) hw127.1 hw127.2 gj124 qj125 hT0 hTz210 h22 h152 h188⟩))⟩, CB.mk ht hP hD⟩, hS.F ht⟩) hS.2.2 dX10_image_52
    · skip
      have ht211 := hr51 b52 rfl
      refine W.eq (g2 := F0 m 17 ls [.ref b52]) rfl ?_
      refine lv_astore_n (lv' := [(2, .ref b52), (0, .ref p0), (1, .int p1)]) hx hb dX10_image_17 rfl hl (by decide) rfl (fun ls hl => ?_)
      refine lv_aload_n hx hb dX10_image_18 rfl (lv_at hl 0 rfl) ?_
      refine lv_ifnonnull (tgt := 37) hx hb dX10_image_19 (by decide) ?_
      refine lv_aload_n hx hb dX10_image_37 rfl (lv_at hl 0 rfl) ?_
      refine lv_aload_n hx hb dX10_image_38 rfl (lv_at hl 1 rfl) ?_
      refine va_get (D := D) (ci := 10) (v := .ref a1) (C := RX10) (T := TX10) (N := 20) hx hb hg inGX10 hown hKN.1 hP p42 hk43 rfl 0 (by decide) (hg _ kw_349) (fun _ h9 => h9) rfl dX10_image_39 ?_
      refine ok2 hT ht211 (fun p246 x212 a213 x214 a215 x216 a217 a218 x219 a220 a221 x222 a223 x224 hk247 h225 h226 h227 h228 h229 h230 h231 h232 h233 h234 h235 h236 h237 h238 h239 h240 h241 h242 h243 h244 h245 => ?_)
      refine cga (rn_NV (As := [.ref a1]) (rest := []) (b := b52) (x_becomeS l D Y Z H.size ws T g q (p1.toNatClampNeg + 1) 0 b52 a1 hT ht211 h21 (Ne.symm (Nat.succ_ne_zero _))) ⟨hx, hb, hml, hown, hg⟩ hKN lk_X10_429 ⟨CPC.blind, va_recv hKN.1 hP (ci := 6) (q0 := p246) rfl hk247, CPC.at hP hKN hD hSZ hS hA⟩ ⟨⟨rfl, rfl⟩, ⟨Nat.le_of_ble_eq_true rfl, Nat.le_of_ble_eq_true rfl⟩, ⟨(Nat.le_of_ble_eq_true rfl), (Nat.le_of_ble_eq_true rfl)⟩⟩ hl.1 rfl (Nat.le_of_ble_eq_true rfl) dX10_image_42) hP hD hS hA (fun u248 H locs hw249 hP hD hS => ?_)
      refine W.widen (k := 24) (n := 7248) (Nat.le_of_ble_eq_true rfl) (Nat.le_of_ble_eq_true rfl) ?_
      obtain ⟨w250, T251, g252, q253⟩ := u248
      obtain ⟨le254, hT, ke255, ke256, gj257, qj258, hw259, hw260⟩ : TLe T T251 ∧ TW Y Z T251 g252 q253 w250 ∧ KF 1 T ws w250 ∧ KF 6 T ws w250 ∧ GJ T (p1.toNatClampNeg + 1) g g252 ∧ QJ T (p1.toNatClampNeg + 1) q q253 ∧ (BRW g g252 q b52 a1) ∧ (BE5 g g252 b52 a1 ∧ ∀ sr srf, q b52 1 = some sr → q a1 1 = some srf → SBE T251 g g252 q q253 (p1.toNatClampNeg + 1) sr srf (g a1 0).toInt) := hw249
      have hk261 := ke255 _ _ hk43 (show (T p0).1 = 1 by rw [ht0])
      have ke262 : KF 1 T ws w250 := KF.tr KF.rf ke255
      have ke263 : KF 6 T ws w250 := KF.tr KF.rf ke256
      refine W.eq (g2 := F0 m 45 ls []) rfl ?_
      refine lv_aload_n hx hb dX10_image_45 rfl (lv_at hl 1 rfl) ?_
      refine ok1 hT (le254.up ht0) (fun p305 a264 a265 a266 a267 a268 x269 x270 x271 a272 a273 a274 a275 a276 a277 a278 a279 a280 x281 a282 a283 hk306 h284 h285 h286 h287 h288 h289 h290 h291 h292 h293 h294 h295 h296 h297 h298 h299 h300 h301 h302 h303 h304 => ?_)
      refine va_get (D := D) (ci := 10) (v := .ref a264) (C := RX10) (T := TX10) (N := 20) hx hb hg inGX10 hown hKN.1 hP p305 hk306 rfl 0 (by decide) (hg _ kw_349) (fun _ h9 => h9) rfl dX10_image_46 ?_
      refine ok2 hT h284 (fun p341 x307 a308 x309 a310 x311 a312 a313 x314 a315 a316 x317 a318 x319 hk342 h320 h321 h322 h323 h324 h325 h326 h327 h328 h329 h330 h331 h332 h333 h334 h335 h336 h337 h338 h339 h340 => ?_)
      refine va_getN (D := D) (ci := 6) (v := .int x307) (C := RX6) (T := TX6) (N := 13) hx hb hg inGX6 hown hKN.1 hP p341 hk342 rfl 0 (by decide) (va_Nw.use rfl (hKN.2.1 _ kn_41 rfl)) (fun _ h9 => h9) rfl dX10_image_49 ?_
      refine W.widen (k := 32) (n := 7753) (Nat.le_of_ble_eq_true rfl) (Nat.le_of_ble_eq_true rfl) ?_
      have hTz343 := hT
      exact W.iret (v := x307) hx hb hr (fun t ht hW => ⟨⟨(x307, w250, T251, g252, q253), rfl, ⟨le254, hT, ke262, ke263, (show ∀ s0 ia, q p0 0 = some s0 → q p0 1 = some ia → (0 ≤ p1.toInt ∧ p1.toInt ≤ 3) → IMD g g252 q q253 s0 ia p1.toNatClampNeg from (fun s0 ia hs hi _ => by obtain rfl : s0 = a1 := Option.some.inj (hs.symm.trans h22); obtain rfl : ia = a2 := Option.some.inj (hi.symm.trans h24); exact IMD.of h21 h23 TLe.rf (hr51 _ rfl) (fun _ _ => rfl) (fun _ _ _ => rfl) qr51.symm qj258 hw259 hT0)), (show ∀ s0 ia, q p0 0 = some s0 → q p0 1 = some ia → ((0 ≤ p1.toInt ∧ p1.toInt ≤ 3) ∧ x307 = g s0 0 ∧ IMS T T251 g g252 q q253 p0 s0 ia p1.toNatClampNeg) ∨ (¬ (0 ≤ p1.toInt ∧ p1.toInt ≤ 3) ∧ x307.toInt = -1 ∧ g252 = g ∧ q253 = q) from (fun s0 ia hs hi => by obtain rfl : s0 = a1 := Option.some.inj (hs.symm.trans h22); obtain rfl : ia = a2 := Option.some.inj (hi.symm.trans h24); exact Or.inl ⟨⟨by omega, by omega⟩, IMS.of ht0 h21 h23 TLe.rf le254 (hr51 _ rfl) (fun _ _ => rfl) (fun _ _ _ => rfl) qr51.symm (fun _ _ => rfl) hw260.1 hw260.2 gj257 qj258 hT0 hTz343 h22 h285 h321⟩))⟩, CB.mk ht hP hD⟩, hS.F ht⟩) hS.2.2 dX10_image_52
  · obtain rfl : u44 = 0 := i_is c49 (by decide)
    refine W.eq (g2 := F0 m 6 ls [.int 0]) rfl ?_
    refine lv_if_ne (tgt := 11) hx hb dX10_image_6 (by decide) (fun c344 => ?_) (fun c344 => ?_)
    · exact absurd c344 (by decide)
    refine lv_iconst (v := (-1)) hx hb dX10_image_9 (by decide) ?_
    refine W.widen (k := 32) (n := 7753) (Nat.le_of_ble_eq_true rfl) (Nat.le_of_ble_eq_true rfl) ?_
    have zim1 : ((-1) : Int32).toInt = -1 := by decide
    exact W.iret (v := (-1)) hx hb hr (fun t ht hW => ⟨⟨(((-1)), ws, T, g, q), rfl, ⟨TLe.rf, hT, KF.rf, KF.rf, (show ∀ s0 ia, q p0 0 = some s0 → q p0 1 = some ia → (0 ≤ p1.toInt ∧ p1.toInt ≤ 3) → IMD g g q q s0 ia p1.toNatClampNeg from (fun s0 ia _ _ h9 => absurd h9 (by omega))), (show ∀ s0 ia, q p0 0 = some s0 → q p0 1 = some ia → ((0 ≤ p1.toInt ∧ p1.toInt ≤ 3) ∧ (-1) = g s0 0 ∧ IMS T T g g q q p0 s0 ia p1.toNatClampNeg) ∨ (¬ (0 ≤ p1.toInt ∧ p1.toInt ≤ 3) ∧ ((-1) : Int32).toInt = -1 ∧ g = g ∧ q = q) from (fun s0 ia _ _ => Or.inr ⟨by omega, by decide, rfl, rfl⟩))⟩, CB.mk ht hP hD⟩, hS.F ht⟩) hS.2.2 dX10_image_10
set_option maxHeartbeats 4000000 in
set_option maxRecDepth 100000 in
theorem x_backS (l : Launch) (D : va_G) (Y : Nat → ClassId) (Z : Nat → Nat) (sz : Nat) (ws : va_W) (T : RT) (g : GN) (q : GQ)  (p0 : Nat) (p1 : Int32) (hT : TW Y Z T g q ws) (ht0 : T p0 = (1, 0, 0)) : Met l yX10_back (.code yX10_back cX10_back 3 (some .int) :: GW) ({ frames := 4, cells := 24, slots := 7248, locals := 85 }) (va_Pc [.ref p0, .int p1] (CPC D Y Z ws sz)) (QG (S := Int32 × va_W × RT × GN × GQ) (fun u => some (.int u.1)) (fun u => TLe T u.2.2.1 ∧ TW Y Z u.2.2.1 u.2.2.2.1 u.2.2.2.2 u.2.1 ∧ KF 6 T ws u.2.1 ∧ (∀ s0 ia, q p0 0 = some s0 → q p0 1 = some ia → ∀ b, (0 ≤ p1.toInt ∧ p1.toInt ≤ 3) → q ia p1.toNatClampNeg = some b → BRW g u.2.2.2.1 q s0 b) ∧ (∀ s0 ia, q p0 0 = some s0 → q p0 1 = some ia → ((0 ≤ p1.toInt ∧ p1.toInt ≤ 3) ∧ BKS T u.2.2.1 g u.2.2.2.1 q u.2.2.2.2 s0 ia p1.toNatClampNeg u.1) ∨ (((0 ≤ p1.toInt ∧ p1.toInt ≤ 3) → q ia p1.toNatClampNeg = none) ∧ u.1.toInt = -1 ∧ u.2.2.2.1 = g ∧ u.2.2.2.2 = q))) (fun u => CB D u.2.1 (va_A ws sz)) (va_A ws sz)) 24 7248 (va_A ws sz) := by
  refine Met.ofW (cc := cX10_back) (maxL := 3) (ret := (some .int)) (by decide) rfl ?_
  intro p e s m args below meth c s₁ B hml hv
  obtain ⟨rfl, ⟨hsz, hP, hKN, hD0⟩, hSZ⟩ := hv
  have hx := B.exec
  have hb := B.bytes
  have hr := B.returns
  have hts := atoms_spec (ws := .code yX10_back cX10_back 3 (some .int) :: GW) B.pre
  have hg : ∀ w ∈ GW, w.before _ s = true := fun w h => hts w (List.mem_cons_of_mem _ h)
  have hown : s.vm.findClass RX10 = some m.cls := findClass_of_methodNamed B.named
  have hlocks := B.notSynchronized
  subst hsz
  have hD := hD0.self (sz := s.heap.size)
  generalize hAe : va_A ws s.heap.size = A at hD hSZ ⊢
  have hA : ∀ q : Nat, s.heap.size ≤ q → A q := fun q h => by rw [← hAe]; exact Or.inr h
  clear hAe hD0 hts B
  have hl := lv_entry ([.ref p0, .int p1]) (n := 3) (Nat.le_of_ble_eq_true rfl)
  rw [lg_entry_eq]
  generalize (lg_sl ([.ref p0, .int p1]) ++ List.replicate (3 - (lg_sl ([.ref p0, .int p1])).length) Slot.unset).toArray = ls at hl ⊢
  have hl : lv_has ls 3 [(0, .ref p0), (1, .int p1)] := hl
  refine w_start (A0 := A) hP (fun H locs hP hS => ?_)
  refine ok1 hT ht0 (fun p42 a1 a2 a3 a4 a5 x6 x7 x8 a9 a10 a11 a12 a13 a14 a15 a16 a17 x18 a19 a20 hk43 h21 h22 h23 h24 h25 h26 h27 h28 h29 h30 h31 h32 h33 h34 h35 h36 h37 h38 h39 h40 h41 => ?_)
  have hT0 := hT
  refine lv_iload_n hx hb dX10_back_0 rfl (lv_at hl 1 rfl) ?_
  refine lv_iconst (v := 0) hx hb dX10_back_1 (by decide) ?_
  refine lv_iconst (v := 3) hx hb dX10_back_2 (by decide) ?_
  have zi0 : (0 : Int32).toInt = 0 := by decide
  have zi3 : (3 : Int32).toInt = 3 := by decide
  refine cg0 (rn_S (As := [.int p1, .int 0, .int 3]) (rest := []) (x_X10_isWithin l D Y Z H.size p1 0 3) ⟨hx, hb, hml, hown, hg⟩ lk_X10_100 ⟨CP.blind, CP.at nilP hKN (nilD (A := fun _ => True))⟩ ⟨⟨rfl, rfl⟩, ⟨Nat.le_of_ble_eq_true rfl, Nat.le_of_ble_eq_true rfl⟩, ⟨(Nat.le_of_ble_eq_true rfl), (Nat.le_of_ble_eq_true rfl)⟩⟩ hl.1 rfl (Nat.le_of_ble_eq_true rfl) dX10_back_3) hP hS hA (fun u44 H locs hw45 hP hS => ?_)
  obtain ⟨hw47, hw48⟩ : (((0 : Int32).toInt ≤ p1.toInt ∧ p1.toInt ≤ (3 : Int32).toInt ∧ u44.toInt = 1) ∨ (¬ ((0 : Int32).toInt ≤ p1.toInt ∧ p1.toInt ≤ (3 : Int32).toInt) ∧ u44.toInt = 0)) ∧ (0 ≤ u44.toInt ∧ u44.toInt ≤ 1) := hw45
  refine W.eq (g2 := F0 m 6 ls [.int u44]) rfl ?_
  rcases (show u44.toInt = 1 ∨ u44.toInt = 0 by omega) with c49 | c49
  · obtain rfl : u44 = 1 := i_is c49 (by decide)
    have zi1 : (1 : Int32).toInt = 1 := by decide
    refine W.eq (g2 := F0 m 6 ls [.int 1]) rfl ?_
    refine lv_if_eq (tgt := 18) hx hb dX10_back_6 (by decide) (fun c50 => ?_) (fun c50 => ?_)
    · exact absurd c50 (by decide)
    refine lv_aload_n hx hb dX10_back_9 rfl (lv_at hl 0 rfl) ?_
    refine va_get (D := D) (ci := 10) (v := .ref a2) (C := RX10) (T := TX10) (N := 20) hx hb hg inGX10 hown hKN.1 hP p42 hk43 rfl 1 (by decide) (hg _ kw_350) (fun _ h9 => h9) rfl dX10_back_10 ?_
    refine lv_iload_n hx hb dX10_back_13 rfl (lv_at hl 1 rfl) ?_
    refine tr_ld19 hx hb hKN hP hT h23 (vp_in_iff.mpr ⟨by omega, by omega⟩) dX10_back_14 (fun r51 hr51 qr51 => ?_)
    refine W.eq (g2 := F0 m 15 ls [va_rf r51]) rfl ?_
    rcases r51 with _ | b52
    · skip
      refine W.eq (g2 := F0 m 15 ls [.null]) rfl ?_
      refine lv_goto (tgt := 19) hx hb dX10_back_15 (by decide) ?_
      refine lv_astore_nN (lv' := [(2, .null), (0, .ref p0), (1, .int p1)]) hx hb dX10_back_19 rfl hl (by decide) rfl (fun ls hl => ?_)
      refine lv_aload_nN hx hb dX10_back_20 rfl (lv_at hl 0 rfl) ?_
      refine lv_ifnonnullN hx hb dX10_back_21 ?_
      refine lv_iconst (v := (-1)) hx hb dX10_back_24 (by decide) ?_
      refine W.widen (k := 24) (n := 7248) (Nat.le_of_ble_eq_true rfl) (Nat.le_of_ble_eq_true rfl) ?_
      have zim1 : ((-1) : Int32).toInt = -1 := by decide
      exact W.iret (v := (-1)) hx hb hr (fun t ht hW => ⟨⟨(((-1)), ws, T, g, q), rfl, ⟨TLe.rf, hT, KF.rf, (show ∀ s0 ia, q p0 0 = some s0 → q p0 1 = some ia → ∀ b, (0 ≤ p1.toInt ∧ p1.toInt ≤ 3) → q ia p1.toNatClampNeg = some b → BRW g g q s0 b from (fun s0 ia hs hi b h7 h8 => by obtain rfl : s0 = a1 := Option.some.inj (hs.symm.trans h22); obtain rfl : ia = a2 := Option.some.inj (hi.symm.trans h24); rw [← qr51] at h8; cases h8)), (show ∀ s0 ia, q p0 0 = some s0 → q p0 1 = some ia → ((0 ≤ p1.toInt ∧ p1.toInt ≤ 3) ∧ BKS T T g g q q s0 ia p1.toNatClampNeg (-1)) ∨ (((0 ≤ p1.toInt ∧ p1.toInt ≤ 3) → q ia p1.toNatClampNeg = none) ∧ ((-1) : Int32).toInt = -1 ∧ g = g ∧ q = q) from (fun s0 ia hs hi => by obtain rfl : s0 = a1 := Option.some.inj (hs.symm.trans h22); obtain rfl : ia = a2 := Option.some.inj (hi.symm.trans h24); exact Or.inr ⟨fun _ => qr51.symm, by decide, rfl, rfl⟩))⟩, CB.mk ht hP hD⟩, hS.F ht⟩) hS.2.2 dX10_back_25
    · skip
      have ht53 := hr51 b52 rfl
      refine W.eq (g2 := F0 m 15 ls [.ref b52]) rfl ?_
      refine lv_goto (tgt := 19) hx hb dX10_back_15 (by decide) ?_
      refine lv_astore_n (lv' := [(2, .ref b52), (0, .ref p0), (1, .int p1)]) hx hb dX10_back_19 rfl hl (by decide) rfl (fun ls hl => ?_)
      refine lv_aload_n hx hb dX10_back_20 rfl (lv_at hl 0 rfl) ?_
      refine lv_ifnonnull (tgt := 26) hx hb dX10_back_21 (by decide) ?_
      refine lv_aload_n hx hb dX10_back_26 rfl (lv_at hl 1 rfl) ?_
      refine va_get (D := D) (ci := 10) (v := .ref a1) (C := RX10) (T := TX10) (N := 20) hx hb hg inGX10 hown hKN.1 hP p42 hk43 rfl 0 (by decide) (hg _ kw_349) (fun _ h9 => h9) rfl dX10_back_27 ?_
      refine lv_aload_n hx hb dX10_back_30 rfl (lv_at hl 0 rfl) ?_
      refine ok2 hT h21 (fun p88 x54 a55 x56 a57 x58 a59 a60 x61 a62 a63 x64 a65 x66 hk89 h67 h68 h69 h70 h71 h72 h73 h74 h75 h76 h77 h78 h79 h80 h81 h82 h83 h84 h85 h86 h87 => ?_)
      refine cga (rn_NV (As := [.ref b52]) (rest := []) (b := a1) (x_becomeS l D Y Z H.size ws T g q 0 (p1.toNatClampNeg + 1) a1 b52 hT h21 ht53 (Nat.succ_ne_zero _)) ⟨hx, hb, hml, hown, hg⟩ hKN lk_X10_429 ⟨CPC.blind, va_recv hKN.1 hP (ci := 6) (q0 := p88) rfl hk89, CPC.at hP hKN hD hSZ hS hA⟩ ⟨⟨rfl, rfl⟩, ⟨Nat.le_of_ble_eq_true rfl, Nat.le_of_ble_eq_true rfl⟩, ⟨(Nat.le_of_ble_eq_true rfl), (Nat.le_of_ble_eq_true rfl)⟩⟩ hl.1 rfl (Nat.le_of_ble_eq_true rfl) dX10_back_31) hP hD hS hA (fun u90 H locs hw91 hP hD hS => ?_)
      refine W.widen (k := 24) (n := 7248) (Nat.le_of_ble_eq_true rfl) (Nat.le_of_ble_eq_true rfl) ?_
      obtain ⟨w92, T93, g94, q95⟩ := u90
      obtain ⟨le96, hT, ke97, ke98, gj99, qj100, hw101, hw102⟩ : TLe T T93 ∧ TW Y Z T93 g94 q95 w92 ∧ KF 1 T ws w92 ∧ KF 6 T ws w92 ∧ GJ T 0 g g94 ∧ QJ T 0 q q95 ∧ (BRW g g94 q a1 b52) ∧ (BE5 g g94 a1 b52 ∧ ∀ sr srf, q a1 1 = some sr → q b52 1 = some srf → SBE T93 g g94 q q95 0 sr srf (g b52 0).toInt) := hw91
      have hk103 := ke97 _ _ hk43 (show (T p0).1 = 1 by rw [ht0])
      have ke104 : KF 6 T ws w92 := KF.tr KF.rf ke98
      refine W.eq (g2 := F0 m 34 ls []) rfl ?_
      refine lv_aload_n hx hb dX10_back_34 rfl (lv_at hl 1 rfl) ?_
      refine lv_dup hx hb dX10_back_35 rfl ?_
      refine ok1 hT (le96.up ht0) (fun p146 a105 a106 a107 a108 a109 x110 x111 x112 a113 a114 a115 a116 a117 a118 a119 a120 a121 x122 a123 a124 hk147 h125 h126 h127 h128 h129 h130 h131 h132 h133 h134 h135 h136 h137 h138 h139 h140 h141 h142 h143 h144 h145 => ?_)
      refine va_get (D := D) (ci := 10) (v := .int x122) (C := RX10) (T := TX10) (N := 20) hx hb hg inGX10 hown hKN.1 hP p146 hk147 rfl 17 (by decide) (hg _ kw_366) (fun _ h9 => h9) rfl dX10_back_36 ?_
      refine lv_iconst (v := 1) hx hb dX10_back_39 (by decide) ?_
      refine lv_iadd hx hb dX10_back_40 ?_
      refine lv_topi (fun v148 ev148 => ?_)
      refine va_put (D := D) (ci := 10) (v := .int v148) (ty := .int) (C := RX10) (T := TX10) (N := 20) hx hb hg inGX10 tyX10 tyX10_ok nmX10 hown hKN.1 hP hD hS p146 hk147 rfl 17 (by decide) (hg _ kw_366) (fun _ h9 => h9) rfl (by decide +kernel) rfl rfl (Nat.le_of_ble_eq_true rfl) dX10_back_41 (fun H locs hP hD2 hS => ?_)
      obtain ⟨w149, hP, hD, hT, hk151, kp150⟩ : ∃ wz, va_P D vwCl wz H ∧ va_D A wz ∧ TW Y Z T93 g94 q95 wz ∧ wz[p146]? = some (p0, .inr (10, (.ref a105 :: .ref a106 :: .ref a107 :: .ref a108 :: .ref a109 :: .int x110 :: .int x111 :: .int x112 :: .ref a113 :: .ref a114 :: .ref a115 :: .ref a116 :: .ref a117 :: .ref a118 :: .ref a119 :: .ref a120 :: .ref a121 :: .int v148 :: .ref a123 :: .ref a124 :: []))) ∧ Kp p0 w92 wz := ⟨_, hP, hD2, st1 hT hD hk147 (le96.up ht0) ⟨a105, a106, a107, a108, a109, x110, x111, x112, a113, a114, a115, a116, a117, a118, a119, a120, a121, v148, a123, a124, rfl, h125, h126, h127, h128, h129, h130, h131, by omega, by omega, by omega, h135, h136, h137, h138, h139, h140, h141, h142, h143, h144, h145⟩, sw_eq hk147, sw_kp hk147⟩
      have ke152 : KF 6 T ws w149 := KF.tr ke104 (KF.le (by decide) le96 (KF.kp kp150 (le96.up ht0) (by decide)))
      refine lv_aload_n hx hb dX10_back_44 rfl (lv_at hl 1 rfl) ?_
      refine va_get (D := D) (ci := 10) (v := .ref a105) (C := RX10) (T := TX10) (N := 20) hx hb hg inGX10 hown hKN.1 hP p146 hk151 rfl 0 (by decide) (hg _ kw_349) (fun _ h9 => h9) rfl dX10_back_45 ?_
      refine ok2 hT h125 (fun p187 x153 a154 x155 a156 x157 a158 a159 x160 a161 a162 x163 a164 x165 hk188 h166 h167 h168 h169 h170 h171 h172 h173 h174 h175 h176 h177 h178 h179 h180 h181 h182 h183 h184 h185 h186 => ?_)
      refine va_getN (D := D) (ci := 6) (v := .int x153) (C := RX6) (T := TX6) (N := 13) hx hb hg inGX6 hown hKN.1 hP p187 hk188 rfl 0 (by decide) (va_Nw.use rfl (hKN.2.1 _ kn_41 rfl)) (fun _ h9 => h9) rfl dX10_back_48 ?_
      refine W.widen (k := 24) (n := 7248) (Nat.le_of_ble_eq_true rfl) (Nat.le_of_ble_eq_true rfl) ?_
      exact W.iret (v := x153) hx hb hr (fun t ht hW => ⟨⟨(x153, w149, T93, g94, q95), rfl, ⟨le96, hT, ke152, (show ∀ s0 ia, q p0 0 = some s0 → q p0 1 = some ia → ∀ b, (0 ≤ p1.toInt ∧ p1.toInt ≤ 3) → q ia p1.toNatClampNeg = some b → BRW g g94 q s0 b from (fun s0 ia hs hi b h7 h8 => by obtain rfl : s0 = a1 := Option.some.inj (hs.symm.trans h22); obtain rfl : ia = a2 := Option.some.inj (hi.symm.trans h24); obtain rfl : b = b52 := Option.some.inj (h8.symm.trans qr51.symm); exact hw101)), (show ∀ s0 ia, q p0 0 = some s0 → q p0 1 = some ia → ((0 ≤ p1.toInt ∧ p1.toInt ≤ 3) ∧ BKS T T93 g g94 q q95 s0 ia p1.toNatClampNeg x153) ∨ (((0 ≤ p1.toInt ∧ p1.toInt ≤ 3) → q ia p1.toNatClampNeg = none) ∧ x153.toInt = -1 ∧ g94 = g ∧ q95 = q) from (fun s0 ia hs hi => by obtain rfl : s0 = a1 := Option.some.inj (hs.symm.trans h22); obtain rfl : ia = a2 := Option.some.inj (hi.symm.trans h24); exact Or.inl ⟨⟨by omega, by omega⟩, BKS.of ht0 qr51.symm hw102.1 hw102.2 gj99 qj100 h22 h126 h167⟩))⟩, CB.mk ht hP hD⟩, hS.F ht⟩) hS.2.2 dX10_back_51
  · obtain rfl : u44 = 0 := i_is c49 (by decide)
    refine W.eq (g2 := F0 m 6 ls [.int 0]) rfl ?_
    refine lv_if_eq (tgt := 18) hx hb dX10_back_6 (by decide) (fun c189 => ?_) (fun c189 => ?_)
    rotate_left
    · exact absurd c189 (by decide)
    refine lv_null hx hb dX10_back_18 ?_
    refine lv_astore_nN (lv' := [(2, .null), (0, .ref p0), (1, .int p1)]) hx hb dX10_back_19 rfl hl (by decide) rfl (fun ls hl => ?_)
    refine lv_aload_nN hx hb dX10_back_20 rfl (lv_at hl 0 rfl) ?_
    refine lv_ifnonnullN hx hb dX10_back_21 ?_
    refine lv_iconst (v := (-1)) hx hb dX10_back_24 (by decide) ?_
    refine W.widen (k := 24) (n := 7248) (Nat.le_of_ble_eq_true rfl) (Nat.le_of_ble_eq_true rfl) ?_
    have zim1 : ((-1) : Int32).toInt = -1 := by decide
    exact W.iret (v := (-1)) hx hb hr (fun t ht hW => ⟨⟨(((-1)), ws, T, g, q), rfl, ⟨TLe.rf, hT, KF.rf, (show ∀ s0 ia, q p0 0 = some s0 → q p0 1 = some ia → ∀ b, (0 ≤ p1.toInt ∧ p1.toInt ≤ 3) → q ia p1.toNatClampNeg = some b → BRW g g q s0 b from (fun s0 ia hs hi b h7 h8 => absurd h7 (by omega))), (show ∀ s0 ia, q p0 0 = some s0 → q p0 1 = some ia → ((0 ≤ p1.toInt ∧ p1.toInt ≤ 3) ∧ BKS T T g g q q s0 ia p1.toNatClampNeg (-1)) ∨ (((0 ≤ p1.toInt ∧ p1.toInt ≤ 3) → q ia p1.toNatClampNeg = none) ∧ ((-1) : Int32).toInt = -1 ∧ g = g ∧ q = q) from (fun s0 ia hs hi => by obtain rfl : s0 = a1 := Option.some.inj (hs.symm.trans h22); obtain rfl : ia = a2 := Option.some.inj (hi.symm.trans h24); exact Or.inr ⟨fun h => absurd h (by omega), by decide, rfl, rfl⟩))⟩, CB.mk ht hP hD⟩, hS.F ht⟩) hS.2.2 dX10_back_25
set_option maxHeartbeats 4000000 in
set_option maxRecDepth 100000 in
theorem m_rowS (l : Launch) (D : va_G) (Y : Nat → ClassId) (Z : Nat → Nat) (sz : Nat) (o : Nat) (a : Nat → Nat) (I : Nat → Int32) (J : Nat → Int64) (F : Nat → Nat → Int32) (G : Nat → Nat → Int64) (p1 : Int32) (p2 : Int32) (p3 : Int32) (hk0 : TO (F 0)) (hk1 : KS (F 0) (F 0)) (hk2 : KD (F 0) (F 0)) : Met l yX11_row (.code yX11_row cX11_row 5 (some .int) :: GW) ({ frames := 1, cells := 0, slots := 0, locals := 25 }) (va_Pc [.ref o, .int p1, .int p2, .int p3] (CP D Y Z (MW Y o a I J F G) sz)) (QG (S := Int32 × (Nat → Int32)) (fun u => some (.int u.1)) (fun u => TO u.2 ∧ KS (F 0) u.2 ∧ KD (F 0) u.2) (fun u => CB D (MW Y o a I J (vf_upd F 0 u.2) G) (va_A (MW Y o a I J F G) sz)) (va_A (MW Y o a I J F G) sz)) 0 0 (va_A (MW Y o a I J F G) sz) := by
  refine Met.ofW (cc := cX11_row) (maxL := 5) (ret := (some .int)) (by decide) rfl ?_
  intro p e s m args below meth c s₁ B hml hv
  obtain ⟨rfl, hsz, hP, hKN, hD0⟩ := hv
  have hx := B.exec
  have hb := B.bytes
  have hr := B.returns
  have hts := atoms_spec (ws := .code yX11_row cX11_row 5 (some .int) :: GW) B.pre
  have hg : ∀ w ∈ GW, w.before _ s = true := fun w h => hts w (List.mem_cons_of_mem _ h)
  have hown : s.vm.findClass RX11 = some m.cls := findClass_of_methodNamed B.named
  have hlocks := B.notSynchronized
  subst hsz
  have hD := hD0.self (sz := s.heap.size)
  generalize hAe : va_A (MW Y o a I J F G) s.heap.size = A at hD ⊢
  have hA : ∀ q : Nat, s.heap.size ≤ q → A q := fun q h => by rw [← hAe]; exact Or.inr h
  clear hAe hD0 hts B
  have hl := lv_entry ([.ref o, .int p1, .int p2, .int p3]) (n := 5) (Nat.le_of_ble_eq_true rfl)
  rw [lg_entry_eq]
  generalize (lg_sl ([.ref o, .int p1, .int p2, .int p3]) ++ List.replicate (5 - (lg_sl ([.ref o, .int p1, .int p2, .int p3])).length) Slot.unset).toArray = ls at hl ⊢
  have hl : lv_has ls 5 [(0, .ref o), (1, .int p1), (2, .int p2), (3, .int p3)] := hl
  refine w_start (A0 := A) hP (fun H locs hP hS => ?_)
  refine lv_aload_n hx hb dX11_row_0 rfl (lv_at hl 0 rfl) ?_
  refine lv_iload_n hx hb dX11_row_1 rfl (lv_at hl 1 rfl) ?_
  refine cga (rn_V (As := [.int p1]) (rest := []) (b := o) (m_isStar l D Y Z H.size o a I J F G  p1 hk0) ⟨hx, hb, hml, hown, hg⟩ lk_X11_108 ⟨CP.blind, va_recv hKN.1 hP (ci := 11) (q0 := 0) rfl rfl, CP.at hP hKN hD⟩ ⟨⟨rfl, rfl⟩, ⟨Nat.le_of_ble_eq_true rfl, Nat.le_of_ble_eq_true rfl⟩, ⟨Nat.le_of_ble_eq_true rfl, Nat.le_of_ble_eq_true rfl⟩⟩ hl.1 rfl (Nat.le_of_ble_eq_true rfl) dX11_row_2) hP hD hS hA (fun u1 H locs w2 hP hD hS => ?_)
  obtain ⟨hw4, hw5⟩ : ((0 ≤ p1.toInt ∧ p1.toInt ≤ 11 ∧ p1.toInt < ((F 0) 0).toInt ∧ u1.toInt = 1) ∨ (¬ (0 ≤ p1.toInt ∧ p1.toInt < ((F 0) 0).toInt) ∧ u1.toInt = 0)) ∧ (0 ≤ u1.toInt ∧ u1.toInt ≤ 1) := w2
  refine W.eq (g2 := F0 m 5 ls [.int u1]) rfl ?_
  have hP : va_P D vwCl (MW Y o a I J F G) H := hP
  have hD : va_D A (MW Y o a I J F G) := hD
  rcases (show u1.toInt = 1 ∨ u1.toInt = 0 by omega) with c6 | c6
  · obtain rfl : u1 = 1 := i_is c6 (by decide)
    have zi1 : (1 : Int32).toInt = 1 := by decide
    refine W.eq (g2 := F0 m 5 ls [.int 1]) rfl ?_
    refine lv_if_eq (tgt := 35) hx hb dX11_row_5 (by decide) (fun c7 => ?_) (fun c7 => ?_)
    · exact absurd c7 (by decide)
    refine lv_iload_n hx hb dX11_row_8 rfl (lv_at hl 2 rfl) ?_
    refine cg0 (rn_S (As := [.int p2]) (rest := []) (m_isHour l D Y Z H.size   p2 ) ⟨hx, hb, hml, hown, hg⟩ lk_X11_112 ⟨CP.blind, CP.at nilP hKN (nilD (A := fun _ => True))⟩ ⟨⟨rfl, rfl⟩, ⟨Nat.le_of_ble_eq_true rfl, Nat.le_of_ble_eq_true rfl⟩, ⟨Nat.le_of_ble_eq_true rfl, Nat.le_of_ble_eq_true rfl⟩⟩ hl.1 rfl (Nat.le_of_ble_eq_true rfl) dX11_row_9) hP hS hA (fun u8 H locs w9 hP hS => ?_)
    obtain ⟨hw11, hw12⟩ : ((0 ≤ p2.toInt ∧ p2.toInt ≤ 599 ∧ u8.toInt = 1) ∨ (¬ (0 ≤ p2.toInt ∧ p2.toInt ≤ 599) ∧ u8.toInt = 0)) ∧ (0 ≤ u8.toInt ∧ u8.toInt ≤ 1) := w9
    refine W.eq (g2 := F0 m 12 ls [.int u8]) rfl ?_
    rcases (show u8.toInt = 1 ∨ u8.toInt = 0 by omega) with c13 | c13
    · obtain rfl : u8 = 1 := i_is c13 (by decide)
      refine W.eq (g2 := F0 m 12 ls [.int 1]) rfl ?_
      refine lv_if_eq (tgt := 35) hx hb dX11_row_12 (by decide) (fun c14 => ?_) (fun c14 => ?_)
      · exact absurd c14 (by decide)
      refine lv_iload_n hx hb dX11_row_15 rfl (lv_at hl 3 rfl) ?_
      refine lv_ldc (v := (-100000)) hx hb hown (hg _ kw_1367) dX11_row_16 ?_
      have j15 := rgI p3
      refine lv_icmp_eq (tgt := 38) hx hb dX11_row_18 (by decide) (fun c16 => ?_) (fun c16 => ?_)
      · skip
        have c16 := i_eq (Eq.refl p3.toInt) (show ((-100000) : Int32).toInt = -100000 by decide) c16
        refine lv_aload_n hx hb dX11_row_38 rfl (lv_at hl 0 rfl) ?_
        refine va_get (D := D) (ci := 11) (v := .ref (a 0)) (C := RX11) (T := TX11) (N := 49) hx hb hg inGX11 hown hKN.1 hP 0 rfl rfl 0 (by decide) (hg _ kw_1208) (fun _ h9 => h9) rfl dX11_row_39 ?_
        refine lv_sipush (v := 315) hx hb dX11_row_42 (by decide) ?_
        refine lv_sipush (v := 600) hx hb dX11_row_45 (by decide) ?_
        refine lv_iload_n hx hb dX11_row_48 rfl (lv_at hl 1 rfl) ?_
        refine lv_imul hx hb dX11_row_49 ?_
        refine lv_topi (fun v17 ev17 => ?_)
        have hv17 := i_mul (show (600 : Int32).toInt = 600 by decide) (Eq.refl p1.toInt) ev17 (by omega) (by omega)
        refine lv_iadd hx hb dX11_row_50 ?_
        refine lv_topi (fun v18 ev18 => ?_)
        have hv18 := i_add (show (315 : Int32).toInt = 315 by decide) (Eq.refl v17.toInt) ev18 (by omega) (by omega)
        refine lv_iload_n hx hb dX11_row_51 rfl (lv_at hl 2 rfl) ?_
        refine lv_iadd hx hb dX11_row_52 ?_
        refine lv_topi (fun v19 ev19 => ?_)
        have hv19 := i_add (Eq.refl v18.toInt) (Eq.refl p2.toInt) ev19 (by omega) (by omega)
        refine va_iald hx hb hKN.1 hP 1 0 rfl rfl (vp_in_iff.mpr ⟨by omega, by omega⟩) dX11_row_53 ?_
        refine lv_topi (fun v20 ev20 => ?_)
        have ev20 : v20 = (F 0) v19.toNatClampNeg := ev20
        have kv20 := TO_row hk0 (i := v19) (by omega) (by omega)
        rw [← ev20] at kv20
        refine lv_istore (lv' := [(4, .int v20), (0, .ref o), (1, .int p1), (2, .int p2), (3, .int p3)]) hx hb dX11_row_54 hl (by decide) rfl (fun ls hl => ?_)
        refine lv_aload_n hx hb dX11_row_56 rfl (lv_at hl 1 rfl) ?_
        refine va_get (D := D) (ci := 11) (v := .ref (a 0)) (C := RX11) (T := TX11) (N := 49) hx hb hg inGX11 hown hKN.1 hP 0 rfl rfl 0 (by decide) (hg _ kw_1208) (fun _ h9 => h9) rfl dX11_row_57 ?_
        refine lv_sipush (v := 315) hx hb dX11_row_60 (by decide) ?_
        refine lv_sipush (v := 600) hx hb dX11_row_63 (by decide) ?_
        refine lv_iload_n hx hb dX11_row_66 rfl (lv_at hl 2 rfl) ?_
        refine lv_imul hx hb dX11_row_67 ?_
        refine lv_topi (fun v21 ev21 => ?_)
        have hv21 := i_mul (show (600 : Int32).toInt = 600 by decide) (Eq.refl p1.toInt) ev21 (by omega) (by omega)
        refine lv_iadd hx hb dX11_row_68 ?_
        refine lv_topi (fun v22 ev22 => ?_)
        have hv22 := i_add (show (315 : Int32).toInt = 315 by decide) (Eq.refl v21.toInt) ev22 (by omega) (by omega)
        refine lv_iload_n hx hb dX11_row_69 rfl (lv_at hl 3 rfl) ?_
        refine lv_iadd hx hb dX11_row_70 ?_
        refine lv_topi (fun v23 ev23 => ?_)
        have hv23 := i_add (Eq.refl v22.toInt) (Eq.refl p2.toInt) ev23 (by omega) (by omega)
        refine lv_iload_n hx hb dX11_row_71 rfl (lv_at hl 4 rfl) ?_
        refine va_iast hx hb hKN.1 hP hD hS 1 0 rfl rfl (vp_in_iff.mpr ⟨by omega, by omega⟩) dX11_row_72 (fun H locs hP hD hS => ?_)
        obtain ⟨f24, ef24, hP, hD⟩ : ∃ f24 : Nat → Int32, f24 = upd (F 0) v23.toNatClampNeg p3 ∧ va_P D vwCl (MW Y o a I J (vf_upd F 0 f24) G) H ∧ va_D A (MW Y o a I J (vf_upd F 0 f24) G) := ⟨_, rfl, hP, hD⟩
        have ct25 := clampI (x := v23) (by omega)
        have t25 : TO f24 := by rw [ef24]; exact TO_set hk0 (by unfold trow; omega) (by omega) (by omega) (by omega) (by omega)
        have ct26 := clampI (x := v23) (by omega)
        have t26 : KS (F 0) f24 := KS_set hk1 ef24 (by omega) (by omega)
        have ct27 := clampI (x := v23) (by omega)
        have t27 : KD (F 0) f24 := KD_set hk2 ef24 (by omega) (by omega)
        refine lv_iload hx hb dX11_row_73 (lv_at hl 0 rfl) ?_
        refine W.widen (k := 0) (n := 0) (Nat.le_of_ble_eq_true rfl) (Nat.le_of_ble_eq_true rfl) ?_
        exact W.iret (v := v20) hx hb hr (fun t ht hW => ⟨⟨(v20, f24), rfl, ⟨t25, t26, t27⟩, CB.mk ht hP hD⟩, hS.F ht⟩) hS.2.2 dX11_row_75
      · skip
        have c16 := i_ne (Eq.refl p3.toInt) (show ((-100000) : Int32).toInt = -100000 by decide) c16
        refine lv_iload_n hx hb dX11_row_21 rfl (lv_at hl 3 rfl) ?_
        have j28 := Int32.toInt_toInt64 p3
        refine lv_i2l (v := p3.toInt64) hx hb dX11_row_22 (rfl) ?_
        refine lv_ldc2 (v := (-30000)) hx hb hown (hg _ kw_1379) dX11_row_23 ?_
        refine lv_ldc2 (v := 30000) hx hb hown (hg _ kw_1380) dX11_row_26 ?_
        have zlm30000 : ((-30000) : Int64).toInt = -30000 := by decide
        have zl30000 : (30000 : Int64).toInt = 30000 := by decide
        refine cg0 (rn_S (As := [.long p3.toInt64, .long (-30000), .long 30000]) (rest := []) (m_in l D Y Z H.size   p3.toInt64 (-30000) 30000 ) ⟨hx, hb, hml, hown, hg⟩ lk_X11_99 ⟨CP.blind, CP.at nilP hKN (nilD (A := fun _ => True))⟩ ⟨⟨rfl, rfl⟩, ⟨Nat.le_of_ble_eq_true rfl, Nat.le_of_ble_eq_true rfl⟩, ⟨Nat.le_of_ble_eq_true rfl, Nat.le_of_ble_eq_true rfl⟩⟩ hl.1 rfl (Nat.le_of_ble_eq_true rfl) dX11_row_29) hP hS hA (fun u29 H locs w30 hP hS => ?_)
        obtain ⟨hw32, hw33⟩ : ((((-30000) : Int64).toInt ≤ p3.toInt64.toInt ∧ p3.toInt64.toInt ≤ (30000 : Int64).toInt ∧ u29.toInt = 1) ∨ (¬ (((-30000) : Int64).toInt ≤ p3.toInt64.toInt ∧ p3.toInt64.toInt ≤ (30000 : Int64).toInt) ∧ u29.toInt = 0)) ∧ (0 ≤ u29.toInt ∧ u29.toInt ≤ 1) := w30
        refine W.eq (g2 := F0 m 32 ls [.int u29]) rfl ?_
        rcases (show u29.toInt = 1 ∨ u29.toInt = 0 by omega) with c34 | c34
        · obtain rfl : u29 = 1 := i_is c34 (by decide)
          refine W.eq (g2 := F0 m 32 ls [.int 1]) rfl ?_
          refine lv_if_ne (tgt := 38) hx hb dX11_row_32 (by decide) (fun c35 => ?_) (fun c35 => ?_)
          rotate_left
          · exact absurd c35 (by decide)
          refine lv_aload_n hx hb dX11_row_38 rfl (lv_at hl 0 rfl) ?_
          refine va_get (D := D) (ci := 11) (v := .ref (a 0)) (C := RX11) (T := TX11) (N := 49) hx hb hg inGX11 hown hKN.1 hP 0 rfl rfl 0 (by decide) (hg _ kw_1208) (fun _ h9 => h9) rfl dX11_row_39 ?_
          refine lv_sipush (v := 315) hx hb dX11_row_42 (by decide) ?_
          refine lv_sipush (v := 600) hx hb dX11_row_45 (by decide) ?_
          refine lv_iload_n hx hb dX11_row_48 rfl (lv_at hl 1 rfl) ?_
          refine lv_imul hx hb dX11_row_49 ?_
          refine lv_topi (fun v36 ev36 => ?_)
          have hv36 := i_mul (show (600 : Int32).toInt = 600 by decide) (Eq.refl p1.toInt) ev36 (by omega) (by omega)
          refine lv_iadd hx hb dX11_row_50 ?_
          refine lv_topi (fun v37 ev37 => ?_)
          have hv37 := i_add (show (315 : Int32).toInt = 315 by decide) (Eq.refl v36.toInt) ev37 (by omega) (by omega)
          refine lv_iload_n hx hb dX11_row_51 rfl (lv_at hl 2 rfl) ?_
          refine lv_iadd hx hb dX11_row_52 ?_
          refine lv_topi (fun v38 ev38 => ?_)
          have hv38 := i_add (Eq.refl v37.toInt) (Eq.refl p2.toInt) ev38 (by omega) (by omega)
          refine va_iald hx hb hKN.1 hP 1 0 rfl rfl (vp_in_iff.mpr ⟨by omega, by omega⟩) dX11_row_53 ?_
          refine lv_topi (fun v39 ev39 => ?_)
          have ev39 : v39 = (F 0) v38.toNatClampNeg := ev39
          have kv39 := TO_row hk0 (i := v38) (by omega) (by omega)
          rw [← ev39] at kv39
          refine lv_istore (lv' := [(4, .int v39), (0, .ref o), (1, .int p1), (2, .int p2), (3, .int p3)]) hx hb dX11_row_54 hl (by decide) rfl (fun ls hl => ?_)
          refine lv_aload_n hx hb dX11_row_56 rfl (lv_at hl 1 rfl) ?_
          refine va_get (D := D) (ci := 11) (v := .ref (a 0)) (C := RX11) (T := TX11) (N := 49) hx hb hg inGX11 hown hKN.1 hP 0 rfl rfl 0 (by decide) (hg _ kw_1208) (fun _ h9 => h9) rfl dX11_row_57 ?_
          refine lv_sipush (v := 315) hx hb dX11_row_60 (by decide) ?_
          refine lv_sipush (v := 600) hx hb dX11_row_63 (by decide) ?_
          refine lv_iload_n hx hb dX11_row_66 rfl (lv_at hl 2 rfl) ?_
          refine lv_imul hx hb dX11_row_67 ?_
          refine lv_topi (fun v40 ev40 => ?_)
          have hv40 := i_mul (show (600 : Int32).toInt = 600 by decide) (Eq.refl p1.toInt) ev40 (by omega) (by omega)
          refine lv_iadd hx hb dX11_row_68 ?_
          refine lv_topi (fun v41 ev41 => ?_)
          have hv41 := i_add (show (315 : Int32).toInt = 315 by decide) (Eq.refl v40.toInt) ev41 (by omega) (by omega)
          refine lv_iload_n hx hb dX11_row_69 rfl (lv_at hl 3 rfl) ?_
          refine lv_iadd hx hb dX11_row_70 ?_
          refine lv_topi (fun v42 ev42 => ?_)
          have hv42 := i_add (Eq.refl v41.toInt) (Eq.refl p2.toInt) ev42 (by omega) (by omega)
          refine lv_iload_n hx hb dX11_row_71 rfl (lv_at hl 4 rfl) ?_
          refine va_iast hx hb hKN.1 hP hD hS 1 0 rfl rfl (vp_in_iff.mpr ⟨by omega, by omega⟩) dX11_row_72 (fun H locs hP hD hS => ?_)
          obtain ⟨f43, ef43, hP, hD⟩ : ∃ f43 : Nat → Int32, f43 = upd (F 0) v42.toNatClampNeg p3 ∧ va_P D vwCl (MW Y o a I J (vf_upd F 0 f43) G) H ∧ va_D A (MW Y o a I J (vf_upd F 0 f43) G) := ⟨_, rfl, hP, hD⟩
          have ct44 := clampI (x := v42) (by omega)
          have t44 : TO f43 := by rw [ef43]; exact TO_set hk0 (by unfold trow; omega) (by omega) (by omega) (by omega) (by omega)
          have ct45 := clampI (x := v42) (by omega)
          have t45 : KS (F 0) f43 := KS_set hk1 ef43 (by omega) (by omega)
          have ct46 := clampI (x := v42) (by omega)
          have t46 : KD (F 0) f43 := KD_set hk2 ef43 (by omega) (by omega)
          refine lv_iload hx hb dX11_row_73 (lv_at hl 0 rfl) ?_
          refine W.widen (k := 0) (n := 0) (Nat.le_of_ble_eq_true rfl) (Nat.le_of_ble_eq_true rfl) ?_
          exact W.iret (v := v39) hx hb hr (fun t ht hW => ⟨⟨(v39, f43), rfl, ⟨t44, t45, t46⟩, CB.mk ht hP hD⟩, hS.F ht⟩) hS.2.2 dX11_row_75
        · obtain rfl : u29 = 0 := i_is c34 (by decide)
          have zi0 : (0 : Int32).toInt = 0 := by decide
          refine W.eq (g2 := F0 m 32 ls [.int 0]) rfl ?_
          refine lv_if_ne (tgt := 38) hx hb dX11_row_32 (by decide) (fun c47 => ?_) (fun c47 => ?_)
          · exact absurd c47 (by decide)
          refine lv_ldc (v := (-200000)) hx hb hown (hg _ kw_1381) dX11_row_35 ?_
          refine W.widen (k := 0) (n := 0) (Nat.le_of_ble_eq_true rfl) (Nat.le_of_ble_eq_true rfl) ?_
          have zim200000 : ((-200000) : Int32).toInt = -200000 := by decide
          exact W.iret (v := (-200000)) hx hb hr (fun t ht hW => ⟨⟨((-200000), (F 0)), rfl, ⟨hk0, hk1, hk2⟩, CB.mk ht hP hD⟩, hS.F ht⟩) hS.2.2 dX11_row_37
    · obtain rfl : u8 = 0 := i_is c13 (by decide)
      have zi0 : (0 : Int32).toInt = 0 := by decide
      refine W.eq (g2 := F0 m 12 ls [.int 0]) rfl ?_
      refine lv_if_eq (tgt := 35) hx hb dX11_row_12 (by decide) (fun c48 => ?_) (fun c48 => ?_)
      rotate_left
      · exact absurd c48 (by decide)
      refine lv_ldc (v := (-200000)) hx hb hown (hg _ kw_1381) dX11_row_35 ?_
      refine W.widen (k := 0) (n := 0) (Nat.le_of_ble_eq_true rfl) (Nat.le_of_ble_eq_true rfl) ?_
      have zim200000 : ((-200000) : Int32).toInt = -200000 := by decide
      exact W.iret (v := (-200000)) hx hb hr (fun t ht hW => ⟨⟨((-200000), (F 0)), rfl, ⟨hk0, hk1, hk2⟩, CB.mk ht hP hD⟩, hS.F ht⟩) hS.2.2 dX11_row_37
  · obtain rfl : u1 = 0 := i_is c6 (by decide)
    have zi0 : (0 : Int32).toInt = 0 := by decide
    refine W.eq (g2 := F0 m 5 ls [.int 0]) rfl ?_
    refine lv_if_eq (tgt := 35) hx hb dX11_row_5 (by decide) (fun c49 => ?_) (fun c49 => ?_)
    rotate_left
    · exact absurd c49 (by decide)
    refine lv_ldc (v := (-200000)) hx hb hown (hg _ kw_1381) dX11_row_35 ?_
    refine W.widen (k := 0) (n := 0) (Nat.le_of_ble_eq_true rfl) (Nat.le_of_ble_eq_true rfl) ?_
    have zim200000 : ((-200000) : Int32).toInt = -200000 := by decide
    exact W.iret (v := (-200000)) hx hb hr (fun t ht hW => ⟨⟨((-200000), (F 0)), rfl, ⟨hk0, hk1, hk2⟩, CB.mk ht hP hD⟩, hS.F ht⟩) hS.2.2 dX11_row_37
