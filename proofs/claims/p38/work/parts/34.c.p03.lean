set_option maxHeartbeats 4000000 in
set_option maxRecDepth 100000 in
theorem x_X0_find (l : Launch) (D : va_G) (Y : Nat → ClassId) (Z : Nat → Nat) (sz : Nat) (ws : va_W) (T : RT) (g : GN) (q : GQ)  (p0 : Nat) (p1 : Nat) (p2 : Nat) (p3 : Nat) (hT : TW Y Z T g q ws) (ht0 : T p0 = (10, 0, 0)) (ht1 : T p1 = (9, 0, 0)) (ht2 : T p2 = (5, 0, 0)) (ht3 : T p3 = (6, 0, 0)) : Met l yX0_find (.code yX0_find cX0_find 7 none :: GW) ({ frames := 3, cells := 0, slots := 0, locals := 81 }) (va_Pc [.ref p0, .ref p1, .ref p2, .ref p3] (CPC D Y Z ws sz)) (QG (S := va_W) (fun _ => none) (fun u => TW Y Z T g q u ∧ KF 1 T ws u) (fun u => CB D u (va_A ws sz)) (va_A ws sz)) 0 0 (va_A ws sz) := by
  refine Met.ofW (cc := cX0_find) (maxL := 7) (ret := none) (by decide) rfl ?_
  intro p e s m args below meth c s₁ B hml hv
  obtain ⟨rfl, ⟨hsz, hP, hKN, hD0⟩, hSZ⟩ := hv
  have hx := B.exec
  have hb := B.bytes
  have hr := B.returns
  have hts := atoms_spec (ws := .code yX0_find cX0_find 7 none :: GW) B.pre
  have hg : ∀ w ∈ GW, w.before _ s = true := fun w h => hts w (List.mem_cons_of_mem _ h)
  have hown : s.vm.findClass RX0 = some m.cls := findClass_of_methodNamed B.named
  have hlocks := B.notSynchronized
  subst hsz
  have hD := hD0.self (sz := s.heap.size)
  generalize hAe : va_A ws s.heap.size = A at hD hSZ ⊢
  have hA : ∀ q : Nat, s.heap.size ≤ q → A q := fun q h => by rw [← hAe]; exact Or.inr h
  clear hAe hD0 hts B
  have hl := lv_entry ([.ref p0, .ref p1, .ref p2, .ref p3]) (n := 7) (Nat.le_of_ble_eq_true rfl)
  rw [lg_entry_eq]
  generalize (lg_sl ([.ref p0, .ref p1, .ref p2, .ref p3]) ++ List.replicate (7 - (lg_sl ([.ref p0, .ref p1, .ref p2, .ref p3])).length) Slot.unset).toArray = ls at hl ⊢
  have hl : lv_has ls 7 [(0, .ref p0), (1, .ref p1), (2, .ref p2), (3, .ref p3)] := hl
  refine w_start (A0 := A) hP (fun H locs hP hS => ?_)
  refine lv_aload_n hx hb dX0_find_0 rfl (lv_at hl 3 rfl) ?_
  refine lv_iconst (v := 0) hx hb dX0_find_1 (by decide) ?_
  refine ok6 hT ht3 (fun p9 x1 x2 x3 x4 x5 y6 y7 hk10 h8 => ?_)
  refine va_putN (D := D) (ci := 1) (v := .int 0) (ty := .int) (C := RX1) (T := TX1) (N := 7) hx hb hg inGX1 tyX1 tyX1_ok nmX1 hown hKN.1 hP hD hS p9 hk10 rfl 1 (by decide) (va_Nw.use rfl (hKN.2.1 _ kn_309 rfl)) (fun _ h9 => h9) rfl (by decide +kernel) rfl rfl (Nat.le_of_ble_eq_true rfl) dX0_find_2 (fun H locs hP hD2 hS => ?_)
  have zi0 : (0 : Int32).toInt = 0 := by decide
  obtain ⟨w11, hP, hD, hT, hk13, kp12⟩ : ∃ wz, va_P D vwCl wz H ∧ va_D A wz ∧ TW Y Z T g q wz ∧ wz[p9]? = some (p3, .inr (1, [.int x1, .int 0, .int x3, .int x4, .int x5, .long y6, .long y7])) ∧ Kp p3 ws wz := ⟨_, hP, hD2, st6 hT hD hk10 ht3 ⟨x1, (0), x3, x4, x5, y6, y7, rfl, by omega⟩, sw_eq hk10, sw_kp hk10⟩
  have ke14 : KF 1 T ws w11 := KF.tr KF.rf (KF.kp kp12 ht3 (by decide))
  refine lv_aload_n hx hb dX0_find_5 rfl (lv_at hl 3 rfl) ?_
  refine lv_iconst (v := 0) hx hb dX0_find_6 (by decide) ?_
  refine va_putN (D := D) (ci := 1) (v := .int 0) (ty := .int) (C := RX1) (T := TX1) (N := 7) hx hb hg inGX1 tyX1 tyX1_ok nmX1 hown hKN.1 hP hD hS p9 hk13 rfl 4 (by decide) (va_Nw.use rfl (hKN.2.1 _ kn_324 rfl)) (fun _ h9 => h9) rfl (by decide +kernel) rfl rfl (Nat.le_of_ble_eq_true rfl) dX0_find_7 (fun H locs hP hD2 hS => ?_)
  obtain ⟨w15, hP, hD, hT, hk17, kp16⟩ : ∃ wz, va_P D vwCl wz H ∧ va_D A wz ∧ TW Y Z T g q wz ∧ wz[p9]? = some (p3, .inr (1, [.int x1, .int 0, .int x3, .int x4, .int 0, .long y6, .long y7])) ∧ Kp p3 w11 wz := ⟨_, hP, hD2, st6 hT hD hk13 ht3 ⟨x1, (0), x3, x4, (0), y6, y7, rfl, by omega⟩, sw_eq hk13, sw_kp hk13⟩
  have ke18 : KF 1 T ws w15 := KF.tr ke14 (KF.kp kp16 ht3 (by decide))
  refine lv_aload_n hx hb dX0_find_10 rfl (lv_at hl 3 rfl) ?_
  refine lv_lconst (v := 0) hx hb dX0_find_11 (by decide) ?_
  refine va_putN (D := D) (ci := 1) (v := .long 0) (ty := .long) (C := RX1) (T := TX1) (N := 7) hx hb hg inGX1 tyX1 tyX1_ok nmX1 hown hKN.1 hP hD hS p9 hk17 rfl 6 (by decide) (va_Nw.use rfl (hKN.2.1 _ kn_331 rfl)) (fun _ h9 => h9) rfl (by decide +kernel) rfl rfl (Nat.le_of_ble_eq_true rfl) dX0_find_12 (fun H locs hP hD2 hS => ?_)
  have zl0 : (0 : Int64).toInt = 0 := by decide
  obtain ⟨w19, hP, hD, hT, hk21, kp20⟩ : ∃ wz, va_P D vwCl wz H ∧ va_D A wz ∧ TW Y Z T g q wz ∧ wz[p9]? = some (p3, .inr (1, [.int x1, .int 0, .int x3, .int x4, .int 0, .long y6, .long 0])) ∧ Kp p3 w15 wz := ⟨_, hP, hD2, st6 hT hD hk17 ht3 ⟨x1, (0), x3, x4, (0), y6, (0), rfl, by omega⟩, sw_eq hk17, sw_kp hk17⟩
  have ke22 : KF 1 T ws w19 := KF.tr ke18 (KF.kp kp20 ht3 (by decide))
  refine lv_aload_n hx hb dX0_find_15 rfl (lv_at hl 2 rfl) ?_
  refine ok5 hT ht2 (fun p44 x23 x24 x25 x26 x27 x28 x29 x30 a31 a32 a33 a34 a35 x36 hk45 h37 h38 h39 h40 h41 h42 h43 => ?_)
  refine va_getN (D := D) (ci := 8) (v := .int x25) (C := RX8) (T := TX8) (N := 14) hx hb hg inGX8 hown hKN.1 hP p44 hk45 rfl 2 (by decide) (va_Nw.use rfl (hKN.2.1 _ kn_121 rfl)) (fun _ h9 => h9) rfl dX0_find_16 ?_
  refine lv_sipush (v := 200) hx hb dX0_find_19 (by decide) ?_
  have zi200 : (200 : Int32).toInt = 200 := by decide
  refine cg0 (rn_S (As := [.int x25, .int 200]) (rest := []) (x_J9_min_7cf53 l D Y Z H.size x25 200) ⟨hx, hb, hml, hown, hg⟩ lk_X0_37 ⟨CP.blind, CP.at nilP hKN (nilD (A := fun _ => True))⟩ ⟨⟨rfl, rfl⟩, ⟨Nat.le_of_ble_eq_true rfl, Nat.le_of_ble_eq_true rfl⟩, ⟨(Nat.le_of_ble_eq_true rfl), (Nat.le_of_ble_eq_true rfl)⟩⟩ hl.1 rfl (Nat.le_of_ble_eq_true rfl) dX0_find_22) hP hS hA (fun u46 H locs hw47 hP hS => ?_)
  obtain ⟨hw49, hw50⟩ : (u46.toInt ≤ x25.toInt ∧ u46.toInt ≤ (200 : Int32).toInt) ∧ (u46.toInt = x25.toInt ∨ u46.toInt = (200 : Int32).toInt) := hw47
  refine W.eq (g2 := F0 m 25 ls [.int u46]) rfl ?_
  refine lv_istore (lv' := [(4, .int u46), (0, .ref p0), (1, .ref p1), (2, .ref p2), (3, .ref p3)]) hx hb dX0_find_25 hl (by decide) rfl (fun ls hl => ?_)
  refine lv_iconst (v := 2) hx hb dX0_find_27 (by decide) ?_
  refine lv_aload_n hx hb dX0_find_28 rfl (lv_at hl 3 rfl) ?_
  refine va_getN (D := D) (ci := 8) (v := .int x24) (C := RX8) (T := TX8) (N := 14) hx hb hg inGX8 hown hKN.1 hP p44 hk45 rfl 1 (by decide) (va_Nw.use rfl (hKN.2.1 _ kn_118 rfl)) (fun _ h9 => h9) rfl dX0_find_29 ?_
  have zi2 : (2 : Int32).toInt = 2 := by decide
  refine cg0 (rn_S (As := [.int 2, .int x24]) (rest := []) (x_J9_max_7cf53 l D Y Z H.size 2 x24) ⟨hx, hb, hml, hown, hg⟩ lk_X0_46 ⟨CP.blind, CP.at nilP hKN (nilD (A := fun _ => True))⟩ ⟨⟨rfl, rfl⟩, ⟨Nat.le_of_ble_eq_true rfl, Nat.le_of_ble_eq_true rfl⟩, ⟨(Nat.le_of_ble_eq_true rfl), (Nat.le_of_ble_eq_true rfl)⟩⟩ hl.1 rfl (Nat.le_of_ble_eq_true rfl) dX0_find_32) hP hS hA (fun u51 H locs hw52 hP hS => ?_)
  obtain ⟨hw54, hw55⟩ : ((2 : Int32).toInt ≤ u51.toInt ∧ x24.toInt ≤ u51.toInt) ∧ (u51.toInt = (2 : Int32).toInt ∨ u51.toInt = x24.toInt) := hw52
  refine W.eq (g2 := F0 m 35 ls [.int u51]) rfl ?_
  refine lv_istore (lv' := [(5, .int u51), (4, .int u46), (0, .ref p0), (1, .ref p1), (2, .ref p2), (3, .ref p3)]) hx hb dX0_find_35 hl (by decide) rfl (fun ls hl => ?_)
  refine w_loop (σ := Int32 × va_W) (fun xx H locs ls => match xx with | (v107, w108) => va_P D vwCl w108 H ∧ va_D A w108 ∧ va_S A s.heap H locs ∧ lv_has ls 7 [(5, .int v107), (4, .int u46), (0, .ref p0), (1, .ref p1), (2, .ref p2), (3, .ref p3)] ∧ TW Y Z T g q w108 ∧ KF 1 T ws w108 ∧ (2 ≤ v107.toInt)) (fun xx => match xx with | (v107, w108) => (201 - v107.toInt).toNat) (u51, w19) ⟨hP, hD, hS, lv_sub hl [0, 1, 2, 3, 4, 5] rfl, hT, ke22, by omega⟩ (fun xx H locs ls hI ih => ?_)
  obtain ⟨v107, w108⟩ := xx
  obtain ⟨hP, hD, hS, hl, hT, ke183, hq182⟩ := hI
  have ih184 := ih
  refine lv_iload hx hb dX0_find_37 (lv_at hl 0 rfl) ?_
  refine lv_iload hx hb dX0_find_39 (lv_at hl 1 rfl) ?_
  have j185 := rgI v107
  have j186 := rgI u46
  refine lv_icmp_gt (tgt := 101) hx hb dX0_find_41 (by decide) (fun c187 => ?_) (fun c187 => ?_)
  · skip
    have c187 := i_lt (Eq.refl u46.toInt) (Eq.refl v107.toInt) c187
    refine lv_aload_n hx hb dX0_find_101 rfl (lv_at hl 5 rfl) ?_
    refine ok6 hT ht3 (fun p196 x188 x189 x190 x191 x192 y193 y194 hk197 h195 => ?_)
    refine cga (rn_NV (As := []) (rest := []) (b := p3) (x_X1_isNone l D Y Z H.size w108 T g q p3 p196 x188 x189 x190 x191 x192 y193 y194 hT ht3 hk197) ⟨hx, hb, hml, hown, hg⟩ hKN lk_X0_65 ⟨CPC.blind, va_recv hKN.1 hP (ci := 1) (q0 := p196) rfl hk197, CPC.at hP hKN hD hSZ hS hA⟩ ⟨⟨rfl, rfl⟩, ⟨Nat.le_of_ble_eq_true rfl, Nat.le_of_ble_eq_true rfl⟩, ⟨(Nat.le_of_ble_eq_true rfl), (Nat.le_of_ble_eq_true rfl)⟩⟩ hl.1 rfl (Nat.le_of_ble_eq_true rfl) dX0_find_102) hP hD hS hA (fun u198 H locs hw199 hP hD hS => ?_)
    obtain ⟨hw201, hw202⟩ : (0 ≤ u198.toInt ∧ u198.toInt ≤ 1) ∧ (u198.toInt = 0 → 1 ≤ x189.toInt) := hw199
    refine W.eq (g2 := F0 m 105 ls [.int u198]) rfl ?_
    rcases (show u198.toInt = 1 ∨ u198.toInt = 0 by omega) with c203 | c203
    · obtain rfl : u198 = 1 := i_is c203 (by decide)
      have zi1 : (1 : Int32).toInt = 1 := by decide
      clear hw202
      refine W.eq (g2 := F0 m 105 ls [.int 1]) rfl ?_
      refine lv_if_ne (tgt := 152) hx hb dX0_find_105 (by decide) (fun c204 => ?_) (fun c204 => ?_)
      rotate_left
      · exact absurd c204 (by decide)
      refine W.widen (k := 0) (n := 0) (Nat.le_of_ble_eq_true rfl) (Nat.le_of_ble_eq_true rfl) ?_
      exact W.vret hx hb hr (fun t ht hW => ⟨⟨w108, rfl, ⟨hT, ke183⟩, CB.mk ht hP hD⟩, hS.F ht⟩) hS.2.2 dX0_find_152
    · obtain rfl : u198 = 0 := i_is c203 (by decide)
      replace hw202 := hw202 (by decide)
      refine W.eq (g2 := F0 m 105 ls [.int 0]) rfl ?_
      refine lv_if_ne (tgt := 152) hx hb dX0_find_105 (by decide) (fun c205 => ?_) (fun c205 => ?_)
      · exact absurd c205 (by decide)
      refine lv_aload_n hx hb dX0_find_108 rfl (lv_at hl 3 rfl) ?_
      refine lv_aload_n hx hb dX0_find_109 rfl (lv_at hl 5 rfl) ?_
      refine va_getN (D := D) (ci := 1) (v := .int x189) (C := RX1) (T := TX1) (N := 7) hx hb hg inGX1 hown hKN.1 hP p196 hk197 rfl 1 (by decide) (va_Nw.use rfl (hKN.2.1 _ kn_309 rfl)) (fun _ h9 => h9) rfl dX0_find_110 ?_
      refine lv_aload_n hx hb dX0_find_113 rfl (lv_at hl 5 rfl) ?_
      refine va_getN (D := D) (ci := 1) (v := .int x190) (C := RX1) (T := TX1) (N := 7) hx hb hg inGX1 hown hKN.1 hP p196 hk197 rfl 2 (by decide) (va_Nw.use rfl (hKN.2.1 _ kn_314 rfl)) (fun _ h9 => h9) rfl dX0_find_114 ?_
      refine lv_aload_n hx hb dX0_find_117 rfl (lv_at hl 5 rfl) ?_
      refine va_getN (D := D) (ci := 1) (v := .int x191) (C := RX1) (T := TX1) (N := 7) hx hb hg inGX1 hown hKN.1 hP p196 hk197 rfl 3 (by decide) (va_Nw.use rfl (hKN.2.1 _ kn_319 rfl)) (fun _ h9 => h9) rfl dX0_find_118 ?_
      refine ok9 hT ht1 (fun p218 a206 a207 a208 x209 y210 y211 x212 y213 hk219 h214 h215 h216 h217 => ?_)
      refine cga (rn_NV (As := [.int x189, .int x190, .int x191]) (rest := []) (b := p1) (x_X2_tally l D Y Z H.size w108 T g q p1 x189 x190 x191 hT ht1) ⟨hx, hb, hml, hown, hg⟩ hKN lk_X0_75 ⟨CPC.blind, va_recv hKN.1 hP (ci := 2) (q0 := p218) rfl hk219, CPC.at hP hKN hD hSZ hS hA⟩ ⟨⟨rfl, rfl⟩, ⟨Nat.le_of_ble_eq_true rfl, Nat.le_of_ble_eq_true rfl⟩, ⟨(Nat.le_of_ble_eq_true rfl), (Nat.le_of_ble_eq_true rfl)⟩⟩ hl.1 rfl (Nat.le_of_ble_eq_true rfl) dX0_find_121) hP hD hS hA (fun u220 H locs hw221 hP hD hS => ?_)
      obtain ⟨hT, ke223, ke224⟩ : TW Y Z T g q u220 ∧ KF 1 T w108 u220 ∧ KF 6 T w108 u220 := hw221
      have hk225 := ke224 _ _ hk197 (show (T p3).1 = 6 by rw [ht3])
      have ke226 : KF 1 T ws u220 := KF.tr ke183 ke223
      refine W.eq (g2 := F0 m 124 ls []) rfl ?_
      refine lv_aload_n hx hb dX0_find_124 rfl (lv_at hl 5 rfl) ?_
      refine lv_aload_n hx hb dX0_find_125 rfl (lv_at hl 3 rfl) ?_
      refine ok9 hT ht1 (fun p239 a227 a228 a229 x230 y231 y232 x233 y234 hk240 h235 h236 h237 h238 => ?_)
      refine cga (rn_NV (As := []) (rest := [.ref p3]) (b := p1) (x_X2_deep l D Y Z H.size u220 T g q p1 hT ht1) ⟨hx, hb, hml, hown, hg⟩ hKN lk_X0_79 ⟨CPC.blind, va_recv hKN.1 hP (ci := 2) (q0 := p239) rfl hk240, CPC.at hP hKN hD hSZ hS hA⟩ ⟨⟨rfl, rfl⟩, ⟨Nat.le_of_ble_eq_true rfl, Nat.le_of_ble_eq_true rfl⟩, ⟨(Nat.le_of_ble_eq_true rfl), (Nat.le_of_ble_eq_true rfl)⟩⟩ hl.1 rfl (Nat.le_of_ble_eq_true rfl) dX0_find_126) hP hD hS hA (fun u241 H locs hw242 hP hD hS => ?_)
      refine W.eq (g2 := F0 m 129 ls [.long u241, .ref p3]) rfl ?_
      refine va_putN (D := D) (ci := 1) (v := .long u241) (ty := .long) (C := RX1) (T := TX1) (N := 7) hx hb hg inGX1 tyX1 tyX1_ok nmX1 hown hKN.1 hP hD hS p196 hk225 rfl 5 (by decide) (va_Nw.use rfl (hKN.2.1 _ kn_327 rfl)) (fun _ h9 => h9) rfl (by decide +kernel) rfl rfl (Nat.le_of_ble_eq_true rfl) dX0_find_129 (fun H locs hP hD2 hS => ?_)
      obtain ⟨w244, hP, hD, hT, hk246, kp245⟩ : ∃ wz, va_P D vwCl wz H ∧ va_D A wz ∧ TW Y Z T g q wz ∧ wz[p196]? = some (p3, .inr (1, [.int x188, .int x189, .int x190, .int x191, .int x192, .long u241, .long y194])) ∧ Kp p3 u220 wz := ⟨_, hP, hD2, st6 hT hD hk225 ht3 ⟨x188, x189, x190, x191, x192, u241, y194, rfl, by omega⟩, sw_eq hk225, sw_kp hk225⟩
      have ke247 : KF 1 T ws w244 := KF.tr ke226 (KF.kp kp245 ht3 (by decide))
      have hk248 := kp245 _ _ hk240 (rne ht1 ht3 (by decide))
      refine lv_aload_n hx hb dX0_find_132 rfl (lv_at hl 5 rfl) ?_
      refine lv_aload_n hx hb dX0_find_133 rfl (lv_at hl 3 rfl) ?_
      refine lv_aload_n hx hb dX0_find_134 rfl (lv_at hl 5 rfl) ?_
      refine va_getN (D := D) (ci := 1) (v := .int x189) (C := RX1) (T := TX1) (N := 7) hx hb hg inGX1 hown hKN.1 hP p196 hk246 rfl 1 (by decide) (va_Nw.use rfl (hKN.2.1 _ kn_309 rfl)) (fun _ h9 => h9) rfl dX0_find_135 ?_
      refine lv_aload_n hx hb dX0_find_138 rfl (lv_at hl 5 rfl) ?_
      refine va_getN (D := D) (ci := 1) (v := .int x190) (C := RX1) (T := TX1) (N := 7) hx hb hg inGX1 hown hKN.1 hP p196 hk246 rfl 2 (by decide) (va_Nw.use rfl (hKN.2.1 _ kn_314 rfl)) (fun _ h9 => h9) rfl dX0_find_139 ?_
      refine lv_aload_n hx hb dX0_find_142 rfl (lv_at hl 5 rfl) ?_
      refine va_getN (D := D) (ci := 1) (v := .int x191) (C := RX1) (T := TX1) (N := 7) hx hb hg inGX1 hown hKN.1 hP p196 hk246 rfl 3 (by decide) (va_Nw.use rfl (hKN.2.1 _ kn_319 rfl)) (fun _ h9 => h9) rfl dX0_find_143 ?_
      refine cga (rn_NV (As := [.int x189, .int x190, .int x191]) (rest := [.ref p3]) (b := p1) (x_X2_dips l D Y Z H.size w244 T g q p1 x189 x190 x191 hT ht1 (show (x189.toInt ≤ 200) by omega)) ⟨hx, hb, hml, hown, hg⟩ hKN lk_X0_85 ⟨CPC.blind, va_recv hKN.1 hP (ci := 2) (q0 := p239) rfl hk248, CPC.at hP hKN hD hSZ hS hA⟩ ⟨⟨rfl, rfl⟩, ⟨Nat.le_of_ble_eq_true rfl, Nat.le_of_ble_eq_true rfl⟩, ⟨(Nat.le_of_ble_eq_true rfl), (Nat.le_of_ble_eq_true rfl)⟩⟩ hl.1 rfl (Nat.le_of_ble_eq_true rfl) dX0_find_146) hP hD hS hA (fun u249 H locs hw250 hP hD hS => ?_)
      refine W.eq (g2 := F0 m 149 ls [.int u249, .ref p3]) rfl ?_
      refine va_putN (D := D) (ci := 1) (v := .int u249) (ty := .int) (C := RX1) (T := TX1) (N := 7) hx hb hg inGX1 tyX1 tyX1_ok nmX1 hown hKN.1 hP hD hS p196 hk246 rfl 4 (by decide) (va_Nw.use rfl (hKN.2.1 _ kn_324 rfl)) (fun _ h9 => h9) rfl (by decide +kernel) rfl rfl (Nat.le_of_ble_eq_true rfl) dX0_find_149 (fun H locs hP hD2 hS => ?_)
      obtain ⟨w252, hP, hD, hT, hk254, kp253⟩ : ∃ wz, va_P D vwCl wz H ∧ va_D A wz ∧ TW Y Z T g q wz ∧ wz[p196]? = some (p3, .inr (1, [.int x188, .int x189, .int x190, .int x191, .int u249, .long u241, .long y194])) ∧ Kp p3 w244 wz := ⟨_, hP, hD2, st6 hT hD hk246 ht3 ⟨x188, x189, x190, x191, u249, u241, y194, rfl, by omega⟩, sw_eq hk246, sw_kp hk246⟩
      have ke255 : KF 1 T ws w252 := KF.tr ke247 (KF.kp kp253 ht3 (by decide))
      have hk256 := kp253 _ _ hk248 (rne ht1 ht3 (by decide))
      refine W.widen (k := 0) (n := 0) (Nat.le_of_ble_eq_true rfl) (Nat.le_of_ble_eq_true rfl) ?_
      exact W.vret hx hb hr (fun t ht hW => ⟨⟨w252, rfl, ⟨hT, ke255⟩, CB.mk ht hP hD⟩, hS.F ht⟩) hS.2.2 dX0_find_152
  · skip
    have c187 := i_nlt (Eq.refl u46.toInt) (Eq.refl v107.toInt) c187
    refine lv_sipush (v := 600) hx hb dX0_find_44 (by decide) ?_
    refine lv_iload hx hb dX0_find_47 (lv_at hl 0 rfl) ?_
    have zi600 : (600 : Int32).toInt = 600 := by decide
    refine lv_idiv hx hb dX0_find_49 (i_nz (Eq.refl v107.toInt) (by omega)) ?_
    refine lv_topi (fun v257 ev257 => ?_)
    have hv257 := i_div (show (600 : Int32).toInt = 600 by decide) (Eq.refl v107.toInt) ev257 (by omega) (by omega)
    refine lv_iconst (v := 2) hx hb dX0_find_50 (by decide) ?_
    refine lv_iadd hx hb dX0_find_51 ?_
    refine lv_topi (fun v258 ev258 => ?_)
    have hv258 := i_add (Eq.refl v257.toInt) (show (2 : Int32).toInt = 2 by decide) ev258 (by omega) (by omega)
    refine lv_aload_n hx hb dX0_find_52 rfl (lv_at hl 4 rfl) ?_
    refine ok5 hT ht2 (fun p280 x259 x260 x261 x262 x263 x264 x265 x266 a267 a268 a269 a270 a271 x272 hk281 h273 h274 h275 h276 h277 h278 h279 => ?_)
    refine va_getN (D := D) (ci := 8) (v := .int x264) (C := RX8) (T := TX8) (N := 14) hx hb hg inGX8 hown hKN.1 hP p280 hk281 rfl 5 (by decide) (va_Nw.use rfl (hKN.2.1 _ kn_130 rfl)) (fun _ h9 => h9) rfl dX0_find_53 ?_
    have j282 := rgI x264
    refine lv_icmp_lt (tgt := 63) hx hb dX0_find_56 (by decide) (fun c283 => ?_) (fun c283 => ?_)
    · skip
      have c283 := i_lt (Eq.refl v258.toInt) (Eq.refl x264.toInt) c283
      refine lv_iconst (v := 0) hx hb dX0_find_63 (by decide) ?_
      refine lv_istore (lv' := [(6, .int 0), (5, .int v107), (4, .int u46), (0, .ref p0), (1, .ref p1), (2, .ref p2), (3, .ref p3)]) hx hb dX0_find_64 hl (by decide) rfl (fun ls hl => ?_)
      refine lv_iload hx hb dX0_find_66 (lv_at hl 0 rfl) ?_
      refine lv_if_eq (tgt := 95) hx hb dX0_find_68 (by decide) (fun c284 => ?_) (fun c284 => ?_)
      rotate_left
      · exact absurd c284 (by decide)
      obtain ⟨v285, ev285⟩ : ∃ y : Int32, y = v107 + 1 := ⟨_, rfl⟩
      have hv285 := i_add (Eq.refl v107.toInt) (show (1 : Int32).toInt = 1 by decide) ev285 (by omega) (by omega)
      refine lv_iinc (v := v285) (lv' := [(5, .int v285), (6, .int 0), (4, .int u46), (0, .ref p0), (1, .ref p1), (2, .ref p2), (3, .ref p3)]) hx hb dX0_find_95 hl (k := 1) rfl (by rw [ev285]; rfl) (by decide) rfl (fun ls hl => ?_)
      refine lv_goto (tgt := 37) hx hb dX0_find_98 (by decide) ?_
      exact ih184 (v285, w108) H locs ls (by show (201 - v285.toInt).toNat < (201 - v107.toInt).toNat; omega) ⟨hP, hD, hS, lv_sub hl [0, 2, 3, 4, 5, 6] rfl, hT, ke183, by omega⟩
    · skip
      have c283 := i_nlt (Eq.refl v258.toInt) (Eq.refl x264.toInt) c283
      refine lv_iconst (v := 1) hx hb dX0_find_59 (by decide) ?_
      refine lv_goto (tgt := 64) hx hb dX0_find_60 (by decide) ?_
      refine lv_istore (lv' := [(6, .int 1), (5, .int v107), (4, .int u46), (0, .ref p0), (1, .ref p1), (2, .ref p2), (3, .ref p3)]) hx hb dX0_find_64 hl (by decide) rfl (fun ls hl => ?_)
      refine lv_iload hx hb dX0_find_66 (lv_at hl 0 rfl) ?_
      refine lv_if_eq (tgt := 95) hx hb dX0_find_68 (by decide) (fun c286 => ?_) (fun c286 => ?_)
      · exact absurd c286 (by decide)
      refine lv_aload_n hx hb dX0_find_71 rfl (lv_at hl 4 rfl) ?_
      refine ok9 hT ht1 (fun p299 a287 a288 a289 x290 y291 y292 x293 y294 hk300 h295 h296 h297 h298 => ?_)
      refine va_getN (D := D) (ci := 2) (v := .int x290) (C := RX2) (T := TX2) (N := 8) hx hb hg inGX2 hown hKN.1 hP p299 hk300 rfl 3 (by decide) (va_Nw.use rfl (hKN.2.1 _ kn_240 rfl)) (fun _ h9 => h9) rfl dX0_find_72 ?_
      refine lv_iconst (v := 1) hx hb dX0_find_75 (by decide) ?_
      refine lv_icmp_le (tgt := 95) hx hb dX0_find_76 (by decide) (fun c301 => ?_) (fun c301 => ?_)
      · skip
        have c301 := i_le (Eq.refl x290.toInt) (show (1 : Int32).toInt = 1 by decide) c301
        obtain ⟨v302, ev302⟩ : ∃ y : Int32, y = v107 + 1 := ⟨_, rfl⟩
        have hv302 := i_add (Eq.refl v107.toInt) (show (1 : Int32).toInt = 1 by decide) ev302 (by omega) (by omega)
        refine lv_iinc (v := v302) (lv' := [(5, .int v302), (6, .int 1), (4, .int u46), (0, .ref p0), (1, .ref p1), (2, .ref p2), (3, .ref p3)]) hx hb dX0_find_95 hl (k := 1) rfl (by rw [ev302]; rfl) (by decide) rfl (fun ls hl => ?_)
        refine lv_goto (tgt := 37) hx hb dX0_find_98 (by decide) ?_
        have zi1 : (1 : Int32).toInt = 1 := by decide
        exact ih184 (v302, w108) H locs ls (by show (201 - v302.toInt).toNat < (201 - v107.toInt).toNat; omega) ⟨hP, hD, hS, lv_sub hl [0, 2, 3, 4, 5, 6] rfl, hT, ke183, by omega⟩
      · skip
        have c301 := i_nle (Eq.refl x290.toInt) (show (1 : Int32).toInt = 1 by decide) c301
        refine lv_aload_n hx hb dX0_find_79 rfl (lv_at hl 3 rfl) ?_
        refine lv_aload_n hx hb dX0_find_80 rfl (lv_at hl 4 rfl) ?_
        refine lv_iload hx hb dX0_find_81 (lv_at hl 1 rfl) ?_
        refine ok10 hT ht0 (fun p307 a303 a304 hk308 h305 h306 => ?_)
        refine cga (rn_V (As := [.ref p1, .int v107]) (rest := []) (b := p0) (x_X0_foldBy l D Y Z H.size w108 T g q p0 p1 v107 hT ht0 ht1) ⟨hx, hb, hml, hown, hg⟩ lk_X0_57 ⟨CPC.blind, va_recv hKN.1 hP (ci := 0) (q0 := p307) rfl hk308, CPC.at hP hKN hD hSZ hS hA⟩ ⟨⟨rfl, rfl⟩, ⟨Nat.le_of_ble_eq_true rfl, Nat.le_of_ble_eq_true rfl⟩, ⟨(Nat.le_of_ble_eq_true rfl), (Nat.le_of_ble_eq_true rfl)⟩⟩ hl.1 rfl (Nat.le_of_ble_eq_true rfl) dX0_find_83) hP hD hS hA (fun u309 H locs hw310 hP hD hS => ?_)
        obtain ⟨hT, ke312, ke313⟩ : TW Y Z T g q u309 ∧ KF 1 T w108 u309 ∧ KF 6 T w108 u309 := hw310
        have ke314 : KF 1 T ws u309 := KF.tr ke183 ke312
        refine W.eq (g2 := F0 m 86 ls []) rfl ?_
        refine lv_aload_n hx hb dX0_find_86 rfl (lv_at hl 3 rfl) ?_
        refine lv_aload_n hx hb dX0_find_87 rfl (lv_at hl 4 rfl) ?_
        refine lv_aload_n hx hb dX0_find_88 rfl (lv_at hl 5 rfl) ?_
        refine lv_iload hx hb dX0_find_89 (lv_at hl 1 rfl) ?_
        refine lv_aload_n hx hb dX0_find_91 rfl (lv_at hl 6 rfl) ?_
        refine ok10 hT ht0 (fun p319 a315 a316 hk320 h317 h318 => ?_)
        refine cga (rn_V (As := [.ref p1, .ref p2, .int v107, .ref p3]) (rest := []) (b := p0) (x_X0_tryBeat l D Y Z H.size u309 T g q p0 p1 p2 p3 v107 hT ht0 ht1 ht2 ht3 (show (2 ≤ v107.toInt ∧ v107.toInt ≤ 200) by omega)) ⟨hx, hb, hml, hown, hg⟩ lk_X0_61 ⟨CPC.blind, va_recv hKN.1 hP (ci := 0) (q0 := p319) rfl hk320, CPC.at hP hKN hD hSZ hS hA⟩ ⟨⟨rfl, rfl⟩, ⟨Nat.le_of_ble_eq_true rfl, Nat.le_of_ble_eq_true rfl⟩, ⟨(Nat.le_of_ble_eq_true rfl), (Nat.le_of_ble_eq_true rfl)⟩⟩ hl.1 rfl (Nat.le_of_ble_eq_true rfl) dX0_find_92) hP hD hS hA (fun u321 H locs hw322 hP hD hS => ?_)
        obtain ⟨hT, ke324⟩ : TW Y Z T g q u321 ∧ KF 1 T u309 u321 := hw322
        have ke325 : KF 1 T ws u321 := KF.tr ke314 ke324
        refine W.eq (g2 := F0 m 95 ls []) rfl ?_
        obtain ⟨v326, ev326⟩ : ∃ y : Int32, y = v107 + 1 := ⟨_, rfl⟩
        have hv326 := i_add (Eq.refl v107.toInt) (show (1 : Int32).toInt = 1 by decide) ev326 (by omega) (by omega)
        refine lv_iinc (v := v326) (lv' := [(5, .int v326), (6, .int 1), (4, .int u46), (0, .ref p0), (1, .ref p1), (2, .ref p2), (3, .ref p3)]) hx hb dX0_find_95 hl (k := 1) rfl (by rw [ev326]; rfl) (by decide) rfl (fun ls hl => ?_)
        refine lv_goto (tgt := 37) hx hb dX0_find_98 (by decide) ?_
        have zi1 : (1 : Int32).toInt = 1 := by decide
        exact ih184 (v326, u321) H locs ls (by show (201 - v326.toInt).toNat < (201 - v107.toInt).toNat; omega) ⟨hP, hD, hS, lv_sub hl [0, 2, 3, 4, 5, 6] rfl, hT, ke325, by omega⟩
