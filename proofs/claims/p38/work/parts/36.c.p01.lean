set_option maxHeartbeats 4000000 in
set_option maxRecDepth 100000 in
theorem x_X10_foundFrom (l : Launch) (D : va_G) (Y : Nat → ClassId) (Z : Nat → Nat) (sz : Nat) (ws : va_W) (T : RT) (g : GN) (q : GQ)  (p0 : Nat) (p1 : Int32) (p2 : Int32) (p3 : Int32) (hT : TW Y Z T g q ws) (ht0 : T p0 = (1, 0, 0)) : Met l yX10_foundFrom (.code yX10_foundFrom cX10_foundFrom 6 (some .int) :: GW) ({ frames := 5, cells := 12, slots := 84, locals := 133 }) (va_Pc [.ref p0, .int p1, .int p2, .int p3] (CPC D Y Z ws sz)) (QG (S := Int32 × va_W × RT) (fun u => some (.int u.1)) (fun u => TLe T u.2.2 ∧ TW Y Z u.2.2 g q u.2.1 ∧ KF 1 T ws u.2.1) (fun u => CB D u.2.1 (va_A ws sz)) (va_A ws sz)) 12 84 (va_A ws sz) := by
  refine Met.ofW (cc := cX10_foundFrom) (maxL := 6) (ret := (some .int)) (by decide) rfl ?_
  intro p e s m args below meth c s₁ B hml hv
  obtain ⟨rfl, ⟨hsz, hP, hKN, hD0⟩, hSZ⟩ := hv
  have hx := B.exec
  have hb := B.bytes
  have hr := B.returns
  have hts := atoms_spec (ws := .code yX10_foundFrom cX10_foundFrom 6 (some .int) :: GW) B.pre
  have hg : ∀ w ∈ GW, w.before _ s = true := fun w h => hts w (List.mem_cons_of_mem _ h)
  have hown : s.vm.findClass RX10 = some m.cls := findClass_of_methodNamed B.named
  have hlocks := B.notSynchronized
  subst hsz
  have hD := hD0.self (sz := s.heap.size)
  generalize hAe : va_A ws s.heap.size = A at hD hSZ ⊢
  have hA : ∀ q : Nat, s.heap.size ≤ q → A q := fun q h => by rw [← hAe]; exact Or.inr h
  clear hAe hD0 hts B
  have hl := lv_entry ([.ref p0, .int p1, .int p2, .int p3]) (n := 6) (Nat.le_of_ble_eq_true rfl)
  rw [lg_entry_eq]
  generalize (lg_sl ([.ref p0, .int p1, .int p2, .int p3]) ++ List.replicate (6 - (lg_sl ([.ref p0, .int p1, .int p2, .int p3])).length) Slot.unset).toArray = ls at hl ⊢
  have hl : lv_has ls 6 [(0, .ref p0), (1, .int p1), (2, .int p2), (3, .int p3)] := hl
  refine w_start (A0 := A) hP (fun H locs hP hS => ?_)
  refine lv_iconst (v := 0) hx hb dX10_foundFrom_0 (by decide) ?_
  refine lv_istore (lv' := [(4, .int 0), (0, .ref p0), (1, .int p1), (2, .int p2), (3, .int p3)]) hx hb dX10_foundFrom_1 hl (by decide) rfl (fun ls hl => ?_)
  refine lv_iconst (v := 0) hx hb dX10_foundFrom_3 (by decide) ?_
  refine lv_istore (lv' := [(5, .int 0), (4, .int 0), (0, .ref p0), (1, .int p1), (2, .int p2), (3, .int p3)]) hx hb dX10_foundFrom_4 hl (by decide) rfl (fun ls hl => ?_)
  have zi0 : (0 : Int32).toInt = 0 := by decide
  refine w_loopC (σ := Int32 × Int32 × va_W × RT) (al := 1) (sl := 7) (M := 12) (fun xx H locs ls => match xx with | (v110, v111, w112, T113) => va_P D vwCl w112 H ∧ va_D A w112 ∧ va_S A s.heap H locs ∧ lv_has ls 6 [(5, .int v110), (4, .int v111), (0, .ref p0), (1, .int p1), (2, .int p2), (3, .int p3)] ∧ TW Y Z T113 g q w112 ∧ TLe T T113 ∧ KF 1 T ws w112 ∧ (0 ≤ v110.toInt ∧ v110.toInt ≤ 12)) (fun xx => match xx with | (v110, v111, w112, T113) => (12 - v110.toInt).toNat) (0, 0, ws, T) ⟨hP, hD, hS, lv_sub hl [0, 1, 2, 3, 4, 5] rfl, hT, TLe.rf, KF.rf, by omega⟩ (by show (12 - (0 : Int32).toInt).toNat ≤ 12; omega) (fun xx bd226 sd227 H locs ls hI hbbd226 ih => ?_)
  obtain ⟨v110, v111, w112, T113⟩ := xx
  obtain ⟨hP, hD, hS, hl, hT, le229, ke230, hq228⟩ := hI
  have hbbd226 : bd226 + 1 * ((12 - v110.toInt).toNat) ≤ 0 + 1 * 12 ∧ sd227 + 7 * ((12 - v110.toInt).toNat) ≤ 0 + 7 * 12 := hbbd226
  have ih231 := ih
  refine lv_iload hx hb dX10_foundFrom_6 (lv_at hl 0 rfl) ?_
  refine lv_aload_n hx hb dX10_foundFrom_8 rfl (lv_at hl 2 rfl) ?_
  refine ok1 hT (le229.up ht0) (fun p273 a232 a233 a234 a235 a236 x237 x238 x239 a240 a241 a242 a243 a244 a245 a246 a247 a248 x249 a250 a251 hk274 h252 h253 h254 h255 h256 h257 h258 h259 h260 h261 h262 h263 h264 h265 h266 h267 h268 h269 h270 h271 h272 => ?_)
  refine va_get (D := D) (ci := 10) (v := .ref a232) (C := RX10) (T := TX10) (N := 20) hx hb hg inGX10 hown hKN.1 hP p273 hk274 rfl 0 (by decide) (hg _ kw_349) (fun _ h9 => h9) rfl dX10_foundFrom_9 ?_
  refine ok2 hT h252 (fun p309 x275 a276 x277 a278 x279 a280 a281 x282 a283 a284 x285 a286 x287 hk310 h288 h289 h290 h291 h292 h293 h294 h295 h296 h297 h298 h299 h300 h301 h302 h303 h304 h305 h306 h307 h308 => ?_)
  refine va_getN (D := D) (ci := 6) (v := .int x275) (C := RX6) (T := TX6) (N := 13) hx hb hg inGX6 hown hKN.1 hP p309 hk310 rfl 0 (by decide) (va_Nw.use rfl (hKN.2.1 _ kn_41 rfl)) (fun _ h9 => h9) rfl dX10_foundFrom_12 ?_
  refine lv_icmp_ge (tgt := 49) hx hb dX10_foundFrom_15 (by decide) (fun c311 => ?_) (fun c311 => ?_)
  · skip
    have c311 := i_le (Eq.refl x275.toInt) (Eq.refl v110.toInt) c311
    refine lv_iload hx hb dX10_foundFrom_49 (lv_at hl 1 rfl) ?_
    refine W.widen (k := 12) (n := 84) (by omega) (by omega) ?_
    exact W.iret (v := v111) hx hb hr (fun t ht hW => ⟨⟨(v111, w112, T113), rfl, ⟨le229, hT, ke230⟩, CB.mk ht hP hD⟩, hS.F ht⟩) hS.2.2 dX10_foundFrom_51
  · skip
    have c311 := i_nle (Eq.refl x275.toInt) (Eq.refl v110.toInt) c311
    refine lv_iload hx hb dX10_foundFrom_18 (lv_at hl 1 rfl) ?_
    refine lv_aload_n hx hb dX10_foundFrom_20 rfl (lv_at hl 2 rfl) ?_
    refine lv_iload_n hx hb dX10_foundFrom_21 rfl (lv_at hl 3 rfl) ?_
    refine lv_iload hx hb dX10_foundFrom_22 (lv_at hl 0 rfl) ?_
    refine lv_iload_n hx hb dX10_foundFrom_24 rfl (lv_at hl 4 rfl) ?_
    refine cga (rn_V (As := [.int p1, .int v110, .int p2]) (rest := [.int v111]) (b := p0) (x_X10_findingOf l D Y Z H.size w112 T113 g q p0 p1 v110 p2 hT (le229.up ht0)) ⟨hx, hb, hml, hown, hg⟩ lk_X10_264 ⟨CPC.blind, va_recv hKN.1 hP (ci := 10) (q0 := p273) rfl hk274, CPC.at hP hKN hD hSZ hS hA⟩ ⟨⟨rfl, rfl⟩, ⟨Nat.le_of_ble_eq_true rfl, Nat.le_of_ble_eq_true rfl⟩, ⟨(show _ ≤ (12 : Nat) by omega), (show _ ≤ (84 : Nat) by omega)⟩⟩ hl.1 rfl (Nat.le_of_ble_eq_true rfl) dX10_foundFrom_25) hP hD hS hA (fun u312 H locs hw313 hP hD hS => ?_)
    refine W.widen (k := (bd226 + 1)) (n := (sd227 + 7)) (by omega) (by omega) ?_
    obtain ⟨b314, w315, T316⟩ := u312
    obtain ⟨le317, hT, ke318, ht319⟩ : TLe T113 T316 ∧ TW Y Z T316 g q w315 ∧ KF 1 T113 w112 w315 ∧ T316 b314 = (6, 0, 0) := hw313
    have hk320 := ke318 _ _ hk274 (show (T113 p0).1 = 1 by rw [(le229.up ht0)])
    have ke321 : KF 1 T ws w315 := KF.tr ke230 (KF.le (by decide) le229 ke318)
    refine W.eq (g2 := F0 m 28 ls [.ref b314, .int v111]) rfl ?_
    refine lv_iload_n hx hb dX10_foundFrom_28 rfl (lv_at hl 5 rfl) ?_
    refine ok6 hT ht319 (fun p330 x322 x323 x324 x325 x326 y327 y328 hk331 h329 => ?_)
    refine cga (rn_NV (As := [.int p3]) (rest := [.int v111]) (b := b314) (x_X1_isSeen l D Y Z H.size w315 T316 g q b314 p3 hT ht319) ⟨hx, hb, hml, hown, hg⟩ hKN lk_X10_392 ⟨CPC.blind, va_recv hKN.1 hP (ci := 1) (q0 := p330) rfl hk331, CPC.at hP hKN hD hSZ hS hA⟩ ⟨⟨rfl, rfl⟩, ⟨Nat.le_of_ble_eq_true rfl, Nat.le_of_ble_eq_true rfl⟩, ⟨(show _ ≤ (12 : Nat) by omega), (show _ ≤ (84 : Nat) by omega)⟩⟩ hl.1 rfl (Nat.le_of_ble_eq_true rfl) dX10_foundFrom_29) hP hD hS hA (fun u332 H locs hw333 hP hD hS => ?_)
    have hw335 : (0 ≤ u332.toInt ∧ u332.toInt ≤ 1) := hw333
    refine W.eq (g2 := F0 m 32 ls [.int u332, .int v111]) rfl ?_
    rcases (show u332.toInt = 1 ∨ u332.toInt = 0 by omega) with c336 | c336
    · obtain rfl : u332 = 1 := i_is c336 (by decide)
      have zi1 : (1 : Int32).toInt = 1 := by decide
      refine W.eq (g2 := F0 m 32 ls [.int 1, .int v111]) rfl ?_
      refine lv_if_eq (tgt := 39) hx hb dX10_foundFrom_32 (by decide) (fun c337 => ?_) (fun c337 => ?_)
      · exact absurd c337 (by decide)
      refine lv_iconst (v := 1) hx hb dX10_foundFrom_35 (by decide) ?_
      refine lv_goto (tgt := 40) hx hb dX10_foundFrom_36 (by decide) ?_
      refine lv_iadd hx hb dX10_foundFrom_40 ?_
      refine lv_topi (fun v338 ev338 => ?_)
      refine lv_istore (lv' := [(4, .int v338), (5, .int v110), (0, .ref p0), (1, .int p1), (2, .int p2), (3, .int p3)]) hx hb dX10_foundFrom_41 hl (by decide) rfl (fun ls hl => ?_)
      obtain ⟨v339, ev339⟩ : ∃ y : Int32, y = v110 + 1 := ⟨_, rfl⟩
      have hv339 := i_add (Eq.refl v110.toInt) (show (1 : Int32).toInt = 1 by decide) ev339 (by omega) (by omega)
      refine lv_iinc (v := v339) (lv' := [(5, .int v339), (4, .int v338), (0, .ref p0), (1, .int p1), (2, .int p2), (3, .int p3)]) hx hb dX10_foundFrom_43 hl (k := 1) rfl (by rw [ev339]; rfl) (by decide) rfl (fun ls hl => ?_)
      refine lv_goto (tgt := 6) hx hb dX10_foundFrom_46 (by decide) ?_
      exact ih231 (v339, v338, w315, T316) _ _ H locs ls (by show (12 - v339.toInt).toNat < (12 - v110.toInt).toNat; omega) (by show (bd226 + 1) + 1 * ((12 - v339.toInt).toNat) ≤ 0 + 1 * 12 ∧ (sd227 + 7) + 7 * ((12 - v339.toInt).toNat) ≤ 0 + 7 * 12; omega) ⟨hP, hD, hS, lv_sub hl [0, 1, 2, 3, 4, 5] rfl, hT, (le229.tr le317), ke321, by omega⟩
    · obtain rfl : u332 = 0 := i_is c336 (by decide)
      have zi0 : (0 : Int32).toInt = 0 := by decide
      refine W.eq (g2 := F0 m 32 ls [.int 0, .int v111]) rfl ?_
      refine lv_if_eq (tgt := 39) hx hb dX10_foundFrom_32 (by decide) (fun c340 => ?_) (fun c340 => ?_)
      rotate_left
      · exact absurd c340 (by decide)
      refine lv_iconst (v := 0) hx hb dX10_foundFrom_39 (by decide) ?_
      refine lv_iadd hx hb dX10_foundFrom_40 ?_
      refine lv_topi (fun v341 ev341 => ?_)
      have j342 := rgI v111
      have hv341 := i_add (Eq.refl v111.toInt) (show (0 : Int32).toInt = 0 by decide) ev341 (by omega) (by omega)
      refine lv_istore (lv' := [(4, .int v341), (5, .int v110), (0, .ref p0), (1, .int p1), (2, .int p2), (3, .int p3)]) hx hb dX10_foundFrom_41 hl (by decide) rfl (fun ls hl => ?_)
      obtain ⟨v343, ev343⟩ : ∃ y : Int32, y = v110 + 1 := ⟨_, rfl⟩
      have hv343 := i_add (Eq.refl v110.toInt) (show (1 : Int32).toInt = 1 by decide) ev343 (by omega) (by omega)
      refine lv_iinc (v := v343) (lv' := [(5, .int v343), (4, .int v341), (0, .ref p0), (1, .int p1), (2, .int p2), (3, .int p3)]) hx hb dX10_foundFrom_43 hl (k := 1) rfl (by rw [ev343]; rfl) (by decide) rfl (fun ls hl => ?_)
      refine lv_goto (tgt := 6) hx hb dX10_foundFrom_46 (by decide) ?_
      exact ih231 (v343, v341, w315, T316) _ _ H locs ls (by show (12 - v343.toInt).toNat < (12 - v110.toInt).toNat; omega) (by show (bd226 + 1) + 1 * ((12 - v343.toInt).toNat) ≤ 0 + 1 * 12 ∧ (sd227 + 7) + 7 * ((12 - v343.toInt).toNat) ≤ 0 + 7 * 12; omega) ⟨hP, hD, hS, lv_sub hl [0, 1, 2, 3, 4, 5] rfl, hT, (le229.tr le317), ke321, by omega⟩
set_option maxHeartbeats 4000000 in
set_option maxRecDepth 100000 in
theorem x_X10_radiusOf (l : Launch) (D : va_G) (Y : Nat → ClassId) (Z : Nat → Nat) (sz : Nat) (ws : va_W) (T : RT) (g : GN) (q : GQ)  (p0 : Nat) (p1 : Nat) (p2 : Int32) (hT : TW Y Z T g q ws) (ht0 : T p0 = (1, 0, 0)) (ht1 : T p1 = (6, 0, 0)) : Met l yX10_radiusOf (.code yX10_radiusOf cX10_radiusOf 5 (some .int) :: GW) ({ frames := 2, cells := 0, slots := 0, locals := 43 }) (va_Pc [.ref p0, .ref p1, .int p2] (CPC D Y Z ws sz)) (QG (S := Int32) (fun u => some (.int u)) (fun u => True) (fun u => CB D ws (va_A ws sz)) (va_A ws sz)) 0 0 (va_A ws sz) := by
  refine Met.ofW (cc := cX10_radiusOf) (maxL := 5) (ret := (some .int)) (by decide) rfl ?_
  intro p e s m args below meth c s₁ B hml hv
  obtain ⟨rfl, ⟨hsz, hP, hKN, hD0⟩, hSZ⟩ := hv
  have hx := B.exec
  have hb := B.bytes
  have hr := B.returns
  have hts := atoms_spec (ws := .code yX10_radiusOf cX10_radiusOf 5 (some .int) :: GW) B.pre
  have hg : ∀ w ∈ GW, w.before _ s = true := fun w h => hts w (List.mem_cons_of_mem _ h)
  have hown : s.vm.findClass RX10 = some m.cls := findClass_of_methodNamed B.named
  have hlocks := B.notSynchronized
  subst hsz
  have hD := hD0.self (sz := s.heap.size)
  generalize hAe : va_A ws s.heap.size = A at hD hSZ ⊢
  have hA : ∀ q : Nat, s.heap.size ≤ q → A q := fun q h => by rw [← hAe]; exact Or.inr h
  clear hAe hD0 hts B
  have hl := lv_entry ([.ref p0, .ref p1, .int p2]) (n := 5) (Nat.le_of_ble_eq_true rfl)
  rw [lg_entry_eq]
  generalize (lg_sl ([.ref p0, .ref p1, .int p2]) ++ List.replicate (5 - (lg_sl ([.ref p0, .ref p1, .int p2])).length) Slot.unset).toArray = ls at hl ⊢
  have hl : lv_has ls 5 [(0, .ref p0), (1, .ref p1), (2, .int p2)] := hl
  refine w_start (A0 := A) hP (fun H locs hP hS => ?_)
  refine lv_aload_n hx hb dX10_radiusOf_0 rfl (lv_at hl 0 rfl) ?_
  refine ok1 hT ht0 (fun p42 a1 a2 a3 a4 a5 x6 x7 x8 a9 a10 a11 a12 a13 a14 a15 a16 a17 x18 a19 a20 hk43 h21 h22 h23 h24 h25 h26 h27 h28 h29 h30 h31 h32 h33 h34 h35 h36 h37 h38 h39 h40 h41 => ?_)
  refine va_get (D := D) (ci := 10) (v := .ref a1) (C := RX10) (T := TX10) (N := 20) hx hb hg inGX10 hown hKN.1 hP p42 hk43 rfl 0 (by decide) (hg _ kw_349) (fun _ h9 => h9) rfl dX10_radiusOf_1 ?_
  refine lv_iload_n hx hb dX10_radiusOf_4 rfl (lv_at hl 2 rfl) ?_
  refine ok2 hT h21 (fun p78 x44 a45 x46 a47 x48 a49 a50 x51 a52 a53 x54 a55 x56 hk79 h57 h58 h59 h60 h61 h62 h63 h64 h65 h66 h67 h68 h69 h70 h71 h72 h73 h74 h75 h76 h77 => ?_)
  refine cga (rn_NV (As := [.int p2]) (rest := []) (b := a1) (x_X6_sizeOf l D Y Z H.size ws T g q 0 a1 p2 hT h21) ⟨hx, hb, hml, hown, hg⟩ hKN lk_X10_457 ⟨CPC.blind, va_recv hKN.1 hP (ci := 6) (q0 := p78) rfl hk79, CPC.at hP hKN hD hSZ hS hA⟩ ⟨⟨rfl, rfl⟩, ⟨Nat.le_of_ble_eq_true rfl, Nat.le_of_ble_eq_true rfl⟩, ⟨(Nat.le_of_ble_eq_true rfl), (Nat.le_of_ble_eq_true rfl)⟩⟩ hl.1 rfl (Nat.le_of_ble_eq_true rfl) dX10_radiusOf_5) hP hD hS hA (fun u80 H locs hw81 hP hD hS => ?_)
  refine W.eq (g2 := F0 m 8 ls [.long u80]) rfl ?_
  refine lv_lstore_n (lv' := [(3, .long u80), (0, .ref p0), (1, .ref p1), (2, .int p2)]) hx hb dX10_radiusOf_8 rfl hl (by decide) rfl (fun ls hl => ?_)
  refine lv_aload_n hx hb dX10_radiusOf_9 rfl (lv_at hl 2 rfl) ?_
  refine lv_lload_n hx hb dX10_radiusOf_10 rfl (lv_at hl 0 rfl) ?_
  refine ok6 hT ht1 (fun p91 x83 x84 x85 x86 x87 y88 y89 hk92 h90 => ?_)
  refine cga (rn_NV (As := [.long u80]) (rest := []) (b := p1) (x_X1_radiusAt l D Y Z H.size ws T g q p1 u80 hT ht1) ⟨hx, hb, hml, hown, hg⟩ hKN lk_X10_460 ⟨CPC.blind, va_recv hKN.1 hP (ci := 1) (q0 := p91) rfl hk92, CPC.at hP hKN hD hSZ hS hA⟩ ⟨⟨rfl, rfl⟩, ⟨Nat.le_of_ble_eq_true rfl, Nat.le_of_ble_eq_true rfl⟩, ⟨(Nat.le_of_ble_eq_true rfl), (Nat.le_of_ble_eq_true rfl)⟩⟩ hl.1 rfl (Nat.le_of_ble_eq_true rfl) dX10_radiusOf_11) hP hD hS hA (fun u93 H locs hw94 hP hD hS => ?_)
  refine W.eq (g2 := F0 m 14 ls [.int u93]) rfl ?_
  refine W.widen (k := 0) (n := 0) (Nat.le_of_ble_eq_true rfl) (Nat.le_of_ble_eq_true rfl) ?_
  exact W.iret (v := u93) hx hb hr (fun t ht hW => ⟨⟨u93, rfl, trivial, CB.mk ht hP hD⟩, hS.F ht⟩) hS.2.2 dX10_radiusOf_14
set_option maxHeartbeats 4000000 in
set_option maxRecDepth 100000 in
theorem x_X10_sameAs (l : Launch) (D : va_G) (Y : Nat → ClassId) (Z : Nat → Nat) (sz : Nat) (ws : va_W) (T : RT) (g : GN) (q : GQ)  (p0 : Nat) (p3 : Nat) (p1 : Int32) (p2 : Int32) (hT : TW Y Z T g q ws) (ht0 : T p0 = (1, 0, 0)) (ht3 : T p3 = (6, 0, 0)) : Met l yX10_sameAs (.code yX10_sameAs cX10_sameAs 9 (some .int) :: GW) ({ frames := 2, cells := 0, slots := 0, locals := 48 }) (va_Pc [.ref p0, .int p1, .int p2, .ref p3] (CPC D Y Z ws sz)) (QG (S := Int32) (fun u => some (.int u)) (fun u => True) (fun u => CB D ws (va_A ws sz)) (va_A ws sz)) 0 0 (va_A ws sz) := by
  refine Met.ofW (cc := cX10_sameAs) (maxL := 9) (ret := (some .int)) (by decide) rfl ?_
  intro p e s m args below meth c s₁ B hml hv
  obtain ⟨rfl, ⟨hsz, hP, hKN, hD0⟩, hSZ⟩ := hv
  have hx := B.exec
  have hb := B.bytes
  have hr := B.returns
  have hts := atoms_spec (ws := .code yX10_sameAs cX10_sameAs 9 (some .int) :: GW) B.pre
  have hg : ∀ w ∈ GW, w.before _ s = true := fun w h => hts w (List.mem_cons_of_mem _ h)
  have hown : s.vm.findClass RX10 = some m.cls := findClass_of_methodNamed B.named
  have hlocks := B.notSynchronized
  subst hsz
  have hD := hD0.self (sz := s.heap.size)
  generalize hAe : va_A ws s.heap.size = A at hD hSZ ⊢
  have hA : ∀ q : Nat, s.heap.size ≤ q → A q := fun q h => by rw [← hAe]; exact Or.inr h
  clear hAe hD0 hts B
  have hl := lv_entry ([.ref p0, .int p1, .int p2, .ref p3]) (n := 9) (Nat.le_of_ble_eq_true rfl)
  rw [lg_entry_eq]
  generalize (lg_sl ([.ref p0, .int p1, .int p2, .ref p3]) ++ List.replicate (9 - (lg_sl ([.ref p0, .int p1, .int p2, .ref p3])).length) Slot.unset).toArray = ls at hl ⊢
  have hl : lv_has ls 9 [(0, .ref p0), (1, .int p1), (2, .int p2), (3, .ref p3)] := hl
  refine w_start (A0 := A) hP (fun H locs hP hS => ?_)
  refine lv_aload_n hx hb dX10_sameAs_0 rfl (lv_at hl 0 rfl) ?_
  refine lv_iload_n hx hb dX10_sameAs_1 rfl (lv_at hl 1 rfl) ?_
  refine ok1 hT ht0 (fun p42 a1 a2 a3 a4 a5 x6 x7 x8 a9 a10 a11 a12 a13 a14 a15 a16 a17 x18 a19 a20 hk43 h21 h22 h23 h24 h25 h26 h27 h28 h29 h30 h31 h32 h33 h34 h35 h36 h37 h38 h39 h40 h41 => ?_)
  refine cga (rn_V (As := [.int p1]) (rest := []) (b := p0) (x_X10_searchAt l D Y Z H.size ws T g q p0 p1 hT ht0) ⟨hx, hb, hml, hown, hg⟩ lk_X10_259 ⟨CPC.blind, va_recv hKN.1 hP (ci := 10) (q0 := p42) rfl hk43, CPC.at hP hKN hD hSZ hS hA⟩ ⟨⟨rfl, rfl⟩, ⟨Nat.le_of_ble_eq_true rfl, Nat.le_of_ble_eq_true rfl⟩, ⟨(Nat.le_of_ble_eq_true rfl), (Nat.le_of_ble_eq_true rfl)⟩⟩ hl.1 rfl (Nat.le_of_ble_eq_true rfl) dX10_sameAs_2) hP hD hS hA (fun u44 H locs hw45 hP hD hS => ?_)
  obtain ⟨ht47, hw48⟩ : (∀ b, u44 = some b → T b = (5, 0, 0)) ∧ (∀ b, u44 = some b → 0 ≤ p1.toInt ∧ p1.toInt ≤ 5) := hw45
  refine W.eq (g2 := F0 m 5 ls [va_rf u44]) rfl ?_
  rcases u44 with _ | b49
  · skip
    refine W.eq (g2 := F0 m 5 ls [.null]) rfl ?_
    refine lv_astoreN (lv' := [(4, .null), (0, .ref p0), (1, .int p1), (2, .int p2), (3, .ref p3)]) hx hb dX10_sameAs_5 hl (by decide) rfl (fun ls hl => ?_)
    refine lv_iconst (v := 0) hx hb dX10_sameAs_7 (by decide) ?_
    refine lv_istore (lv' := [(5, .int 0), (4, .null), (0, .ref p0), (1, .int p1), (2, .int p2), (3, .ref p3)]) hx hb dX10_sameAs_8 hl (by decide) rfl (fun ls hl => ?_)
    refine lv_iconst (v := 0) hx hb dX10_sameAs_10 (by decide) ?_
    refine lv_istore (lv' := [(6, .int 0), (5, .int 0), (4, .null), (0, .ref p0), (1, .int p1), (2, .int p2), (3, .ref p3)]) hx hb dX10_sameAs_11 hl (by decide) rfl (fun ls hl => ?_)
    have zi0 : (0 : Int32).toInt = 0 := by decide
    refine w_loop (σ := Int32) (fun xx H locs ls => match xx with | v121 => va_P D vwCl ws H ∧ va_D A ws ∧ va_S A s.heap H locs ∧ lv_has ls 9 [(6, .int v121), (5, .int 0), (4, .null), (0, .ref p0), (1, .int p1), (2, .int p2), (3, .ref p3)] ∧ TW Y Z T g q ws ∧ (0 ≤ v121.toInt ∧ v121.toInt ≤ 12)) (fun xx => match xx with | v121 => (12 - v121.toInt).toNat) (0) ⟨hP, hD, hS, lv_sub hl [0, 1, 2, 3, 4, 5, 6] rfl, hT, by omega⟩ (fun xx H locs ls hI ih => ?_)
    revert hI ih
    generalize xx = v121
    intro hI ih
    obtain ⟨hP, hD, hS, hl, hT, hq199⟩ := hI
    have ih200 := ih
    refine lv_iload hx hb dX10_sameAs_13 (lv_at hl 0 rfl) ?_
    refine lv_aload_n hx hb dX10_sameAs_15 rfl (lv_at hl 3 rfl) ?_
    refine va_get (D := D) (ci := 10) (v := .ref a1) (C := RX10) (T := TX10) (N := 20) hx hb hg inGX10 hown hKN.1 hP p42 hk43 rfl 0 (by decide) (hg _ kw_349) (fun _ h9 => h9) rfl dX10_sameAs_16 ?_
    refine ok2 hT h21 (fun p235 x201 a202 x203 a204 x205 a206 a207 x208 a209 a210 x211 a212 x213 hk236 h214 h215 h216 h217 h218 h219 h220 h221 h222 h223 h224 h225 h226 h227 h228 h229 h230 h231 h232 h233 h234 => ?_)
    refine va_getN (D := D) (ci := 6) (v := .int x201) (C := RX6) (T := TX6) (N := 13) hx hb hg inGX6 hown hKN.1 hP p235 hk236 rfl 0 (by decide) (va_Nw.use rfl (hKN.2.1 _ kn_41 rfl)) (fun _ h9 => h9) rfl dX10_sameAs_19 ?_
    refine lv_icmp_ge (tgt := 104) hx hb dX10_sameAs_22 (by decide) (fun c237 => ?_) (fun c237 => ?_)
    · skip
      have c237 := i_le (Eq.refl x201.toInt) (Eq.refl v121.toInt) c237
      refine lv_iload hx hb dX10_sameAs_104 (lv_at hl 1 rfl) ?_
      refine W.widen (k := 0) (n := 0) (Nat.le_of_ble_eq_true rfl) (Nat.le_of_ble_eq_true rfl) ?_
      have zi0 : (0 : Int32).toInt = 0 := by decide
      exact W.iret (v := 0) hx hb hr (fun t ht hW => ⟨⟨(0), rfl, trivial, CB.mk ht hP hD⟩, hS.F ht⟩) hS.2.2 dX10_sameAs_106
    · skip
      have c237 := i_nle (Eq.refl x201.toInt) (Eq.refl v121.toInt) c237
      refine lv_aload_n hx hb dX10_sameAs_25 rfl (lv_at hl 3 rfl) ?_
      refine lv_iload_n hx hb dX10_sameAs_26 rfl (lv_at hl 4 rfl) ?_
      refine lv_iload hx hb dX10_sameAs_27 (lv_at hl 0 rfl) ?_
      refine lv_iconst (v := 0) hx hb dX10_sameAs_29 (by decide) ?_
      have zi0 : (0 : Int32).toInt = 0 := by decide
      refine cga (rn_V (As := [.int p1, .int v121, .int 0]) (rest := []) (b := p0) (x_X10_knownOf l D Y Z H.size ws T g q p0 p1 v121 0 hT ht0) ⟨hx, hb, hml, hown, hg⟩ lk_X10_389 ⟨CPC.blind, va_recv hKN.1 hP (ci := 10) (q0 := p42) rfl hk43, CPC.at hP hKN hD hSZ hS hA⟩ ⟨⟨rfl, rfl⟩, ⟨Nat.le_of_ble_eq_true rfl, Nat.le_of_ble_eq_true rfl⟩, ⟨(Nat.le_of_ble_eq_true rfl), (Nat.le_of_ble_eq_true rfl)⟩⟩ hl.1 rfl (Nat.le_of_ble_eq_true rfl) dX10_sameAs_30) hP hD hS hA (fun u238 H locs hw239 hP hD hS => ?_)
      have ht241 : T u238 = (6, 0, 0) := hw239
      refine W.eq (g2 := F0 m 33 ls [.ref u238]) rfl ?_
      refine lv_astore (lv' := [(7, .ref u238), (6, .int v121), (5, .int 0), (4, .null), (0, .ref p0), (1, .int p1), (2, .int p2), (3, .ref p3)]) hx hb dX10_sameAs_33 hl (by decide) rfl (fun ls hl => ?_)
      refine lv_aload hx hb dX10_sameAs_35 (lv_at hl 0 rfl) ?_
      refine ok6 hT ht241 (fun p250 x242 x243 x244 x245 x246 y247 y248 hk251 h249 => ?_)
      refine va_getN (D := D) (ci := 1) (v := .int x243) (C := RX1) (T := TX1) (N := 7) hx hb hg inGX1 hown hKN.1 hP p250 hk251 rfl 1 (by decide) (va_Nw.use rfl (hKN.2.1 _ kn_313 rfl)) (fun _ h9 => h9) rfl dX10_sameAs_37 ?_
      refine lv_aload_n hx hb dX10_sameAs_40 rfl (lv_at hl 7 rfl) ?_
      refine ok6 hT ht3 (fun p260 x252 x253 x254 x255 x256 y257 y258 hk261 h259 => ?_)
      refine va_getN (D := D) (ci := 1) (v := .int x253) (C := RX1) (T := TX1) (N := 7) hx hb hg inGX1 hown hKN.1 hP p260 hk261 rfl 1 (by decide) (va_Nw.use rfl (hKN.2.1 _ kn_313 rfl)) (fun _ h9 => h9) rfl dX10_sameAs_41 ?_
      refine lv_icmp_ne (tgt := 63) hx hb dX10_sameAs_44 (by decide) (fun c262 => ?_) (fun c262 => ?_)
      · skip
        have c262 := i_ne (Eq.refl x243.toInt) (Eq.refl x253.toInt) c262
        refine lv_iconst (v := 0) hx hb dX10_sameAs_63 (by decide) ?_
        refine lv_istore (lv' := [(8, .int 0), (7, .ref u238), (6, .int v121), (5, .int 0), (4, .null), (0, .ref p0), (1, .int p1), (2, .int p2), (3, .ref p3)]) hx hb dX10_sameAs_64 hl (by decide) rfl (fun ls hl => ?_)
        refine lv_iload hx hb dX10_sameAs_66 (lv_at hl 2 rfl) ?_
        refine lv_iload_n hx hb dX10_sameAs_68 rfl (lv_at hl 7 rfl) ?_
        have j263 := rgI p2
        refine lv_icmp_eq (tgt := 98) hx hb dX10_sameAs_69 (by decide) (fun c264 => ?_) (fun c264 => ?_)
        · skip
          have c264 := i_eq (Eq.refl v121.toInt) (Eq.refl p2.toInt) c264
          obtain ⟨v265, ev265⟩ : ∃ y : Int32, y = v121 + 1 := ⟨_, rfl⟩
          have hv265 := i_add (Eq.refl v121.toInt) (show (1 : Int32).toInt = 1 by decide) ev265 (by omega) (by omega)
          refine lv_iinc (v := v265) (lv' := [(6, .int v265), (8, .int 0), (7, .ref u238), (5, .int 0), (4, .null), (0, .ref p0), (1, .int p1), (2, .int p2), (3, .ref p3)]) hx hb dX10_sameAs_98 hl (k := 2) rfl (by rw [ev265]; rfl) (by decide) rfl (fun ls hl => ?_)
          refine lv_goto (tgt := 13) hx hb dX10_sameAs_101 (by decide) ?_
          exact ih200 (v265) H locs ls (by show (12 - v265.toInt).toNat < (12 - v121.toInt).toNat; omega) ⟨hP, hD, hS, lv_sub hl [0, 3, 4, 5, 6, 7, 8] rfl, hT, by omega⟩
        · skip
          have c264 := i_ne (Eq.refl v121.toInt) (Eq.refl p2.toInt) c264
          refine lv_aloadN hx hb dX10_sameAs_72 (lv_at hl 4 rfl) ?_
          refine lv_ifnullN (tgt := 98) hx hb dX10_sameAs_74 (by decide) ?_
          obtain ⟨v266, ev266⟩ : ∃ y : Int32, y = v121 + 1 := ⟨_, rfl⟩
          have hv266 := i_add (Eq.refl v121.toInt) (show (1 : Int32).toInt = 1 by decide) ev266 (by omega) (by omega)
          refine lv_iinc (v := v266) (lv' := [(6, .int v266), (8, .int 0), (7, .ref u238), (5, .int 0), (4, .null), (0, .ref p0), (1, .int p1), (2, .int p2), (3, .ref p3)]) hx hb dX10_sameAs_98 hl (k := 2) rfl (by rw [ev266]; rfl) (by decide) rfl (fun ls hl => ?_)
          refine lv_goto (tgt := 13) hx hb dX10_sameAs_101 (by decide) ?_
          exact ih200 (v266) H locs ls (by show (12 - v266.toInt).toNat < (12 - v121.toInt).toNat; omega) ⟨hP, hD, hS, lv_sub hl [0, 3, 4, 5, 6, 7, 8] rfl, hT, by omega⟩
      · skip
        have c262 := i_eq (Eq.refl x243.toInt) (Eq.refl x253.toInt) c262
        refine lv_aload hx hb dX10_sameAs_47 (lv_at hl 0 rfl) ?_
        refine va_getN (D := D) (ci := 1) (v := .int x245) (C := RX1) (T := TX1) (N := 7) hx hb hg inGX1 hown hKN.1 hP p250 hk251 rfl 3 (by decide) (va_Nw.use rfl (hKN.2.1 _ kn_323 rfl)) (fun _ h9 => h9) rfl dX10_sameAs_49 ?_
        refine lv_aload_n hx hb dX10_sameAs_52 rfl (lv_at hl 7 rfl) ?_
        refine va_getN (D := D) (ci := 1) (v := .int x255) (C := RX1) (T := TX1) (N := 7) hx hb hg inGX1 hown hKN.1 hP p260 hk261 rfl 3 (by decide) (va_Nw.use rfl (hKN.2.1 _ kn_323 rfl)) (fun _ h9 => h9) rfl dX10_sameAs_53 ?_
        have j267 := rgI x245
        have j268 := rgI x255
        refine lv_icmp_ne (tgt := 63) hx hb dX10_sameAs_56 (by decide) (fun c269 => ?_) (fun c269 => ?_)
        · skip
          have c269 := i_ne (Eq.refl x245.toInt) (Eq.refl x255.toInt) c269
          refine lv_iconst (v := 0) hx hb dX10_sameAs_63 (by decide) ?_
          refine lv_istore (lv' := [(8, .int 0), (7, .ref u238), (6, .int v121), (5, .int 0), (4, .null), (0, .ref p0), (1, .int p1), (2, .int p2), (3, .ref p3)]) hx hb dX10_sameAs_64 hl (by decide) rfl (fun ls hl => ?_)
          refine lv_iload hx hb dX10_sameAs_66 (lv_at hl 2 rfl) ?_
          refine lv_iload_n hx hb dX10_sameAs_68 rfl (lv_at hl 7 rfl) ?_
          have j270 := rgI p2
          refine lv_icmp_eq (tgt := 98) hx hb dX10_sameAs_69 (by decide) (fun c271 => ?_) (fun c271 => ?_)
          · skip
            have c271 := i_eq (Eq.refl v121.toInt) (Eq.refl p2.toInt) c271
            obtain ⟨v272, ev272⟩ : ∃ y : Int32, y = v121 + 1 := ⟨_, rfl⟩
            have hv272 := i_add (Eq.refl v121.toInt) (show (1 : Int32).toInt = 1 by decide) ev272 (by omega) (by omega)
            refine lv_iinc (v := v272) (lv' := [(6, .int v272), (8, .int 0), (7, .ref u238), (5, .int 0), (4, .null), (0, .ref p0), (1, .int p1), (2, .int p2), (3, .ref p3)]) hx hb dX10_sameAs_98 hl (k := 2) rfl (by rw [ev272]; rfl) (by decide) rfl (fun ls hl => ?_)
            refine lv_goto (tgt := 13) hx hb dX10_sameAs_101 (by decide) ?_
            exact ih200 (v272) H locs ls (by show (12 - v272.toInt).toNat < (12 - v121.toInt).toNat; omega) ⟨hP, hD, hS, lv_sub hl [0, 3, 4, 5, 6, 7, 8] rfl, hT, by omega⟩
          · skip
            have c271 := i_ne (Eq.refl v121.toInt) (Eq.refl p2.toInt) c271
            refine lv_aloadN hx hb dX10_sameAs_72 (lv_at hl 4 rfl) ?_
            refine lv_ifnullN (tgt := 98) hx hb dX10_sameAs_74 (by decide) ?_
            obtain ⟨v273, ev273⟩ : ∃ y : Int32, y = v121 + 1 := ⟨_, rfl⟩
            have hv273 := i_add (Eq.refl v121.toInt) (show (1 : Int32).toInt = 1 by decide) ev273 (by omega) (by omega)
            refine lv_iinc (v := v273) (lv' := [(6, .int v273), (8, .int 0), (7, .ref u238), (5, .int 0), (4, .null), (0, .ref p0), (1, .int p1), (2, .int p2), (3, .ref p3)]) hx hb dX10_sameAs_98 hl (k := 2) rfl (by rw [ev273]; rfl) (by decide) rfl (fun ls hl => ?_)
            refine lv_goto (tgt := 13) hx hb dX10_sameAs_101 (by decide) ?_
            exact ih200 (v273) H locs ls (by show (12 - v273.toInt).toNat < (12 - v121.toInt).toNat; omega) ⟨hP, hD, hS, lv_sub hl [0, 3, 4, 5, 6, 7, 8] rfl, hT, by omega⟩
        · skip
          have c269 := i_eq (Eq.refl x245.toInt) (Eq.refl x255.toInt) c269
          refine lv_iconst (v := 1) hx hb dX10_sameAs_59 (by decide) ?_
          refine lv_goto (tgt := 64) hx hb dX10_sameAs_60 (by decide) ?_
          refine lv_istore (lv' := [(8, .int 1), (7, .ref u238), (6, .int v121), (5, .int 0), (4, .null), (0, .ref p0), (1, .int p1), (2, .int p2), (3, .ref p3)]) hx hb dX10_sameAs_64 hl (by decide) rfl (fun ls hl => ?_)
          refine lv_iload hx hb dX10_sameAs_66 (lv_at hl 2 rfl) ?_
          refine lv_iload_n hx hb dX10_sameAs_68 rfl (lv_at hl 7 rfl) ?_
          have j274 := rgI p2
          refine lv_icmp_eq (tgt := 98) hx hb dX10_sameAs_69 (by decide) (fun c275 => ?_) (fun c275 => ?_)
          · skip
            have c275 := i_eq (Eq.refl v121.toInt) (Eq.refl p2.toInt) c275
            obtain ⟨v276, ev276⟩ : ∃ y : Int32, y = v121 + 1 := ⟨_, rfl⟩
            have hv276 := i_add (Eq.refl v121.toInt) (show (1 : Int32).toInt = 1 by decide) ev276 (by omega) (by omega)
            refine lv_iinc (v := v276) (lv' := [(6, .int v276), (8, .int 1), (7, .ref u238), (5, .int 0), (4, .null), (0, .ref p0), (1, .int p1), (2, .int p2), (3, .ref p3)]) hx hb dX10_sameAs_98 hl (k := 2) rfl (by rw [ev276]; rfl) (by decide) rfl (fun ls hl => ?_)
            refine lv_goto (tgt := 13) hx hb dX10_sameAs_101 (by decide) ?_
            have zi1 : (1 : Int32).toInt = 1 := by decide
            exact ih200 (v276) H locs ls (by show (12 - v276.toInt).toNat < (12 - v121.toInt).toNat; omega) ⟨hP, hD, hS, lv_sub hl [0, 3, 4, 5, 6, 7, 8] rfl, hT, by omega⟩
          · skip
            have c275 := i_ne (Eq.refl v121.toInt) (Eq.refl p2.toInt) c275
            refine lv_aloadN hx hb dX10_sameAs_72 (lv_at hl 4 rfl) ?_
            refine lv_ifnullN (tgt := 98) hx hb dX10_sameAs_74 (by decide) ?_
            obtain ⟨v277, ev277⟩ : ∃ y : Int32, y = v121 + 1 := ⟨_, rfl⟩
            have hv277 := i_add (Eq.refl v121.toInt) (show (1 : Int32).toInt = 1 by decide) ev277 (by omega) (by omega)
            refine lv_iinc (v := v277) (lv' := [(6, .int v277), (8, .int 1), (7, .ref u238), (5, .int 0), (4, .null), (0, .ref p0), (1, .int p1), (2, .int p2), (3, .ref p3)]) hx hb dX10_sameAs_98 hl (k := 2) rfl (by rw [ev277]; rfl) (by decide) rfl (fun ls hl => ?_)
            refine lv_goto (tgt := 13) hx hb dX10_sameAs_101 (by decide) ?_
            have zi1 : (1 : Int32).toInt = 1 := by decide
            exact ih200 (v277) H locs ls (by show (12 - v277.toInt).toNat < (12 - v121.toInt).toNat; omega) ⟨hP, hD, hS, lv_sub hl [0, 3, 4, 5, 6, 7, 8] rfl, hT, by omega⟩
  · skip
    have ht278 := ht47 b49 rfl
    have h279 := hw48 b49 rfl
    refine W.eq (g2 := F0 m 5 ls [.ref b49]) rfl ?_
    refine lv_astore (lv' := [(4, .ref b49), (0, .ref p0), (1, .int p1), (2, .int p2), (3, .ref p3)]) hx hb dX10_sameAs_5 hl (by decide) rfl (fun ls hl => ?_)
    refine lv_iconst (v := 0) hx hb dX10_sameAs_7 (by decide) ?_
    refine lv_istore (lv' := [(5, .int 0), (4, .ref b49), (0, .ref p0), (1, .int p1), (2, .int p2), (3, .ref p3)]) hx hb dX10_sameAs_8 hl (by decide) rfl (fun ls hl => ?_)
    refine lv_iconst (v := 0) hx hb dX10_sameAs_10 (by decide) ?_
    refine lv_istore (lv' := [(6, .int 0), (5, .int 0), (4, .ref b49), (0, .ref p0), (1, .int p1), (2, .int p2), (3, .ref p3)]) hx hb dX10_sameAs_11 hl (by decide) rfl (fun ls hl => ?_)
    have zi0 : (0 : Int32).toInt = 0 := by decide
    refine w_loop (σ := Int32 × Int32) (fun xx H locs ls => match xx with | (v444, v445) => va_P D vwCl ws H ∧ va_D A ws ∧ va_S A s.heap H locs ∧ lv_has ls 9 [(6, .int v444), (5, .int v445), (4, .ref b49), (0, .ref p0), (1, .int p1), (2, .int p2), (3, .ref p3)] ∧ TW Y Z T g q ws ∧ (0 ≤ v444.toInt ∧ v444.toInt ≤ 12)) (fun xx => match xx with | (v444, v445) => (12 - v444.toInt).toNat) (0, 0) ⟨hP, hD, hS, lv_sub hl [0, 1, 2, 3, 4, 5, 6] rfl, hT, by omega⟩ (fun xx H locs ls hI ih => ?_)
    obtain ⟨v444, v445⟩ := xx
    obtain ⟨hP, hD, hS, hl, hT, hq620⟩ := hI
    have ih621 := ih
    refine lv_iload hx hb dX10_sameAs_13 (lv_at hl 0 rfl) ?_
    refine lv_aload_n hx hb dX10_sameAs_15 rfl (lv_at hl 3 rfl) ?_
    refine va_get (D := D) (ci := 10) (v := .ref a1) (C := RX10) (T := TX10) (N := 20) hx hb hg inGX10 hown hKN.1 hP p42 hk43 rfl 0 (by decide) (hg _ kw_349) (fun _ h9 => h9) rfl dX10_sameAs_16 ?_
    refine ok2 hT h21 (fun p656 x622 a623 x624 a625 x626 a627 a628 x629 a630 a631 x632 a633 x634 hk657 h635 h636 h637 h638 h639 h640 h641 h642 h643 h644 h645 h646 h647 h648 h649 h650 h651 h652 h653 h654 h655 => ?_)
    refine va_getN (D := D) (ci := 6) (v := .int x622) (C := RX6) (T := TX6) (N := 13) hx hb hg inGX6 hown hKN.1 hP p656 hk657 rfl 0 (by decide) (va_Nw.use rfl (hKN.2.1 _ kn_41 rfl)) (fun _ h9 => h9) rfl dX10_sameAs_19 ?_
    refine lv_icmp_ge (tgt := 104) hx hb dX10_sameAs_22 (by decide) (fun c658 => ?_) (fun c658 => ?_)
    · skip
      have c658 := i_le (Eq.refl x622.toInt) (Eq.refl v444.toInt) c658
      refine lv_iload hx hb dX10_sameAs_104 (lv_at hl 1 rfl) ?_
      refine W.widen (k := 0) (n := 0) (Nat.le_of_ble_eq_true rfl) (Nat.le_of_ble_eq_true rfl) ?_
      exact W.iret (v := v445) hx hb hr (fun t ht hW => ⟨⟨v445, rfl, trivial, CB.mk ht hP hD⟩, hS.F ht⟩) hS.2.2 dX10_sameAs_106
    · skip
      have c658 := i_nle (Eq.refl x622.toInt) (Eq.refl v444.toInt) c658
      refine lv_aload_n hx hb dX10_sameAs_25 rfl (lv_at hl 3 rfl) ?_
      refine lv_iload_n hx hb dX10_sameAs_26 rfl (lv_at hl 4 rfl) ?_
      refine lv_iload hx hb dX10_sameAs_27 (lv_at hl 0 rfl) ?_
      refine lv_iconst (v := 0) hx hb dX10_sameAs_29 (by decide) ?_
      have zi0 : (0 : Int32).toInt = 0 := by decide
      refine cga (rn_V (As := [.int p1, .int v444, .int 0]) (rest := []) (b := p0) (x_X10_knownOf l D Y Z H.size ws T g q p0 p1 v444 0 hT ht0) ⟨hx, hb, hml, hown, hg⟩ lk_X10_389 ⟨CPC.blind, va_recv hKN.1 hP (ci := 10) (q0 := p42) rfl hk43, CPC.at hP hKN hD hSZ hS hA⟩ ⟨⟨rfl, rfl⟩, ⟨Nat.le_of_ble_eq_true rfl, Nat.le_of_ble_eq_true rfl⟩, ⟨(Nat.le_of_ble_eq_true rfl), (Nat.le_of_ble_eq_true rfl)⟩⟩ hl.1 rfl (Nat.le_of_ble_eq_true rfl) dX10_sameAs_30) hP hD hS hA (fun u659 H locs hw660 hP hD hS => ?_)
      have ht662 : T u659 = (6, 0, 0) := hw660
      refine W.eq (g2 := F0 m 33 ls [.ref u659]) rfl ?_
      refine lv_astore (lv' := [(7, .ref u659), (6, .int v444), (5, .int v445), (4, .ref b49), (0, .ref p0), (1, .int p1), (2, .int p2), (3, .ref p3)]) hx hb dX10_sameAs_33 hl (by decide) rfl (fun ls hl => ?_)
      refine lv_aload hx hb dX10_sameAs_35 (lv_at hl 0 rfl) ?_
      refine ok6 hT ht662 (fun p671 x663 x664 x665 x666 x667 y668 y669 hk672 h670 => ?_)
      refine va_getN (D := D) (ci := 1) (v := .int x664) (C := RX1) (T := TX1) (N := 7) hx hb hg inGX1 hown hKN.1 hP p671 hk672 rfl 1 (by decide) (va_Nw.use rfl (hKN.2.1 _ kn_313 rfl)) (fun _ h9 => h9) rfl dX10_sameAs_37 ?_
      refine lv_aload_n hx hb dX10_sameAs_40 rfl (lv_at hl 7 rfl) ?_
      refine ok6 hT ht3 (fun p681 x673 x674 x675 x676 x677 y678 y679 hk682 h680 => ?_)
      refine va_getN (D := D) (ci := 1) (v := .int x674) (C := RX1) (T := TX1) (N := 7) hx hb hg inGX1 hown hKN.1 hP p681 hk682 rfl 1 (by decide) (va_Nw.use rfl (hKN.2.1 _ kn_313 rfl)) (fun _ h9 => h9) rfl dX10_sameAs_41 ?_
      refine lv_icmp_ne (tgt := 63) hx hb dX10_sameAs_44 (by decide) (fun c683 => ?_) (fun c683 => ?_)
      · skip
        have c683 := i_ne (Eq.refl x664.toInt) (Eq.refl x674.toInt) c683
        refine lv_iconst (v := 0) hx hb dX10_sameAs_63 (by decide) ?_
        refine lv_istore (lv' := [(8, .int 0), (7, .ref u659), (6, .int v444), (5, .int v445), (4, .ref b49), (0, .ref p0), (1, .int p1), (2, .int p2), (3, .ref p3)]) hx hb dX10_sameAs_64 hl (by decide) rfl (fun ls hl => ?_)
        refine lv_iload hx hb dX10_sameAs_66 (lv_at hl 2 rfl) ?_
        refine lv_iload_n hx hb dX10_sameAs_68 rfl (lv_at hl 7 rfl) ?_
        have j684 := rgI p2
        refine lv_icmp_eq (tgt := 98) hx hb dX10_sameAs_69 (by decide) (fun c685 => ?_) (fun c685 => ?_)
        · skip
          have c685 := i_eq (Eq.refl v444.toInt) (Eq.refl p2.toInt) c685
          obtain ⟨v686, ev686⟩ : ∃ y : Int32, y = v444 + 1 := ⟨_, rfl⟩
          have hv686 := i_add (Eq.refl v444.toInt) (show (1 : Int32).toInt = 1 by decide) ev686 (by omega) (by omega)
          refine lv_iinc (v := v686) (lv' := [(6, .int v686), (8, .int 0), (7, .ref u659), (5, .int v445), (4, .ref b49), (0, .ref p0), (1, .int p1), (2, .int p2), (3, .ref p3)]) hx hb dX10_sameAs_98 hl (k := 2) rfl (by rw [ev686]; rfl) (by decide) rfl (fun ls hl => ?_)
          refine lv_goto (tgt := 13) hx hb dX10_sameAs_101 (by decide) ?_
          exact ih621 (v686, v445) H locs ls (by show (12 - v686.toInt).toNat < (12 - v444.toInt).toNat; omega) ⟨hP, hD, hS, lv_sub hl [0, 3, 4, 5, 6, 7, 8] rfl, hT, by omega⟩
        · skip
          have c685 := i_ne (Eq.refl v444.toInt) (Eq.refl p2.toInt) c685
          refine lv_aload hx hb dX10_sameAs_72 (lv_at hl 4 rfl) ?_
          refine lv_ifnull hx hb dX10_sameAs_74 ?_
          refine lv_aload hx hb dX10_sameAs_77 (lv_at hl 1 rfl) ?_
          refine lv_aload hx hb dX10_sameAs_79 (lv_at hl 4 rfl) ?_
          refine ok5 hT ht278 (fun p708 x687 x688 x689 x690 x691 x692 x693 x694 a695 a696 a697 a698 a699 x700 hk709 h701 h702 h703 h704 h705 h706 h707 => ?_)
          refine va_getN (D := D) (ci := 8) (v := .int x693) (C := RX8) (T := TX8) (N := 14) hx hb hg inGX8 hown hKN.1 hP p708 hk709 rfl 6 (by decide) (va_Nw.use rfl (hKN.2.1 _ kn_135 rfl)) (fun _ h9 => h9) rfl dX10_sameAs_81 ?_
          refine cga (rn_NV (As := [.int x693]) (rest := []) (b := u659) (x_X1_isSeen l D Y Z H.size ws T g q u659 x693 hT ht662) ⟨hx, hb, hml, hown, hg⟩ hKN lk_X10_392 ⟨CPC.blind, va_recv hKN.1 hP (ci := 1) (q0 := p671) rfl hk672, CPC.at hP hKN hD hSZ hS hA⟩ ⟨⟨rfl, rfl⟩, ⟨Nat.le_of_ble_eq_true rfl, Nat.le_of_ble_eq_true rfl⟩, ⟨(Nat.le_of_ble_eq_true rfl), (Nat.le_of_ble_eq_true rfl)⟩⟩ hl.1 rfl (Nat.le_of_ble_eq_true rfl) dX10_sameAs_84) hP hD hS hA (fun u710 H locs hw711 hP hD hS => ?_)
          have hw713 : (0 ≤ u710.toInt ∧ u710.toInt ≤ 1) := hw711
          refine W.eq (g2 := F0 m 87 ls [.int u710]) rfl ?_
          rcases (show u710.toInt = 1 ∨ u710.toInt = 0 by omega) with c714 | c714
          · obtain rfl : u710 = 1 := i_is c714 (by decide)
            have zi1 : (1 : Int32).toInt = 1 := by decide
            refine W.eq (g2 := F0 m 87 ls [.int 1]) rfl ?_
            refine lv_if_eq (tgt := 98) hx hb dX10_sameAs_87 (by decide) (fun c715 => ?_) (fun c715 => ?_)
            · exact absurd c715 (by decide)
            refine lv_iload hx hb dX10_sameAs_90 (lv_at hl 0 rfl) ?_
            refine lv_if_eq (tgt := 98) hx hb dX10_sameAs_92 (by decide) (fun c716 => ?_) (fun c716 => ?_)
            rotate_left
            · exact absurd c716 (by decide)
            obtain ⟨v717, ev717⟩ : ∃ y : Int32, y = v444 + 1 := ⟨_, rfl⟩
            have hv717 := i_add (Eq.refl v444.toInt) (show (1 : Int32).toInt = 1 by decide) ev717 (by omega) (by omega)
            refine lv_iinc (v := v717) (lv' := [(6, .int v717), (8, .int 0), (7, .ref u659), (5, .int v445), (4, .ref b49), (0, .ref p0), (1, .int p1), (2, .int p2), (3, .ref p3)]) hx hb dX10_sameAs_98 hl (k := 2) rfl (by rw [ev717]; rfl) (by decide) rfl (fun ls hl => ?_)
            refine lv_goto (tgt := 13) hx hb dX10_sameAs_101 (by decide) ?_
            exact ih621 (v717, v445) H locs ls (by show (12 - v717.toInt).toNat < (12 - v444.toInt).toNat; omega) ⟨hP, hD, hS, lv_sub hl [0, 3, 4, 5, 6, 7, 8] rfl, hT, by omega⟩
          · obtain rfl : u710 = 0 := i_is c714 (by decide)
            refine W.eq (g2 := F0 m 87 ls [.int 0]) rfl ?_
            refine lv_if_eq (tgt := 98) hx hb dX10_sameAs_87 (by decide) (fun c718 => ?_) (fun c718 => ?_)
            rotate_left
            · exact absurd c718 (by decide)
            obtain ⟨v719, ev719⟩ : ∃ y : Int32, y = v444 + 1 := ⟨_, rfl⟩
            have hv719 := i_add (Eq.refl v444.toInt) (show (1 : Int32).toInt = 1 by decide) ev719 (by omega) (by omega)
            refine lv_iinc (v := v719) (lv' := [(6, .int v719), (8, .int 0), (7, .ref u659), (5, .int v445), (4, .ref b49), (0, .ref p0), (1, .int p1), (2, .int p2), (3, .ref p3)]) hx hb dX10_sameAs_98 hl (k := 2) rfl (by rw [ev719]; rfl) (by decide) rfl (fun ls hl => ?_)
            refine lv_goto (tgt := 13) hx hb dX10_sameAs_101 (by decide) ?_
            exact ih621 (v719, v445) H locs ls (by show (12 - v719.toInt).toNat < (12 - v444.toInt).toNat; omega) ⟨hP, hD, hS, lv_sub hl [0, 3, 4, 5, 6, 7, 8] rfl, hT, by omega⟩
      · skip
        have c683 := i_eq (Eq.refl x664.toInt) (Eq.refl x674.toInt) c683
        refine lv_aload hx hb dX10_sameAs_47 (lv_at hl 0 rfl) ?_
        refine va_getN (D := D) (ci := 1) (v := .int x666) (C := RX1) (T := TX1) (N := 7) hx hb hg inGX1 hown hKN.1 hP p671 hk672 rfl 3 (by decide) (va_Nw.use rfl (hKN.2.1 _ kn_323 rfl)) (fun _ h9 => h9) rfl dX10_sameAs_49 ?_
        refine lv_aload_n hx hb dX10_sameAs_52 rfl (lv_at hl 7 rfl) ?_
        refine va_getN (D := D) (ci := 1) (v := .int x676) (C := RX1) (T := TX1) (N := 7) hx hb hg inGX1 hown hKN.1 hP p681 hk682 rfl 3 (by decide) (va_Nw.use rfl (hKN.2.1 _ kn_323 rfl)) (fun _ h9 => h9) rfl dX10_sameAs_53 ?_
        have j720 := rgI x666
        have j721 := rgI x676
        refine lv_icmp_ne (tgt := 63) hx hb dX10_sameAs_56 (by decide) (fun c722 => ?_) (fun c722 => ?_)
        · skip
          have c722 := i_ne (Eq.refl x666.toInt) (Eq.refl x676.toInt) c722
          refine lv_iconst (v := 0) hx hb dX10_sameAs_63 (by decide) ?_
          refine lv_istore (lv' := [(8, .int 0), (7, .ref u659), (6, .int v444), (5, .int v445), (4, .ref b49), (0, .ref p0), (1, .int p1), (2, .int p2), (3, .ref p3)]) hx hb dX10_sameAs_64 hl (by decide) rfl (fun ls hl => ?_)
          refine lv_iload hx hb dX10_sameAs_66 (lv_at hl 2 rfl) ?_
          refine lv_iload_n hx hb dX10_sameAs_68 rfl (lv_at hl 7 rfl) ?_
          have j723 := rgI p2
          refine lv_icmp_eq (tgt := 98) hx hb dX10_sameAs_69 (by decide) (fun c724 => ?_) (fun c724 => ?_)
          · skip
            have c724 := i_eq (Eq.refl v444.toInt) (Eq.refl p2.toInt) c724
            obtain ⟨v725, ev725⟩ : ∃ y : Int32, y = v444 + 1 := ⟨_, rfl⟩
            have hv725 := i_add (Eq.refl v444.toInt) (show (1 : Int32).toInt = 1 by decide) ev725 (by omega) (by omega)
            refine lv_iinc (v := v725) (lv' := [(6, .int v725), (8, .int 0), (7, .ref u659), (5, .int v445), (4, .ref b49), (0, .ref p0), (1, .int p1), (2, .int p2), (3, .ref p3)]) hx hb dX10_sameAs_98 hl (k := 2) rfl (by rw [ev725]; rfl) (by decide) rfl (fun ls hl => ?_)
            refine lv_goto (tgt := 13) hx hb dX10_sameAs_101 (by decide) ?_
            exact ih621 (v725, v445) H locs ls (by show (12 - v725.toInt).toNat < (12 - v444.toInt).toNat; omega) ⟨hP, hD, hS, lv_sub hl [0, 3, 4, 5, 6, 7, 8] rfl, hT, by omega⟩
          · skip
            have c724 := i_ne (Eq.refl v444.toInt) (Eq.refl p2.toInt) c724
            refine lv_aload hx hb dX10_sameAs_72 (lv_at hl 4 rfl) ?_
            refine lv_ifnull hx hb dX10_sameAs_74 ?_
            refine lv_aload hx hb dX10_sameAs_77 (lv_at hl 1 rfl) ?_
            refine lv_aload hx hb dX10_sameAs_79 (lv_at hl 4 rfl) ?_
            refine ok5 hT ht278 (fun p747 x726 x727 x728 x729 x730 x731 x732 x733 a734 a735 a736 a737 a738 x739 hk748 h740 h741 h742 h743 h744 h745 h746 => ?_)
            refine va_getN (D := D) (ci := 8) (v := .int x732) (C := RX8) (T := TX8) (N := 14) hx hb hg inGX8 hown hKN.1 hP p747 hk748 rfl 6 (by decide) (va_Nw.use rfl (hKN.2.1 _ kn_135 rfl)) (fun _ h9 => h9) rfl dX10_sameAs_81 ?_
            refine cga (rn_NV (As := [.int x732]) (rest := []) (b := u659) (x_X1_isSeen l D Y Z H.size ws T g q u659 x732 hT ht662) ⟨hx, hb, hml, hown, hg⟩ hKN lk_X10_392 ⟨CPC.blind, va_recv hKN.1 hP (ci := 1) (q0 := p671) rfl hk672, CPC.at hP hKN hD hSZ hS hA⟩ ⟨⟨rfl, rfl⟩, ⟨Nat.le_of_ble_eq_true rfl, Nat.le_of_ble_eq_true rfl⟩, ⟨(Nat.le_of_ble_eq_true rfl), (Nat.le_of_ble_eq_true rfl)⟩⟩ hl.1 rfl (Nat.le_of_ble_eq_true rfl) dX10_sameAs_84) hP hD hS hA (fun u749 H locs hw750 hP hD hS => ?_)
            have hw752 : (0 ≤ u749.toInt ∧ u749.toInt ≤ 1) := hw750
            refine W.eq (g2 := F0 m 87 ls [.int u749]) rfl ?_
            rcases (show u749.toInt = 1 ∨ u749.toInt = 0 by omega) with c753 | c753
            · obtain rfl : u749 = 1 := i_is c753 (by decide)
              have zi1 : (1 : Int32).toInt = 1 := by decide
              refine W.eq (g2 := F0 m 87 ls [.int 1]) rfl ?_
              refine lv_if_eq (tgt := 98) hx hb dX10_sameAs_87 (by decide) (fun c754 => ?_) (fun c754 => ?_)
              · exact absurd c754 (by decide)
              refine lv_iload hx hb dX10_sameAs_90 (lv_at hl 0 rfl) ?_
              refine lv_if_eq (tgt := 98) hx hb dX10_sameAs_92 (by decide) (fun c755 => ?_) (fun c755 => ?_)
              rotate_left
              · exact absurd c755 (by decide)
              obtain ⟨v756, ev756⟩ : ∃ y : Int32, y = v444 + 1 := ⟨_, rfl⟩
              have hv756 := i_add (Eq.refl v444.toInt) (show (1 : Int32).toInt = 1 by decide) ev756 (by omega) (by omega)
              refine lv_iinc (v := v756) (lv' := [(6, .int v756), (8, .int 0), (7, .ref u659), (5, .int v445), (4, .ref b49), (0, .ref p0), (1, .int p1), (2, .int p2), (3, .ref p3)]) hx hb dX10_sameAs_98 hl (k := 2) rfl (by rw [ev756]; rfl) (by decide) rfl (fun ls hl => ?_)
              refine lv_goto (tgt := 13) hx hb dX10_sameAs_101 (by decide) ?_
              exact ih621 (v756, v445) H locs ls (by show (12 - v756.toInt).toNat < (12 - v444.toInt).toNat; omega) ⟨hP, hD, hS, lv_sub hl [0, 3, 4, 5, 6, 7, 8] rfl, hT, by omega⟩
            · obtain rfl : u749 = 0 := i_is c753 (by decide)
              refine W.eq (g2 := F0 m 87 ls [.int 0]) rfl ?_
              refine lv_if_eq (tgt := 98) hx hb dX10_sameAs_87 (by decide) (fun c757 => ?_) (fun c757 => ?_)
              rotate_left
              · exact absurd c757 (by decide)
              obtain ⟨v758, ev758⟩ : ∃ y : Int32, y = v444 + 1 := ⟨_, rfl⟩
              have hv758 := i_add (Eq.refl v444.toInt) (show (1 : Int32).toInt = 1 by decide) ev758 (by omega) (by omega)
              refine lv_iinc (v := v758) (lv' := [(6, .int v758), (8, .int 0), (7, .ref u659), (5, .int v445), (4, .ref b49), (0, .ref p0), (1, .int p1), (2, .int p2), (3, .ref p3)]) hx hb dX10_sameAs_98 hl (k := 2) rfl (by rw [ev758]; rfl) (by decide) rfl (fun ls hl => ?_)
              refine lv_goto (tgt := 13) hx hb dX10_sameAs_101 (by decide) ?_
              exact ih621 (v758, v445) H locs ls (by show (12 - v758.toInt).toNat < (12 - v444.toInt).toNat; omega) ⟨hP, hD, hS, lv_sub hl [0, 3, 4, 5, 6, 7, 8] rfl, hT, by omega⟩
        · skip
          have c722 := i_eq (Eq.refl x666.toInt) (Eq.refl x676.toInt) c722
          refine lv_iconst (v := 1) hx hb dX10_sameAs_59 (by decide) ?_
          refine lv_goto (tgt := 64) hx hb dX10_sameAs_60 (by decide) ?_
          refine lv_istore (lv' := [(8, .int 1), (7, .ref u659), (6, .int v444), (5, .int v445), (4, .ref b49), (0, .ref p0), (1, .int p1), (2, .int p2), (3, .ref p3)]) hx hb dX10_sameAs_64 hl (by decide) rfl (fun ls hl => ?_)
          refine lv_iload hx hb dX10_sameAs_66 (lv_at hl 2 rfl) ?_
          refine lv_iload_n hx hb dX10_sameAs_68 rfl (lv_at hl 7 rfl) ?_
          have j759 := rgI p2
          refine lv_icmp_eq (tgt := 98) hx hb dX10_sameAs_69 (by decide) (fun c760 => ?_) (fun c760 => ?_)
          · skip
            have c760 := i_eq (Eq.refl v444.toInt) (Eq.refl p2.toInt) c760
            obtain ⟨v761, ev761⟩ : ∃ y : Int32, y = v444 + 1 := ⟨_, rfl⟩
            have hv761 := i_add (Eq.refl v444.toInt) (show (1 : Int32).toInt = 1 by decide) ev761 (by omega) (by omega)
            refine lv_iinc (v := v761) (lv' := [(6, .int v761), (8, .int 1), (7, .ref u659), (5, .int v445), (4, .ref b49), (0, .ref p0), (1, .int p1), (2, .int p2), (3, .ref p3)]) hx hb dX10_sameAs_98 hl (k := 2) rfl (by rw [ev761]; rfl) (by decide) rfl (fun ls hl => ?_)
            refine lv_goto (tgt := 13) hx hb dX10_sameAs_101 (by decide) ?_
            have zi1 : (1 : Int32).toInt = 1 := by decide
            exact ih621 (v761, v445) H locs ls (by show (12 - v761.toInt).toNat < (12 - v444.toInt).toNat; omega) ⟨hP, hD, hS, lv_sub hl [0, 3, 4, 5, 6, 7, 8] rfl, hT, by omega⟩
          · skip
            have c760 := i_ne (Eq.refl v444.toInt) (Eq.refl p2.toInt) c760
            refine lv_aload hx hb dX10_sameAs_72 (lv_at hl 4 rfl) ?_
            refine lv_ifnull hx hb dX10_sameAs_74 ?_
            refine lv_aload hx hb dX10_sameAs_77 (lv_at hl 1 rfl) ?_
            refine lv_aload hx hb dX10_sameAs_79 (lv_at hl 4 rfl) ?_
            refine ok5 hT ht278 (fun p783 x762 x763 x764 x765 x766 x767 x768 x769 a770 a771 a772 a773 a774 x775 hk784 h776 h777 h778 h779 h780 h781 h782 => ?_)
            refine va_getN (D := D) (ci := 8) (v := .int x768) (C := RX8) (T := TX8) (N := 14) hx hb hg inGX8 hown hKN.1 hP p783 hk784 rfl 6 (by decide) (va_Nw.use rfl (hKN.2.1 _ kn_135 rfl)) (fun _ h9 => h9) rfl dX10_sameAs_81 ?_
            refine cga (rn_NV (As := [.int x768]) (rest := []) (b := u659) (x_X1_isSeen l D Y Z H.size ws T g q u659 x768 hT ht662) ⟨hx, hb, hml, hown, hg⟩ hKN lk_X10_392 ⟨CPC.blind, va_recv hKN.1 hP (ci := 1) (q0 := p671) rfl hk672, CPC.at hP hKN hD hSZ hS hA⟩ ⟨⟨rfl, rfl⟩, ⟨Nat.le_of_ble_eq_true rfl, Nat.le_of_ble_eq_true rfl⟩, ⟨(Nat.le_of_ble_eq_true rfl), (Nat.le_of_ble_eq_true rfl)⟩⟩ hl.1 rfl (Nat.le_of_ble_eq_true rfl) dX10_sameAs_84) hP hD hS hA (fun u785 H locs hw786 hP hD hS => ?_)
            have hw788 : (0 ≤ u785.toInt ∧ u785.toInt ≤ 1) := hw786
            refine W.eq (g2 := F0 m 87 ls [.int u785]) rfl ?_
            rcases (show u785.toInt = 1 ∨ u785.toInt = 0 by omega) with c789 | c789
            · obtain rfl : u785 = 1 := i_is c789 (by decide)
              have zi1 : (1 : Int32).toInt = 1 := by decide
              refine W.eq (g2 := F0 m 87 ls [.int 1]) rfl ?_
              refine lv_if_eq (tgt := 98) hx hb dX10_sameAs_87 (by decide) (fun c790 => ?_) (fun c790 => ?_)
              · exact absurd c790 (by decide)
              refine lv_iload hx hb dX10_sameAs_90 (lv_at hl 0 rfl) ?_
              refine lv_if_eq (tgt := 98) hx hb dX10_sameAs_92 (by decide) (fun c791 => ?_) (fun c791 => ?_)
              · exact absurd c791 (by decide)
              obtain ⟨v792, ev792⟩ : ∃ y : Int32, y = v445 + 1 := ⟨_, rfl⟩
              refine lv_iinc (v := v792) (lv' := [(5, .int v792), (8, .int 1), (7, .ref u659), (6, .int v444), (4, .ref b49), (0, .ref p0), (1, .int p1), (2, .int p2), (3, .ref p3)]) hx hb dX10_sameAs_95 hl (k := 3) rfl (by rw [ev792]; rfl) (by decide) rfl (fun ls hl => ?_)
              obtain ⟨v793, ev793⟩ : ∃ y : Int32, y = v444 + 1 := ⟨_, rfl⟩
              have hv793 := i_add (Eq.refl v444.toInt) (show (1 : Int32).toInt = 1 by decide) ev793 (by omega) (by omega)
              refine lv_iinc (v := v793) (lv' := [(6, .int v793), (5, .int v792), (8, .int 1), (7, .ref u659), (4, .ref b49), (0, .ref p0), (1, .int p1), (2, .int p2), (3, .ref p3)]) hx hb dX10_sameAs_98 hl (k := 3) rfl (by rw [ev793]; rfl) (by decide) rfl (fun ls hl => ?_)
              refine lv_goto (tgt := 13) hx hb dX10_sameAs_101 (by decide) ?_
              exact ih621 (v793, v792) H locs ls (by show (12 - v793.toInt).toNat < (12 - v444.toInt).toNat; omega) ⟨hP, hD, hS, lv_sub hl [0, 1, 4, 5, 6, 7, 8] rfl, hT, by omega⟩
            · obtain rfl : u785 = 0 := i_is c789 (by decide)
              refine W.eq (g2 := F0 m 87 ls [.int 0]) rfl ?_
              refine lv_if_eq (tgt := 98) hx hb dX10_sameAs_87 (by decide) (fun c794 => ?_) (fun c794 => ?_)
              rotate_left
              · exact absurd c794 (by decide)
              obtain ⟨v795, ev795⟩ : ∃ y : Int32, y = v444 + 1 := ⟨_, rfl⟩
              have hv795 := i_add (Eq.refl v444.toInt) (show (1 : Int32).toInt = 1 by decide) ev795 (by omega) (by omega)
              refine lv_iinc (v := v795) (lv' := [(6, .int v795), (8, .int 1), (7, .ref u659), (5, .int v445), (4, .ref b49), (0, .ref p0), (1, .int p1), (2, .int p2), (3, .ref p3)]) hx hb dX10_sameAs_98 hl (k := 2) rfl (by rw [ev795]; rfl) (by decide) rfl (fun ls hl => ?_)
              refine lv_goto (tgt := 13) hx hb dX10_sameAs_101 (by decide) ?_
              have zi1 : (1 : Int32).toInt = 1 := by decide
              exact ih621 (v795, v445) H locs ls (by show (12 - v795.toInt).toNat < (12 - v444.toInt).toNat; omega) ⟨hP, hD, hS, lv_sub hl [0, 3, 4, 5, 6, 7, 8] rfl, hT, by omega⟩
set_option maxHeartbeats 4000000 in
set_option maxRecDepth 100000 in
theorem x_X10_heaviest (l : Launch) (D : va_G) (Y : Nat → ClassId) (Z : Nat → Nat) (sz : Nat) (ws : va_W) (T : RT) (g : GN) (q : GQ)  (p0 : Nat) (hT : TW Y Z T g q ws) (ht0 : T p0 = (1, 0, 0)) : Met l yX10_heaviest (.code yX10_heaviest cX10_heaviest 4 (some .int) :: GW) ({ frames := 0, cells := 0, slots := 0, locals := 0 }) (va_Pc [.ref p0] (CPC D Y Z ws sz)) (QG (S := Int32) (fun u => some (.int u)) (fun u => True) (fun u => CB D ws (va_A ws sz)) (va_A ws sz)) 0 0 (va_A ws sz) := by
  refine Met.ofW (cc := cX10_heaviest) (maxL := 4) (ret := (some .int)) (by decide) rfl ?_
  intro p e s m args below meth c s₁ B hml hv
  obtain ⟨rfl, ⟨hsz, hP, hKN, hD0⟩, hSZ⟩ := hv
  have hx := B.exec
  have hb := B.bytes
  have hr := B.returns
  have hts := atoms_spec (ws := .code yX10_heaviest cX10_heaviest 4 (some .int) :: GW) B.pre
  have hg : ∀ w ∈ GW, w.before _ s = true := fun w h => hts w (List.mem_cons_of_mem _ h)
  have hown : s.vm.findClass RX10 = some m.cls := findClass_of_methodNamed B.named
  have hlocks := B.notSynchronized
  subst hsz
  have hD := hD0.self (sz := s.heap.size)
  generalize hAe : va_A ws s.heap.size = A at hD hSZ ⊢
  have hA : ∀ q : Nat, s.heap.size ≤ q → A q := fun q h => by rw [← hAe]; exact Or.inr h
  clear hAe hD0 hts B
  have hl := lv_entry ([.ref p0]) (n := 4) (Nat.le_of_ble_eq_true rfl)
  rw [lg_entry_eq]
  generalize (lg_sl ([.ref p0]) ++ List.replicate (4 - (lg_sl ([.ref p0])).length) Slot.unset).toArray = ls at hl ⊢
  have hl : lv_has ls 4 [(0, .ref p0)] := hl
  refine w_start (A0 := A) hP (fun H locs hP hS => ?_)
  refine lv_bipush (v := (-2)) hx hb dX10_heaviest_0 (by decide) ?_
  refine lv_istore_n (lv' := [(1, .int (-2)), (0, .ref p0)]) hx hb dX10_heaviest_2 rfl hl (by decide) rfl (fun ls hl => ?_)
  refine lv_iconst (v := 0) hx hb dX10_heaviest_3 (by decide) ?_
  refine lv_istore_n (lv' := [(2, .int 0), (1, .int (-2)), (0, .ref p0)]) hx hb dX10_heaviest_4 rfl hl (by decide) rfl (fun ls hl => ?_)
  refine lv_iconst (v := 0) hx hb dX10_heaviest_5 (by decide) ?_
  refine lv_istore_n (lv' := [(3, .int 0), (2, .int 0), (1, .int (-2)), (0, .ref p0)]) hx hb dX10_heaviest_6 rfl hl (by decide) rfl (fun ls hl => ?_)
  have zi0 : (0 : Int32).toInt = 0 := by decide
  have zim2 : ((-2) : Int32).toInt = -2 := by decide
  refine w_loop (σ := Int32 × Int32 × Int32) (fun xx H locs ls => match xx with | (v49, v50, v51) => va_P D vwCl ws H ∧ va_D A ws ∧ va_S A s.heap H locs ∧ lv_has ls 4 [(3, .int v49), (2, .int v50), (1, .int v51), (0, .ref p0)] ∧ TW Y Z T g q ws ∧ (0 ≤ v49.toInt ∧ v49.toInt ≤ 5)) (fun xx => match xx with | (v49, v50, v51) => (5 - v49.toInt).toNat) (0, 0, (-2)) ⟨hP, hD, hS, lv_sub hl [0, 1, 2, 3] rfl, hT, by omega⟩ (fun xx H locs ls hI ih => ?_)
  obtain ⟨v49, v50, v51⟩ := xx
  obtain ⟨hP, hD, hS, hl, hT, hq103⟩ := hI
  have ih104 := ih
  refine lv_iload_n hx hb dX10_heaviest_7 rfl (lv_at hl 0 rfl) ?_
  refine lv_iconst (v := 5) hx hb dX10_heaviest_8 (by decide) ?_
  refine lv_icmp_ge (tgt := 37) hx hb dX10_heaviest_9 (by decide) (fun c105 => ?_) (fun c105 => ?_)
  · skip
    have c105 := i_le (show (5 : Int32).toInt = 5 by decide) (Eq.refl v49.toInt) c105
    refine lv_iload_n hx hb dX10_heaviest_37 rfl (lv_at hl 2 rfl) ?_
    refine W.widen (k := 0) (n := 0) (Nat.le_of_ble_eq_true rfl) (Nat.le_of_ble_eq_true rfl) ?_
    exact W.iret (v := v51) hx hb hr (fun t ht hW => ⟨⟨v51, rfl, trivial, CB.mk ht hP hD⟩, hS.F ht⟩) hS.2.2 dX10_heaviest_38
  · skip
    have c105 := i_nle (show (5 : Int32).toInt = 5 by decide) (Eq.refl v49.toInt) c105
    refine lv_aload_n hx hb dX10_heaviest_12 rfl (lv_at hl 3 rfl) ?_
    refine ok1 hT ht0 (fun p147 a106 a107 a108 a109 a110 x111 x112 x113 a114 a115 a116 a117 a118 a119 a120 a121 a122 x123 a124 a125 hk148 h126 h127 h128 h129 h130 h131 h132 h133 h134 h135 h136 h137 h138 h139 h140 h141 h142 h143 h144 h145 h146 => ?_)
    refine va_get (D := D) (ci := 10) (v := .ref a125) (C := RX10) (T := TX10) (N := 20) hx hb hg inGX10 hown hKN.1 hP p147 hk148 rfl 19 (by decide) (hg _ kw_368) (fun _ h9 => h9) rfl dX10_heaviest_13 ?_
    refine lv_iload_n hx hb dX10_heaviest_16 rfl (lv_at hl 0 rfl) ?_
    refine tr_ld12 hx hb hKN hP hT h146 (vp_in_iff.mpr ⟨by omega, by omega⟩) dX10_heaviest_17 (fun v149 => ?_)
    refine lv_iload_n hx hb dX10_heaviest_18 rfl (lv_at hl 1 rfl) ?_
    have j150 := rgI v149
    have j151 := rgI v50
    refine lv_icmp_le (tgt := 31) hx hb dX10_heaviest_19 (by decide) (fun c152 => ?_) (fun c152 => ?_)
    · skip
      have c152 := i_le (Eq.refl v149.toInt) (Eq.refl v50.toInt) c152
      obtain ⟨v153, ev153⟩ : ∃ y : Int32, y = v49 + 1 := ⟨_, rfl⟩
      have hv153 := i_add (Eq.refl v49.toInt) (show (1 : Int32).toInt = 1 by decide) ev153 (by omega) (by omega)
      refine lv_iinc (v := v153) (lv' := [(3, .int v153), (2, .int v50), (1, .int v51), (0, .ref p0)]) hx hb dX10_heaviest_31 hl (k := 0) rfl (by rw [ev153]; rfl) (by decide) rfl (fun ls hl => ?_)
      refine lv_goto (tgt := 7) hx hb dX10_heaviest_34 (by decide) ?_
      exact ih104 (v153, v50, v51) H locs ls (by show (5 - v153.toInt).toNat < (5 - v49.toInt).toNat; omega) ⟨hP, hD, hS, lv_sub hl [0, 1, 2, 3] rfl, hT, by omega⟩
    · skip
      have c152 := i_nle (Eq.refl v149.toInt) (Eq.refl v50.toInt) c152
      refine lv_iload_n hx hb dX10_heaviest_22 rfl (lv_at hl 0 rfl) ?_
      refine lv_istore_n (lv' := [(1, .int v49), (3, .int v49), (2, .int v50), (0, .ref p0)]) hx hb dX10_heaviest_23 rfl hl (by decide) rfl (fun ls hl => ?_)
      refine lv_aload_n hx hb dX10_heaviest_24 rfl (lv_at hl 3 rfl) ?_
      refine va_get (D := D) (ci := 10) (v := .ref a125) (C := RX10) (T := TX10) (N := 20) hx hb hg inGX10 hown hKN.1 hP p147 hk148 rfl 19 (by decide) (hg _ kw_368) (fun _ h9 => h9) rfl dX10_heaviest_25 ?_
      refine lv_iload_n hx hb dX10_heaviest_28 rfl (lv_at hl 1 rfl) ?_
      refine tr_ld12 hx hb hKN hP hT h146 (vp_in_iff.mpr ⟨by omega, by omega⟩) dX10_heaviest_29 (fun v154 => ?_)
      refine lv_istore_n (lv' := [(2, .int v154), (1, .int v49), (3, .int v49), (0, .ref p0)]) hx hb dX10_heaviest_30 rfl hl (by decide) rfl (fun ls hl => ?_)
      obtain ⟨v155, ev155⟩ : ∃ y : Int32, y = v49 + 1 := ⟨_, rfl⟩
      have hv155 := i_add (Eq.refl v49.toInt) (show (1 : Int32).toInt = 1 by decide) ev155 (by omega) (by omega)
      refine lv_iinc (v := v155) (lv' := [(3, .int v155), (2, .int v154), (1, .int v49), (0, .ref p0)]) hx hb dX10_heaviest_31 hl (k := 2) rfl (by rw [ev155]; rfl) (by decide) rfl (fun ls hl => ?_)
      refine lv_goto (tgt := 7) hx hb dX10_heaviest_34 (by decide) ?_
      exact ih104 (v155, v154, v49) H locs ls (by show (5 - v155.toInt).toNat < (5 - v49.toInt).toNat; omega) ⟨hP, hD, hS, lv_sub hl [0, 1, 2, 3] rfl, hT, by omega⟩
set_option maxHeartbeats 4000000 in
set_option maxRecDepth 100000 in
theorem x_X10_fillWords (l : Launch) (D : va_G) (Y : Nat → ClassId) (Z : Nat → Nat) (sz : Nat) (ws : va_W) (T : RT) (g : GN) (q : GQ)  (p0 : Nat) (p1 : Int32) (p2 : Int32) (hT : TW Y Z T g q ws) (ht0 : T p0 = (1, 0, 0)) : Met l yX10_fillWords (.code yX10_fillWords cX10_fillWords 4 none :: GW) ({ frames := 4, cells := 0, slots := 0, locals := 104 }) (va_Pc [.ref p0, .int p1, .int p2] (CPC D Y Z ws sz)) (QG (S := va_W) (fun _ => none) (fun u => TW Y Z T g q u ∧ KF 1 T ws u ∧ KF 6 T ws u) (fun u => CB D u (va_A ws sz)) (va_A ws sz)) 0 0 (va_A ws sz) := by
  refine Met.ofW (cc := cX10_fillWords) (maxL := 4) (ret := none) (by decide) rfl ?_
  intro p e s m args below meth c s₁ B hml hv
  obtain ⟨rfl, ⟨hsz, hP, hKN, hD0⟩, hSZ⟩ := hv
  have hx := B.exec
  have hb := B.bytes
  have hr := B.returns
  have hts := atoms_spec (ws := .code yX10_fillWords cX10_fillWords 4 none :: GW) B.pre
  have hg : ∀ w ∈ GW, w.before _ s = true := fun w h => hts w (List.mem_cons_of_mem _ h)
  have hown : s.vm.findClass RX10 = some m.cls := findClass_of_methodNamed B.named
  have hlocks := B.notSynchronized
  subst hsz
  have hD := hD0.self (sz := s.heap.size)
  generalize hAe : va_A ws s.heap.size = A at hD hSZ ⊢
  have hA : ∀ q : Nat, s.heap.size ≤ q → A q := fun q h => by rw [← hAe]; exact Or.inr h
  clear hAe hD0 hts B
  have hl := lv_entry ([.ref p0, .int p1, .int p2]) (n := 4) (Nat.le_of_ble_eq_true rfl)
  rw [lg_entry_eq]
  generalize (lg_sl ([.ref p0, .int p1, .int p2]) ++ List.replicate (4 - (lg_sl ([.ref p0, .int p1, .int p2])).length) Slot.unset).toArray = ls at hl ⊢
  have hl : lv_has ls 4 [(0, .ref p0), (1, .int p1), (2, .int p2)] := hl
  refine w_start (A0 := A) hP (fun H locs hP hS => ?_)
  refine lv_aload_n hx hb dX10_fillWords_0 rfl (lv_at hl 0 rfl) ?_
  refine lv_iload_n hx hb dX10_fillWords_1 rfl (lv_at hl 1 rfl) ?_
  refine lv_iload_n hx hb dX10_fillWords_2 rfl (lv_at hl 2 rfl) ?_
  refine lv_iconst (v := 0) hx hb dX10_fillWords_3 (by decide) ?_
  have zi0 : (0 : Int32).toInt = 0 := by decide
  refine ok1 hT ht0 (fun p42 a1 a2 a3 a4 a5 x6 x7 x8 a9 a10 a11 a12 a13 a14 a15 a16 a17 x18 a19 a20 hk43 h21 h22 h23 h24 h25 h26 h27 h28 h29 h30 h31 h32 h33 h34 h35 h36 h37 h38 h39 h40 h41 => ?_)
  refine cga (rn_V (As := [.int p1, .int p2, .int 0]) (rest := []) (b := p0) (x_X10_knownOf l D Y Z H.size ws T g q p0 p1 p2 0 hT ht0) ⟨hx, hb, hml, hown, hg⟩ lk_X10_389 ⟨CPC.blind, va_recv hKN.1 hP (ci := 10) (q0 := p42) rfl hk43, CPC.at hP hKN hD hSZ hS hA⟩ ⟨⟨rfl, rfl⟩, ⟨Nat.le_of_ble_eq_true rfl, Nat.le_of_ble_eq_true rfl⟩, ⟨(Nat.le_of_ble_eq_true rfl), (Nat.le_of_ble_eq_true rfl)⟩⟩ hl.1 rfl (Nat.le_of_ble_eq_true rfl) dX10_fillWords_4) hP hD hS hA (fun u44 H locs hw45 hP hD hS => ?_)
  have ht47 : T u44 = (6, 0, 0) := hw45
  refine W.eq (g2 := F0 m 7 ls [.ref u44]) rfl ?_
  refine lv_astore_n (lv' := [(3, .ref u44), (0, .ref p0), (1, .int p1), (2, .int p2)]) hx hb dX10_fillWords_7 rfl hl (by decide) rfl (fun ls hl => ?_)
  refine lv_aload_n hx hb dX10_fillWords_8 rfl (lv_at hl 1 rfl) ?_
  refine va_get (D := D) (ci := 10) (v := .ref a11) (C := RX10) (T := TX10) (N := 20) hx hb hg inGX10 hown hKN.1 hP p42 hk43 rfl 10 (by decide) (hg _ kw_359) (fun _ h9 => h9) rfl dX10_fillWords_9 ?_
  refine lv_aload_n hx hb dX10_fillWords_12 rfl (lv_at hl 1 rfl) ?_
  refine va_get (D := D) (ci := 10) (v := .ref a1) (C := RX10) (T := TX10) (N := 20) hx hb hg inGX10 hown hKN.1 hP p42 hk43 rfl 0 (by decide) (hg _ kw_349) (fun _ h9 => h9) rfl dX10_fillWords_13 ?_
  refine lv_iload_n hx hb dX10_fillWords_16 rfl (lv_at hl 3 rfl) ?_
  refine lv_iconst (v := 0) hx hb dX10_fillWords_17 (by decide) ?_
  refine ok9 hT h33 (fun p60 a48 a49 a50 x51 y52 y53 x54 y55 hk61 h56 h57 h58 h59 => ?_)
  refine cga (rn_NV (As := [.ref a1, .int p2, .int 0]) (rest := []) (b := a11) (x_X2_see l D Y Z H.size ws T g q 0 a11 a1 p2 0 hT h33 h21) ⟨hx, hb, hml, hown, hg⟩ hKN lk_X10_143 ⟨CPC.blind, va_recv hKN.1 hP (ci := 2) (q0 := p60) rfl hk61, CPC.at hP hKN hD hSZ hS hA⟩ ⟨⟨rfl, rfl⟩, ⟨Nat.le_of_ble_eq_true rfl, Nat.le_of_ble_eq_true rfl⟩, ⟨(Nat.le_of_ble_eq_true rfl), (Nat.le_of_ble_eq_true rfl)⟩⟩ hl.1 rfl (Nat.le_of_ble_eq_true rfl) dX10_fillWords_18) hP hD hS hA (fun u62 H locs hw63 hP hD hS => ?_)
  obtain ⟨hT, ke65, ke66⟩ : TW Y Z T g q u62 ∧ KF 1 T ws u62 ∧ KF 6 T ws u62 := hw63
  have hk67 := ke65 _ _ hk43 (show (T p0).1 = 1 by rw [ht0])
  have ke68 : KF 1 T ws u62 := KF.tr KF.rf ke65
  have ke69 : KF 6 T ws u62 := KF.tr KF.rf ke66
  refine W.eq (g2 := F0 m 21 ls []) rfl ?_
  refine lv_aload_n hx hb dX10_fillWords_21 rfl (lv_at hl 1 rfl) ?_
  refine va_get (D := D) (ci := 10) (v := .ref a13) (C := RX10) (T := TX10) (N := 20) hx hb hg inGX10 hown hKN.1 hP p42 hk67 rfl 12 (by decide) (hg _ kw_361) (fun _ h9 => h9) rfl dX10_fillWords_22 ?_
  refine lv_aload_n hx hb dX10_fillWords_25 rfl (lv_at hl 1 rfl) ?_
  refine va_get (D := D) (ci := 10) (v := .ref a11) (C := RX10) (T := TX10) (N := 20) hx hb hg inGX10 hown hKN.1 hP p42 hk67 rfl 10 (by decide) (hg _ kw_359) (fun _ h9 => h9) rfl dX10_fillWords_26 ?_
  refine lv_aload_n hx hb dX10_fillWords_29 rfl (lv_at hl 0 rfl) ?_
  refine ok11 hT h35 (fun p78 a70 a71 a72 a73 hk79 h74 h75 h76 h77 => ?_)
  refine cga (rn_NV (As := [.ref a11, .ref u44]) (rest := []) (b := a13) (x_X5_read l D Y Z H.size u62 T g q a13 a11 u44 hT h35 h33 ht47) ⟨hx, hb, hml, hown, hg⟩ hKN lk_X10_327 ⟨CPC.blind, va_recv hKN.1 hP (ci := 5) (q0 := p78) rfl hk79, CPC.at hP hKN hD hSZ hS hA⟩ ⟨⟨rfl, rfl⟩, ⟨Nat.le_of_ble_eq_true rfl, Nat.le_of_ble_eq_true rfl⟩, ⟨(Nat.le_of_ble_eq_true rfl), (Nat.le_of_ble_eq_true rfl)⟩⟩ hl.1 rfl (Nat.le_of_ble_eq_true rfl) dX10_fillWords_30) hP hD hS hA (fun u80 H locs hw81 hP hD hS => ?_)
  obtain ⟨hT, ke83, ke84⟩ : TW Y Z T g q u80 ∧ KF 1 T u62 u80 ∧ KF 6 T u62 u80 := hw81
  have hk85 := ke83 _ _ hk67 (show (T p0).1 = 1 by rw [ht0])
  have ke86 : KF 1 T ws u80 := KF.tr ke68 ke83
  have ke87 : KF 6 T ws u80 := KF.tr ke69 ke84
  refine W.eq (g2 := F0 m 33 ls []) rfl ?_
  refine lv_aload_n hx hb dX10_fillWords_33 rfl (lv_at hl 1 rfl) ?_
  refine va_get (D := D) (ci := 10) (v := .ref a19) (C := RX10) (T := TX10) (N := 20) hx hb hg inGX10 hown hKN.1 hP p42 hk85 rfl 18 (by decide) (hg _ kw_367) (fun _ h9 => h9) rfl dX10_fillWords_34 ?_
  refine lv_iconst (v := 0) hx hb dX10_fillWords_37 (by decide) ?_
  refine lv_aload_n hx hb dX10_fillWords_38 rfl (lv_at hl 0 rfl) ?_
  refine ok6 hT ht47 (fun p96 x88 x89 x90 x91 x92 y93 y94 hk97 h95 => ?_)
  refine va_getN (D := D) (ci := 1) (v := .int x89) (C := RX1) (T := TX1) (N := 7) hx hb hg inGX1 hown hKN.1 hP p96 hk97 rfl 1 (by decide) (va_Nw.use rfl (hKN.2.1 _ kn_313 rfl)) (fun _ h9 => h9) rfl dX10_fillWords_39 ?_
  have j98 := Int32.toInt_toInt64 x89
  refine lv_i2l (v := x89.toInt64) hx hb dX10_fillWords_42 (rfl) ?_
  refine tr_st15 hx hb hKN hP hD hS hT h40 (show ¬ ((0 : Int32) < 0 ∨ 10 ≤ (0 : Int32).toNatClampNeg) by decide) dX10_fillWords_43 (fun w99 H locs hP hD hS hT kp100 => ?_)
  have ke101 : KF 1 T ws w99 := KF.tr ke86 (KF.kp kp100 h40 (by decide))
  have ke102 : KF 6 T ws w99 := KF.tr ke87 (KF.kp kp100 h40 (by decide))
  have hk103 := kp100 _ _ hk85 (rne ht0 h40 (by decide))
  have hk104 := kp100 _ _ hk97 (rne ht47 h40 (by decide))
  refine lv_aload_n hx hb dX10_fillWords_44 rfl (lv_at hl 1 rfl) ?_
  refine va_get (D := D) (ci := 10) (v := .ref a19) (C := RX10) (T := TX10) (N := 20) hx hb hg inGX10 hown hKN.1 hP p42 hk103 rfl 18 (by decide) (hg _ kw_367) (fun _ h9 => h9) rfl dX10_fillWords_45 ?_
  refine lv_iconst (v := 1) hx hb dX10_fillWords_48 (by decide) ?_
  refine lv_aload_n hx hb dX10_fillWords_49 rfl (lv_at hl 0 rfl) ?_
  refine va_getN (D := D) (ci := 1) (v := .int x90) (C := RX1) (T := TX1) (N := 7) hx hb hg inGX1 hown hKN.1 hP p96 hk104 rfl 2 (by decide) (va_Nw.use rfl (hKN.2.1 _ kn_318 rfl)) (fun _ h9 => h9) rfl dX10_fillWords_50 ?_
  have j105 := rgI x90
  have j106 := Int32.toInt_toInt64 x90
  refine lv_i2l (v := x90.toInt64) hx hb dX10_fillWords_53 (rfl) ?_
  refine tr_st15 hx hb hKN hP hD hS hT h40 (show ¬ ((1 : Int32) < 0 ∨ 10 ≤ (1 : Int32).toNatClampNeg) by decide) dX10_fillWords_54 (fun w107 H locs hP hD hS hT kp108 => ?_)
  have ke109 : KF 1 T ws w107 := KF.tr ke101 (KF.kp kp108 h40 (by decide))
  have ke110 : KF 6 T ws w107 := KF.tr ke102 (KF.kp kp108 h40 (by decide))
  have hk111 := kp108 _ _ hk103 (rne ht0 h40 (by decide))
  have hk112 := kp108 _ _ hk104 (rne ht47 h40 (by decide))
  refine lv_aload_n hx hb dX10_fillWords_55 rfl (lv_at hl 1 rfl) ?_
  refine va_get (D := D) (ci := 10) (v := .ref a19) (C := RX10) (T := TX10) (N := 20) hx hb hg inGX10 hown hKN.1 hP p42 hk111 rfl 18 (by decide) (hg _ kw_367) (fun _ h9 => h9) rfl dX10_fillWords_56 ?_
  refine lv_iconst (v := 2) hx hb dX10_fillWords_59 (by decide) ?_
  refine lv_aload_n hx hb dX10_fillWords_60 rfl (lv_at hl 0 rfl) ?_
  refine va_getN (D := D) (ci := 1) (v := .long y93) (C := RX1) (T := TX1) (N := 7) hx hb hg inGX1 hown hKN.1 hP p96 hk112 rfl 5 (by decide) (va_Nw.use rfl (hKN.2.1 _ kn_329 rfl)) (fun _ h9 => h9) rfl dX10_fillWords_61 ?_
  refine tr_st15 hx hb hKN hP hD hS hT h40 (show ¬ ((2 : Int32) < 0 ∨ 10 ≤ (2 : Int32).toNatClampNeg) by decide) dX10_fillWords_64 (fun w113 H locs hP hD hS hT kp114 => ?_)
  have ke115 : KF 1 T ws w113 := KF.tr ke109 (KF.kp kp114 h40 (by decide))
  have ke116 : KF 6 T ws w113 := KF.tr ke110 (KF.kp kp114 h40 (by decide))
  have hk117 := kp114 _ _ hk111 (rne ht0 h40 (by decide))
  have hk118 := kp114 _ _ hk112 (rne ht47 h40 (by decide))
  refine lv_aload_n hx hb dX10_fillWords_65 rfl (lv_at hl 1 rfl) ?_
  refine va_get (D := D) (ci := 10) (v := .ref a19) (C := RX10) (T := TX10) (N := 20) hx hb hg inGX10 hown hKN.1 hP p42 hk117 rfl 18 (by decide) (hg _ kw_367) (fun _ h9 => h9) rfl dX10_fillWords_66 ?_
  refine lv_iconst (v := 3) hx hb dX10_fillWords_69 (by decide) ?_
  refine lv_aload_n hx hb dX10_fillWords_70 rfl (lv_at hl 0 rfl) ?_
  refine va_getN (D := D) (ci := 1) (v := .long y94) (C := RX1) (T := TX1) (N := 7) hx hb hg inGX1 hown hKN.1 hP p96 hk118 rfl 6 (by decide) (va_Nw.use rfl (hKN.2.1 _ kn_332 rfl)) (fun _ h9 => h9) rfl dX10_fillWords_71 ?_
  refine tr_st15 hx hb hKN hP hD hS hT h40 (show ¬ ((3 : Int32) < 0 ∨ 10 ≤ (3 : Int32).toNatClampNeg) by decide) dX10_fillWords_74 (fun w119 H locs hP hD hS hT kp120 => ?_)
  have ke121 : KF 1 T ws w119 := KF.tr ke115 (KF.kp kp120 h40 (by decide))
  have ke122 : KF 6 T ws w119 := KF.tr ke116 (KF.kp kp120 h40 (by decide))
  have hk123 := kp120 _ _ hk117 (rne ht0 h40 (by decide))
  have hk124 := kp120 _ _ hk118 (rne ht47 h40 (by decide))
  refine lv_aload_n hx hb dX10_fillWords_75 rfl (lv_at hl 1 rfl) ?_
  refine va_get (D := D) (ci := 10) (v := .ref a19) (C := RX10) (T := TX10) (N := 20) hx hb hg inGX10 hown hKN.1 hP p42 hk123 rfl 18 (by decide) (hg _ kw_367) (fun _ h9 => h9) rfl dX10_fillWords_76 ?_
  refine lv_iconst (v := 4) hx hb dX10_fillWords_79 (by decide) ?_
  refine lv_aload_n hx hb dX10_fillWords_80 rfl (lv_at hl 0 rfl) ?_
  refine va_getN (D := D) (ci := 1) (v := .int x92) (C := RX1) (T := TX1) (N := 7) hx hb hg inGX1 hown hKN.1 hP p96 hk124 rfl 4 (by decide) (va_Nw.use rfl (hKN.2.1 _ kn_326 rfl)) (fun _ h9 => h9) rfl dX10_fillWords_81 ?_
  have j125 := rgI x92
  have j126 := Int32.toInt_toInt64 x92
  refine lv_i2l (v := x92.toInt64) hx hb dX10_fillWords_84 (rfl) ?_
  refine tr_st15 hx hb hKN hP hD hS hT h40 (show ¬ ((4 : Int32) < 0 ∨ 10 ≤ (4 : Int32).toNatClampNeg) by decide) dX10_fillWords_85 (fun w127 H locs hP hD hS hT kp128 => ?_)
  have ke129 : KF 1 T ws w127 := KF.tr ke121 (KF.kp kp128 h40 (by decide))
  have ke130 : KF 6 T ws w127 := KF.tr ke122 (KF.kp kp128 h40 (by decide))
  have hk131 := kp128 _ _ hk123 (rne ht0 h40 (by decide))
  have hk132 := kp128 _ _ hk124 (rne ht47 h40 (by decide))
  refine lv_aload_n hx hb dX10_fillWords_86 rfl (lv_at hl 1 rfl) ?_
  refine va_get (D := D) (ci := 10) (v := .ref a19) (C := RX10) (T := TX10) (N := 20) hx hb hg inGX10 hown hKN.1 hP p42 hk131 rfl 18 (by decide) (hg _ kw_367) (fun _ h9 => h9) rfl dX10_fillWords_87 ?_
  refine lv_iconst (v := 5) hx hb dX10_fillWords_90 (by decide) ?_
  refine lv_aload_n hx hb dX10_fillWords_91 rfl (lv_at hl 1 rfl) ?_
  refine va_get (D := D) (ci := 10) (v := .ref a13) (C := RX10) (T := TX10) (N := 20) hx hb hg inGX10 hown hKN.1 hP p42 hk131 rfl 12 (by decide) (hg _ kw_361) (fun _ h9 => h9) rfl dX10_fillWords_92 ?_
  refine lv_iconst (v := 2) hx hb dX10_fillWords_95 (by decide) ?_
  have zi2 : (2 : Int32).toInt = 2 := by decide
  refine ok11 hT h35 (fun p141 a133 a134 a135 a136 hk142 h137 h138 h139 h140 => ?_)
  refine cga (rn_NV (As := [.int 2]) (rest := [.int 5, .ref a19]) (b := a13) (x_X5_part l D Y Z H.size w127 T g q a13 2 hT h35) ⟨hx, hb, hml, hown, hg⟩ hKN lk_X10_330 ⟨CPC.blind, va_recv hKN.1 hP (ci := 5) (q0 := p141) rfl hk142, CPC.at hP hKN hD hSZ hS hA⟩ ⟨⟨rfl, rfl⟩, ⟨Nat.le_of_ble_eq_true rfl, Nat.le_of_ble_eq_true rfl⟩, ⟨(Nat.le_of_ble_eq_true rfl), (Nat.le_of_ble_eq_true rfl)⟩⟩ hl.1 rfl (Nat.le_of_ble_eq_true rfl) dX10_fillWords_96) hP hD hS hA (fun u143 H locs hw144 hP hD hS => ?_)
  refine W.eq (g2 := F0 m 99 ls [.int u143, .int 5, .ref a19]) rfl ?_
  have j146 := rgI u143
  have j147 := Int32.toInt_toInt64 u143
  refine lv_i2l (v := u143.toInt64) hx hb dX10_fillWords_99 (rfl) ?_
  refine tr_st15 hx hb hKN hP hD hS hT h40 (show ¬ ((5 : Int32) < 0 ∨ 10 ≤ (5 : Int32).toNatClampNeg) by decide) dX10_fillWords_100 (fun w148 H locs hP hD hS hT kp149 => ?_)
  have ke150 : KF 1 T ws w148 := KF.tr ke129 (KF.kp kp149 h40 (by decide))
  have ke151 : KF 6 T ws w148 := KF.tr ke130 (KF.kp kp149 h40 (by decide))
  have hk152 := kp149 _ _ hk131 (rne ht0 h40 (by decide))
  have hk153 := kp149 _ _ hk132 (rne ht47 h40 (by decide))
  have hk154 := kp149 _ _ hk142 (rne h35 h40 (by decide))
  refine lv_aload_n hx hb dX10_fillWords_101 rfl (lv_at hl 1 rfl) ?_
  refine va_get (D := D) (ci := 10) (v := .ref a19) (C := RX10) (T := TX10) (N := 20) hx hb hg inGX10 hown hKN.1 hP p42 hk152 rfl 18 (by decide) (hg _ kw_367) (fun _ h9 => h9) rfl dX10_fillWords_102 ?_
  refine lv_bipush (v := 6) hx hb dX10_fillWords_105 (by decide) ?_
  refine lv_aload_n hx hb dX10_fillWords_107 rfl (lv_at hl 1 rfl) ?_
  refine va_get (D := D) (ci := 10) (v := .ref a13) (C := RX10) (T := TX10) (N := 20) hx hb hg inGX10 hown hKN.1 hP p42 hk152 rfl 12 (by decide) (hg _ kw_361) (fun _ h9 => h9) rfl dX10_fillWords_108 ?_
  refine lv_iconst (v := 3) hx hb dX10_fillWords_111 (by decide) ?_
  have zi3 : (3 : Int32).toInt = 3 := by decide
  refine cga (rn_NV (As := [.int 3]) (rest := [.int 6, .ref a19]) (b := a13) (x_X5_part l D Y Z H.size w148 T g q a13 3 hT h35) ⟨hx, hb, hml, hown, hg⟩ hKN lk_X10_330 ⟨CPC.blind, va_recv hKN.1 hP (ci := 5) (q0 := p141) rfl hk154, CPC.at hP hKN hD hSZ hS hA⟩ ⟨⟨rfl, rfl⟩, ⟨Nat.le_of_ble_eq_true rfl, Nat.le_of_ble_eq_true rfl⟩, ⟨(Nat.le_of_ble_eq_true rfl), (Nat.le_of_ble_eq_true rfl)⟩⟩ hl.1 rfl (Nat.le_of_ble_eq_true rfl) dX10_fillWords_112) hP hD hS hA (fun u155 H locs hw156 hP hD hS => ?_)
  refine W.eq (g2 := F0 m 115 ls [.int u155, .int 6, .ref a19]) rfl ?_
  have j158 := rgI u155
  have j159 := Int32.toInt_toInt64 u155
  refine lv_i2l (v := u155.toInt64) hx hb dX10_fillWords_115 (rfl) ?_
  refine tr_st15 hx hb hKN hP hD hS hT h40 (show ¬ ((6 : Int32) < 0 ∨ 10 ≤ (6 : Int32).toNatClampNeg) by decide) dX10_fillWords_116 (fun w160 H locs hP hD hS hT kp161 => ?_)
  have ke162 : KF 1 T ws w160 := KF.tr ke150 (KF.kp kp161 h40 (by decide))
  have ke163 : KF 6 T ws w160 := KF.tr ke151 (KF.kp kp161 h40 (by decide))
  have hk164 := kp161 _ _ hk152 (rne ht0 h40 (by decide))
  have hk165 := kp161 _ _ hk153 (rne ht47 h40 (by decide))
  have hk166 := kp161 _ _ hk154 (rne h35 h40 (by decide))
  refine lv_aload_n hx hb dX10_fillWords_117 rfl (lv_at hl 1 rfl) ?_
  refine va_get (D := D) (ci := 10) (v := .ref a19) (C := RX10) (T := TX10) (N := 20) hx hb hg inGX10 hown hKN.1 hP p42 hk164 rfl 18 (by decide) (hg _ kw_367) (fun _ h9 => h9) rfl dX10_fillWords_118 ?_
  refine lv_bipush (v := 7) hx hb dX10_fillWords_121 (by decide) ?_
  refine lv_aload_n hx hb dX10_fillWords_123 rfl (lv_at hl 1 rfl) ?_
  refine lv_iload_n hx hb dX10_fillWords_124 rfl (lv_at hl 2 rfl) ?_
  refine lv_iload_n hx hb dX10_fillWords_125 rfl (lv_at hl 3 rfl) ?_
  refine lv_aload_n hx hb dX10_fillWords_126 rfl (lv_at hl 0 rfl) ?_
  refine cga (rn_V (As := [.int p1, .int p2, .ref u44]) (rest := [.int 7, .ref a19]) (b := p0) (x_X10_sameAs l D Y Z H.size w160 T g q p0 u44 p1 p2 hT ht0 ht47) ⟨hx, hb, hml, hown, hg⟩ lk_X10_323 ⟨CPC.blind, va_recv hKN.1 hP (ci := 10) (q0 := p42) rfl hk164, CPC.at hP hKN hD hSZ hS hA⟩ ⟨⟨rfl, rfl⟩, ⟨Nat.le_of_ble_eq_true rfl, Nat.le_of_ble_eq_true rfl⟩, ⟨(Nat.le_of_ble_eq_true rfl), (Nat.le_of_ble_eq_true rfl)⟩⟩ hl.1 rfl (Nat.le_of_ble_eq_true rfl) dX10_fillWords_127) hP hD hS hA (fun u167 H locs hw168 hP hD hS => ?_)
  refine W.eq (g2 := F0 m 130 ls [.int u167, .int 7, .ref a19]) rfl ?_
  have j170 := rgI u167
  have j171 := Int32.toInt_toInt64 u167
  refine lv_i2l (v := u167.toInt64) hx hb dX10_fillWords_130 (rfl) ?_
  refine tr_st15 hx hb hKN hP hD hS hT h40 (show ¬ ((7 : Int32) < 0 ∨ 10 ≤ (7 : Int32).toNatClampNeg) by decide) dX10_fillWords_131 (fun w172 H locs hP hD hS hT kp173 => ?_)
  have ke174 : KF 1 T ws w172 := KF.tr ke162 (KF.kp kp173 h40 (by decide))
  have ke175 : KF 6 T ws w172 := KF.tr ke163 (KF.kp kp173 h40 (by decide))
  have hk176 := kp173 _ _ hk164 (rne ht0 h40 (by decide))
  have hk177 := kp173 _ _ hk165 (rne ht47 h40 (by decide))
  have hk178 := kp173 _ _ hk166 (rne h35 h40 (by decide))
  refine lv_aload_n hx hb dX10_fillWords_132 rfl (lv_at hl 1 rfl) ?_
  refine va_get (D := D) (ci := 10) (v := .ref a19) (C := RX10) (T := TX10) (N := 20) hx hb hg inGX10 hown hKN.1 hP p42 hk176 rfl 18 (by decide) (hg _ kw_367) (fun _ h9 => h9) rfl dX10_fillWords_133 ?_
  refine lv_bipush (v := 8) hx hb dX10_fillWords_136 (by decide) ?_
  refine lv_aload_n hx hb dX10_fillWords_138 rfl (lv_at hl 1 rfl) ?_
  refine va_get (D := D) (ci := 10) (v := .ref a13) (C := RX10) (T := TX10) (N := 20) hx hb hg inGX10 hown hKN.1 hP p42 hk176 rfl 12 (by decide) (hg _ kw_361) (fun _ h9 => h9) rfl dX10_fillWords_139 ?_
  refine lv_iconst (v := 5) hx hb dX10_fillWords_142 (by decide) ?_
  have zi5 : (5 : Int32).toInt = 5 := by decide
  refine cga (rn_NV (As := [.int 5]) (rest := [.int 8, .ref a19]) (b := a13) (x_X5_part l D Y Z H.size w172 T g q a13 5 hT h35) ⟨hx, hb, hml, hown, hg⟩ hKN lk_X10_330 ⟨CPC.blind, va_recv hKN.1 hP (ci := 5) (q0 := p141) rfl hk178, CPC.at hP hKN hD hSZ hS hA⟩ ⟨⟨rfl, rfl⟩, ⟨Nat.le_of_ble_eq_true rfl, Nat.le_of_ble_eq_true rfl⟩, ⟨(Nat.le_of_ble_eq_true rfl), (Nat.le_of_ble_eq_true rfl)⟩⟩ hl.1 rfl (Nat.le_of_ble_eq_true rfl) dX10_fillWords_143) hP hD hS hA (fun u179 H locs hw180 hP hD hS => ?_)
  refine W.eq (g2 := F0 m 146 ls [.int u179, .int 8, .ref a19]) rfl ?_
  have j182 := rgI u179
  have j183 := Int32.toInt_toInt64 u179
  refine lv_i2l (v := u179.toInt64) hx hb dX10_fillWords_146 (rfl) ?_
  refine tr_st15 hx hb hKN hP hD hS hT h40 (show ¬ ((8 : Int32) < 0 ∨ 10 ≤ (8 : Int32).toNatClampNeg) by decide) dX10_fillWords_147 (fun w184 H locs hP hD hS hT kp185 => ?_)
  have ke186 : KF 1 T ws w184 := KF.tr ke174 (KF.kp kp185 h40 (by decide))
  have ke187 : KF 6 T ws w184 := KF.tr ke175 (KF.kp kp185 h40 (by decide))
  have hk188 := kp185 _ _ hk176 (rne ht0 h40 (by decide))
  have hk189 := kp185 _ _ hk177 (rne ht47 h40 (by decide))
  have hk190 := kp185 _ _ hk178 (rne h35 h40 (by decide))
  refine lv_aload_n hx hb dX10_fillWords_148 rfl (lv_at hl 1 rfl) ?_
  refine va_get (D := D) (ci := 10) (v := .ref a19) (C := RX10) (T := TX10) (N := 20) hx hb hg inGX10 hown hKN.1 hP p42 hk188 rfl 18 (by decide) (hg _ kw_367) (fun _ h9 => h9) rfl dX10_fillWords_149 ?_
  refine lv_bipush (v := 9) hx hb dX10_fillWords_152 (by decide) ?_
  refine lv_aload_n hx hb dX10_fillWords_154 rfl (lv_at hl 1 rfl) ?_
  refine va_get (D := D) (ci := 10) (v := .ref a1) (C := RX10) (T := TX10) (N := 20) hx hb hg inGX10 hown hKN.1 hP p42 hk188 rfl 0 (by decide) (hg _ kw_349) (fun _ h9 => h9) rfl dX10_fillWords_155 ?_
  refine lv_iload_n hx hb dX10_fillWords_158 rfl (lv_at hl 3 rfl) ?_
  refine ok2 hT h21 (fun p225 x191 a192 x193 a194 x195 a196 a197 x198 a199 a200 x201 a202 x203 hk226 h204 h205 h206 h207 h208 h209 h210 h211 h212 h213 h214 h215 h216 h217 h218 h219 h220 h221 h222 h223 h224 => ?_)
  refine cga (rn_NV (As := [.int p2]) (rest := [.int 9, .ref a19]) (b := a1) (x_X6_sizeOf l D Y Z H.size w184 T g q 0 a1 p2 hT h21) ⟨hx, hb, hml, hown, hg⟩ hKN lk_X10_457 ⟨CPC.blind, va_recv hKN.1 hP (ci := 6) (q0 := p225) rfl hk226, CPC.at hP hKN hD hSZ hS hA⟩ ⟨⟨rfl, rfl⟩, ⟨Nat.le_of_ble_eq_true rfl, Nat.le_of_ble_eq_true rfl⟩, ⟨(Nat.le_of_ble_eq_true rfl), (Nat.le_of_ble_eq_true rfl)⟩⟩ hl.1 rfl (Nat.le_of_ble_eq_true rfl) dX10_fillWords_159) hP hD hS hA (fun u227 H locs hw228 hP hD hS => ?_)
  refine W.eq (g2 := F0 m 162 ls [.long u227, .int 9, .ref a19]) rfl ?_
  refine tr_st15 hx hb hKN hP hD hS hT h40 (show ¬ ((9 : Int32) < 0 ∨ 10 ≤ (9 : Int32).toNatClampNeg) by decide) dX10_fillWords_162 (fun w230 H locs hP hD hS hT kp231 => ?_)
  have ke232 : KF 1 T ws w230 := KF.tr ke186 (KF.kp kp231 h40 (by decide))
  have ke233 : KF 6 T ws w230 := KF.tr ke187 (KF.kp kp231 h40 (by decide))
  have hk234 := kp231 _ _ hk188 (rne ht0 h40 (by decide))
  have hk235 := kp231 _ _ hk189 (rne ht47 h40 (by decide))
  have hk236 := kp231 _ _ hk190 (rne h35 h40 (by decide))
  have hk237 := kp231 _ _ hk226 (rne h21 h40 (by decide))
  refine W.widen (k := 0) (n := 0) (Nat.le_of_ble_eq_true rfl) (Nat.le_of_ble_eq_true rfl) ?_
  exact W.vret hx hb hr (fun t ht hW => ⟨⟨w230, rfl, ⟨hT, ke232, ke233⟩, CB.mk ht hP hD⟩, hS.F ht⟩) hS.2.2 dX10_fillWords_163
set_option maxHeartbeats 4000000 in
set_option maxRecDepth 100000 in
theorem x_X10_weighAll (l : Launch) (D : va_G) (Y : Nat → ClassId) (Z : Nat → Nat) (sz : Nat) (ws : va_W) (T : RT) (g : GN) (q : GQ)  (p0 : Nat) (p1 : Int32) (p2 : Int32) (p3 : Int32) (hT : TW Y Z T g q ws) (ht0 : T p0 = (1, 0, 0)) : Met l yX10_weighAll (.code yX10_weighAll cX10_weighAll 6 none :: GW) ({ frames := 5, cells := 0, slots := 0, locals := 127 }) (va_Pc [.ref p0, .int p1, .int p2, .int p3] (CPC D Y Z ws sz)) (QG (S := va_W) (fun _ => none) (fun u => TW Y Z T g q u ∧ KF 1 T ws u ∧ KF 6 T ws u) (fun u => CB D u (va_A ws sz)) (va_A ws sz)) 0 0 (va_A ws sz) := by
  refine Met.ofW (cc := cX10_weighAll) (maxL := 6) (ret := none) (by decide) rfl ?_
  intro p e s m args below meth c s₁ B hml hv
  obtain ⟨rfl, ⟨hsz, hP, hKN, hD0⟩, hSZ⟩ := hv
  have hx := B.exec
  have hb := B.bytes
  have hr := B.returns
  have hts := atoms_spec (ws := .code yX10_weighAll cX10_weighAll 6 none :: GW) B.pre
  have hg : ∀ w ∈ GW, w.before _ s = true := fun w h => hts w (List.mem_cons_of_mem _ h)
  have hown : s.vm.findClass RX10 = some m.cls := findClass_of_methodNamed B.named
  have hlocks := B.notSynchronized
  subst hsz
  have hD := hD0.self (sz := s.heap.size)
  generalize hAe : va_A ws s.heap.size = A at hD hSZ ⊢
  have hA : ∀ q : Nat, s.heap.size ≤ q → A q := fun q h => by rw [← hAe]; exact Or.inr h
  clear hAe hD0 hts B
  have hl := lv_entry ([.ref p0, .int p1, .int p2, .int p3]) (n := 6) (Nat.le_of_ble_eq_true rfl)
  rw [lg_entry_eq]
  generalize (lg_sl ([.ref p0, .int p1, .int p2, .int p3]) ++ List.replicate (6 - (lg_sl ([.ref p0, .int p1, .int p2, .int p3])).length) Slot.unset).toArray = ls at hl ⊢
  have hl : lv_has ls 6 [(0, .ref p0), (1, .int p1), (2, .int p2), (3, .int p3)] := hl
  refine w_start (A0 := A) hP (fun H locs hP hS => ?_)
  refine lv_aload_n hx hb dX10_weighAll_0 rfl (lv_at hl 0 rfl) ?_
  refine lv_iload_n hx hb dX10_weighAll_1 rfl (lv_at hl 1 rfl) ?_
  refine ok1 hT ht0 (fun p42 a1 a2 a3 a4 a5 x6 x7 x8 a9 a10 a11 a12 a13 a14 a15 a16 a17 x18 a19 a20 hk43 h21 h22 h23 h24 h25 h26 h27 h28 h29 h30 h31 h32 h33 h34 h35 h36 h37 h38 h39 h40 h41 => ?_)
  refine cga (rn_V (As := [.int p1]) (rest := []) (b := p0) (x_X10_sorterAt l D Y Z H.size ws T g q p0 p1 hT ht0) ⟨hx, hb, hml, hown, hg⟩ lk_X10_349 ⟨CPC.blind, va_recv hKN.1 hP (ci := 10) (q0 := p42) rfl hk43, CPC.at hP hKN hD hSZ hS hA⟩ ⟨⟨rfl, rfl⟩, ⟨Nat.le_of_ble_eq_true rfl, Nat.le_of_ble_eq_true rfl⟩, ⟨(Nat.le_of_ble_eq_true rfl), (Nat.le_of_ble_eq_true rfl)⟩⟩ hl.1 rfl (Nat.le_of_ble_eq_true rfl) dX10_weighAll_2) hP hD hS hA (fun u44 H locs hw45 hP hD hS => ?_)
  obtain ⟨ht47, hw48⟩ : (∀ b, u44 = some b → T b = (5, 0, 0)) ∧ (∀ b, u44 = some b → 0 ≤ p1.toInt ∧ p1.toInt ≤ 5) := hw45
  refine W.eq (g2 := F0 m 5 ls [va_rf u44]) rfl ?_
  rcases u44 with _ | b49
  · skip
    refine W.eq (g2 := F0 m 5 ls [.null]) rfl ?_
    refine lv_astoreN (lv' := [(4, .null), (0, .ref p0), (1, .int p1), (2, .int p2), (3, .int p3)]) hx hb dX10_weighAll_5 hl (by decide) rfl (fun ls hl => ?_)
    refine lv_aloadN hx hb dX10_weighAll_7 (lv_at hl 0 rfl) ?_
    refine lv_ifnonnullN hx hb dX10_weighAll_9 ?_
    refine W.widen (k := 0) (n := 0) (Nat.le_of_ble_eq_true rfl) (Nat.le_of_ble_eq_true rfl) ?_
    exact W.vret hx hb hr (fun t ht hW => ⟨⟨ws, rfl, ⟨hT, KF.rf, KF.rf⟩, CB.mk ht hP hD⟩, hS.F ht⟩) hS.2.2 dX10_weighAll_12
  · skip
    have ht50 := ht47 b49 rfl
    have h51 := hw48 b49 rfl
    refine W.eq (g2 := F0 m 5 ls [.ref b49]) rfl ?_
    refine lv_astore (lv' := [(4, .ref b49), (0, .ref p0), (1, .int p1), (2, .int p2), (3, .int p3)]) hx hb dX10_weighAll_5 hl (by decide) rfl (fun ls hl => ?_)
    refine lv_aload hx hb dX10_weighAll_7 (lv_at hl 0 rfl) ?_
    refine lv_ifnonnull (tgt := 13) hx hb dX10_weighAll_9 (by decide) ?_
    refine lv_aload_n hx hb dX10_weighAll_13 rfl (lv_at hl 1 rfl) ?_
    refine lv_iload_n hx hb dX10_weighAll_14 rfl (lv_at hl 3 rfl) ?_
    refine lv_iload_n hx hb dX10_weighAll_15 rfl (lv_at hl 4 rfl) ?_
    refine cga (rn_V (As := [.int p2, .int p3]) (rest := []) (b := p0) (x_X10_fillWords l D Y Z H.size ws T g q p0 p2 p3 hT ht0) ⟨hx, hb, hml, hown, hg⟩ lk_X10_467 ⟨CPC.blind, va_recv hKN.1 hP (ci := 10) (q0 := p42) rfl hk43, CPC.at hP hKN hD hSZ hS hA⟩ ⟨⟨rfl, rfl⟩, ⟨Nat.le_of_ble_eq_true rfl, Nat.le_of_ble_eq_true rfl⟩, ⟨(Nat.le_of_ble_eq_true rfl), (Nat.le_of_ble_eq_true rfl)⟩⟩ hl.1 rfl (Nat.le_of_ble_eq_true rfl) dX10_weighAll_16) hP hD hS hA (fun u52 H locs hw53 hP hD hS => ?_)
    obtain ⟨hT, ke55, ke56⟩ : TW Y Z T g q u52 ∧ KF 1 T ws u52 ∧ KF 6 T ws u52 := hw53
    have hk57 := ke55 _ _ hk43 (show (T p0).1 = 1 by rw [ht0])
    have ke58 : KF 1 T ws u52 := KF.tr KF.rf ke55
    have ke59 : KF 6 T ws u52 := KF.tr KF.rf ke56
    refine W.eq (g2 := F0 m 19 ls []) rfl ?_
    refine lv_iconst (v := 0) hx hb dX10_weighAll_19 (by decide) ?_
    refine lv_istore (lv' := [(5, .int 0), (4, .ref b49), (0, .ref p0), (1, .int p1), (2, .int p2), (3, .int p3)]) hx hb dX10_weighAll_20 hl (by decide) rfl (fun ls hl => ?_)
    have zi0 : (0 : Int32).toInt = 0 := by decide
    refine w_loop (σ := Int32 × va_W) (fun xx H locs ls => match xx with | (v84, w85) => va_P D vwCl w85 H ∧ va_D A w85 ∧ va_S A s.heap H locs ∧ lv_has ls 6 [(5, .int v84), (4, .ref b49), (0, .ref p0), (1, .int p1), (2, .int p2), (3, .int p3)] ∧ TW Y Z T g q w85 ∧ KF 1 T ws w85 ∧ KF 6 T ws w85 ∧ (0 ≤ v84.toInt ∧ v84.toInt ≤ 5)) (fun xx => match xx with | (v84, w85) => (5 - v84.toInt).toNat) (0, u52) ⟨hP, hD, hS, lv_sub hl [0, 1, 2, 3, 4, 5] rfl, hT, ke58, ke59, by omega⟩ (fun xx H locs ls hI ih => ?_)
    obtain ⟨v84, w85⟩ := xx
    obtain ⟨hP, hD, hS, hl, hT, ke155, ke156, hq154⟩ := hI
    have ih157 := ih
    refine lv_iload hx hb dX10_weighAll_22 (lv_at hl 0 rfl) ?_
    refine lv_iconst (v := 5) hx hb dX10_weighAll_24 (by decide) ?_
    refine lv_icmp_ge (tgt := 64) hx hb dX10_weighAll_25 (by decide) (fun c158 => ?_) (fun c158 => ?_)
    · skip
      have c158 := i_le (show (5 : Int32).toInt = 5 by decide) (Eq.refl v84.toInt) c158
      refine W.widen (k := 0) (n := 0) (Nat.le_of_ble_eq_true rfl) (Nat.le_of_ble_eq_true rfl) ?_
      exact W.vret hx hb hr (fun t ht hW => ⟨⟨w85, rfl, ⟨hT, ke155, ke156⟩, CB.mk ht hP hD⟩, hS.F ht⟩) hS.2.2 dX10_weighAll_64
    · skip
      have c158 := i_nle (show (5 : Int32).toInt = 5 by decide) (Eq.refl v84.toInt) c158
      refine lv_aload_n hx hb dX10_weighAll_28 rfl (lv_at hl 2 rfl) ?_
      refine ok1 hT ht0 (fun p200 a159 a160 a161 a162 a163 x164 x165 x166 a167 a168 a169 a170 a171 a172 a173 a174 a175 x176 a177 a178 hk201 h179 h180 h181 h182 h183 h184 h185 h186 h187 h188 h189 h190 h191 h192 h193 h194 h195 h196 h197 h198 h199 => ?_)
      refine va_get (D := D) (ci := 10) (v := .ref a178) (C := RX10) (T := TX10) (N := 20) hx hb hg inGX10 hown hKN.1 hP p200 hk201 rfl 19 (by decide) (hg _ kw_368) (fun _ h9 => h9) rfl dX10_weighAll_29 ?_
      refine lv_iload hx hb dX10_weighAll_32 (lv_at hl 0 rfl) ?_
      refine lv_aload_n hx hb dX10_weighAll_34 rfl (lv_at hl 2 rfl) ?_
      refine va_get (D := D) (ci := 10) (v := .ref a168) (C := RX10) (T := TX10) (N := 20) hx hb hg inGX10 hown hKN.1 hP p200 hk201 rfl 9 (by decide) (hg _ kw_358) (fun _ h9 => h9) rfl dX10_weighAll_35 ?_
      refine lv_aload hx hb dX10_weighAll_38 (lv_at hl 1 rfl) ?_
      refine lv_iload hx hb dX10_weighAll_40 (lv_at hl 0 rfl) ?_
      refine lv_aload_n hx hb dX10_weighAll_42 rfl (lv_at hl 2 rfl) ?_
      refine va_get (D := D) (ci := 10) (v := .ref a177) (C := RX10) (T := TX10) (N := 20) hx hb hg inGX10 hown hKN.1 hP p200 hk201 rfl 18 (by decide) (hg _ kw_367) (fun _ h9 => h9) rfl dX10_weighAll_43 ?_
      refine ok8 hT h190 (fun p204 a202 hk205 h203 => ?_)
      refine cga (rn_NV (As := [.ref b49, .int v84, .ref a177]) (rest := [.int v84, .ref a178]) (b := a168) (x_X4_weigh l D Y Z H.size w85 T g q a168 b49 a177 v84 hT h190 ht50 h198) ⟨hx, hb, hml, hown, hg⟩ hKN lk_X10_470 ⟨CPC.blind, va_recv hKN.1 hP (ci := 4) (q0 := p204) rfl hk205, CPC.at hP hKN hD hSZ hS hA⟩ ⟨⟨rfl, rfl⟩, ⟨Nat.le_of_ble_eq_true rfl, Nat.le_of_ble_eq_true rfl⟩, ⟨(Nat.le_of_ble_eq_true rfl), (Nat.le_of_ble_eq_true rfl)⟩⟩ hl.1 rfl (Nat.le_of_ble_eq_true rfl) dX10_weighAll_46) hP hD hS hA (fun u206 H locs hw207 hP hD hS => ?_)
      obtain ⟨u208, w209⟩ := u206
      obtain ⟨hT, ke210, ke211⟩ : TW Y Z T g q w209 ∧ KF 1 T w85 w209 ∧ KF 6 T w85 w209 := hw207
      have hk212 := ke210 _ _ hk201 (show (T p0).1 = 1 by rw [ht0])
      have ke213 : KF 1 T ws w209 := KF.tr ke155 ke210
      have ke214 : KF 6 T ws w209 := KF.tr ke156 ke211
      refine W.eq (g2 := F0 m 49 ls [.long u208, .int v84, .ref a178]) rfl ?_
      refine lv_lconst (v := 0) hx hb dX10_weighAll_49 (by decide) ?_
      refine lv_ldc2 (v := 99999) hx hb hown (hg _ kw_1050) dX10_weighAll_50 ?_
      have zl0 : (0 : Int64).toInt = 0 := by decide
      have zl99999 : (99999 : Int64).toInt = 99999 := by decide
      refine cg0 (rn_S (As := [.long u208, .long 0, .long 99999]) (rest := [.int v84, .ref a178]) (x_X10_held l D Y Z H.size u208 0 99999) ⟨hx, hb, hml, hown, hg⟩ lk_X10_209 ⟨CP.blind, CP.at nilP hKN (nilD (A := fun _ => True))⟩ ⟨⟨rfl, rfl⟩, ⟨Nat.le_of_ble_eq_true rfl, Nat.le_of_ble_eq_true rfl⟩, ⟨(Nat.le_of_ble_eq_true rfl), (Nat.le_of_ble_eq_true rfl)⟩⟩ hl.1 rfl (Nat.le_of_ble_eq_true rfl) dX10_weighAll_53) hP hS hA (fun u215 H locs hw216 hP hS => ?_)
      have hw218 : ((0 : Int64).toInt ≤ (99999 : Int64).toInt → ((0 : Int64).toInt ≤ u215.toInt ∧ u215.toInt ≤ (99999 : Int64).toInt)) := hw216
      refine W.eq (g2 := F0 m 56 ls [.long u215, .int v84, .ref a178]) rfl ?_
      refine lv_l2i (v := u215.toInt32) hx hb dX10_weighAll_56 rfl ?_
      refine lv_topi (fun v219 ev219 => ?_)
      have hv219 := l_i (Eq.refl u215.toInt) ev219 (by omega) (by omega)
      refine tr_st12 hx hb hKN hP hD hS hT h199 (vp_in_iff.mpr ⟨by omega, by omega⟩) dX10_weighAll_57 (fun w220 H locs hP hD hS hT kp221 => ?_)
      have ke222 : KF 1 T ws w220 := KF.tr ke213 (KF.kp kp221 h199 (by decide))
      have ke223 : KF 6 T ws w220 := KF.tr ke214 (KF.kp kp221 h199 (by decide))
      have hk224 := kp221 _ _ hk212 (rne ht0 h199 (by decide))
      obtain ⟨v225, ev225⟩ : ∃ y : Int32, y = v84 + 1 := ⟨_, rfl⟩
      have hv225 := i_add (Eq.refl v84.toInt) (show (1 : Int32).toInt = 1 by decide) ev225 (by omega) (by omega)
      refine lv_iinc (v := v225) (lv' := [(5, .int v225), (4, .ref b49), (0, .ref p0), (1, .int p1), (2, .int p2), (3, .int p3)]) hx hb dX10_weighAll_58 hl (k := 0) rfl (by rw [ev225]; rfl) (by decide) rfl (fun ls hl => ?_)
      refine lv_goto (tgt := 22) hx hb dX10_weighAll_61 (by decide) ?_
      exact ih157 (v225, w220) H locs ls (by show (5 - v225.toInt).toNat < (5 - v84.toInt).toNat; omega) ⟨hP, hD, hS, lv_sub hl [0, 1, 2, 3, 4, 5] rfl, hT, ke222, ke223, by omega⟩
