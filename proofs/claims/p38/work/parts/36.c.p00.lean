set_option maxHeartbeats 4000000 in
set_option maxRecDepth 100000 in
theorem x_X10_isStar (l : Launch) (D : va_G) (Y : Nat → ClassId) (Z : Nat → Nat) (sz : Nat) (ws : va_W) (T : RT) (g : GN) (q : GQ)  (p0 : Nat) (p1 : Int32) (hT : TW Y Z T g q ws) (ht0 : T p0 = (1, 0, 0)) : Met l yX10_isStar (.code yX10_isStar cX10_isStar 2 (some .boolean) :: GW) ({ frames := 1, cells := 0, slots := 0, locals := 21 }) (va_Pc [.ref p0, .int p1] (CPC D Y Z ws sz)) (QG (S := Int32) (fun u => some (.int u)) (fun u => (0 ≤ u.toInt ∧ u.toInt ≤ 1) ∧ (u.toInt = 1 → (0 ≤ p1.toInt ∧ p1.toInt ≤ 11))) (fun u => CB D ws (va_A ws sz)) (va_A ws sz)) 0 0 (va_A ws sz) := by
  refine Met.ofW (cc := cX10_isStar) (maxL := 2) (ret := (some .boolean)) (by decide) rfl ?_
  intro p e s m args below meth c s₁ B hml hv
  obtain ⟨rfl, ⟨hsz, hP, hKN, hD0⟩, hSZ⟩ := hv
  have hx := B.exec
  have hb := B.bytes
  have hr := B.returns
  have hts := atoms_spec (ws := .code yX10_isStar cX10_isStar 2 (some .boolean) :: GW) B.pre
  have hg : ∀ w ∈ GW, w.before _ s = true := fun w h => hts w (List.mem_cons_of_mem _ h)
  have hown : s.vm.findClass RX10 = some m.cls := findClass_of_methodNamed B.named
  have hlocks := B.notSynchronized
  subst hsz
  have hD := hD0.self (sz := s.heap.size)
  generalize hAe : va_A ws s.heap.size = A at hD hSZ ⊢
  have hA : ∀ q : Nat, s.heap.size ≤ q → A q := fun q h => by rw [← hAe]; exact Or.inr h
  clear hAe hD0 hts B
  have hl := lv_entry ([.ref p0, .int p1]) (n := 2) (Nat.le_of_ble_eq_true rfl)
  rw [lg_entry_eq]
  generalize (lg_sl ([.ref p0, .int p1]) ++ List.replicate (2 - (lg_sl ([.ref p0, .int p1])).length) Slot.unset).toArray = ls at hl ⊢
  have hl : lv_has ls 2 [(0, .ref p0), (1, .int p1)] := hl
  refine w_start (A0 := A) hP (fun H locs hP hS => ?_)
  refine lv_aload_n hx hb dX10_isStar_0 rfl (lv_at hl 0 rfl) ?_
  refine ok1 hT ht0 (fun p42 a1 a2 a3 a4 a5 x6 x7 x8 a9 a10 a11 a12 a13 a14 a15 a16 a17 x18 a19 a20 hk43 h21 h22 h23 h24 h25 h26 h27 h28 h29 h30 h31 h32 h33 h34 h35 h36 h37 h38 h39 h40 h41 => ?_)
  refine va_get (D := D) (ci := 10) (v := .ref a1) (C := RX10) (T := TX10) (N := 20) hx hb hg inGX10 hown hKN.1 hP p42 hk43 rfl 0 (by decide) (hg _ kw_349) (fun _ h9 => h9) rfl dX10_isStar_1 ?_
  refine lv_iload_n hx hb dX10_isStar_4 rfl (lv_at hl 1 rfl) ?_
  refine ok2 hT h21 (fun p78 x44 a45 x46 a47 x48 a49 a50 x51 a52 a53 x54 a55 x56 hk79 h57 h58 h59 h60 h61 h62 h63 h64 h65 h66 h67 h68 h69 h70 h71 h72 h73 h74 h75 h76 h77 => ?_)
  refine cga (rn_NV (As := [.int p1]) (rest := []) (b := a1) (x_X6_starAt l D Y Z H.size ws T g q 0 a1 p1 hT h21) ⟨hx, hb, hml, hown, hg⟩ hKN lk_X10_108 ⟨CPC.blind, va_recv hKN.1 hP (ci := 6) (q0 := p78) rfl hk79, CPC.at hP hKN hD hSZ hS hA⟩ ⟨⟨rfl, rfl⟩, ⟨Nat.le_of_ble_eq_true rfl, Nat.le_of_ble_eq_true rfl⟩, ⟨(Nat.le_of_ble_eq_true rfl), (Nat.le_of_ble_eq_true rfl)⟩⟩ hl.1 rfl (Nat.le_of_ble_eq_true rfl) dX10_isStar_5) hP hD hS hA (fun u80 H locs hw81 hP hD hS => ?_)
  obtain ⟨ht83, hw84⟩ : (∀ b, u80 = some b → T b = (3, 0, p1.toNatClampNeg)) ∧ (∀ b, u80 = some b → 0 ≤ p1.toInt ∧ p1.toInt ≤ 11) := hw81
  refine W.eq (g2 := F0 m 8 ls [va_rf u80]) rfl ?_
  rcases u80 with _ | b85
  · skip
    refine W.eq (g2 := F0 m 8 ls [.null]) rfl ?_
    refine lv_ifnullN (tgt := 15) hx hb dX10_isStar_8 (by decide) ?_
    refine lv_iconst (v := 0) hx hb dX10_isStar_15 (by decide) ?_
    refine W.widen (k := 0) (n := 0) (Nat.le_of_ble_eq_true rfl) (Nat.le_of_ble_eq_true rfl) ?_
    have zi0 : (0 : Int32).toInt = 0 := by decide
    exact W.zret (v := 0) hx hb hr (by decide) (fun t ht hW => ⟨⟨(0), rfl, ⟨(show (0 ≤ (0 : Int32).toInt ∧ (0 : Int32).toInt ≤ 1) by omega), (show ((0 : Int32).toInt = 1 → (0 ≤ p1.toInt ∧ p1.toInt ≤ 11)) by omega)⟩, CB.mk ht hP hD⟩, hS.F ht⟩) hS.2.2 dX10_isStar_16
  · skip
    have ht86 := ht83 b85 rfl
    have h87 := hw84 b85 rfl
    refine W.eq (g2 := F0 m 8 ls [.ref b85]) rfl ?_
    refine lv_ifnull hx hb dX10_isStar_8 ?_
    refine lv_iconst (v := 1) hx hb dX10_isStar_11 (by decide) ?_
    refine lv_goto (tgt := 16) hx hb dX10_isStar_12 (by decide) ?_
    refine W.widen (k := 0) (n := 0) (Nat.le_of_ble_eq_true rfl) (Nat.le_of_ble_eq_true rfl) ?_
    have zi1 : (1 : Int32).toInt = 1 := by decide
    exact W.zret (v := 1) hx hb hr (by decide) (fun t ht hW => ⟨⟨(1), rfl, ⟨(show (0 ≤ (1 : Int32).toInt ∧ (1 : Int32).toInt ≤ 1) by omega), (show ((1 : Int32).toInt = 1 → (0 ≤ p1.toInt ∧ p1.toInt ≤ 11)) by omega)⟩, CB.mk ht hP hD⟩, hS.F ht⟩) hS.2.2 dX10_isStar_16
set_option maxHeartbeats 4000000 in
set_option maxRecDepth 100000 in
theorem x_X10_lawAt (l : Launch) (D : va_G) (Y : Nat → ClassId) (Z : Nat → Nat) (sz : Nat) (ws : va_W) (T : RT) (g : GN) (q : GQ)  (p0 : Nat) (p1 : Int32) (hT : TW Y Z T g q ws) (ht0 : T p0 = (1, 0, 0)) : Met l yX10_lawAt (.code yX10_lawAt cX10_lawAt 2 (some (.object "DimStars$Text")) :: GW) ({ frames := 1, cells := 0, slots := 0, locals := 22 }) (va_Pc [.ref p0, .int p1] (CPC D Y Z ws sz)) (QG (S := (Option Nat)) (fun u => some (va_rf u)) (fun u => (∀ b, u = some b → T b = (5, 0, 0)) ∧ (∀ b, u = some b → 0 ≤ p1.toInt ∧ p1.toInt ≤ 5)) (fun u => CB D ws (va_A ws sz)) (va_A ws sz)) 0 0 (va_A ws sz) := by
  refine Met.ofW (cc := cX10_lawAt) (maxL := 2) (ret := (some (.object "DimStars$Text"))) (by decide) rfl ?_
  intro p e s m args below meth c s₁ B hml hv
  obtain ⟨rfl, ⟨hsz, hP, hKN, hD0⟩, hSZ⟩ := hv
  have hx := B.exec
  have hb := B.bytes
  have hr := B.returns
  have hts := atoms_spec (ws := .code yX10_lawAt cX10_lawAt 2 (some (.object "DimStars$Text")) :: GW) B.pre
  have hg : ∀ w ∈ GW, w.before _ s = true := fun w h => hts w (List.mem_cons_of_mem _ h)
  have hown : s.vm.findClass RX10 = some m.cls := findClass_of_methodNamed B.named
  have hlocks := B.notSynchronized
  subst hsz
  have hD := hD0.self (sz := s.heap.size)
  generalize hAe : va_A ws s.heap.size = A at hD hSZ ⊢
  have hA : ∀ q : Nat, s.heap.size ≤ q → A q := fun q h => by rw [← hAe]; exact Or.inr h
  clear hAe hD0 hts B
  have hl := lv_entry ([.ref p0, .int p1]) (n := 2) (Nat.le_of_ble_eq_true rfl)
  rw [lg_entry_eq]
  generalize (lg_sl ([.ref p0, .int p1]) ++ List.replicate (2 - (lg_sl ([.ref p0, .int p1])).length) Slot.unset).toArray = ls at hl ⊢
  have hl : lv_has ls 2 [(0, .ref p0), (1, .int p1)] := hl
  refine w_start (A0 := A) hP (fun H locs hP hS => ?_)
  refine lv_iload_n hx hb dX10_lawAt_0 rfl (lv_at hl 1 rfl) ?_
  refine lv_iconst (v := 0) hx hb dX10_lawAt_1 (by decide) ?_
  refine lv_aload_n hx hb dX10_lawAt_2 rfl (lv_at hl 0 rfl) ?_
  refine ok1 hT ht0 (fun p42 a1 a2 a3 a4 a5 x6 x7 x8 a9 a10 a11 a12 a13 a14 a15 a16 a17 x18 a19 a20 hk43 h21 h22 h23 h24 h25 h26 h27 h28 h29 h30 h31 h32 h33 h34 h35 h36 h37 h38 h39 h40 h41 => ?_)
  refine va_get (D := D) (ci := 10) (v := .int x6) (C := RX10) (T := TX10) (N := 20) hx hb hg inGX10 hown hKN.1 hP p42 hk43 rfl 5 (by decide) (hg _ kw_354) (fun _ h9 => h9) rfl dX10_lawAt_3 ?_
  refine lv_iconst (v := 1) hx hb dX10_lawAt_6 (by decide) ?_
  refine lv_isub hx hb dX10_lawAt_7 ?_
  refine lv_topi (fun v44 ev44 => ?_)
  have hv44 := i_sub (Eq.refl x6.toInt) (show (1 : Int32).toInt = 1 by decide) ev44 (by omega) (by omega)
  have zi0 : (0 : Int32).toInt = 0 := by decide
  refine cg0 (rn_S (As := [.int p1, .int 0, .int v44]) (rest := []) (x_X10_isWithin l D Y Z H.size p1 0 v44) ⟨hx, hb, hml, hown, hg⟩ lk_X10_100 ⟨CP.blind, CP.at nilP hKN (nilD (A := fun _ => True))⟩ ⟨⟨rfl, rfl⟩, ⟨Nat.le_of_ble_eq_true rfl, Nat.le_of_ble_eq_true rfl⟩, ⟨(Nat.le_of_ble_eq_true rfl), (Nat.le_of_ble_eq_true rfl)⟩⟩ hl.1 rfl (Nat.le_of_ble_eq_true rfl) dX10_lawAt_8) hP hS hA (fun u45 H locs hw46 hP hS => ?_)
  obtain ⟨hw48, hw49⟩ : (((0 : Int32).toInt ≤ p1.toInt ∧ p1.toInt ≤ v44.toInt ∧ u45.toInt = 1) ∨ (¬ ((0 : Int32).toInt ≤ p1.toInt ∧ p1.toInt ≤ v44.toInt) ∧ u45.toInt = 0)) ∧ (0 ≤ u45.toInt ∧ u45.toInt ≤ 1) := hw46
  refine W.eq (g2 := F0 m 11 ls [.int u45]) rfl ?_
  rcases (show u45.toInt = 1 ∨ u45.toInt = 0 by omega) with c50 | c50
  · obtain rfl : u45 = 1 := i_is c50 (by decide)
    have zi1 : (1 : Int32).toInt = 1 := by decide
    refine W.eq (g2 := F0 m 11 ls [.int 1]) rfl ?_
    refine lv_if_eq (tgt := 29) hx hb dX10_lawAt_11 (by decide) (fun c51 => ?_) (fun c51 => ?_)
    · exact absurd c51 (by decide)
    refine lv_iload_n hx hb dX10_lawAt_14 rfl (lv_at hl 1 rfl) ?_
    refine lv_bipush (v := 6) hx hb dX10_lawAt_15 (by decide) ?_
    refine lv_icmp_ge (tgt := 29) hx hb dX10_lawAt_17 (by decide) (fun c52 => ?_) (fun c52 => ?_)
    · have c52 := i_le (show (6 : Int32).toInt = 6 by decide) (Eq.refl p1.toInt) c52; exfalso; omega
    have c52 := i_nle (show (6 : Int32).toInt = 6 by decide) (Eq.refl p1.toInt) c52
    refine lv_aload_n hx hb dX10_lawAt_20 rfl (lv_at hl 0 rfl) ?_
    refine va_get (D := D) (ci := 10) (v := .ref a3) (C := RX10) (T := TX10) (N := 20) hx hb hg inGX10 hown hKN.1 hP p42 hk43 rfl 2 (by decide) (hg _ kw_351) (fun _ h9 => h9) rfl dX10_lawAt_21 ?_
    refine lv_iload_n hx hb dX10_lawAt_24 rfl (lv_at hl 1 rfl) ?_
    refine tr_ld20 hx hb hKN hP hT h25 (vp_in_iff.mpr ⟨by omega, by omega⟩) dX10_lawAt_25 (fun r53 hr53 => ?_)
    refine W.eq (g2 := F0 m 26 ls [va_rf r53]) rfl ?_
    refine lv_goto (tgt := 30) hx hb dX10_lawAt_26 (by decide) ?_
    refine W.widen (k := 0) (n := 0) (Nat.le_of_ble_eq_true rfl) (Nat.le_of_ble_eq_true rfl) ?_
    exact W.aret (v := va_rf r53) hx hb hr (Or.inl ⟨_, rfl⟩) (rf_or _) (fun t ht hW => ⟨⟨r53, rfl, ⟨(fun b hb => (hr53 b hb)), (show ∀ b, r53 = some b → 0 ≤ p1.toInt ∧ p1.toInt ≤ 5 from (fun b h => ⟨by omega, by omega⟩))⟩, CB.mk ht hP hD⟩, hS.F ht⟩) hS.2.2 dX10_lawAt_30
  · obtain rfl : u45 = 0 := i_is c50 (by decide)
    refine W.eq (g2 := F0 m 11 ls [.int 0]) rfl ?_
    refine lv_if_eq (tgt := 29) hx hb dX10_lawAt_11 (by decide) (fun c54 => ?_) (fun c54 => ?_)
    rotate_left
    · exact absurd c54 (by decide)
    refine lv_null hx hb dX10_lawAt_29 ?_
    refine W.widen (k := 0) (n := 0) (Nat.le_of_ble_eq_true rfl) (Nat.le_of_ble_eq_true rfl) ?_
    exact W.aret (v := .null) hx hb hr (Or.inl ⟨_, rfl⟩) (Or.inl rfl) (fun t ht hW => ⟨⟨none, rfl, ⟨(fun b h => by cases h), (show ∀ b, none = some b → 0 ≤ p1.toInt ∧ p1.toInt ≤ 5 from (fun b h => by cases h))⟩, CB.mk ht hP hD⟩, hS.F ht⟩) hS.2.2 dX10_lawAt_30
set_option maxHeartbeats 4000000 in
set_option maxRecDepth 100000 in
theorem x_X10_searchAt (l : Launch) (D : va_G) (Y : Nat → ClassId) (Z : Nat → Nat) (sz : Nat) (ws : va_W) (T : RT) (g : GN) (q : GQ)  (p0 : Nat) (p1 : Int32) (hT : TW Y Z T g q ws) (ht0 : T p0 = (1, 0, 0)) : Met l yX10_searchAt (.code yX10_searchAt cX10_searchAt 2 (some (.object "DimStars$Text")) :: GW) ({ frames := 1, cells := 0, slots := 0, locals := 22 }) (va_Pc [.ref p0, .int p1] (CPC D Y Z ws sz)) (QG (S := (Option Nat)) (fun u => some (va_rf u)) (fun u => (∀ b, u = some b → T b = (5, 0, 0)) ∧ (∀ b, u = some b → 0 ≤ p1.toInt ∧ p1.toInt ≤ 5)) (fun u => CB D ws (va_A ws sz)) (va_A ws sz)) 0 0 (va_A ws sz) := by
  refine Met.ofW (cc := cX10_searchAt) (maxL := 2) (ret := (some (.object "DimStars$Text"))) (by decide) rfl ?_
  intro p e s m args below meth c s₁ B hml hv
  obtain ⟨rfl, ⟨hsz, hP, hKN, hD0⟩, hSZ⟩ := hv
  have hx := B.exec
  have hb := B.bytes
  have hr := B.returns
  have hts := atoms_spec (ws := .code yX10_searchAt cX10_searchAt 2 (some (.object "DimStars$Text")) :: GW) B.pre
  have hg : ∀ w ∈ GW, w.before _ s = true := fun w h => hts w (List.mem_cons_of_mem _ h)
  have hown : s.vm.findClass RX10 = some m.cls := findClass_of_methodNamed B.named
  have hlocks := B.notSynchronized
  subst hsz
  have hD := hD0.self (sz := s.heap.size)
  generalize hAe : va_A ws s.heap.size = A at hD hSZ ⊢
  have hA : ∀ q : Nat, s.heap.size ≤ q → A q := fun q h => by rw [← hAe]; exact Or.inr h
  clear hAe hD0 hts B
  have hl := lv_entry ([.ref p0, .int p1]) (n := 2) (Nat.le_of_ble_eq_true rfl)
  rw [lg_entry_eq]
  generalize (lg_sl ([.ref p0, .int p1]) ++ List.replicate (2 - (lg_sl ([.ref p0, .int p1])).length) Slot.unset).toArray = ls at hl ⊢
  have hl : lv_has ls 2 [(0, .ref p0), (1, .int p1)] := hl
  refine w_start (A0 := A) hP (fun H locs hP hS => ?_)
  refine lv_iload_n hx hb dX10_searchAt_0 rfl (lv_at hl 1 rfl) ?_
  refine lv_iconst (v := 0) hx hb dX10_searchAt_1 (by decide) ?_
  refine lv_aload_n hx hb dX10_searchAt_2 rfl (lv_at hl 0 rfl) ?_
  refine ok1 hT ht0 (fun p42 a1 a2 a3 a4 a5 x6 x7 x8 a9 a10 a11 a12 a13 a14 a15 a16 a17 x18 a19 a20 hk43 h21 h22 h23 h24 h25 h26 h27 h28 h29 h30 h31 h32 h33 h34 h35 h36 h37 h38 h39 h40 h41 => ?_)
  refine va_get (D := D) (ci := 10) (v := .int x7) (C := RX10) (T := TX10) (N := 20) hx hb hg inGX10 hown hKN.1 hP p42 hk43 rfl 6 (by decide) (hg _ kw_355) (fun _ h9 => h9) rfl dX10_searchAt_3 ?_
  refine lv_iconst (v := 1) hx hb dX10_searchAt_6 (by decide) ?_
  refine lv_isub hx hb dX10_searchAt_7 ?_
  refine lv_topi (fun v44 ev44 => ?_)
  have hv44 := i_sub (Eq.refl x7.toInt) (show (1 : Int32).toInt = 1 by decide) ev44 (by omega) (by omega)
  have zi0 : (0 : Int32).toInt = 0 := by decide
  refine cg0 (rn_S (As := [.int p1, .int 0, .int v44]) (rest := []) (x_X10_isWithin l D Y Z H.size p1 0 v44) ⟨hx, hb, hml, hown, hg⟩ lk_X10_100 ⟨CP.blind, CP.at nilP hKN (nilD (A := fun _ => True))⟩ ⟨⟨rfl, rfl⟩, ⟨Nat.le_of_ble_eq_true rfl, Nat.le_of_ble_eq_true rfl⟩, ⟨(Nat.le_of_ble_eq_true rfl), (Nat.le_of_ble_eq_true rfl)⟩⟩ hl.1 rfl (Nat.le_of_ble_eq_true rfl) dX10_searchAt_8) hP hS hA (fun u45 H locs hw46 hP hS => ?_)
  obtain ⟨hw48, hw49⟩ : (((0 : Int32).toInt ≤ p1.toInt ∧ p1.toInt ≤ v44.toInt ∧ u45.toInt = 1) ∨ (¬ ((0 : Int32).toInt ≤ p1.toInt ∧ p1.toInt ≤ v44.toInt) ∧ u45.toInt = 0)) ∧ (0 ≤ u45.toInt ∧ u45.toInt ≤ 1) := hw46
  refine W.eq (g2 := F0 m 11 ls [.int u45]) rfl ?_
  rcases (show u45.toInt = 1 ∨ u45.toInt = 0 by omega) with c50 | c50
  · obtain rfl : u45 = 1 := i_is c50 (by decide)
    have zi1 : (1 : Int32).toInt = 1 := by decide
    refine W.eq (g2 := F0 m 11 ls [.int 1]) rfl ?_
    refine lv_if_eq (tgt := 29) hx hb dX10_searchAt_11 (by decide) (fun c51 => ?_) (fun c51 => ?_)
    · exact absurd c51 (by decide)
    refine lv_iload_n hx hb dX10_searchAt_14 rfl (lv_at hl 1 rfl) ?_
    refine lv_bipush (v := 6) hx hb dX10_searchAt_15 (by decide) ?_
    refine lv_icmp_ge (tgt := 29) hx hb dX10_searchAt_17 (by decide) (fun c52 => ?_) (fun c52 => ?_)
    · have c52 := i_le (show (6 : Int32).toInt = 6 by decide) (Eq.refl p1.toInt) c52; exfalso; omega
    have c52 := i_nle (show (6 : Int32).toInt = 6 by decide) (Eq.refl p1.toInt) c52
    refine lv_aload_n hx hb dX10_searchAt_20 rfl (lv_at hl 0 rfl) ?_
    refine va_get (D := D) (ci := 10) (v := .ref a4) (C := RX10) (T := TX10) (N := 20) hx hb hg inGX10 hown hKN.1 hP p42 hk43 rfl 3 (by decide) (hg _ kw_352) (fun _ h9 => h9) rfl dX10_searchAt_21 ?_
    refine lv_iload_n hx hb dX10_searchAt_24 rfl (lv_at hl 1 rfl) ?_
    refine tr_ld20 hx hb hKN hP hT h26 (vp_in_iff.mpr ⟨by omega, by omega⟩) dX10_searchAt_25 (fun r53 hr53 => ?_)
    refine W.eq (g2 := F0 m 26 ls [va_rf r53]) rfl ?_
    refine lv_goto (tgt := 30) hx hb dX10_searchAt_26 (by decide) ?_
    refine W.widen (k := 0) (n := 0) (Nat.le_of_ble_eq_true rfl) (Nat.le_of_ble_eq_true rfl) ?_
    exact W.aret (v := va_rf r53) hx hb hr (Or.inl ⟨_, rfl⟩) (rf_or _) (fun t ht hW => ⟨⟨r53, rfl, ⟨(fun b hb => (hr53 b hb)), (show ∀ b, r53 = some b → 0 ≤ p1.toInt ∧ p1.toInt ≤ 5 from (fun b h => ⟨by omega, by omega⟩))⟩, CB.mk ht hP hD⟩, hS.F ht⟩) hS.2.2 dX10_searchAt_30
  · obtain rfl : u45 = 0 := i_is c50 (by decide)
    refine W.eq (g2 := F0 m 11 ls [.int 0]) rfl ?_
    refine lv_if_eq (tgt := 29) hx hb dX10_searchAt_11 (by decide) (fun c54 => ?_) (fun c54 => ?_)
    rotate_left
    · exact absurd c54 (by decide)
    refine lv_null hx hb dX10_searchAt_29 ?_
    refine W.widen (k := 0) (n := 0) (Nat.le_of_ble_eq_true rfl) (Nat.le_of_ble_eq_true rfl) ?_
    exact W.aret (v := .null) hx hb hr (Or.inl ⟨_, rfl⟩) (Or.inl rfl) (fun t ht hW => ⟨⟨none, rfl, ⟨(fun b h => by cases h), (show ∀ b, none = some b → 0 ≤ p1.toInt ∧ p1.toInt ≤ 5 from (fun b h => by cases h))⟩, CB.mk ht hP hD⟩, hS.F ht⟩) hS.2.2 dX10_searchAt_30
set_option maxHeartbeats 4000000 in
set_option maxRecDepth 100000 in
theorem x_X10_sorterAt (l : Launch) (D : va_G) (Y : Nat → ClassId) (Z : Nat → Nat) (sz : Nat) (ws : va_W) (T : RT) (g : GN) (q : GQ)  (p0 : Nat) (p1 : Int32) (hT : TW Y Z T g q ws) (ht0 : T p0 = (1, 0, 0)) : Met l yX10_sorterAt (.code yX10_sorterAt cX10_sorterAt 2 (some (.object "DimStars$Text")) :: GW) ({ frames := 1, cells := 0, slots := 0, locals := 22 }) (va_Pc [.ref p0, .int p1] (CPC D Y Z ws sz)) (QG (S := (Option Nat)) (fun u => some (va_rf u)) (fun u => (∀ b, u = some b → T b = (5, 0, 0)) ∧ (∀ b, u = some b → 0 ≤ p1.toInt ∧ p1.toInt ≤ 5)) (fun u => CB D ws (va_A ws sz)) (va_A ws sz)) 0 0 (va_A ws sz) := by
  refine Met.ofW (cc := cX10_sorterAt) (maxL := 2) (ret := (some (.object "DimStars$Text"))) (by decide) rfl ?_
  intro p e s m args below meth c s₁ B hml hv
  obtain ⟨rfl, ⟨hsz, hP, hKN, hD0⟩, hSZ⟩ := hv
  have hx := B.exec
  have hb := B.bytes
  have hr := B.returns
  have hts := atoms_spec (ws := .code yX10_sorterAt cX10_sorterAt 2 (some (.object "DimStars$Text")) :: GW) B.pre
  have hg : ∀ w ∈ GW, w.before _ s = true := fun w h => hts w (List.mem_cons_of_mem _ h)
  have hown : s.vm.findClass RX10 = some m.cls := findClass_of_methodNamed B.named
  have hlocks := B.notSynchronized
  subst hsz
  have hD := hD0.self (sz := s.heap.size)
  generalize hAe : va_A ws s.heap.size = A at hD hSZ ⊢
  have hA : ∀ q : Nat, s.heap.size ≤ q → A q := fun q h => by rw [← hAe]; exact Or.inr h
  clear hAe hD0 hts B
  have hl := lv_entry ([.ref p0, .int p1]) (n := 2) (Nat.le_of_ble_eq_true rfl)
  rw [lg_entry_eq]
  generalize (lg_sl ([.ref p0, .int p1]) ++ List.replicate (2 - (lg_sl ([.ref p0, .int p1])).length) Slot.unset).toArray = ls at hl ⊢
  have hl : lv_has ls 2 [(0, .ref p0), (1, .int p1)] := hl
  refine w_start (A0 := A) hP (fun H locs hP hS => ?_)
  refine lv_iload_n hx hb dX10_sorterAt_0 rfl (lv_at hl 1 rfl) ?_
  refine lv_iconst (v := 0) hx hb dX10_sorterAt_1 (by decide) ?_
  refine lv_aload_n hx hb dX10_sorterAt_2 rfl (lv_at hl 0 rfl) ?_
  refine ok1 hT ht0 (fun p42 a1 a2 a3 a4 a5 x6 x7 x8 a9 a10 a11 a12 a13 a14 a15 a16 a17 x18 a19 a20 hk43 h21 h22 h23 h24 h25 h26 h27 h28 h29 h30 h31 h32 h33 h34 h35 h36 h37 h38 h39 h40 h41 => ?_)
  refine va_get (D := D) (ci := 10) (v := .int x8) (C := RX10) (T := TX10) (N := 20) hx hb hg inGX10 hown hKN.1 hP p42 hk43 rfl 7 (by decide) (hg _ kw_356) (fun _ h9 => h9) rfl dX10_sorterAt_3 ?_
  refine lv_iconst (v := 1) hx hb dX10_sorterAt_6 (by decide) ?_
  refine lv_isub hx hb dX10_sorterAt_7 ?_
  refine lv_topi (fun v44 ev44 => ?_)
  have hv44 := i_sub (Eq.refl x8.toInt) (show (1 : Int32).toInt = 1 by decide) ev44 (by omega) (by omega)
  have zi0 : (0 : Int32).toInt = 0 := by decide
  refine cg0 (rn_S (As := [.int p1, .int 0, .int v44]) (rest := []) (x_X10_isWithin l D Y Z H.size p1 0 v44) ⟨hx, hb, hml, hown, hg⟩ lk_X10_100 ⟨CP.blind, CP.at nilP hKN (nilD (A := fun _ => True))⟩ ⟨⟨rfl, rfl⟩, ⟨Nat.le_of_ble_eq_true rfl, Nat.le_of_ble_eq_true rfl⟩, ⟨(Nat.le_of_ble_eq_true rfl), (Nat.le_of_ble_eq_true rfl)⟩⟩ hl.1 rfl (Nat.le_of_ble_eq_true rfl) dX10_sorterAt_8) hP hS hA (fun u45 H locs hw46 hP hS => ?_)
  obtain ⟨hw48, hw49⟩ : (((0 : Int32).toInt ≤ p1.toInt ∧ p1.toInt ≤ v44.toInt ∧ u45.toInt = 1) ∨ (¬ ((0 : Int32).toInt ≤ p1.toInt ∧ p1.toInt ≤ v44.toInt) ∧ u45.toInt = 0)) ∧ (0 ≤ u45.toInt ∧ u45.toInt ≤ 1) := hw46
  refine W.eq (g2 := F0 m 11 ls [.int u45]) rfl ?_
  rcases (show u45.toInt = 1 ∨ u45.toInt = 0 by omega) with c50 | c50
  · obtain rfl : u45 = 1 := i_is c50 (by decide)
    have zi1 : (1 : Int32).toInt = 1 := by decide
    refine W.eq (g2 := F0 m 11 ls [.int 1]) rfl ?_
    refine lv_if_eq (tgt := 29) hx hb dX10_sorterAt_11 (by decide) (fun c51 => ?_) (fun c51 => ?_)
    · exact absurd c51 (by decide)
    refine lv_iload_n hx hb dX10_sorterAt_14 rfl (lv_at hl 1 rfl) ?_
    refine lv_bipush (v := 6) hx hb dX10_sorterAt_15 (by decide) ?_
    refine lv_icmp_ge (tgt := 29) hx hb dX10_sorterAt_17 (by decide) (fun c52 => ?_) (fun c52 => ?_)
    · have c52 := i_le (show (6 : Int32).toInt = 6 by decide) (Eq.refl p1.toInt) c52; exfalso; omega
    have c52 := i_nle (show (6 : Int32).toInt = 6 by decide) (Eq.refl p1.toInt) c52
    refine lv_aload_n hx hb dX10_sorterAt_20 rfl (lv_at hl 0 rfl) ?_
    refine va_get (D := D) (ci := 10) (v := .ref a5) (C := RX10) (T := TX10) (N := 20) hx hb hg inGX10 hown hKN.1 hP p42 hk43 rfl 4 (by decide) (hg _ kw_353) (fun _ h9 => h9) rfl dX10_sorterAt_21 ?_
    refine lv_iload_n hx hb dX10_sorterAt_24 rfl (lv_at hl 1 rfl) ?_
    refine tr_ld20 hx hb hKN hP hT h27 (vp_in_iff.mpr ⟨by omega, by omega⟩) dX10_sorterAt_25 (fun r53 hr53 => ?_)
    refine W.eq (g2 := F0 m 26 ls [va_rf r53]) rfl ?_
    refine lv_goto (tgt := 30) hx hb dX10_sorterAt_26 (by decide) ?_
    refine W.widen (k := 0) (n := 0) (Nat.le_of_ble_eq_true rfl) (Nat.le_of_ble_eq_true rfl) ?_
    exact W.aret (v := va_rf r53) hx hb hr (Or.inl ⟨_, rfl⟩) (rf_or _) (fun t ht hW => ⟨⟨r53, rfl, ⟨(fun b hb => (hr53 b hb)), (show ∀ b, r53 = some b → 0 ≤ p1.toInt ∧ p1.toInt ≤ 5 from (fun b h => ⟨by omega, by omega⟩))⟩, CB.mk ht hP hD⟩, hS.F ht⟩) hS.2.2 dX10_sorterAt_30
  · obtain rfl : u45 = 0 := i_is c50 (by decide)
    refine W.eq (g2 := F0 m 11 ls [.int 0]) rfl ?_
    refine lv_if_eq (tgt := 29) hx hb dX10_sorterAt_11 (by decide) (fun c54 => ?_) (fun c54 => ?_)
    rotate_left
    · exact absurd c54 (by decide)
    refine lv_null hx hb dX10_sorterAt_29 ?_
    refine W.widen (k := 0) (n := 0) (Nat.le_of_ble_eq_true rfl) (Nat.le_of_ble_eq_true rfl) ?_
    exact W.aret (v := .null) hx hb hr (Or.inl ⟨_, rfl⟩) (Or.inl rfl) (fun t ht hW => ⟨⟨none, rfl, ⟨(fun b h => by cases h), (show ∀ b, none = some b → 0 ≤ p1.toInt ∧ p1.toInt ≤ 5 from (fun b h => by cases h))⟩, CB.mk ht hP hD⟩, hS.F ht⟩) hS.2.2 dX10_sorterAt_30
set_option maxHeartbeats 4000000 in
set_option maxRecDepth 100000 in
theorem x_X10_keptAt (l : Launch) (D : va_G) (Y : Nat → ClassId) (Z : Nat → Nat) (sz : Nat) (ws : va_W) (T : RT) (g : GN) (q : GQ) (n : Nat) (p0 : Nat) (p1 : Int32) (hT : TW Y Z T g q ws) (ht0 : T p0 = (21, n, 0)) (hp0 : (0 ≤ p1.toInt)) (hp1 : (p1.toInt < (n : Int))) : Met l yX10_keptAt (.code yX10_keptAt cX10_keptAt 3 (some (.object "DimStars$Finding")) :: GW) ({ frames := 2, cells := 1, slots := 7, locals := 40 }) (va_Pc [.ref p0, .int p1] (CPC D Y Z ws sz)) (QG (S := Nat × va_W × RT) (fun u => some (.ref u.1)) (fun u => TLe T u.2.2 ∧ TW Y Z u.2.2 g q u.2.1 ∧ KF 1 T ws u.2.1 ∧ KF 6 T ws u.2.1 ∧ u.2.2 u.1 = (6, 0, 0)) (fun u => CB D u.2.1 (va_A ws sz)) (va_A ws sz)) 1 7 (va_A ws sz) := by
  refine Met.ofW (cc := cX10_keptAt) (maxL := 3) (ret := (some (.object "DimStars$Finding"))) (by decide) rfl ?_
  intro p e s m args below meth c s₁ B hml hv
  obtain ⟨rfl, ⟨hsz, hP, hKN, hD0⟩, hSZ⟩ := hv
  have hx := B.exec
  have hb := B.bytes
  have hr := B.returns
  have hts := atoms_spec (ws := .code yX10_keptAt cX10_keptAt 3 (some (.object "DimStars$Finding")) :: GW) B.pre
  have hg : ∀ w ∈ GW, w.before _ s = true := fun w h => hts w (List.mem_cons_of_mem _ h)
  have hown : s.vm.findClass RX10 = some m.cls := findClass_of_methodNamed B.named
  have hlocks := B.notSynchronized
  subst hsz
  have hD := hD0.self (sz := s.heap.size)
  generalize hAe : va_A ws s.heap.size = A at hD hSZ ⊢
  have hA : ∀ q : Nat, s.heap.size ≤ q → A q := fun q h => by rw [← hAe]; exact Or.inr h
  clear hAe hD0 hts B
  have hl := lv_entry ([.ref p0, .int p1]) (n := 3) (Nat.le_of_ble_eq_true rfl)
  rw [lg_entry_eq]
  generalize (lg_sl ([.ref p0, .int p1]) ++ List.replicate (3 - (lg_sl ([.ref p0, .int p1])).length) Slot.unset).toArray = ls at hl ⊢
  have hl : lv_has ls 3 [(0, .ref p0), (1, .int p1)] := hl
  refine w_start (A0 := A) hP (fun H locs hP hS => ?_)
  refine lv_aload_n hx hb dX10_keptAt_0 rfl (lv_at hl 0 rfl) ?_
  refine lv_iload_n hx hb dX10_keptAt_1 rfl (lv_at hl 1 rfl) ?_
  refine tr_ld21 hx hb hKN hP hT ht0 (vp_in_iff.mpr ⟨by omega, by omega⟩) dX10_keptAt_2 (fun r1 hr1 => ?_)
  refine W.eq (g2 := F0 m 3 ls [va_rf r1]) rfl ?_
  rcases r1 with _ | b2
  · skip
    refine W.eq (g2 := F0 m 3 ls [.null]) rfl ?_
    refine lv_astore_nN (lv' := [(2, .null), (0, .ref p0), (1, .int p1)]) hx hb dX10_keptAt_3 rfl hl (by decide) rfl (fun ls hl => ?_)
    refine lv_aload_nN hx hb dX10_keptAt_4 rfl (lv_at hl 0 rfl) ?_
    refine lv_ifnonnullN hx hb dX10_keptAt_5 ?_
    refine va_new (ci := 1) (fs := [.int 0, .int 0, .int 0, .int 0, .int 0, .long 0, .long 0]) (C := RX1) (T := TX1) (N := 7) hx hb hg inGX1 tyX1 tyX1_ok hown (hg _ kw_302) (hg _ kw_303) (hg _ kw_9) hKN.1 hP hD hS hA rfl (fun j hj => by rcases (show j = 0 ∨ j = 1 ∨ j = 2 ∨ j = 3 ∨ j = 4 ∨ j = 5 ∨ j = 6 by omega) with rfl | rfl | rfl | rfl | rfl | rfl | rfl <;> rfl) (Nat.le_of_ble_eq_true rfl) (Nat.le_of_ble_eq_true rfl) dX10_keptAt_8 (fun b3 H hP hD hS => ?_)
    refine W.widen (k := 1) (n := 7) (Nat.le_of_ble_eq_true rfl) (Nat.le_of_ble_eq_true rfl) ?_
    refine lv_dup hx hb dX10_keptAt_11 rfl ?_
    have hP4 : va_P D vwCl [(b3, .inr (1, [.int 0, .int 0, .int 0, .int 0, .int 0, .long 0, .long 0]))] H := va_P.last hP
    have hD5 : va_D A [(b3, .inr (1, [.int 0, .int 0, .int 0, .int 0, .int 0, .long 0, .long 0]))] := va_D.last hD
    refine cgn (rn_NI (As := []) (rest := [.ref b3]) (b := b3) (c_X1 l D Y Z H.size b3  ) ⟨hx, hb, hml, hown, hg⟩ hKN lk_X10_69 ⟨CP.blind, CP.at hP4 hKN hD5⟩ ⟨⟨rfl, rfl⟩, ⟨Nat.le_of_ble_eq_true rfl, Nat.le_of_ble_eq_true rfl⟩, ⟨(Nat.le_of_ble_eq_true rfl), (Nat.le_of_ble_eq_true rfl)⟩⟩ hl.1 rfl (Nat.le_of_ble_eq_true rfl) dX10_keptAt_12) hP hD hS hA (fun u6 H locs hw7 hP hD hS => ?_)
    refine W.eq (g2 := F0 m 15 ls [.ref b3]) rfl ?_
    obtain ⟨w9, T8, hP, hD, hT, le10, ht11, ex12⟩ := nw_X1  hT hP hD
    have ke13 : KF 1 T ws w9 := KF.tr KF.rf (KF.ex ex12.1)
    have ke14 : KF 6 T ws w9 := KF.tr KF.rf (KF.ex ex12.1)
    refine lv_astore_n (lv' := [(2, .ref b3), (0, .ref p0), (1, .int p1)]) hx hb dX10_keptAt_15 rfl hl (by decide) rfl (fun ls hl => ?_)
    refine lv_aload_n hx hb dX10_keptAt_16 rfl (lv_at hl 1 rfl) ?_
    refine lv_iload_n hx hb dX10_keptAt_17 rfl (lv_at hl 2 rfl) ?_
    refine lv_aload_n hx hb dX10_keptAt_18 rfl (lv_at hl 0 rfl) ?_
    refine tr_st21 hx hb hKN hP hD hS hT (le10.up ht0) ht11 (vp_in_iff.mpr ⟨by omega, by omega⟩) dX10_keptAt_19 (fun w15 H locs hP hD hS hT kp16 => ?_)
    have ke17 : KF 1 T ws w15 := KF.tr ke13 (KF.le (by decide) le10 (KF.kp kp16 (le10.up ht0) (by decide)))
    have ke18 : KF 6 T ws w15 := KF.tr ke14 (KF.le (by decide) le10 (KF.kp kp16 (le10.up ht0) (by decide)))
    refine lv_aload_n hx hb dX10_keptAt_20 rfl (lv_at hl 0 rfl) ?_
    refine W.widen (k := 1) (n := 7) (Nat.le_of_ble_eq_true rfl) (Nat.le_of_ble_eq_true rfl) ?_
    exact W.aret (v := .ref b3) hx hb hr (Or.inl ⟨_, rfl⟩) (Or.inr ⟨_, rfl⟩) (fun t ht hW => ⟨⟨(b3, w15, T8), rfl, ⟨le10, hT, ke17, ke18, ht11⟩, CB.mk ht hP hD⟩, hS.F ht⟩) hS.2.2 dX10_keptAt_21
  · skip
    have ht19 := hr1 b2 rfl
    refine W.eq (g2 := F0 m 3 ls [.ref b2]) rfl ?_
    refine lv_astore_n (lv' := [(2, .ref b2), (0, .ref p0), (1, .int p1)]) hx hb dX10_keptAt_3 rfl hl (by decide) rfl (fun ls hl => ?_)
    refine lv_aload_n hx hb dX10_keptAt_4 rfl (lv_at hl 0 rfl) ?_
    refine lv_ifnonnull (tgt := 20) hx hb dX10_keptAt_5 (by decide) ?_
    refine lv_aload_n hx hb dX10_keptAt_20 rfl (lv_at hl 0 rfl) ?_
    refine W.widen (k := 1) (n := 7) (Nat.le_of_ble_eq_true rfl) (Nat.le_of_ble_eq_true rfl) ?_
    exact W.aret (v := .ref b2) hx hb hr (Or.inl ⟨_, rfl⟩) (Or.inr ⟨_, rfl⟩) (fun t ht hW => ⟨⟨(b2, ws, T), rfl, ⟨TLe.rf, hT, KF.rf, KF.rf, ht19⟩, CB.mk ht hP hD⟩, hS.F ht⟩) hS.2.2 dX10_keptAt_21
set_option maxHeartbeats 4000000 in
set_option maxRecDepth 100000 in
theorem x_X10_findingOf (l : Launch) (D : va_G) (Y : Nat → ClassId) (Z : Nat → Nat) (sz : Nat) (ws : va_W) (T : RT) (g : GN) (q : GQ)  (p0 : Nat) (p1 : Int32) (p2 : Int32) (p3 : Int32) (hT : TW Y Z T g q ws) (ht0 : T p0 = (1, 0, 0)) : Met l yX10_findingOf (.code yX10_findingOf cX10_findingOf 7 (some (.object "DimStars$Finding")) :: GW) ({ frames := 4, cells := 1, slots := 7, locals := 107 }) (va_Pc [.ref p0, .int p1, .int p2, .int p3] (CPC D Y Z ws sz)) (QG (S := Nat × va_W × RT) (fun u => some (.ref u.1)) (fun u => TLe T u.2.2 ∧ TW Y Z u.2.2 g q u.2.1 ∧ KF 1 T ws u.2.1 ∧ u.2.2 u.1 = (6, 0, 0)) (fun u => CB D u.2.1 (va_A ws sz)) (va_A ws sz)) 1 7 (va_A ws sz) := by
  refine Met.ofW (cc := cX10_findingOf) (maxL := 7) (ret := (some (.object "DimStars$Finding"))) (by decide) rfl ?_
  intro p e s m args below meth c s₁ B hml hv
  obtain ⟨rfl, ⟨hsz, hP, hKN, hD0⟩, hSZ⟩ := hv
  have hx := B.exec
  have hb := B.bytes
  have hr := B.returns
  have hts := atoms_spec (ws := .code yX10_findingOf cX10_findingOf 7 (some (.object "DimStars$Finding")) :: GW) B.pre
  have hg : ∀ w ∈ GW, w.before _ s = true := fun w h => hts w (List.mem_cons_of_mem _ h)
  have hown : s.vm.findClass RX10 = some m.cls := findClass_of_methodNamed B.named
  have hlocks := B.notSynchronized
  subst hsz
  have hD := hD0.self (sz := s.heap.size)
  generalize hAe : va_A ws s.heap.size = A at hD hSZ ⊢
  have hA : ∀ q : Nat, s.heap.size ≤ q → A q := fun q h => by rw [← hAe]; exact Or.inr h
  clear hAe hD0 hts B
  have hl := lv_entry ([.ref p0, .int p1, .int p2, .int p3]) (n := 7) (Nat.le_of_ble_eq_true rfl)
  rw [lg_entry_eq]
  generalize (lg_sl ([.ref p0, .int p1, .int p2, .int p3]) ++ List.replicate (7 - (lg_sl ([.ref p0, .int p1, .int p2, .int p3])).length) Slot.unset).toArray = ls at hl ⊢
  have hl : lv_has ls 7 [(0, .ref p0), (1, .int p1), (2, .int p2), (3, .int p3)] := hl
  refine w_start (A0 := A) hP (fun H locs hP hS => ?_)
  refine lv_aload_n hx hb dX10_findingOf_0 rfl (lv_at hl 0 rfl) ?_
  refine lv_iload_n hx hb dX10_findingOf_1 rfl (lv_at hl 1 rfl) ?_
  refine ok1 hT ht0 (fun p42 a1 a2 a3 a4 a5 x6 x7 x8 a9 a10 a11 a12 a13 a14 a15 a16 a17 x18 a19 a20 hk43 h21 h22 h23 h24 h25 h26 h27 h28 h29 h30 h31 h32 h33 h34 h35 h36 h37 h38 h39 h40 h41 => ?_)
  refine cga (rn_V (As := [.int p1]) (rest := []) (b := p0) (x_X10_searchAt l D Y Z H.size ws T g q p0 p1 hT ht0) ⟨hx, hb, hml, hown, hg⟩ lk_X10_259 ⟨CPC.blind, va_recv hKN.1 hP (ci := 10) (q0 := p42) rfl hk43, CPC.at hP hKN hD hSZ hS hA⟩ ⟨⟨rfl, rfl⟩, ⟨Nat.le_of_ble_eq_true rfl, Nat.le_of_ble_eq_true rfl⟩, ⟨(Nat.le_of_ble_eq_true rfl), (Nat.le_of_ble_eq_true rfl)⟩⟩ hl.1 rfl (Nat.le_of_ble_eq_true rfl) dX10_findingOf_2) hP hD hS hA (fun u44 H locs hw45 hP hD hS => ?_)
  obtain ⟨ht47, hw48⟩ : (∀ b, u44 = some b → T b = (5, 0, 0)) ∧ (∀ b, u44 = some b → 0 ≤ p1.toInt ∧ p1.toInt ≤ 5) := hw45
  refine W.eq (g2 := F0 m 5 ls [va_rf u44]) rfl ?_
  rcases u44 with _ | b49
  · skip
    refine W.eq (g2 := F0 m 5 ls [.null]) rfl ?_
    refine lv_astoreN (lv' := [(4, .null), (0, .ref p0), (1, .int p1), (2, .int p2), (3, .int p3)]) hx hb dX10_findingOf_5 hl (by decide) rfl (fun ls hl => ?_)
    refine lv_iload_n hx hb dX10_findingOf_7 rfl (lv_at hl 2 rfl) ?_
    refine lv_iload_n hx hb dX10_findingOf_8 rfl (lv_at hl 3 rfl) ?_
    refine lv_iload_n hx hb dX10_findingOf_9 rfl (lv_at hl 4 rfl) ?_
    refine cg0 (rn_S (As := [.int p1, .int p2, .int p3]) (rest := []) (x_X10_placeOf l D Y Z H.size p1 p2 p3) ⟨hx, hb, hml, hown, hg⟩ lk_X10_442 ⟨CP.blind, CP.at nilP hKN (nilD (A := fun _ => True))⟩ ⟨⟨rfl, rfl⟩, ⟨Nat.le_of_ble_eq_true rfl, Nat.le_of_ble_eq_true rfl⟩, ⟨(Nat.le_of_ble_eq_true rfl), (Nat.le_of_ble_eq_true rfl)⟩⟩ hl.1 rfl (Nat.le_of_ble_eq_true rfl) dX10_findingOf_10) hP hS hA (fun u50 H locs hw51 hP hS => ?_)
    have hw53 : (-1 ≤ u50.toInt ∧ u50.toInt ≤ 431) := hw51
    refine W.eq (g2 := F0 m 13 ls [.int u50]) rfl ?_
    refine lv_istore (lv' := [(5, .int u50), (4, .null), (0, .ref p0), (1, .int p1), (2, .int p2), (3, .int p3)]) hx hb dX10_findingOf_13 hl (by decide) rfl (fun ls hl => ?_)
    refine lv_aloadN hx hb dX10_findingOf_15 (lv_at hl 1 rfl) ?_
    refine lv_ifnullN (tgt := 26) hx hb dX10_findingOf_17 (by decide) ?_
    refine lv_aload_n hx hb dX10_findingOf_26 rfl (lv_at hl 2 rfl) ?_
    refine va_get (D := D) (ci := 10) (v := .ref a14) (C := RX10) (T := TX10) (N := 20) hx hb hg inGX10 hown hKN.1 hP p42 hk43 rfl 13 (by decide) (hg _ kw_362) (fun _ h9 => h9) rfl dX10_findingOf_27 ?_
    refine W.widen (k := 1) (n := 7) (Nat.le_of_ble_eq_true rfl) (Nat.le_of_ble_eq_true rfl) ?_
    exact W.aret (v := .ref a14) hx hb hr (Or.inl ⟨_, rfl⟩) (Or.inr ⟨_, rfl⟩) (fun t ht hW => ⟨⟨(a14, ws, T), rfl, ⟨TLe.rf, hT, KF.rf, h36⟩, CB.mk ht hP hD⟩, hS.F ht⟩) hS.2.2 dX10_findingOf_30
  · skip
    have ht54 := ht47 b49 rfl
    have h55 := hw48 b49 rfl
    refine W.eq (g2 := F0 m 5 ls [.ref b49]) rfl ?_
    refine lv_astore (lv' := [(4, .ref b49), (0, .ref p0), (1, .int p1), (2, .int p2), (3, .int p3)]) hx hb dX10_findingOf_5 hl (by decide) rfl (fun ls hl => ?_)
    refine lv_iload_n hx hb dX10_findingOf_7 rfl (lv_at hl 2 rfl) ?_
    refine lv_iload_n hx hb dX10_findingOf_8 rfl (lv_at hl 3 rfl) ?_
    refine lv_iload_n hx hb dX10_findingOf_9 rfl (lv_at hl 4 rfl) ?_
    refine cg0 (rn_S (As := [.int p1, .int p2, .int p3]) (rest := []) (x_X10_placeOf l D Y Z H.size p1 p2 p3) ⟨hx, hb, hml, hown, hg⟩ lk_X10_442 ⟨CP.blind, CP.at nilP hKN (nilD (A := fun _ => True))⟩ ⟨⟨rfl, rfl⟩, ⟨Nat.le_of_ble_eq_true rfl, Nat.le_of_ble_eq_true rfl⟩, ⟨(Nat.le_of_ble_eq_true rfl), (Nat.le_of_ble_eq_true rfl)⟩⟩ hl.1 rfl (Nat.le_of_ble_eq_true rfl) dX10_findingOf_10) hP hS hA (fun u56 H locs hw57 hP hS => ?_)
    have hw59 : (-1 ≤ u56.toInt ∧ u56.toInt ≤ 431) := hw57
    refine W.eq (g2 := F0 m 13 ls [.int u56]) rfl ?_
    refine lv_istore (lv' := [(5, .int u56), (4, .ref b49), (0, .ref p0), (1, .int p1), (2, .int p2), (3, .int p3)]) hx hb dX10_findingOf_13 hl (by decide) rfl (fun ls hl => ?_)
    refine lv_aload hx hb dX10_findingOf_15 (lv_at hl 1 rfl) ?_
    refine lv_ifnull hx hb dX10_findingOf_17 ?_
    refine lv_iload hx hb dX10_findingOf_20 (lv_at hl 0 rfl) ?_
    refine lv_iconst (v := (-1)) hx hb dX10_findingOf_22 (by decide) ?_
    refine lv_icmp_ne (tgt := 31) hx hb dX10_findingOf_23 (by decide) (fun c60 => ?_) (fun c60 => ?_)
    · skip
      have c60 := i_ne (Eq.refl u56.toInt) (show ((-1) : Int32).toInt = -1 by decide) c60
      refine lv_aload_n hx hb dX10_findingOf_31 rfl (lv_at hl 2 rfl) ?_
      refine va_get (D := D) (ci := 10) (v := .ref a16) (C := RX10) (T := TX10) (N := 20) hx hb hg inGX10 hown hKN.1 hP p42 hk43 rfl 15 (by decide) (hg _ kw_364) (fun _ h9 => h9) rfl dX10_findingOf_32 ?_
      refine lv_iload hx hb dX10_findingOf_35 (lv_at hl 0 rfl) ?_
      refine cga (rn_S (As := [.ref a16, .int u56]) (rest := []) (x_X10_keptAt l D Y Z H.size ws T g q 432 a16 u56 hT h38 (show (0 ≤ u56.toInt) by omega) (show (u56.toInt < (432 : Int)) by omega)) ⟨hx, hb, hml, hown, hg⟩ lk_X10_445 ⟨CPC.blind, CPC.at hP hKN hD hSZ hS hA⟩ ⟨⟨rfl, rfl⟩, ⟨Nat.le_of_ble_eq_true rfl, Nat.le_of_ble_eq_true rfl⟩, ⟨(Nat.le_of_ble_eq_true rfl), (Nat.le_of_ble_eq_true rfl)⟩⟩ hl.1 rfl (Nat.le_of_ble_eq_true rfl) dX10_findingOf_37) hP hD hS hA (fun u61 H locs hw62 hP hD hS => ?_)
      refine W.widen (k := 1) (n := 7) (Nat.le_of_ble_eq_true rfl) (Nat.le_of_ble_eq_true rfl) ?_
      obtain ⟨b63, w64, T65⟩ := u61
      obtain ⟨le66, hT, ke67, ke68, ht69⟩ : TLe T T65 ∧ TW Y Z T65 g q w64 ∧ KF 1 T ws w64 ∧ KF 6 T ws w64 ∧ T65 b63 = (6, 0, 0) := hw62
      have hk70 := ke67 _ _ hk43 (show (T p0).1 = 1 by rw [ht0])
      have ke71 : KF 1 T ws w64 := KF.tr KF.rf ke67
      refine W.eq (g2 := F0 m 40 ls [.ref b63]) rfl ?_
      refine lv_astore (lv' := [(6, .ref b63), (5, .int u56), (4, .ref b49), (0, .ref p0), (1, .int p1), (2, .int p2), (3, .int p3)]) hx hb dX10_findingOf_40 hl (by decide) rfl (fun ls hl => ?_)
      refine lv_aload hx hb dX10_findingOf_42 (lv_at hl 0 rfl) ?_
      refine ok6 hT ht69 (fun p80 x72 x73 x74 x75 x76 y77 y78 hk81 h79 => ?_)
      refine va_getN (D := D) (ci := 1) (v := .int x72) (C := RX1) (T := TX1) (N := 7) hx hb hg inGX1 hown hKN.1 hP p80 hk81 rfl 0 (by decide) (va_Nw.use rfl (hKN.2.1 _ kn_308 rfl)) (fun _ h9 => h9) rfl dX10_findingOf_44 ?_
      refine lv_aload_n hx hb dX10_findingOf_47 rfl (lv_at hl 3 rfl) ?_
      refine va_get (D := D) (ci := 10) (v := .int x18) (C := RX10) (T := TX10) (N := 20) hx hb hg inGX10 hown hKN.1 hP p42 hk70 rfl 17 (by decide) (hg _ kw_366) (fun _ h9 => h9) rfl dX10_findingOf_48 ?_
      have j82 := rgI x72
      have j83 := rgI x18
      refine lv_icmp_eq (tgt := 91) hx hb dX10_findingOf_51 (by decide) (fun c84 => ?_) (fun c84 => ?_)
      · skip
        have c84 := i_eq (Eq.refl x72.toInt) (Eq.refl x18.toInt) c84
        refine lv_aload hx hb dX10_findingOf_91 (lv_at hl 0 rfl) ?_
        refine W.widen (k := 1) (n := 7) (Nat.le_of_ble_eq_true rfl) (Nat.le_of_ble_eq_true rfl) ?_
        exact W.aret (v := .ref b63) hx hb hr (Or.inl ⟨_, rfl⟩) (Or.inr ⟨_, rfl⟩) (fun t ht hW => ⟨⟨(b63, w64, T65), rfl, ⟨le66, hT, ke71, ht69⟩, CB.mk ht hP hD⟩, hS.F ht⟩) hS.2.2 dX10_findingOf_93
      · skip
        have c84 := i_ne (Eq.refl x72.toInt) (Eq.refl x18.toInt) c84
        refine lv_aload_n hx hb dX10_findingOf_54 rfl (lv_at hl 3 rfl) ?_
        refine va_get (D := D) (ci := 10) (v := .ref a11) (C := RX10) (T := TX10) (N := 20) hx hb hg inGX10 hown hKN.1 hP p42 hk70 rfl 10 (by decide) (hg _ kw_359) (fun _ h9 => h9) rfl dX10_findingOf_55 ?_
        refine lv_aload_n hx hb dX10_findingOf_58 rfl (lv_at hl 3 rfl) ?_
        refine va_get (D := D) (ci := 10) (v := .ref a1) (C := RX10) (T := TX10) (N := 20) hx hb hg inGX10 hown hKN.1 hP p42 hk70 rfl 0 (by decide) (hg _ kw_349) (fun _ h9 => h9) rfl dX10_findingOf_59 ?_
        refine lv_iload_n hx hb dX10_findingOf_62 rfl (lv_at hl 5 rfl) ?_
        refine lv_iload_n hx hb dX10_findingOf_63 rfl (lv_at hl 6 rfl) ?_
        refine ok9 hT (le66.up h33) (fun p97 a85 a86 a87 x88 y89 y90 x91 y92 hk98 h93 h94 h95 h96 => ?_)
        refine cga (rn_NV (As := [.ref a1, .int p2, .int p3]) (rest := []) (b := a11) (x_X2_see l D Y Z H.size w64 T65 g q 0 a11 a1 p2 p3 hT (le66.up h33) (le66.up h21)) ⟨hx, hb, hml, hown, hg⟩ hKN lk_X10_143 ⟨CPC.blind, va_recv hKN.1 hP (ci := 2) (q0 := p97) rfl hk98, CPC.at hP hKN hD hSZ hS hA⟩ ⟨⟨rfl, rfl⟩, ⟨Nat.le_of_ble_eq_true rfl, Nat.le_of_ble_eq_true rfl⟩, ⟨(Nat.le_of_ble_eq_true rfl), (Nat.le_of_ble_eq_true rfl)⟩⟩ hl.1 rfl (Nat.le_of_ble_eq_true rfl) dX10_findingOf_64) hP hD hS hA (fun u99 H locs hw100 hP hD hS => ?_)
        obtain ⟨hT, ke102, ke103⟩ : TW Y Z T65 g q u99 ∧ KF 1 T65 w64 u99 ∧ KF 6 T65 w64 u99 := hw100
        have hk104 := ke102 _ _ hk70 (show (T65 p0).1 = 1 by rw [(le66.up ht0)])
        have hk105 := ke103 _ _ hk81 (show (T65 b63).1 = 6 by rw [ht69])
        have ke106 : KF 1 T ws u99 := KF.tr ke71 (KF.le (by decide) le66 ke102)
        refine W.eq (g2 := F0 m 67 ls []) rfl ?_
        refine lv_aload_n hx hb dX10_findingOf_67 rfl (lv_at hl 3 rfl) ?_
        refine va_get (D := D) (ci := 10) (v := .ref a12) (C := RX10) (T := TX10) (N := 20) hx hb hg inGX10 hown hKN.1 hP p42 hk104 rfl 11 (by decide) (hg _ kw_360) (fun _ h9 => h9) rfl dX10_findingOf_68 ?_
        refine lv_aload_n hx hb dX10_findingOf_71 rfl (lv_at hl 3 rfl) ?_
        refine va_get (D := D) (ci := 10) (v := .ref a11) (C := RX10) (T := TX10) (N := 20) hx hb hg inGX10 hown hKN.1 hP p42 hk104 rfl 10 (by decide) (hg _ kw_359) (fun _ h9 => h9) rfl dX10_findingOf_72 ?_
        refine lv_aload hx hb dX10_findingOf_75 (lv_at hl 2 rfl) ?_
        refine lv_aload hx hb dX10_findingOf_77 (lv_at hl 0 rfl) ?_
        refine ok10 hT (le66.up h34) (fun p111 a107 a108 hk112 h109 h110 => ?_)
        refine cga (rn_NV (As := [.ref a11, .ref b49, .ref b63]) (rest := []) (b := a12) (x_X0_find l D Y Z H.size u99 T65 g q a12 a11 b49 b63 hT (le66.up h34) (le66.up h33) (le66.up ht54) ht69) ⟨hx, hb, hml, hown, hg⟩ hKN lk_X10_372 ⟨CPC.blind, va_recv hKN.1 hP (ci := 0) (q0 := p111) rfl hk112, CPC.at hP hKN hD hSZ hS hA⟩ ⟨⟨rfl, rfl⟩, ⟨Nat.le_of_ble_eq_true rfl, Nat.le_of_ble_eq_true rfl⟩, ⟨(Nat.le_of_ble_eq_true rfl), (Nat.le_of_ble_eq_true rfl)⟩⟩ hl.1 rfl (Nat.le_of_ble_eq_true rfl) dX10_findingOf_79) hP hD hS hA (fun u113 H locs hw114 hP hD hS => ?_)
        obtain ⟨hT, ke116⟩ : TW Y Z T65 g q u113 ∧ KF 1 T65 u99 u113 := hw114
        have hk117 := ke116 _ _ hk104 (show (T65 p0).1 = 1 by rw [(le66.up ht0)])
        have ke118 : KF 1 T ws u113 := KF.tr ke106 (KF.le (by decide) le66 ke116)
        refine W.eq (g2 := F0 m 82 ls []) rfl ?_
        refine lv_aload hx hb dX10_findingOf_82 (lv_at hl 0 rfl) ?_
        refine lv_aload_n hx hb dX10_findingOf_84 rfl (lv_at hl 3 rfl) ?_
        refine va_get (D := D) (ci := 10) (v := .int x18) (C := RX10) (T := TX10) (N := 20) hx hb hg inGX10 hown hKN.1 hP p42 hk117 rfl 17 (by decide) (hg _ kw_366) (fun _ h9 => h9) rfl dX10_findingOf_85 ?_
        refine ok6 hT ht69 (fun p127 x119 x120 x121 x122 x123 y124 y125 hk128 h126 => ?_)
        refine va_putN (D := D) (ci := 1) (v := .int x18) (ty := .int) (C := RX1) (T := TX1) (N := 7) hx hb hg inGX1 tyX1 tyX1_ok nmX1 hown hKN.1 hP hD hS p127 hk128 rfl 0 (by decide) (va_Nw.use rfl (hKN.2.1 _ kn_308 rfl)) (fun _ h9 => h9) rfl (by decide +kernel) rfl rfl (Nat.le_of_ble_eq_true rfl) dX10_findingOf_88 (fun H locs hP hD2 hS => ?_)
        obtain ⟨w129, hP, hD, hT, hk131, kp130⟩ : ∃ wz, va_P D vwCl wz H ∧ va_D A wz ∧ TW Y Z T65 g q wz ∧ wz[p127]? = some (b63, .inr (1, [.int x18, .int x120, .int x121, .int x122, .int x123, .long y124, .long y125])) ∧ Kp b63 u113 wz := ⟨_, hP, hD2, st6 hT hD hk128 ht69 ⟨x18, x120, x121, x122, x123, y124, y125, rfl, by omega⟩, sw_eq hk128, sw_kp hk128⟩
        have ke132 : KF 1 T ws w129 := KF.tr ke118 (KF.le (by decide) le66 (KF.kp kp130 ht69 (by decide)))
        have hk133 := kp130 _ _ hk117 (rne (le66.up ht0) ht69 (by decide))
        refine lv_aload hx hb dX10_findingOf_91 (lv_at hl 0 rfl) ?_
        refine W.widen (k := 1) (n := 7) (Nat.le_of_ble_eq_true rfl) (Nat.le_of_ble_eq_true rfl) ?_
        exact W.aret (v := .ref b63) hx hb hr (Or.inl ⟨_, rfl⟩) (Or.inr ⟨_, rfl⟩) (fun t ht hW => ⟨⟨(b63, w129, T65), rfl, ⟨le66, hT, ke132, ht69⟩, CB.mk ht hP hD⟩, hS.F ht⟩) hS.2.2 dX10_findingOf_93
    · skip
      have c60 := i_eq (Eq.refl u56.toInt) (show ((-1) : Int32).toInt = -1 by decide) c60
      refine lv_aload_n hx hb dX10_findingOf_26 rfl (lv_at hl 2 rfl) ?_
      refine va_get (D := D) (ci := 10) (v := .ref a14) (C := RX10) (T := TX10) (N := 20) hx hb hg inGX10 hown hKN.1 hP p42 hk43 rfl 13 (by decide) (hg _ kw_362) (fun _ h9 => h9) rfl dX10_findingOf_27 ?_
      refine W.widen (k := 1) (n := 7) (Nat.le_of_ble_eq_true rfl) (Nat.le_of_ble_eq_true rfl) ?_
      exact W.aret (v := .ref a14) hx hb hr (Or.inl ⟨_, rfl⟩) (Or.inr ⟨_, rfl⟩) (fun t ht hW => ⟨⟨(a14, ws, T), rfl, ⟨TLe.rf, hT, KF.rf, h36⟩, CB.mk ht hP hD⟩, hS.F ht⟩) hS.2.2 dX10_findingOf_30
set_option maxHeartbeats 4000000 in
set_option maxRecDepth 100000 in
theorem x_X10_findAll (l : Launch) (D : va_G) (Y : Nat → ClassId) (Z : Nat → Nat) (sz : Nat) (ws : va_W) (T : RT) (g : GN) (q : GQ)  (p0 : Nat) (p1 : Int32) (p2 : Int32) (hT : TW Y Z T g q ws) (ht0 : T p0 = (1, 0, 0)) : Met l yX10_findAll (.code yX10_findAll cX10_findAll 4 none :: GW) ({ frames := 5, cells := 12, slots := 84, locals := 133 }) (va_Pc [.ref p0, .int p1, .int p2] (CPC D Y Z ws sz)) (QG (S := va_W × RT) (fun _ => none) (fun u => TLe T u.2 ∧ TW Y Z u.2 g q u.1 ∧ KF 1 T ws u.1) (fun u => CB D u.1 (va_A ws sz)) (va_A ws sz)) 12 84 (va_A ws sz) := by
  refine Met.ofW (cc := cX10_findAll) (maxL := 4) (ret := none) (by decide) rfl ?_
  intro p e s m args below meth c s₁ B hml hv
  obtain ⟨rfl, ⟨hsz, hP, hKN, hD0⟩, hSZ⟩ := hv
  have hx := B.exec
  have hb := B.bytes
  have hr := B.returns
  have hts := atoms_spec (ws := .code yX10_findAll cX10_findAll 4 none :: GW) B.pre
  have hg : ∀ w ∈ GW, w.before _ s = true := fun w h => hts w (List.mem_cons_of_mem _ h)
  have hown : s.vm.findClass RX10 = some m.cls := findClass_of_methodNamed B.named
  have hlocks := B.notSynchronized
  subst hsz
  have hD := hD0.self (sz := s.heap.size)
  generalize hAe : va_A ws s.heap.size = A at hD hSZ ⊢
  have hA : ∀ q : Nat, s.heap.size ≤ q → A q := fun q h => by rw [← hAe]; exact Or.inr h
  clear hAe hD0 hts B
  have hl := lv_entry ([.ref p0, .int p1, .int p2]) (n := 4) (Nat.le_of_ble_eq_true rfl)
  rw [lg_entry_eq]
  generalize (lg_sl ([.ref p0, .int p1, .int p2]) ++ List.replicate (4 - (lg_sl ([.ref p0, .int p1, .int p2])).length) Slot.unset).toArray = ls at hl ⊢
  have hl : lv_has ls 4 [(0, .ref p0), (1, .int p1), (2, .int p2)] := hl
  refine w_start (A0 := A) hP (fun H locs hP hS => ?_)
  refine lv_iconst (v := 0) hx hb dX10_findAll_0 (by decide) ?_
  refine lv_istore_n (lv' := [(3, .int 0), (0, .ref p0), (1, .int p1), (2, .int p2)]) hx hb dX10_findAll_1 rfl hl (by decide) rfl (fun ls hl => ?_)
  have zi0 : (0 : Int32).toInt = 0 := by decide
  refine w_loopC (σ := Int32 × va_W × RT) (al := 1) (sl := 7) (M := 12) (fun xx H locs ls => match xx with | (v91, w92, T93) => va_P D vwCl w92 H ∧ va_D A w92 ∧ va_S A s.heap H locs ∧ lv_has ls 4 [(3, .int v91), (0, .ref p0), (1, .int p1), (2, .int p2)] ∧ TW Y Z T93 g q w92 ∧ TLe T T93 ∧ KF 1 T ws w92 ∧ (0 ≤ v91.toInt ∧ v91.toInt ≤ 12)) (fun xx => match xx with | (v91, w92, T93) => (12 - v91.toInt).toNat) (0, ws, T) ⟨hP, hD, hS, lv_sub hl [0, 1, 2, 3] rfl, hT, TLe.rf, KF.rf, by omega⟩ (by show (12 - (0 : Int32).toInt).toNat ≤ 12; omega) (fun xx bd185 sd186 H locs ls hI hbbd185 ih => ?_)
  obtain ⟨v91, w92, T93⟩ := xx
  obtain ⟨hP, hD, hS, hl, hT, le188, ke189, hq187⟩ := hI
  have hbbd185 : bd185 + 1 * ((12 - v91.toInt).toNat) ≤ 0 + 1 * 12 ∧ sd186 + 7 * ((12 - v91.toInt).toNat) ≤ 0 + 7 * 12 := hbbd185
  have ih190 := ih
  refine lv_iload_n hx hb dX10_findAll_2 rfl (lv_at hl 0 rfl) ?_
  refine lv_aload_n hx hb dX10_findAll_3 rfl (lv_at hl 1 rfl) ?_
  refine ok1 hT (le188.up ht0) (fun p232 a191 a192 a193 a194 a195 x196 x197 x198 a199 a200 a201 a202 a203 a204 a205 a206 a207 x208 a209 a210 hk233 h211 h212 h213 h214 h215 h216 h217 h218 h219 h220 h221 h222 h223 h224 h225 h226 h227 h228 h229 h230 h231 => ?_)
  refine va_get (D := D) (ci := 10) (v := .ref a191) (C := RX10) (T := TX10) (N := 20) hx hb hg inGX10 hown hKN.1 hP p232 hk233 rfl 0 (by decide) (hg _ kw_349) (fun _ h9 => h9) rfl dX10_findAll_4 ?_
  refine ok2 hT h211 (fun p268 x234 a235 x236 a237 x238 a239 a240 x241 a242 a243 x244 a245 x246 hk269 h247 h248 h249 h250 h251 h252 h253 h254 h255 h256 h257 h258 h259 h260 h261 h262 h263 h264 h265 h266 h267 => ?_)
  refine va_getN (D := D) (ci := 6) (v := .int x234) (C := RX6) (T := TX6) (N := 13) hx hb hg inGX6 hown hKN.1 hP p268 hk269 rfl 0 (by decide) (va_Nw.use rfl (hKN.2.1 _ kn_41 rfl)) (fun _ h9 => h9) rfl dX10_findAll_7 ?_
  refine lv_icmp_ge (tgt := 27) hx hb dX10_findAll_10 (by decide) (fun c270 => ?_) (fun c270 => ?_)
  · skip
    have c270 := i_le (Eq.refl x234.toInt) (Eq.refl v91.toInt) c270
    refine W.widen (k := 12) (n := 84) (by omega) (by omega) ?_
    exact W.vret hx hb hr (fun t ht hW => ⟨⟨(w92, T93), rfl, ⟨le188, hT, ke189⟩, CB.mk ht hP hD⟩, hS.F ht⟩) hS.2.2 dX10_findAll_27
  · skip
    have c270 := i_nle (Eq.refl x234.toInt) (Eq.refl v91.toInt) c270
    refine lv_aload_n hx hb dX10_findAll_13 rfl (lv_at hl 1 rfl) ?_
    refine lv_iload_n hx hb dX10_findAll_14 rfl (lv_at hl 2 rfl) ?_
    refine lv_iload_n hx hb dX10_findAll_15 rfl (lv_at hl 0 rfl) ?_
    refine lv_iload_n hx hb dX10_findAll_16 rfl (lv_at hl 3 rfl) ?_
    refine cga (rn_V (As := [.int p1, .int v91, .int p2]) (rest := []) (b := p0) (x_X10_findingOf l D Y Z H.size w92 T93 g q p0 p1 v91 p2 hT (le188.up ht0)) ⟨hx, hb, hml, hown, hg⟩ lk_X10_264 ⟨CPC.blind, va_recv hKN.1 hP (ci := 10) (q0 := p232) rfl hk233, CPC.at hP hKN hD hSZ hS hA⟩ ⟨⟨rfl, rfl⟩, ⟨Nat.le_of_ble_eq_true rfl, Nat.le_of_ble_eq_true rfl⟩, ⟨(show _ ≤ (12 : Nat) by omega), (show _ ≤ (84 : Nat) by omega)⟩⟩ hl.1 rfl (Nat.le_of_ble_eq_true rfl) dX10_findAll_17) hP hD hS hA (fun u271 H locs hw272 hP hD hS => ?_)
    refine W.widen (k := (bd185 + 1)) (n := (sd186 + 7)) (by omega) (by omega) ?_
    obtain ⟨b273, w274, T275⟩ := u271
    obtain ⟨le276, hT, ke277, ht278⟩ : TLe T93 T275 ∧ TW Y Z T275 g q w274 ∧ KF 1 T93 w92 w274 ∧ T275 b273 = (6, 0, 0) := hw272
    have hk279 := ke277 _ _ hk233 (show (T93 p0).1 = 1 by rw [(le188.up ht0)])
    have ke280 : KF 1 T ws w274 := KF.tr ke189 (KF.le (by decide) le188 ke277)
    refine W.eq (g2 := F0 m 20 ls [.ref b273]) rfl ?_
    refine lv_pop hx hb dX10_findAll_20 rfl ?_
    obtain ⟨v281, ev281⟩ : ∃ y : Int32, y = v91 + 1 := ⟨_, rfl⟩
    have hv281 := i_add (Eq.refl v91.toInt) (show (1 : Int32).toInt = 1 by decide) ev281 (by omega) (by omega)
    refine lv_iinc (v := v281) (lv' := [(3, .int v281), (0, .ref p0), (1, .int p1), (2, .int p2)]) hx hb dX10_findAll_21 hl (k := 0) rfl (by rw [ev281]; rfl) (by decide) rfl (fun ls hl => ?_)
    refine lv_goto (tgt := 2) hx hb dX10_findAll_24 (by decide) ?_
    exact ih190 (v281, w274, T275) _ _ H locs ls (by show (12 - v281.toInt).toNat < (12 - v91.toInt).toNat; omega) (by show (bd185 + 1) + 1 * ((12 - v281.toInt).toNat) ≤ 0 + 1 * 12 ∧ (sd186 + 7) + 7 * ((12 - v281.toInt).toNat) ≤ 0 + 7 * 12; omega) ⟨hP, hD, hS, lv_sub hl [0, 1, 2, 3] rfl, hT, (le188.tr le276), ke280, by omega⟩
set_option maxHeartbeats 4000000 in
set_option maxRecDepth 100000 in
theorem x_X10_knownOf (l : Launch) (D : va_G) (Y : Nat → ClassId) (Z : Nat → Nat) (sz : Nat) (ws : va_W) (T : RT) (g : GN) (q : GQ)  (p0 : Nat) (p1 : Int32) (p2 : Int32) (p3 : Int32) (hT : TW Y Z T g q ws) (ht0 : T p0 = (1, 0, 0)) : Met l yX10_knownOf (.code yX10_knownOf cX10_knownOf 6 (some (.object "DimStars$Finding")) :: GW) ({ frames := 1, cells := 0, slots := 0, locals := 23 }) (va_Pc [.ref p0, .int p1, .int p2, .int p3] (CPC D Y Z ws sz)) (QG (S := Nat) (fun u => some (.ref u)) (fun u => T u = (6, 0, 0)) (fun u => CB D ws (va_A ws sz)) (va_A ws sz)) 0 0 (va_A ws sz) := by
  refine Met.ofW (cc := cX10_knownOf) (maxL := 6) (ret := (some (.object "DimStars$Finding"))) (by decide) rfl ?_
  intro p e s m args below meth c s₁ B hml hv
  obtain ⟨rfl, ⟨hsz, hP, hKN, hD0⟩, hSZ⟩ := hv
  have hx := B.exec
  have hb := B.bytes
  have hr := B.returns
  have hts := atoms_spec (ws := .code yX10_knownOf cX10_knownOf 6 (some (.object "DimStars$Finding")) :: GW) B.pre
  have hg : ∀ w ∈ GW, w.before _ s = true := fun w h => hts w (List.mem_cons_of_mem _ h)
  have hown : s.vm.findClass RX10 = some m.cls := findClass_of_methodNamed B.named
  have hlocks := B.notSynchronized
  subst hsz
  have hD := hD0.self (sz := s.heap.size)
  generalize hAe : va_A ws s.heap.size = A at hD hSZ ⊢
  have hA : ∀ q : Nat, s.heap.size ≤ q → A q := fun q h => by rw [← hAe]; exact Or.inr h
  clear hAe hD0 hts B
  have hl := lv_entry ([.ref p0, .int p1, .int p2, .int p3]) (n := 6) (Nat.le_of_ble_eq_true rfl)
  rw [lg_entry_eq]
  generalize (lg_sl ([.ref p0, .int p1, .int p2, .int p3]) ++ List.replicate (6 - (lg_sl ([.ref p0, .int p1, .int p2, .int p3])).length) Slot.unset).toArray = ls at hl ⊢
  have hl : lv_has ls 6 [(0, .ref p0), (1, .int p1), (2, .int p2), (3, .int p3)] := hl
  refine w_start (A0 := A) hP (fun H locs hP hS => ?_)
  refine lv_iload_n hx hb dX10_knownOf_0 rfl (lv_at hl 1 rfl) ?_
  refine lv_iload_n hx hb dX10_knownOf_1 rfl (lv_at hl 2 rfl) ?_
  refine lv_iload_n hx hb dX10_knownOf_2 rfl (lv_at hl 3 rfl) ?_
  refine cg0 (rn_S (As := [.int p1, .int p2, .int p3]) (rest := []) (x_X10_placeOf l D Y Z H.size p1 p2 p3) ⟨hx, hb, hml, hown, hg⟩ lk_X10_442 ⟨CP.blind, CP.at nilP hKN (nilD (A := fun _ => True))⟩ ⟨⟨rfl, rfl⟩, ⟨Nat.le_of_ble_eq_true rfl, Nat.le_of_ble_eq_true rfl⟩, ⟨(Nat.le_of_ble_eq_true rfl), (Nat.le_of_ble_eq_true rfl)⟩⟩ hl.1 rfl (Nat.le_of_ble_eq_true rfl) dX10_knownOf_3) hP hS hA (fun u1 H locs hw2 hP hS => ?_)
  have hw4 : (-1 ≤ u1.toInt ∧ u1.toInt ≤ 431) := hw2
  refine W.eq (g2 := F0 m 6 ls [.int u1]) rfl ?_
  refine lv_istore (lv' := [(4, .int u1), (0, .ref p0), (1, .int p1), (2, .int p2), (3, .int p3)]) hx hb dX10_knownOf_6 hl (by decide) rfl (fun ls hl => ?_)
  refine lv_iload hx hb dX10_knownOf_8 (lv_at hl 0 rfl) ?_
  refine lv_iconst (v := (-1)) hx hb dX10_knownOf_10 (by decide) ?_
  refine lv_icmp_ne (tgt := 18) hx hb dX10_knownOf_11 (by decide) (fun c5 => ?_) (fun c5 => ?_)
  · skip
    have c5 := i_ne (Eq.refl u1.toInt) (show ((-1) : Int32).toInt = -1 by decide) c5
    refine lv_aload_n hx hb dX10_knownOf_18 rfl (lv_at hl 1 rfl) ?_
    refine ok1 hT ht0 (fun p47 a6 a7 a8 a9 a10 x11 x12 x13 a14 a15 a16 a17 a18 a19 a20 a21 a22 x23 a24 a25 hk48 h26 h27 h28 h29 h30 h31 h32 h33 h34 h35 h36 h37 h38 h39 h40 h41 h42 h43 h44 h45 h46 => ?_)
    refine va_get (D := D) (ci := 10) (v := .ref a21) (C := RX10) (T := TX10) (N := 20) hx hb hg inGX10 hown hKN.1 hP p47 hk48 rfl 15 (by decide) (hg _ kw_364) (fun _ h9 => h9) rfl dX10_knownOf_19 ?_
    refine lv_iload hx hb dX10_knownOf_22 (lv_at hl 0 rfl) ?_
    refine tr_ld21 hx hb hKN hP hT h43 (vp_in_iff.mpr ⟨by omega, by omega⟩) dX10_knownOf_24 (fun r49 hr49 => ?_)
    refine W.eq (g2 := F0 m 25 ls [va_rf r49]) rfl ?_
    rcases r49 with _ | b50
    · skip
      refine W.eq (g2 := F0 m 25 ls [.null]) rfl ?_
      refine lv_astoreN (lv' := [(5, .null), (4, .int u1), (0, .ref p0), (1, .int p1), (2, .int p2), (3, .int p3)]) hx hb dX10_knownOf_25 hl (by decide) rfl (fun ls hl => ?_)
      refine lv_aloadN hx hb dX10_knownOf_27 (lv_at hl 0 rfl) ?_
      refine lv_ifnonnullN hx hb dX10_knownOf_29 ?_
      refine lv_aload_n hx hb dX10_knownOf_32 rfl (lv_at hl 2 rfl) ?_
      refine va_get (D := D) (ci := 10) (v := .ref a19) (C := RX10) (T := TX10) (N := 20) hx hb hg inGX10 hown hKN.1 hP p47 hk48 rfl 13 (by decide) (hg _ kw_362) (fun _ h9 => h9) rfl dX10_knownOf_33 ?_
      refine lv_goto (tgt := 41) hx hb dX10_knownOf_36 (by decide) ?_
      refine W.widen (k := 0) (n := 0) (Nat.le_of_ble_eq_true rfl) (Nat.le_of_ble_eq_true rfl) ?_
      exact W.aret (v := .ref a19) hx hb hr (Or.inl ⟨_, rfl⟩) (Or.inr ⟨_, rfl⟩) (fun t ht hW => ⟨⟨a19, rfl, (h41), CB.mk ht hP hD⟩, hS.F ht⟩) hS.2.2 dX10_knownOf_41
    · skip
      have ht51 := hr49 b50 rfl
      refine W.eq (g2 := F0 m 25 ls [.ref b50]) rfl ?_
      refine lv_astore (lv' := [(5, .ref b50), (4, .int u1), (0, .ref p0), (1, .int p1), (2, .int p2), (3, .int p3)]) hx hb dX10_knownOf_25 hl (by decide) rfl (fun ls hl => ?_)
      refine lv_aload hx hb dX10_knownOf_27 (lv_at hl 0 rfl) ?_
      refine lv_ifnonnull (tgt := 39) hx hb dX10_knownOf_29 (by decide) ?_
      refine lv_aload hx hb dX10_knownOf_39 (lv_at hl 0 rfl) ?_
      refine W.widen (k := 0) (n := 0) (Nat.le_of_ble_eq_true rfl) (Nat.le_of_ble_eq_true rfl) ?_
      exact W.aret (v := .ref b50) hx hb hr (Or.inl ⟨_, rfl⟩) (Or.inr ⟨_, rfl⟩) (fun t ht hW => ⟨⟨b50, rfl, (ht51), CB.mk ht hP hD⟩, hS.F ht⟩) hS.2.2 dX10_knownOf_41
  · skip
    have c5 := i_eq (Eq.refl u1.toInt) (show ((-1) : Int32).toInt = -1 by decide) c5
    refine lv_null hx hb dX10_knownOf_14 ?_
    refine lv_goto (tgt := 25) hx hb dX10_knownOf_15 (by decide) ?_
    refine lv_astoreN (lv' := [(5, .null), (4, .int u1), (0, .ref p0), (1, .int p1), (2, .int p2), (3, .int p3)]) hx hb dX10_knownOf_25 hl (by decide) rfl (fun ls hl => ?_)
    refine lv_aloadN hx hb dX10_knownOf_27 (lv_at hl 0 rfl) ?_
    refine lv_ifnonnullN hx hb dX10_knownOf_29 ?_
    refine lv_aload_n hx hb dX10_knownOf_32 rfl (lv_at hl 2 rfl) ?_
    refine ok1 hT ht0 (fun p93 a52 a53 a54 a55 a56 x57 x58 x59 a60 a61 a62 a63 a64 a65 a66 a67 a68 x69 a70 a71 hk94 h72 h73 h74 h75 h76 h77 h78 h79 h80 h81 h82 h83 h84 h85 h86 h87 h88 h89 h90 h91 h92 => ?_)
    refine va_get (D := D) (ci := 10) (v := .ref a65) (C := RX10) (T := TX10) (N := 20) hx hb hg inGX10 hown hKN.1 hP p93 hk94 rfl 13 (by decide) (hg _ kw_362) (fun _ h9 => h9) rfl dX10_knownOf_33 ?_
    refine lv_goto (tgt := 41) hx hb dX10_knownOf_36 (by decide) ?_
    refine W.widen (k := 0) (n := 0) (Nat.le_of_ble_eq_true rfl) (Nat.le_of_ble_eq_true rfl) ?_
    exact W.aret (v := .ref a65) hx hb hr (Or.inl ⟨_, rfl⟩) (Or.inr ⟨_, rfl⟩) (fun t ht hW => ⟨⟨a65, rfl, (h87), CB.mk ht hP hD⟩, hS.F ht⟩) hS.2.2 dX10_knownOf_41
set_option maxHeartbeats 4000000 in
set_option maxRecDepth 100000 in
theorem x_X10_findingWith (l : Launch) (D : va_G) (Y : Nat → ClassId) (Z : Nat → Nat) (sz : Nat) (ws : va_W) (T : RT) (g : GN) (q : GQ)  (p0 : Nat) (p1 : Int32) (p2 : Int32) (hT : TW Y Z T g q ws) (ht0 : T p0 = (1, 0, 0)) : Met l yX10_findingWith (.code yX10_findingWith cX10_findingWith 6 (some (.object "DimStars$Finding")) :: GW) ({ frames := 4, cells := 1, slots := 7, locals := 107 }) (va_Pc [.ref p0, .int p1, .int p2] (CPC D Y Z ws sz)) (QG (S := Nat × va_W × RT) (fun u => some (.ref u.1)) (fun u => TLe T u.2.2 ∧ TW Y Z u.2.2 g q u.2.1 ∧ KF 1 T ws u.2.1 ∧ u.2.2 u.1 = (6, 0, 0)) (fun u => CB D u.2.1 (va_A ws sz)) (va_A ws sz)) 1 7 (va_A ws sz) := by
  refine Met.ofW (cc := cX10_findingWith) (maxL := 6) (ret := (some (.object "DimStars$Finding"))) (by decide) rfl ?_
  intro p e s m args below meth c s₁ B hml hv
  obtain ⟨rfl, ⟨hsz, hP, hKN, hD0⟩, hSZ⟩ := hv
  have hx := B.exec
  have hb := B.bytes
  have hr := B.returns
  have hts := atoms_spec (ws := .code yX10_findingWith cX10_findingWith 6 (some (.object "DimStars$Finding")) :: GW) B.pre
  have hg : ∀ w ∈ GW, w.before _ s = true := fun w h => hts w (List.mem_cons_of_mem _ h)
  have hown : s.vm.findClass RX10 = some m.cls := findClass_of_methodNamed B.named
  have hlocks := B.notSynchronized
  subst hsz
  have hD := hD0.self (sz := s.heap.size)
  generalize hAe : va_A ws s.heap.size = A at hD hSZ ⊢
  have hA : ∀ q : Nat, s.heap.size ≤ q → A q := fun q h => by rw [← hAe]; exact Or.inr h
  clear hAe hD0 hts B
  have hl := lv_entry ([.ref p0, .int p1, .int p2]) (n := 6) (Nat.le_of_ble_eq_true rfl)
  rw [lg_entry_eq]
  generalize (lg_sl ([.ref p0, .int p1, .int p2]) ++ List.replicate (6 - (lg_sl ([.ref p0, .int p1, .int p2])).length) Slot.unset).toArray = ls at hl ⊢
  have hl : lv_has ls 6 [(0, .ref p0), (1, .int p1), (2, .int p2)] := hl
  refine w_start (A0 := A) hP (fun H locs hP hS => ?_)
  refine lv_aload_n hx hb dX10_findingWith_0 rfl (lv_at hl 0 rfl) ?_
  refine lv_iload_n hx hb dX10_findingWith_1 rfl (lv_at hl 1 rfl) ?_
  refine ok1 hT ht0 (fun p42 a1 a2 a3 a4 a5 x6 x7 x8 a9 a10 a11 a12 a13 a14 a15 a16 a17 x18 a19 a20 hk43 h21 h22 h23 h24 h25 h26 h27 h28 h29 h30 h31 h32 h33 h34 h35 h36 h37 h38 h39 h40 h41 => ?_)
  refine cga (rn_V (As := [.int p1]) (rest := []) (b := p0) (x_X10_searchAt l D Y Z H.size ws T g q p0 p1 hT ht0) ⟨hx, hb, hml, hown, hg⟩ lk_X10_259 ⟨CPC.blind, va_recv hKN.1 hP (ci := 10) (q0 := p42) rfl hk43, CPC.at hP hKN hD hSZ hS hA⟩ ⟨⟨rfl, rfl⟩, ⟨Nat.le_of_ble_eq_true rfl, Nat.le_of_ble_eq_true rfl⟩, ⟨(Nat.le_of_ble_eq_true rfl), (Nat.le_of_ble_eq_true rfl)⟩⟩ hl.1 rfl (Nat.le_of_ble_eq_true rfl) dX10_findingWith_2) hP hD hS hA (fun u44 H locs hw45 hP hD hS => ?_)
  obtain ⟨ht47, hw48⟩ : (∀ b, u44 = some b → T b = (5, 0, 0)) ∧ (∀ b, u44 = some b → 0 ≤ p1.toInt ∧ p1.toInt ≤ 5) := hw45
  refine W.eq (g2 := F0 m 5 ls [va_rf u44]) rfl ?_
  rcases u44 with _ | b49
  · skip
    refine W.eq (g2 := F0 m 5 ls [.null]) rfl ?_
    refine lv_astore_nN (lv' := [(3, .null), (0, .ref p0), (1, .int p1), (2, .int p2)]) hx hb dX10_findingWith_5 rfl hl (by decide) rfl (fun ls hl => ?_)
    refine lv_aload_n hx hb dX10_findingWith_6 rfl (lv_at hl 1 rfl) ?_
    refine va_get (D := D) (ci := 10) (v := .ref a1) (C := RX10) (T := TX10) (N := 20) hx hb hg inGX10 hown hKN.1 hP p42 hk43 rfl 0 (by decide) (hg _ kw_349) (fun _ h9 => h9) rfl dX10_findingWith_7 ?_
    refine lv_iload_n hx hb dX10_findingWith_10 rfl (lv_at hl 3 rfl) ?_
    refine ok2 hT h21 (fun p84 x50 a51 x52 a53 x54 a55 a56 x57 a58 a59 x60 a61 x62 hk85 h63 h64 h65 h66 h67 h68 h69 h70 h71 h72 h73 h74 h75 h76 h77 h78 h79 h80 h81 h82 h83 => ?_)
    refine cga (rn_NV (As := [.int p2]) (rest := []) (b := a1) (x_X6_worldAt l D Y Z H.size ws T g q 0 a1 p2 hT h21) ⟨hx, hb, hml, hown, hg⟩ hKN lk_X10_280 ⟨CPC.blind, va_recv hKN.1 hP (ci := 6) (q0 := p84) rfl hk85, CPC.at hP hKN hD hSZ hS hA⟩ ⟨⟨rfl, rfl⟩, ⟨Nat.le_of_ble_eq_true rfl, Nat.le_of_ble_eq_true rfl⟩, ⟨(Nat.le_of_ble_eq_true rfl), (Nat.le_of_ble_eq_true rfl)⟩⟩ hl.1 rfl (Nat.le_of_ble_eq_true rfl) dX10_findingWith_11) hP hD hS hA (fun u86 H locs hw87 hP hD hS => ?_)
    obtain ⟨ht89, hw90⟩ : (∀ b, u86 = some b → T b = (4, 0, 0)) ∧ (∀ b, u86 = some b → 0 ≤ p2.toInt ∧ p2.toInt ≤ 39) := hw87
    refine W.eq (g2 := F0 m 14 ls [va_rf u86]) rfl ?_
    rcases u86 with _ | b91
    · skip
      refine W.eq (g2 := F0 m 14 ls [.null]) rfl ?_
      refine lv_astoreN (lv' := [(4, .null), (3, .null), (0, .ref p0), (1, .int p1), (2, .int p2)]) hx hb dX10_findingWith_14 hl (by decide) rfl (fun ls hl => ?_)
      refine lv_aload_nN hx hb dX10_findingWith_16 rfl (lv_at hl 1 rfl) ?_
      refine lv_ifnullN (tgt := 35) hx hb dX10_findingWith_17 (by decide) ?_
      refine lv_aload_n hx hb dX10_findingWith_35 rfl (lv_at hl 2 rfl) ?_
      refine va_get (D := D) (ci := 10) (v := .ref a14) (C := RX10) (T := TX10) (N := 20) hx hb hg inGX10 hown hKN.1 hP p42 hk43 rfl 13 (by decide) (hg _ kw_362) (fun _ h9 => h9) rfl dX10_findingWith_36 ?_
      refine W.widen (k := 1) (n := 7) (Nat.le_of_ble_eq_true rfl) (Nat.le_of_ble_eq_true rfl) ?_
      exact W.aret (v := .ref a14) hx hb hr (Or.inl ⟨_, rfl⟩) (Or.inr ⟨_, rfl⟩) (fun t ht hW => ⟨⟨(a14, ws, T), rfl, ⟨TLe.rf, hT, KF.rf, h36⟩, CB.mk ht hP hD⟩, hS.F ht⟩) hS.2.2 dX10_findingWith_39
    · skip
      have ht92 := ht89 b91 rfl
      have h93 := hw90 b91 rfl
      refine W.eq (g2 := F0 m 14 ls [.ref b91]) rfl ?_
      refine lv_astore (lv' := [(4, .ref b91), (3, .null), (0, .ref p0), (1, .int p1), (2, .int p2)]) hx hb dX10_findingWith_14 hl (by decide) rfl (fun ls hl => ?_)
      refine lv_aload_nN hx hb dX10_findingWith_16 rfl (lv_at hl 1 rfl) ?_
      refine lv_ifnullN (tgt := 35) hx hb dX10_findingWith_17 (by decide) ?_
      refine lv_aload_n hx hb dX10_findingWith_35 rfl (lv_at hl 2 rfl) ?_
      refine va_get (D := D) (ci := 10) (v := .ref a14) (C := RX10) (T := TX10) (N := 20) hx hb hg inGX10 hown hKN.1 hP p42 hk43 rfl 13 (by decide) (hg _ kw_362) (fun _ h9 => h9) rfl dX10_findingWith_36 ?_
      refine W.widen (k := 1) (n := 7) (Nat.le_of_ble_eq_true rfl) (Nat.le_of_ble_eq_true rfl) ?_
      exact W.aret (v := .ref a14) hx hb hr (Or.inl ⟨_, rfl⟩) (Or.inr ⟨_, rfl⟩) (fun t ht hW => ⟨⟨(a14, ws, T), rfl, ⟨TLe.rf, hT, KF.rf, h36⟩, CB.mk ht hP hD⟩, hS.F ht⟩) hS.2.2 dX10_findingWith_39
  · skip
    have ht94 := ht47 b49 rfl
    have h95 := hw48 b49 rfl
    refine W.eq (g2 := F0 m 5 ls [.ref b49]) rfl ?_
    refine lv_astore_n (lv' := [(3, .ref b49), (0, .ref p0), (1, .int p1), (2, .int p2)]) hx hb dX10_findingWith_5 rfl hl (by decide) rfl (fun ls hl => ?_)
    refine lv_aload_n hx hb dX10_findingWith_6 rfl (lv_at hl 1 rfl) ?_
    refine va_get (D := D) (ci := 10) (v := .ref a1) (C := RX10) (T := TX10) (N := 20) hx hb hg inGX10 hown hKN.1 hP p42 hk43 rfl 0 (by decide) (hg _ kw_349) (fun _ h9 => h9) rfl dX10_findingWith_7 ?_
    refine lv_iload_n hx hb dX10_findingWith_10 rfl (lv_at hl 3 rfl) ?_
    refine ok2 hT h21 (fun p130 x96 a97 x98 a99 x100 a101 a102 x103 a104 a105 x106 a107 x108 hk131 h109 h110 h111 h112 h113 h114 h115 h116 h117 h118 h119 h120 h121 h122 h123 h124 h125 h126 h127 h128 h129 => ?_)
    refine cga (rn_NV (As := [.int p2]) (rest := []) (b := a1) (x_X6_worldAt l D Y Z H.size ws T g q 0 a1 p2 hT h21) ⟨hx, hb, hml, hown, hg⟩ hKN lk_X10_280 ⟨CPC.blind, va_recv hKN.1 hP (ci := 6) (q0 := p130) rfl hk131, CPC.at hP hKN hD hSZ hS hA⟩ ⟨⟨rfl, rfl⟩, ⟨Nat.le_of_ble_eq_true rfl, Nat.le_of_ble_eq_true rfl⟩, ⟨(Nat.le_of_ble_eq_true rfl), (Nat.le_of_ble_eq_true rfl)⟩⟩ hl.1 rfl (Nat.le_of_ble_eq_true rfl) dX10_findingWith_11) hP hD hS hA (fun u132 H locs hw133 hP hD hS => ?_)
    obtain ⟨ht135, hw136⟩ : (∀ b, u132 = some b → T b = (4, 0, 0)) ∧ (∀ b, u132 = some b → 0 ≤ p2.toInt ∧ p2.toInt ≤ 39) := hw133
    refine W.eq (g2 := F0 m 14 ls [va_rf u132]) rfl ?_
    rcases u132 with _ | b137
    · skip
      refine W.eq (g2 := F0 m 14 ls [.null]) rfl ?_
      refine lv_astoreN (lv' := [(4, .null), (3, .ref b49), (0, .ref p0), (1, .int p1), (2, .int p2)]) hx hb dX10_findingWith_14 hl (by decide) rfl (fun ls hl => ?_)
      refine lv_aload_n hx hb dX10_findingWith_16 rfl (lv_at hl 1 rfl) ?_
      refine lv_ifnull hx hb dX10_findingWith_17 ?_
      refine lv_aloadN hx hb dX10_findingWith_20 (lv_at hl 0 rfl) ?_
      refine lv_ifnullN (tgt := 35) hx hb dX10_findingWith_22 (by decide) ?_
      refine lv_aload_n hx hb dX10_findingWith_35 rfl (lv_at hl 2 rfl) ?_
      refine va_get (D := D) (ci := 10) (v := .ref a14) (C := RX10) (T := TX10) (N := 20) hx hb hg inGX10 hown hKN.1 hP p42 hk43 rfl 13 (by decide) (hg _ kw_362) (fun _ h9 => h9) rfl dX10_findingWith_36 ?_
      refine W.widen (k := 1) (n := 7) (Nat.le_of_ble_eq_true rfl) (Nat.le_of_ble_eq_true rfl) ?_
      exact W.aret (v := .ref a14) hx hb hr (Or.inl ⟨_, rfl⟩) (Or.inr ⟨_, rfl⟩) (fun t ht hW => ⟨⟨(a14, ws, T), rfl, ⟨TLe.rf, hT, KF.rf, h36⟩, CB.mk ht hP hD⟩, hS.F ht⟩) hS.2.2 dX10_findingWith_39
    · skip
      have ht138 := ht135 b137 rfl
      have h139 := hw136 b137 rfl
      refine W.eq (g2 := F0 m 14 ls [.ref b137]) rfl ?_
      refine lv_astore (lv' := [(4, .ref b137), (3, .ref b49), (0, .ref p0), (1, .int p1), (2, .int p2)]) hx hb dX10_findingWith_14 hl (by decide) rfl (fun ls hl => ?_)
      refine lv_aload_n hx hb dX10_findingWith_16 rfl (lv_at hl 1 rfl) ?_
      refine lv_ifnull hx hb dX10_findingWith_17 ?_
      refine lv_aload hx hb dX10_findingWith_20 (lv_at hl 0 rfl) ?_
      refine lv_ifnull hx hb dX10_findingWith_22 ?_
      refine lv_iload_n hx hb dX10_findingWith_25 rfl (lv_at hl 4 rfl) ?_
      refine lv_iconst (v := 0) hx hb dX10_findingWith_26 (by decide) ?_
      refine lv_bipush (v := 39) hx hb dX10_findingWith_27 (by decide) ?_
      have zi0 : (0 : Int32).toInt = 0 := by decide
      have zi39 : (39 : Int32).toInt = 39 := by decide
      refine cg0 (rn_S (As := [.int p2, .int 0, .int 39]) (rest := []) (x_X10_isWithin l D Y Z H.size p2 0 39) ⟨hx, hb, hml, hown, hg⟩ lk_X10_100 ⟨CP.blind, CP.at nilP hKN (nilD (A := fun _ => True))⟩ ⟨⟨rfl, rfl⟩, ⟨Nat.le_of_ble_eq_true rfl, Nat.le_of_ble_eq_true rfl⟩, ⟨(Nat.le_of_ble_eq_true rfl), (Nat.le_of_ble_eq_true rfl)⟩⟩ hl.1 rfl (Nat.le_of_ble_eq_true rfl) dX10_findingWith_29) hP hS hA (fun u140 H locs hw141 hP hS => ?_)
      obtain ⟨hw143, hw144⟩ : (((0 : Int32).toInt ≤ p2.toInt ∧ p2.toInt ≤ (39 : Int32).toInt ∧ u140.toInt = 1) ∨ (¬ ((0 : Int32).toInt ≤ p2.toInt ∧ p2.toInt ≤ (39 : Int32).toInt) ∧ u140.toInt = 0)) ∧ (0 ≤ u140.toInt ∧ u140.toInt ≤ 1) := hw141
      refine W.eq (g2 := F0 m 32 ls [.int u140]) rfl ?_
      rcases (show u140.toInt = 1 ∨ u140.toInt = 0 by omega) with c145 | c145
      · obtain rfl : u140 = 1 := i_is c145 (by decide)
        have zi1 : (1 : Int32).toInt = 1 := by decide
        refine W.eq (g2 := F0 m 32 ls [.int 1]) rfl ?_
        refine lv_if_ne (tgt := 40) hx hb dX10_findingWith_32 (by decide) (fun c146 => ?_) (fun c146 => ?_)
        rotate_left
        · exact absurd c146 (by decide)
        refine lv_aload_n hx hb dX10_findingWith_40 rfl (lv_at hl 2 rfl) ?_
        refine va_get (D := D) (ci := 10) (v := .ref a17) (C := RX10) (T := TX10) (N := 20) hx hb hg inGX10 hown hKN.1 hP p42 hk43 rfl 16 (by decide) (hg _ kw_365) (fun _ h9 => h9) rfl dX10_findingWith_41 ?_
        refine lv_iload_n hx hb dX10_findingWith_44 rfl (lv_at hl 3 rfl) ?_
        refine lv_bipush (v := 40) hx hb dX10_findingWith_45 (by decide) ?_
        refine lv_imul hx hb dX10_findingWith_47 ?_
        refine lv_topi (fun v147 ev147 => ?_)
        have hv147 := i_mul (Eq.refl p1.toInt) (show (40 : Int32).toInt = 40 by decide) ev147 (by omega) (by omega)
        refine lv_iload_n hx hb dX10_findingWith_48 rfl (lv_at hl 4 rfl) ?_
        refine lv_iadd hx hb dX10_findingWith_49 ?_
        refine lv_topi (fun v148 ev148 => ?_)
        have hv148 := i_add (Eq.refl v147.toInt) (Eq.refl p2.toInt) ev148 (by omega) (by omega)
        refine cga (rn_S (As := [.ref a17, .int v148]) (rest := []) (x_X10_keptAt l D Y Z H.size ws T g q 240 a17 v148 hT h39 (show (0 ≤ v148.toInt) by omega) (show (v148.toInt < (240 : Int)) by omega)) ⟨hx, hb, hml, hown, hg⟩ lk_X10_445 ⟨CPC.blind, CPC.at hP hKN hD hSZ hS hA⟩ ⟨⟨rfl, rfl⟩, ⟨Nat.le_of_ble_eq_true rfl, Nat.le_of_ble_eq_true rfl⟩, ⟨(Nat.le_of_ble_eq_true rfl), (Nat.le_of_ble_eq_true rfl)⟩⟩ hl.1 rfl (Nat.le_of_ble_eq_true rfl) dX10_findingWith_50) hP hD hS hA (fun u149 H locs hw150 hP hD hS => ?_)
        refine W.widen (k := 1) (n := 7) (Nat.le_of_ble_eq_true rfl) (Nat.le_of_ble_eq_true rfl) ?_
        obtain ⟨b151, w152, T153⟩ := u149
        obtain ⟨le154, hT, ke155, ke156, ht157⟩ : TLe T T153 ∧ TW Y Z T153 g q w152 ∧ KF 1 T ws w152 ∧ KF 6 T ws w152 ∧ T153 b151 = (6, 0, 0) := hw150
        have hk158 := ke155 _ _ hk43 (show (T p0).1 = 1 by rw [ht0])
        have ke159 : KF 1 T ws w152 := KF.tr KF.rf ke155
        refine W.eq (g2 := F0 m 53 ls [.ref b151]) rfl ?_
        refine lv_astore (lv' := [(5, .ref b151), (4, .ref b137), (3, .ref b49), (0, .ref p0), (1, .int p1), (2, .int p2)]) hx hb dX10_findingWith_53 hl (by decide) rfl (fun ls hl => ?_)
        refine lv_aload hx hb dX10_findingWith_55 (lv_at hl 0 rfl) ?_
        refine ok6 hT ht157 (fun p168 x160 x161 x162 x163 x164 y165 y166 hk169 h167 => ?_)
        refine va_getN (D := D) (ci := 1) (v := .int x160) (C := RX1) (T := TX1) (N := 7) hx hb hg inGX1 hown hKN.1 hP p168 hk169 rfl 0 (by decide) (va_Nw.use rfl (hKN.2.1 _ kn_308 rfl)) (fun _ h9 => h9) rfl dX10_findingWith_57 ?_
        refine lv_aload_n hx hb dX10_findingWith_60 rfl (lv_at hl 3 rfl) ?_
        refine va_get (D := D) (ci := 10) (v := .int x18) (C := RX10) (T := TX10) (N := 20) hx hb hg inGX10 hown hKN.1 hP p42 hk158 rfl 17 (by decide) (hg _ kw_366) (fun _ h9 => h9) rfl dX10_findingWith_61 ?_
        have j170 := rgI x160
        have j171 := rgI x18
        refine lv_icmp_eq (tgt := 116) hx hb dX10_findingWith_64 (by decide) (fun c172 => ?_) (fun c172 => ?_)
        · skip
          have c172 := i_eq (Eq.refl x160.toInt) (Eq.refl x18.toInt) c172
          refine lv_aload hx hb dX10_findingWith_116 (lv_at hl 0 rfl) ?_
          refine W.widen (k := 1) (n := 7) (Nat.le_of_ble_eq_true rfl) (Nat.le_of_ble_eq_true rfl) ?_
          exact W.aret (v := .ref b151) hx hb hr (Or.inl ⟨_, rfl⟩) (Or.inr ⟨_, rfl⟩) (fun t ht hW => ⟨⟨(b151, w152, T153), rfl, ⟨le154, hT, ke159, ht157⟩, CB.mk ht hP hD⟩, hS.F ht⟩) hS.2.2 dX10_findingWith_118
        · skip
          have c172 := i_ne (Eq.refl x160.toInt) (Eq.refl x18.toInt) c172
          refine lv_aload_n hx hb dX10_findingWith_67 rfl (lv_at hl 3 rfl) ?_
          refine va_get (D := D) (ci := 10) (v := .ref a11) (C := RX10) (T := TX10) (N := 20) hx hb hg inGX10 hown hKN.1 hP p42 hk158 rfl 10 (by decide) (hg _ kw_359) (fun _ h9 => h9) rfl dX10_findingWith_68 ?_
          refine lv_aload_n hx hb dX10_findingWith_71 rfl (lv_at hl 3 rfl) ?_
          refine va_get (D := D) (ci := 10) (v := .ref a1) (C := RX10) (T := TX10) (N := 20) hx hb hg inGX10 hown hKN.1 hP p42 hk158 rfl 0 (by decide) (hg _ kw_349) (fun _ h9 => h9) rfl dX10_findingWith_72 ?_
          refine lv_aload hx hb dX10_findingWith_75 (lv_at hl 1 rfl) ?_
          refine ok4 hT (le154.up ht138) (fun p180 x173 x174 x175 x176 x177 x178 hk181 h179 => ?_)
          refine va_getN (D := D) (ci := 9) (v := .int x173) (C := RX9) (T := TX9) (N := 6) hx hb hg inGX9 hown hKN.1 hP p180 hk181 rfl 0 (by decide) (va_Nw.use rfl (hKN.2.1 _ kn_570 rfl)) (fun _ h9 => h9) rfl dX10_findingWith_77 ?_
          refine lv_iconst (v := 0) hx hb dX10_findingWith_80 (by decide) ?_
          refine ok9 hT (le154.up h33) (fun p194 a182 a183 a184 x185 y186 y187 x188 y189 hk195 h190 h191 h192 h193 => ?_)
          refine cga (rn_NV (As := [.ref a1, .int x173, .int 0]) (rest := []) (b := a11) (x_X2_see l D Y Z H.size w152 T153 g q 0 a11 a1 x173 0 hT (le154.up h33) (le154.up h21)) ⟨hx, hb, hml, hown, hg⟩ hKN lk_X10_143 ⟨CPC.blind, va_recv hKN.1 hP (ci := 2) (q0 := p194) rfl hk195, CPC.at hP hKN hD hSZ hS hA⟩ ⟨⟨rfl, rfl⟩, ⟨Nat.le_of_ble_eq_true rfl, Nat.le_of_ble_eq_true rfl⟩, ⟨(Nat.le_of_ble_eq_true rfl), (Nat.le_of_ble_eq_true rfl)⟩⟩ hl.1 rfl (Nat.le_of_ble_eq_true rfl) dX10_findingWith_81) hP hD hS hA (fun u196 H locs hw197 hP hD hS => ?_)
          obtain ⟨hT, ke199, ke200⟩ : TW Y Z T153 g q u196 ∧ KF 1 T153 w152 u196 ∧ KF 6 T153 w152 u196 := hw197
          have hk201 := ke199 _ _ hk158 (show (T153 p0).1 = 1 by rw [(le154.up ht0)])
          have hk202 := ke200 _ _ hk169 (show (T153 b151).1 = 6 by rw [ht157])
          have ke203 : KF 1 T ws u196 := KF.tr ke159 (KF.le (by decide) le154 ke199)
          refine W.eq (g2 := F0 m 84 ls []) rfl ?_
          refine lv_aload_n hx hb dX10_findingWith_84 rfl (lv_at hl 3 rfl) ?_
          refine va_get (D := D) (ci := 10) (v := .ref a11) (C := RX10) (T := TX10) (N := 20) hx hb hg inGX10 hown hKN.1 hP p42 hk201 rfl 10 (by decide) (hg _ kw_359) (fun _ h9 => h9) rfl dX10_findingWith_85 ?_
          refine lv_aload hx hb dX10_findingWith_88 (lv_at hl 1 rfl) ?_
          refine ok9 hT (le154.up h33) (fun p216 a204 a205 a206 x207 y208 y209 x210 y211 hk217 h212 h213 h214 h215 => ?_)
          refine cga (rn_NV (As := [.ref b137]) (rest := []) (b := a11) (x_X2_addWorld l D Y Z H.size u196 T153 g q a11 b137 hT (le154.up h33) (le154.up ht138)) ⟨hx, hb, hml, hown, hg⟩ hKN lk_X10_453 ⟨CPC.blind, va_recv hKN.1 hP (ci := 2) (q0 := p216) rfl hk217, CPC.at hP hKN hD hSZ hS hA⟩ ⟨⟨rfl, rfl⟩, ⟨Nat.le_of_ble_eq_true rfl, Nat.le_of_ble_eq_true rfl⟩, ⟨(Nat.le_of_ble_eq_true rfl), (Nat.le_of_ble_eq_true rfl)⟩⟩ hl.1 rfl (Nat.le_of_ble_eq_true rfl) dX10_findingWith_90) hP hD hS hA (fun u218 H locs hw219 hP hD hS => ?_)
          obtain ⟨hT, ke221, ke222⟩ : TW Y Z T153 g q u218 ∧ KF 1 T153 u196 u218 ∧ KF 6 T153 u196 u218 := hw219
          have hk223 := ke221 _ _ hk201 (show (T153 p0).1 = 1 by rw [(le154.up ht0)])
          have hk224 := ke222 _ _ hk202 (show (T153 b151).1 = 6 by rw [ht157])
          have ke225 : KF 1 T ws u218 := KF.tr ke203 (KF.le (by decide) le154 ke221)
          refine W.eq (g2 := F0 m 93 ls []) rfl ?_
          refine lv_aload_n hx hb dX10_findingWith_93 rfl (lv_at hl 3 rfl) ?_
          refine va_get (D := D) (ci := 10) (v := .ref a12) (C := RX10) (T := TX10) (N := 20) hx hb hg inGX10 hown hKN.1 hP p42 hk223 rfl 11 (by decide) (hg _ kw_360) (fun _ h9 => h9) rfl dX10_findingWith_94 ?_
          refine lv_aload_n hx hb dX10_findingWith_97 rfl (lv_at hl 3 rfl) ?_
          refine va_get (D := D) (ci := 10) (v := .ref a11) (C := RX10) (T := TX10) (N := 20) hx hb hg inGX10 hown hKN.1 hP p42 hk223 rfl 10 (by decide) (hg _ kw_359) (fun _ h9 => h9) rfl dX10_findingWith_98 ?_
          refine lv_aload_n hx hb dX10_findingWith_101 rfl (lv_at hl 2 rfl) ?_
          refine lv_aload hx hb dX10_findingWith_102 (lv_at hl 0 rfl) ?_
          refine ok10 hT (le154.up h34) (fun p230 a226 a227 hk231 h228 h229 => ?_)
          refine cga (rn_NV (As := [.ref a11, .ref b49, .ref b151]) (rest := []) (b := a12) (x_X0_find l D Y Z H.size u218 T153 g q a12 a11 b49 b151 hT (le154.up h34) (le154.up h33) (le154.up ht94) ht157) ⟨hx, hb, hml, hown, hg⟩ hKN lk_X10_372 ⟨CPC.blind, va_recv hKN.1 hP (ci := 0) (q0 := p230) rfl hk231, CPC.at hP hKN hD hSZ hS hA⟩ ⟨⟨rfl, rfl⟩, ⟨Nat.le_of_ble_eq_true rfl, Nat.le_of_ble_eq_true rfl⟩, ⟨(Nat.le_of_ble_eq_true rfl), (Nat.le_of_ble_eq_true rfl)⟩⟩ hl.1 rfl (Nat.le_of_ble_eq_true rfl) dX10_findingWith_104) hP hD hS hA (fun u232 H locs hw233 hP hD hS => ?_)
          obtain ⟨hT, ke235⟩ : TW Y Z T153 g q u232 ∧ KF 1 T153 u218 u232 := hw233
          have hk236 := ke235 _ _ hk223 (show (T153 p0).1 = 1 by rw [(le154.up ht0)])
          have ke237 : KF 1 T ws u232 := KF.tr ke225 (KF.le (by decide) le154 ke235)
          refine W.eq (g2 := F0 m 107 ls []) rfl ?_
          refine lv_aload hx hb dX10_findingWith_107 (lv_at hl 0 rfl) ?_
          refine lv_aload_n hx hb dX10_findingWith_109 rfl (lv_at hl 3 rfl) ?_
          refine va_get (D := D) (ci := 10) (v := .int x18) (C := RX10) (T := TX10) (N := 20) hx hb hg inGX10 hown hKN.1 hP p42 hk236 rfl 17 (by decide) (hg _ kw_366) (fun _ h9 => h9) rfl dX10_findingWith_110 ?_
          refine ok6 hT ht157 (fun p246 x238 x239 x240 x241 x242 y243 y244 hk247 h245 => ?_)
          refine va_putN (D := D) (ci := 1) (v := .int x18) (ty := .int) (C := RX1) (T := TX1) (N := 7) hx hb hg inGX1 tyX1 tyX1_ok nmX1 hown hKN.1 hP hD hS p246 hk247 rfl 0 (by decide) (va_Nw.use rfl (hKN.2.1 _ kn_308 rfl)) (fun _ h9 => h9) rfl (by decide +kernel) rfl rfl (Nat.le_of_ble_eq_true rfl) dX10_findingWith_113 (fun H locs hP hD2 hS => ?_)
          obtain ⟨w248, hP, hD, hT, hk250, kp249⟩ : ∃ wz, va_P D vwCl wz H ∧ va_D A wz ∧ TW Y Z T153 g q wz ∧ wz[p246]? = some (b151, .inr (1, [.int x18, .int x239, .int x240, .int x241, .int x242, .long y243, .long y244])) ∧ Kp b151 u232 wz := ⟨_, hP, hD2, st6 hT hD hk247 ht157 ⟨x18, x239, x240, x241, x242, y243, y244, rfl, by omega⟩, sw_eq hk247, sw_kp hk247⟩
          have ke251 : KF 1 T ws w248 := KF.tr ke237 (KF.le (by decide) le154 (KF.kp kp249 ht157 (by decide)))
          have hk252 := kp249 _ _ hk236 (rne (le154.up ht0) ht157 (by decide))
          refine lv_aload hx hb dX10_findingWith_116 (lv_at hl 0 rfl) ?_
          refine W.widen (k := 1) (n := 7) (Nat.le_of_ble_eq_true rfl) (Nat.le_of_ble_eq_true rfl) ?_
          exact W.aret (v := .ref b151) hx hb hr (Or.inl ⟨_, rfl⟩) (Or.inr ⟨_, rfl⟩) (fun t ht hW => ⟨⟨(b151, w248, T153), rfl, ⟨le154, hT, ke251, ht157⟩, CB.mk ht hP hD⟩, hS.F ht⟩) hS.2.2 dX10_findingWith_118
      · obtain rfl : u140 = 0 := i_is c145 (by decide)
        refine W.eq (g2 := F0 m 32 ls [.int 0]) rfl ?_
        refine lv_if_ne (tgt := 40) hx hb dX10_findingWith_32 (by decide) (fun c253 => ?_) (fun c253 => ?_)
        · exact absurd c253 (by decide)
        refine lv_aload_n hx hb dX10_findingWith_35 rfl (lv_at hl 2 rfl) ?_
        refine va_get (D := D) (ci := 10) (v := .ref a14) (C := RX10) (T := TX10) (N := 20) hx hb hg inGX10 hown hKN.1 hP p42 hk43 rfl 13 (by decide) (hg _ kw_362) (fun _ h9 => h9) rfl dX10_findingWith_36 ?_
        refine W.widen (k := 1) (n := 7) (Nat.le_of_ble_eq_true rfl) (Nat.le_of_ble_eq_true rfl) ?_
        exact W.aret (v := .ref a14) hx hb hr (Or.inl ⟨_, rfl⟩) (Or.inr ⟨_, rfl⟩) (fun t ht hW => ⟨⟨(a14, ws, T), rfl, ⟨TLe.rf, hT, KF.rf, h36⟩, CB.mk ht hP hD⟩, hS.F ht⟩) hS.2.2 dX10_findingWith_39
set_option maxHeartbeats 4000000 in
set_option maxRecDepth 100000 in
theorem x_X10_caughtFrom (l : Launch) (D : va_G) (Y : Nat → ClassId) (Z : Nat → Nat) (sz : Nat) (ws : va_W) (T : RT) (g : GN) (q : GQ)  (p0 : Nat) (p1 : Int32) (p2 : Int32) (hT : TW Y Z T g q ws) (ht0 : T p0 = (1, 0, 0)) : Met l yX10_caughtFrom (.code yX10_caughtFrom cX10_caughtFrom 6 (some .int) :: GW) ({ frames := 5, cells := 40, slots := 280, locals := 132 }) (va_Pc [.ref p0, .int p1, .int p2] (CPC D Y Z ws sz)) (QG (S := Int32 × va_W × RT) (fun u => some (.int u.1)) (fun u => TLe T u.2.2 ∧ TW Y Z u.2.2 g q u.2.1 ∧ KF 1 T ws u.2.1) (fun u => CB D u.2.1 (va_A ws sz)) (va_A ws sz)) 40 280 (va_A ws sz) := by
  refine Met.ofW (cc := cX10_caughtFrom) (maxL := 6) (ret := (some .int)) (by decide) rfl ?_
  intro p e s m args below meth c s₁ B hml hv
  obtain ⟨rfl, ⟨hsz, hP, hKN, hD0⟩, hSZ⟩ := hv
  have hx := B.exec
  have hb := B.bytes
  have hr := B.returns
  have hts := atoms_spec (ws := .code yX10_caughtFrom cX10_caughtFrom 6 (some .int) :: GW) B.pre
  have hg : ∀ w ∈ GW, w.before _ s = true := fun w h => hts w (List.mem_cons_of_mem _ h)
  have hown : s.vm.findClass RX10 = some m.cls := findClass_of_methodNamed B.named
  have hlocks := B.notSynchronized
  subst hsz
  have hD := hD0.self (sz := s.heap.size)
  generalize hAe : va_A ws s.heap.size = A at hD hSZ ⊢
  have hA : ∀ q : Nat, s.heap.size ≤ q → A q := fun q h => by rw [← hAe]; exact Or.inr h
  clear hAe hD0 hts B
  have hl := lv_entry ([.ref p0, .int p1, .int p2]) (n := 6) (Nat.le_of_ble_eq_true rfl)
  rw [lg_entry_eq]
  generalize (lg_sl ([.ref p0, .int p1, .int p2]) ++ List.replicate (6 - (lg_sl ([.ref p0, .int p1, .int p2])).length) Slot.unset).toArray = ls at hl ⊢
  have hl : lv_has ls 6 [(0, .ref p0), (1, .int p1), (2, .int p2)] := hl
  refine w_start (A0 := A) hP (fun H locs hP hS => ?_)
  refine lv_iconst (v := 0) hx hb dX10_caughtFrom_0 (by decide) ?_
  refine lv_istore_n (lv' := [(3, .int 0), (0, .ref p0), (1, .int p1), (2, .int p2)]) hx hb dX10_caughtFrom_1 rfl hl (by decide) rfl (fun ls hl => ?_)
  refine lv_iconst (v := 0) hx hb dX10_caughtFrom_2 (by decide) ?_
  refine lv_istore (lv' := [(4, .int 0), (3, .int 0), (0, .ref p0), (1, .int p1), (2, .int p2)]) hx hb dX10_caughtFrom_3 hl (by decide) rfl (fun ls hl => ?_)
  have zi0 : (0 : Int32).toInt = 0 := by decide
  refine w_loopC (σ := Int32 × Int32 × va_W × RT) (al := 1) (sl := 7) (M := 40) (fun xx H locs ls => match xx with | (v135, v136, w137, T138) => va_P D vwCl w137 H ∧ va_D A w137 ∧ va_S A s.heap H locs ∧ lv_has ls 6 [(4, .int v135), (3, .int v136), (0, .ref p0), (1, .int p1), (2, .int p2)] ∧ TW Y Z T138 g q w137 ∧ TLe T T138 ∧ KF 1 T ws w137 ∧ (0 ≤ v135.toInt ∧ v135.toInt ≤ 40)) (fun xx => match xx with | (v135, v136, w137, T138) => (40 - v135.toInt).toNat) (0, 0, ws, T) ⟨hP, hD, hS, lv_sub hl [0, 1, 2, 3, 4] rfl, hT, TLe.rf, KF.rf, by omega⟩ (by show (40 - (0 : Int32).toInt).toNat ≤ 40; omega) (fun xx bd278 sd279 H locs ls hI hbbd278 ih => ?_)
  obtain ⟨v135, v136, w137, T138⟩ := xx
  obtain ⟨hP, hD, hS, hl, hT, le281, ke282, hq280⟩ := hI
  have hbbd278 : bd278 + 1 * ((40 - v135.toInt).toNat) ≤ 0 + 1 * 40 ∧ sd279 + 7 * ((40 - v135.toInt).toNat) ≤ 0 + 7 * 40 := hbbd278
  have ih283 := ih
  refine lv_iload hx hb dX10_caughtFrom_5 (lv_at hl 0 rfl) ?_
  refine lv_aload_n hx hb dX10_caughtFrom_7 rfl (lv_at hl 2 rfl) ?_
  refine ok1 hT (le281.up ht0) (fun p325 a284 a285 a286 a287 a288 x289 x290 x291 a292 a293 a294 a295 a296 a297 a298 a299 a300 x301 a302 a303 hk326 h304 h305 h306 h307 h308 h309 h310 h311 h312 h313 h314 h315 h316 h317 h318 h319 h320 h321 h322 h323 h324 => ?_)
  refine va_get (D := D) (ci := 10) (v := .ref a284) (C := RX10) (T := TX10) (N := 20) hx hb hg inGX10 hown hKN.1 hP p325 hk326 rfl 0 (by decide) (hg _ kw_349) (fun _ h9 => h9) rfl dX10_caughtFrom_8 ?_
  refine ok2 hT h304 (fun p361 x327 a328 x329 a330 x331 a332 a333 x334 a335 a336 x337 a338 x339 hk362 h340 h341 h342 h343 h344 h345 h346 h347 h348 h349 h350 h351 h352 h353 h354 h355 h356 h357 h358 h359 h360 => ?_)
  refine va_getN (D := D) (ci := 6) (v := .int x329) (C := RX6) (T := TX6) (N := 13) hx hb hg inGX6 hown hKN.1 hP p361 hk362 rfl 2 (by decide) (va_Nw.use rfl (hKN.2.1 _ kn_44 rfl)) (fun _ h9 => h9) rfl dX10_caughtFrom_11 ?_
  refine lv_icmp_ge (tgt := 69) hx hb dX10_caughtFrom_14 (by decide) (fun c363 => ?_) (fun c363 => ?_)
  · skip
    have c363 := i_le (Eq.refl x329.toInt) (Eq.refl v135.toInt) c363
    refine lv_iload_n hx hb dX10_caughtFrom_69 rfl (lv_at hl 1 rfl) ?_
    refine W.widen (k := 40) (n := 280) (by omega) (by omega) ?_
    exact W.iret (v := v136) hx hb hr (fun t ht hW => ⟨⟨(v136, w137, T138), rfl, ⟨le281, hT, ke282⟩, CB.mk ht hP hD⟩, hS.F ht⟩) hS.2.2 dX10_caughtFrom_70
  · skip
    have c363 := i_nle (Eq.refl x329.toInt) (Eq.refl v135.toInt) c363
    refine lv_aload_n hx hb dX10_caughtFrom_17 rfl (lv_at hl 2 rfl) ?_
    refine va_get (D := D) (ci := 10) (v := .ref a284) (C := RX10) (T := TX10) (N := 20) hx hb hg inGX10 hown hKN.1 hP p325 hk326 rfl 0 (by decide) (hg _ kw_349) (fun _ h9 => h9) rfl dX10_caughtFrom_18 ?_
    refine lv_iload hx hb dX10_caughtFrom_21 (lv_at hl 0 rfl) ?_
    refine cga (rn_NV (As := [.int v135]) (rest := []) (b := a284) (x_X6_worldAt l D Y Z H.size w137 T138 g q 0 a284 v135 hT h304) ⟨hx, hb, hml, hown, hg⟩ hKN lk_X10_280 ⟨CPC.blind, va_recv hKN.1 hP (ci := 6) (q0 := p361) rfl hk362, CPC.at hP hKN hD hSZ hS hA⟩ ⟨⟨rfl, rfl⟩, ⟨Nat.le_of_ble_eq_true rfl, Nat.le_of_ble_eq_true rfl⟩, ⟨(show _ ≤ (40 : Nat) by omega), (show _ ≤ (280 : Nat) by omega)⟩⟩ hl.1 rfl (Nat.le_of_ble_eq_true rfl) dX10_caughtFrom_23) hP hD hS hA (fun u364 H locs hw365 hP hD hS => ?_)
    obtain ⟨ht367, hw368⟩ : (∀ b, u364 = some b → T138 b = (4, 0, 0)) ∧ (∀ b, u364 = some b → 0 ≤ v135.toInt ∧ v135.toInt ≤ 39) := hw365
    refine W.eq (g2 := F0 m 26 ls [va_rf u364]) rfl ?_
    rcases u364 with _ | b369
    · skip
      refine W.eq (g2 := F0 m 26 ls [.null]) rfl ?_
      refine lv_astoreN (lv' := [(5, .null), (4, .int v135), (3, .int v136), (0, .ref p0), (1, .int p1), (2, .int p2)]) hx hb dX10_caughtFrom_26 hl (by decide) rfl (fun ls hl => ?_)
      refine lv_aloadN hx hb dX10_caughtFrom_28 (lv_at hl 0 rfl) ?_
      refine lv_ifnullN (tgt := 63) hx hb dX10_caughtFrom_30 (by decide) ?_
      obtain ⟨v370, ev370⟩ : ∃ y : Int32, y = v135 + 1 := ⟨_, rfl⟩
      have hv370 := i_add (Eq.refl v135.toInt) (show (1 : Int32).toInt = 1 by decide) ev370 (by omega) (by omega)
      refine lv_iinc (v := v370) (lv' := [(4, .int v370), (5, .null), (3, .int v136), (0, .ref p0), (1, .int p1), (2, .int p2)]) hx hb dX10_caughtFrom_63 hl (k := 1) rfl (by rw [ev370]; rfl) (by decide) rfl (fun ls hl => ?_)
      refine lv_goto (tgt := 5) hx hb dX10_caughtFrom_66 (by decide) ?_
      exact ih283 (v370, v136, w137, T138) _ _ H locs ls (by show (40 - v370.toInt).toNat < (40 - v135.toInt).toNat; omega) (by show (bd278 + 0) + 1 * ((40 - v370.toInt).toNat) ≤ 0 + 1 * 40 ∧ (sd279 + 0) + 7 * ((40 - v370.toInt).toNat) ≤ 0 + 7 * 40; omega) ⟨hP, hD, hS, lv_sub hl [0, 2, 3, 4, 5] rfl, hT, le281, ke282, by omega⟩
    · skip
      have ht371 := ht367 b369 rfl
      have h372 := hw368 b369 rfl
      refine W.eq (g2 := F0 m 26 ls [.ref b369]) rfl ?_
      refine lv_astore (lv' := [(5, .ref b369), (4, .int v135), (3, .int v136), (0, .ref p0), (1, .int p1), (2, .int p2)]) hx hb dX10_caughtFrom_26 hl (by decide) rfl (fun ls hl => ?_)
      refine lv_aload hx hb dX10_caughtFrom_28 (lv_at hl 0 rfl) ?_
      refine lv_ifnull hx hb dX10_caughtFrom_30 ?_
      refine lv_aload hx hb dX10_caughtFrom_33 (lv_at hl 0 rfl) ?_
      refine ok4 hT ht371 (fun p380 x373 x374 x375 x376 x377 x378 hk381 h379 => ?_)
      refine va_getN (D := D) (ci := 9) (v := .int x378) (C := RX9) (T := TX9) (N := 6) hx hb hg inGX9 hown hKN.1 hP p380 hk381 rfl 5 (by decide) (va_Nw.use rfl (hKN.2.1 _ kn_581 rfl)) (fun _ h9 => h9) rfl dX10_caughtFrom_35 ?_
      refine lv_if_eq (tgt := 63) hx hb dX10_caughtFrom_38 (by decide) (fun c382 => ?_) (fun c382 => ?_)
      · skip
        have c382 := i_eq (Eq.refl x378.toInt) (show (0 : Int32).toInt = 0 by decide) c382
        obtain ⟨v383, ev383⟩ : ∃ y : Int32, y = v135 + 1 := ⟨_, rfl⟩
        have hv383 := i_add (Eq.refl v135.toInt) (show (1 : Int32).toInt = 1 by decide) ev383 (by omega) (by omega)
        refine lv_iinc (v := v383) (lv' := [(4, .int v383), (5, .ref b369), (3, .int v136), (0, .ref p0), (1, .int p1), (2, .int p2)]) hx hb dX10_caughtFrom_63 hl (k := 1) rfl (by rw [ev383]; rfl) (by decide) rfl (fun ls hl => ?_)
        refine lv_goto (tgt := 5) hx hb dX10_caughtFrom_66 (by decide) ?_
        exact ih283 (v383, v136, w137, T138) _ _ H locs ls (by show (40 - v383.toInt).toNat < (40 - v135.toInt).toNat; omega) (by show (bd278 + 0) + 1 * ((40 - v383.toInt).toNat) ≤ 0 + 1 * 40 ∧ (sd279 + 0) + 7 * ((40 - v383.toInt).toNat) ≤ 0 + 7 * 40; omega) ⟨hP, hD, hS, lv_sub hl [0, 2, 3, 4, 5] rfl, hT, le281, ke282, by omega⟩
      · skip
        have c382 := i_ne (Eq.refl x378.toInt) (show (0 : Int32).toInt = 0 by decide) c382
        refine lv_aload_n hx hb dX10_caughtFrom_41 rfl (lv_at hl 3 rfl) ?_
        refine lv_iload_n hx hb dX10_caughtFrom_42 rfl (lv_at hl 4 rfl) ?_
        refine lv_iload hx hb dX10_caughtFrom_43 (lv_at hl 1 rfl) ?_
        refine cga (rn_V (As := [.int p1, .int v135]) (rest := []) (b := p0) (x_X10_findingWith l D Y Z H.size w137 T138 g q p0 p1 v135 hT (le281.up ht0)) ⟨hx, hb, hml, hown, hg⟩ lk_X10_288 ⟨CPC.blind, va_recv hKN.1 hP (ci := 10) (q0 := p325) rfl hk326, CPC.at hP hKN hD hSZ hS hA⟩ ⟨⟨rfl, rfl⟩, ⟨Nat.le_of_ble_eq_true rfl, Nat.le_of_ble_eq_true rfl⟩, ⟨(show _ ≤ (40 : Nat) by omega), (show _ ≤ (280 : Nat) by omega)⟩⟩ hl.1 rfl (Nat.le_of_ble_eq_true rfl) dX10_caughtFrom_45) hP hD hS hA (fun u384 H locs hw385 hP hD hS => ?_)
        refine W.widen (k := (bd278 + 1)) (n := (sd279 + 7)) (by omega) (by omega) ?_
        obtain ⟨b386, w387, T388⟩ := u384
        obtain ⟨le389, hT, ke390, ht391⟩ : TLe T138 T388 ∧ TW Y Z T388 g q w387 ∧ KF 1 T138 w137 w387 ∧ T388 b386 = (6, 0, 0) := hw385
        have hk392 := ke390 _ _ hk326 (show (T138 p0).1 = 1 by rw [(le281.up ht0)])
        have ke393 : KF 1 T ws w387 := KF.tr ke282 (KF.le (by decide) le281 ke390)
        refine W.eq (g2 := F0 m 48 ls [.ref b386]) rfl ?_
        refine lv_aload hx hb dX10_caughtFrom_48 (lv_at hl 0 rfl) ?_
        refine ok4 hT (le389.up ht371) (fun p401 x394 x395 x396 x397 x398 x399 hk402 h400 => ?_)
        refine va_getN (D := D) (ci := 9) (v := .int x395) (C := RX9) (T := TX9) (N := 6) hx hb hg inGX9 hown hKN.1 hP p401 hk402 rfl 1 (by decide) (va_Nw.use rfl (hKN.2.1 _ kn_572 rfl)) (fun _ h9 => h9) rfl dX10_caughtFrom_50 ?_
        refine lv_iload_n hx hb dX10_caughtFrom_53 rfl (lv_at hl 5 rfl) ?_
        refine ok6 hT ht391 (fun p411 x403 x404 x405 x406 x407 y408 y409 hk412 h410 => ?_)
        refine cga (rn_NV (As := [.int x395, .int p2]) (rest := []) (b := b386) (x_X1_isSeenWith l D Y Z H.size w387 T388 g q b386 x395 p2 hT ht391) ⟨hx, hb, hml, hown, hg⟩ hKN lk_X10_295 ⟨CPC.blind, va_recv hKN.1 hP (ci := 1) (q0 := p411) rfl hk412, CPC.at hP hKN hD hSZ hS hA⟩ ⟨⟨rfl, rfl⟩, ⟨Nat.le_of_ble_eq_true rfl, Nat.le_of_ble_eq_true rfl⟩, ⟨(show _ ≤ (40 : Nat) by omega), (show _ ≤ (280 : Nat) by omega)⟩⟩ hl.1 rfl (Nat.le_of_ble_eq_true rfl) dX10_caughtFrom_54) hP hD hS hA (fun u413 H locs hw414 hP hD hS => ?_)
        have hw416 : (0 ≤ u413.toInt ∧ u413.toInt ≤ 1) := hw414
        refine W.eq (g2 := F0 m 57 ls [.int u413]) rfl ?_
        rcases (show u413.toInt = 1 ∨ u413.toInt = 0 by omega) with c417 | c417
        · obtain rfl : u413 = 1 := i_is c417 (by decide)
          have zi1 : (1 : Int32).toInt = 1 := by decide
          refine W.eq (g2 := F0 m 57 ls [.int 1]) rfl ?_
          refine lv_if_eq (tgt := 63) hx hb dX10_caughtFrom_57 (by decide) (fun c418 => ?_) (fun c418 => ?_)
          · exact absurd c418 (by decide)
          obtain ⟨v419, ev419⟩ : ∃ y : Int32, y = v136 + 1 := ⟨_, rfl⟩
          refine lv_iinc (v := v419) (lv' := [(3, .int v419), (5, .ref b369), (4, .int v135), (0, .ref p0), (1, .int p1), (2, .int p2)]) hx hb dX10_caughtFrom_60 hl (k := 2) rfl (by rw [ev419]; rfl) (by decide) rfl (fun ls hl => ?_)
          obtain ⟨v420, ev420⟩ : ∃ y : Int32, y = v135 + 1 := ⟨_, rfl⟩
          have hv420 := i_add (Eq.refl v135.toInt) (show (1 : Int32).toInt = 1 by decide) ev420 (by omega) (by omega)
          refine lv_iinc (v := v420) (lv' := [(4, .int v420), (3, .int v419), (5, .ref b369), (0, .ref p0), (1, .int p1), (2, .int p2)]) hx hb dX10_caughtFrom_63 hl (k := 2) rfl (by rw [ev420]; rfl) (by decide) rfl (fun ls hl => ?_)
          refine lv_goto (tgt := 5) hx hb dX10_caughtFrom_66 (by decide) ?_
          exact ih283 (v420, v419, w387, T388) _ _ H locs ls (by show (40 - v420.toInt).toNat < (40 - v135.toInt).toNat; omega) (by show (bd278 + 1) + 1 * ((40 - v420.toInt).toNat) ≤ 0 + 1 * 40 ∧ (sd279 + 7) + 7 * ((40 - v420.toInt).toNat) ≤ 0 + 7 * 40; omega) ⟨hP, hD, hS, lv_sub hl [0, 1, 3, 4, 5] rfl, hT, (le281.tr le389), ke393, by omega⟩
        · obtain rfl : u413 = 0 := i_is c417 (by decide)
          have zi0 : (0 : Int32).toInt = 0 := by decide
          refine W.eq (g2 := F0 m 57 ls [.int 0]) rfl ?_
          refine lv_if_eq (tgt := 63) hx hb dX10_caughtFrom_57 (by decide) (fun c421 => ?_) (fun c421 => ?_)
          rotate_left
          · exact absurd c421 (by decide)
          obtain ⟨v422, ev422⟩ : ∃ y : Int32, y = v135 + 1 := ⟨_, rfl⟩
          have hv422 := i_add (Eq.refl v135.toInt) (show (1 : Int32).toInt = 1 by decide) ev422 (by omega) (by omega)
          refine lv_iinc (v := v422) (lv' := [(4, .int v422), (5, .ref b369), (3, .int v136), (0, .ref p0), (1, .int p1), (2, .int p2)]) hx hb dX10_caughtFrom_63 hl (k := 1) rfl (by rw [ev422]; rfl) (by decide) rfl (fun ls hl => ?_)
          refine lv_goto (tgt := 5) hx hb dX10_caughtFrom_66 (by decide) ?_
          exact ih283 (v422, v136, w387, T388) _ _ H locs ls (by show (40 - v422.toInt).toNat < (40 - v135.toInt).toNat; omega) (by show (bd278 + 1) + 1 * ((40 - v422.toInt).toNat) ≤ 0 + 1 * 40 ∧ (sd279 + 7) + 7 * ((40 - v422.toInt).toNat) ≤ 0 + 7 * 40; omega) ⟨hP, hD, hS, lv_sub hl [0, 2, 3, 4, 5] rfl, hT, (le281.tr le389), ke393, by omega⟩
