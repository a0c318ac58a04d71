set_option maxHeartbeats 4000000 in
set_option maxRecDepth 100000 in
theorem x_nightsC (l : Launch) (D : va_G) (Y : Nat → ClassId) (Z : Nat → Nat) (sz : Nat) (ws : va_W) (T : RT) (g : GN) (q : GQ)  (p0 : Nat) (p1 : Int32) (p2 : Int32) (hT : TW Y Z T g q ws) (ht0 : T p0 = (1, 0, 0)) : Met l yX10_nights (.code yX10_nights cX10_nights 10 (some .int) :: GW) ({ frames := 2, cells := 0, slots := 0, locals := 46 }) (va_Pc [.ref p0, .int p1, .int p2] (CPC D Y Z ws sz)) (QG (S := Int32) (fun u => some (.int u)) (fun u => (∀ s0 na wa, q p0 0 = some s0 → q s0 5 = some na → q s0 6 = some wa → (((0 ≤ p1.toInt ∧ p1.toInt ≤ 9999) ∧ (0 ≤ p2.toInt ∧ p2.toInt ≤ 1)) ∧ u = pickN p1 p2 (g na) (g wa) (g s0 4).toInt.toNat) ∨ (¬ ((0 ≤ p1.toInt ∧ p1.toInt ≤ 9999) ∧ (0 ≤ p2.toInt ∧ p2.toInt ≤ 1)) ∧ u.toInt = -1))) (fun u => CB D ws (va_A ws sz)) (va_A ws sz)) 0 0 (va_A ws sz) := by
  refine Met.ofW (cc := cX10_nights) (maxL := 10) (ret := (some .int)) (by decide) rfl ?_
  intro p e s m args below meth c s₁ B hml hv
  obtain ⟨rfl, ⟨hsz, hP, hKN, hD0⟩, hSZ⟩ := hv
  have hx := B.exec
  have hb := B.bytes
  have hr := B.returns
  have hts := atoms_spec (ws := .code yX10_nights cX10_nights 10 (some .int) :: GW) B.pre
  have hg : ∀ w ∈ GW, w.before _ s = true := fun w h => hts w (List.mem_cons_of_mem _ h)
  have hown : s.vm.findClass RX10 = some m.cls := findClass_of_methodNamed B.named
  have hlocks := B.notSynchronized
  subst hsz
  have hD := hD0.self (sz := s.heap.size)
  generalize hAe : va_A ws s.heap.size = A at hD hSZ ⊢
  have hA : ∀ q : Nat, s.heap.size ≤ q → A q := fun q h => by rw [← hAe]; exact Or.inr h
  clear hAe hD0 hts B
  have hl := lv_entry ([.ref p0, .int p1, .int p2]) (n := 10) (Nat.le_of_ble_eq_true rfl)
  rw [lg_entry_eq]
  generalize (lg_sl ([.ref p0, .int p1, .int p2]) ++ List.replicate (10 - (lg_sl ([.ref p0, .int p1, .int p2])).length) Slot.unset).toArray = ls at hl ⊢
  have hl : lv_has ls 10 [(0, .ref p0), (1, .int p1), (2, .int p2)] := hl
  refine w_start (A0 := A) hP (fun H locs hP hS => ?_)
  refine ok1 hT ht0 (fun p42 a1 a2 a3 a4 a5 x6 x7 x8 a9 a10 a11 a12 a13 a14 a15 a16 a17 x18 a19 a20 hk43 h21 h22 h23 h24 h25 h26 h27 h28 h29 h30 h31 h32 h33 h34 h35 h36 h37 h38 h39 h40 h41 => ?_)
  refine ok2 hT h21 (fun p78 x44 a45 x46 a47 x48 a49 a50 x51 a52 a53 x54 a55 x56 hk79 h57 h58 h59 h60 h61 h62 h63 h64 h65 h66 h67 h68 h69 h70 h71 h72 h73 h74 h75 h76 h77 => ?_)
  refine lv_iload_n hx hb dX10_nights_0 rfl (lv_at hl 1 rfl) ?_
  refine lv_iconst (v := 0) hx hb dX10_nights_1 (by decide) ?_
  refine lv_sipush (v := 9999) hx hb dX10_nights_2 (by decide) ?_
  have zi0 : (0 : Int32).toInt = 0 := by decide
  have zi9999 : (9999 : Int32).toInt = 9999 := by decide
  refine cg0 (rn_S (As := [.int p1, .int 0, .int 9999]) (rest := []) (x_X10_isWithin l D Y Z H.size p1 0 9999) ⟨hx, hb, hml, hown, hg⟩ lk_X10_100 ⟨CP.blind, CP.at nilP hKN (nilD (A := fun _ => True))⟩ ⟨⟨rfl, rfl⟩, ⟨Nat.le_of_ble_eq_true rfl, Nat.le_of_ble_eq_true rfl⟩, ⟨(Nat.le_of_ble_eq_true rfl), (Nat.le_of_ble_eq_true rfl)⟩⟩ hl.1 rfl (Nat.le_of_ble_eq_true rfl) dX10_nights_5) hP hS hA (fun u80 H locs hw81 hP hS => ?_)
  obtain ⟨hw83, hw84⟩ : (((0 : Int32).toInt ≤ p1.toInt ∧ p1.toInt ≤ (9999 : Int32).toInt ∧ u80.toInt = 1) ∨ (¬ ((0 : Int32).toInt ≤ p1.toInt ∧ p1.toInt ≤ (9999 : Int32).toInt) ∧ u80.toInt = 0)) ∧ (0 ≤ u80.toInt ∧ u80.toInt ≤ 1) := hw81
  refine W.eq (g2 := F0 m 8 ls [.int u80]) rfl ?_
  rcases (show u80.toInt = 1 ∨ u80.toInt = 0 by omega) with c85 | c85
  · obtain rfl : u80 = 1 := i_is c85 (by decide)
    have zi1 : (1 : Int32).toInt = 1 := by decide
    refine W.eq (g2 := F0 m 8 ls [.int 1]) rfl ?_
    refine lv_if_eq (tgt := 20) hx hb dX10_nights_8 (by decide) (fun c86 => ?_) (fun c86 => ?_)
    · exact absurd c86 (by decide)
    refine lv_iload_n hx hb dX10_nights_11 rfl (lv_at hl 2 rfl) ?_
    refine lv_iconst (v := 0) hx hb dX10_nights_12 (by decide) ?_
    refine lv_iconst (v := 1) hx hb dX10_nights_13 (by decide) ?_
    refine cg0 (rn_S (As := [.int p2, .int 0, .int 1]) (rest := []) (x_X10_isWithin l D Y Z H.size p2 0 1) ⟨hx, hb, hml, hown, hg⟩ lk_X10_100 ⟨CP.blind, CP.at nilP hKN (nilD (A := fun _ => True))⟩ ⟨⟨rfl, rfl⟩, ⟨Nat.le_of_ble_eq_true rfl, Nat.le_of_ble_eq_true rfl⟩, ⟨(Nat.le_of_ble_eq_true rfl), (Nat.le_of_ble_eq_true rfl)⟩⟩ hl.1 rfl (Nat.le_of_ble_eq_true rfl) dX10_nights_14) hP hS hA (fun u87 H locs hw88 hP hS => ?_)
    obtain ⟨hw90, hw91⟩ : (((0 : Int32).toInt ≤ p2.toInt ∧ p2.toInt ≤ (1 : Int32).toInt ∧ u87.toInt = 1) ∨ (¬ ((0 : Int32).toInt ≤ p2.toInt ∧ p2.toInt ≤ (1 : Int32).toInt) ∧ u87.toInt = 0)) ∧ (0 ≤ u87.toInt ∧ u87.toInt ≤ 1) := hw88
    refine W.eq (g2 := F0 m 17 ls [.int u87]) rfl ?_
    rcases (show u87.toInt = 1 ∨ u87.toInt = 0 by omega) with c92 | c92
    · obtain rfl : u87 = 1 := i_is c92 (by decide)
      refine W.eq (g2 := F0 m 17 ls [.int 1]) rfl ?_
      refine lv_if_ne (tgt := 22) hx hb dX10_nights_17 (by decide) (fun c93 => ?_) (fun c93 => ?_)
      rotate_left
      · exact absurd c93 (by decide)
      refine lv_iconst (v := 0) hx hb dX10_nights_22 (by decide) ?_
      refine lv_istore_n (lv' := [(3, .int 0), (0, .ref p0), (1, .int p1), (2, .int p2)]) hx hb dX10_nights_23 rfl hl (by decide) rfl (fun ls hl => ?_)
      refine lv_iconst (v := 0) hx hb dX10_nights_24 (by decide) ?_
      refine lv_istore (lv' := [(4, .int 0), (3, .int 0), (0, .ref p0), (1, .int p1), (2, .int p2)]) hx hb dX10_nights_25 hl (by decide) rfl (fun ls hl => ?_)
      refine lv_iconst (v := 0) hx hb dX10_nights_27 (by decide) ?_
      refine lv_istore (lv' := [(5, .int 0), (4, .int 0), (3, .int 0), (0, .ref p0), (1, .int p1), (2, .int p2)]) hx hb dX10_nights_28 hl (by decide) rfl (fun ls hl => ?_)
      refine lv_iconst (v := 0) hx hb dX10_nights_30 (by decide) ?_
      refine lv_istore (lv' := [(6, .int 0), (5, .int 0), (4, .int 0), (3, .int 0), (0, .ref p0), (1, .int p1), (2, .int p2)]) hx hb dX10_nights_31 hl (by decide) rfl (fun ls hl => ?_)
      refine lv_iconst (v := 0) hx hb dX10_nights_33 (by decide) ?_
      refine lv_istore (lv' := [(7, .int 0), (6, .int 0), (5, .int 0), (4, .int 0), (3, .int 0), (0, .ref p0), (1, .int p1), (2, .int p2)]) hx hb dX10_nights_34 hl (by decide) rfl (fun ls hl => ?_)
      refine lv_iconst (v := 1) hx hb dX10_nights_36 (by decide) ?_
      refine lv_istore (lv' := [(8, .int 1), (7, .int 0), (6, .int 0), (5, .int 0), (4, .int 0), (3, .int 0), (0, .ref p0), (1, .int p1), (2, .int p2)]) hx hb dX10_nights_37 hl (by decide) rfl (fun ls hl => ?_)
      refine w_loop (σ := Int32 × Int32 × Int32 × Int32 × Int32 × Int32) (fun xx H locs ls => match xx with | (v124, v125, v126, v127, v128, v129) => va_P D vwCl ws H ∧ va_D A ws ∧ va_S A s.heap H locs ∧ lv_has ls 10 [(8, .int v124), (7, .int v125), (6, .int v126), (5, .int v127), (4, .int v128), (3, .int v129), (0, .ref p0), (1, .int p1), (2, .int p2)] ∧ TW Y Z T g q ws ∧ (CBS p1 (g a49) (g a50) x48.toInt.toNat v124 v129 v128 v127 v126 v125) ∧ (1 ≤ v124.toInt)) (fun xx => match xx with | (v124, v125, v126, v127, v128, v129) => (2147483647 - v124.toInt).toNat) (1, 0, 0, 0, 0, 0) ⟨hP, hD, hS, lv_sub hl [0, 1, 2, 3, 4, 5, 6, 7, 8] rfl, hT, CBS.one, by omega⟩ (fun xx H locs ls hI ih => ?_)
      obtain ⟨v124, v125, v126, v127, v128, v129⟩ := xx
      obtain ⟨hP, hD, hS, hl, hT, hv170, hq169⟩ := hI
      have ih171 := ih
      refine lv_iload hx hb dX10_nights_39 (lv_at hl 0 rfl) ?_
      refine lv_iconst (v := 1) hx hb dX10_nights_41 (by decide) ?_
      refine lv_aload_n hx hb dX10_nights_42 rfl (lv_at hl 6 rfl) ?_
      refine va_get (D := D) (ci := 10) (v := .ref a1) (C := RX10) (T := TX10) (N := 20) hx hb hg inGX10 hown hKN.1 hP p42 hk43 rfl 0 (by decide) (hg _ kw_349) (fun _ h9 => h9) rfl dX10_nights_43 ?_
      refine va_getN (D := D) (ci := 6) (v := .int x48) (C := RX6) (T := TX6) (N := 13) hx hb hg inGX6 hown hKN.1 hP p78 hk79 rfl 4 (by decide) (va_Nw.use rfl (hKN.2.1 _ kn_48 rfl)) (fun _ h9 => h9) rfl dX10_nights_46 ?_
      refine lv_ishl hx hb dX10_nights_49 ?_
      refine lv_topi (fun v172 ev172 => ?_)
      have t173 := shl1 ev172 (by omega) (by omega)
      have j174 := rgI v124
      refine lv_icmp_ge (tgt := 151) hx hb dX10_nights_50 (by decide) (fun c175 => ?_) (fun c175 => ?_)
      · skip
        have c175 := i_le (Eq.refl v172.toInt) (Eq.refl v124.toInt) c175
        refine lv_iload_n hx hb dX10_nights_151 rfl (lv_at hl 8 rfl) ?_
        refine lv_if_ne (tgt := 159) hx hb dX10_nights_152 (by decide) (fun c176 => ?_) (fun c176 => ?_)
        · skip
          have c176 := i_ne (Eq.refl p2.toInt) (show (0 : Int32).toInt = 0 by decide) c176
          refine lv_iload hx hb dX10_nights_159 (lv_at hl 4 rfl) ?_
          refine W.widen (k := 0) (n := 0) (Nat.le_of_ble_eq_true rfl) (Nat.le_of_ble_eq_true rfl) ?_
          exact W.iret (v := v128) hx hb hr (fun t ht hW => ⟨⟨v128, rfl, ((show ∀ s0 na wa, q p0 0 = some s0 → q s0 5 = some na → q s0 6 = some wa → (((0 ≤ p1.toInt ∧ p1.toInt ≤ 9999) ∧ (0 ≤ p2.toInt ∧ p2.toInt ≤ 1)) ∧ v128 = pickN p1 p2 (g na) (g wa) (g s0 4).toInt.toNat) ∨ (¬ ((0 ≤ p1.toInt ∧ p1.toInt ≤ 9999) ∧ (0 ≤ p2.toInt ∧ p2.toInt ≤ 1)) ∧ v128.toInt = -1) from (fun s0 na wa h7 h8 h9 => by obtain rfl : s0 = a1 := Option.some.inj (h7.symm.trans h22); obtain rfl : na = a49 := Option.some.inj (h8.symm.trans h67); obtain rfl : wa = a50 := Option.some.inj (h9.symm.trans h69); rw [h65]; exact Or.inl ⟨by omega, (hv170.1.pick (by have := hv170.2.2.2; omega)).2 (by omega)⟩))), CB.mk ht hP hD⟩, hS.F ht⟩) hS.2.2 dX10_nights_161
        · skip
          have c176 := i_eq (Eq.refl p2.toInt) (show (0 : Int32).toInt = 0 by decide) c176
          refine lv_iload_n hx hb dX10_nights_155 rfl (lv_at hl 5 rfl) ?_
          refine lv_goto (tgt := 161) hx hb dX10_nights_156 (by decide) ?_
          refine W.widen (k := 0) (n := 0) (Nat.le_of_ble_eq_true rfl) (Nat.le_of_ble_eq_true rfl) ?_
          exact W.iret (v := v129) hx hb hr (fun t ht hW => ⟨⟨v129, rfl, ((show ∀ s0 na wa, q p0 0 = some s0 → q s0 5 = some na → q s0 6 = some wa → (((0 ≤ p1.toInt ∧ p1.toInt ≤ 9999) ∧ (0 ≤ p2.toInt ∧ p2.toInt ≤ 1)) ∧ v129 = pickN p1 p2 (g na) (g wa) (g s0 4).toInt.toNat) ∨ (¬ ((0 ≤ p1.toInt ∧ p1.toInt ≤ 9999) ∧ (0 ≤ p2.toInt ∧ p2.toInt ≤ 1)) ∧ v129.toInt = -1) from (fun s0 na wa h7 h8 h9 => by obtain rfl : s0 = a1 := Option.some.inj (h7.symm.trans h22); obtain rfl : na = a49 := Option.some.inj (h8.symm.trans h67); obtain rfl : wa = a50 := Option.some.inj (h9.symm.trans h69); rw [h65]; exact Or.inl ⟨by omega, (hv170.1.pick (by have := hv170.2.2.2; omega)).1 (by omega)⟩))), CB.mk ht hP hD⟩, hS.F ht⟩) hS.2.2 dX10_nights_161
      · skip
        have c175 := i_nle (Eq.refl v172.toInt) (Eq.refl v124.toInt) c175
        refine lv_iload hx hb dX10_nights_53 (lv_at hl 2 rfl) ?_
        refine lv_aload_n hx hb dX10_nights_55 rfl (lv_at hl 6 rfl) ?_
        refine va_get (D := D) (ci := 10) (v := .ref a1) (C := RX10) (T := TX10) (N := 20) hx hb hg inGX10 hown hKN.1 hP p42 hk43 rfl 0 (by decide) (hg _ kw_349) (fun _ h9 => h9) rfl dX10_nights_56 ?_
        refine lv_aload_n hx hb dX10_nights_59 rfl (lv_at hl 6 rfl) ?_
        refine va_get (D := D) (ci := 10) (v := .ref a1) (C := RX10) (T := TX10) (N := 20) hx hb hg inGX10 hown hKN.1 hP p42 hk43 rfl 0 (by decide) (hg _ kw_349) (fun _ h9 => h9) rfl dX10_nights_60 ?_
        refine va_getN (D := D) (ci := 6) (v := .ref a49) (C := RX6) (T := TX6) (N := 13) hx hb hg inGX6 hown hKN.1 hP p78 hk79 rfl 5 (by decide) (va_Nw.use rfl (hKN.2.1 _ kn_50 rfl)) (fun _ h9 => h9) rfl dX10_nights_63 ?_
        refine lv_iload hx hb dX10_nights_66 (lv_at hl 0 rfl) ?_
        refine cga (rn_NV (As := [.ref a49, .int v124]) (rest := [.int v126]) (b := a1) (x_stepUpC l D Y Z H.size ws T g q 0 0 0 a1 a49 v124 hT h21 h66 (show (1 ≤ v124.toInt ∧ v124.toInt ≤ 4095) by omega)) ⟨hx, hb, hml, hown, hg⟩ hKN lk_X10_422 ⟨CPC.blind, va_recv hKN.1 hP (ci := 6) (q0 := p78) rfl hk79, CPC.at hP hKN hD hSZ hS hA⟩ ⟨⟨rfl, rfl⟩, ⟨Nat.le_of_ble_eq_true rfl, Nat.le_of_ble_eq_true rfl⟩, ⟨(Nat.le_of_ble_eq_true rfl), (Nat.le_of_ble_eq_true rfl)⟩⟩ hl.1 rfl (Nat.le_of_ble_eq_true rfl) dX10_nights_68) hP hD hS hA (fun u177 H locs hw178 hP hD hS => ?_)
        have hw180 : (u177 = snI (g a49) (ctzF (v124.toInt).toNat) + g a49 (ctzF (v124.toInt).toNat)) := hw178
        refine W.eq (g2 := F0 m 71 ls [.int u177, .int v126]) rfl ?_
        refine lv_iadd hx hb dX10_nights_71 ?_
        refine lv_topi (fun v181 ev181 => ?_)
        refine lv_istore (lv' := [(6, .int v181), (8, .int v124), (7, .int v125), (5, .int v127), (4, .int v128), (3, .int v129), (0, .ref p0), (1, .int p1), (2, .int p2)]) hx hb dX10_nights_72 hl (by decide) rfl (fun ls hl => ?_)
        refine lv_iload hx hb dX10_nights_74 (lv_at hl 2 rfl) ?_
        refine lv_aload_n hx hb dX10_nights_76 rfl (lv_at hl 6 rfl) ?_
        refine va_get (D := D) (ci := 10) (v := .ref a1) (C := RX10) (T := TX10) (N := 20) hx hb hg inGX10 hown hKN.1 hP p42 hk43 rfl 0 (by decide) (hg _ kw_349) (fun _ h9 => h9) rfl dX10_nights_77 ?_
        refine lv_aload_n hx hb dX10_nights_80 rfl (lv_at hl 6 rfl) ?_
        refine va_get (D := D) (ci := 10) (v := .ref a1) (C := RX10) (T := TX10) (N := 20) hx hb hg inGX10 hown hKN.1 hP p42 hk43 rfl 0 (by decide) (hg _ kw_349) (fun _ h9 => h9) rfl dX10_nights_81 ?_
        refine va_getN (D := D) (ci := 6) (v := .ref a50) (C := RX6) (T := TX6) (N := 13) hx hb hg inGX6 hown hKN.1 hP p78 hk79 rfl 6 (by decide) (va_Nw.use rfl (hKN.2.1 _ kn_52 rfl)) (fun _ h9 => h9) rfl dX10_nights_84 ?_
        refine lv_iload hx hb dX10_nights_87 (lv_at hl 1 rfl) ?_
        refine cga (rn_NV (As := [.ref a50, .int v124]) (rest := [.int v125]) (b := a1) (x_stepUpC l D Y Z H.size ws T g q 0 0 1 a1 a50 v124 hT h21 h68 (show (1 ≤ v124.toInt ∧ v124.toInt ≤ 4095) by omega)) ⟨hx, hb, hml, hown, hg⟩ hKN lk_X10_422 ⟨CPC.blind, va_recv hKN.1 hP (ci := 6) (q0 := p78) rfl hk79, CPC.at hP hKN hD hSZ hS hA⟩ ⟨⟨rfl, rfl⟩, ⟨Nat.le_of_ble_eq_true rfl, Nat.le_of_ble_eq_true rfl⟩, ⟨(Nat.le_of_ble_eq_true rfl), (Nat.le_of_ble_eq_true rfl)⟩⟩ hl.1 rfl (Nat.le_of_ble_eq_true rfl) dX10_nights_89) hP hD hS hA (fun u182 H locs hw183 hP hD hS => ?_)
        have hw185 : (u182 = snI (g a50) (ctzF (v124.toInt).toNat) + g a50 (ctzF (v124.toInt).toNat)) := hw183
        refine W.eq (g2 := F0 m 92 ls [.int u182, .int v125]) rfl ?_
        refine lv_iadd hx hb dX10_nights_92 ?_
        refine lv_topi (fun v186 ev186 => ?_)
        refine lv_istore (lv' := [(7, .int v186), (6, .int v181), (8, .int v124), (5, .int v127), (4, .int v128), (3, .int v129), (0, .ref p0), (1, .int p1), (2, .int p2)]) hx hb dX10_nights_93 hl (by decide) rfl (fun ls hl => ?_)
        refine lv_iload hx hb dX10_nights_95 (lv_at hl 0 rfl) ?_
        refine lv_iload hx hb dX10_nights_97 (lv_at hl 4 rfl) ?_
        have j187 := rgI v186
        have j188 := rgI v128
        refine lv_icmp_gt (tgt := 116) hx hb dX10_nights_99 (by decide) (fun c189 => ?_) (fun c189 => ?_)
        · skip
          have c189 := i_lt (Eq.refl v128.toInt) (Eq.refl v186.toInt) c189
          refine lv_iconst (v := 1) hx hb dX10_nights_116 (by decide) ?_
          refine lv_goto (tgt := 121) hx hb dX10_nights_117 (by decide) ?_
          refine lv_istore (lv' := [(9, .int 1), (7, .int v186), (6, .int v181), (8, .int v124), (5, .int v127), (4, .int v128), (3, .int v129), (0, .ref p0), (1, .int p1), (2, .int p2)]) hx hb dX10_nights_121 hl (by decide) rfl (fun ls hl => ?_)
          refine lv_iload hx hb dX10_nights_123 (lv_at hl 2 rfl) ?_
          refine lv_iload_n hx hb dX10_nights_125 rfl (lv_at hl 8 rfl) ?_
          have j190 := rgI v181
          refine lv_icmp_gt (tgt := 145) hx hb dX10_nights_126 (by decide) (fun c191 => ?_) (fun c191 => ?_)
          · skip
            have c191 := i_lt (Eq.refl p1.toInt) (Eq.refl v181.toInt) c191
            obtain ⟨v192, ev192⟩ : ∃ y : Int32, y = v124 + 1 := ⟨_, rfl⟩
            have hv192 := i_add (Eq.refl v124.toInt) (show (1 : Int32).toInt = 1 by decide) ev192 (by omega) (by omega)
            refine lv_iinc (v := v192) (lv' := [(8, .int v192), (9, .int 1), (7, .int v186), (6, .int v181), (5, .int v127), (4, .int v128), (3, .int v129), (0, .ref p0), (1, .int p1), (2, .int p2)]) hx hb dX10_nights_145 hl (k := 3) rfl (by rw [ev192]; rfl) (by decide) rfl (fun ls hl => ?_)
            refine lv_goto (tgt := 39) hx hb dX10_nights_148 (by decide) ?_
            exact ih171 (v192, v186, v181, v127, v128, v129) H locs ls (by show (2147483647 - v192.toInt).toNat < (2147483647 - v124.toInt).toNat; omega) ⟨hP, hD, hS, lv_sub hl [0, 2, 3, 4, 5, 6, 7, 8, 9] rfl, hT, (CBS.no (s := v124) hv170 (by omega) (by omega) (by omega) (by omega) hw180 hw185 ev181 ev186 (by omega)), by omega⟩
          · skip
            have c191 := i_nlt (Eq.refl p1.toInt) (Eq.refl v181.toInt) c191
            refine lv_iload hx hb dX10_nights_129 (lv_at hl 0 rfl) ?_
            refine lv_if_eq (tgt := 145) hx hb dX10_nights_131 (by decide) (fun c193 => ?_) (fun c193 => ?_)
            · exact absurd c193 (by decide)
            refine lv_iload hx hb dX10_nights_134 (lv_at hl 3 rfl) ?_
            refine lv_istore_n (lv' := [(3, .int v124), (9, .int 1), (7, .int v186), (6, .int v181), (8, .int v124), (5, .int v127), (4, .int v128), (0, .ref p0), (1, .int p1), (2, .int p2)]) hx hb dX10_nights_136 rfl hl (by decide) rfl (fun ls hl => ?_)
            refine lv_iload hx hb dX10_nights_137 (lv_at hl 2 rfl) ?_
            refine lv_istore (lv' := [(4, .int v186), (3, .int v124), (9, .int 1), (7, .int v186), (6, .int v181), (8, .int v124), (5, .int v127), (0, .ref p0), (1, .int p1), (2, .int p2)]) hx hb dX10_nights_139 hl (by decide) rfl (fun ls hl => ?_)
            refine lv_iload hx hb dX10_nights_141 (lv_at hl 4 rfl) ?_
            refine lv_istore (lv' := [(5, .int v181), (4, .int v186), (3, .int v124), (9, .int 1), (7, .int v186), (6, .int v181), (8, .int v124), (0, .ref p0), (1, .int p1), (2, .int p2)]) hx hb dX10_nights_143 hl (by decide) rfl (fun ls hl => ?_)
            obtain ⟨v194, ev194⟩ : ∃ y : Int32, y = v124 + 1 := ⟨_, rfl⟩
            have hv194 := i_add (Eq.refl v124.toInt) (show (1 : Int32).toInt = 1 by decide) ev194 (by omega) (by omega)
            refine lv_iinc (v := v194) (lv' := [(8, .int v194), (5, .int v181), (4, .int v186), (3, .int v124), (9, .int 1), (7, .int v186), (6, .int v181), (0, .ref p0), (1, .int p1), (2, .int p2)]) hx hb dX10_nights_145 hl (k := 6) rfl (by rw [ev194]; rfl) (by decide) rfl (fun ls hl => ?_)
            refine lv_goto (tgt := 39) hx hb dX10_nights_148 (by decide) ?_
            exact ih171 (v194, v186, v181, v181, v186, v124) H locs ls (by show (2147483647 - v194.toInt).toNat < (2147483647 - v124.toInt).toNat; omega) ⟨hP, hD, hS, lv_sub hl [0, 5, 6, 1, 2, 3, 7, 8, 9] rfl, hT, (CBS.yes (s := v124) hv170 (by omega) (by omega) (by omega) (by omega) hw180 hw185 ev181 ev186 (by omega) (by omega)), by omega⟩
        · skip
          have c189 := i_nlt (Eq.refl v128.toInt) (Eq.refl v186.toInt) c189
          refine lv_iload hx hb dX10_nights_102 (lv_at hl 0 rfl) ?_
          refine lv_iload hx hb dX10_nights_104 (lv_at hl 4 rfl) ?_
          refine lv_icmp_ne (tgt := 120) hx hb dX10_nights_106 (by decide) (fun c195 => ?_) (fun c195 => ?_)
          · skip
            have c195 := i_ne (Eq.refl v186.toInt) (Eq.refl v128.toInt) c195
            refine lv_iconst (v := 0) hx hb dX10_nights_120 (by decide) ?_
            refine lv_istore (lv' := [(9, .int 0), (7, .int v186), (6, .int v181), (8, .int v124), (5, .int v127), (4, .int v128), (3, .int v129), (0, .ref p0), (1, .int p1), (2, .int p2)]) hx hb dX10_nights_121 hl (by decide) rfl (fun ls hl => ?_)
            refine lv_iload hx hb dX10_nights_123 (lv_at hl 2 rfl) ?_
            refine lv_iload_n hx hb dX10_nights_125 rfl (lv_at hl 8 rfl) ?_
            have j196 := rgI v181
            refine lv_icmp_gt (tgt := 145) hx hb dX10_nights_126 (by decide) (fun c197 => ?_) (fun c197 => ?_)
            · skip
              have c197 := i_lt (Eq.refl p1.toInt) (Eq.refl v181.toInt) c197
              obtain ⟨v198, ev198⟩ : ∃ y : Int32, y = v124 + 1 := ⟨_, rfl⟩
              have hv198 := i_add (Eq.refl v124.toInt) (show (1 : Int32).toInt = 1 by decide) ev198 (by omega) (by omega)
              refine lv_iinc (v := v198) (lv' := [(8, .int v198), (9, .int 0), (7, .int v186), (6, .int v181), (5, .int v127), (4, .int v128), (3, .int v129), (0, .ref p0), (1, .int p1), (2, .int p2)]) hx hb dX10_nights_145 hl (k := 3) rfl (by rw [ev198]; rfl) (by decide) rfl (fun ls hl => ?_)
              refine lv_goto (tgt := 39) hx hb dX10_nights_148 (by decide) ?_
              exact ih171 (v198, v186, v181, v127, v128, v129) H locs ls (by show (2147483647 - v198.toInt).toNat < (2147483647 - v124.toInt).toNat; omega) ⟨hP, hD, hS, lv_sub hl [0, 2, 3, 4, 5, 6, 7, 8, 9] rfl, hT, (CBS.no (s := v124) hv170 (by omega) (by omega) (by omega) (by omega) hw180 hw185 ev181 ev186 (by omega)), by omega⟩
            · skip
              have c197 := i_nlt (Eq.refl p1.toInt) (Eq.refl v181.toInt) c197
              refine lv_iload hx hb dX10_nights_129 (lv_at hl 0 rfl) ?_
              refine lv_if_eq (tgt := 145) hx hb dX10_nights_131 (by decide) (fun c199 => ?_) (fun c199 => ?_)
              rotate_left
              · exact absurd c199 (by decide)
              obtain ⟨v200, ev200⟩ : ∃ y : Int32, y = v124 + 1 := ⟨_, rfl⟩
              have hv200 := i_add (Eq.refl v124.toInt) (show (1 : Int32).toInt = 1 by decide) ev200 (by omega) (by omega)
              refine lv_iinc (v := v200) (lv' := [(8, .int v200), (9, .int 0), (7, .int v186), (6, .int v181), (5, .int v127), (4, .int v128), (3, .int v129), (0, .ref p0), (1, .int p1), (2, .int p2)]) hx hb dX10_nights_145 hl (k := 3) rfl (by rw [ev200]; rfl) (by decide) rfl (fun ls hl => ?_)
              refine lv_goto (tgt := 39) hx hb dX10_nights_148 (by decide) ?_
              exact ih171 (v200, v186, v181, v127, v128, v129) H locs ls (by show (2147483647 - v200.toInt).toNat < (2147483647 - v124.toInt).toNat; omega) ⟨hP, hD, hS, lv_sub hl [0, 2, 3, 4, 5, 6, 7, 8, 9] rfl, hT, (CBS.no (s := v124) hv170 (by omega) (by omega) (by omega) (by omega) hw180 hw185 ev181 ev186 (by omega)), by omega⟩
          · skip
            have c195 := i_eq (Eq.refl v186.toInt) (Eq.refl v128.toInt) c195
            refine lv_iload hx hb dX10_nights_109 (lv_at hl 1 rfl) ?_
            refine lv_iload hx hb dX10_nights_111 (lv_at hl 3 rfl) ?_
            have j201 := rgI v181
            have j202 := rgI v127
            refine lv_icmp_ge (tgt := 120) hx hb dX10_nights_113 (by decide) (fun c203 => ?_) (fun c203 => ?_)
            · skip
              have c203 := i_le (Eq.refl v127.toInt) (Eq.refl v181.toInt) c203
              refine lv_iconst (v := 0) hx hb dX10_nights_120 (by decide) ?_
              refine lv_istore (lv' := [(9, .int 0), (7, .int v186), (6, .int v181), (8, .int v124), (5, .int v127), (4, .int v128), (3, .int v129), (0, .ref p0), (1, .int p1), (2, .int p2)]) hx hb dX10_nights_121 hl (by decide) rfl (fun ls hl => ?_)
              refine lv_iload hx hb dX10_nights_123 (lv_at hl 2 rfl) ?_
              refine lv_iload_n hx hb dX10_nights_125 rfl (lv_at hl 8 rfl) ?_
              refine lv_icmp_gt (tgt := 145) hx hb dX10_nights_126 (by decide) (fun c204 => ?_) (fun c204 => ?_)
              · skip
                have c204 := i_lt (Eq.refl p1.toInt) (Eq.refl v181.toInt) c204
                obtain ⟨v205, ev205⟩ : ∃ y : Int32, y = v124 + 1 := ⟨_, rfl⟩
                have hv205 := i_add (Eq.refl v124.toInt) (show (1 : Int32).toInt = 1 by decide) ev205 (by omega) (by omega)
                refine lv_iinc (v := v205) (lv' := [(8, .int v205), (9, .int 0), (7, .int v186), (6, .int v181), (5, .int v127), (4, .int v128), (3, .int v129), (0, .ref p0), (1, .int p1), (2, .int p2)]) hx hb dX10_nights_145 hl (k := 3) rfl (by rw [ev205]; rfl) (by decide) rfl (fun ls hl => ?_)
                refine lv_goto (tgt := 39) hx hb dX10_nights_148 (by decide) ?_
                exact ih171 (v205, v186, v181, v127, v128, v129) H locs ls (by show (2147483647 - v205.toInt).toNat < (2147483647 - v124.toInt).toNat; omega) ⟨hP, hD, hS, lv_sub hl [0, 2, 3, 4, 5, 6, 7, 8, 9] rfl, hT, (CBS.no (s := v124) hv170 (by omega) (by omega) (by omega) (by omega) hw180 hw185 ev181 ev186 (by omega)), by omega⟩
              · skip
                have c204 := i_nlt (Eq.refl p1.toInt) (Eq.refl v181.toInt) c204
                refine lv_iload hx hb dX10_nights_129 (lv_at hl 0 rfl) ?_
                refine lv_if_eq (tgt := 145) hx hb dX10_nights_131 (by decide) (fun c206 => ?_) (fun c206 => ?_)
                rotate_left
                · exact absurd c206 (by decide)
                obtain ⟨v207, ev207⟩ : ∃ y : Int32, y = v124 + 1 := ⟨_, rfl⟩
                have hv207 := i_add (Eq.refl v124.toInt) (show (1 : Int32).toInt = 1 by decide) ev207 (by omega) (by omega)
                refine lv_iinc (v := v207) (lv' := [(8, .int v207), (9, .int 0), (7, .int v186), (6, .int v181), (5, .int v127), (4, .int v128), (3, .int v129), (0, .ref p0), (1, .int p1), (2, .int p2)]) hx hb dX10_nights_145 hl (k := 3) rfl (by rw [ev207]; rfl) (by decide) rfl (fun ls hl => ?_)
                refine lv_goto (tgt := 39) hx hb dX10_nights_148 (by decide) ?_
                exact ih171 (v207, v186, v181, v127, v128, v129) H locs ls (by show (2147483647 - v207.toInt).toNat < (2147483647 - v124.toInt).toNat; omega) ⟨hP, hD, hS, lv_sub hl [0, 2, 3, 4, 5, 6, 7, 8, 9] rfl, hT, (CBS.no (s := v124) hv170 (by omega) (by omega) (by omega) (by omega) hw180 hw185 ev181 ev186 (by omega)), by omega⟩
            · skip
              have c203 := i_nle (Eq.refl v127.toInt) (Eq.refl v181.toInt) c203
              refine lv_iconst (v := 1) hx hb dX10_nights_116 (by decide) ?_
              refine lv_goto (tgt := 121) hx hb dX10_nights_117 (by decide) ?_
              refine lv_istore (lv' := [(9, .int 1), (7, .int v186), (6, .int v181), (8, .int v124), (5, .int v127), (4, .int v128), (3, .int v129), (0, .ref p0), (1, .int p1), (2, .int p2)]) hx hb dX10_nights_121 hl (by decide) rfl (fun ls hl => ?_)
              refine lv_iload hx hb dX10_nights_123 (lv_at hl 2 rfl) ?_
              refine lv_iload_n hx hb dX10_nights_125 rfl (lv_at hl 8 rfl) ?_
              refine lv_icmp_gt (tgt := 145) hx hb dX10_nights_126 (by decide) (fun c208 => ?_) (fun c208 => ?_)
              · skip
                have c208 := i_lt (Eq.refl p1.toInt) (Eq.refl v181.toInt) c208
                obtain ⟨v209, ev209⟩ : ∃ y : Int32, y = v124 + 1 := ⟨_, rfl⟩
                have hv209 := i_add (Eq.refl v124.toInt) (show (1 : Int32).toInt = 1 by decide) ev209 (by omega) (by omega)
                refine lv_iinc (v := v209) (lv' := [(8, .int v209), (9, .int 1), (7, .int v186), (6, .int v181), (5, .int v127), (4, .int v128), (3, .int v129), (0, .ref p0), (1, .int p1), (2, .int p2)]) hx hb dX10_nights_145 hl (k := 3) rfl (by rw [ev209]; rfl) (by decide) rfl (fun ls hl => ?_)
                refine lv_goto (tgt := 39) hx hb dX10_nights_148 (by decide) ?_
                exact ih171 (v209, v186, v181, v127, v128, v129) H locs ls (by show (2147483647 - v209.toInt).toNat < (2147483647 - v124.toInt).toNat; omega) ⟨hP, hD, hS, lv_sub hl [0, 2, 3, 4, 5, 6, 7, 8, 9] rfl, hT, (CBS.no (s := v124) hv170 (by omega) (by omega) (by omega) (by omega) hw180 hw185 ev181 ev186 (by omega)), by omega⟩
              · skip
                have c208 := i_nlt (Eq.refl p1.toInt) (Eq.refl v181.toInt) c208
                refine lv_iload hx hb dX10_nights_129 (lv_at hl 0 rfl) ?_
                refine lv_if_eq (tgt := 145) hx hb dX10_nights_131 (by decide) (fun c210 => ?_) (fun c210 => ?_)
                · exact absurd c210 (by decide)
                refine lv_iload hx hb dX10_nights_134 (lv_at hl 3 rfl) ?_
                refine lv_istore_n (lv' := [(3, .int v124), (9, .int 1), (7, .int v186), (6, .int v181), (8, .int v124), (5, .int v127), (4, .int v128), (0, .ref p0), (1, .int p1), (2, .int p2)]) hx hb dX10_nights_136 rfl hl (by decide) rfl (fun ls hl => ?_)
                refine lv_iload hx hb dX10_nights_137 (lv_at hl 2 rfl) ?_
                refine lv_istore (lv' := [(4, .int v186), (3, .int v124), (9, .int 1), (7, .int v186), (6, .int v181), (8, .int v124), (5, .int v127), (0, .ref p0), (1, .int p1), (2, .int p2)]) hx hb dX10_nights_139 hl (by decide) rfl (fun ls hl => ?_)
                refine lv_iload hx hb dX10_nights_141 (lv_at hl 4 rfl) ?_
                refine lv_istore (lv' := [(5, .int v181), (4, .int v186), (3, .int v124), (9, .int 1), (7, .int v186), (6, .int v181), (8, .int v124), (0, .ref p0), (1, .int p1), (2, .int p2)]) hx hb dX10_nights_143 hl (by decide) rfl (fun ls hl => ?_)
                obtain ⟨v211, ev211⟩ : ∃ y : Int32, y = v124 + 1 := ⟨_, rfl⟩
                have hv211 := i_add (Eq.refl v124.toInt) (show (1 : Int32).toInt = 1 by decide) ev211 (by omega) (by omega)
                refine lv_iinc (v := v211) (lv' := [(8, .int v211), (5, .int v181), (4, .int v186), (3, .int v124), (9, .int 1), (7, .int v186), (6, .int v181), (0, .ref p0), (1, .int p1), (2, .int p2)]) hx hb dX10_nights_145 hl (k := 6) rfl (by rw [ev211]; rfl) (by decide) rfl (fun ls hl => ?_)
                refine lv_goto (tgt := 39) hx hb dX10_nights_148 (by decide) ?_
                exact ih171 (v211, v186, v181, v181, v186, v124) H locs ls (by show (2147483647 - v211.toInt).toNat < (2147483647 - v124.toInt).toNat; omega) ⟨hP, hD, hS, lv_sub hl [0, 5, 6, 1, 2, 3, 7, 8, 9] rfl, hT, (CBS.yes (s := v124) hv170 (by omega) (by omega) (by omega) (by omega) hw180 hw185 ev181 ev186 (by omega) (by omega)), by omega⟩
    · obtain rfl : u87 = 0 := i_is c92 (by decide)
      refine W.eq (g2 := F0 m 17 ls [.int 0]) rfl ?_
      refine lv_if_ne (tgt := 22) hx hb dX10_nights_17 (by decide) (fun c212 => ?_) (fun c212 => ?_)
      · exact absurd c212 (by decide)
      refine lv_iconst (v := (-1)) hx hb dX10_nights_20 (by decide) ?_
      refine W.widen (k := 0) (n := 0) (Nat.le_of_ble_eq_true rfl) (Nat.le_of_ble_eq_true rfl) ?_
      have zim1 : ((-1) : Int32).toInt = -1 := by decide
      exact W.iret (v := (-1)) hx hb hr (fun t ht hW => ⟨⟨((-1)), rfl, ((show ∀ s0 na wa, q p0 0 = some s0 → q s0 5 = some na → q s0 6 = some wa → (((0 ≤ p1.toInt ∧ p1.toInt ≤ 9999) ∧ (0 ≤ p2.toInt ∧ p2.toInt ≤ 1)) ∧ (-1) = pickN p1 p2 (g na) (g wa) (g s0 4).toInt.toNat) ∨ (¬ ((0 ≤ p1.toInt ∧ p1.toInt ≤ 9999) ∧ (0 ≤ p2.toInt ∧ p2.toInt ≤ 1)) ∧ ((-1) : Int32).toInt = -1) from (fun s0 na wa _ _ _ => Or.inr ⟨by omega, by decide⟩))), CB.mk ht hP hD⟩, hS.F ht⟩) hS.2.2 dX10_nights_21
  · obtain rfl : u80 = 0 := i_is c85 (by decide)
    refine W.eq (g2 := F0 m 8 ls [.int 0]) rfl ?_
    refine lv_if_eq (tgt := 20) hx hb dX10_nights_8 (by decide) (fun c213 => ?_) (fun c213 => ?_)
    rotate_left
    · exact absurd c213 (by decide)
    refine lv_iconst (v := (-1)) hx hb dX10_nights_20 (by decide) ?_
    refine W.widen (k := 0) (n := 0) (Nat.le_of_ble_eq_true rfl) (Nat.le_of_ble_eq_true rfl) ?_
    have zim1 : ((-1) : Int32).toInt = -1 := by decide
    exact W.iret (v := (-1)) hx hb hr (fun t ht hW => ⟨⟨((-1)), rfl, ((show ∀ s0 na wa, q p0 0 = some s0 → q s0 5 = some na → q s0 6 = some wa → (((0 ≤ p1.toInt ∧ p1.toInt ≤ 9999) ∧ (0 ≤ p2.toInt ∧ p2.toInt ≤ 1)) ∧ (-1) = pickN p1 p2 (g na) (g wa) (g s0 4).toInt.toNat) ∨ (¬ ((0 ≤ p1.toInt ∧ p1.toInt ≤ 9999) ∧ (0 ≤ p2.toInt ∧ p2.toInt ≤ 1)) ∧ ((-1) : Int32).toInt = -1) from (fun s0 na wa _ _ _ => Or.inr ⟨by omega, by decide⟩))), CB.mk ht hP hD⟩, hS.F ht⟩) hS.2.2 dX10_nights_21
