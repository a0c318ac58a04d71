set_option maxHeartbeats 4000000 in
set_option maxRecDepth 100000 in
theorem m_clauseHere (l : Launch) (D : va_G) (Y : Nat → ClassId) (Z : Nat → Nat) (sz : Nat) (o : Nat) (a : Nat → Nat) (I : Nat → Int32) (J : Nat → Int64) (F : Nat → Nat → Int32) (G : Nat → Nat → Int64) (hk_0 : (0 ≤ (I 16).toInt ∧ (I 16).toInt ≤ 400)) (hk_1 : (0 ≤ (I 3).toInt ∧ (I 3).toInt ≤ 400)) (hk_2 : ((I 16).toInt ≤ (I 3).toInt)) (hk_3 : (0 ≤ (I 17).toInt ∧ (I 17).toInt ≤ 4000)) (hk_4 : (0 ≤ (I 20).toInt ∧ (I 20).toInt ≤ 60)) (hk_5 : (0 ≤ (I 19).toInt ∧ (I 19).toInt ≤ 17)) (hk_6 : (((F 6) (I 19).toNatClampNeg).toInt ≤ (I 16).toInt)) (hk_7 : (0 ≤ (I 22).toInt ∧ (I 22).toInt ≤ 12)) (hk_8 : (((F 8) (I 19).toNatClampNeg).toInt ≤ (I 22).toInt)) (hk_9 : (((F 9) (I 19).toNatClampNeg).toInt ≤ 9999)) (hk_10 : ((((F 10) (I 19).toNatClampNeg).toInt < 0 ∨ ((2 ≤ ((F 10) (I 19).toNatClampNeg).toInt ∧ ((F 10) (I 19).toNatClampNeg).toInt ≤ 200) ∧ ((F 11) (I 19).toNatClampNeg).toInt ≤ 200)))) (hk_11 : ((((F 12) (I 19).toNatClampNeg).toInt < 0 ∨ (1 ≤ ((F 12) (I 19).toNatClampNeg).toInt ∧ ((F 13) (I 19).toNatClampNeg).toInt ≤ 10)))) (hk0 : TX (F 4) (F 9) (F 10) (F 11) (F 12) (F 13)) (hr_PT : PSt (F 4) (F 8) (F 7) (F 5) (F 6) (I 19).toNatClampNeg (((F 6) (I 19).toNatClampNeg).toInt).toNat 0 ((I 20).toInt).toNat) (hr_UN : UNT (F 4) (I 19).toNatClampNeg) : Met l yX11_clauseHere (.code yX11_clauseHere cX11_clauseHere 5 (some .boolean) :: GW) ({ frames := 11, cells := 0, slots := 0, locals := 241 }) (va_Pc [.ref o] (CP D Y Z (MW Y o a I J F G) sz)) (QG (S := Int32 × Int32 × Int32 × Int32 × Int32 × Int32 × Int32 × Int32 × (Nat → Int32) × (Nat → Int32) × (Nat → Int32) × (Nat → Int32) × (Nat → Int32) × (Nat → Int32) × (Nat → Int32) × (Nat → Int32) × (Nat → Int32) × (Nat → Int32) × (Nat → Int32) × (Nat → Int32)) (fun u => some (.int u.1)) (fun u => (0 ≤ u.2.1.toInt ∧ u.2.1.toInt ≤ 400) ∧ ((I 16).toInt ≤ u.2.1.toInt) ∧ (u.2.1.toInt ≤ (I 3).toInt) ∧ (0 ≤ u.2.2.1.toInt ∧ u.2.2.1.toInt ≤ 4000) ∧ (0 ≤ u.2.2.2.2.1.toInt ∧ u.2.2.2.2.1.toInt ≤ 60) ∧ ((I 20).toInt ≤ u.2.2.2.2.1.toInt) ∧ (0 ≤ u.1.toInt ∧ u.1.toInt ≤ 1) ∧ (u.1.toInt = 0 → 1 ≤ u.2.2.1.toInt) ∧ (0 ≤ u.2.2.2.2.2.2.2.1.toInt ∧ u.2.2.2.2.2.2.2.1.toInt ≤ 12) ∧ (u.1.toInt = 1 → (u.2.2.2.2.2.2.2.2.2.2.2.1 (I 19).toNatClampNeg).toInt ≤ u.2.1.toInt) ∧ (u.1.toInt = 1 → (u.2.2.2.2.2.2.2.2.2.1 (I 19).toNatClampNeg).toInt ≤ u.2.2.2.2.2.2.2.1.toInt) ∧ (u.1.toInt = 1 → (u.2.2.2.2.2.2.2.2.2.2.2.2.2.1 (I 19).toNatClampNeg).toInt ≤ 9999) ∧ (u.1.toInt = 1 → ((u.2.2.2.2.2.2.2.2.2.2.2.2.2.2.1 (I 19).toNatClampNeg).toInt < 0 ∨ ((2 ≤ (u.2.2.2.2.2.2.2.2.2.2.2.2.2.2.1 (I 19).toNatClampNeg).toInt ∧ (u.2.2.2.2.2.2.2.2.2.2.2.2.2.2.1 (I 19).toNatClampNeg).toInt ≤ 200) ∧ (u.2.2.2.2.2.2.2.2.2.2.2.2.2.2.2.1 (I 19).toNatClampNeg).toInt ≤ 200))) ∧ (u.1.toInt = 1 → ((u.2.2.2.2.2.2.2.2.2.2.2.2.2.2.2.2.1 (I 19).toNatClampNeg).toInt < 0 ∨ (1 ≤ (u.2.2.2.2.2.2.2.2.2.2.2.2.2.2.2.2.1 (I 19).toNatClampNeg).toInt ∧ (u.2.2.2.2.2.2.2.2.2.2.2.2.2.2.2.2.2.1 (I 19).toNatClampNeg).toInt ≤ 10))) ∧ TX (F 4) u.2.2.2.2.2.2.2.2.2.2.2.2.2.1 u.2.2.2.2.2.2.2.2.2.2.2.2.2.2.1 u.2.2.2.2.2.2.2.2.2.2.2.2.2.2.2.1 u.2.2.2.2.2.2.2.2.2.2.2.2.2.2.2.2.1 u.2.2.2.2.2.2.2.2.2.2.2.2.2.2.2.2.2.1 ∧ (u.1.toInt = 1 → PSt (F 4) u.2.2.2.2.2.2.2.2.2.1 u.2.2.2.2.2.2.2.2.1 u.2.2.2.2.2.2.2.2.2.2.1 u.2.2.2.2.2.2.2.2.2.2.2.1 (I 19).toNatClampNeg ((u.2.2.2.2.2.2.2.2.2.2.2.1 (I 19).toNatClampNeg).toInt).toNat 0 (u.2.2.2.2.1.toInt).toNat) ∧ TC (F 4) u.2.2.2.2.2.2.2.2.2.1 u.2.2.2.2.2.2.2.2.1 u.2.2.2.2.2.2.2.2.2.2.1) (fun u => CB D (MW Y o a (upd (upd (upd (upd (upd (upd (upd I 16 u.2.1) 17 u.2.2.1) 18 u.2.2.2.1) 20 u.2.2.2.2.1) 21 u.2.2.2.2.2.1) 22 u.2.2.2.2.2.2.2.1) 24 u.2.2.2.2.2.2.1) J (vf_upd (vf_upd (vf_upd (vf_upd (vf_upd (vf_upd (vf_upd (vf_upd (vf_upd (vf_upd (vf_upd (vf_upd F 5 u.2.2.2.2.2.2.2.2.2.2.1) 6 u.2.2.2.2.2.2.2.2.2.2.2.1) 7 u.2.2.2.2.2.2.2.2.1) 8 u.2.2.2.2.2.2.2.2.2.1) 9 u.2.2.2.2.2.2.2.2.2.2.2.2.2.1) 10 u.2.2.2.2.2.2.2.2.2.2.2.2.2.2.1) 11 u.2.2.2.2.2.2.2.2.2.2.2.2.2.2.2.1) 12 u.2.2.2.2.2.2.2.2.2.2.2.2.2.2.2.2.1) 13 u.2.2.2.2.2.2.2.2.2.2.2.2.2.2.2.2.2.1) 14 u.2.2.2.2.2.2.2.2.2.2.2.2.2.2.2.2.2.2.1) 15 u.2.2.2.2.2.2.2.2.2.2.2.2.2.2.2.2.2.2.2) 23 u.2.2.2.2.2.2.2.2.2.2.2.2.1) G) (va_A (MW Y o a I J F G) sz)) (va_A (MW Y o a I J F G) sz)) 0 0 (va_A (MW Y o a I J F G) sz) := by
  refine Met.ofW (cc := cX11_clauseHere) (maxL := 5) (ret := (some .boolean)) (by decide) rfl ?_
  intro p e s m args below meth c s₁ B hml hv
  obtain ⟨rfl, hsz, hP, hKN, hD0⟩ := hv
  have hx := B.exec
  have hb := B.bytes
  have hr := B.returns
  have hts := atoms_spec (ws := .code yX11_clauseHere cX11_clauseHere 5 (some .boolean) :: GW) B.pre
  have hg : ∀ w ∈ GW, w.before _ s = true := fun w h => hts w (List.mem_cons_of_mem _ h)
  have hown : s.vm.findClass RX11 = some m.cls := findClass_of_methodNamed B.named
  have hlocks := B.notSynchronized
  subst hsz
  have hD := hD0.self (sz := s.heap.size)
  generalize hAe : va_A (MW Y o a I J F G) s.heap.size = A at hD ⊢
  have hA : ∀ q : Nat, s.heap.size ≤ q → A q := fun q h => by rw [← hAe]; exact Or.inr h
  clear hAe hD0 hts B
  have hl := lv_entry ([.ref o]) (n := 5) (Nat.le_of_ble_eq_true rfl)
  rw [lg_entry_eq]
  generalize (lg_sl ([.ref o]) ++ List.replicate (5 - (lg_sl ([.ref o])).length) Slot.unset).toArray = ls at hl ⊢
  have hl : lv_has ls 5 [(0, .ref o)] := hl
  refine w_start (A0 := A) hP (fun H locs hP hS => ?_)
  have hl0 := PS_len hr_PT
  refine lv_aload_n hx hb dX11_clauseHere_0 rfl (lv_at hl 0 rfl) ?_
  refine cga (rn_V (As := []) (rest := []) (b := o) (m_see l D Y Z H.size o a I J F G   (show (0 ≤ (I 16).toInt ∧ (I 16).toInt ≤ 400) by omega) (show (0 ≤ (I 3).toInt ∧ (I 3).toInt ≤ 400) by omega) (show ((I 16).toInt ≤ (I 3).toInt) by omega)) ⟨hx, hb, hml, hown, hg⟩ lk_X11_183 ⟨CP.blind, va_recv hKN.1 hP (ci := 11) (q0 := 0) rfl rfl, CP.at hP hKN hD⟩ ⟨⟨rfl, rfl⟩, ⟨Nat.le_of_ble_eq_true rfl, Nat.le_of_ble_eq_true rfl⟩, ⟨Nat.le_of_ble_eq_true rfl, Nat.le_of_ble_eq_true rfl⟩⟩ hl.1 rfl (Nat.le_of_ble_eq_true rfl) dX11_clauseHere_1) hP hD hS hA (fun u1 H locs w2 hP hD hS => ?_)
  obtain ⟨u3, u4⟩ := u1
  obtain ⟨hw5, hw6, hw7, hw8, hw9⟩ : (0 ≤ u4.toInt ∧ u4.toInt ≤ 400) ∧ ((I 16).toInt ≤ u4.toInt) ∧ (u4.toInt ≤ (I 3).toInt) ∧ ((u3.toInt = -1 ∧ u4.toInt = (I 3).toInt) ∨ (0 ≤ u3.toInt ∧ u3.toInt ≤ 255 ∧ u4.toInt < (I 3).toInt ∧ ((F 2) u4.toNatClampNeg).toInt ≠ 32)) ∧ (-1 ≤ u3.toInt ∧ u3.toInt ≤ 255) := w2
  refine W.eq (g2 := F0 m 4 ls [.int u3]) rfl ?_
  have hP : va_P D vwCl (MW Y o a (upd I 16 u4) J F G) H := hP
  have hD : va_D A (MW Y o a (upd I 16 u4) J F G) := hD
  refine lv_pop hx hb dX11_clauseHere_4 rfl ?_
  refine lv_aload_n hx hb dX11_clauseHere_5 rfl (lv_at hl 0 rfl) ?_
  refine va_get (D := D) (ci := 11) (v := .int u4) (C := RX11) (T := TX11) (N := 49) hx hb hg inGX11 hown hKN.1 hP 0 rfl rfl 16 (by decide) (hg _ kw_1224) (fun _ h9 => h9) rfl dX11_clauseHere_6 ?_
  refine lv_istore_n (lv' := [(1, .int u4), (0, .ref o)]) hx hb dX11_clauseHere_9 rfl hl (by decide) rfl (fun ls hl => ?_)
  refine lv_aload_n hx hb dX11_clauseHere_10 rfl (lv_at hl 1 rfl) ?_
  refine va_get (D := D) (ci := 11) (v := .int (I 19)) (C := RX11) (T := TX11) (N := 49) hx hb hg inGX11 hown hKN.1 hP 0 rfl rfl 19 (by decide) (hg _ kw_1227) (fun _ h9 => h9) rfl dX11_clauseHere_11 ?_
  refine lv_bipush (v := 6) hx hb dX11_clauseHere_14 (by decide) ?_
  have zi6 : (6 : Int32).toInt = 6 := by decide
  refine lv_idiv hx hb dX11_clauseHere_16 (i_nz (show (6 : Int32).toInt = 6 by decide) (by omega)) ?_
  refine lv_topi (fun v10 ev10 => ?_)
  have hv10 := i_div (Eq.refl (I 19).toInt) (show (6 : Int32).toInt = 6 by decide) ev10 (by omega) (by omega)
  refine lv_istore_n (lv' := [(2, .int v10), (1, .int u4), (0, .ref o)]) hx hb dX11_clauseHere_17 rfl hl (by decide) rfl (fun ls hl => ?_)
  refine lv_aload_n hx hb dX11_clauseHere_18 rfl (lv_at hl 2 rfl) ?_
  refine lv_ldc2 (v := 512970878052) hx hb hown (hg _ kw_1470) dX11_clauseHere_19 ?_
  have zl512970878052 : (512970878052 : Int64).toInt = 512970878052 := by decide
  refine cga (rn_V (As := [.long 512970878052]) (rest := []) (b := o) (m_isWord l D Y Z H.size o a (upd I 16 u4) J F G  512970878052 (show (0 ≤ u4.toInt ∧ u4.toInt ≤ 400) by omega) (show (0 ≤ (I 3).toInt ∧ (I 3).toInt ≤ 400) by omega) (show (u4.toInt ≤ (I 3).toInt) by omega)) ⟨hx, hb, hml, hown, hg⟩ lk_X11_190 ⟨CP.blind, va_recv hKN.1 hP (ci := 11) (q0 := 0) rfl rfl, CP.at hP hKN hD⟩ ⟨⟨rfl, rfl⟩, ⟨Nat.le_of_ble_eq_true rfl, Nat.le_of_ble_eq_true rfl⟩, ⟨Nat.le_of_ble_eq_true rfl, Nat.le_of_ble_eq_true rfl⟩⟩ hl.1 rfl (Nat.le_of_ble_eq_true rfl) dX11_clauseHere_22) hP hD hS hA (fun u11 H locs w12 hP hD hS => ?_)
  obtain ⟨u13, u14⟩ := u11
  obtain ⟨hw15, hw16, hw17, hw18, hw19⟩ : (0 ≤ u14.toInt ∧ u14.toInt ≤ 400) ∧ (u4.toInt ≤ u14.toInt) ∧ (u14.toInt ≤ (I 3).toInt) ∧ (0 ≤ u13.toInt ∧ u13.toInt ≤ 1) ∧ (u13.toInt = 1 → (u14.toInt < (I 3).toInt ∧ 97 ≤ ((F 2) u14.toNatClampNeg).toInt ∧ ((F 2) u14.toNatClampNeg).toInt ≤ 122)) := w12
  refine W.eq (g2 := F0 m 25 ls [.int u13]) rfl ?_
  have hP : va_P D vwCl (MW Y o a (upd I 16 u14) J F G) H := hP
  have hD : va_D A (MW Y o a (upd I 16 u14) J F G) := hD
  refine w_join (σ := Int32 × Int32) (pcJ := 89) (kJ := 0) (nJ := 0) (stk := fun xx => match xx with | (g61, g62) => [.int g61]) (fun xx H locs ls => match xx with | (g61, g62) => va_P D vwCl (MW Y o a (upd I 16 g62) J F G) H ∧ va_D A (MW Y o a (upd I 16 g62) J F G) ∧ va_S A s.heap H locs ∧ lv_has ls 5 [(2, .int v10), (1, .int u4), (0, .ref o)] ∧ (g62.toInt ≤ (I 3).toInt) ∧ ((I 16).toInt ≤ g62.toInt) ∧ (-1 ≤ g61.toInt ∧ g61.toInt ≤ 4) ∧ (0 ≤ g62.toInt ∧ g62.toInt ≤ 400)) (fun xx H locs ls hI => ?_) (fun jn63 => ?_)
  · skip
    obtain ⟨g61, g62⟩ := xx
    obtain ⟨hP, hD, hS, hl, hq64, hq65, hq66, hq67⟩ := hI
    refine W.eq (g2 := F0 m 89 ls [.int g61]) rfl ?_
    refine lv_istore_n (lv' := [(3, .int g61), (2, .int v10), (1, .int u4), (0, .ref o)]) hx hb dX11_clauseHere_89 rfl hl (by decide) rfl (fun ls hl => ?_)
    refine lv_iload_n hx hb dX11_clauseHere_90 rfl (lv_at hl 1 rfl) ?_
    refine w_join (σ := Int32 × Int32) (pcJ := 184) (kJ := 0) (nJ := 0) (stk := fun xx => match xx with | (g131, g132) => [.int g131]) (fun xx H locs ls => match xx with | (g131, g132) => va_P D vwCl (MW Y o a (upd I 16 g132) J F G) H ∧ va_D A (MW Y o a (upd I 16 g132) J F G) ∧ va_S A s.heap H locs ∧ lv_has ls 5 [(3, .int g61), (2, .int v10), (1, .int u4), (0, .ref o)] ∧ (g132.toInt ≤ (I 3).toInt) ∧ ((I 16).toInt ≤ g132.toInt) ∧ (0 ≤ g131.toInt ∧ g131.toInt ≤ 1) ∧ (0 ≤ g132.toInt ∧ g132.toInt ≤ 400)) (fun xx H locs ls hI => ?_) (fun jn133 => ?_)
    · skip
      obtain ⟨g131, g132⟩ := xx
      obtain ⟨hP, hD, hS, hl, hq134, hq135, hq136, hq137⟩ := hI
      refine W.eq (g2 := F0 m 184 ls [.int g131]) rfl ?_
      refine lv_istore (lv' := [(4, .int g131), (3, .int g61), (2, .int v10), (1, .int u4), (0, .ref o)]) hx hb dX11_clauseHere_184 hl (by decide) rfl (fun ls hl => ?_)
      refine lv_iload hx hb dX11_clauseHere_186 (lv_at hl 0 rfl) ?_
      refine lv_if_ne (tgt := 198) hx hb dX11_clauseHere_188 (by decide) (fun c138 => ?_) (fun c138 => ?_)
      · skip
        have c138 := i_ne (Eq.refl g131.toInt) (show (0 : Int32).toInt = 0 by decide) c138
        refine lv_aload_n hx hb dX11_clauseHere_198 rfl (lv_at hl 4 rfl) ?_
        refine va_get (D := D) (ci := 11) (v := .int (I 22)) (C := RX11) (T := TX11) (N := 49) hx hb hg inGX11 hown hKN.1 hP 0 rfl rfl 22 (by decide) (hg _ kw_1230) (fun _ h9 => h9) rfl dX11_clauseHere_199 ?_
        refine lv_bipush (v := 12) hx hb dX11_clauseHere_202 (by decide) ?_
        refine lv_icmp_ne (tgt := 214) hx hb dX11_clauseHere_204 (by decide) (fun c139 => ?_) (fun c139 => ?_)
        · skip
          have c139 := i_ne (Eq.refl (I 22).toInt) (show (12 : Int32).toInt = 12 by decide) c139
          refine lv_aload_n hx hb dX11_clauseHere_214 rfl (lv_at hl 4 rfl) ?_
          refine lv_dup hx hb dX11_clauseHere_215 rfl ?_
          refine va_get (D := D) (ci := 11) (v := .int (I 22)) (C := RX11) (T := TX11) (N := 49) hx hb hg inGX11 hown hKN.1 hP 0 rfl rfl 22 (by decide) (hg _ kw_1230) (fun _ h9 => h9) rfl dX11_clauseHere_216 ?_
          refine lv_iconst (v := 1) hx hb dX11_clauseHere_219 (by decide) ?_
          refine lv_iadd hx hb dX11_clauseHere_220 ?_
          refine lv_topi (fun v140 ev140 => ?_)
          have hv140 := i_add (Eq.refl (I 22).toInt) (show (1 : Int32).toInt = 1 by decide) ev140 (by omega) (by omega)
          refine va_put (D := D) (ci := 11) (v := .int v140) (ty := .int) (C := RX11) (T := TX11) (N := 49) hx hb hg inGX11 tyX11 tyX11_ok nmX11 hown hKN.1 hP hD hS 0 rfl rfl 22 (by decide) (hg _ kw_1230) (fun _ h9 => h9) rfl (by decide +kernel) rfl rfl (Nat.le_of_ble_eq_true rfl) dX11_clauseHere_221 (fun H locs hP hD hS => ?_)
          have hP : va_P D vwCl (MW Y o a (upd (upd I 16 g132) 22 v140) J F G) H := hP
          have hD : va_D A (MW Y o a (upd (upd I 16 g132) 22 v140) J F G) := hD
          refine lv_iload_n hx hb dX11_clauseHere_224 rfl (lv_at hl 2 rfl) ?_
          refine lv_if_ne (tgt := 236) hx hb dX11_clauseHere_225 (by decide) (fun c141 => ?_) (fun c141 => ?_)
          · skip
            have c141 := i_ne (Eq.refl v10.toInt) (show (0 : Int32).toInt = 0 by decide) c141
            refine lv_iload_n hx hb dX11_clauseHere_236 rfl (lv_at hl 2 rfl) ?_
            refine lv_iconst (v := 1) hx hb dX11_clauseHere_237 (by decide) ?_
            refine lv_icmp_ne (tgt := 249) hx hb dX11_clauseHere_238 (by decide) (fun c142 => ?_) (fun c142 => ?_)
            · skip
              have c142 := i_ne (Eq.refl v10.toInt) (show (1 : Int32).toInt = 1 by decide) c142
              refine lv_aload_n hx hb dX11_clauseHere_249 rfl (lv_at hl 4 rfl) ?_
              refine lv_iload_n hx hb dX11_clauseHere_250 rfl (lv_at hl 1 rfl) ?_
              refine cga (rn_V (As := [.int g61]) (rest := []) (b := o) (m_clauseOf l D Y Z H.size o a (upd (upd I 16 g132) 22 v140) J F G  g61 (show (0 ≤ g132.toInt ∧ g132.toInt ≤ 400) by omega) (show (0 ≤ (I 3).toInt ∧ (I 3).toInt ≤ 400) by omega) (show (g132.toInt ≤ (I 3).toInt) by omega) (show (0 ≤ (I 17).toInt ∧ (I 17).toInt ≤ 4000) by omega) (show (0 ≤ (I 20).toInt ∧ (I 20).toInt ≤ 60) by omega) (show (0 ≤ (I 19).toInt ∧ (I 19).toInt ≤ 17) by omega) (show (((F 6) (I 19).toNatClampNeg).toInt ≤ g132.toInt) by omega) (show (((F 8) (I 19).toNatClampNeg).toInt ≤ 11) by omega) hr_PT) ⟨hx, hb, hml, hown, hg⟩ lk_X11_312 ⟨CP.blind, va_recv hKN.1 hP (ci := 11) (q0 := 0) rfl rfl, CP.at hP hKN hD⟩ ⟨⟨rfl, rfl⟩, ⟨Nat.le_of_ble_eq_true rfl, Nat.le_of_ble_eq_true rfl⟩, ⟨Nat.le_of_ble_eq_true rfl, Nat.le_of_ble_eq_true rfl⟩⟩ hl.1 rfl (Nat.le_of_ble_eq_true rfl) dX11_clauseHere_251) hP hD hS hA (fun u143 H locs w144 hP hD hS => ?_)
              obtain ⟨u145, u146, u147, u148, u149, u150, u151, f152, f153, f154, f155, f156⟩ := u143
              obtain ⟨hw157, hw158, hw159, hw160, hw161, hw162, hw163, hw164, hw165, hw166, hw167, hw168⟩ : (0 ≤ u146.toInt ∧ u146.toInt ≤ 400) ∧ (g132.toInt ≤ u146.toInt) ∧ (u146.toInt ≤ (I 3).toInt) ∧ (0 ≤ u147.toInt ∧ u147.toInt ≤ 4000) ∧ (0 ≤ u149.toInt ∧ u149.toInt ≤ 60) ∧ ((I 20).toInt ≤ u149.toInt) ∧ (0 ≤ u145.toInt ∧ u145.toInt ≤ 1) ∧ (u145.toInt = 0 → 1 ≤ u147.toInt) ∧ (u145.toInt = 1 → (f155 (I 19).toNatClampNeg).toInt ≤ u146.toInt) ∧ (u145.toInt = 1 → (f153 (I 19).toNatClampNeg).toInt ≤ ((F 8) (I 19).toNatClampNeg).toInt + 1) ∧ (u145.toInt = 1 → PSt (F 4) f153 f152 f154 f155 (I 19).toNatClampNeg ((f155 (I 19).toNatClampNeg).toInt).toNat 0 (u149.toInt).toNat) ∧ TC (F 4) f153 f152 f154 := w144
              refine W.eq (g2 := F0 m 254 ls [.int u145]) rfl ?_
              have hP : va_P D vwCl (MW Y o a (upd (upd (upd (upd (upd (upd (upd I 16 u146) 17 u147) 18 u148) 20 u149) 21 u150) 22 v140) 24 u151) J (vf_upd (vf_upd (vf_upd (vf_upd (vf_upd F 5 f154) 6 f155) 7 f152) 8 f153) 23 f156) G) H := hP
              have hD : va_D A (MW Y o a (upd (upd (upd (upd (upd (upd (upd I 16 u146) 17 u147) 18 u148) 20 u149) 21 u150) 22 v140) 24 u151) J (vf_upd (vf_upd (vf_upd (vf_upd (vf_upd F 5 f154) 6 f155) 7 f152) 8 f153) 23 f156) G) := hD
              refine W.widen (k := 0) (n := 0) (Nat.le_of_ble_eq_true rfl) (Nat.le_of_ble_eq_true rfl) ?_
              exact W.zret (v := u145) hx hb hr (z_nar (by omega)) (fun t ht hW => ⟨⟨(u145, u146, u147, u148, u149, u150, u151, v140, f152, f153, f154, f155, f156, (F 9), (F 10), (F 11), (F 12), (F 13), (F 14), (F 15)), rfl, ⟨(show (0 ≤ u146.toInt ∧ u146.toInt ≤ 400) by omega), (show ((I 16).toInt ≤ u146.toInt) by omega), (show (u146.toInt ≤ (I 3).toInt) by omega), (show (0 ≤ u147.toInt ∧ u147.toInt ≤ 4000) by omega), (show (0 ≤ u149.toInt ∧ u149.toInt ≤ 60) by omega), (show ((I 20).toInt ≤ u149.toInt) by omega), (show (0 ≤ u145.toInt ∧ u145.toInt ≤ 1) by omega), (show (u145.toInt = 0 → 1 ≤ u147.toInt) by omega), (show (0 ≤ v140.toInt ∧ v140.toInt ≤ 12) by omega), (show (u145.toInt = 1 → (f155 (I 19).toNatClampNeg).toInt ≤ u146.toInt) by omega), (show (u145.toInt = 1 → (f153 (I 19).toNatClampNeg).toInt ≤ v140.toInt) by omega), (show (u145.toInt = 1 → ((F 9) (I 19).toNatClampNeg).toInt ≤ 9999) by omega), (show (u145.toInt = 1 → (((F 10) (I 19).toNatClampNeg).toInt < 0 ∨ ((2 ≤ ((F 10) (I 19).toNatClampNeg).toInt ∧ ((F 10) (I 19).toNatClampNeg).toInt ≤ 200) ∧ ((F 11) (I 19).toNatClampNeg).toInt ≤ 200))) by omega), (show (u145.toInt = 1 → (((F 12) (I 19).toNatClampNeg).toInt < 0 ∨ (1 ≤ ((F 12) (I 19).toNatClampNeg).toInt ∧ ((F 13) (I 19).toNatClampNeg).toInt ≤ 10))) by omega), hk0, (show (u145.toInt = 1 → PSt (F 4) f153 f152 f154 f155 (I 19).toNatClampNeg ((f155 (I 19).toNatClampNeg).toInt).toNat 0 (u149.toInt).toNat) from (fun hh => PT_md (hw167 hh) (by omega) rfl (by omega) (by omega))), (show TC (F 4) f153 f152 f154 from hw168)⟩, CB.mk ht hP hD⟩, hS.F ht⟩) hS.2.2 dX11_clauseHere_254
            · skip
              have c142 := i_eq (Eq.refl v10.toInt) (show (1 : Int32).toInt = 1 by decide) c142
              refine lv_aload_n hx hb dX11_clauseHere_241 rfl (lv_at hl 4 rfl) ?_
              refine lv_iload_n hx hb dX11_clauseHere_242 rfl (lv_at hl 3 rfl) ?_
              refine cga (rn_V (As := [.int u4]) (rest := []) (b := o) (m_searchClause l D Y Z H.size o a (upd (upd I 16 g132) 22 v140) J F G  u4 (show (0 ≤ g132.toInt ∧ g132.toInt ≤ 400) by omega) (show (0 ≤ (I 3).toInt ∧ (I 3).toInt ≤ 400) by omega) (show (g132.toInt ≤ (I 3).toInt) by omega) (show (0 ≤ (I 17).toInt ∧ (I 17).toInt ≤ 4000) by omega) (show (0 ≤ (I 19).toInt ∧ (I 19).toInt ≤ 17) by omega) (show (0 ≤ u4.toInt ∧ u4.toInt ≤ 400) by omega) (show ((((F 10) (I 19).toNatClampNeg).toInt < 0 ∨ ((2 ≤ ((F 10) (I 19).toNatClampNeg).toInt ∧ ((F 10) (I 19).toNatClampNeg).toInt ≤ 200) ∧ ((F 11) (I 19).toNatClampNeg).toInt ≤ 200))) by omega) (show ((((F 12) (I 19).toNatClampNeg).toInt < 0 ∨ (1 ≤ ((F 12) (I 19).toNatClampNeg).toInt ∧ ((F 13) (I 19).toNatClampNeg).toInt ≤ 10))) by omega) hk0 hr_UN) ⟨hx, hb, hml, hown, hg⟩ lk_X11_341 ⟨CP.blind, va_recv hKN.1 hP (ci := 11) (q0 := 0) rfl rfl, CP.at hP hKN hD⟩ ⟨⟨rfl, rfl⟩, ⟨Nat.le_of_ble_eq_true rfl, Nat.le_of_ble_eq_true rfl⟩, ⟨Nat.le_of_ble_eq_true rfl, Nat.le_of_ble_eq_true rfl⟩⟩ hl.1 rfl (Nat.le_of_ble_eq_true rfl) dX11_clauseHere_243) hP hD hS hA (fun u169 H locs w170 hP hD hS => ?_)
              obtain ⟨u171, u172, u173, u174, f175, f176, f177, f178, f179, f180⟩ := u169
              obtain ⟨hw181, hw182, hw183, hw184, hw185, hw186, hw187, hw188, hw189⟩ : (0 ≤ u172.toInt ∧ u172.toInt ≤ 400) ∧ (g132.toInt ≤ u172.toInt) ∧ (u172.toInt ≤ (I 3).toInt) ∧ (0 ≤ u173.toInt ∧ u173.toInt ≤ 4000) ∧ (0 ≤ u171.toInt ∧ u171.toInt ≤ 1) ∧ (u171.toInt = 0 → 1 ≤ u173.toInt) ∧ (u171.toInt = 1 → ((f175 (I 19).toNatClampNeg).toInt < 0 ∨ ((2 ≤ (f175 (I 19).toNatClampNeg).toInt ∧ (f175 (I 19).toNatClampNeg).toInt ≤ 200) ∧ (f176 (I 19).toNatClampNeg).toInt ≤ 200))) ∧ (u171.toInt = 1 → ((f177 (I 19).toNatClampNeg).toInt < 0 ∨ (1 ≤ (f177 (I 19).toNatClampNeg).toInt ∧ (f178 (I 19).toNatClampNeg).toInt ≤ 10))) ∧ TX (F 4) (F 9) f175 f176 f177 f178 := w170
              refine W.eq (g2 := F0 m 246 ls [.int u171]) rfl ?_
              have hP : va_P D vwCl (MW Y o a (upd (upd (upd (upd I 16 u172) 17 u173) 18 u174) 22 v140) J (vf_upd (vf_upd (vf_upd (vf_upd (vf_upd (vf_upd F 10 f175) 11 f176) 12 f177) 13 f178) 14 f179) 15 f180) G) H := hP
              have hD : va_D A (MW Y o a (upd (upd (upd (upd I 16 u172) 17 u173) 18 u174) 22 v140) J (vf_upd (vf_upd (vf_upd (vf_upd (vf_upd (vf_upd F 10 f175) 11 f176) 12 f177) 13 f178) 14 f179) 15 f180) G) := hD
              refine lv_goto (tgt := 254) hx hb dX11_clauseHere_246 (by decide) ?_
              refine W.widen (k := 0) (n := 0) (Nat.le_of_ble_eq_true rfl) (Nat.le_of_ble_eq_true rfl) ?_
              exact W.zret (v := u171) hx hb hr (z_nar (by omega)) (fun t ht hW => ⟨⟨(u171, u172, u173, u174, (I 20), (I 21), (I 24), v140, (F 7), (F 8), (F 5), (F 6), (F 23), (F 9), f175, f176, f177, f178, f179, f180), rfl, ⟨(show (0 ≤ u172.toInt ∧ u172.toInt ≤ 400) by omega), (show ((I 16).toInt ≤ u172.toInt) by omega), (show (u172.toInt ≤ (I 3).toInt) by omega), (show (0 ≤ u173.toInt ∧ u173.toInt ≤ 4000) by omega), (show (0 ≤ (I 20).toInt ∧ (I 20).toInt ≤ 60) by omega), (show ((I 20).toInt ≤ (I 20).toInt) by omega), (show (0 ≤ u171.toInt ∧ u171.toInt ≤ 1) by omega), (show (u171.toInt = 0 → 1 ≤ u173.toInt) by omega), (show (0 ≤ v140.toInt ∧ v140.toInt ≤ 12) by omega), (show (u171.toInt = 1 → ((F 6) (I 19).toNatClampNeg).toInt ≤ u172.toInt) by omega), (show (u171.toInt = 1 → ((F 8) (I 19).toNatClampNeg).toInt ≤ v140.toInt) by omega), (show (u171.toInt = 1 → ((F 9) (I 19).toNatClampNeg).toInt ≤ 9999) by omega), (show (u171.toInt = 1 → ((f175 (I 19).toNatClampNeg).toInt < 0 ∨ ((2 ≤ (f175 (I 19).toNatClampNeg).toInt ∧ (f175 (I 19).toNatClampNeg).toInt ≤ 200) ∧ (f176 (I 19).toNatClampNeg).toInt ≤ 200))) by omega), (show (u171.toInt = 1 → ((f177 (I 19).toNatClampNeg).toInt < 0 ∨ (1 ≤ (f177 (I 19).toNatClampNeg).toInt ∧ (f178 (I 19).toNatClampNeg).toInt ≤ 10))) by omega), hw189, (show (u171.toInt = 1 → PSt (F 4) (F 8) (F 7) (F 5) (F 6) (I 19).toNatClampNeg (((F 6) (I 19).toNatClampNeg).toInt).toNat 0 ((I 20).toInt).toNat) from (fun _ => PT_md hr_PT (by omega) rfl (by omega) (by omega))), (show TC (F 4) (F 8) (F 7) (F 5) from (PS_tc hr_PT))⟩, CB.mk ht hP hD⟩, hS.F ht⟩) hS.2.2 dX11_clauseHere_254
          · skip
            have c141 := i_eq (Eq.refl v10.toInt) (show (0 : Int32).toInt = 0 by decide) c141
            refine lv_aload_n hx hb dX11_clauseHere_228 rfl (lv_at hl 4 rfl) ?_
            refine lv_iload_n hx hb dX11_clauseHere_229 rfl (lv_at hl 3 rfl) ?_
            refine cga (rn_V (As := [.int u4]) (rest := []) (b := o) (m_lawClause l D Y Z H.size o a (upd (upd I 16 g132) 22 v140) J F G  u4 (show (0 ≤ g132.toInt ∧ g132.toInt ≤ 400) by omega) (show (0 ≤ (I 3).toInt ∧ (I 3).toInt ≤ 400) by omega) (show (g132.toInt ≤ (I 3).toInt) by omega) (show (0 ≤ (I 17).toInt ∧ (I 17).toInt ≤ 4000) by omega) (show (0 ≤ (I 20).toInt ∧ (I 20).toInt ≤ 60) by omega) (show (0 ≤ (I 19).toInt ∧ (I 19).toInt ≤ 17) by omega) (show (0 ≤ u4.toInt ∧ u4.toInt ≤ 400) by omega) (show (((F 6) (I 19).toNatClampNeg).toInt ≤ g132.toInt) by omega) (show (((F 8) (I 19).toNatClampNeg).toInt ≤ 11) by omega) (show (((F 9) (I 19).toNatClampNeg).toInt ≤ 9999) by omega) hk0 hr_PT hr_UN) ⟨hx, hb, hml, hown, hg⟩ lk_X11_338 ⟨CP.blind, va_recv hKN.1 hP (ci := 11) (q0 := 0) rfl rfl, CP.at hP hKN hD⟩ ⟨⟨rfl, rfl⟩, ⟨Nat.le_of_ble_eq_true rfl, Nat.le_of_ble_eq_true rfl⟩, ⟨Nat.le_of_ble_eq_true rfl, Nat.le_of_ble_eq_true rfl⟩⟩ hl.1 rfl (Nat.le_of_ble_eq_true rfl) dX11_clauseHere_230) hP hD hS hA (fun u190 H locs w191 hP hD hS => ?_)
            obtain ⟨u192, u193, u194, u195, u196, u197, u198, f199, f200, f201, f202, f203, f204⟩ := u190
            obtain ⟨hw205, hw206, hw207, hw208, hw209, hw210, hw211, hw212, hw213, hw214, hw215, hw216, hw217, hw218⟩ : (0 ≤ u193.toInt ∧ u193.toInt ≤ 400) ∧ (g132.toInt ≤ u193.toInt) ∧ (u193.toInt ≤ (I 3).toInt) ∧ (0 ≤ u194.toInt ∧ u194.toInt ≤ 4000) ∧ (0 ≤ u196.toInt ∧ u196.toInt ≤ 60) ∧ ((I 20).toInt ≤ u196.toInt) ∧ (0 ≤ u192.toInt ∧ u192.toInt ≤ 1) ∧ (u192.toInt = 0 → 1 ≤ u194.toInt) ∧ (u192.toInt = 1 → (f202 (I 19).toNatClampNeg).toInt ≤ u193.toInt) ∧ (u192.toInt = 1 → (f200 (I 19).toNatClampNeg).toInt ≤ ((F 8) (I 19).toNatClampNeg).toInt + 1) ∧ (u192.toInt = 1 → (f204 (I 19).toNatClampNeg).toInt ≤ 9999) ∧ TX (F 4) f204 (F 10) (F 11) (F 12) (F 13) ∧ (u192.toInt = 1 → PSt (F 4) f200 f199 f201 f202 (I 19).toNatClampNeg ((f202 (I 19).toNatClampNeg).toInt).toNat 0 (u196.toInt).toNat) ∧ TC (F 4) f200 f199 f201 := w191
            refine W.eq (g2 := F0 m 233 ls [.int u192]) rfl ?_
            have hP : va_P D vwCl (MW Y o a (upd (upd (upd (upd (upd (upd (upd I 16 u193) 17 u194) 18 u195) 20 u196) 21 u197) 22 v140) 24 u198) J (vf_upd (vf_upd (vf_upd (vf_upd (vf_upd (vf_upd F 5 f201) 6 f202) 7 f199) 8 f200) 9 f204) 23 f203) G) H := hP
            have hD : va_D A (MW Y o a (upd (upd (upd (upd (upd (upd (upd I 16 u193) 17 u194) 18 u195) 20 u196) 21 u197) 22 v140) 24 u198) J (vf_upd (vf_upd (vf_upd (vf_upd (vf_upd (vf_upd F 5 f201) 6 f202) 7 f199) 8 f200) 9 f204) 23 f203) G) := hD
            refine lv_goto (tgt := 254) hx hb dX11_clauseHere_233 (by decide) ?_
            refine W.widen (k := 0) (n := 0) (Nat.le_of_ble_eq_true rfl) (Nat.le_of_ble_eq_true rfl) ?_
            exact W.zret (v := u192) hx hb hr (z_nar (by omega)) (fun t ht hW => ⟨⟨(u192, u193, u194, u195, u196, u197, u198, v140, f199, f200, f201, f202, f203, f204, (F 10), (F 11), (F 12), (F 13), (F 14), (F 15)), rfl, ⟨(show (0 ≤ u193.toInt ∧ u193.toInt ≤ 400) by omega), (show ((I 16).toInt ≤ u193.toInt) by omega), (show (u193.toInt ≤ (I 3).toInt) by omega), (show (0 ≤ u194.toInt ∧ u194.toInt ≤ 4000) by omega), (show (0 ≤ u196.toInt ∧ u196.toInt ≤ 60) by omega), (show ((I 20).toInt ≤ u196.toInt) by omega), (show (0 ≤ u192.toInt ∧ u192.toInt ≤ 1) by omega), (show (u192.toInt = 0 → 1 ≤ u194.toInt) by omega), (show (0 ≤ v140.toInt ∧ v140.toInt ≤ 12) by omega), (show (u192.toInt = 1 → (f202 (I 19).toNatClampNeg).toInt ≤ u193.toInt) by omega), (show (u192.toInt = 1 → (f200 (I 19).toNatClampNeg).toInt ≤ v140.toInt) by omega), (show (u192.toInt = 1 → (f204 (I 19).toNatClampNeg).toInt ≤ 9999) by omega), (show (u192.toInt = 1 → (((F 10) (I 19).toNatClampNeg).toInt < 0 ∨ ((2 ≤ ((F 10) (I 19).toNatClampNeg).toInt ∧ ((F 10) (I 19).toNatClampNeg).toInt ≤ 200) ∧ ((F 11) (I 19).toNatClampNeg).toInt ≤ 200))) by omega), (show (u192.toInt = 1 → (((F 12) (I 19).toNatClampNeg).toInt < 0 ∨ (1 ≤ ((F 12) (I 19).toNatClampNeg).toInt ∧ ((F 13) (I 19).toNatClampNeg).toInt ≤ 10))) by omega), hw216, (show (u192.toInt = 1 → PSt (F 4) f200 f199 f201 f202 (I 19).toNatClampNeg ((f202 (I 19).toNatClampNeg).toInt).toNat 0 (u196.toInt).toNat) from (fun hh => PT_md (hw217 hh) (by omega) rfl (by omega) (by omega))), (show TC (F 4) f200 f199 f201 from hw218)⟩, CB.mk ht hP hD⟩, hS.F ht⟩) hS.2.2 dX11_clauseHere_254
        · skip
          have c139 := i_eq (Eq.refl (I 22).toInt) (show (12 : Int32).toInt = 12 by decide) c139
          refine lv_aload_n hx hb dX11_clauseHere_207 rfl (lv_at hl 4 rfl) ?_
          refine lv_iconst (v := 4) hx hb dX11_clauseHere_208 (by decide) ?_
          refine lv_iload_n hx hb dX11_clauseHere_209 rfl (lv_at hl 3 rfl) ?_
          have zi4 : (4 : Int32).toInt = 4 := by decide
          refine cga (rn_V (As := [.int 4, .int u4]) (rest := []) (b := o) (m_fails l D Y Z H.size o a (upd I 16 g132) J F G  4 u4 (show (0 ≤ (4 : Int32).toInt ∧ (4 : Int32).toInt ≤ 4) by omega) (show (0 ≤ u4.toInt ∧ u4.toInt ≤ 400) by omega) (show (0 ≤ (I 17).toInt ∧ (I 17).toInt ≤ 4000) by omega)) ⟨hx, hb, hml, hown, hg⟩ lk_X11_200 ⟨CP.blind, va_recv hKN.1 hP (ci := 11) (q0 := 0) rfl rfl, CP.at hP hKN hD⟩ ⟨⟨rfl, rfl⟩, ⟨Nat.le_of_ble_eq_true rfl, Nat.le_of_ble_eq_true rfl⟩, ⟨Nat.le_of_ble_eq_true rfl, Nat.le_of_ble_eq_true rfl⟩⟩ hl.1 rfl (Nat.le_of_ble_eq_true rfl) dX11_clauseHere_210) hP hD hS hA (fun u219 H locs w220 hP hD hS => ?_)
          obtain ⟨u221, u222⟩ := u219
          obtain ⟨hw223, hw224⟩ : (u221.toInt = 0) ∧ (1 ≤ u222.toInt ∧ u222.toInt ≤ 4000) := w220
          refine W.eq (g2 := F0 m 213 ls [.int u221]) rfl ?_
          have hP : va_P D vwCl (MW Y o a (upd (upd I 16 g132) 17 u222) J F G) H := hP
          have hD : va_D A (MW Y o a (upd (upd I 16 g132) 17 u222) J F G) := hD
          obtain rfl : u221 = 0 := i_is (X := 0) (by omega) (by decide)
          refine W.eq (g2 := F0 m 213 ls [.int 0]) rfl ?_
          refine W.widen (k := 0) (n := 0) (Nat.le_of_ble_eq_true rfl) (Nat.le_of_ble_eq_true rfl) ?_
          have zi0 : (0 : Int32).toInt = 0 := by decide
          exact W.zret (v := 0) hx hb hr (by decide) (fun t ht hW => ⟨⟨(0, g132, u222, (I 18), (I 20), (I 21), (I 24), (I 22), (F 7), (F 8), (F 5), (F 6), (F 23), (F 9), (F 10), (F 11), (F 12), (F 13), (F 14), (F 15)), rfl, ⟨(show (0 ≤ g132.toInt ∧ g132.toInt ≤ 400) by omega), (show ((I 16).toInt ≤ g132.toInt) by omega), (show (g132.toInt ≤ (I 3).toInt) by omega), (show (0 ≤ u222.toInt ∧ u222.toInt ≤ 4000) by omega), (show (0 ≤ (I 20).toInt ∧ (I 20).toInt ≤ 60) by omega), (show ((I 20).toInt ≤ (I 20).toInt) by omega), (show (0 ≤ (0 : Int32).toInt ∧ (0 : Int32).toInt ≤ 1) by omega), (show ((0 : Int32).toInt = 0 → 1 ≤ u222.toInt) by omega), (show (0 ≤ (I 22).toInt ∧ (I 22).toInt ≤ 12) by omega), (show ((0 : Int32).toInt = 1 → ((F 6) (I 19).toNatClampNeg).toInt ≤ g132.toInt) by omega), (show ((0 : Int32).toInt = 1 → ((F 8) (I 19).toNatClampNeg).toInt ≤ (I 22).toInt) by omega), (show ((0 : Int32).toInt = 1 → ((F 9) (I 19).toNatClampNeg).toInt ≤ 9999) by omega), (show ((0 : Int32).toInt = 1 → (((F 10) (I 19).toNatClampNeg).toInt < 0 ∨ ((2 ≤ ((F 10) (I 19).toNatClampNeg).toInt ∧ ((F 10) (I 19).toNatClampNeg).toInt ≤ 200) ∧ ((F 11) (I 19).toNatClampNeg).toInt ≤ 200))) by omega), (show ((0 : Int32).toInt = 1 → (((F 12) (I 19).toNatClampNeg).toInt < 0 ∨ (1 ≤ ((F 12) (I 19).toNatClampNeg).toInt ∧ ((F 13) (I 19).toNatClampNeg).toInt ≤ 10))) by omega), hk0, (show ((0 : Int32).toInt = 1 → PSt (F 4) (F 8) (F 7) (F 5) (F 6) (I 19).toNatClampNeg (((F 6) (I 19).toNatClampNeg).toInt).toNat 0 ((I 20).toInt).toNat) from (fun h => absurd h (by decide))), (show TC (F 4) (F 8) (F 7) (F 5) from (PS_tc hr_PT))⟩, CB.mk ht hP hD⟩, hS.F ht⟩) hS.2.2 dX11_clauseHere_213
      · skip
        have c138 := i_eq (Eq.refl g131.toInt) (show (0 : Int32).toInt = 0 by decide) c138
        refine lv_aload_n hx hb dX11_clauseHere_191 rfl (lv_at hl 4 rfl) ?_
        refine lv_iconst (v := 0) hx hb dX11_clauseHere_192 (by decide) ?_
        refine lv_iload_n hx hb dX11_clauseHere_193 rfl (lv_at hl 3 rfl) ?_
        have zi0 : (0 : Int32).toInt = 0 := by decide
        refine cga (rn_V (As := [.int 0, .int u4]) (rest := []) (b := o) (m_fails l D Y Z H.size o a (upd I 16 g132) J F G  0 u4 (show (0 ≤ (0 : Int32).toInt ∧ (0 : Int32).toInt ≤ 4) by omega) (show (0 ≤ u4.toInt ∧ u4.toInt ≤ 400) by omega) (show (0 ≤ (I 17).toInt ∧ (I 17).toInt ≤ 4000) by omega)) ⟨hx, hb, hml, hown, hg⟩ lk_X11_200 ⟨CP.blind, va_recv hKN.1 hP (ci := 11) (q0 := 0) rfl rfl, CP.at hP hKN hD⟩ ⟨⟨rfl, rfl⟩, ⟨Nat.le_of_ble_eq_true rfl, Nat.le_of_ble_eq_true rfl⟩, ⟨Nat.le_of_ble_eq_true rfl, Nat.le_of_ble_eq_true rfl⟩⟩ hl.1 rfl (Nat.le_of_ble_eq_true rfl) dX11_clauseHere_194) hP hD hS hA (fun u225 H locs w226 hP hD hS => ?_)
        obtain ⟨u227, u228⟩ := u225
        obtain ⟨hw229, hw230⟩ : (u227.toInt = 0) ∧ (1 ≤ u228.toInt ∧ u228.toInt ≤ 4000) := w226
        refine W.eq (g2 := F0 m 197 ls [.int u227]) rfl ?_
        have hP : va_P D vwCl (MW Y o a (upd (upd I 16 g132) 17 u228) J F G) H := hP
        have hD : va_D A (MW Y o a (upd (upd I 16 g132) 17 u228) J F G) := hD
        obtain rfl : u227 = 0 := i_is (X := 0) (by omega) (by decide)
        refine W.eq (g2 := F0 m 197 ls [.int 0]) rfl ?_
        refine W.widen (k := 0) (n := 0) (Nat.le_of_ble_eq_true rfl) (Nat.le_of_ble_eq_true rfl) ?_
        exact W.zret (v := 0) hx hb hr (by decide) (fun t ht hW => ⟨⟨(0, g132, u228, (I 18), (I 20), (I 21), (I 24), (I 22), (F 7), (F 8), (F 5), (F 6), (F 23), (F 9), (F 10), (F 11), (F 12), (F 13), (F 14), (F 15)), rfl, ⟨(show (0 ≤ g132.toInt ∧ g132.toInt ≤ 400) by omega), (show ((I 16).toInt ≤ g132.toInt) by omega), (show (g132.toInt ≤ (I 3).toInt) by omega), (show (0 ≤ u228.toInt ∧ u228.toInt ≤ 4000) by omega), (show (0 ≤ (I 20).toInt ∧ (I 20).toInt ≤ 60) by omega), (show ((I 20).toInt ≤ (I 20).toInt) by omega), (show (0 ≤ (0 : Int32).toInt ∧ (0 : Int32).toInt ≤ 1) by omega), (show ((0 : Int32).toInt = 0 → 1 ≤ u228.toInt) by omega), (show (0 ≤ (I 22).toInt ∧ (I 22).toInt ≤ 12) by omega), (show ((0 : Int32).toInt = 1 → ((F 6) (I 19).toNatClampNeg).toInt ≤ g132.toInt) by omega), (show ((0 : Int32).toInt = 1 → ((F 8) (I 19).toNatClampNeg).toInt ≤ (I 22).toInt) by omega), (show ((0 : Int32).toInt = 1 → ((F 9) (I 19).toNatClampNeg).toInt ≤ 9999) by omega), (show ((0 : Int32).toInt = 1 → (((F 10) (I 19).toNatClampNeg).toInt < 0 ∨ ((2 ≤ ((F 10) (I 19).toNatClampNeg).toInt ∧ ((F 10) (I 19).toNatClampNeg).toInt ≤ 200) ∧ ((F 11) (I 19).toNatClampNeg).toInt ≤ 200))) by omega), (show ((0 : Int32).toInt = 1 → (((F 12) (I 19).toNatClampNeg).toInt < 0 ∨ (1 ≤ ((F 12) (I 19).toNatClampNeg).toInt ∧ ((F 13) (I 19).toNatClampNeg).toInt ≤ 10))) by omega), hk0, (show ((0 : Int32).toInt = 1 → PSt (F 4) (F 8) (F 7) (F 5) (F 6) (I 19).toNatClampNeg (((F 6) (I 19).toNatClampNeg).toInt).toNat 0 ((I 20).toInt).toNat) from (fun h => absurd h (by decide))), (show TC (F 4) (F 8) (F 7) (F 5) from (PS_tc hr_PT))⟩, CB.mk ht hP hD⟩, hS.F ht⟩) hS.2.2 dX11_clauseHere_197
    · skip
      refine lv_if_ne (tgt := 122) hx hb dX11_clauseHere_91 (by decide) (fun c231 => ?_) (fun c231 => ?_)
      · skip
        have c231 := i_ne (Eq.refl v10.toInt) (show (0 : Int32).toInt = 0 by decide) c231
        refine lv_iload_n hx hb dX11_clauseHere_122 rfl (lv_at hl 1 rfl) ?_
        refine lv_iconst (v := 1) hx hb dX11_clauseHere_123 (by decide) ?_
        refine lv_icmp_ne (tgt := 175) hx hb dX11_clauseHere_124 (by decide) (fun c232 => ?_) (fun c232 => ?_)
        · skip
          have c232 := i_ne (Eq.refl v10.toInt) (show (1 : Int32).toInt = 1 by decide) c232
          refine lv_iload_n hx hb dX11_clauseHere_175 rfl (lv_at hl 0 rfl) ?_
          refine lv_if_lt (tgt := 183) hx hb dX11_clauseHere_176 (by decide) (fun c233 => ?_) (fun c233 => ?_)
          · skip
            have c233 := i_lt (Eq.refl g61.toInt) (show (0 : Int32).toInt = 0 by decide) c233
            refine lv_iconst (v := 0) hx hb dX11_clauseHere_183 (by decide) ?_
            have zi0 : (0 : Int32).toInt = 0 := by decide
            refine W.widen (k := 0) (n := 0) (Nat.le_of_ble_eq_true rfl) (Nat.le_of_ble_eq_true rfl) ?_
            exact jn133 (0, g62) H locs ls ⟨hP, hD, hS, lv_sub hl [0, 1, 2, 3] rfl, by omega, by omega, by omega, by omega⟩
          · skip
            have c233 := i_nlt (Eq.refl g61.toInt) (show (0 : Int32).toInt = 0 by decide) c233
            refine lv_iconst (v := 1) hx hb dX11_clauseHere_179 (by decide) ?_
            refine lv_goto (tgt := 184) hx hb dX11_clauseHere_180 (by decide) ?_
            have zi1 : (1 : Int32).toInt = 1 := by decide
            refine W.widen (k := 0) (n := 0) (Nat.le_of_ble_eq_true rfl) (Nat.le_of_ble_eq_true rfl) ?_
            exact jn133 (1, g62) H locs ls ⟨hP, hD, hS, lv_sub hl [0, 1, 2, 3] rfl, by omega, by omega, by omega, by omega⟩
        · skip
          have c232 := i_eq (Eq.refl v10.toInt) (show (1 : Int32).toInt = 1 by decide) c232
          refine lv_aload_n hx hb dX11_clauseHere_127 rfl (lv_at hl 3 rfl) ?_
          refine lv_ldc2 (v := 1650811252) hx hb hown (hg _ kw_1485) dX11_clauseHere_128 ?_
          have zl1650811252 : (1650811252 : Int64).toInt = 1650811252 := by decide
          refine cga (rn_V (As := [.long 1650811252]) (rest := []) (b := o) (m_isWord l D Y Z H.size o a (upd I 16 g62) J F G  1650811252 (show (0 ≤ g62.toInt ∧ g62.toInt ≤ 400) by omega) (show (0 ≤ (I 3).toInt ∧ (I 3).toInt ≤ 400) by omega) (show (g62.toInt ≤ (I 3).toInt) by omega)) ⟨hx, hb, hml, hown, hg⟩ lk_X11_190 ⟨CP.blind, va_recv hKN.1 hP (ci := 11) (q0 := 0) rfl rfl, CP.at hP hKN hD⟩ ⟨⟨rfl, rfl⟩, ⟨Nat.le_of_ble_eq_true rfl, Nat.le_of_ble_eq_true rfl⟩, ⟨Nat.le_of_ble_eq_true rfl, Nat.le_of_ble_eq_true rfl⟩⟩ hl.1 rfl (Nat.le_of_ble_eq_true rfl) dX11_clauseHere_131) hP hD hS hA (fun u234 H locs w235 hP hD hS => ?_)
          obtain ⟨u236, u237⟩ := u234
          obtain ⟨hw238, hw239, hw240, hw241, hw242⟩ : (0 ≤ u237.toInt ∧ u237.toInt ≤ 400) ∧ (g62.toInt ≤ u237.toInt) ∧ (u237.toInt ≤ (I 3).toInt) ∧ (0 ≤ u236.toInt ∧ u236.toInt ≤ 1) ∧ (u236.toInt = 1 → (u237.toInt < (I 3).toInt ∧ 97 ≤ ((F 2) u237.toNatClampNeg).toInt ∧ ((F 2) u237.toNatClampNeg).toInt ≤ 122)) := w235
          refine W.eq (g2 := F0 m 134 ls [.int u236]) rfl ?_
          have hP : va_P D vwCl (MW Y o a (upd I 16 u237) J F G) H := hP
          have hD : va_D A (MW Y o a (upd I 16 u237) J F G) := hD
          refine lv_if_ne (tgt := 167) hx hb dX11_clauseHere_134 (by decide) (fun c243 => ?_) (fun c243 => ?_)
          · skip
            have c243 := i_ne (Eq.refl u236.toInt) (show (0 : Int32).toInt = 0 by decide) c243
            refine lv_iconst (v := 1) hx hb dX11_clauseHere_167 (by decide) ?_
            refine lv_goto (tgt := 184) hx hb dX11_clauseHere_168 (by decide) ?_
            have zi1 : (1 : Int32).toInt = 1 := by decide
            refine W.widen (k := 0) (n := 0) (Nat.le_of_ble_eq_true rfl) (Nat.le_of_ble_eq_true rfl) ?_
            exact jn133 (1, u237) H locs ls ⟨hP, hD, hS, lv_sub hl [0, 1, 2, 3] rfl, by omega, by omega, by omega, by omega⟩
          · skip
            have c243 := i_eq (Eq.refl u236.toInt) (show (0 : Int32).toInt = 0 by decide) c243
            refine lv_aload_n hx hb dX11_clauseHere_137 rfl (lv_at hl 3 rfl) ?_
            refine lv_ldc2 (v := 1819242087) hx hb hown (hg _ kw_1486) dX11_clauseHere_138 ?_
            have zl1819242087 : (1819242087 : Int64).toInt = 1819242087 := by decide
            refine cga (rn_V (As := [.long 1819242087]) (rest := []) (b := o) (m_isWord l D Y Z H.size o a (upd I 16 u237) J F G  1819242087 (show (0 ≤ u237.toInt ∧ u237.toInt ≤ 400) by omega) (show (0 ≤ (I 3).toInt ∧ (I 3).toInt ≤ 400) by omega) (show (u237.toInt ≤ (I 3).toInt) by omega)) ⟨hx, hb, hml, hown, hg⟩ lk_X11_190 ⟨CP.blind, va_recv hKN.1 hP (ci := 11) (q0 := 0) rfl rfl, CP.at hP hKN hD⟩ ⟨⟨rfl, rfl⟩, ⟨Nat.le_of_ble_eq_true rfl, Nat.le_of_ble_eq_true rfl⟩, ⟨Nat.le_of_ble_eq_true rfl, Nat.le_of_ble_eq_true rfl⟩⟩ hl.1 rfl (Nat.le_of_ble_eq_true rfl) dX11_clauseHere_141) hP hD hS hA (fun u244 H locs w245 hP hD hS => ?_)
            obtain ⟨u246, u247⟩ := u244
            obtain ⟨hw248, hw249, hw250, hw251, hw252⟩ : (0 ≤ u247.toInt ∧ u247.toInt ≤ 400) ∧ (u237.toInt ≤ u247.toInt) ∧ (u247.toInt ≤ (I 3).toInt) ∧ (0 ≤ u246.toInt ∧ u246.toInt ≤ 1) ∧ (u246.toInt = 1 → (u247.toInt < (I 3).toInt ∧ 97 ≤ ((F 2) u247.toNatClampNeg).toInt ∧ ((F 2) u247.toNatClampNeg).toInt ≤ 122)) := w245
            refine W.eq (g2 := F0 m 144 ls [.int u246]) rfl ?_
            have hP : va_P D vwCl (MW Y o a (upd I 16 u247) J F G) H := hP
            have hD : va_D A (MW Y o a (upd I 16 u247) J F G) := hD
            refine lv_if_ne (tgt := 167) hx hb dX11_clauseHere_144 (by decide) (fun c253 => ?_) (fun c253 => ?_)
            · skip
              have c253 := i_ne (Eq.refl u246.toInt) (show (0 : Int32).toInt = 0 by decide) c253
              refine lv_iconst (v := 1) hx hb dX11_clauseHere_167 (by decide) ?_
              refine lv_goto (tgt := 184) hx hb dX11_clauseHere_168 (by decide) ?_
              have zi1 : (1 : Int32).toInt = 1 := by decide
              refine W.widen (k := 0) (n := 0) (Nat.le_of_ble_eq_true rfl) (Nat.le_of_ble_eq_true rfl) ?_
              exact jn133 (1, u247) H locs ls ⟨hP, hD, hS, lv_sub hl [0, 1, 2, 3] rfl, by omega, by omega, by omega, by omega⟩
            · skip
              have c253 := i_eq (Eq.refl u246.toInt) (show (0 : Int32).toInt = 0 by decide) c253
              refine lv_aload_n hx hb dX11_clauseHere_147 rfl (lv_at hl 3 rfl) ?_
              refine lv_ldc2 (v := 465557353332) hx hb hown (hg _ kw_1487) dX11_clauseHere_148 ?_
              have zl465557353332 : (465557353332 : Int64).toInt = 465557353332 := by decide
              refine cga (rn_V (As := [.long 465557353332]) (rest := []) (b := o) (m_isWord l D Y Z H.size o a (upd I 16 u247) J F G  465557353332 (show (0 ≤ u247.toInt ∧ u247.toInt ≤ 400) by omega) (show (0 ≤ (I 3).toInt ∧ (I 3).toInt ≤ 400) by omega) (show (u247.toInt ≤ (I 3).toInt) by omega)) ⟨hx, hb, hml, hown, hg⟩ lk_X11_190 ⟨CP.blind, va_recv hKN.1 hP (ci := 11) (q0 := 0) rfl rfl, CP.at hP hKN hD⟩ ⟨⟨rfl, rfl⟩, ⟨Nat.le_of_ble_eq_true rfl, Nat.le_of_ble_eq_true rfl⟩, ⟨Nat.le_of_ble_eq_true rfl, Nat.le_of_ble_eq_true rfl⟩⟩ hl.1 rfl (Nat.le_of_ble_eq_true rfl) dX11_clauseHere_151) hP hD hS hA (fun u254 H locs w255 hP hD hS => ?_)
              obtain ⟨u256, u257⟩ := u254
              obtain ⟨hw258, hw259, hw260, hw261, hw262⟩ : (0 ≤ u257.toInt ∧ u257.toInt ≤ 400) ∧ (u247.toInt ≤ u257.toInt) ∧ (u257.toInt ≤ (I 3).toInt) ∧ (0 ≤ u256.toInt ∧ u256.toInt ≤ 1) ∧ (u256.toInt = 1 → (u257.toInt < (I 3).toInt ∧ 97 ≤ ((F 2) u257.toNatClampNeg).toInt ∧ ((F 2) u257.toNatClampNeg).toInt ≤ 122)) := w255
              refine W.eq (g2 := F0 m 154 ls [.int u256]) rfl ?_
              have hP : va_P D vwCl (MW Y o a (upd I 16 u257) J F G) H := hP
              have hD : va_D A (MW Y o a (upd I 16 u257) J F G) := hD
              refine lv_if_ne (tgt := 167) hx hb dX11_clauseHere_154 (by decide) (fun c263 => ?_) (fun c263 => ?_)
              · skip
                have c263 := i_ne (Eq.refl u256.toInt) (show (0 : Int32).toInt = 0 by decide) c263
                refine lv_iconst (v := 1) hx hb dX11_clauseHere_167 (by decide) ?_
                refine lv_goto (tgt := 184) hx hb dX11_clauseHere_168 (by decide) ?_
                have zi1 : (1 : Int32).toInt = 1 := by decide
                refine W.widen (k := 0) (n := 0) (Nat.le_of_ble_eq_true rfl) (Nat.le_of_ble_eq_true rfl) ?_
                exact jn133 (1, u257) H locs ls ⟨hP, hD, hS, lv_sub hl [0, 1, 2, 3] rfl, by omega, by omega, by omega, by omega⟩
              · skip
                have c263 := i_eq (Eq.refl u256.toInt) (show (0 : Int32).toInt = 0 by decide) c263
                refine lv_aload_n hx hb dX11_clauseHere_157 rfl (lv_at hl 3 rfl) ?_
                refine lv_ldc2 (v := 1818848869) hx hb hown (hg _ kw_1488) dX11_clauseHere_158 ?_
                have zl1818848869 : (1818848869 : Int64).toInt = 1818848869 := by decide
                refine cga (rn_V (As := [.long 1818848869]) (rest := []) (b := o) (m_isWord l D Y Z H.size o a (upd I 16 u257) J F G  1818848869 (show (0 ≤ u257.toInt ∧ u257.toInt ≤ 400) by omega) (show (0 ≤ (I 3).toInt ∧ (I 3).toInt ≤ 400) by omega) (show (u257.toInt ≤ (I 3).toInt) by omega)) ⟨hx, hb, hml, hown, hg⟩ lk_X11_190 ⟨CP.blind, va_recv hKN.1 hP (ci := 11) (q0 := 0) rfl rfl, CP.at hP hKN hD⟩ ⟨⟨rfl, rfl⟩, ⟨Nat.le_of_ble_eq_true rfl, Nat.le_of_ble_eq_true rfl⟩, ⟨Nat.le_of_ble_eq_true rfl, Nat.le_of_ble_eq_true rfl⟩⟩ hl.1 rfl (Nat.le_of_ble_eq_true rfl) dX11_clauseHere_161) hP hD hS hA (fun u264 H locs w265 hP hD hS => ?_)
                obtain ⟨u266, u267⟩ := u264
                obtain ⟨hw268, hw269, hw270, hw271, hw272⟩ : (0 ≤ u267.toInt ∧ u267.toInt ≤ 400) ∧ (u257.toInt ≤ u267.toInt) ∧ (u267.toInt ≤ (I 3).toInt) ∧ (0 ≤ u266.toInt ∧ u266.toInt ≤ 1) ∧ (u266.toInt = 1 → (u267.toInt < (I 3).toInt ∧ 97 ≤ ((F 2) u267.toNatClampNeg).toInt ∧ ((F 2) u267.toNatClampNeg).toInt ≤ 122)) := w265
                refine W.eq (g2 := F0 m 164 ls [.int u266]) rfl ?_
                have hP : va_P D vwCl (MW Y o a (upd I 16 u267) J F G) H := hP
                have hD : va_D A (MW Y o a (upd I 16 u267) J F G) := hD
                refine lv_if_eq (tgt := 171) hx hb dX11_clauseHere_164 (by decide) (fun c273 => ?_) (fun c273 => ?_)
                · skip
                  have c273 := i_eq (Eq.refl u266.toInt) (show (0 : Int32).toInt = 0 by decide) c273
                  refine lv_iconst (v := 0) hx hb dX11_clauseHere_171 (by decide) ?_
                  refine lv_goto (tgt := 184) hx hb dX11_clauseHere_172 (by decide) ?_
                  have zi0 : (0 : Int32).toInt = 0 := by decide
                  refine W.widen (k := 0) (n := 0) (Nat.le_of_ble_eq_true rfl) (Nat.le_of_ble_eq_true rfl) ?_
                  exact jn133 (0, u267) H locs ls ⟨hP, hD, hS, lv_sub hl [0, 1, 2, 3] rfl, by omega, by omega, by omega, by omega⟩
                · skip
                  have c273 := i_ne (Eq.refl u266.toInt) (show (0 : Int32).toInt = 0 by decide) c273
                  refine lv_iconst (v := 1) hx hb dX11_clauseHere_167 (by decide) ?_
                  refine lv_goto (tgt := 184) hx hb dX11_clauseHere_168 (by decide) ?_
                  have zi1 : (1 : Int32).toInt = 1 := by decide
                  refine W.widen (k := 0) (n := 0) (Nat.le_of_ble_eq_true rfl) (Nat.le_of_ble_eq_true rfl) ?_
                  exact jn133 (1, u267) H locs ls ⟨hP, hD, hS, lv_sub hl [0, 1, 2, 3] rfl, by omega, by omega, by omega, by omega⟩
      · skip
        have c231 := i_eq (Eq.refl v10.toInt) (show (0 : Int32).toInt = 0 by decide) c231
        refine lv_aload_n hx hb dX11_clauseHere_94 rfl (lv_at hl 3 rfl) ?_
        refine lv_ldc2 (v := 108243534178420) hx hb hown (hg _ kw_1483) dX11_clauseHere_95 ?_
        have zl108243534178420 : (108243534178420 : Int64).toInt = 108243534178420 := by decide
        refine cga (rn_V (As := [.long 108243534178420]) (rest := []) (b := o) (m_isWord l D Y Z H.size o a (upd I 16 g62) J F G  108243534178420 (show (0 ≤ g62.toInt ∧ g62.toInt ≤ 400) by omega) (show (0 ≤ (I 3).toInt ∧ (I 3).toInt ≤ 400) by omega) (show (g62.toInt ≤ (I 3).toInt) by omega)) ⟨hx, hb, hml, hown, hg⟩ lk_X11_190 ⟨CP.blind, va_recv hKN.1 hP (ci := 11) (q0 := 0) rfl rfl, CP.at hP hKN hD⟩ ⟨⟨rfl, rfl⟩, ⟨Nat.le_of_ble_eq_true rfl, Nat.le_of_ble_eq_true rfl⟩, ⟨Nat.le_of_ble_eq_true rfl, Nat.le_of_ble_eq_true rfl⟩⟩ hl.1 rfl (Nat.le_of_ble_eq_true rfl) dX11_clauseHere_98) hP hD hS hA (fun u274 H locs w275 hP hD hS => ?_)
        obtain ⟨u276, u277⟩ := u274
        obtain ⟨hw278, hw279, hw280, hw281, hw282⟩ : (0 ≤ u277.toInt ∧ u277.toInt ≤ 400) ∧ (g62.toInt ≤ u277.toInt) ∧ (u277.toInt ≤ (I 3).toInt) ∧ (0 ≤ u276.toInt ∧ u276.toInt ≤ 1) ∧ (u276.toInt = 1 → (u277.toInt < (I 3).toInt ∧ 97 ≤ ((F 2) u277.toNatClampNeg).toInt ∧ ((F 2) u277.toNatClampNeg).toInt ≤ 122)) := w275
        refine W.eq (g2 := F0 m 101 ls [.int u276]) rfl ?_
        have hP : va_P D vwCl (MW Y o a (upd I 16 u277) J F G) H := hP
        have hD : va_D A (MW Y o a (upd I 16 u277) J F G) := hD
        refine lv_if_ne (tgt := 114) hx hb dX11_clauseHere_101 (by decide) (fun c283 => ?_) (fun c283 => ?_)
        · skip
          have c283 := i_ne (Eq.refl u276.toInt) (show (0 : Int32).toInt = 0 by decide) c283
          refine lv_iconst (v := 1) hx hb dX11_clauseHere_114 (by decide) ?_
          refine lv_goto (tgt := 184) hx hb dX11_clauseHere_115 (by decide) ?_
          have zi1 : (1 : Int32).toInt = 1 := by decide
          refine W.widen (k := 0) (n := 0) (Nat.le_of_ble_eq_true rfl) (Nat.le_of_ble_eq_true rfl) ?_
          exact jn133 (1, u277) H locs ls ⟨hP, hD, hS, lv_sub hl [0, 1, 2, 3] rfl, by omega, by omega, by omega, by omega⟩
        · skip
          have c283 := i_eq (Eq.refl u276.toInt) (show (0 : Int32).toInt = 0 by decide) c283
          refine lv_aload_n hx hb dX11_clauseHere_104 rfl (lv_at hl 3 rfl) ?_
          refine lv_ldc2 (v := 474315584357) hx hb hown (hg _ kw_1484) dX11_clauseHere_105 ?_
          have zl474315584357 : (474315584357 : Int64).toInt = 474315584357 := by decide
          refine cga (rn_V (As := [.long 474315584357]) (rest := []) (b := o) (m_isWord l D Y Z H.size o a (upd I 16 u277) J F G  474315584357 (show (0 ≤ u277.toInt ∧ u277.toInt ≤ 400) by omega) (show (0 ≤ (I 3).toInt ∧ (I 3).toInt ≤ 400) by omega) (show (u277.toInt ≤ (I 3).toInt) by omega)) ⟨hx, hb, hml, hown, hg⟩ lk_X11_190 ⟨CP.blind, va_recv hKN.1 hP (ci := 11) (q0 := 0) rfl rfl, CP.at hP hKN hD⟩ ⟨⟨rfl, rfl⟩, ⟨Nat.le_of_ble_eq_true rfl, Nat.le_of_ble_eq_true rfl⟩, ⟨Nat.le_of_ble_eq_true rfl, Nat.le_of_ble_eq_true rfl⟩⟩ hl.1 rfl (Nat.le_of_ble_eq_true rfl) dX11_clauseHere_108) hP hD hS hA (fun u284 H locs w285 hP hD hS => ?_)
          obtain ⟨u286, u287⟩ := u284
          obtain ⟨hw288, hw289, hw290, hw291, hw292⟩ : (0 ≤ u287.toInt ∧ u287.toInt ≤ 400) ∧ (u277.toInt ≤ u287.toInt) ∧ (u287.toInt ≤ (I 3).toInt) ∧ (0 ≤ u286.toInt ∧ u286.toInt ≤ 1) ∧ (u286.toInt = 1 → (u287.toInt < (I 3).toInt ∧ 97 ≤ ((F 2) u287.toNatClampNeg).toInt ∧ ((F 2) u287.toNatClampNeg).toInt ≤ 122)) := w285
          refine W.eq (g2 := F0 m 111 ls [.int u286]) rfl ?_
          have hP : va_P D vwCl (MW Y o a (upd I 16 u287) J F G) H := hP
          have hD : va_D A (MW Y o a (upd I 16 u287) J F G) := hD
          refine lv_if_eq (tgt := 118) hx hb dX11_clauseHere_111 (by decide) (fun c293 => ?_) (fun c293 => ?_)
          · skip
            have c293 := i_eq (Eq.refl u286.toInt) (show (0 : Int32).toInt = 0 by decide) c293
            refine lv_iconst (v := 0) hx hb dX11_clauseHere_118 (by decide) ?_
            refine lv_goto (tgt := 184) hx hb dX11_clauseHere_119 (by decide) ?_
            have zi0 : (0 : Int32).toInt = 0 := by decide
            refine W.widen (k := 0) (n := 0) (Nat.le_of_ble_eq_true rfl) (Nat.le_of_ble_eq_true rfl) ?_
            exact jn133 (0, u287) H locs ls ⟨hP, hD, hS, lv_sub hl [0, 1, 2, 3] rfl, by omega, by omega, by omega, by omega⟩
          · skip
            have c293 := i_ne (Eq.refl u286.toInt) (show (0 : Int32).toInt = 0 by decide) c293
            refine lv_iconst (v := 1) hx hb dX11_clauseHere_114 (by decide) ?_
            refine lv_goto (tgt := 184) hx hb dX11_clauseHere_115 (by decide) ?_
            have zi1 : (1 : Int32).toInt = 1 := by decide
            refine W.widen (k := 0) (n := 0) (Nat.le_of_ble_eq_true rfl) (Nat.le_of_ble_eq_true rfl) ?_
            exact jn133 (1, u287) H locs ls ⟨hP, hD, hS, lv_sub hl [0, 1, 2, 3] rfl, by omega, by omega, by omega, by omega⟩
  · skip
    refine lv_if_eq (tgt := 32) hx hb dX11_clauseHere_25 (by decide) (fun c294 => ?_) (fun c294 => ?_)
    · skip
      have c294 := i_eq (Eq.refl u13.toInt) (show (0 : Int32).toInt = 0 by decide) c294
      refine lv_aload_n hx hb dX11_clauseHere_32 rfl (lv_at hl 2 rfl) ?_
      refine lv_ldc2 (v := 1885432178) hx hb hown (hg _ kw_1479) dX11_clauseHere_33 ?_
      have zl1885432178 : (1885432178 : Int64).toInt = 1885432178 := by decide
      refine cga (rn_V (As := [.long 1885432178]) (rest := []) (b := o) (m_isWord l D Y Z H.size o a (upd I 16 u14) J F G  1885432178 (show (0 ≤ u14.toInt ∧ u14.toInt ≤ 400) by omega) (show (0 ≤ (I 3).toInt ∧ (I 3).toInt ≤ 400) by omega) (show (u14.toInt ≤ (I 3).toInt) by omega)) ⟨hx, hb, hml, hown, hg⟩ lk_X11_190 ⟨CP.blind, va_recv hKN.1 hP (ci := 11) (q0 := 0) rfl rfl, CP.at hP hKN hD⟩ ⟨⟨rfl, rfl⟩, ⟨Nat.le_of_ble_eq_true rfl, Nat.le_of_ble_eq_true rfl⟩, ⟨Nat.le_of_ble_eq_true rfl, Nat.le_of_ble_eq_true rfl⟩⟩ hl.1 rfl (Nat.le_of_ble_eq_true rfl) dX11_clauseHere_36) hP hD hS hA (fun u295 H locs w296 hP hD hS => ?_)
      obtain ⟨u297, u298⟩ := u295
      obtain ⟨hw299, hw300, hw301, hw302, hw303⟩ : (0 ≤ u298.toInt ∧ u298.toInt ≤ 400) ∧ (u14.toInt ≤ u298.toInt) ∧ (u298.toInt ≤ (I 3).toInt) ∧ (0 ≤ u297.toInt ∧ u297.toInt ≤ 1) ∧ (u297.toInt = 1 → (u298.toInt < (I 3).toInt ∧ 97 ≤ ((F 2) u298.toNatClampNeg).toInt ∧ ((F 2) u298.toNatClampNeg).toInt ≤ 122)) := w296
      refine W.eq (g2 := F0 m 39 ls [.int u297]) rfl ?_
      have hP : va_P D vwCl (MW Y o a (upd I 16 u298) J F G) H := hP
      have hD : va_D A (MW Y o a (upd I 16 u298) J F G) := hD
      refine lv_if_eq (tgt := 46) hx hb dX11_clauseHere_39 (by decide) (fun c304 => ?_) (fun c304 => ?_)
      · skip
        have c304 := i_eq (Eq.refl u297.toInt) (show (0 : Int32).toInt = 0 by decide) c304
        refine lv_aload_n hx hb dX11_clauseHere_46 rfl (lv_at hl 2 rfl) ?_
        refine lv_ldc2 (v := 1936748404) hx hb hown (hg _ kw_1480) dX11_clauseHere_47 ?_
        have zl1936748404 : (1936748404 : Int64).toInt = 1936748404 := by decide
        refine cga (rn_V (As := [.long 1936748404]) (rest := []) (b := o) (m_isWord l D Y Z H.size o a (upd I 16 u298) J F G  1936748404 (show (0 ≤ u298.toInt ∧ u298.toInt ≤ 400) by omega) (show (0 ≤ (I 3).toInt ∧ (I 3).toInt ≤ 400) by omega) (show (u298.toInt ≤ (I 3).toInt) by omega)) ⟨hx, hb, hml, hown, hg⟩ lk_X11_190 ⟨CP.blind, va_recv hKN.1 hP (ci := 11) (q0 := 0) rfl rfl, CP.at hP hKN hD⟩ ⟨⟨rfl, rfl⟩, ⟨Nat.le_of_ble_eq_true rfl, Nat.le_of_ble_eq_true rfl⟩, ⟨Nat.le_of_ble_eq_true rfl, Nat.le_of_ble_eq_true rfl⟩⟩ hl.1 rfl (Nat.le_of_ble_eq_true rfl) dX11_clauseHere_50) hP hD hS hA (fun u305 H locs w306 hP hD hS => ?_)
        obtain ⟨u307, u308⟩ := u305
        obtain ⟨hw309, hw310, hw311, hw312, hw313⟩ : (0 ≤ u308.toInt ∧ u308.toInt ≤ 400) ∧ (u298.toInt ≤ u308.toInt) ∧ (u308.toInt ≤ (I 3).toInt) ∧ (0 ≤ u307.toInt ∧ u307.toInt ≤ 1) ∧ (u307.toInt = 1 → (u308.toInt < (I 3).toInt ∧ 97 ≤ ((F 2) u308.toNatClampNeg).toInt ∧ ((F 2) u308.toNatClampNeg).toInt ≤ 122)) := w306
        refine W.eq (g2 := F0 m 53 ls [.int u307]) rfl ?_
        have hP : va_P D vwCl (MW Y o a (upd I 16 u308) J F G) H := hP
        have hD : va_D A (MW Y o a (upd I 16 u308) J F G) := hD
        refine lv_if_eq (tgt := 60) hx hb dX11_clauseHere_53 (by decide) (fun c314 => ?_) (fun c314 => ?_)
        · skip
          have c314 := i_eq (Eq.refl u307.toInt) (show (0 : Int32).toInt = 0 by decide) c314
          refine lv_aload_n hx hb dX11_clauseHere_60 rfl (lv_at hl 2 rfl) ?_
          refine lv_ldc2 (v := 444199957363) hx hb hown (hg _ kw_1481) dX11_clauseHere_61 ?_
          have zl444199957363 : (444199957363 : Int64).toInt = 444199957363 := by decide
          refine cga (rn_V (As := [.long 444199957363]) (rest := []) (b := o) (m_isWord l D Y Z H.size o a (upd I 16 u308) J F G  444199957363 (show (0 ≤ u308.toInt ∧ u308.toInt ≤ 400) by omega) (show (0 ≤ (I 3).toInt ∧ (I 3).toInt ≤ 400) by omega) (show (u308.toInt ≤ (I 3).toInt) by omega)) ⟨hx, hb, hml, hown, hg⟩ lk_X11_190 ⟨CP.blind, va_recv hKN.1 hP (ci := 11) (q0 := 0) rfl rfl, CP.at hP hKN hD⟩ ⟨⟨rfl, rfl⟩, ⟨Nat.le_of_ble_eq_true rfl, Nat.le_of_ble_eq_true rfl⟩, ⟨Nat.le_of_ble_eq_true rfl, Nat.le_of_ble_eq_true rfl⟩⟩ hl.1 rfl (Nat.le_of_ble_eq_true rfl) dX11_clauseHere_64) hP hD hS hA (fun u315 H locs w316 hP hD hS => ?_)
          obtain ⟨u317, u318⟩ := u315
          obtain ⟨hw319, hw320, hw321, hw322, hw323⟩ : (0 ≤ u318.toInt ∧ u318.toInt ≤ 400) ∧ (u308.toInt ≤ u318.toInt) ∧ (u318.toInt ≤ (I 3).toInt) ∧ (0 ≤ u317.toInt ∧ u317.toInt ≤ 1) ∧ (u317.toInt = 1 → (u318.toInt < (I 3).toInt ∧ 97 ≤ ((F 2) u318.toNatClampNeg).toInt ∧ ((F 2) u318.toNatClampNeg).toInt ≤ 122)) := w316
          refine W.eq (g2 := F0 m 67 ls [.int u317]) rfl ?_
          have hP : va_P D vwCl (MW Y o a (upd I 16 u318) J F G) H := hP
          have hD : va_D A (MW Y o a (upd I 16 u318) J F G) := hD
          refine lv_if_eq (tgt := 74) hx hb dX11_clauseHere_67 (by decide) (fun c324 => ?_) (fun c324 => ?_)
          · skip
            have c324 := i_eq (Eq.refl u317.toInt) (show (0 : Int32).toInt = 0 by decide) c324
            refine lv_aload_n hx hb dX11_clauseHere_74 rfl (lv_at hl 2 rfl) ?_
            refine lv_ldc2 (v := 109299962372965) hx hb hown (hg _ kw_1482) dX11_clauseHere_75 ?_
            have zl109299962372965 : (109299962372965 : Int64).toInt = 109299962372965 := by decide
            refine cga (rn_V (As := [.long 109299962372965]) (rest := []) (b := o) (m_isWord l D Y Z H.size o a (upd I 16 u318) J F G  109299962372965 (show (0 ≤ u318.toInt ∧ u318.toInt ≤ 400) by omega) (show (0 ≤ (I 3).toInt ∧ (I 3).toInt ≤ 400) by omega) (show (u318.toInt ≤ (I 3).toInt) by omega)) ⟨hx, hb, hml, hown, hg⟩ lk_X11_190 ⟨CP.blind, va_recv hKN.1 hP (ci := 11) (q0 := 0) rfl rfl, CP.at hP hKN hD⟩ ⟨⟨rfl, rfl⟩, ⟨Nat.le_of_ble_eq_true rfl, Nat.le_of_ble_eq_true rfl⟩, ⟨Nat.le_of_ble_eq_true rfl, Nat.le_of_ble_eq_true rfl⟩⟩ hl.1 rfl (Nat.le_of_ble_eq_true rfl) dX11_clauseHere_78) hP hD hS hA (fun u325 H locs w326 hP hD hS => ?_)
            obtain ⟨u327, u328⟩ := u325
            obtain ⟨hw329, hw330, hw331, hw332, hw333⟩ : (0 ≤ u328.toInt ∧ u328.toInt ≤ 400) ∧ (u318.toInt ≤ u328.toInt) ∧ (u328.toInt ≤ (I 3).toInt) ∧ (0 ≤ u327.toInt ∧ u327.toInt ≤ 1) ∧ (u327.toInt = 1 → (u328.toInt < (I 3).toInt ∧ 97 ≤ ((F 2) u328.toNatClampNeg).toInt ∧ ((F 2) u328.toNatClampNeg).toInt ≤ 122)) := w326
            refine W.eq (g2 := F0 m 81 ls [.int u327]) rfl ?_
            have hP : va_P D vwCl (MW Y o a (upd I 16 u328) J F G) H := hP
            have hD : va_D A (MW Y o a (upd I 16 u328) J F G) := hD
            refine lv_if_eq (tgt := 88) hx hb dX11_clauseHere_81 (by decide) (fun c334 => ?_) (fun c334 => ?_)
            · skip
              have c334 := i_eq (Eq.refl u327.toInt) (show (0 : Int32).toInt = 0 by decide) c334
              refine lv_iconst (v := (-1)) hx hb dX11_clauseHere_88 (by decide) ?_
              have zim1 : ((-1) : Int32).toInt = -1 := by decide
              refine W.widen (k := 0) (n := 0) (Nat.le_of_ble_eq_true rfl) (Nat.le_of_ble_eq_true rfl) ?_
              exact jn63 ((-1), u328) H locs ls ⟨hP, hD, hS, lv_sub hl [0, 1, 2] rfl, by omega, by omega, by omega, by omega⟩
            · skip
              have c334 := i_ne (Eq.refl u327.toInt) (show (0 : Int32).toInt = 0 by decide) c334
              refine lv_iconst (v := 4) hx hb dX11_clauseHere_84 (by decide) ?_
              refine lv_goto (tgt := 89) hx hb dX11_clauseHere_85 (by decide) ?_
              have zi4 : (4 : Int32).toInt = 4 := by decide
              refine W.widen (k := 0) (n := 0) (Nat.le_of_ble_eq_true rfl) (Nat.le_of_ble_eq_true rfl) ?_
              exact jn63 (4, u328) H locs ls ⟨hP, hD, hS, lv_sub hl [0, 1, 2] rfl, by omega, by omega, by omega, by omega⟩
          · skip
            have c324 := i_ne (Eq.refl u317.toInt) (show (0 : Int32).toInt = 0 by decide) c324
            refine lv_iconst (v := 3) hx hb dX11_clauseHere_70 (by decide) ?_
            refine lv_goto (tgt := 89) hx hb dX11_clauseHere_71 (by decide) ?_
            have zi3 : (3 : Int32).toInt = 3 := by decide
            refine W.widen (k := 0) (n := 0) (Nat.le_of_ble_eq_true rfl) (Nat.le_of_ble_eq_true rfl) ?_
            exact jn63 (3, u318) H locs ls ⟨hP, hD, hS, lv_sub hl [0, 1, 2] rfl, by omega, by omega, by omega, by omega⟩
        · skip
          have c314 := i_ne (Eq.refl u307.toInt) (show (0 : Int32).toInt = 0 by decide) c314
          refine lv_iconst (v := 2) hx hb dX11_clauseHere_56 (by decide) ?_
          refine lv_goto (tgt := 89) hx hb dX11_clauseHere_57 (by decide) ?_
          have zi2 : (2 : Int32).toInt = 2 := by decide
          refine W.widen (k := 0) (n := 0) (Nat.le_of_ble_eq_true rfl) (Nat.le_of_ble_eq_true rfl) ?_
          exact jn63 (2, u308) H locs ls ⟨hP, hD, hS, lv_sub hl [0, 1, 2] rfl, by omega, by omega, by omega, by omega⟩
      · skip
        have c304 := i_ne (Eq.refl u297.toInt) (show (0 : Int32).toInt = 0 by decide) c304
        refine lv_iconst (v := 1) hx hb dX11_clauseHere_42 (by decide) ?_
        refine lv_goto (tgt := 89) hx hb dX11_clauseHere_43 (by decide) ?_
        have zi1 : (1 : Int32).toInt = 1 := by decide
        refine W.widen (k := 0) (n := 0) (Nat.le_of_ble_eq_true rfl) (Nat.le_of_ble_eq_true rfl) ?_
        exact jn63 (1, u298) H locs ls ⟨hP, hD, hS, lv_sub hl [0, 1, 2] rfl, by omega, by omega, by omega, by omega⟩
    · skip
      have c294 := i_ne (Eq.refl u13.toInt) (show (0 : Int32).toInt = 0 by decide) c294
      refine lv_iconst (v := 0) hx hb dX11_clauseHere_28 (by decide) ?_
      refine lv_goto (tgt := 89) hx hb dX11_clauseHere_29 (by decide) ?_
      have zi0 : (0 : Int32).toInt = 0 := by decide
      refine W.widen (k := 0) (n := 0) (Nat.le_of_ble_eq_true rfl) (Nat.le_of_ble_eq_true rfl) ?_
      exact jn63 (0, u14) H locs ls ⟨hP, hD, hS, lv_sub hl [0, 1, 2] rfl, by omega, by omega, by omega, by omega⟩
