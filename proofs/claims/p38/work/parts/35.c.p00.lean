set_option maxHeartbeats 4000000 in
set_option maxRecDepth 100000 in
theorem x_X3_setFault (l : Launch) (D : va_G) (Y : Nat → ClassId) (Z : Nat → Nat) (sz : Nat) (ws : va_W) (T : RT) (g : GN) (q : GQ)  (p0 : Nat) (p1 : Int32) (hT : TW Y Z T g q ws) (ht0 : T p0 = (7, 0, 0)) : Met l yX3_setFault (.code yX3_setFault cX3_setFault 2 none :: GW) ({ frames := 0, cells := 0, slots := 0, locals := 0 }) (va_Pc [.ref p0, .int p1] (CPC D Y Z ws sz)) (QG (S := va_W) (fun _ => none) (fun u => TW Y Z T g q u ∧ KF 1 T ws u ∧ KF 6 T ws u) (fun u => CB D u (va_A ws sz)) (va_A ws sz)) 0 0 (va_A ws sz) := by
  refine Met.ofW (cc := cX3_setFault) (maxL := 2) (ret := none) (by decide) rfl ?_
  intro p e s m args below meth c s₁ B hml hv
  obtain ⟨rfl, ⟨hsz, hP, hKN, hD0⟩, hSZ⟩ := hv
  have hx := B.exec
  have hb := B.bytes
  have hr := B.returns
  have hts := atoms_spec (ws := .code yX3_setFault cX3_setFault 2 none :: GW) B.pre
  have hg : ∀ w ∈ GW, w.before _ s = true := fun w h => hts w (List.mem_cons_of_mem _ h)
  have hown : s.vm.findClass RX3 = some m.cls := findClass_of_methodNamed B.named
  have hlocks := B.notSynchronized
  subst hsz
  have hD := hD0.self (sz := s.heap.size)
  generalize hAe : va_A ws s.heap.size = A at hD hSZ ⊢
  have hA : ∀ q : Nat, s.heap.size ≤ q → A q := fun q h => by rw [← hAe]; exact Or.inr h
  clear hAe hD0 hts B
  have hl := lv_entry ([.ref p0, .int p1]) (n := 2) (Nat.le_of_ble_eq_true rfl)
  rw [lg_entry_eq]
  generalize (lg_sl ([.ref p0, .int p1]) ++ List.replicate (2 - (lg_sl ([.ref p0, .int p1])).length) Slot.unset).toArray = ls at hl ⊢
  have hl : lv_has ls 2 [(0, .ref p0), (1, .int p1)] := hl
  refine w_start (A0 := A) hP (fun H locs hP hS => ?_)
  refine lv_aload_n hx hb dX3_setFault_0 rfl (lv_at hl 0 rfl) ?_
  refine ok7 hT ht0 (fun p21 n1 a2 x3 x4 x5 x6 x7 x8 x9 x10 a11 a12 x13 hk22 h14 h15 h16 h17 h18 h19 h20 => ?_)
  refine va_get (D := D) (ci := 3) (v := .int x8) (C := RX3) (T := TX3) (N := 12) hx hb hg inGX3 hown hKN.1 hP p21 hk22 rfl 6 (by decide) (hg _ kw_184) (fun _ h9 => h9) rfl dX3_setFault_1 ?_
  have j23 := rgI x8
  refine lv_if_ne (tgt := 22) hx hb dX3_setFault_4 (by decide) (fun c24 => ?_) (fun c24 => ?_)
  · skip
    have c24 := i_ne (Eq.refl x8.toInt) (show (0 : Int32).toInt = 0 by decide) c24
    refine W.widen (k := 0) (n := 0) (Nat.le_of_ble_eq_true rfl) (Nat.le_of_ble_eq_true rfl) ?_
    exact W.vret hx hb hr (fun t ht hW => ⟨⟨ws, rfl, ⟨hT, KF.rf, KF.rf⟩, CB.mk ht hP hD⟩, hS.F ht⟩) hS.2.2 dX3_setFault_22
  · skip
    have c24 := i_eq (Eq.refl x8.toInt) (show (0 : Int32).toInt = 0 by decide) c24
    refine lv_aload_n hx hb dX3_setFault_7 rfl (lv_at hl 0 rfl) ?_
    refine lv_iconst (v := 1) hx hb dX3_setFault_8 (by decide) ?_
    refine lv_bipush (v := 8) hx hb dX3_setFault_9 (by decide) ?_
    refine lv_aload_n hx hb dX3_setFault_11 rfl (lv_at hl 0 rfl) ?_
    refine va_get (D := D) (ci := 3) (v := .int x6) (C := RX3) (T := TX3) (N := 12) hx hb hg inGX3 hown hKN.1 hP p21 hk22 rfl 4 (by decide) (hg _ kw_182) (fun _ h9 => h9) rfl dX3_setFault_12 ?_
    refine lv_imul hx hb dX3_setFault_15 ?_
    refine lv_topi (fun v25 ev25 => ?_)
    refine lv_iadd hx hb dX3_setFault_16 ?_
    refine lv_topi (fun v26 ev26 => ?_)
    refine lv_iload_n hx hb dX3_setFault_17 rfl (lv_at hl 1 rfl) ?_
    refine lv_iadd hx hb dX3_setFault_18 ?_
    refine lv_topi (fun v27 ev27 => ?_)
    refine va_put (D := D) (ci := 3) (v := .int v27) (ty := .int) (C := RX3) (T := TX3) (N := 12) hx hb hg inGX3 tyX3 tyX3_ok nmX3 hown hKN.1 hP hD hS p21 hk22 rfl 6 (by decide) (hg _ kw_184) (fun _ h9 => h9) rfl (by decide +kernel) rfl rfl (Nat.le_of_ble_eq_true rfl) dX3_setFault_19 (fun H locs hP hD2 hS => ?_)
    obtain ⟨w28, hP, hD, hT, hk30, kp29⟩ : ∃ wz, va_P D vwCl wz H ∧ va_D A wz ∧ TW Y Z T g q wz ∧ wz[p21]? = some (p0, .inr (3, [.ref a2, .int x3, .int x4, .int x5, .int x6, .int x7, .int v27, .int x9, .int x10, .ref (Z a11), .ref a12, .int x13])) ∧ Kp p0 ws wz := ⟨_, hP, hD2, st7 hT hD hk22 ht0 ⟨n1, a2, x3, x4, x5, x6, x7, v27, x9, x10, a11, a12, x13, rfl, h14, by omega, by omega, h17, h18, by omega, h20⟩, sw_eq hk22, sw_kp hk22⟩
    have ke31 : KF 1 T ws w28 := KF.tr KF.rf (KF.kp kp29 ht0 (by decide))
    have ke32 : KF 6 T ws w28 := KF.tr KF.rf (KF.kp kp29 ht0 (by decide))
    refine W.widen (k := 0) (n := 0) (Nat.le_of_ble_eq_true rfl) (Nat.le_of_ble_eq_true rfl) ?_
    exact W.vret hx hb hr (fun t ht hW => ⟨⟨w28, rfl, ⟨hT, ke31, ke32⟩, CB.mk ht hP hD⟩, hS.F ht⟩) hS.2.2 dX3_setFault_22
set_option maxHeartbeats 4000000 in
set_option maxRecDepth 100000 in
theorem x_X3_step (l : Launch) (D : va_G) (Y : Nat → ClassId) (Z : Nat → Nat) (sz : Nat) (ws : va_W) (T : RT) (g : GN) (q : GQ)  (p0 : Nat) (hT : TW Y Z T g q ws) (ht0 : T p0 = (7, 0, 0)) : Met l yX3_step (.code yX3_step cX3_step 3 none :: GW) ({ frames := 0, cells := 0, slots := 0, locals := 0 }) (va_Pc [.ref p0] (CPC D Y Z ws sz)) (QG (S := va_W) (fun _ => none) (fun u => TW Y Z T g q u ∧ KF 1 T ws u ∧ KF 6 T ws u) (fun u => CB D u (va_A ws sz)) (va_A ws sz)) 0 0 (va_A ws sz) := by
  refine Met.ofW (cc := cX3_step) (maxL := 3) (ret := none) (by decide) rfl ?_
  intro p e s m args below meth c s₁ B hml hv
  obtain ⟨rfl, ⟨hsz, hP, hKN, hD0⟩, hSZ⟩ := hv
  have hx := B.exec
  have hb := B.bytes
  have hr := B.returns
  have hts := atoms_spec (ws := .code yX3_step cX3_step 3 none :: GW) B.pre
  have hg : ∀ w ∈ GW, w.before _ s = true := fun w h => hts w (List.mem_cons_of_mem _ h)
  have hown : s.vm.findClass RX3 = some m.cls := findClass_of_methodNamed B.named
  have hlocks := B.notSynchronized
  subst hsz
  have hD := hD0.self (sz := s.heap.size)
  generalize hAe : va_A ws s.heap.size = A at hD hSZ ⊢
  have hA : ∀ q : Nat, s.heap.size ≤ q → A q := fun q h => by rw [← hAe]; exact Or.inr h
  clear hAe hD0 hts B
  have hl := lv_entry ([.ref p0]) (n := 3) (Nat.le_of_ble_eq_true rfl)
  rw [lg_entry_eq]
  generalize (lg_sl ([.ref p0]) ++ List.replicate (3 - (lg_sl ([.ref p0])).length) Slot.unset).toArray = ls at hl ⊢
  have hl : lv_has ls 3 [(0, .ref p0)] := hl
  refine w_start (A0 := A) hP (fun H locs hP hS => ?_)
  refine ok7 hT ht0 (fun p21 n1 a2 x3 x4 x5 x6 x7 x8 x9 x10 a11 a12 x13 hk22 h14 h15 h16 h17 h18 h19 h20 => ?_)
  refine w_loop (σ := va_W × Int32) (fun xx H locs ls => match xx with | (w46, v47) => va_P D vwCl w46 H ∧ va_D A w46 ∧ va_S A s.heap H locs ∧ lv_has ls 3 [(0, .ref p0)] ∧ TW Y Z T g q w46 ∧ KF 1 T ws w46 ∧ KF 6 T ws w46 ∧ w46[p21]? = some (p0, .inr (3, [.ref a2, .int x3, .int v47, .int x5, .int x6, .int x7, .int x8, .int x9, .int x10, .ref (Z a11), .ref a12, .int x13])) ∧ (0 ≤ v47.toInt ∧ v47.toInt ≤ 400) ∧ (v47.toInt ≤ (n1 : Int))) (fun xx => match xx with | (w46, v47) => (400 - v47.toInt).toNat) (ws, x4) ⟨hP, hD, hS, lv_sub hl [0] rfl, hT, KF.rf, KF.rf, hk22, by omega, by omega⟩ (fun xx H locs ls hI ih => ?_)
  obtain ⟨w46, v47⟩ := xx
  obtain ⟨hP, hD, hS, hl, hT, ke73, ke74, hk75, hq71, hq72⟩ := hI
  have ih76 := ih
  refine lv_aload_n hx hb dX3_step_0 rfl (lv_at hl 0 rfl) ?_
  refine va_get (D := D) (ci := 3) (v := .int v47) (C := RX3) (T := TX3) (N := 12) hx hb hg inGX3 hown hKN.1 hP p21 hk75 rfl 2 (by decide) (hg _ kw_180) (fun _ h9 => h9) rfl dX3_step_1 ?_
  refine lv_aload_n hx hb dX3_step_4 rfl (lv_at hl 0 rfl) ?_
  refine va_get (D := D) (ci := 3) (v := .int x3) (C := RX3) (T := TX3) (N := 12) hx hb hg inGX3 hown hKN.1 hP p21 hk75 rfl 1 (by decide) (hg _ kw_179) (fun _ h9 => h9) rfl dX3_step_5 ?_
  refine w_join (σ := Unit) (pcJ := 38) (kJ := 0) (nJ := 0) (stk := fun xx => match xx with | _ => []) (fun xx H locs ls => match xx with | _ => va_P D vwCl w46 H ∧ va_D A w46 ∧ va_S A s.heap H locs ∧ lv_has ls 3 [(0, .ref p0)] ∧ TW Y Z T g q w46) (fun xx H locs ls hI => ?_) (fun jn88 => ?_)
  · skip
    obtain ⟨hP, hD, hS, hl, hT⟩ := hI
    refine W.eq (g2 := F0 m 38 ls []) rfl ?_
    refine lv_aload_n hx hb dX3_step_38 rfl (lv_at hl 0 rfl) ?_
    refine lv_aload_n hx hb dX3_step_39 rfl (lv_at hl 0 rfl) ?_
    refine va_get (D := D) (ci := 3) (v := .int v47) (C := RX3) (T := TX3) (N := 12) hx hb hg inGX3 hown hKN.1 hP p21 hk75 rfl 2 (by decide) (hg _ kw_180) (fun _ h9 => h9) rfl dX3_step_40 ?_
    refine va_put (D := D) (ci := 3) (v := .int v47) (ty := .int) (C := RX3) (T := TX3) (N := 12) hx hb hg inGX3 tyX3 tyX3_ok nmX3 hown hKN.1 hP hD hS p21 hk75 rfl 4 (by decide) (hg _ kw_182) (fun _ h9 => h9) rfl (by decide +kernel) rfl rfl (Nat.le_of_ble_eq_true rfl) dX3_step_43 (fun H locs hP hD2 hS => ?_)
    obtain ⟨w89, hP, hD, hT, hk91, kp90⟩ : ∃ wz, va_P D vwCl wz H ∧ va_D A wz ∧ TW Y Z T g q wz ∧ wz[p21]? = some (p0, .inr (3, [.ref a2, .int x3, .int v47, .int x5, .int v47, .int x7, .int x8, .int x9, .int x10, .ref (Z a11), .ref a12, .int x13])) ∧ Kp p0 w46 wz := ⟨_, hP, hD2, st7 hT hD hk75 ht0 ⟨n1, a2, x3, v47, x5, v47, x7, x8, x9, x10, a11, a12, x13, rfl, h14, by omega, by omega, h17, h18, by omega, h20⟩, sw_eq hk75, sw_kp hk75⟩
    have ke92 : KF 1 T ws w89 := KF.tr ke73 (KF.kp kp90 ht0 (by decide))
    have ke93 : KF 6 T ws w89 := KF.tr ke74 (KF.kp kp90 ht0 (by decide))
    refine lv_aload_n hx hb dX3_step_46 rfl (lv_at hl 0 rfl) ?_
    refine va_get (D := D) (ci := 3) (v := .int v47) (C := RX3) (T := TX3) (N := 12) hx hb hg inGX3 hown hKN.1 hP p21 hk91 rfl 2 (by decide) (hg _ kw_180) (fun _ h9 => h9) rfl dX3_step_47 ?_
    refine lv_aload_n hx hb dX3_step_50 rfl (lv_at hl 0 rfl) ?_
    refine va_get (D := D) (ci := 3) (v := .int x3) (C := RX3) (T := TX3) (N := 12) hx hb hg inGX3 hown hKN.1 hP p21 hk91 rfl 1 (by decide) (hg _ kw_179) (fun _ h9 => h9) rfl dX3_step_51 ?_
    refine w_join (σ := Int32) (pcJ := 76) (kJ := 0) (nJ := 0) (stk := fun xx => match xx with | v98 => [.int v98]) (fun xx H locs ls => match xx with | v98 => va_P D vwCl w89 H ∧ va_D A w89 ∧ va_S A s.heap H locs ∧ lv_has ls 3 [(0, .ref p0)] ∧ TW Y Z T g q w89 ∧ (v98.toInt = 256 ∨ v47.toInt < x3.toInt) ∧ (0 ≤ v98.toInt ∧ v98.toInt ≤ 256)) (fun xx H locs ls hI => ?_) (fun jn99 => ?_)
    · skip
      revert hI
      generalize xx = v98
      intro hI
      obtain ⟨hP, hD, hS, hl, hT, hq100, hq101⟩ := hI
      refine W.eq (g2 := F0 m 76 ls [.int v98]) rfl ?_
      refine lv_istore_n (lv' := [(1, .int v98), (0, .ref p0)]) hx hb dX3_step_76 rfl hl (by decide) rfl (fun ls hl => ?_)
      refine lv_iload_n hx hb dX3_step_77 rfl (lv_at hl 0 rfl) ?_
      refine lv_bipush (v := 48) hx hb dX3_step_78 (by decide) ?_
      refine w_join (σ := Unit) (pcJ := 204) (kJ := 0) (nJ := 0) (stk := fun xx => match xx with | _ => []) (fun xx H locs ls => match xx with | _ => va_P D vwCl w89 H ∧ va_D A w89 ∧ va_S A s.heap H locs ∧ lv_has ls 3 [(1, .int v98), (0, .ref p0)] ∧ TW Y Z T g q w89 ∧ (v98.toInt = 256 ∨ v47.toInt < x3.toInt)) (fun xx H locs ls hI => ?_) (fun jn236 => ?_)
      · skip
        obtain ⟨hP, hD, hS, hl, hT, hq237⟩ := hI
        refine W.eq (g2 := F0 m 204 ls []) rfl ?_
        refine lv_iload_n hx hb dX3_step_204 rfl (lv_at hl 0 rfl) ?_
        refine lv_bipush (v := 97) hx hb dX3_step_205 (by decide) ?_
        refine w_join (σ := Unit) (pcJ := 275) (kJ := 0) (nJ := 0) (stk := fun xx => match xx with | _ => []) (fun xx H locs ls => match xx with | _ => va_P D vwCl w89 H ∧ va_D A w89 ∧ va_S A s.heap H locs ∧ lv_has ls 3 [(1, .int v98), (0, .ref p0)] ∧ TW Y Z T g q w89 ∧ (v98.toInt = 256 ∨ v47.toInt < x3.toInt)) (fun xx H locs ls hI => ?_) (fun jn295 => ?_)
        · skip
          obtain ⟨hP, hD, hS, hl, hT, hq296⟩ := hI
          refine W.eq (g2 := F0 m 275 ls []) rfl ?_
          refine lv_aload_n hx hb dX3_step_275 rfl (lv_at hl 1 rfl) ?_
          refine lv_iload_n hx hb dX3_step_276 rfl (lv_at hl 0 rfl) ?_
          refine va_put (D := D) (ci := 3) (v := .int v98) (ty := .int) (C := RX3) (T := TX3) (N := 12) hx hb hg inGX3 tyX3 tyX3_ok nmX3 hown hKN.1 hP hD hS p21 hk91 rfl 3 (by decide) (hg _ kw_181) (fun _ h9 => h9) rfl (by decide +kernel) rfl rfl (Nat.le_of_ble_eq_true rfl) dX3_step_277 (fun H locs hP hD2 hS => ?_)
          obtain ⟨w297, hP, hD, hT, hk299, kp298⟩ : ∃ wz, va_P D vwCl wz H ∧ va_D A wz ∧ TW Y Z T g q wz ∧ wz[p21]? = some (p0, .inr (3, [.ref a2, .int x3, .int v47, .int v98, .int v47, .int x7, .int x8, .int x9, .int x10, .ref (Z a11), .ref a12, .int x13])) ∧ Kp p0 w89 wz := ⟨_, hP, hD2, st7 hT hD hk91 ht0 ⟨n1, a2, x3, v47, v98, v47, x7, x8, x9, x10, a11, a12, x13, rfl, h14, by omega, by omega, h17, h18, by omega, h20⟩, sw_eq hk91, sw_kp hk91⟩
          have ke300 : KF 1 T ws w297 := KF.tr ke92 (KF.kp kp298 ht0 (by decide))
          have ke301 : KF 6 T ws w297 := KF.tr ke93 (KF.kp kp298 ht0 (by decide))
          refine lv_aload_n hx hb dX3_step_280 rfl (lv_at hl 1 rfl) ?_
          refine lv_dup hx hb dX3_step_281 rfl ?_
          refine va_get (D := D) (ci := 3) (v := .int v47) (C := RX3) (T := TX3) (N := 12) hx hb hg inGX3 hown hKN.1 hP p21 hk299 rfl 2 (by decide) (hg _ kw_180) (fun _ h9 => h9) rfl dX3_step_282 ?_
          refine lv_iload_n hx hb dX3_step_285 rfl (lv_at hl 0 rfl) ?_
          refine lv_sipush (v := 256) hx hb dX3_step_286 (by decide) ?_
          refine w_join (σ := Int32) (pcJ := 297) (kJ := 0) (nJ := 0) (stk := fun xx => match xx with | v303 => [.int v303, .int v47, .ref p0]) (fun xx H locs ls => match xx with | v303 => va_P D vwCl w297 H ∧ va_D A w297 ∧ va_S A s.heap H locs ∧ lv_has ls 3 [(1, .int v98), (0, .ref p0)] ∧ TW Y Z T g q w297 ∧ (v303.toInt = 0 ∨ v47.toInt < x3.toInt) ∧ (0 ≤ v303.toInt ∧ v303.toInt ≤ 1)) (fun xx H locs ls hI => ?_) (fun jn304 => ?_)
          · skip
            revert hI
            generalize xx = v303
            intro hI
            obtain ⟨hP, hD, hS, hl, hT, hq305, hq306⟩ := hI
            refine W.eq (g2 := F0 m 297 ls [.int v303, .int v47, .ref p0]) rfl ?_
            refine lv_iadd hx hb dX3_step_297 ?_
            refine lv_topi (fun v307 ev307 => ?_)
            have hv307 := i_add (Eq.refl v47.toInt) (Eq.refl v303.toInt) ev307 (by omega) (by omega)
            refine va_put (D := D) (ci := 3) (v := .int v307) (ty := .int) (C := RX3) (T := TX3) (N := 12) hx hb hg inGX3 tyX3 tyX3_ok nmX3 hown hKN.1 hP hD hS p21 hk299 rfl 2 (by decide) (hg _ kw_180) (fun _ h9 => h9) rfl (by decide +kernel) rfl rfl (Nat.le_of_ble_eq_true rfl) dX3_step_298 (fun H locs hP hD2 hS => ?_)
            obtain ⟨w308, hP, hD, hT, hk310, kp309⟩ : ∃ wz, va_P D vwCl wz H ∧ va_D A wz ∧ TW Y Z T g q wz ∧ wz[p21]? = some (p0, .inr (3, [.ref a2, .int x3, .int v307, .int v98, .int v47, .int x7, .int x8, .int x9, .int x10, .ref (Z a11), .ref a12, .int x13])) ∧ Kp p0 w297 wz := ⟨_, hP, hD2, st7 hT hD hk299 ht0 ⟨n1, a2, x3, v307, v98, v47, x7, x8, x9, x10, a11, a12, x13, rfl, h14, by omega, by omega, h17, h18, by omega, h20⟩, sw_eq hk299, sw_kp hk299⟩
            have ke311 : KF 1 T ws w308 := KF.tr ke300 (KF.kp kp309 ht0 (by decide))
            have ke312 : KF 6 T ws w308 := KF.tr ke301 (KF.kp kp309 ht0 (by decide))
            refine lv_aload_n hx hb dX3_step_301 rfl (lv_at hl 1 rfl) ?_
            refine va_get (D := D) (ci := 3) (v := .int v307) (C := RX3) (T := TX3) (N := 12) hx hb hg inGX3 hown hKN.1 hP p21 hk310 rfl 2 (by decide) (hg _ kw_180) (fun _ h9 => h9) rfl dX3_step_302 ?_
            refine lv_aload_n hx hb dX3_step_305 rfl (lv_at hl 1 rfl) ?_
            refine va_get (D := D) (ci := 3) (v := .int x3) (C := RX3) (T := TX3) (N := 12) hx hb hg inGX3 hown hKN.1 hP p21 hk310 rfl 1 (by decide) (hg _ kw_179) (fun _ h9 => h9) rfl dX3_step_306 ?_
            refine w_join (σ := Int32) (pcJ := 331) (kJ := 0) (nJ := 0) (stk := fun xx => match xx with | v318 => [.int v318]) (fun xx H locs ls => match xx with | v318 => va_P D vwCl w308 H ∧ va_D A w308 ∧ va_S A s.heap H locs ∧ lv_has ls 3 [(1, .int v98), (0, .ref p0)] ∧ TW Y Z T g q w308 ∧ (v318.toInt = 0 ∨ v307.toInt < x3.toInt) ∧ (0 ≤ v318.toInt ∧ v318.toInt ≤ 1)) (fun xx H locs ls hI => ?_) (fun jn319 => ?_)
            · skip
              revert hI
              generalize xx = v318
              intro hI
              obtain ⟨hP, hD, hS, hl, hT, hq320, hq321⟩ := hI
              refine W.eq (g2 := F0 m 331 ls [.int v318]) rfl ?_
              refine lv_istore_n (lv' := [(2, .int v318), (1, .int v98), (0, .ref p0)]) hx hb dX3_step_331 rfl hl (by decide) rfl (fun ls hl => ?_)
              refine lv_iload_n hx hb dX3_step_332 rfl (lv_at hl 0 rfl) ?_
              refine lv_if_eq (tgt := 377) hx hb dX3_step_333 (by decide) (fun c322 => ?_) (fun c322 => ?_)
              · skip
                have c322 := i_eq (Eq.refl v318.toInt) (show (0 : Int32).toInt = 0 by decide) c322
                refine W.widen (k := 0) (n := 0) (Nat.le_of_ble_eq_true rfl) (Nat.le_of_ble_eq_true rfl) ?_
                exact W.vret hx hb hr (fun t ht hW => ⟨⟨w308, rfl, ⟨hT, ke311, ke312⟩, CB.mk ht hP hD⟩, hS.F ht⟩) hS.2.2 dX3_step_377
              · skip
                have c322 := i_ne (Eq.refl v318.toInt) (show (0 : Int32).toInt = 0 by decide) c322
                refine lv_iload_n hx hb dX3_step_336 rfl (lv_at hl 1 rfl) ?_
                refine lv_bipush (v := 60) hx hb dX3_step_337 (by decide) ?_
                refine lv_icmp_eq (tgt := 348) hx hb dX3_step_339 (by decide) (fun c323 => ?_) (fun c323 => ?_)
                · skip
                  have c323 := i_eq (Eq.refl v98.toInt) (show (60 : Int32).toInt = 60 by decide) c323
                  refine lv_aload_n hx hb dX3_step_348 rfl (lv_at hl 2 rfl) ?_
                  refine lv_iload_n hx hb dX3_step_349 rfl (lv_at hl 1 rfl) ?_
                  refine lv_bipush (v := 60) hx hb dX3_step_350 (by decide) ?_
                  refine lv_icmp_ne (tgt := 361) hx hb dX3_step_352 (by decide) (fun c325 => ?_) (fun c325 => ?_)
                  · have c325 := i_ne (Eq.refl v98.toInt) (show (60 : Int32).toInt = 60 by decide) c325; exfalso; omega
                  have c325 := i_eq (Eq.refl v98.toInt) (show (60 : Int32).toInt = 60 by decide) c325
                  refine lv_sipush (v := 259) hx hb dX3_step_355 (by decide) ?_
                  refine lv_goto (tgt := 364) hx hb dX3_step_358 (by decide) ?_
                  refine va_put (D := D) (ci := 3) (v := .int 259) (ty := .int) (C := RX3) (T := TX3) (N := 12) hx hb hg inGX3 tyX3 tyX3_ok nmX3 hown hKN.1 hP hD hS p21 hk310 rfl 3 (by decide) (hg _ kw_181) (fun _ h9 => h9) rfl (by decide +kernel) rfl rfl (Nat.le_of_ble_eq_true rfl) dX3_step_364 (fun H locs hP hD2 hS => ?_)
                  have zi259 : (259 : Int32).toInt = 259 := by decide
                  obtain ⟨w326, hP, hD, hT, hk328, kp327⟩ : ∃ wz, va_P D vwCl wz H ∧ va_D A wz ∧ TW Y Z T g q wz ∧ wz[p21]? = some (p0, .inr (3, [.ref a2, .int x3, .int v307, .int 259, .int v47, .int x7, .int x8, .int x9, .int x10, .ref (Z a11), .ref a12, .int x13])) ∧ Kp p0 w308 wz := ⟨_, hP, hD2, st7 hT hD hk310 ht0 ⟨n1, a2, x3, v307, (259), v47, x7, x8, x9, x10, a11, a12, x13, rfl, h14, by omega, by omega, h17, h18, by omega, h20⟩, sw_eq hk310, sw_kp hk310⟩
                  have ke329 : KF 1 T ws w326 := KF.tr ke311 (KF.kp kp327 ht0 (by decide))
                  have ke330 : KF 6 T ws w326 := KF.tr ke312 (KF.kp kp327 ht0 (by decide))
                  refine lv_aload_n hx hb dX3_step_367 rfl (lv_at hl 2 rfl) ?_
                  refine lv_dup hx hb dX3_step_368 rfl ?_
                  refine va_get (D := D) (ci := 3) (v := .int v307) (C := RX3) (T := TX3) (N := 12) hx hb hg inGX3 hown hKN.1 hP p21 hk328 rfl 2 (by decide) (hg _ kw_180) (fun _ h9 => h9) rfl dX3_step_369 ?_
                  refine lv_iconst (v := 1) hx hb dX3_step_372 (by decide) ?_
                  refine lv_iadd hx hb dX3_step_373 ?_
                  refine lv_topi (fun v331 ev331 => ?_)
                  have hv331 := i_add (Eq.refl v307.toInt) (show (1 : Int32).toInt = 1 by decide) ev331 (by omega) (by omega)
                  refine va_put (D := D) (ci := 3) (v := .int v331) (ty := .int) (C := RX3) (T := TX3) (N := 12) hx hb hg inGX3 tyX3 tyX3_ok nmX3 hown hKN.1 hP hD hS p21 hk328 rfl 2 (by decide) (hg _ kw_180) (fun _ h9 => h9) rfl (by decide +kernel) rfl rfl (Nat.le_of_ble_eq_true rfl) dX3_step_374 (fun H locs hP hD2 hS => ?_)
                  obtain ⟨w332, hP, hD, hT, hk334, kp333⟩ : ∃ wz, va_P D vwCl wz H ∧ va_D A wz ∧ TW Y Z T g q wz ∧ wz[p21]? = some (p0, .inr (3, [.ref a2, .int x3, .int v331, .int 259, .int v47, .int x7, .int x8, .int x9, .int x10, .ref (Z a11), .ref a12, .int x13])) ∧ Kp p0 w326 wz := ⟨_, hP, hD2, st7 hT hD hk328 ht0 ⟨n1, a2, x3, v331, (259), v47, x7, x8, x9, x10, a11, a12, x13, rfl, h14, by omega, by omega, h17, h18, by omega, h20⟩, sw_eq hk328, sw_kp hk328⟩
                  have ke335 : KF 1 T ws w332 := KF.tr ke329 (KF.kp kp333 ht0 (by decide))
                  have ke336 : KF 6 T ws w332 := KF.tr ke330 (KF.kp kp333 ht0 (by decide))
                  refine W.widen (k := 0) (n := 0) (Nat.le_of_ble_eq_true rfl) (Nat.le_of_ble_eq_true rfl) ?_
                  exact W.vret hx hb hr (fun t ht hW => ⟨⟨w332, rfl, ⟨hT, ke335, ke336⟩, CB.mk ht hP hD⟩, hS.F ht⟩) hS.2.2 dX3_step_377
                · skip
                  have c323 := i_ne (Eq.refl v98.toInt) (show (60 : Int32).toInt = 60 by decide) c323
                  refine lv_iload_n hx hb dX3_step_342 rfl (lv_at hl 1 rfl) ?_
                  refine lv_bipush (v := 62) hx hb dX3_step_343 (by decide) ?_
                  refine lv_icmp_ne (tgt := 377) hx hb dX3_step_345 (by decide) (fun c337 => ?_) (fun c337 => ?_)
                  · skip
                    have c337 := i_ne (Eq.refl v98.toInt) (show (62 : Int32).toInt = 62 by decide) c337
                    refine W.widen (k := 0) (n := 0) (Nat.le_of_ble_eq_true rfl) (Nat.le_of_ble_eq_true rfl) ?_
                    exact W.vret hx hb hr (fun t ht hW => ⟨⟨w308, rfl, ⟨hT, ke311, ke312⟩, CB.mk ht hP hD⟩, hS.F ht⟩) hS.2.2 dX3_step_377
                  · skip
                    have c337 := i_eq (Eq.refl v98.toInt) (show (62 : Int32).toInt = 62 by decide) c337
                    refine lv_aload_n hx hb dX3_step_348 rfl (lv_at hl 2 rfl) ?_
                    refine lv_iload_n hx hb dX3_step_349 rfl (lv_at hl 1 rfl) ?_
                    refine lv_bipush (v := 60) hx hb dX3_step_350 (by decide) ?_
                    refine lv_icmp_ne (tgt := 361) hx hb dX3_step_352 (by decide) (fun c339 => ?_) (fun c339 => ?_)
                    rotate_left
                    · have c339 := i_eq (Eq.refl v98.toInt) (show (60 : Int32).toInt = 60 by decide) c339; exfalso; omega
                    have c339 := i_ne (Eq.refl v98.toInt) (show (60 : Int32).toInt = 60 by decide) c339
                    refine lv_sipush (v := 260) hx hb dX3_step_361 (by decide) ?_
                    refine va_put (D := D) (ci := 3) (v := .int 260) (ty := .int) (C := RX3) (T := TX3) (N := 12) hx hb hg inGX3 tyX3 tyX3_ok nmX3 hown hKN.1 hP hD hS p21 hk310 rfl 3 (by decide) (hg _ kw_181) (fun _ h9 => h9) rfl (by decide +kernel) rfl rfl (Nat.le_of_ble_eq_true rfl) dX3_step_364 (fun H locs hP hD2 hS => ?_)
                    have zi260 : (260 : Int32).toInt = 260 := by decide
                    obtain ⟨w340, hP, hD, hT, hk342, kp341⟩ : ∃ wz, va_P D vwCl wz H ∧ va_D A wz ∧ TW Y Z T g q wz ∧ wz[p21]? = some (p0, .inr (3, [.ref a2, .int x3, .int v307, .int 260, .int v47, .int x7, .int x8, .int x9, .int x10, .ref (Z a11), .ref a12, .int x13])) ∧ Kp p0 w308 wz := ⟨_, hP, hD2, st7 hT hD hk310 ht0 ⟨n1, a2, x3, v307, (260), v47, x7, x8, x9, x10, a11, a12, x13, rfl, h14, by omega, by omega, h17, h18, by omega, h20⟩, sw_eq hk310, sw_kp hk310⟩
                    have ke343 : KF 1 T ws w340 := KF.tr ke311 (KF.kp kp341 ht0 (by decide))
                    have ke344 : KF 6 T ws w340 := KF.tr ke312 (KF.kp kp341 ht0 (by decide))
                    refine lv_aload_n hx hb dX3_step_367 rfl (lv_at hl 2 rfl) ?_
                    refine lv_dup hx hb dX3_step_368 rfl ?_
                    refine va_get (D := D) (ci := 3) (v := .int v307) (C := RX3) (T := TX3) (N := 12) hx hb hg inGX3 hown hKN.1 hP p21 hk342 rfl 2 (by decide) (hg _ kw_180) (fun _ h9 => h9) rfl dX3_step_369 ?_
                    refine lv_iconst (v := 1) hx hb dX3_step_372 (by decide) ?_
                    refine lv_iadd hx hb dX3_step_373 ?_
                    refine lv_topi (fun v345 ev345 => ?_)
                    have hv345 := i_add (Eq.refl v307.toInt) (show (1 : Int32).toInt = 1 by decide) ev345 (by omega) (by omega)
                    refine va_put (D := D) (ci := 3) (v := .int v345) (ty := .int) (C := RX3) (T := TX3) (N := 12) hx hb hg inGX3 tyX3 tyX3_ok nmX3 hown hKN.1 hP hD hS p21 hk342 rfl 2 (by decide) (hg _ kw_180) (fun _ h9 => h9) rfl (by decide +kernel) rfl rfl (Nat.le_of_ble_eq_true rfl) dX3_step_374 (fun H locs hP hD2 hS => ?_)
                    obtain ⟨w346, hP, hD, hT, hk348, kp347⟩ : ∃ wz, va_P D vwCl wz H ∧ va_D A wz ∧ TW Y Z T g q wz ∧ wz[p21]? = some (p0, .inr (3, [.ref a2, .int x3, .int v345, .int 260, .int v47, .int x7, .int x8, .int x9, .int x10, .ref (Z a11), .ref a12, .int x13])) ∧ Kp p0 w340 wz := ⟨_, hP, hD2, st7 hT hD hk342 ht0 ⟨n1, a2, x3, v345, (260), v47, x7, x8, x9, x10, a11, a12, x13, rfl, h14, by omega, by omega, h17, h18, by omega, h20⟩, sw_eq hk342, sw_kp hk342⟩
                    have ke349 : KF 1 T ws w346 := KF.tr ke343 (KF.kp kp347 ht0 (by decide))
                    have ke350 : KF 6 T ws w346 := KF.tr ke344 (KF.kp kp347 ht0 (by decide))
                    refine W.widen (k := 0) (n := 0) (Nat.le_of_ble_eq_true rfl) (Nat.le_of_ble_eq_true rfl) ?_
                    exact W.vret hx hb hr (fun t ht hW => ⟨⟨w346, rfl, ⟨hT, ke349, ke350⟩, CB.mk ht hP hD⟩, hS.F ht⟩) hS.2.2 dX3_step_377
            · skip
              have j351 := rgI x3
              refine lv_icmp_ge (tgt := 330) hx hb dX3_step_309 (by decide) (fun c352 => ?_) (fun c352 => ?_)
              · skip
                have c352 := i_le (Eq.refl x3.toInt) (Eq.refl v307.toInt) c352
                refine lv_iconst (v := 0) hx hb dX3_step_330 (by decide) ?_
                have zi0 : (0 : Int32).toInt = 0 := by decide
                refine W.widen (k := 0) (n := 0) (Nat.le_of_ble_eq_true rfl) (Nat.le_of_ble_eq_true rfl) ?_
                exact jn319 (0) H locs ls ⟨hP, hD, hS, lv_sub hl [0, 1] rfl, hT, by omega, by omega⟩
              · skip
                have c352 := i_nle (Eq.refl x3.toInt) (Eq.refl v307.toInt) c352
                refine lv_aload_n hx hb dX3_step_312 rfl (lv_at hl 1 rfl) ?_
                refine va_get (D := D) (ci := 3) (v := .ref a2) (C := RX3) (T := TX3) (N := 12) hx hb hg inGX3 hown hKN.1 hP p21 hk310 rfl 0 (by decide) (hg _ kw_178) (fun _ h9 => h9) rfl dX3_step_313 ?_
                refine lv_aload_n hx hb dX3_step_316 rfl (lv_at hl 1 rfl) ?_
                refine va_get (D := D) (ci := 3) (v := .int v307) (C := RX3) (T := TX3) (N := 12) hx hb hg inGX3 hown hKN.1 hP p21 hk310 rfl 2 (by decide) (hg _ kw_180) (fun _ h9 => h9) rfl dX3_step_317 ?_
                refine tr_ld16 hx hb hKN hP hT h14 (vp_in_iff.mpr ⟨by omega, by omega⟩) dX3_step_320 (fun v353 => ?_)
                refine lv_bipush (v := 61) hx hb dX3_step_321 (by decide) ?_
                have j354 := rgI v353
                refine lv_icmp_ne (tgt := 330) hx hb dX3_step_323 (by decide) (fun c355 => ?_) (fun c355 => ?_)
                · skip
                  have c355 := i_ne (Eq.refl v353.toInt) (show (61 : Int32).toInt = 61 by decide) c355
                  refine lv_iconst (v := 0) hx hb dX3_step_330 (by decide) ?_
                  have zi0 : (0 : Int32).toInt = 0 := by decide
                  refine W.widen (k := 0) (n := 0) (Nat.le_of_ble_eq_true rfl) (Nat.le_of_ble_eq_true rfl) ?_
                  exact jn319 (0) H locs ls ⟨hP, hD, hS, lv_sub hl [0, 1] rfl, hT, by omega, by omega⟩
                · skip
                  have c355 := i_eq (Eq.refl v353.toInt) (show (61 : Int32).toInt = 61 by decide) c355
                  refine lv_iconst (v := 1) hx hb dX3_step_326 (by decide) ?_
                  refine lv_goto (tgt := 331) hx hb dX3_step_327 (by decide) ?_
                  have zi1 : (1 : Int32).toInt = 1 := by decide
                  refine W.widen (k := 0) (n := 0) (Nat.le_of_ble_eq_true rfl) (Nat.le_of_ble_eq_true rfl) ?_
                  exact jn319 (1) H locs ls ⟨hP, hD, hS, lv_sub hl [0, 1] rfl, hT, by omega, by omega⟩
          · skip
            refine lv_icmp_ne (tgt := 296) hx hb dX3_step_289 (by decide) (fun c356 => ?_) (fun c356 => ?_)
            · skip
              have c356 := i_ne (Eq.refl v98.toInt) (show (256 : Int32).toInt = 256 by decide) c356
              refine lv_iconst (v := 1) hx hb dX3_step_296 (by decide) ?_
              have zi1 : (1 : Int32).toInt = 1 := by decide
              refine W.widen (k := 0) (n := 0) (Nat.le_of_ble_eq_true rfl) (Nat.le_of_ble_eq_true rfl) ?_
              exact jn304 (1) H locs ls ⟨hP, hD, hS, lv_sub hl [0, 1] rfl, hT, by omega, by omega⟩
            · skip
              have c356 := i_eq (Eq.refl v98.toInt) (show (256 : Int32).toInt = 256 by decide) c356
              refine lv_iconst (v := 0) hx hb dX3_step_292 (by decide) ?_
              refine lv_goto (tgt := 297) hx hb dX3_step_293 (by decide) ?_
              have zi0 : (0 : Int32).toInt = 0 := by decide
              refine W.widen (k := 0) (n := 0) (Nat.le_of_ble_eq_true rfl) (Nat.le_of_ble_eq_true rfl) ?_
              exact jn304 (0) H locs ls ⟨hP, hD, hS, lv_sub hl [0, 1] rfl, hT, by omega, by omega⟩
        · skip
          refine lv_icmp_lt (tgt := 275) hx hb dX3_step_207 (by decide) (fun c357 => ?_) (fun c357 => ?_)
          · skip
            have c357 := i_lt (Eq.refl v98.toInt) (show (97 : Int32).toInt = 97 by decide) c357
            refine W.widen (k := 0) (n := 0) (Nat.le_of_ble_eq_true rfl) (Nat.le_of_ble_eq_true rfl) ?_
            exact jn295 (()) H locs ls ⟨hP, hD, hS, lv_sub hl [0, 1] rfl, hT, by omega⟩
          · skip
            have c357 := i_nlt (Eq.refl v98.toInt) (show (97 : Int32).toInt = 97 by decide) c357
            refine lv_iload_n hx hb dX3_step_210 rfl (lv_at hl 0 rfl) ?_
            refine lv_bipush (v := 122) hx hb dX3_step_211 (by decide) ?_
            refine lv_icmp_gt (tgt := 275) hx hb dX3_step_213 (by decide) (fun c358 => ?_) (fun c358 => ?_)
            · skip
              have c358 := i_lt (show (122 : Int32).toInt = 122 by decide) (Eq.refl v98.toInt) c358
              refine W.widen (k := 0) (n := 0) (Nat.le_of_ble_eq_true rfl) (Nat.le_of_ble_eq_true rfl) ?_
              exact jn295 (()) H locs ls ⟨hP, hD, hS, lv_sub hl [0, 1] rfl, hT, by omega⟩
            · skip
              have c358 := i_nlt (show (122 : Int32).toInt = 122 by decide) (Eq.refl v98.toInt) c358
              refine lv_aload_n hx hb dX3_step_216 rfl (lv_at hl 1 rfl) ?_
              refine lv_sipush (v := 258) hx hb dX3_step_217 (by decide) ?_
              refine va_put (D := D) (ci := 3) (v := .int 258) (ty := .int) (C := RX3) (T := TX3) (N := 12) hx hb hg inGX3 tyX3 tyX3_ok nmX3 hown hKN.1 hP hD hS p21 hk91 rfl 3 (by decide) (hg _ kw_181) (fun _ h9 => h9) rfl (by decide +kernel) rfl rfl (Nat.le_of_ble_eq_true rfl) dX3_step_220 (fun H locs hP hD2 hS => ?_)
              have zi258 : (258 : Int32).toInt = 258 := by decide
              obtain ⟨w359, hP, hD, hT, hk361, kp360⟩ : ∃ wz, va_P D vwCl wz H ∧ va_D A wz ∧ TW Y Z T g q wz ∧ wz[p21]? = some (p0, .inr (3, [.ref a2, .int x3, .int v47, .int 258, .int v47, .int x7, .int x8, .int x9, .int x10, .ref (Z a11), .ref a12, .int x13])) ∧ Kp p0 w89 wz := ⟨_, hP, hD2, st7 hT hD hk91 ht0 ⟨n1, a2, x3, v47, (258), v47, x7, x8, x9, x10, a11, a12, x13, rfl, h14, by omega, by omega, h17, h18, by omega, h20⟩, sw_eq hk91, sw_kp hk91⟩
              have ke362 : KF 1 T ws w359 := KF.tr ke92 (KF.kp kp360 ht0 (by decide))
              have ke363 : KF 6 T ws w359 := KF.tr ke93 (KF.kp kp360 ht0 (by decide))
              refine w_loop (σ := va_W × Int32) (fun xx H locs ls => match xx with | (w378, v379) => va_P D vwCl w378 H ∧ va_D A w378 ∧ va_S A s.heap H locs ∧ lv_has ls 3 [(1, .int v98), (0, .ref p0)] ∧ TW Y Z T g q w378 ∧ KF 1 T ws w378 ∧ KF 6 T ws w378 ∧ w378[p21]? = some (p0, .inr (3, [.ref a2, .int x3, .int v379, .int 258, .int v47, .int x7, .int x8, .int x9, .int x10, .ref (Z a11), .ref a12, .int x13])) ∧ (0 ≤ v379.toInt ∧ v379.toInt ≤ 400) ∧ (v379.toInt ≤ (n1 : Int))) (fun xx => match xx with | (w378, v379) => (400 - v379.toInt).toNat) (w359, v47) ⟨hP, hD, hS, lv_sub hl [0, 1] rfl, hT, ke362, ke363, hk361, by omega, by omega⟩ (fun xx H locs ls hI ih => ?_)
              obtain ⟨w378, v379⟩ := xx
              obtain ⟨hP, hD, hS, hl, hT, ke396, ke397, hk398, hq394, hq395⟩ := hI
              have ih399 := ih
              refine lv_aload_n hx hb dX3_step_223 rfl (lv_at hl 1 rfl) ?_
              refine va_get (D := D) (ci := 3) (v := .int v379) (C := RX3) (T := TX3) (N := 12) hx hb hg inGX3 hown hKN.1 hP p21 hk398 rfl 2 (by decide) (hg _ kw_180) (fun _ h9 => h9) rfl dX3_step_224 ?_
              refine lv_aload_n hx hb dX3_step_227 rfl (lv_at hl 1 rfl) ?_
              refine va_get (D := D) (ci := 3) (v := .int x3) (C := RX3) (T := TX3) (N := 12) hx hb hg inGX3 hown hKN.1 hP p21 hk398 rfl 1 (by decide) (hg _ kw_179) (fun _ h9 => h9) rfl dX3_step_228 ?_
              have j400 := rgI x3
              refine lv_icmp_ge (tgt := 377) hx hb dX3_step_231 (by decide) (fun c401 => ?_) (fun c401 => ?_)
              · skip
                have c401 := i_le (Eq.refl x3.toInt) (Eq.refl v379.toInt) c401
                refine W.widen (k := 0) (n := 0) (Nat.le_of_ble_eq_true rfl) (Nat.le_of_ble_eq_true rfl) ?_
                exact W.vret hx hb hr (fun t ht hW => ⟨⟨w378, rfl, ⟨hT, ke396, ke397⟩, CB.mk ht hP hD⟩, hS.F ht⟩) hS.2.2 dX3_step_377
              · skip
                have c401 := i_nle (Eq.refl x3.toInt) (Eq.refl v379.toInt) c401
                refine lv_aload_n hx hb dX3_step_234 rfl (lv_at hl 1 rfl) ?_
                refine va_get (D := D) (ci := 3) (v := .ref a2) (C := RX3) (T := TX3) (N := 12) hx hb hg inGX3 hown hKN.1 hP p21 hk398 rfl 0 (by decide) (hg _ kw_178) (fun _ h9 => h9) rfl dX3_step_235 ?_
                refine lv_aload_n hx hb dX3_step_238 rfl (lv_at hl 1 rfl) ?_
                refine va_get (D := D) (ci := 3) (v := .int v379) (C := RX3) (T := TX3) (N := 12) hx hb hg inGX3 hown hKN.1 hP p21 hk398 rfl 2 (by decide) (hg _ kw_180) (fun _ h9 => h9) rfl dX3_step_239 ?_
                refine tr_ld16 hx hb hKN hP hT h14 (vp_in_iff.mpr ⟨by omega, by omega⟩) dX3_step_242 (fun v402 => ?_)
                refine lv_bipush (v := 97) hx hb dX3_step_243 (by decide) ?_
                have j403 := rgI v402
                refine lv_icmp_lt (tgt := 377) hx hb dX3_step_245 (by decide) (fun c404 => ?_) (fun c404 => ?_)
                · skip
                  have c404 := i_lt (Eq.refl v402.toInt) (show (97 : Int32).toInt = 97 by decide) c404
                  refine W.widen (k := 0) (n := 0) (Nat.le_of_ble_eq_true rfl) (Nat.le_of_ble_eq_true rfl) ?_
                  exact W.vret hx hb hr (fun t ht hW => ⟨⟨w378, rfl, ⟨hT, ke396, ke397⟩, CB.mk ht hP hD⟩, hS.F ht⟩) hS.2.2 dX3_step_377
                · skip
                  have c404 := i_nlt (Eq.refl v402.toInt) (show (97 : Int32).toInt = 97 by decide) c404
                  refine lv_aload_n hx hb dX3_step_248 rfl (lv_at hl 1 rfl) ?_
                  refine va_get (D := D) (ci := 3) (v := .ref a2) (C := RX3) (T := TX3) (N := 12) hx hb hg inGX3 hown hKN.1 hP p21 hk398 rfl 0 (by decide) (hg _ kw_178) (fun _ h9 => h9) rfl dX3_step_249 ?_
                  refine lv_aload_n hx hb dX3_step_252 rfl (lv_at hl 1 rfl) ?_
                  refine va_get (D := D) (ci := 3) (v := .int v379) (C := RX3) (T := TX3) (N := 12) hx hb hg inGX3 hown hKN.1 hP p21 hk398 rfl 2 (by decide) (hg _ kw_180) (fun _ h9 => h9) rfl dX3_step_253 ?_
                  refine tr_ld16 hx hb hKN hP hT h14 (vp_in_iff.mpr ⟨by omega, by omega⟩) dX3_step_256 (fun v405 => ?_)
                  refine lv_bipush (v := 122) hx hb dX3_step_257 (by decide) ?_
                  have j406 := rgI v405
                  refine lv_icmp_gt (tgt := 377) hx hb dX3_step_259 (by decide) (fun c407 => ?_) (fun c407 => ?_)
                  · skip
                    have c407 := i_lt (show (122 : Int32).toInt = 122 by decide) (Eq.refl v405.toInt) c407
                    refine W.widen (k := 0) (n := 0) (Nat.le_of_ble_eq_true rfl) (Nat.le_of_ble_eq_true rfl) ?_
                    exact W.vret hx hb hr (fun t ht hW => ⟨⟨w378, rfl, ⟨hT, ke396, ke397⟩, CB.mk ht hP hD⟩, hS.F ht⟩) hS.2.2 dX3_step_377
                  · skip
                    have c407 := i_nlt (show (122 : Int32).toInt = 122 by decide) (Eq.refl v405.toInt) c407
                    refine lv_aload_n hx hb dX3_step_262 rfl (lv_at hl 1 rfl) ?_
                    refine lv_dup hx hb dX3_step_263 rfl ?_
                    refine va_get (D := D) (ci := 3) (v := .int v379) (C := RX3) (T := TX3) (N := 12) hx hb hg inGX3 hown hKN.1 hP p21 hk398 rfl 2 (by decide) (hg _ kw_180) (fun _ h9 => h9) rfl dX3_step_264 ?_
                    refine lv_iconst (v := 1) hx hb dX3_step_267 (by decide) ?_
                    refine lv_iadd hx hb dX3_step_268 ?_
                    refine lv_topi (fun v408 ev408 => ?_)
                    have hv408 := i_add (Eq.refl v379.toInt) (show (1 : Int32).toInt = 1 by decide) ev408 (by omega) (by omega)
                    refine va_put (D := D) (ci := 3) (v := .int v408) (ty := .int) (C := RX3) (T := TX3) (N := 12) hx hb hg inGX3 tyX3 tyX3_ok nmX3 hown hKN.1 hP hD hS p21 hk398 rfl 2 (by decide) (hg _ kw_180) (fun _ h9 => h9) rfl (by decide +kernel) rfl rfl (Nat.le_of_ble_eq_true rfl) dX3_step_269 (fun H locs hP hD2 hS => ?_)
                    obtain ⟨w409, hP, hD, hT, hk411, kp410⟩ : ∃ wz, va_P D vwCl wz H ∧ va_D A wz ∧ TW Y Z T g q wz ∧ wz[p21]? = some (p0, .inr (3, [.ref a2, .int x3, .int v408, .int 258, .int v47, .int x7, .int x8, .int x9, .int x10, .ref (Z a11), .ref a12, .int x13])) ∧ Kp p0 w378 wz := ⟨_, hP, hD2, st7 hT hD hk398 ht0 ⟨n1, a2, x3, v408, (258), v47, x7, x8, x9, x10, a11, a12, x13, rfl, h14, by omega, by omega, h17, h18, by omega, h20⟩, sw_eq hk398, sw_kp hk398⟩
                    have ke412 : KF 1 T ws w409 := KF.tr ke396 (KF.kp kp410 ht0 (by decide))
                    have ke413 : KF 6 T ws w409 := KF.tr ke397 (KF.kp kp410 ht0 (by decide))
                    refine lv_goto (tgt := 223) hx hb dX3_step_272 (by decide) ?_
                    exact ih399 (w409, v408) H locs ls (by show (400 - v408.toInt).toNat < (400 - v379.toInt).toNat; omega) ⟨hP, hD, hS, lv_sub hl [0, 1] rfl, hT, ke412, ke413, hk411, by omega, by omega⟩
      · skip
        refine lv_icmp_lt (tgt := 204) hx hb dX3_step_80 (by decide) (fun c414 => ?_) (fun c414 => ?_)
        · skip
          have c414 := i_lt (Eq.refl v98.toInt) (show (48 : Int32).toInt = 48 by decide) c414
          refine W.widen (k := 0) (n := 0) (Nat.le_of_ble_eq_true rfl) (Nat.le_of_ble_eq_true rfl) ?_
          exact jn236 (()) H locs ls ⟨hP, hD, hS, lv_sub hl [0, 1] rfl, hT, by omega⟩
        · skip
          have c414 := i_nlt (Eq.refl v98.toInt) (show (48 : Int32).toInt = 48 by decide) c414
          refine lv_iload_n hx hb dX3_step_83 rfl (lv_at hl 0 rfl) ?_
          refine lv_bipush (v := 57) hx hb dX3_step_84 (by decide) ?_
          refine lv_icmp_gt (tgt := 204) hx hb dX3_step_86 (by decide) (fun c415 => ?_) (fun c415 => ?_)
          · skip
            have c415 := i_lt (show (57 : Int32).toInt = 57 by decide) (Eq.refl v98.toInt) c415
            refine W.widen (k := 0) (n := 0) (Nat.le_of_ble_eq_true rfl) (Nat.le_of_ble_eq_true rfl) ?_
            exact jn236 (()) H locs ls ⟨hP, hD, hS, lv_sub hl [0, 1] rfl, hT, by omega⟩
          · skip
            have c415 := i_nlt (show (57 : Int32).toInt = 57 by decide) (Eq.refl v98.toInt) c415
            refine lv_aload_n hx hb dX3_step_89 rfl (lv_at hl 1 rfl) ?_
            refine lv_sipush (v := 257) hx hb dX3_step_90 (by decide) ?_
            refine va_put (D := D) (ci := 3) (v := .int 257) (ty := .int) (C := RX3) (T := TX3) (N := 12) hx hb hg inGX3 tyX3 tyX3_ok nmX3 hown hKN.1 hP hD hS p21 hk91 rfl 3 (by decide) (hg _ kw_181) (fun _ h9 => h9) rfl (by decide +kernel) rfl rfl (Nat.le_of_ble_eq_true rfl) dX3_step_93 (fun H locs hP hD2 hS => ?_)
            have zi257 : (257 : Int32).toInt = 257 := by decide
            obtain ⟨w416, hP, hD, hT, hk418, kp417⟩ : ∃ wz, va_P D vwCl wz H ∧ va_D A wz ∧ TW Y Z T g q wz ∧ wz[p21]? = some (p0, .inr (3, [.ref a2, .int x3, .int v47, .int 257, .int v47, .int x7, .int x8, .int x9, .int x10, .ref (Z a11), .ref a12, .int x13])) ∧ Kp p0 w89 wz := ⟨_, hP, hD2, st7 hT hD hk91 ht0 ⟨n1, a2, x3, v47, (257), v47, x7, x8, x9, x10, a11, a12, x13, rfl, h14, by omega, by omega, h17, h18, by omega, h20⟩, sw_eq hk91, sw_kp hk91⟩
            have ke419 : KF 1 T ws w416 := KF.tr ke92 (KF.kp kp417 ht0 (by decide))
            have ke420 : KF 6 T ws w416 := KF.tr ke93 (KF.kp kp417 ht0 (by decide))
            refine lv_aload_n hx hb dX3_step_96 rfl (lv_at hl 1 rfl) ?_
            refine lv_iconst (v := 0) hx hb dX3_step_97 (by decide) ?_
            refine va_put (D := D) (ci := 3) (v := .int 0) (ty := .int) (C := RX3) (T := TX3) (N := 12) hx hb hg inGX3 tyX3 tyX3_ok nmX3 hown hKN.1 hP hD hS p21 hk418 rfl 5 (by decide) (hg _ kw_183) (fun _ h9 => h9) rfl (by decide +kernel) rfl rfl (Nat.le_of_ble_eq_true rfl) dX3_step_98 (fun H locs hP hD2 hS => ?_)
            have zi0 : (0 : Int32).toInt = 0 := by decide
            obtain ⟨w421, hP, hD, hT, hk423, kp422⟩ : ∃ wz, va_P D vwCl wz H ∧ va_D A wz ∧ TW Y Z T g q wz ∧ wz[p21]? = some (p0, .inr (3, [.ref a2, .int x3, .int v47, .int 257, .int v47, .int 0, .int x8, .int x9, .int x10, .ref (Z a11), .ref a12, .int x13])) ∧ Kp p0 w416 wz := ⟨_, hP, hD2, st7 hT hD hk418 ht0 ⟨n1, a2, x3, v47, (257), v47, (0), x8, x9, x10, a11, a12, x13, rfl, h14, by omega, by omega, h17, h18, by omega, h20⟩, sw_eq hk418, sw_kp hk418⟩
            have ke424 : KF 1 T ws w421 := KF.tr ke419 (KF.kp kp422 ht0 (by decide))
            have ke425 : KF 6 T ws w421 := KF.tr ke420 (KF.kp kp422 ht0 (by decide))
            refine w_loop (σ := va_W × Int32 × Int32) (fun xx H locs ls => match xx with | (w465, v466, v467) => va_P D vwCl w465 H ∧ va_D A w465 ∧ va_S A s.heap H locs ∧ lv_has ls 3 [(1, .int v98), (0, .ref p0)] ∧ TW Y Z T g q w465 ∧ KF 1 T ws w465 ∧ KF 6 T ws w465 ∧ w465[p21]? = some (p0, .inr (3, [.ref a2, .int x3, .int v466, .int 257, .int v47, .int v467, .int x8, .int x9, .int x10, .ref (Z a11), .ref a12, .int x13])) ∧ (0 ≤ v466.toInt ∧ v466.toInt ≤ 400) ∧ (v466.toInt ≤ (n1 : Int))) (fun xx => match xx with | (w465, v466, v467) => (400 - v466.toInt).toNat) (w421, v47, 0) ⟨hP, hD, hS, lv_sub hl [0, 1] rfl, hT, ke424, ke425, hk423, by omega, by omega⟩ (fun xx H locs ls hI ih => ?_)
            obtain ⟨w465, v466, v467⟩ := xx
            obtain ⟨hP, hD, hS, hl, hT, ke507, ke508, hk509, hq505, hq506⟩ := hI
            have ih510 := ih
            refine lv_aload_n hx hb dX3_step_101 rfl (lv_at hl 1 rfl) ?_
            refine va_get (D := D) (ci := 3) (v := .int v466) (C := RX3) (T := TX3) (N := 12) hx hb hg inGX3 hown hKN.1 hP p21 hk509 rfl 2 (by decide) (hg _ kw_180) (fun _ h9 => h9) rfl dX3_step_102 ?_
            refine lv_aload_n hx hb dX3_step_105 rfl (lv_at hl 1 rfl) ?_
            refine va_get (D := D) (ci := 3) (v := .int x3) (C := RX3) (T := TX3) (N := 12) hx hb hg inGX3 hown hKN.1 hP p21 hk509 rfl 1 (by decide) (hg _ kw_179) (fun _ h9 => h9) rfl dX3_step_106 ?_
            have j511 := rgI x3
            refine lv_icmp_ge (tgt := 377) hx hb dX3_step_109 (by decide) (fun c512 => ?_) (fun c512 => ?_)
            · skip
              have c512 := i_le (Eq.refl x3.toInt) (Eq.refl v466.toInt) c512
              refine W.widen (k := 0) (n := 0) (Nat.le_of_ble_eq_true rfl) (Nat.le_of_ble_eq_true rfl) ?_
              exact W.vret hx hb hr (fun t ht hW => ⟨⟨w465, rfl, ⟨hT, ke507, ke508⟩, CB.mk ht hP hD⟩, hS.F ht⟩) hS.2.2 dX3_step_377
            · skip
              have c512 := i_nle (Eq.refl x3.toInt) (Eq.refl v466.toInt) c512
              refine lv_aload_n hx hb dX3_step_112 rfl (lv_at hl 1 rfl) ?_
              refine va_get (D := D) (ci := 3) (v := .ref a2) (C := RX3) (T := TX3) (N := 12) hx hb hg inGX3 hown hKN.1 hP p21 hk509 rfl 0 (by decide) (hg _ kw_178) (fun _ h9 => h9) rfl dX3_step_113 ?_
              refine lv_aload_n hx hb dX3_step_116 rfl (lv_at hl 1 rfl) ?_
              refine va_get (D := D) (ci := 3) (v := .int v466) (C := RX3) (T := TX3) (N := 12) hx hb hg inGX3 hown hKN.1 hP p21 hk509 rfl 2 (by decide) (hg _ kw_180) (fun _ h9 => h9) rfl dX3_step_117 ?_
              refine tr_ld16 hx hb hKN hP hT h14 (vp_in_iff.mpr ⟨by omega, by omega⟩) dX3_step_120 (fun v513 => ?_)
              refine lv_bipush (v := 48) hx hb dX3_step_121 (by decide) ?_
              have j514 := rgI v513
              refine lv_icmp_lt (tgt := 377) hx hb dX3_step_123 (by decide) (fun c515 => ?_) (fun c515 => ?_)
              · skip
                have c515 := i_lt (Eq.refl v513.toInt) (show (48 : Int32).toInt = 48 by decide) c515
                refine W.widen (k := 0) (n := 0) (Nat.le_of_ble_eq_true rfl) (Nat.le_of_ble_eq_true rfl) ?_
                exact W.vret hx hb hr (fun t ht hW => ⟨⟨w465, rfl, ⟨hT, ke507, ke508⟩, CB.mk ht hP hD⟩, hS.F ht⟩) hS.2.2 dX3_step_377
              · skip
                have c515 := i_nlt (Eq.refl v513.toInt) (show (48 : Int32).toInt = 48 by decide) c515
                refine lv_aload_n hx hb dX3_step_126 rfl (lv_at hl 1 rfl) ?_
                refine va_get (D := D) (ci := 3) (v := .ref a2) (C := RX3) (T := TX3) (N := 12) hx hb hg inGX3 hown hKN.1 hP p21 hk509 rfl 0 (by decide) (hg _ kw_178) (fun _ h9 => h9) rfl dX3_step_127 ?_
                refine lv_aload_n hx hb dX3_step_130 rfl (lv_at hl 1 rfl) ?_
                refine va_get (D := D) (ci := 3) (v := .int v466) (C := RX3) (T := TX3) (N := 12) hx hb hg inGX3 hown hKN.1 hP p21 hk509 rfl 2 (by decide) (hg _ kw_180) (fun _ h9 => h9) rfl dX3_step_131 ?_
                refine tr_ld16 hx hb hKN hP hT h14 (vp_in_iff.mpr ⟨by omega, by omega⟩) dX3_step_134 (fun v516 => ?_)
                refine lv_bipush (v := 57) hx hb dX3_step_135 (by decide) ?_
                have j517 := rgI v516
                refine lv_icmp_gt (tgt := 377) hx hb dX3_step_137 (by decide) (fun c518 => ?_) (fun c518 => ?_)
                · skip
                  have c518 := i_lt (show (57 : Int32).toInt = 57 by decide) (Eq.refl v516.toInt) c518
                  refine W.widen (k := 0) (n := 0) (Nat.le_of_ble_eq_true rfl) (Nat.le_of_ble_eq_true rfl) ?_
                  exact W.vret hx hb hr (fun t ht hW => ⟨⟨w465, rfl, ⟨hT, ke507, ke508⟩, CB.mk ht hP hD⟩, hS.F ht⟩) hS.2.2 dX3_step_377
                · skip
                  have c518 := i_nlt (show (57 : Int32).toInt = 57 by decide) (Eq.refl v516.toInt) c518
                  refine lv_aload_n hx hb dX3_step_140 rfl (lv_at hl 1 rfl) ?_
                  refine va_get (D := D) (ci := 3) (v := .int v466) (C := RX3) (T := TX3) (N := 12) hx hb hg inGX3 hown hKN.1 hP p21 hk509 rfl 2 (by decide) (hg _ kw_180) (fun _ h9 => h9) rfl dX3_step_141 ?_
                  refine lv_aload_n hx hb dX3_step_144 rfl (lv_at hl 1 rfl) ?_
                  refine va_get (D := D) (ci := 3) (v := .int v47) (C := RX3) (T := TX3) (N := 12) hx hb hg inGX3 hown hKN.1 hP p21 hk509 rfl 4 (by decide) (hg _ kw_182) (fun _ h9 => h9) rfl dX3_step_145 ?_
                  refine lv_isub hx hb dX3_step_148 ?_
                  refine lv_topi (fun v519 ev519 => ?_)
                  have hv519 := i_sub (Eq.refl v466.toInt) (Eq.refl v47.toInt) ev519 (by omega) (by omega)
                  refine lv_iconst (v := 5) hx hb dX3_step_149 (by decide) ?_
                  refine w_join (σ := Int32) (pcJ := 158) (kJ := 0) (nJ := 0) (stk := fun xx => match xx with | v521 => [.int v521]) (fun xx H locs ls => match xx with | v521 => va_P D vwCl w465 H ∧ va_D A w465 ∧ va_S A s.heap H locs ∧ lv_has ls 3 [(1, .int v98), (0, .ref p0)] ∧ TW Y Z T g q w465 ∧ (0 ≤ v521.toInt ∧ v521.toInt ≤ 1)) (fun xx H locs ls hI => ?_) (fun jn522 => ?_)
                  · skip
                    revert hI
                    generalize xx = v521
                    intro hI
                    obtain ⟨hP, hD, hS, hl, hT, hq523⟩ := hI
                    refine W.eq (g2 := F0 m 158 ls [.int v521]) rfl ?_
                    refine lv_istore_n (lv' := [(2, .int v521), (1, .int v98), (0, .ref p0)]) hx hb dX3_step_158 rfl hl (by decide) rfl (fun ls hl => ?_)
                    refine lv_aload_n hx hb dX3_step_159 rfl (lv_at hl 2 rfl) ?_
                    refine lv_iload_n hx hb dX3_step_160 rfl (lv_at hl 0 rfl) ?_
                    refine w_join (σ := Int32) (pcJ := 188) (kJ := 0) (nJ := 0) (stk := fun xx => match xx with | v529 => [.int v529, .ref p0]) (fun xx H locs ls => match xx with | v529 => va_P D vwCl w465 H ∧ va_D A w465 ∧ va_S A s.heap H locs ∧ lv_has ls 3 [(2, .int v521), (1, .int v98), (0, .ref p0)] ∧ TW Y Z T g q w465) (fun xx H locs ls hI => ?_) (fun jn530 => ?_)
                    · skip
                      revert hI
                      generalize xx = v529
                      intro hI
                      obtain ⟨hP, hD, hS, hl, hT⟩ := hI
                      refine W.eq (g2 := F0 m 188 ls [.int v529, .ref p0]) rfl ?_
                      refine va_put (D := D) (ci := 3) (v := .int v529) (ty := .int) (C := RX3) (T := TX3) (N := 12) hx hb hg inGX3 tyX3 tyX3_ok nmX3 hown hKN.1 hP hD hS p21 hk509 rfl 5 (by decide) (hg _ kw_183) (fun _ h9 => h9) rfl (by decide +kernel) rfl rfl (Nat.le_of_ble_eq_true rfl) dX3_step_188 (fun H locs hP hD2 hS => ?_)
                      obtain ⟨w531, hP, hD, hT, hk533, kp532⟩ : ∃ wz, va_P D vwCl wz H ∧ va_D A wz ∧ TW Y Z T g q wz ∧ wz[p21]? = some (p0, .inr (3, [.ref a2, .int x3, .int v466, .int 257, .int v47, .int v529, .int x8, .int x9, .int x10, .ref (Z a11), .ref a12, .int x13])) ∧ Kp p0 w465 wz := ⟨_, hP, hD2, st7 hT hD hk509 ht0 ⟨n1, a2, x3, v466, (257), v47, v529, x8, x9, x10, a11, a12, x13, rfl, h14, by omega, by omega, h17, h18, by omega, h20⟩, sw_eq hk509, sw_kp hk509⟩
                      have ke534 : KF 1 T ws w531 := KF.tr ke507 (KF.kp kp532 ht0 (by decide))
                      have ke535 : KF 6 T ws w531 := KF.tr ke508 (KF.kp kp532 ht0 (by decide))
                      refine lv_aload_n hx hb dX3_step_191 rfl (lv_at hl 2 rfl) ?_
                      refine lv_dup hx hb dX3_step_192 rfl ?_
                      refine va_get (D := D) (ci := 3) (v := .int v466) (C := RX3) (T := TX3) (N := 12) hx hb hg inGX3 hown hKN.1 hP p21 hk533 rfl 2 (by decide) (hg _ kw_180) (fun _ h9 => h9) rfl dX3_step_193 ?_
                      refine lv_iconst (v := 1) hx hb dX3_step_196 (by decide) ?_
                      refine lv_iadd hx hb dX3_step_197 ?_
                      refine lv_topi (fun v536 ev536 => ?_)
                      have hv536 := i_add (Eq.refl v466.toInt) (show (1 : Int32).toInt = 1 by decide) ev536 (by omega) (by omega)
                      refine va_put (D := D) (ci := 3) (v := .int v536) (ty := .int) (C := RX3) (T := TX3) (N := 12) hx hb hg inGX3 tyX3 tyX3_ok nmX3 hown hKN.1 hP hD hS p21 hk533 rfl 2 (by decide) (hg _ kw_180) (fun _ h9 => h9) rfl (by decide +kernel) rfl rfl (Nat.le_of_ble_eq_true rfl) dX3_step_198 (fun H locs hP hD2 hS => ?_)
                      obtain ⟨w537, hP, hD, hT, hk539, kp538⟩ : ∃ wz, va_P D vwCl wz H ∧ va_D A wz ∧ TW Y Z T g q wz ∧ wz[p21]? = some (p0, .inr (3, [.ref a2, .int x3, .int v536, .int 257, .int v47, .int v529, .int x8, .int x9, .int x10, .ref (Z a11), .ref a12, .int x13])) ∧ Kp p0 w531 wz := ⟨_, hP, hD2, st7 hT hD hk533 ht0 ⟨n1, a2, x3, v536, (257), v47, v529, x8, x9, x10, a11, a12, x13, rfl, h14, by omega, by omega, h17, h18, by omega, h20⟩, sw_eq hk533, sw_kp hk533⟩
                      have ke540 : KF 1 T ws w537 := KF.tr ke534 (KF.kp kp538 ht0 (by decide))
                      have ke541 : KF 6 T ws w537 := KF.tr ke535 (KF.kp kp538 ht0 (by decide))
                      refine lv_goto (tgt := 101) hx hb dX3_step_201 (by decide) ?_
                      exact ih510 (w537, v536, v529) H locs ls (by show (400 - v536.toInt).toNat < (400 - v466.toInt).toNat; omega) ⟨hP, hD, hS, lv_sub hl [1, 2] rfl, hT, ke540, ke541, hk539, by omega, by omega⟩
                    · skip
                      refine lv_if_eq (tgt := 187) hx hb dX3_step_161 (by decide) (fun c542 => ?_) (fun c542 => ?_)
                      · skip
                        have c542 := i_eq (Eq.refl v521.toInt) (show (0 : Int32).toInt = 0 by decide) c542
                        refine lv_iconst (v := (-1)) hx hb dX3_step_187 (by decide) ?_
                        have zim1 : ((-1) : Int32).toInt = -1 := by decide
                        refine W.widen (k := 0) (n := 0) (Nat.le_of_ble_eq_true rfl) (Nat.le_of_ble_eq_true rfl) ?_
                        exact jn530 ((-1)) H locs ls ⟨hP, hD, hS, lv_sub hl [0, 1, 2] rfl, hT⟩
                      · skip
                        have c542 := i_ne (Eq.refl v521.toInt) (show (0 : Int32).toInt = 0 by decide) c542
                        refine lv_aload_n hx hb dX3_step_164 rfl (lv_at hl 2 rfl) ?_
                        refine va_get (D := D) (ci := 3) (v := .int v467) (C := RX3) (T := TX3) (N := 12) hx hb hg inGX3 hown hKN.1 hP p21 hk509 rfl 5 (by decide) (hg _ kw_183) (fun _ h9 => h9) rfl dX3_step_165 ?_
                        refine lv_bipush (v := 10) hx hb dX3_step_168 (by decide) ?_
                        refine lv_imul hx hb dX3_step_170 ?_
                        refine lv_topi (fun v543 ev543 => ?_)
                        refine lv_aload_n hx hb dX3_step_171 rfl (lv_at hl 2 rfl) ?_
                        refine va_get (D := D) (ci := 3) (v := .ref a2) (C := RX3) (T := TX3) (N := 12) hx hb hg inGX3 hown hKN.1 hP p21 hk509 rfl 0 (by decide) (hg _ kw_178) (fun _ h9 => h9) rfl dX3_step_172 ?_
                        refine lv_aload_n hx hb dX3_step_175 rfl (lv_at hl 2 rfl) ?_
                        refine va_get (D := D) (ci := 3) (v := .int v466) (C := RX3) (T := TX3) (N := 12) hx hb hg inGX3 hown hKN.1 hP p21 hk509 rfl 2 (by decide) (hg _ kw_180) (fun _ h9 => h9) rfl dX3_step_176 ?_
                        refine tr_ld16 hx hb hKN hP hT h14 (vp_in_iff.mpr ⟨by omega, by omega⟩) dX3_step_179 (fun v544 => ?_)
                        refine lv_iadd hx hb dX3_step_180 ?_
                        refine lv_topi (fun v545 ev545 => ?_)
                        refine lv_bipush (v := 48) hx hb dX3_step_181 (by decide) ?_
                        refine lv_isub hx hb dX3_step_183 ?_
                        refine lv_topi (fun v546 ev546 => ?_)
                        refine lv_goto (tgt := 188) hx hb dX3_step_184 (by decide) ?_
                        refine W.widen (k := 0) (n := 0) (Nat.le_of_ble_eq_true rfl) (Nat.le_of_ble_eq_true rfl) ?_
                        exact jn530 (v546) H locs ls ⟨hP, hD, hS, lv_sub hl [0, 1, 2] rfl, hT⟩
                  · skip
                    refine lv_icmp_ge (tgt := 157) hx hb dX3_step_150 (by decide) (fun c547 => ?_) (fun c547 => ?_)
                    · skip
                      have c547 := i_le (show (5 : Int32).toInt = 5 by decide) (Eq.refl v519.toInt) c547
                      refine lv_iconst (v := 0) hx hb dX3_step_157 (by decide) ?_
                      refine W.widen (k := 0) (n := 0) (Nat.le_of_ble_eq_true rfl) (Nat.le_of_ble_eq_true rfl) ?_
                      exact jn522 (0) H locs ls ⟨hP, hD, hS, lv_sub hl [0, 1] rfl, hT, by omega⟩
                    · skip
                      have c547 := i_nle (show (5 : Int32).toInt = 5 by decide) (Eq.refl v519.toInt) c547
                      refine lv_iconst (v := 1) hx hb dX3_step_153 (by decide) ?_
                      refine lv_goto (tgt := 158) hx hb dX3_step_154 (by decide) ?_
                      have zi1 : (1 : Int32).toInt = 1 := by decide
                      refine W.widen (k := 0) (n := 0) (Nat.le_of_ble_eq_true rfl) (Nat.le_of_ble_eq_true rfl) ?_
                      exact jn522 (1) H locs ls ⟨hP, hD, hS, lv_sub hl [0, 1] rfl, hT, by omega⟩
    · skip
      have j548 := rgI x3
      refine lv_icmp_ge (tgt := 73) hx hb dX3_step_54 (by decide) (fun c549 => ?_) (fun c549 => ?_)
      · skip
        have c549 := i_le (Eq.refl x3.toInt) (Eq.refl v47.toInt) c549
        refine lv_sipush (v := 256) hx hb dX3_step_73 (by decide) ?_
        have zi256 : (256 : Int32).toInt = 256 := by decide
        refine W.widen (k := 0) (n := 0) (Nat.le_of_ble_eq_true rfl) (Nat.le_of_ble_eq_true rfl) ?_
        exact jn99 (256) H locs ls ⟨hP, hD, hS, lv_sub hl [0] rfl, hT, by omega, by omega⟩
      · skip
        have c549 := i_nle (Eq.refl x3.toInt) (Eq.refl v47.toInt) c549
        refine lv_aload_n hx hb dX3_step_57 rfl (lv_at hl 0 rfl) ?_
        refine va_get (D := D) (ci := 3) (v := .ref a2) (C := RX3) (T := TX3) (N := 12) hx hb hg inGX3 hown hKN.1 hP p21 hk91 rfl 0 (by decide) (hg _ kw_178) (fun _ h9 => h9) rfl dX3_step_58 ?_
        refine lv_aload_n hx hb dX3_step_61 rfl (lv_at hl 0 rfl) ?_
        refine va_get (D := D) (ci := 3) (v := .int v47) (C := RX3) (T := TX3) (N := 12) hx hb hg inGX3 hown hKN.1 hP p21 hk91 rfl 2 (by decide) (hg _ kw_180) (fun _ h9 => h9) rfl dX3_step_62 ?_
        refine tr_ld16 hx hb hKN hP hT h14 (vp_in_iff.mpr ⟨by omega, by omega⟩) dX3_step_65 (fun v550 => ?_)
        refine lv_sipush (v := 255) hx hb dX3_step_66 (by decide) ?_
        refine lv_iand hx hb dX3_step_69 ?_
        refine lv_topi (fun v551 ev551 => ?_)
        have hv551 := i_and (show (255 : Int32).toInt = 255 by decide) ev551 (by decide)
        refine lv_goto (tgt := 76) hx hb dX3_step_70 (by decide) ?_
        refine W.widen (k := 0) (n := 0) (Nat.le_of_ble_eq_true rfl) (Nat.le_of_ble_eq_true rfl) ?_
        exact jn99 (v551) H locs ls ⟨hP, hD, hS, lv_sub hl [0] rfl, hT, by omega, by omega⟩
  · skip
    have j552 := rgI x3
    refine lv_icmp_ge (tgt := 38) hx hb dX3_step_8 (by decide) (fun c553 => ?_) (fun c553 => ?_)
    · skip
      have c553 := i_le (Eq.refl x3.toInt) (Eq.refl v47.toInt) c553
      refine W.widen (k := 0) (n := 0) (Nat.le_of_ble_eq_true rfl) (Nat.le_of_ble_eq_true rfl) ?_
      exact jn88 (()) H locs ls ⟨hP, hD, hS, lv_sub hl [0] rfl, hT⟩
    · skip
      have c553 := i_nle (Eq.refl x3.toInt) (Eq.refl v47.toInt) c553
      refine lv_aload_n hx hb dX3_step_11 rfl (lv_at hl 0 rfl) ?_
      refine va_get (D := D) (ci := 3) (v := .ref a2) (C := RX3) (T := TX3) (N := 12) hx hb hg inGX3 hown hKN.1 hP p21 hk75 rfl 0 (by decide) (hg _ kw_178) (fun _ h9 => h9) rfl dX3_step_12 ?_
      refine lv_aload_n hx hb dX3_step_15 rfl (lv_at hl 0 rfl) ?_
      refine va_get (D := D) (ci := 3) (v := .int v47) (C := RX3) (T := TX3) (N := 12) hx hb hg inGX3 hown hKN.1 hP p21 hk75 rfl 2 (by decide) (hg _ kw_180) (fun _ h9 => h9) rfl dX3_step_16 ?_
      refine tr_ld16 hx hb hKN hP hT h14 (vp_in_iff.mpr ⟨by omega, by omega⟩) dX3_step_19 (fun v554 => ?_)
      refine lv_bipush (v := 32) hx hb dX3_step_20 (by decide) ?_
      have j555 := rgI v554
      refine lv_icmp_ne (tgt := 38) hx hb dX3_step_22 (by decide) (fun c556 => ?_) (fun c556 => ?_)
      · skip
        have c556 := i_ne (Eq.refl v554.toInt) (show (32 : Int32).toInt = 32 by decide) c556
        refine W.widen (k := 0) (n := 0) (Nat.le_of_ble_eq_true rfl) (Nat.le_of_ble_eq_true rfl) ?_
        exact jn88 (()) H locs ls ⟨hP, hD, hS, lv_sub hl [0] rfl, hT⟩
      · skip
        have c556 := i_eq (Eq.refl v554.toInt) (show (32 : Int32).toInt = 32 by decide) c556
        refine lv_aload_n hx hb dX3_step_25 rfl (lv_at hl 0 rfl) ?_
        refine lv_dup hx hb dX3_step_26 rfl ?_
        refine va_get (D := D) (ci := 3) (v := .int v47) (C := RX3) (T := TX3) (N := 12) hx hb hg inGX3 hown hKN.1 hP p21 hk75 rfl 2 (by decide) (hg _ kw_180) (fun _ h9 => h9) rfl dX3_step_27 ?_
        refine lv_iconst (v := 1) hx hb dX3_step_30 (by decide) ?_
        refine lv_iadd hx hb dX3_step_31 ?_
        refine lv_topi (fun v557 ev557 => ?_)
        have hv557 := i_add (Eq.refl v47.toInt) (show (1 : Int32).toInt = 1 by decide) ev557 (by omega) (by omega)
        refine va_put (D := D) (ci := 3) (v := .int v557) (ty := .int) (C := RX3) (T := TX3) (N := 12) hx hb hg inGX3 tyX3 tyX3_ok nmX3 hown hKN.1 hP hD hS p21 hk75 rfl 2 (by decide) (hg _ kw_180) (fun _ h9 => h9) rfl (by decide +kernel) rfl rfl (Nat.le_of_ble_eq_true rfl) dX3_step_32 (fun H locs hP hD2 hS => ?_)
        obtain ⟨w558, hP, hD, hT, hk560, kp559⟩ : ∃ wz, va_P D vwCl wz H ∧ va_D A wz ∧ TW Y Z T g q wz ∧ wz[p21]? = some (p0, .inr (3, [.ref a2, .int x3, .int v557, .int x5, .int x6, .int x7, .int x8, .int x9, .int x10, .ref (Z a11), .ref a12, .int x13])) ∧ Kp p0 w46 wz := ⟨_, hP, hD2, st7 hT hD hk75 ht0 ⟨n1, a2, x3, v557, x5, x6, x7, x8, x9, x10, a11, a12, x13, rfl, h14, by omega, by omega, h17, h18, by omega, h20⟩, sw_eq hk75, sw_kp hk75⟩
        have ke561 : KF 1 T ws w558 := KF.tr ke73 (KF.kp kp559 ht0 (by decide))
        have ke562 : KF 6 T ws w558 := KF.tr ke74 (KF.kp kp559 ht0 (by decide))
        refine lv_goto (tgt := 0) hx hb dX3_step_35 (by decide) ?_
        exact ih76 (w558, v557) H locs ls (by show (400 - v557.toInt).toNat < (400 - v47.toInt).toNat; omega) ⟨hP, hD, hS, lv_sub hl [0] rfl, hT, ke561, ke562, hk560, by omega, by omega⟩
set_option maxHeartbeats 4000000 in
set_option maxRecDepth 100000 in
theorem x_X3_expect (l : Launch) (D : va_G) (Y : Nat → ClassId) (Z : Nat → Nat) (sz : Nat) (ws : va_W) (T : RT) (g : GN) (q : GQ)  (p0 : Nat) (p1 : Int32) (hT : TW Y Z T g q ws) (ht0 : T p0 = (7, 0, 0)) : Met l yX3_expect (.code yX3_expect cX3_expect 2 none :: GW) ({ frames := 1, cells := 0, slots := 0, locals := 22 }) (va_Pc [.ref p0, .int p1] (CPC D Y Z ws sz)) (QG (S := va_W) (fun _ => none) (fun u => TW Y Z T g q u ∧ KF 1 T ws u ∧ KF 6 T ws u) (fun u => CB D u (va_A ws sz)) (va_A ws sz)) 0 0 (va_A ws sz) := by
  refine Met.ofW (cc := cX3_expect) (maxL := 2) (ret := none) (by decide) rfl ?_
  intro p e s m args below meth c s₁ B hml hv
  obtain ⟨rfl, ⟨hsz, hP, hKN, hD0⟩, hSZ⟩ := hv
  have hx := B.exec
  have hb := B.bytes
  have hr := B.returns
  have hts := atoms_spec (ws := .code yX3_expect cX3_expect 2 none :: GW) B.pre
  have hg : ∀ w ∈ GW, w.before _ s = true := fun w h => hts w (List.mem_cons_of_mem _ h)
  have hown : s.vm.findClass RX3 = some m.cls := findClass_of_methodNamed B.named
  have hlocks := B.notSynchronized
  subst hsz
  have hD := hD0.self (sz := s.heap.size)
  generalize hAe : va_A ws s.heap.size = A at hD hSZ ⊢
  have hA : ∀ q : Nat, s.heap.size ≤ q → A q := fun q h => by rw [← hAe]; exact Or.inr h
  clear hAe hD0 hts B
  have hl := lv_entry ([.ref p0, .int p1]) (n := 2) (Nat.le_of_ble_eq_true rfl)
  rw [lg_entry_eq]
  generalize (lg_sl ([.ref p0, .int p1]) ++ List.replicate (2 - (lg_sl ([.ref p0, .int p1])).length) Slot.unset).toArray = ls at hl ⊢
  have hl : lv_has ls 2 [(0, .ref p0), (1, .int p1)] := hl
  refine w_start (A0 := A) hP (fun H locs hP hS => ?_)
  refine lv_aload_n hx hb dX3_expect_0 rfl (lv_at hl 0 rfl) ?_
  refine ok7 hT ht0 (fun p21 n1 a2 x3 x4 x5 x6 x7 x8 x9 x10 a11 a12 x13 hk22 h14 h15 h16 h17 h18 h19 h20 => ?_)
  refine va_get (D := D) (ci := 3) (v := .int x5) (C := RX3) (T := TX3) (N := 12) hx hb hg inGX3 hown hKN.1 hP p21 hk22 rfl 3 (by decide) (hg _ kw_181) (fun _ h9 => h9) rfl dX3_expect_1 ?_
  refine lv_iload_n hx hb dX3_expect_4 rfl (lv_at hl 1 rfl) ?_
  have j23 := rgI x5
  have j24 := rgI p1
  refine lv_icmp_ne (tgt := 15) hx hb dX3_expect_5 (by decide) (fun c25 => ?_) (fun c25 => ?_)
  · skip
    have c25 := i_ne (Eq.refl x5.toInt) (Eq.refl p1.toInt) c25
    refine lv_aload_n hx hb dX3_expect_15 rfl (lv_at hl 0 rfl) ?_
    refine lv_iconst (v := 0) hx hb dX3_expect_16 (by decide) ?_
    have zi0 : (0 : Int32).toInt = 0 := by decide
    refine cga (rn_V (As := [.int 0]) (rest := []) (b := p0) (x_X3_setFault l D Y Z H.size ws T g q p0 0 hT ht0) ⟨hx, hb, hml, hown, hg⟩ lk_X3_78 ⟨CPC.blind, va_recv hKN.1 hP (ci := 3) (q0 := p21) rfl hk22, CPC.at hP hKN hD hSZ hS hA⟩ ⟨⟨rfl, rfl⟩, ⟨Nat.le_of_ble_eq_true rfl, Nat.le_of_ble_eq_true rfl⟩, ⟨(Nat.le_of_ble_eq_true rfl), (Nat.le_of_ble_eq_true rfl)⟩⟩ hl.1 rfl (Nat.le_of_ble_eq_true rfl) dX3_expect_17) hP hD hS hA (fun u26 H locs hw27 hP hD hS => ?_)
    obtain ⟨hT, ke29, ke30⟩ : TW Y Z T g q u26 ∧ KF 1 T ws u26 ∧ KF 6 T ws u26 := hw27
    have ke31 : KF 1 T ws u26 := KF.tr KF.rf ke29
    have ke32 : KF 6 T ws u26 := KF.tr KF.rf ke30
    refine W.eq (g2 := F0 m 20 ls []) rfl ?_
    refine W.widen (k := 0) (n := 0) (Nat.le_of_ble_eq_true rfl) (Nat.le_of_ble_eq_true rfl) ?_
    exact W.vret hx hb hr (fun t ht hW => ⟨⟨u26, rfl, ⟨hT, ke31, ke32⟩, CB.mk ht hP hD⟩, hS.F ht⟩) hS.2.2 dX3_expect_20
  · skip
    have c25 := i_eq (Eq.refl x5.toInt) (Eq.refl p1.toInt) c25
    refine lv_aload_n hx hb dX3_expect_8 rfl (lv_at hl 0 rfl) ?_
    refine cga (rn_V (As := []) (rest := []) (b := p0) (x_X3_step l D Y Z H.size ws T g q p0 hT ht0) ⟨hx, hb, hml, hown, hg⟩ lk_X3_61 ⟨CPC.blind, va_recv hKN.1 hP (ci := 3) (q0 := p21) rfl hk22, CPC.at hP hKN hD hSZ hS hA⟩ ⟨⟨rfl, rfl⟩, ⟨Nat.le_of_ble_eq_true rfl, Nat.le_of_ble_eq_true rfl⟩, ⟨(Nat.le_of_ble_eq_true rfl), (Nat.le_of_ble_eq_true rfl)⟩⟩ hl.1 rfl (Nat.le_of_ble_eq_true rfl) dX3_expect_9) hP hD hS hA (fun u33 H locs hw34 hP hD hS => ?_)
    obtain ⟨hT, ke36, ke37⟩ : TW Y Z T g q u33 ∧ KF 1 T ws u33 ∧ KF 6 T ws u33 := hw34
    have ke38 : KF 1 T ws u33 := KF.tr KF.rf ke36
    have ke39 : KF 6 T ws u33 := KF.tr KF.rf ke37
    refine W.eq (g2 := F0 m 12 ls []) rfl ?_
    refine lv_goto (tgt := 20) hx hb dX3_expect_12 (by decide) ?_
    refine W.widen (k := 0) (n := 0) (Nat.le_of_ble_eq_true rfl) (Nat.le_of_ble_eq_true rfl) ?_
    exact W.vret hx hb hr (fun t ht hW => ⟨⟨u33, rfl, ⟨hT, ke38, ke39⟩, CB.mk ht hP hD⟩, hS.F ht⟩) hS.2.2 dX3_expect_20
set_option maxHeartbeats 4000000 in
set_option maxRecDepth 100000 in
theorem x_X3_whichOf (l : Launch) (D : va_G) (Y : Nat → ClassId) (Z : Nat → Nat) (sz : Nat) (ws : va_W) (T : RT) (g : GN) (q : GQ) (z1 : Nat) (p0 : Nat) (hT : TW Y Z T g q ws) (ht0 : T p0 = (7, 0, 0)) (ht1 : z1 < 9) : Met l yX3_whichOf (.code yX3_whichOf cX3_whichOf 7 (some .int) :: GW) ({ frames := 4, cells := 0, slots := 0, locals := 85 }) (va_Pc [.ref p0, .ref (Z z1)] (CPC D Y Z ws sz)) (QG (S := Int32) (fun u => some (.int u)) (fun u => True) (fun u => CB D ws (va_A ws sz)) (va_A ws sz)) 0 0 (va_A ws sz) := by
  refine Met.ofW (cc := cX3_whichOf) (maxL := 7) (ret := (some .int)) (by decide) rfl ?_
  intro p e s m args below meth c s₁ B hml hv
  obtain ⟨rfl, ⟨hsz, hP, hKN, hD0⟩, hSZ⟩ := hv
  have hx := B.exec
  have hb := B.bytes
  have hr := B.returns
  have hts := atoms_spec (ws := .code yX3_whichOf cX3_whichOf 7 (some .int) :: GW) B.pre
  have hg : ∀ w ∈ GW, w.before _ s = true := fun w h => hts w (List.mem_cons_of_mem _ h)
  have hown : s.vm.findClass RX3 = some m.cls := findClass_of_methodNamed B.named
  have hlocks := B.notSynchronized
  subst hsz
  have hD := hD0.self (sz := s.heap.size)
  generalize hAe : va_A ws s.heap.size = A at hD hSZ ⊢
  have hA : ∀ q : Nat, s.heap.size ≤ q → A q := fun q h => by rw [← hAe]; exact Or.inr h
  clear hAe hD0 hts B
  have hl := lv_entry ([.ref p0, .ref (Z z1)]) (n := 7) (Nat.le_of_ble_eq_true rfl)
  rw [lg_entry_eq]
  generalize (lg_sl ([.ref p0, .ref (Z z1)]) ++ List.replicate (7 - (lg_sl ([.ref p0, .ref (Z z1)])).length) Slot.unset).toArray = ls at hl ⊢
  have hl : lv_has ls 7 [(0, .ref p0), (1, .ref (Z z1))] := hl
  refine w_start (A0 := A) hP (fun H locs hP hS => ?_)
  refine lv_aload_n hx hb dX3_whichOf_0 rfl (lv_at hl 0 rfl) ?_
  refine ok7 hT ht0 (fun p21 n1 a2 x3 x4 x5 x6 x7 x8 x9 x10 a11 a12 x13 hk22 h14 h15 h16 h17 h18 h19 h20 => ?_)
  refine va_get (D := D) (ci := 3) (v := .int x5) (C := RX3) (T := TX3) (N := 12) hx hb hg inGX3 hown hKN.1 hP p21 hk22 rfl 3 (by decide) (hg _ kw_181) (fun _ h9 => h9) rfl dX3_whichOf_1 ?_
  refine lv_sipush (v := 258) hx hb dX3_whichOf_4 (by decide) ?_
  have j23 := rgI x5
  refine lv_icmp_eq (tgt := 12) hx hb dX3_whichOf_7 (by decide) (fun c24 => ?_) (fun c24 => ?_)
  · skip
    have c24 := i_eq (Eq.refl x5.toInt) (show (258 : Int32).toInt = 258 by decide) c24
    refine lv_iconst (v := 0) hx hb dX3_whichOf_12 (by decide) ?_
    refine lv_istore_n (lv' := [(2, .int 0), (0, .ref p0), (1, .ref (Z z1))]) hx hb dX3_whichOf_13 rfl hl (by decide) rfl (fun ls hl => ?_)
    refine lv_aload_n hx hb dX3_whichOf_14 rfl (lv_at hl 1 rfl) ?_
    refine va_get (D := D) (ci := 3) (v := .int x6) (C := RX3) (T := TX3) (N := 12) hx hb hg inGX3 hown hKN.1 hP p21 hk22 rfl 4 (by decide) (hg _ kw_182) (fun _ h9 => h9) rfl dX3_whichOf_15 ?_
    refine lv_istore_n (lv' := [(3, .int x6), (2, .int 0), (0, .ref p0), (1, .ref (Z z1))]) hx hb dX3_whichOf_18 rfl hl (by decide) rfl (fun ls hl => ?_)
    refine lv_iconst (v := 0) hx hb dX3_whichOf_19 (by decide) ?_
    refine lv_istore (lv' := [(4, .int 0), (3, .int x6), (2, .int 0), (0, .ref p0), (1, .ref (Z z1))]) hx hb dX3_whichOf_20 hl (by decide) rfl (fun ls hl => ?_)
    have zi0 : (0 : Int32).toInt = 0 := by decide
    refine w_loop (σ := Int32 × Int32 × Int32) (fun xx H locs ls => match xx with | (v59, v60, v61) => va_P D vwCl ws H ∧ va_D A ws ∧ va_S A s.heap H locs ∧ lv_has ls 7 [(4, .int v59), (3, .int v60), (2, .int v61), (0, .ref p0), (1, .ref (Z z1))] ∧ TW Y Z T g q ws ∧ (0 ≤ v59.toInt ∧ v59.toInt ≤ 61)) (fun xx => match xx with | (v59, v60, v61) => (61 - v59.toInt).toNat) (0, x6, 0) ⟨hP, hD, hS, lv_sub hl [0, 1, 2, 3, 4] rfl, hT, by omega⟩ (fun xx H locs ls hI ih => ?_)
    obtain ⟨v59, v60, v61⟩ := xx
    obtain ⟨hP, hD, hS, hl, hT, hq104⟩ := hI
    have ih105 := ih
    refine lv_iload hx hb dX3_whichOf_22 (lv_at hl 0 rfl) ?_
    refine lv_aload_n hx hb dX3_whichOf_24 rfl (lv_at hl 4 rfl) ?_
    refine cg0 (rn_V (As := []) (rest := [.int v59]) (b := (Z z1)) (x_J0_length_8abf5 l D Y Z H.size z1 (show z1 < 9 by omega)) ⟨hx, hb, hml, hown, hg⟩ lk_X3_84 ⟨CPC.blind, vk_recv hSZ.2.2.2.2 (show z1 < 9 by omega) hS, CPC.at nilP hKN (nilD (A := A)) hSZ hS hA⟩ ⟨⟨rfl, rfl⟩, ⟨Nat.le_of_ble_eq_true rfl, Nat.le_of_ble_eq_true rfl⟩, ⟨(Nat.le_of_ble_eq_true rfl), (Nat.le_of_ble_eq_true rfl)⟩⟩ hl.1 rfl (Nat.le_of_ble_eq_true rfl) dX3_whichOf_25) hP hS hA (fun u106 H locs hw107 hP hS => ?_)
    obtain ⟨hw109, hw110⟩ : (0 ≤ u106.toInt ∧ u106.toInt ≤ 60) ∧ (u106.toInt = ((SLEN.getD z1 0 : Nat) : Int)) := hw107
    refine W.eq (g2 := F0 m 28 ls [.int u106, .int v59]) rfl ?_
    refine lv_icmp_gt (tgt := 130) hx hb dX3_whichOf_28 (by decide) (fun c111 => ?_) (fun c111 => ?_)
    · skip
      have c111 := i_lt (Eq.refl u106.toInt) (Eq.refl v59.toInt) c111
      refine lv_iconst (v := (-1)) hx hb dX3_whichOf_130 (by decide) ?_
      refine W.widen (k := 0) (n := 0) (Nat.le_of_ble_eq_true rfl) (Nat.le_of_ble_eq_true rfl) ?_
      have zim1 : ((-1) : Int32).toInt = -1 := by decide
      exact W.iret (v := (-1)) hx hb hr (fun t ht hW => ⟨⟨((-1)), rfl, trivial, CB.mk ht hP hD⟩, hS.F ht⟩) hS.2.2 dX3_whichOf_131
    · skip
      have c111 := i_nlt (Eq.refl u106.toInt) (Eq.refl v59.toInt) c111
      refine lv_iload hx hb dX3_whichOf_31 (lv_at hl 0 rfl) ?_
      refine lv_aload_n hx hb dX3_whichOf_33 rfl (lv_at hl 4 rfl) ?_
      refine cg0 (rn_V (As := []) (rest := [.int v59]) (b := (Z z1)) (x_J0_length_8abf5 l D Y Z H.size z1 (show z1 < 9 by omega)) ⟨hx, hb, hml, hown, hg⟩ lk_X3_84 ⟨CPC.blind, vk_recv hSZ.2.2.2.2 (show z1 < 9 by omega) hS, CPC.at nilP hKN (nilD (A := A)) hSZ hS hA⟩ ⟨⟨rfl, rfl⟩, ⟨Nat.le_of_ble_eq_true rfl, Nat.le_of_ble_eq_true rfl⟩, ⟨(Nat.le_of_ble_eq_true rfl), (Nat.le_of_ble_eq_true rfl)⟩⟩ hl.1 rfl (Nat.le_of_ble_eq_true rfl) dX3_whichOf_34) hP hS hA (fun u112 H locs hw113 hP hS => ?_)
      obtain ⟨hw115, hw116⟩ : (0 ≤ u112.toInt ∧ u112.toInt ≤ 60) ∧ (u112.toInt = ((SLEN.getD z1 0 : Nat) : Int)) := hw113
      refine W.eq (g2 := F0 m 37 ls [.int u112, .int v59]) rfl ?_
      refine lv_icmp_ge (tgt := 49) hx hb dX3_whichOf_37 (by decide) (fun c117 => ?_) (fun c117 => ?_)
      · skip
        have c117 := i_le (Eq.refl u112.toInt) (Eq.refl v59.toInt) c117
        refine lv_bipush (v := 32) hx hb dX3_whichOf_49 (by decide) ?_
        refine lv_istore (lv' := [(5, .int 32), (4, .int v59), (3, .int v60), (2, .int v61), (0, .ref p0), (1, .ref (Z z1))]) hx hb dX3_whichOf_51 hl (by decide) rfl (fun ls hl => ?_)
        refine lv_iload hx hb dX3_whichOf_53 (lv_at hl 0 rfl) ?_
        refine lv_bipush (v := 32) hx hb dX3_whichOf_55 (by decide) ?_
        refine lv_icmp_ne (tgt := 81) hx hb dX3_whichOf_57 (by decide) (fun c118 => ?_) (fun c118 => ?_)
        · exact absurd c118 (by decide)
        refine lv_iload_n hx hb dX3_whichOf_60 rfl (lv_at hl 2 rfl) ?_
        refine lv_aload_n hx hb dX3_whichOf_61 rfl (lv_at hl 4 rfl) ?_
        refine va_get (D := D) (ci := 3) (v := .int x4) (C := RX3) (T := TX3) (N := 12) hx hb hg inGX3 hown hKN.1 hP p21 hk22 rfl 2 (by decide) (hg _ kw_180) (fun _ h9 => h9) rfl dX3_whichOf_62 ?_
        have j119 := rgI v60
        refine lv_icmp_ne (tgt := 70) hx hb dX3_whichOf_65 (by decide) (fun c120 => ?_) (fun c120 => ?_)
        · skip
          have c120 := i_ne (Eq.refl v60.toInt) (Eq.refl x4.toInt) c120
          obtain ⟨v121, ev121⟩ : ∃ y : Int32, y = v61 + 1 := ⟨_, rfl⟩
          refine lv_iinc (v := v121) (lv' := [(2, .int v121), (5, .int 32), (4, .int v59), (3, .int v60), (0, .ref p0), (1, .ref (Z z1))]) hx hb dX3_whichOf_70 hl (k := 3) rfl (by rw [ev121]; rfl) (by decide) rfl (fun ls hl => ?_)
          refine lv_aload_n hx hb dX3_whichOf_73 rfl (lv_at hl 4 rfl) ?_
          refine va_get (D := D) (ci := 3) (v := .int x6) (C := RX3) (T := TX3) (N := 12) hx hb hg inGX3 hown hKN.1 hP p21 hk22 rfl 4 (by decide) (hg _ kw_182) (fun _ h9 => h9) rfl dX3_whichOf_74 ?_
          refine lv_istore_n (lv' := [(3, .int x6), (2, .int v121), (5, .int 32), (4, .int v59), (0, .ref p0), (1, .ref (Z z1))]) hx hb dX3_whichOf_77 rfl hl (by decide) rfl (fun ls hl => ?_)
          refine lv_goto (tgt := 124) hx hb dX3_whichOf_78 (by decide) ?_
          obtain ⟨v122, ev122⟩ : ∃ y : Int32, y = v59 + 1 := ⟨_, rfl⟩
          have hv122 := i_add (Eq.refl v59.toInt) (show (1 : Int32).toInt = 1 by decide) ev122 (by omega) (by omega)
          refine lv_iinc (v := v122) (lv' := [(4, .int v122), (3, .int x6), (2, .int v121), (5, .int 32), (0, .ref p0), (1, .ref (Z z1))]) hx hb dX3_whichOf_124 hl (k := 3) rfl (by rw [ev122]; rfl) (by decide) rfl (fun ls hl => ?_)
          refine lv_goto (tgt := 22) hx hb dX3_whichOf_127 (by decide) ?_
          have zi32 : (32 : Int32).toInt = 32 := by decide
          exact ih105 (v122, x6, v121) H locs ls (by show (61 - v122.toInt).toNat < (61 - v59.toInt).toNat; omega) ⟨hP, hD, hS, lv_sub hl [0, 1, 2, 4, 5] rfl, hT, by omega⟩
        · skip
          have c120 := i_eq (Eq.refl v60.toInt) (Eq.refl x4.toInt) c120
          refine lv_iload_n hx hb dX3_whichOf_68 rfl (lv_at hl 3 rfl) ?_
          refine W.widen (k := 0) (n := 0) (Nat.le_of_ble_eq_true rfl) (Nat.le_of_ble_eq_true rfl) ?_
          have zi32 : (32 : Int32).toInt = 32 := by decide
          exact W.iret (v := v61) hx hb hr (fun t ht hW => ⟨⟨v61, rfl, trivial, CB.mk ht hP hD⟩, hS.F ht⟩) hS.2.2 dX3_whichOf_69
      · skip
        have c117 := i_nle (Eq.refl u112.toInt) (Eq.refl v59.toInt) c117
        refine lv_aload_n hx hb dX3_whichOf_40 rfl (lv_at hl 4 rfl) ?_
        refine lv_iload hx hb dX3_whichOf_41 (lv_at hl 0 rfl) ?_
        refine cg0 (rn_V (As := [.int v59]) (rest := []) (b := (Z z1)) (x_J0_charAt_5068e l D Y Z H.size z1 v59 (show z1 < 9 by omega) (show (0 ≤ v59.toInt) by omega) (show (v59.toInt < ((SLEN.getD z1 0 : Nat) : Int)) by omega)) ⟨hx, hb, hml, hown, hg⟩ lk_X3_89 ⟨CPC.blind, vk_recv hSZ.2.2.2.2 (show z1 < 9 by omega) hS, CPC.at nilP hKN (nilD (A := A)) hSZ hS hA⟩ ⟨⟨rfl, rfl⟩, ⟨Nat.le_of_ble_eq_true rfl, Nat.le_of_ble_eq_true rfl⟩, ⟨(Nat.le_of_ble_eq_true rfl), (Nat.le_of_ble_eq_true rfl)⟩⟩ hl.1 rfl (Nat.le_of_ble_eq_true rfl) dX3_whichOf_43) hP hS hA (fun u123 H locs hw124 hP hS => ?_)
        have hw126 : (narrow .char (.int u123) = .int u123) := hw124
        refine W.eq (g2 := F0 m 46 ls [.int u123]) rfl ?_
        refine lv_goto (tgt := 51) hx hb dX3_whichOf_46 (by decide) ?_
        refine lv_istore (lv' := [(5, .int u123), (4, .int v59), (3, .int v60), (2, .int v61), (0, .ref p0), (1, .ref (Z z1))]) hx hb dX3_whichOf_51 hl (by decide) rfl (fun ls hl => ?_)
        refine lv_iload hx hb dX3_whichOf_53 (lv_at hl 0 rfl) ?_
        refine lv_bipush (v := 32) hx hb dX3_whichOf_55 (by decide) ?_
        have j127 := rgI u123
        refine lv_icmp_ne (tgt := 81) hx hb dX3_whichOf_57 (by decide) (fun c128 => ?_) (fun c128 => ?_)
        · skip
          have c128 := i_ne (Eq.refl u123.toInt) (show (32 : Int32).toInt = 32 by decide) c128
          refine lv_iload_n hx hb dX3_whichOf_81 rfl (lv_at hl 2 rfl) ?_
          have j129 := rgI v60
          refine lv_if_lt (tgt := 108) hx hb dX3_whichOf_82 (by decide) (fun c130 => ?_) (fun c130 => ?_)
          · skip
            have c130 := i_lt (Eq.refl v60.toInt) (show (0 : Int32).toInt = 0 by decide) c130
            refine lv_iconst (v := 0) hx hb dX3_whichOf_108 (by decide) ?_
            refine lv_istore (lv' := [(6, .int 0), (5, .int u123), (4, .int v59), (3, .int v60), (2, .int v61), (0, .ref p0), (1, .ref (Z z1))]) hx hb dX3_whichOf_109 hl (by decide) rfl (fun ls hl => ?_)
            refine lv_iload hx hb dX3_whichOf_111 (lv_at hl 0 rfl) ?_
            refine lv_if_eq (tgt := 122) hx hb dX3_whichOf_113 (by decide) (fun c131 => ?_) (fun c131 => ?_)
            rotate_left
            · exact absurd c131 (by decide)
            refine lv_iconst (v := (-1)) hx hb dX3_whichOf_122 (by decide) ?_
            refine lv_istore_n (lv' := [(3, .int (-1)), (6, .int 0), (5, .int u123), (4, .int v59), (2, .int v61), (0, .ref p0), (1, .ref (Z z1))]) hx hb dX3_whichOf_123 rfl hl (by decide) rfl (fun ls hl => ?_)
            obtain ⟨v132, ev132⟩ : ∃ y : Int32, y = v59 + 1 := ⟨_, rfl⟩
            have hv132 := i_add (Eq.refl v59.toInt) (show (1 : Int32).toInt = 1 by decide) ev132 (by omega) (by omega)
            refine lv_iinc (v := v132) (lv' := [(4, .int v132), (3, .int (-1)), (6, .int 0), (5, .int u123), (2, .int v61), (0, .ref p0), (1, .ref (Z z1))]) hx hb dX3_whichOf_124 hl (k := 3) rfl (by rw [ev132]; rfl) (by decide) rfl (fun ls hl => ?_)
            refine lv_goto (tgt := 22) hx hb dX3_whichOf_127 (by decide) ?_
            have zim1 : ((-1) : Int32).toInt = -1 := by decide
            have zi0 : (0 : Int32).toInt = 0 := by decide
            exact ih105 (v132, (-1), v61) H locs ls (by show (61 - v132.toInt).toNat < (61 - v59.toInt).toNat; omega) ⟨hP, hD, hS, lv_sub hl [0, 1, 4, 5, 6] rfl, hT, by omega⟩
          · skip
            have c130 := i_nlt (Eq.refl v60.toInt) (show (0 : Int32).toInt = 0 by decide) c130
            refine lv_iload_n hx hb dX3_whichOf_85 rfl (lv_at hl 2 rfl) ?_
            refine lv_aload_n hx hb dX3_whichOf_86 rfl (lv_at hl 4 rfl) ?_
            refine va_get (D := D) (ci := 3) (v := .int x4) (C := RX3) (T := TX3) (N := 12) hx hb hg inGX3 hown hKN.1 hP p21 hk22 rfl 2 (by decide) (hg _ kw_180) (fun _ h9 => h9) rfl dX3_whichOf_87 ?_
            refine lv_icmp_ge (tgt := 108) hx hb dX3_whichOf_90 (by decide) (fun c133 => ?_) (fun c133 => ?_)
            · skip
              have c133 := i_le (Eq.refl x4.toInt) (Eq.refl v60.toInt) c133
              refine lv_iconst (v := 0) hx hb dX3_whichOf_108 (by decide) ?_
              refine lv_istore (lv' := [(6, .int 0), (5, .int u123), (4, .int v59), (3, .int v60), (2, .int v61), (0, .ref p0), (1, .ref (Z z1))]) hx hb dX3_whichOf_109 hl (by decide) rfl (fun ls hl => ?_)
              refine lv_iload hx hb dX3_whichOf_111 (lv_at hl 0 rfl) ?_
              refine lv_if_eq (tgt := 122) hx hb dX3_whichOf_113 (by decide) (fun c134 => ?_) (fun c134 => ?_)
              rotate_left
              · exact absurd c134 (by decide)
              refine lv_iconst (v := (-1)) hx hb dX3_whichOf_122 (by decide) ?_
              refine lv_istore_n (lv' := [(3, .int (-1)), (6, .int 0), (5, .int u123), (4, .int v59), (2, .int v61), (0, .ref p0), (1, .ref (Z z1))]) hx hb dX3_whichOf_123 rfl hl (by decide) rfl (fun ls hl => ?_)
              obtain ⟨v135, ev135⟩ : ∃ y : Int32, y = v59 + 1 := ⟨_, rfl⟩
              have hv135 := i_add (Eq.refl v59.toInt) (show (1 : Int32).toInt = 1 by decide) ev135 (by omega) (by omega)
              refine lv_iinc (v := v135) (lv' := [(4, .int v135), (3, .int (-1)), (6, .int 0), (5, .int u123), (2, .int v61), (0, .ref p0), (1, .ref (Z z1))]) hx hb dX3_whichOf_124 hl (k := 3) rfl (by rw [ev135]; rfl) (by decide) rfl (fun ls hl => ?_)
              refine lv_goto (tgt := 22) hx hb dX3_whichOf_127 (by decide) ?_
              have zim1 : ((-1) : Int32).toInt = -1 := by decide
              have zi0 : (0 : Int32).toInt = 0 := by decide
              exact ih105 (v135, (-1), v61) H locs ls (by show (61 - v135.toInt).toNat < (61 - v59.toInt).toNat; omega) ⟨hP, hD, hS, lv_sub hl [0, 1, 4, 5, 6] rfl, hT, by omega⟩
            · skip
              have c133 := i_nle (Eq.refl x4.toInt) (Eq.refl v60.toInt) c133
              refine lv_aload_n hx hb dX3_whichOf_93 rfl (lv_at hl 4 rfl) ?_
              refine va_get (D := D) (ci := 3) (v := .ref a2) (C := RX3) (T := TX3) (N := 12) hx hb hg inGX3 hown hKN.1 hP p21 hk22 rfl 0 (by decide) (hg _ kw_178) (fun _ h9 => h9) rfl dX3_whichOf_94 ?_
              refine lv_iload_n hx hb dX3_whichOf_97 rfl (lv_at hl 2 rfl) ?_
              refine tr_ld16 hx hb hKN hP hT h14 (vp_in_iff.mpr ⟨by omega, by omega⟩) dX3_whichOf_98 (fun v136 => ?_)
              refine lv_iload hx hb dX3_whichOf_99 (lv_at hl 0 rfl) ?_
              have j137 := rgI v136
              refine lv_icmp_ne (tgt := 108) hx hb dX3_whichOf_101 (by decide) (fun c138 => ?_) (fun c138 => ?_)
              · skip
                have c138 := i_ne (Eq.refl v136.toInt) (Eq.refl u123.toInt) c138
                refine lv_iconst (v := 0) hx hb dX3_whichOf_108 (by decide) ?_
                refine lv_istore (lv' := [(6, .int 0), (5, .int u123), (4, .int v59), (3, .int v60), (2, .int v61), (0, .ref p0), (1, .ref (Z z1))]) hx hb dX3_whichOf_109 hl (by decide) rfl (fun ls hl => ?_)
                refine lv_iload hx hb dX3_whichOf_111 (lv_at hl 0 rfl) ?_
                refine lv_if_eq (tgt := 122) hx hb dX3_whichOf_113 (by decide) (fun c139 => ?_) (fun c139 => ?_)
                rotate_left
                · exact absurd c139 (by decide)
                refine lv_iconst (v := (-1)) hx hb dX3_whichOf_122 (by decide) ?_
                refine lv_istore_n (lv' := [(3, .int (-1)), (6, .int 0), (5, .int u123), (4, .int v59), (2, .int v61), (0, .ref p0), (1, .ref (Z z1))]) hx hb dX3_whichOf_123 rfl hl (by decide) rfl (fun ls hl => ?_)
                obtain ⟨v140, ev140⟩ : ∃ y : Int32, y = v59 + 1 := ⟨_, rfl⟩
                have hv140 := i_add (Eq.refl v59.toInt) (show (1 : Int32).toInt = 1 by decide) ev140 (by omega) (by omega)
                refine lv_iinc (v := v140) (lv' := [(4, .int v140), (3, .int (-1)), (6, .int 0), (5, .int u123), (2, .int v61), (0, .ref p0), (1, .ref (Z z1))]) hx hb dX3_whichOf_124 hl (k := 3) rfl (by rw [ev140]; rfl) (by decide) rfl (fun ls hl => ?_)
                refine lv_goto (tgt := 22) hx hb dX3_whichOf_127 (by decide) ?_
                have zim1 : ((-1) : Int32).toInt = -1 := by decide
                have zi0 : (0 : Int32).toInt = 0 := by decide
                exact ih105 (v140, (-1), v61) H locs ls (by show (61 - v140.toInt).toNat < (61 - v59.toInt).toNat; omega) ⟨hP, hD, hS, lv_sub hl [0, 1, 4, 5, 6] rfl, hT, by omega⟩
              · skip
                have c138 := i_eq (Eq.refl v136.toInt) (Eq.refl u123.toInt) c138
                refine lv_iconst (v := 1) hx hb dX3_whichOf_104 (by decide) ?_
                refine lv_goto (tgt := 109) hx hb dX3_whichOf_105 (by decide) ?_
                refine lv_istore (lv' := [(6, .int 1), (5, .int u123), (4, .int v59), (3, .int v60), (2, .int v61), (0, .ref p0), (1, .ref (Z z1))]) hx hb dX3_whichOf_109 hl (by decide) rfl (fun ls hl => ?_)
                refine lv_iload hx hb dX3_whichOf_111 (lv_at hl 0 rfl) ?_
                refine lv_if_eq (tgt := 122) hx hb dX3_whichOf_113 (by decide) (fun c141 => ?_) (fun c141 => ?_)
                · exact absurd c141 (by decide)
                refine lv_iload_n hx hb dX3_whichOf_116 rfl (lv_at hl 3 rfl) ?_
                refine lv_iconst (v := 1) hx hb dX3_whichOf_117 (by decide) ?_
                refine lv_iadd hx hb dX3_whichOf_118 ?_
                refine lv_topi (fun v142 ev142 => ?_)
                have hv142 := i_add (Eq.refl v60.toInt) (show (1 : Int32).toInt = 1 by decide) ev142 (by omega) (by omega)
                refine lv_goto (tgt := 123) hx hb dX3_whichOf_119 (by decide) ?_
                refine lv_istore_n (lv' := [(3, .int v142), (6, .int 1), (5, .int u123), (4, .int v59), (2, .int v61), (0, .ref p0), (1, .ref (Z z1))]) hx hb dX3_whichOf_123 rfl hl (by decide) rfl (fun ls hl => ?_)
                obtain ⟨v143, ev143⟩ : ∃ y : Int32, y = v59 + 1 := ⟨_, rfl⟩
                have hv143 := i_add (Eq.refl v59.toInt) (show (1 : Int32).toInt = 1 by decide) ev143 (by omega) (by omega)
                refine lv_iinc (v := v143) (lv' := [(4, .int v143), (3, .int v142), (6, .int 1), (5, .int u123), (2, .int v61), (0, .ref p0), (1, .ref (Z z1))]) hx hb dX3_whichOf_124 hl (k := 3) rfl (by rw [ev143]; rfl) (by decide) rfl (fun ls hl => ?_)
                refine lv_goto (tgt := 22) hx hb dX3_whichOf_127 (by decide) ?_
                have zi1 : (1 : Int32).toInt = 1 := by decide
                exact ih105 (v143, v142, v61) H locs ls (by show (61 - v143.toInt).toNat < (61 - v59.toInt).toNat; omega) ⟨hP, hD, hS, lv_sub hl [0, 1, 4, 5, 6] rfl, hT, by omega⟩
        · skip
          have c128 := i_eq (Eq.refl u123.toInt) (show (32 : Int32).toInt = 32 by decide) c128
          refine lv_iload_n hx hb dX3_whichOf_60 rfl (lv_at hl 2 rfl) ?_
          refine lv_aload_n hx hb dX3_whichOf_61 rfl (lv_at hl 4 rfl) ?_
          refine va_get (D := D) (ci := 3) (v := .int x4) (C := RX3) (T := TX3) (N := 12) hx hb hg inGX3 hown hKN.1 hP p21 hk22 rfl 2 (by decide) (hg _ kw_180) (fun _ h9 => h9) rfl dX3_whichOf_62 ?_
          have j144 := rgI v60
          refine lv_icmp_ne (tgt := 70) hx hb dX3_whichOf_65 (by decide) (fun c145 => ?_) (fun c145 => ?_)
          · skip
            have c145 := i_ne (Eq.refl v60.toInt) (Eq.refl x4.toInt) c145
            obtain ⟨v146, ev146⟩ : ∃ y : Int32, y = v61 + 1 := ⟨_, rfl⟩
            refine lv_iinc (v := v146) (lv' := [(2, .int v146), (5, .int u123), (4, .int v59), (3, .int v60), (0, .ref p0), (1, .ref (Z z1))]) hx hb dX3_whichOf_70 hl (k := 3) rfl (by rw [ev146]; rfl) (by decide) rfl (fun ls hl => ?_)
            refine lv_aload_n hx hb dX3_whichOf_73 rfl (lv_at hl 4 rfl) ?_
            refine va_get (D := D) (ci := 3) (v := .int x6) (C := RX3) (T := TX3) (N := 12) hx hb hg inGX3 hown hKN.1 hP p21 hk22 rfl 4 (by decide) (hg _ kw_182) (fun _ h9 => h9) rfl dX3_whichOf_74 ?_
            refine lv_istore_n (lv' := [(3, .int x6), (2, .int v146), (5, .int u123), (4, .int v59), (0, .ref p0), (1, .ref (Z z1))]) hx hb dX3_whichOf_77 rfl hl (by decide) rfl (fun ls hl => ?_)
            refine lv_goto (tgt := 124) hx hb dX3_whichOf_78 (by decide) ?_
            obtain ⟨v147, ev147⟩ : ∃ y : Int32, y = v59 + 1 := ⟨_, rfl⟩
            have hv147 := i_add (Eq.refl v59.toInt) (show (1 : Int32).toInt = 1 by decide) ev147 (by omega) (by omega)
            refine lv_iinc (v := v147) (lv' := [(4, .int v147), (3, .int x6), (2, .int v146), (5, .int u123), (0, .ref p0), (1, .ref (Z z1))]) hx hb dX3_whichOf_124 hl (k := 3) rfl (by rw [ev147]; rfl) (by decide) rfl (fun ls hl => ?_)
            refine lv_goto (tgt := 22) hx hb dX3_whichOf_127 (by decide) ?_
            exact ih105 (v147, x6, v146) H locs ls (by show (61 - v147.toInt).toNat < (61 - v59.toInt).toNat; omega) ⟨hP, hD, hS, lv_sub hl [0, 1, 2, 4, 5] rfl, hT, by omega⟩
          · skip
            have c145 := i_eq (Eq.refl v60.toInt) (Eq.refl x4.toInt) c145
            refine lv_iload_n hx hb dX3_whichOf_68 rfl (lv_at hl 3 rfl) ?_
            refine W.widen (k := 0) (n := 0) (Nat.le_of_ble_eq_true rfl) (Nat.le_of_ble_eq_true rfl) ?_
            exact W.iret (v := v61) hx hb hr (fun t ht hW => ⟨⟨v61, rfl, trivial, CB.mk ht hP hD⟩, hS.F ht⟩) hS.2.2 dX3_whichOf_69
  · skip
    have c24 := i_ne (Eq.refl x5.toInt) (show (258 : Int32).toInt = 258 by decide) c24
    refine lv_iconst (v := (-1)) hx hb dX3_whichOf_10 (by decide) ?_
    refine W.widen (k := 0) (n := 0) (Nat.le_of_ble_eq_true rfl) (Nat.le_of_ble_eq_true rfl) ?_
    have zim1 : ((-1) : Int32).toInt = -1 := by decide
    exact W.iret (v := (-1)) hx hb hr (fun t ht hW => ⟨⟨((-1)), rfl, trivial, CB.mk ht hP hD⟩, hS.F ht⟩) hS.2.2 dX3_whichOf_11
set_option maxHeartbeats 4000000 in
set_option maxRecDepth 100000 in
theorem x_X3_readNumber (l : Launch) (D : va_G) (Y : Nat → ClassId) (Z : Nat → Nat) (sz : Nat) (ws : va_W) (T : RT) (g : GN) (q : GQ)  (p0 : Nat) (p1 : Int32) (p2 : Int32) (hT : TW Y Z T g q ws) (ht0 : T p0 = (7, 0, 0)) : Met l yX3_readNumber (.code yX3_readNumber cX3_readNumber 4 (some .int) :: GW) ({ frames := 1, cells := 0, slots := 0, locals := 22 }) (va_Pc [.ref p0, .int p1, .int p2] (CPC D Y Z ws sz)) (QG (S := Int32 × va_W) (fun u => some (.int u.1)) (fun u => TW Y Z T g q u.2 ∧ KF 1 T ws u.2 ∧ KF 6 T ws u.2) (fun u => CB D u.2 (va_A ws sz)) (va_A ws sz)) 0 0 (va_A ws sz) := by
  refine Met.ofW (cc := cX3_readNumber) (maxL := 4) (ret := (some .int)) (by decide) rfl ?_
  intro p e s m args below meth c s₁ B hml hv
  obtain ⟨rfl, ⟨hsz, hP, hKN, hD0⟩, hSZ⟩ := hv
  have hx := B.exec
  have hb := B.bytes
  have hr := B.returns
  have hts := atoms_spec (ws := .code yX3_readNumber cX3_readNumber 4 (some .int) :: GW) B.pre
  have hg : ∀ w ∈ GW, w.before _ s = true := fun w h => hts w (List.mem_cons_of_mem _ h)
  have hown : s.vm.findClass RX3 = some m.cls := findClass_of_methodNamed B.named
  have hlocks := B.notSynchronized
  subst hsz
  have hD := hD0.self (sz := s.heap.size)
  generalize hAe : va_A ws s.heap.size = A at hD hSZ ⊢
  have hA : ∀ q : Nat, s.heap.size ≤ q → A q := fun q h => by rw [← hAe]; exact Or.inr h
  clear hAe hD0 hts B
  have hl := lv_entry ([.ref p0, .int p1, .int p2]) (n := 4) (Nat.le_of_ble_eq_true rfl)
  rw [lg_entry_eq]
  generalize (lg_sl ([.ref p0, .int p1, .int p2]) ++ List.replicate (4 - (lg_sl ([.ref p0, .int p1, .int p2])).length) Slot.unset).toArray = ls at hl ⊢
  have hl : lv_has ls 4 [(0, .ref p0), (1, .int p1), (2, .int p2)] := hl
  refine w_start (A0 := A) hP (fun H locs hP hS => ?_)
  refine lv_aload_n hx hb dX3_readNumber_0 rfl (lv_at hl 0 rfl) ?_
  refine ok7 hT ht0 (fun p21 n1 a2 x3 x4 x5 x6 x7 x8 x9 x10 a11 a12 x13 hk22 h14 h15 h16 h17 h18 h19 h20 => ?_)
  refine va_get (D := D) (ci := 3) (v := .int x8) (C := RX3) (T := TX3) (N := 12) hx hb hg inGX3 hown hKN.1 hP p21 hk22 rfl 6 (by decide) (hg _ kw_184) (fun _ h9 => h9) rfl dX3_readNumber_1 ?_
  have j23 := rgI x8
  refine lv_if_eq (tgt := 9) hx hb dX3_readNumber_4 (by decide) (fun c24 => ?_) (fun c24 => ?_)
  · skip
    have c24 := i_eq (Eq.refl x8.toInt) (show (0 : Int32).toInt = 0 by decide) c24
    refine lv_aload_n hx hb dX3_readNumber_9 rfl (lv_at hl 0 rfl) ?_
    refine va_get (D := D) (ci := 3) (v := .int x5) (C := RX3) (T := TX3) (N := 12) hx hb hg inGX3 hown hKN.1 hP p21 hk22 rfl 3 (by decide) (hg _ kw_181) (fun _ h9 => h9) rfl dX3_readNumber_10 ?_
    refine lv_sipush (v := 257) hx hb dX3_readNumber_13 (by decide) ?_
    have j25 := rgI x5
    refine lv_icmp_eq (tgt := 26) hx hb dX3_readNumber_16 (by decide) (fun c26 => ?_) (fun c26 => ?_)
    · skip
      have c26 := i_eq (Eq.refl x5.toInt) (show (257 : Int32).toInt = 257 by decide) c26
      refine lv_aload_n hx hb dX3_readNumber_26 rfl (lv_at hl 0 rfl) ?_
      refine va_get (D := D) (ci := 3) (v := .int x7) (C := RX3) (T := TX3) (N := 12) hx hb hg inGX3 hown hKN.1 hP p21 hk22 rfl 5 (by decide) (hg _ kw_183) (fun _ h9 => h9) rfl dX3_readNumber_27 ?_
      refine lv_iload_n hx hb dX3_readNumber_30 rfl (lv_at hl 1 rfl) ?_
      have j27 := rgI x7
      have j28 := rgI p1
      refine lv_icmp_lt (tgt := 42) hx hb dX3_readNumber_31 (by decide) (fun c29 => ?_) (fun c29 => ?_)
      · skip
        have c29 := i_lt (Eq.refl x7.toInt) (Eq.refl p1.toInt) c29
        refine lv_aload_n hx hb dX3_readNumber_42 rfl (lv_at hl 0 rfl) ?_
        refine lv_iconst (v := 1) hx hb dX3_readNumber_43 (by decide) ?_
        have zi1 : (1 : Int32).toInt = 1 := by decide
        refine cga (rn_V (As := [.int 1]) (rest := []) (b := p0) (x_X3_setFault l D Y Z H.size ws T g q p0 1 hT ht0) ⟨hx, hb, hml, hown, hg⟩ lk_X3_78 ⟨CPC.blind, va_recv hKN.1 hP (ci := 3) (q0 := p21) rfl hk22, CPC.at hP hKN hD hSZ hS hA⟩ ⟨⟨rfl, rfl⟩, ⟨Nat.le_of_ble_eq_true rfl, Nat.le_of_ble_eq_true rfl⟩, ⟨(Nat.le_of_ble_eq_true rfl), (Nat.le_of_ble_eq_true rfl)⟩⟩ hl.1 rfl (Nat.le_of_ble_eq_true rfl) dX3_readNumber_44) hP hD hS hA (fun u30 H locs hw31 hP hD hS => ?_)
        obtain ⟨hT, ke33, ke34⟩ : TW Y Z T g q u30 ∧ KF 1 T ws u30 ∧ KF 6 T ws u30 := hw31
        have ke35 : KF 1 T ws u30 := KF.tr KF.rf ke33
        have ke36 : KF 6 T ws u30 := KF.tr KF.rf ke34
        refine W.eq (g2 := F0 m 47 ls []) rfl ?_
        refine lv_iconst (v := (-1)) hx hb dX3_readNumber_47 (by decide) ?_
        refine W.widen (k := 0) (n := 0) (Nat.le_of_ble_eq_true rfl) (Nat.le_of_ble_eq_true rfl) ?_
        have zim1 : ((-1) : Int32).toInt = -1 := by decide
        exact W.iret (v := (-1)) hx hb hr (fun t ht hW => ⟨⟨(((-1)), u30), rfl, ⟨hT, ke35, ke36⟩, CB.mk ht hP hD⟩, hS.F ht⟩) hS.2.2 dX3_readNumber_48
      · skip
        have c29 := i_nlt (Eq.refl x7.toInt) (Eq.refl p1.toInt) c29
        refine lv_aload_n hx hb dX3_readNumber_34 rfl (lv_at hl 0 rfl) ?_
        refine va_get (D := D) (ci := 3) (v := .int x7) (C := RX3) (T := TX3) (N := 12) hx hb hg inGX3 hown hKN.1 hP p21 hk22 rfl 5 (by decide) (hg _ kw_183) (fun _ h9 => h9) rfl dX3_readNumber_35 ?_
        refine lv_iload_n hx hb dX3_readNumber_38 rfl (lv_at hl 2 rfl) ?_
        have j37 := rgI p2
        refine lv_icmp_le (tgt := 49) hx hb dX3_readNumber_39 (by decide) (fun c38 => ?_) (fun c38 => ?_)
        · skip
          have c38 := i_le (Eq.refl x7.toInt) (Eq.refl p2.toInt) c38
          refine lv_aload_n hx hb dX3_readNumber_49 rfl (lv_at hl 0 rfl) ?_
          refine va_get (D := D) (ci := 3) (v := .int x7) (C := RX3) (T := TX3) (N := 12) hx hb hg inGX3 hown hKN.1 hP p21 hk22 rfl 5 (by decide) (hg _ kw_183) (fun _ h9 => h9) rfl dX3_readNumber_50 ?_
          refine lv_istore_n (lv' := [(3, .int x7), (0, .ref p0), (1, .int p1), (2, .int p2)]) hx hb dX3_readNumber_53 rfl hl (by decide) rfl (fun ls hl => ?_)
          refine lv_aload_n hx hb dX3_readNumber_54 rfl (lv_at hl 1 rfl) ?_
          refine cga (rn_V (As := []) (rest := []) (b := p0) (x_X3_step l D Y Z H.size ws T g q p0 hT ht0) ⟨hx, hb, hml, hown, hg⟩ lk_X3_61 ⟨CPC.blind, va_recv hKN.1 hP (ci := 3) (q0 := p21) rfl hk22, CPC.at hP hKN hD hSZ hS hA⟩ ⟨⟨rfl, rfl⟩, ⟨Nat.le_of_ble_eq_true rfl, Nat.le_of_ble_eq_true rfl⟩, ⟨(Nat.le_of_ble_eq_true rfl), (Nat.le_of_ble_eq_true rfl)⟩⟩ hl.1 rfl (Nat.le_of_ble_eq_true rfl) dX3_readNumber_55) hP hD hS hA (fun u39 H locs hw40 hP hD hS => ?_)
          obtain ⟨hT, ke42, ke43⟩ : TW Y Z T g q u39 ∧ KF 1 T ws u39 ∧ KF 6 T ws u39 := hw40
          have ke44 : KF 1 T ws u39 := KF.tr KF.rf ke42
          have ke45 : KF 6 T ws u39 := KF.tr KF.rf ke43
          refine W.eq (g2 := F0 m 58 ls []) rfl ?_
          refine lv_iload_n hx hb dX3_readNumber_58 rfl (lv_at hl 0 rfl) ?_
          refine W.widen (k := 0) (n := 0) (Nat.le_of_ble_eq_true rfl) (Nat.le_of_ble_eq_true rfl) ?_
          exact W.iret (v := x7) hx hb hr (fun t ht hW => ⟨⟨(x7, u39), rfl, ⟨hT, ke44, ke45⟩, CB.mk ht hP hD⟩, hS.F ht⟩) hS.2.2 dX3_readNumber_59
        · skip
          have c38 := i_nle (Eq.refl x7.toInt) (Eq.refl p2.toInt) c38
          refine lv_aload_n hx hb dX3_readNumber_42 rfl (lv_at hl 0 rfl) ?_
          refine lv_iconst (v := 1) hx hb dX3_readNumber_43 (by decide) ?_
          have zi1 : (1 : Int32).toInt = 1 := by decide
          refine cga (rn_V (As := [.int 1]) (rest := []) (b := p0) (x_X3_setFault l D Y Z H.size ws T g q p0 1 hT ht0) ⟨hx, hb, hml, hown, hg⟩ lk_X3_78 ⟨CPC.blind, va_recv hKN.1 hP (ci := 3) (q0 := p21) rfl hk22, CPC.at hP hKN hD hSZ hS hA⟩ ⟨⟨rfl, rfl⟩, ⟨Nat.le_of_ble_eq_true rfl, Nat.le_of_ble_eq_true rfl⟩, ⟨(Nat.le_of_ble_eq_true rfl), (Nat.le_of_ble_eq_true rfl)⟩⟩ hl.1 rfl (Nat.le_of_ble_eq_true rfl) dX3_readNumber_44) hP hD hS hA (fun u46 H locs hw47 hP hD hS => ?_)
          obtain ⟨hT, ke49, ke50⟩ : TW Y Z T g q u46 ∧ KF 1 T ws u46 ∧ KF 6 T ws u46 := hw47
          have ke51 : KF 1 T ws u46 := KF.tr KF.rf ke49
          have ke52 : KF 6 T ws u46 := KF.tr KF.rf ke50
          refine W.eq (g2 := F0 m 47 ls []) rfl ?_
          refine lv_iconst (v := (-1)) hx hb dX3_readNumber_47 (by decide) ?_
          refine W.widen (k := 0) (n := 0) (Nat.le_of_ble_eq_true rfl) (Nat.le_of_ble_eq_true rfl) ?_
          have zim1 : ((-1) : Int32).toInt = -1 := by decide
          exact W.iret (v := (-1)) hx hb hr (fun t ht hW => ⟨⟨(((-1)), u46), rfl, ⟨hT, ke51, ke52⟩, CB.mk ht hP hD⟩, hS.F ht⟩) hS.2.2 dX3_readNumber_48
    · skip
      have c26 := i_ne (Eq.refl x5.toInt) (show (257 : Int32).toInt = 257 by decide) c26
      refine lv_aload_n hx hb dX3_readNumber_19 rfl (lv_at hl 0 rfl) ?_
      refine lv_iconst (v := 0) hx hb dX3_readNumber_20 (by decide) ?_
      have zi0 : (0 : Int32).toInt = 0 := by decide
      refine cga (rn_V (As := [.int 0]) (rest := []) (b := p0) (x_X3_setFault l D Y Z H.size ws T g q p0 0 hT ht0) ⟨hx, hb, hml, hown, hg⟩ lk_X3_78 ⟨CPC.blind, va_recv hKN.1 hP (ci := 3) (q0 := p21) rfl hk22, CPC.at hP hKN hD hSZ hS hA⟩ ⟨⟨rfl, rfl⟩, ⟨Nat.le_of_ble_eq_true rfl, Nat.le_of_ble_eq_true rfl⟩, ⟨(Nat.le_of_ble_eq_true rfl), (Nat.le_of_ble_eq_true rfl)⟩⟩ hl.1 rfl (Nat.le_of_ble_eq_true rfl) dX3_readNumber_21) hP hD hS hA (fun u53 H locs hw54 hP hD hS => ?_)
      obtain ⟨hT, ke56, ke57⟩ : TW Y Z T g q u53 ∧ KF 1 T ws u53 ∧ KF 6 T ws u53 := hw54
      have ke58 : KF 1 T ws u53 := KF.tr KF.rf ke56
      have ke59 : KF 6 T ws u53 := KF.tr KF.rf ke57
      refine W.eq (g2 := F0 m 24 ls []) rfl ?_
      refine lv_iconst (v := (-1)) hx hb dX3_readNumber_24 (by decide) ?_
      refine W.widen (k := 0) (n := 0) (Nat.le_of_ble_eq_true rfl) (Nat.le_of_ble_eq_true rfl) ?_
      have zim1 : ((-1) : Int32).toInt = -1 := by decide
      exact W.iret (v := (-1)) hx hb hr (fun t ht hW => ⟨⟨(((-1)), u53), rfl, ⟨hT, ke58, ke59⟩, CB.mk ht hP hD⟩, hS.F ht⟩) hS.2.2 dX3_readNumber_25
  · skip
    have c24 := i_ne (Eq.refl x8.toInt) (show (0 : Int32).toInt = 0 by decide) c24
    refine lv_iconst (v := (-1)) hx hb dX3_readNumber_7 (by decide) ?_
    refine W.widen (k := 0) (n := 0) (Nat.le_of_ble_eq_true rfl) (Nat.le_of_ble_eq_true rfl) ?_
    have zim1 : ((-1) : Int32).toInt = -1 := by decide
    exact W.iret (v := (-1)) hx hb hr (fun t ht hW => ⟨⟨(((-1)), ws), rfl, ⟨hT, KF.rf, KF.rf⟩, CB.mk ht hP hD⟩, hS.F ht⟩) hS.2.2 dX3_readNumber_8
