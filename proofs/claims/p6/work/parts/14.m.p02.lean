set_option maxHeartbeats 4000000 in
set_option maxRecDepth 100000 in
theorem m_compare (l : Launch) (D : va_G) (Y : Nat → ClassId) (Z : Nat → Nat) (sz : Nat) (o : Nat) (a : Nat → Nat) (I : Nat → Int32) (J : Nat → Int64) (F : Nat → Nat → Int32) (G : Nat → Nat → Int64) (gs : Nat → Int32) (gb : Nat) (gd : Nat) (hk_0 : (0 ≤ (I 16).toInt ∧ (I 16).toInt ≤ 400)) (hk_1 : (0 ≤ (I 3).toInt ∧ (I 3).toInt ≤ 400)) (hk_2 : ((I 16).toInt ≤ (I 3).toInt)) (hk_3 : (0 ≤ (I 17).toInt ∧ (I 17).toInt ≤ 4000)) (hk_4 : (0 ≤ (I 20).toInt ∧ (I 20).toInt ≤ 60)) (hk_5 : (0 ≤ (I 19).toInt ∧ (I 19).toInt ≤ 17)) (hk_6 : (((F 6) (I 19).toNatClampNeg).toInt ≤ (I 16).toInt)) (hr_PS : PSg (F 4) (F 8) (F 7) (F 5) (F 6) gs (I 19).toNatClampNeg gb (gd) ((I 20).toInt).toNat) : Met l yX11_compare (.code yX11_compare cX11_compare 5 (some .boolean) :: GW) ({ frames := 6, cells := 0, slots := 0, locals := 130 }) (va_Pc [.ref o] (CP D Y Z (MW Y o a I J F G) sz)) (QG (S := Int32 × Int32 × Int32 × Int32 × Int32 × (Nat → Int32) × (Nat → Int32)) (fun u => some (.int u.1)) (fun u => (0 ≤ u.2.1.toInt ∧ u.2.1.toInt ≤ 400) ∧ ((I 16).toInt ≤ u.2.1.toInt) ∧ (u.2.1.toInt ≤ (I 3).toInt) ∧ (0 ≤ u.2.2.1.toInt ∧ u.2.2.1.toInt ≤ 4000) ∧ (0 ≤ u.2.2.2.2.1.toInt ∧ u.2.2.2.2.1.toInt ≤ 60) ∧ ((I 20).toInt ≤ u.2.2.2.2.1.toInt) ∧ (0 ≤ u.1.toInt ∧ u.1.toInt ≤ 1) ∧ (u.1.toInt = 0 → 1 ≤ u.2.2.1.toInt) ∧ (u.1.toInt = 1 → (u.2.2.2.2.2.2 (I 19).toNatClampNeg).toInt + (I 16).toInt ≤ ((F 6) (I 19).toNatClampNeg).toInt + u.2.1.toInt) ∧ (u.1.toInt = 1 → PSg (F 4) (F 8) (F 7) u.2.2.2.2.2.1 u.2.2.2.2.2.2 gs (I 19).toNatClampNeg gb (gd + 1) (u.2.2.2.2.1.toInt).toNat) ∧ TC (F 4) (F 8) (F 7) u.2.2.2.2.2.1) (fun u => CB D (MW Y o a (upd (upd (upd (upd I 16 u.2.1) 17 u.2.2.1) 18 u.2.2.2.1) 20 u.2.2.2.2.1) J (vf_upd (vf_upd F 5 u.2.2.2.2.2.1) 6 u.2.2.2.2.2.2) G) (va_A (MW Y o a I J F G) sz)) (va_A (MW Y o a I J F G) sz)) 0 0 (va_A (MW Y o a I J F G) sz) := by
  refine Met.ofW (cc := cX11_compare) (maxL := 5) (ret := (some .boolean)) (by decide) rfl ?_
  intro p e s m args below meth c s₁ B hml hv
  obtain ⟨rfl, hsz, hP, hKN, hD0⟩ := hv
  have hx := B.exec
  have hb := B.bytes
  have hr := B.returns
  have hts := atoms_spec (ws := .code yX11_compare cX11_compare 5 (some .boolean) :: GW) B.pre
  have hg : ∀ w ∈ GW, w.before _ s = true := fun w h => hts w (List.mem_cons_of_mem _ h)
  have hown : s.vm.findClass RX11 = some m.cls := findClass_of_methodNamed B.named
  have hlocks := B.notSynchronized
  subst hsz
  have hD := hD0.self (sz := s.heap.size)
  generalize hAe : va_A (MW Y o a I J F G) s.heap.size = A at hD ⊢
  have hA : ∀ q : Nat, s.heap.size ≤ q → A q := fun q h => by rw [← hAe]; exact Or.inr h
  clear hAe hD0 hts B
  have hl := lv_entry ([.ref o]) (n := 5) (Nat.le_of_ble_eq_true rfl)
  rw [lg_entry_eq]
  generalize (lg_sl ([.ref o]) ++ List.replicate (5 - (lg_sl ([.ref o])).length) Slot.unset).toArray = ls at hl ⊢
  have hl : lv_has ls 5 [(0, .ref o)] := hl
  refine w_start (A0 := A) hP (fun H locs hP hS => ?_)
  have hd0 := PG_dep hr_PS
  have hl0 := PG_len hr_PS
  refine lv_aload_n hx hb dX11_compare_0 rfl (lv_at hl 0 rfl) ?_
  refine cga (rn_V (As := []) (rest := []) (b := o) (m_sum l D Y Z H.size o a I J F G gs gb gd  (show (0 ≤ (I 16).toInt ∧ (I 16).toInt ≤ 400) by omega) (show (0 ≤ (I 3).toInt ∧ (I 3).toInt ≤ 400) by omega) (show ((I 16).toInt ≤ (I 3).toInt) by omega) (show (0 ≤ (I 17).toInt ∧ (I 17).toInt ≤ 4000) by omega) (show (0 ≤ (I 20).toInt ∧ (I 20).toInt ≤ 60) by omega) (show (0 ≤ (I 19).toInt ∧ (I 19).toInt ≤ 17) by omega) (show (((F 6) (I 19).toNatClampNeg).toInt ≤ (I 16).toInt) by omega) (PG_to hr_PS rfl (by omega) (by omega) (by omega))) ⟨hx, hb, hml, hown, hg⟩ lk_X11_271 ⟨CP.blind, va_recv hKN.1 hP (ci := 11) (q0 := 0) rfl rfl, CP.at hP hKN hD⟩ ⟨⟨rfl, rfl⟩, ⟨Nat.le_of_ble_eq_true rfl, Nat.le_of_ble_eq_true rfl⟩, ⟨Nat.le_of_ble_eq_true rfl, Nat.le_of_ble_eq_true rfl⟩⟩ hl.1 rfl (Nat.le_of_ble_eq_true rfl) dX11_compare_1) hP hD hS hA (fun u1 H locs w2 hP hD hS => ?_)
  obtain ⟨u3, u4, u5, u6, u7, f8, f9⟩ := u1
  have w2 : (0 ≤ u4.toInt ∧ u4.toInt ≤ 400) ∧ ((I 16).toInt ≤ u4.toInt) ∧ (u4.toInt ≤ (I 3).toInt) ∧ (0 ≤ u5.toInt ∧ u5.toInt ≤ 4000) ∧ (0 ≤ u7.toInt ∧ u7.toInt ≤ 60) ∧ ((I 20).toInt ≤ u7.toInt) ∧ (0 ≤ u3.toInt ∧ u3.toInt ≤ 1) ∧ (u3.toInt = 0 → 1 ≤ u5.toInt) ∧ (u3.toInt = 1 → (f9 (I 19).toNatClampNeg).toInt + (I 16).toInt ≤ ((F 6) (I 19).toNatClampNeg).toInt + u4.toInt) ∧ (u3.toInt = 1 → PSg (F 4) (F 8) (F 7) f8 f9 gs (I 19).toNatClampNeg gb (gd + 1) (u7.toInt).toNat) ∧ TC (F 4) (F 8) (F 7) f8 := w2
  obtain ⟨hw10, hw11, hw12, hw13, hw14, hw15, hw16, hw17, hw18, hw19, hw20⟩ := w2
  refine W.eq (g2 := F0 m 4 ls [.int u3]) rfl ?_
  have hP : va_P D vwCl (MW Y o a (upd (upd (upd (upd I 16 u4) 17 u5) 18 u6) 20 u7) J (vf_upd (vf_upd F 5 f8) 6 f9) G) H := hP
  have hD : va_D A (MW Y o a (upd (upd (upd (upd I 16 u4) 17 u5) 18 u6) 20 u7) J (vf_upd (vf_upd F 5 f8) 6 f9) G) := hD
  rcases (show u3.toInt = 1 ∨ u3.toInt = 0 by omega) with c21 | c21
  · obtain rfl : u3 = 1 := i_is c21 (by decide)
    have zi1 : (1 : Int32).toInt = 1 := by decide
    have t22 := hw19 (by decide)
    refine W.eq (g2 := F0 m 4 ls [.int 1]) rfl ?_
    refine lv_if_ne (tgt := 9) hx hb dX11_compare_4 (by decide) (fun c23 => ?_) (fun c23 => ?_)
    rotate_left
    · exact absurd c23 (by decide)
    refine lv_aload_n hx hb dX11_compare_9 rfl (lv_at hl 0 rfl) ?_
    refine cga (rn_V (As := []) (rest := []) (b := o) (m_see l D Y Z H.size o a (upd (upd (upd (upd I 16 u4) 17 u5) 18 u6) 20 u7) J (vf_upd (vf_upd F 5 f8) 6 f9) G   (show (0 ≤ u4.toInt ∧ u4.toInt ≤ 400) by omega) (show (0 ≤ (I 3).toInt ∧ (I 3).toInt ≤ 400) by omega) (show (u4.toInt ≤ (I 3).toInt) by omega)) ⟨hx, hb, hml, hown, hg⟩ lk_X11_183 ⟨CP.blind, va_recv hKN.1 hP (ci := 11) (q0 := 0) rfl rfl, CP.at hP hKN hD⟩ ⟨⟨rfl, rfl⟩, ⟨Nat.le_of_ble_eq_true rfl, Nat.le_of_ble_eq_true rfl⟩, ⟨Nat.le_of_ble_eq_true rfl, Nat.le_of_ble_eq_true rfl⟩⟩ hl.1 rfl (Nat.le_of_ble_eq_true rfl) dX11_compare_10) hP hD hS hA (fun u24 H locs w25 hP hD hS => ?_)
    obtain ⟨u26, u27⟩ := u24
    have w25 : (0 ≤ u27.toInt ∧ u27.toInt ≤ 400) ∧ (u4.toInt ≤ u27.toInt) ∧ (u27.toInt ≤ (I 3).toInt) ∧ ((u26.toInt = -1 ∧ u27.toInt = (I 3).toInt) ∨ (0 ≤ u26.toInt ∧ u26.toInt ≤ 255 ∧ u27.toInt < (I 3).toInt ∧ ((F 2) u27.toNatClampNeg).toInt ≠ 32)) ∧ (-1 ≤ u26.toInt ∧ u26.toInt ≤ 255) ∧ ((u4.toInt < (I 3).toInt ∧ ((F 2) u4.toNatClampNeg).toInt ≠ 32) → u27.toInt = u4.toInt) := w25
    obtain ⟨hw28, hw29, hw30, hw31, hw32, hw33⟩ := w25
    refine W.eq (g2 := F0 m 13 ls [.int u26]) rfl ?_
    have hP : va_P D vwCl (MW Y o a (upd (upd (upd (upd I 16 u27) 17 u5) 18 u6) 20 u7) J (vf_upd (vf_upd F 5 f8) 6 f9) G) H := hP
    have hD : va_D A (MW Y o a (upd (upd (upd (upd I 16 u27) 17 u5) 18 u6) 20 u7) J (vf_upd (vf_upd F 5 f8) 6 f9) G) := hD
    refine lv_istore_n (lv' := [(1, .int u26), (0, .ref o)]) hx hb dX11_compare_13 rfl hl (by decide) rfl (fun ls hl => ?_)
    refine lv_aload_n hx hb dX11_compare_14 rfl (lv_at hl 1 rfl) ?_
    refine va_get (D := D) (ci := 11) (v := .int u27) (C := RX11) (T := TX11) (N := 49) hx hb hg inGX11 hown hKN.1 hP 0 rfl rfl 16 (by decide) (hg _ kw_1224) (fun _ h9 => h9) rfl dX11_compare_15 ?_
    refine lv_istore_n (lv' := [(2, .int u27), (1, .int u26), (0, .ref o)]) hx hb dX11_compare_18 rfl hl (by decide) rfl (fun ls hl => ?_)
    refine lv_iload_n hx hb dX11_compare_19 rfl (lv_at hl 1 rfl) ?_
    refine lv_bipush (v := 60) hx hb dX11_compare_20 (by decide) ?_
    refine lv_icmp_eq (tgt := 44) hx hb dX11_compare_22 (by decide) (fun c34 => ?_) (fun c34 => ?_)
    · skip
      have c34 := i_eq (Eq.refl u26.toInt) (show (60 : Int32).toInt = 60 by decide) c34
      refine lv_aload_n hx hb dX11_compare_44 rfl (lv_at hl 2 rfl) ?_
      refine lv_dup hx hb dX11_compare_45 rfl ?_
      refine va_get (D := D) (ci := 11) (v := .int u27) (C := RX11) (T := TX11) (N := 49) hx hb hg inGX11 hown hKN.1 hP 0 rfl rfl 16 (by decide) (hg _ kw_1224) (fun _ h9 => h9) rfl dX11_compare_46 ?_
      refine lv_iconst (v := 1) hx hb dX11_compare_49 (by decide) ?_
      refine lv_iadd hx hb dX11_compare_50 ?_
      refine lv_topi (fun v35 ev35 => ?_)
      have hv35 := i_add (Eq.refl u27.toInt) (show (1 : Int32).toInt = 1 by decide) ev35 (by omega) (by omega)
      refine va_put (D := D) (ci := 11) (v := .int v35) (ty := .int) (C := RX11) (T := TX11) (N := 49) hx hb hg inGX11 tyX11 tyX11_ok nmX11 hown hKN.1 hP hD hS 0 rfl rfl 16 (by decide) (hg _ kw_1224) (fun _ h9 => h9) rfl (by decide +kernel) rfl rfl (Nat.le_of_ble_eq_true rfl) dX11_compare_51 (fun H locs hP hD hS => ?_)
      have hP : va_P D vwCl (MW Y o a (upd (upd (upd (upd I 16 v35) 17 u5) 18 u6) 20 u7) J (vf_upd (vf_upd F 5 f8) 6 f9) G) H := hP
      have hD : va_D A (MW Y o a (upd (upd (upd (upd I 16 v35) 17 u5) 18 u6) 20 u7) J (vf_upd (vf_upd F 5 f8) 6 f9) G) := hD
      refine lv_iload_n hx hb dX11_compare_54 rfl (lv_at hl 1 rfl) ?_
      refine lv_bipush (v := 61) hx hb dX11_compare_55 (by decide) ?_
      refine lv_icmp_eq (tgt := 89) hx hb dX11_compare_57 (by decide) (fun c41 => ?_) (fun c41 => ?_)
      · have c41 := i_eq (Eq.refl u26.toInt) (show (61 : Int32).toInt = 61 by decide) c41; exfalso; omega
      have c41 := i_ne (Eq.refl u26.toInt) (show (61 : Int32).toInt = 61 by decide) c41
      refine lv_aload_n hx hb dX11_compare_60 rfl (lv_at hl 2 rfl) ?_
      refine va_get (D := D) (ci := 11) (v := .int v35) (C := RX11) (T := TX11) (N := 49) hx hb hg inGX11 hown hKN.1 hP 0 rfl rfl 16 (by decide) (hg _ kw_1224) (fun _ h9 => h9) rfl dX11_compare_61 ?_
      refine lv_aload_n hx hb dX11_compare_64 rfl (lv_at hl 2 rfl) ?_
      refine va_get (D := D) (ci := 11) (v := .int (I 3)) (C := RX11) (T := TX11) (N := 49) hx hb hg inGX11 hown hKN.1 hP 0 rfl rfl 3 (by decide) (hg _ kw_1211) (fun _ h9 => h9) rfl dX11_compare_65 ?_
      refine lv_icmp_ge (tgt := 89) hx hb dX11_compare_68 (by decide) (fun c46 => ?_) (fun c46 => ?_)
      · skip
        have c46 := i_le (Eq.refl (I 3).toInt) (Eq.refl v35.toInt) c46
        refine lv_iconst (v := 0) hx hb dX11_compare_89 (by decide) ?_
        refine lv_istore_n (lv' := [(3, .int 0), (2, .int u27), (1, .int u26), (0, .ref o)]) hx hb dX11_compare_90 rfl hl (by decide) rfl (fun ls hl => ?_)
        refine lv_iload_n hx hb dX11_compare_91 rfl (lv_at hl 0 rfl) ?_
        refine lv_if_eq (tgt := 105) hx hb dX11_compare_92 (by decide) (fun c48 => ?_) (fun c48 => ?_)
        rotate_left
        · exact absurd c48 (by decide)
        refine lv_aload_n hx hb dX11_compare_105 rfl (lv_at hl 3 rfl) ?_
        refine lv_iload_n hx hb dX11_compare_106 rfl (lv_at hl 1 rfl) ?_
        refine cga (rn_V (As := [.int u27]) (rest := []) (b := o) (m_makes l D Y Z H.size o a (upd (upd (upd (upd I 16 v35) 17 u5) 18 u6) 20 u7) J (vf_upd (vf_upd F 5 f8) 6 f9) G  u27 (show (0 ≤ u7.toInt ∧ u7.toInt ≤ 60) by omega) (show (0 ≤ u27.toInt ∧ u27.toInt ≤ 400) by omega) (show (0 ≤ u5.toInt ∧ u5.toInt ≤ 4000) by omega)) ⟨hx, hb, hml, hown, hg⟩ lk_X11_258 ⟨CP.blind, va_recv hKN.1 hP (ci := 11) (q0 := 0) rfl rfl, CP.at hP hKN hD⟩ ⟨⟨rfl, rfl⟩, ⟨Nat.le_of_ble_eq_true rfl, Nat.le_of_ble_eq_true rfl⟩, ⟨Nat.le_of_ble_eq_true rfl, Nat.le_of_ble_eq_true rfl⟩⟩ hl.1 rfl (Nat.le_of_ble_eq_true rfl) dX11_compare_107) hP hD hS hA (fun u49 H locs w50 hP hD hS => ?_)
        obtain ⟨u51, u52, u53⟩ := u49
        have w50 : (0 ≤ u53.toInt ∧ u53.toInt ≤ 60) ∧ (0 ≤ u52.toInt ∧ u52.toInt ≤ 4000) ∧ ((u51.toInt = 1 ∧ u53.toInt = u7.toInt + 1) ∨ (u51.toInt = 0 ∧ 1 ≤ u52.toInt ∧ u53.toInt = u7.toInt)) ∧ (0 ≤ u51.toInt ∧ u51.toInt ≤ 1) := w50
        obtain ⟨hw54, hw55, hw56, hw57⟩ := w50
        refine W.eq (g2 := F0 m 110 ls [.int u51]) rfl ?_
        have hP : va_P D vwCl (MW Y o a (upd (upd (upd (upd I 16 v35) 17 u52) 18 u6) 20 u53) J (vf_upd (vf_upd F 5 f8) 6 f9) G) H := hP
        have hD : va_D A (MW Y o a (upd (upd (upd (upd I 16 v35) 17 u52) 18 u6) 20 u53) J (vf_upd (vf_upd F 5 f8) 6 f9) G) := hD
        rcases (show u51.toInt = 1 ∨ u51.toInt = 0 by omega) with c58 | c58
        · obtain rfl : u51 = 1 := i_is c58 (by decide)
          refine W.eq (g2 := F0 m 110 ls [.int 1]) rfl ?_
          refine lv_if_ne (tgt := 115) hx hb dX11_compare_110 (by decide) (fun c59 => ?_) (fun c59 => ?_)
          rotate_left
          · exact absurd c59 (by decide)
          refine lv_iload_n hx hb dX11_compare_115 rfl (lv_at hl 2 rfl) ?_
          refine lv_bipush (v := 60) hx hb dX11_compare_116 (by decide) ?_
          refine lv_icmp_ne (tgt := 133) hx hb dX11_compare_118 (by decide) (fun c62 => ?_) (fun c62 => ?_)
          · have c62 := i_ne (Eq.refl u26.toInt) (show (60 : Int32).toInt = 60 by decide) c62; exfalso; omega
          have c62 := i_eq (Eq.refl u26.toInt) (show (60 : Int32).toInt = 60 by decide) c62
          refine lv_iload_n hx hb dX11_compare_121 rfl (lv_at hl 0 rfl) ?_
          refine lv_if_eq (tgt := 129) hx hb dX11_compare_122 (by decide) (fun c64 => ?_) (fun c64 => ?_)
          rotate_left
          · exact absurd c64 (by decide)
          refine lv_iconst (v := 0) hx hb dX11_compare_129 (by decide) ?_
          refine lv_goto (tgt := 152) hx hb dX11_compare_130 (by decide) ?_
          refine lv_istore (lv' := [(4, .int 0), (3, .int 0), (2, .int u27), (1, .int u26), (0, .ref o)]) hx hb dX11_compare_152 hl (by decide) rfl (fun ls hl => ?_)
          have t65 := PG_len t22
          have t66 := PG_dep t22
          refine lv_aload_n hx hb dX11_compare_154 rfl (lv_at hl 4 rfl) ?_
          refine cga (rn_V (As := []) (rest := []) (b := o) (m_sum l D Y Z H.size o a (upd (upd (upd (upd I 16 v35) 17 u52) 18 u6) 20 u53) J (vf_upd (vf_upd F 5 f8) 6 f9) G gs gb (gd + 1)  (show (0 ≤ v35.toInt ∧ v35.toInt ≤ 400) by omega) (show (0 ≤ (I 3).toInt ∧ (I 3).toInt ≤ 400) by omega) (show (v35.toInt ≤ (I 3).toInt) by omega) (show (0 ≤ u52.toInt ∧ u52.toInt ≤ 4000) by omega) (show (0 ≤ u53.toInt ∧ u53.toInt ≤ 60) by omega) (show (0 ≤ (I 19).toInt ∧ (I 19).toInt ≤ 17) by omega) (show ((f9 (I 19).toNatClampNeg).toInt ≤ v35.toInt) by omega) (PG_to t22 rfl (by omega) (by omega) (by omega))) ⟨hx, hb, hml, hown, hg⟩ lk_X11_271 ⟨CP.blind, va_recv hKN.1 hP (ci := 11) (q0 := 0) rfl rfl, CP.at hP hKN hD⟩ ⟨⟨rfl, rfl⟩, ⟨Nat.le_of_ble_eq_true rfl, Nat.le_of_ble_eq_true rfl⟩, ⟨Nat.le_of_ble_eq_true rfl, Nat.le_of_ble_eq_true rfl⟩⟩ hl.1 rfl (Nat.le_of_ble_eq_true rfl) dX11_compare_155) hP hD hS hA (fun u67 H locs w68 hP hD hS => ?_)
          obtain ⟨u69, u70, u71, u72, u73, f74, f75⟩ := u67
          have w68 : (0 ≤ u70.toInt ∧ u70.toInt ≤ 400) ∧ (v35.toInt ≤ u70.toInt) ∧ (u70.toInt ≤ (I 3).toInt) ∧ (0 ≤ u71.toInt ∧ u71.toInt ≤ 4000) ∧ (0 ≤ u73.toInt ∧ u73.toInt ≤ 60) ∧ (u53.toInt ≤ u73.toInt) ∧ (0 ≤ u69.toInt ∧ u69.toInt ≤ 1) ∧ (u69.toInt = 0 → 1 ≤ u71.toInt) ∧ (u69.toInt = 1 → (f75 (I 19).toNatClampNeg).toInt + v35.toInt ≤ (f9 (I 19).toNatClampNeg).toInt + u70.toInt) ∧ (u69.toInt = 1 → PSg (F 4) (F 8) (F 7) f74 f75 gs (I 19).toNatClampNeg gb ((gd + 1) + 1) (u73.toInt).toNat) ∧ TC (F 4) (F 8) (F 7) f74 := w68
          obtain ⟨hw76, hw77, hw78, hw79, hw80, hw81, hw82, hw83, hw84, hw85, hw86⟩ := w68
          refine W.eq (g2 := F0 m 158 ls [.int u69]) rfl ?_
          have hP : va_P D vwCl (MW Y o a (upd (upd (upd (upd I 16 u70) 17 u71) 18 u72) 20 u73) J (vf_upd (vf_upd F 5 f74) 6 f75) G) H := hP
          have hD : va_D A (MW Y o a (upd (upd (upd (upd I 16 u70) 17 u71) 18 u72) 20 u73) J (vf_upd (vf_upd F 5 f74) 6 f75) G) := hD
          rcases (show u69.toInt = 1 ∨ u69.toInt = 0 by omega) with c87 | c87
          · obtain rfl : u69 = 1 := i_is c87 (by decide)
            have t88 := hw85 (by decide)
            refine W.eq (g2 := F0 m 158 ls [.int 1]) rfl ?_
            refine lv_if_ne (tgt := 163) hx hb dX11_compare_158 (by decide) (fun c89 => ?_) (fun c89 => ?_)
            rotate_left
            · exact absurd c89 (by decide)
            refine lv_aload_n hx hb dX11_compare_163 rfl (lv_at hl 4 rfl) ?_
            refine lv_bipush (v := 6) hx hb dX11_compare_164 (by decide) ?_
            refine lv_iload hx hb dX11_compare_166 (lv_at hl 0 rfl) ?_
            refine lv_iadd hx hb dX11_compare_168 ?_
            refine lv_topi (fun z90 ez90 => ?_)
            obtain rfl : z90 = 6 := ez90.trans (by decide)
            refine lv_iconst (v := 0) hx hb dX11_compare_169 (by decide) ?_
            have zi6 : (6 : Int32).toInt = 6 := by decide
            have zi0 : (0 : Int32).toInt = 0 := by decide
            refine cga (rn_V (As := [.int 6, .int 0]) (rest := []) (b := o) (m_puts l D Y Z H.size o a (upd (upd (upd (upd I 16 u70) 17 u71) 18 u72) 20 u73) J (vf_upd (vf_upd F 5 f74) 6 f75) G  6 0 (show (0 ≤ (I 19).toInt ∧ (I 19).toInt ≤ 17) by omega) (show (0 ≤ (6 : Int32).toInt ∧ (6 : Int32).toInt ≤ 15) by omega) (show (0 ≤ (0 : Int32).toInt ∧ (0 : Int32).toInt ≤ 99999) by omega) (show (0 ≤ (f75 (I 19).toNatClampNeg).toInt ∧ (f75 (I 19).toNatClampNeg).toInt ≤ 399) by omega)) ⟨hx, hb, hml, hown, hg⟩ lk_X11_250 ⟨CP.blind, va_recv hKN.1 hP (ci := 11) (q0 := 0) rfl rfl, CP.at hP hKN hD⟩ ⟨⟨rfl, rfl⟩, ⟨Nat.le_of_ble_eq_true rfl, Nat.le_of_ble_eq_true rfl⟩, ⟨Nat.le_of_ble_eq_true rfl, Nat.le_of_ble_eq_true rfl⟩⟩ hl.1 rfl (Nat.le_of_ble_eq_true rfl) dX11_compare_170) hP hD hS hA (fun u91 H locs w92 hP hD hS => ?_)
            obtain ⟨f93, f94⟩ := u91
            have w92 : PU f74 f93 f75 f94 (I 19).toNatClampNeg (6 : Int32).toInt (0 : Int32).toInt := w92
            have hw95 := w92
            refine W.eq (g2 := F0 m 173 ls []) rfl ?_
            have hP : va_P D vwCl (MW Y o a (upd (upd (upd (upd I 16 u70) 17 u71) 18 u72) 20 u73) J (vf_upd (vf_upd F 5 f93) 6 f94) G) H := hP
            have hD : va_D A (MW Y o a (upd (upd (upd (upd I 16 u70) 17 u71) 18 u72) 20 u73) J (vf_upd (vf_upd F 5 f93) 6 f94) G) := hD
            have t96 := PG_pu (e := (((gd + 1) + 1) - 1)) (PG_to (md2 := u73.toInt.toNat) t88 rfl rfl (by omega) (by omega)) hw95 (fun x hx => stp_bin hx (by omega) (by omega) (by omega) (by omega) (by omega) (by omega) rfl) (by omega) (by omega)
            obtain ⟨t96p, t96l⟩ := t96
            refine lv_iconst (v := 1) hx hb dX11_compare_173 (by decide) ?_
            refine W.widen (k := 0) (n := 0) (Nat.le_of_ble_eq_true rfl) (Nat.le_of_ble_eq_true rfl) ?_
            exact W.zret (v := 1) hx hb hr (by decide) (fun t ht hW => ⟨⟨(1, u70, u71, u72, u73, f93, f94), rfl, ⟨(show (0 ≤ u70.toInt ∧ u70.toInt ≤ 400) by omega), (show ((I 16).toInt ≤ u70.toInt) by omega), (show (u70.toInt ≤ (I 3).toInt) by omega), (show (0 ≤ u71.toInt ∧ u71.toInt ≤ 4000) by omega), (show (0 ≤ u73.toInt ∧ u73.toInt ≤ 60) by omega), (show ((I 20).toInt ≤ u73.toInt) by omega), (show (0 ≤ (1 : Int32).toInt ∧ (1 : Int32).toInt ≤ 1) by omega), (show ((1 : Int32).toInt = 0 → 1 ≤ u71.toInt) by omega), (show ((1 : Int32).toInt = 1 → (f94 (I 19).toNatClampNeg).toInt + (I 16).toInt ≤ ((F 6) (I 19).toNatClampNeg).toInt + u70.toInt) by omega), (fun _ => (PG_to t96p rfl (by omega) (by omega) (by omega))), (PG_tc t96p)⟩, CB.mk ht hP hD⟩, hS.F ht⟩) hS.2.2 dX11_compare_174
          · obtain rfl : u69 = 0 := i_is c87 (by decide)
            have zi0 : (0 : Int32).toInt = 0 := by decide
            refine W.eq (g2 := F0 m 158 ls [.int 0]) rfl ?_
            refine lv_if_ne (tgt := 163) hx hb dX11_compare_158 (by decide) (fun c97 => ?_) (fun c97 => ?_)
            · exact absurd c97 (by decide)
            refine lv_iconst (v := 0) hx hb dX11_compare_161 (by decide) ?_
            refine W.widen (k := 0) (n := 0) (Nat.le_of_ble_eq_true rfl) (Nat.le_of_ble_eq_true rfl) ?_
            exact W.zret (v := 0) hx hb hr (by decide) (fun t ht hW => ⟨⟨(0, u70, u71, u72, u73, f74, f75), rfl, ⟨(show (0 ≤ u70.toInt ∧ u70.toInt ≤ 400) by omega), (show ((I 16).toInt ≤ u70.toInt) by omega), (show (u70.toInt ≤ (I 3).toInt) by omega), (show (0 ≤ u71.toInt ∧ u71.toInt ≤ 4000) by omega), (show (0 ≤ u73.toInt ∧ u73.toInt ≤ 60) by omega), (show ((I 20).toInt ≤ u73.toInt) by omega), (show (0 ≤ (0 : Int32).toInt ∧ (0 : Int32).toInt ≤ 1) by omega), (show ((0 : Int32).toInt = 0 → 1 ≤ u71.toInt) by omega), (show ((0 : Int32).toInt = 1 → (f75 (I 19).toNatClampNeg).toInt + (I 16).toInt ≤ ((F 6) (I 19).toNatClampNeg).toInt + u70.toInt) by omega), (fun h => absurd h (by decide)), (PG_tc hw85)⟩, CB.mk ht hP hD⟩, hS.F ht⟩) hS.2.2 dX11_compare_162
        · obtain rfl : u51 = 0 := i_is c58 (by decide)
          have zi0 : (0 : Int32).toInt = 0 := by decide
          refine W.eq (g2 := F0 m 110 ls [.int 0]) rfl ?_
          refine lv_if_ne (tgt := 115) hx hb dX11_compare_110 (by decide) (fun c98 => ?_) (fun c98 => ?_)
          · exact absurd c98 (by decide)
          refine lv_iconst (v := 0) hx hb dX11_compare_113 (by decide) ?_
          refine W.widen (k := 0) (n := 0) (Nat.le_of_ble_eq_true rfl) (Nat.le_of_ble_eq_true rfl) ?_
          exact W.zret (v := 0) hx hb hr (by decide) (fun t ht hW => ⟨⟨(0, v35, u52, u6, u53, f8, f9), rfl, ⟨(show (0 ≤ v35.toInt ∧ v35.toInt ≤ 400) by omega), (show ((I 16).toInt ≤ v35.toInt) by omega), (show (v35.toInt ≤ (I 3).toInt) by omega), (show (0 ≤ u52.toInt ∧ u52.toInt ≤ 4000) by omega), (show (0 ≤ u53.toInt ∧ u53.toInt ≤ 60) by omega), (show ((I 20).toInt ≤ u53.toInt) by omega), (show (0 ≤ (0 : Int32).toInt ∧ (0 : Int32).toInt ≤ 1) by omega), (show ((0 : Int32).toInt = 0 → 1 ≤ u52.toInt) by omega), (show ((0 : Int32).toInt = 1 → (f9 (I 19).toNatClampNeg).toInt + (I 16).toInt ≤ ((F 6) (I 19).toNatClampNeg).toInt + v35.toInt) by omega), (fun h => absurd h (by decide)), (PG_tc t22)⟩, CB.mk ht hP hD⟩, hS.F ht⟩) hS.2.2 dX11_compare_114
      · skip
        have c46 := i_nle (Eq.refl (I 3).toInt) (Eq.refl v35.toInt) c46
        refine lv_aload_n hx hb dX11_compare_71 rfl (lv_at hl 2 rfl) ?_
        refine va_get (D := D) (ci := 11) (v := .ref (a 2)) (C := RX11) (T := TX11) (N := 49) hx hb hg inGX11 hown hKN.1 hP 0 rfl rfl 2 (by decide) (hg _ kw_1210) (fun _ h9 => h9) rfl dX11_compare_72 ?_
        refine lv_aload_n hx hb dX11_compare_75 rfl (lv_at hl 2 rfl) ?_
        refine va_get (D := D) (ci := 11) (v := .int v35) (C := RX11) (T := TX11) (N := 49) hx hb hg inGX11 hown hKN.1 hP 0 rfl rfl 16 (by decide) (hg _ kw_1224) (fun _ h9 => h9) rfl dX11_compare_76 ?_
        refine va_bald hx hb hKN.1 hP 3 2 rfl rfl (vp_in_iff.mpr ⟨by omega, by omega⟩) dX11_compare_79 ?_
        refine lv_topi (fun v99 ev99 => ?_)
        have ev99 : v99 = (F 2) v35.toNatClampNeg := ev99
        have qv99 := congrArg Int32.toInt ev99
        refine lv_bipush (v := 61) hx hb dX11_compare_80 (by decide) ?_
        have j102 := rgI v99
        refine lv_icmp_ne (tgt := 89) hx hb dX11_compare_82 (by decide) (fun c103 => ?_) (fun c103 => ?_)
        · skip
          have c103 := i_ne (Eq.refl v99.toInt) (show (61 : Int32).toInt = 61 by decide) c103
          refine lv_iconst (v := 0) hx hb dX11_compare_89 (by decide) ?_
          refine lv_istore_n (lv' := [(3, .int 0), (2, .int u27), (1, .int u26), (0, .ref o)]) hx hb dX11_compare_90 rfl hl (by decide) rfl (fun ls hl => ?_)
          refine lv_iload_n hx hb dX11_compare_91 rfl (lv_at hl 0 rfl) ?_
          refine lv_if_eq (tgt := 105) hx hb dX11_compare_92 (by decide) (fun c105 => ?_) (fun c105 => ?_)
          rotate_left
          · exact absurd c105 (by decide)
          refine lv_aload_n hx hb dX11_compare_105 rfl (lv_at hl 3 rfl) ?_
          refine lv_iload_n hx hb dX11_compare_106 rfl (lv_at hl 1 rfl) ?_
          refine cga (rn_V (As := [.int u27]) (rest := []) (b := o) (m_makes l D Y Z H.size o a (upd (upd (upd (upd I 16 v35) 17 u5) 18 u6) 20 u7) J (vf_upd (vf_upd F 5 f8) 6 f9) G  u27 (show (0 ≤ u7.toInt ∧ u7.toInt ≤ 60) by omega) (show (0 ≤ u27.toInt ∧ u27.toInt ≤ 400) by omega) (show (0 ≤ u5.toInt ∧ u5.toInt ≤ 4000) by omega)) ⟨hx, hb, hml, hown, hg⟩ lk_X11_258 ⟨CP.blind, va_recv hKN.1 hP (ci := 11) (q0 := 0) rfl rfl, CP.at hP hKN hD⟩ ⟨⟨rfl, rfl⟩, ⟨Nat.le_of_ble_eq_true rfl, Nat.le_of_ble_eq_true rfl⟩, ⟨Nat.le_of_ble_eq_true rfl, Nat.le_of_ble_eq_true rfl⟩⟩ hl.1 rfl (Nat.le_of_ble_eq_true rfl) dX11_compare_107) hP hD hS hA (fun u106 H locs w107 hP hD hS => ?_)
          obtain ⟨u108, u109, u110⟩ := u106
          have w107 : (0 ≤ u110.toInt ∧ u110.toInt ≤ 60) ∧ (0 ≤ u109.toInt ∧ u109.toInt ≤ 4000) ∧ ((u108.toInt = 1 ∧ u110.toInt = u7.toInt + 1) ∨ (u108.toInt = 0 ∧ 1 ≤ u109.toInt ∧ u110.toInt = u7.toInt)) ∧ (0 ≤ u108.toInt ∧ u108.toInt ≤ 1) := w107
          obtain ⟨hw111, hw112, hw113, hw114⟩ := w107
          refine W.eq (g2 := F0 m 110 ls [.int u108]) rfl ?_
          have hP : va_P D vwCl (MW Y o a (upd (upd (upd (upd I 16 v35) 17 u109) 18 u6) 20 u110) J (vf_upd (vf_upd F 5 f8) 6 f9) G) H := hP
          have hD : va_D A (MW Y o a (upd (upd (upd (upd I 16 v35) 17 u109) 18 u6) 20 u110) J (vf_upd (vf_upd F 5 f8) 6 f9) G) := hD
          rcases (show u108.toInt = 1 ∨ u108.toInt = 0 by omega) with c115 | c115
          · obtain rfl : u108 = 1 := i_is c115 (by decide)
            refine W.eq (g2 := F0 m 110 ls [.int 1]) rfl ?_
            refine lv_if_ne (tgt := 115) hx hb dX11_compare_110 (by decide) (fun c116 => ?_) (fun c116 => ?_)
            rotate_left
            · exact absurd c116 (by decide)
            refine lv_iload_n hx hb dX11_compare_115 rfl (lv_at hl 2 rfl) ?_
            refine lv_bipush (v := 60) hx hb dX11_compare_116 (by decide) ?_
            refine lv_icmp_ne (tgt := 133) hx hb dX11_compare_118 (by decide) (fun c119 => ?_) (fun c119 => ?_)
            · have c119 := i_ne (Eq.refl u26.toInt) (show (60 : Int32).toInt = 60 by decide) c119; exfalso; omega
            have c119 := i_eq (Eq.refl u26.toInt) (show (60 : Int32).toInt = 60 by decide) c119
            refine lv_iload_n hx hb dX11_compare_121 rfl (lv_at hl 0 rfl) ?_
            refine lv_if_eq (tgt := 129) hx hb dX11_compare_122 (by decide) (fun c121 => ?_) (fun c121 => ?_)
            rotate_left
            · exact absurd c121 (by decide)
            refine lv_iconst (v := 0) hx hb dX11_compare_129 (by decide) ?_
            refine lv_goto (tgt := 152) hx hb dX11_compare_130 (by decide) ?_
            refine lv_istore (lv' := [(4, .int 0), (3, .int 0), (2, .int u27), (1, .int u26), (0, .ref o)]) hx hb dX11_compare_152 hl (by decide) rfl (fun ls hl => ?_)
            have t122 := PG_len t22
            have t123 := PG_dep t22
            refine lv_aload_n hx hb dX11_compare_154 rfl (lv_at hl 4 rfl) ?_
            refine cga (rn_V (As := []) (rest := []) (b := o) (m_sum l D Y Z H.size o a (upd (upd (upd (upd I 16 v35) 17 u109) 18 u6) 20 u110) J (vf_upd (vf_upd F 5 f8) 6 f9) G gs gb (gd + 1)  (show (0 ≤ v35.toInt ∧ v35.toInt ≤ 400) by omega) (show (0 ≤ (I 3).toInt ∧ (I 3).toInt ≤ 400) by omega) (show (v35.toInt ≤ (I 3).toInt) by omega) (show (0 ≤ u109.toInt ∧ u109.toInt ≤ 4000) by omega) (show (0 ≤ u110.toInt ∧ u110.toInt ≤ 60) by omega) (show (0 ≤ (I 19).toInt ∧ (I 19).toInt ≤ 17) by omega) (show ((f9 (I 19).toNatClampNeg).toInt ≤ v35.toInt) by omega) (PG_to t22 rfl (by omega) (by omega) (by omega))) ⟨hx, hb, hml, hown, hg⟩ lk_X11_271 ⟨CP.blind, va_recv hKN.1 hP (ci := 11) (q0 := 0) rfl rfl, CP.at hP hKN hD⟩ ⟨⟨rfl, rfl⟩, ⟨Nat.le_of_ble_eq_true rfl, Nat.le_of_ble_eq_true rfl⟩, ⟨Nat.le_of_ble_eq_true rfl, Nat.le_of_ble_eq_true rfl⟩⟩ hl.1 rfl (Nat.le_of_ble_eq_true rfl) dX11_compare_155) hP hD hS hA (fun u124 H locs w125 hP hD hS => ?_)
            obtain ⟨u126, u127, u128, u129, u130, f131, f132⟩ := u124
            have w125 : (0 ≤ u127.toInt ∧ u127.toInt ≤ 400) ∧ (v35.toInt ≤ u127.toInt) ∧ (u127.toInt ≤ (I 3).toInt) ∧ (0 ≤ u128.toInt ∧ u128.toInt ≤ 4000) ∧ (0 ≤ u130.toInt ∧ u130.toInt ≤ 60) ∧ (u110.toInt ≤ u130.toInt) ∧ (0 ≤ u126.toInt ∧ u126.toInt ≤ 1) ∧ (u126.toInt = 0 → 1 ≤ u128.toInt) ∧ (u126.toInt = 1 → (f132 (I 19).toNatClampNeg).toInt + v35.toInt ≤ (f9 (I 19).toNatClampNeg).toInt + u127.toInt) ∧ (u126.toInt = 1 → PSg (F 4) (F 8) (F 7) f131 f132 gs (I 19).toNatClampNeg gb ((gd + 1) + 1) (u130.toInt).toNat) ∧ TC (F 4) (F 8) (F 7) f131 := w125
            obtain ⟨hw133, hw134, hw135, hw136, hw137, hw138, hw139, hw140, hw141, hw142, hw143⟩ := w125
            refine W.eq (g2 := F0 m 158 ls [.int u126]) rfl ?_
            have hP : va_P D vwCl (MW Y o a (upd (upd (upd (upd I 16 u127) 17 u128) 18 u129) 20 u130) J (vf_upd (vf_upd F 5 f131) 6 f132) G) H := hP
            have hD : va_D A (MW Y o a (upd (upd (upd (upd I 16 u127) 17 u128) 18 u129) 20 u130) J (vf_upd (vf_upd F 5 f131) 6 f132) G) := hD
            rcases (show u126.toInt = 1 ∨ u126.toInt = 0 by omega) with c144 | c144
            · obtain rfl : u126 = 1 := i_is c144 (by decide)
              have t145 := hw142 (by decide)
              refine W.eq (g2 := F0 m 158 ls [.int 1]) rfl ?_
              refine lv_if_ne (tgt := 163) hx hb dX11_compare_158 (by decide) (fun c146 => ?_) (fun c146 => ?_)
              rotate_left
              · exact absurd c146 (by decide)
              refine lv_aload_n hx hb dX11_compare_163 rfl (lv_at hl 4 rfl) ?_
              refine lv_bipush (v := 6) hx hb dX11_compare_164 (by decide) ?_
              refine lv_iload hx hb dX11_compare_166 (lv_at hl 0 rfl) ?_
              refine lv_iadd hx hb dX11_compare_168 ?_
              refine lv_topi (fun z147 ez147 => ?_)
              obtain rfl : z147 = 6 := ez147.trans (by decide)
              refine lv_iconst (v := 0) hx hb dX11_compare_169 (by decide) ?_
              have zi6 : (6 : Int32).toInt = 6 := by decide
              have zi0 : (0 : Int32).toInt = 0 := by decide
              refine cga (rn_V (As := [.int 6, .int 0]) (rest := []) (b := o) (m_puts l D Y Z H.size o a (upd (upd (upd (upd I 16 u127) 17 u128) 18 u129) 20 u130) J (vf_upd (vf_upd F 5 f131) 6 f132) G  6 0 (show (0 ≤ (I 19).toInt ∧ (I 19).toInt ≤ 17) by omega) (show (0 ≤ (6 : Int32).toInt ∧ (6 : Int32).toInt ≤ 15) by omega) (show (0 ≤ (0 : Int32).toInt ∧ (0 : Int32).toInt ≤ 99999) by omega) (show (0 ≤ (f132 (I 19).toNatClampNeg).toInt ∧ (f132 (I 19).toNatClampNeg).toInt ≤ 399) by omega)) ⟨hx, hb, hml, hown, hg⟩ lk_X11_250 ⟨CP.blind, va_recv hKN.1 hP (ci := 11) (q0 := 0) rfl rfl, CP.at hP hKN hD⟩ ⟨⟨rfl, rfl⟩, ⟨Nat.le_of_ble_eq_true rfl, Nat.le_of_ble_eq_true rfl⟩, ⟨Nat.le_of_ble_eq_true rfl, Nat.le_of_ble_eq_true rfl⟩⟩ hl.1 rfl (Nat.le_of_ble_eq_true rfl) dX11_compare_170) hP hD hS hA (fun u148 H locs w149 hP hD hS => ?_)
              obtain ⟨f150, f151⟩ := u148
              have w149 : PU f131 f150 f132 f151 (I 19).toNatClampNeg (6 : Int32).toInt (0 : Int32).toInt := w149
              have hw152 := w149
              refine W.eq (g2 := F0 m 173 ls []) rfl ?_
              have hP : va_P D vwCl (MW Y o a (upd (upd (upd (upd I 16 u127) 17 u128) 18 u129) 20 u130) J (vf_upd (vf_upd F 5 f150) 6 f151) G) H := hP
              have hD : va_D A (MW Y o a (upd (upd (upd (upd I 16 u127) 17 u128) 18 u129) 20 u130) J (vf_upd (vf_upd F 5 f150) 6 f151) G) := hD
              have t153 := PG_pu (e := (((gd + 1) + 1) - 1)) (PG_to (md2 := u130.toInt.toNat) t145 rfl rfl (by omega) (by omega)) hw152 (fun x hx => stp_bin hx (by omega) (by omega) (by omega) (by omega) (by omega) (by omega) rfl) (by omega) (by omega)
              obtain ⟨t153p, t153l⟩ := t153
              refine lv_iconst (v := 1) hx hb dX11_compare_173 (by decide) ?_
              refine W.widen (k := 0) (n := 0) (Nat.le_of_ble_eq_true rfl) (Nat.le_of_ble_eq_true rfl) ?_
              exact W.zret (v := 1) hx hb hr (by decide) (fun t ht hW => ⟨⟨(1, u127, u128, u129, u130, f150, f151), rfl, ⟨(show (0 ≤ u127.toInt ∧ u127.toInt ≤ 400) by omega), (show ((I 16).toInt ≤ u127.toInt) by omega), (show (u127.toInt ≤ (I 3).toInt) by omega), (show (0 ≤ u128.toInt ∧ u128.toInt ≤ 4000) by omega), (show (0 ≤ u130.toInt ∧ u130.toInt ≤ 60) by omega), (show ((I 20).toInt ≤ u130.toInt) by omega), (show (0 ≤ (1 : Int32).toInt ∧ (1 : Int32).toInt ≤ 1) by omega), (show ((1 : Int32).toInt = 0 → 1 ≤ u128.toInt) by omega), (show ((1 : Int32).toInt = 1 → (f151 (I 19).toNatClampNeg).toInt + (I 16).toInt ≤ ((F 6) (I 19).toNatClampNeg).toInt + u127.toInt) by omega), (fun _ => (PG_to t153p rfl (by omega) (by omega) (by omega))), (PG_tc t153p)⟩, CB.mk ht hP hD⟩, hS.F ht⟩) hS.2.2 dX11_compare_174
            · obtain rfl : u126 = 0 := i_is c144 (by decide)
              have zi0 : (0 : Int32).toInt = 0 := by decide
              refine W.eq (g2 := F0 m 158 ls [.int 0]) rfl ?_
              refine lv_if_ne (tgt := 163) hx hb dX11_compare_158 (by decide) (fun c154 => ?_) (fun c154 => ?_)
              · exact absurd c154 (by decide)
              refine lv_iconst (v := 0) hx hb dX11_compare_161 (by decide) ?_
              refine W.widen (k := 0) (n := 0) (Nat.le_of_ble_eq_true rfl) (Nat.le_of_ble_eq_true rfl) ?_
              exact W.zret (v := 0) hx hb hr (by decide) (fun t ht hW => ⟨⟨(0, u127, u128, u129, u130, f131, f132), rfl, ⟨(show (0 ≤ u127.toInt ∧ u127.toInt ≤ 400) by omega), (show ((I 16).toInt ≤ u127.toInt) by omega), (show (u127.toInt ≤ (I 3).toInt) by omega), (show (0 ≤ u128.toInt ∧ u128.toInt ≤ 4000) by omega), (show (0 ≤ u130.toInt ∧ u130.toInt ≤ 60) by omega), (show ((I 20).toInt ≤ u130.toInt) by omega), (show (0 ≤ (0 : Int32).toInt ∧ (0 : Int32).toInt ≤ 1) by omega), (show ((0 : Int32).toInt = 0 → 1 ≤ u128.toInt) by omega), (show ((0 : Int32).toInt = 1 → (f132 (I 19).toNatClampNeg).toInt + (I 16).toInt ≤ ((F 6) (I 19).toNatClampNeg).toInt + u127.toInt) by omega), (fun h => absurd h (by decide)), (PG_tc hw142)⟩, CB.mk ht hP hD⟩, hS.F ht⟩) hS.2.2 dX11_compare_162
          · obtain rfl : u108 = 0 := i_is c115 (by decide)
            have zi0 : (0 : Int32).toInt = 0 := by decide
            refine W.eq (g2 := F0 m 110 ls [.int 0]) rfl ?_
            refine lv_if_ne (tgt := 115) hx hb dX11_compare_110 (by decide) (fun c155 => ?_) (fun c155 => ?_)
            · exact absurd c155 (by decide)
            refine lv_iconst (v := 0) hx hb dX11_compare_113 (by decide) ?_
            refine W.widen (k := 0) (n := 0) (Nat.le_of_ble_eq_true rfl) (Nat.le_of_ble_eq_true rfl) ?_
            exact W.zret (v := 0) hx hb hr (by decide) (fun t ht hW => ⟨⟨(0, v35, u109, u6, u110, f8, f9), rfl, ⟨(show (0 ≤ v35.toInt ∧ v35.toInt ≤ 400) by omega), (show ((I 16).toInt ≤ v35.toInt) by omega), (show (v35.toInt ≤ (I 3).toInt) by omega), (show (0 ≤ u109.toInt ∧ u109.toInt ≤ 4000) by omega), (show (0 ≤ u110.toInt ∧ u110.toInt ≤ 60) by omega), (show ((I 20).toInt ≤ u110.toInt) by omega), (show (0 ≤ (0 : Int32).toInt ∧ (0 : Int32).toInt ≤ 1) by omega), (show ((0 : Int32).toInt = 0 → 1 ≤ u109.toInt) by omega), (show ((0 : Int32).toInt = 1 → (f9 (I 19).toNatClampNeg).toInt + (I 16).toInt ≤ ((F 6) (I 19).toNatClampNeg).toInt + v35.toInt) by omega), (fun h => absurd h (by decide)), (PG_tc t22)⟩, CB.mk ht hP hD⟩, hS.F ht⟩) hS.2.2 dX11_compare_114
        · skip
          have c103 := i_eq (Eq.refl v99.toInt) (show (61 : Int32).toInt = 61 by decide) c103
          refine lv_iconst (v := 1) hx hb dX11_compare_85 (by decide) ?_
          refine lv_goto (tgt := 90) hx hb dX11_compare_86 (by decide) ?_
          refine lv_istore_n (lv' := [(3, .int 1), (2, .int u27), (1, .int u26), (0, .ref o)]) hx hb dX11_compare_90 rfl hl (by decide) rfl (fun ls hl => ?_)
          refine lv_iload_n hx hb dX11_compare_91 rfl (lv_at hl 0 rfl) ?_
          refine lv_if_eq (tgt := 105) hx hb dX11_compare_92 (by decide) (fun c158 => ?_) (fun c158 => ?_)
          · exact absurd c158 (by decide)
          refine lv_aload_n hx hb dX11_compare_95 rfl (lv_at hl 3 rfl) ?_
          refine lv_dup hx hb dX11_compare_96 rfl ?_
          refine va_get (D := D) (ci := 11) (v := .int v35) (C := RX11) (T := TX11) (N := 49) hx hb hg inGX11 hown hKN.1 hP 0 rfl rfl 16 (by decide) (hg _ kw_1224) (fun _ h9 => h9) rfl dX11_compare_97 ?_
          refine lv_iconst (v := 1) hx hb dX11_compare_100 (by decide) ?_
          refine lv_iadd hx hb dX11_compare_101 ?_
          refine lv_topi (fun v159 ev159 => ?_)
          have hv159 := i_add (Eq.refl v35.toInt) (show (1 : Int32).toInt = 1 by decide) ev159 (by omega) (by omega)
          refine va_put (D := D) (ci := 11) (v := .int v159) (ty := .int) (C := RX11) (T := TX11) (N := 49) hx hb hg inGX11 tyX11 tyX11_ok nmX11 hown hKN.1 hP hD hS 0 rfl rfl 16 (by decide) (hg _ kw_1224) (fun _ h9 => h9) rfl (by decide +kernel) rfl rfl (Nat.le_of_ble_eq_true rfl) dX11_compare_102 (fun H locs hP hD hS => ?_)
          have hP : va_P D vwCl (MW Y o a (upd (upd (upd (upd I 16 v159) 17 u5) 18 u6) 20 u7) J (vf_upd (vf_upd F 5 f8) 6 f9) G) H := hP
          have hD : va_D A (MW Y o a (upd (upd (upd (upd I 16 v159) 17 u5) 18 u6) 20 u7) J (vf_upd (vf_upd F 5 f8) 6 f9) G) := hD
          refine lv_aload_n hx hb dX11_compare_105 rfl (lv_at hl 3 rfl) ?_
          refine lv_iload_n hx hb dX11_compare_106 rfl (lv_at hl 1 rfl) ?_
          refine cga (rn_V (As := [.int u27]) (rest := []) (b := o) (m_makes l D Y Z H.size o a (upd (upd (upd (upd I 16 v159) 17 u5) 18 u6) 20 u7) J (vf_upd (vf_upd F 5 f8) 6 f9) G  u27 (show (0 ≤ u7.toInt ∧ u7.toInt ≤ 60) by omega) (show (0 ≤ u27.toInt ∧ u27.toInt ≤ 400) by omega) (show (0 ≤ u5.toInt ∧ u5.toInt ≤ 4000) by omega)) ⟨hx, hb, hml, hown, hg⟩ lk_X11_258 ⟨CP.blind, va_recv hKN.1 hP (ci := 11) (q0 := 0) rfl rfl, CP.at hP hKN hD⟩ ⟨⟨rfl, rfl⟩, ⟨Nat.le_of_ble_eq_true rfl, Nat.le_of_ble_eq_true rfl⟩, ⟨Nat.le_of_ble_eq_true rfl, Nat.le_of_ble_eq_true rfl⟩⟩ hl.1 rfl (Nat.le_of_ble_eq_true rfl) dX11_compare_107) hP hD hS hA (fun u160 H locs w161 hP hD hS => ?_)
          obtain ⟨u162, u163, u164⟩ := u160
          have w161 : (0 ≤ u164.toInt ∧ u164.toInt ≤ 60) ∧ (0 ≤ u163.toInt ∧ u163.toInt ≤ 4000) ∧ ((u162.toInt = 1 ∧ u164.toInt = u7.toInt + 1) ∨ (u162.toInt = 0 ∧ 1 ≤ u163.toInt ∧ u164.toInt = u7.toInt)) ∧ (0 ≤ u162.toInt ∧ u162.toInt ≤ 1) := w161
          obtain ⟨hw165, hw166, hw167, hw168⟩ := w161
          refine W.eq (g2 := F0 m 110 ls [.int u162]) rfl ?_
          have hP : va_P D vwCl (MW Y o a (upd (upd (upd (upd I 16 v159) 17 u163) 18 u6) 20 u164) J (vf_upd (vf_upd F 5 f8) 6 f9) G) H := hP
          have hD : va_D A (MW Y o a (upd (upd (upd (upd I 16 v159) 17 u163) 18 u6) 20 u164) J (vf_upd (vf_upd F 5 f8) 6 f9) G) := hD
          rcases (show u162.toInt = 1 ∨ u162.toInt = 0 by omega) with c169 | c169
          · obtain rfl : u162 = 1 := i_is c169 (by decide)
            refine W.eq (g2 := F0 m 110 ls [.int 1]) rfl ?_
            refine lv_if_ne (tgt := 115) hx hb dX11_compare_110 (by decide) (fun c170 => ?_) (fun c170 => ?_)
            rotate_left
            · exact absurd c170 (by decide)
            refine lv_iload_n hx hb dX11_compare_115 rfl (lv_at hl 2 rfl) ?_
            refine lv_bipush (v := 60) hx hb dX11_compare_116 (by decide) ?_
            refine lv_icmp_ne (tgt := 133) hx hb dX11_compare_118 (by decide) (fun c173 => ?_) (fun c173 => ?_)
            · have c173 := i_ne (Eq.refl u26.toInt) (show (60 : Int32).toInt = 60 by decide) c173; exfalso; omega
            have c173 := i_eq (Eq.refl u26.toInt) (show (60 : Int32).toInt = 60 by decide) c173
            refine lv_iload_n hx hb dX11_compare_121 rfl (lv_at hl 0 rfl) ?_
            refine lv_if_eq (tgt := 129) hx hb dX11_compare_122 (by decide) (fun c175 => ?_) (fun c175 => ?_)
            · exact absurd c175 (by decide)
            refine lv_iconst (v := 1) hx hb dX11_compare_125 (by decide) ?_
            refine lv_goto (tgt := 152) hx hb dX11_compare_126 (by decide) ?_
            refine lv_istore (lv' := [(4, .int 1), (3, .int 1), (2, .int u27), (1, .int u26), (0, .ref o)]) hx hb dX11_compare_152 hl (by decide) rfl (fun ls hl => ?_)
            have t176 := PG_len t22
            have t177 := PG_dep t22
            refine lv_aload_n hx hb dX11_compare_154 rfl (lv_at hl 4 rfl) ?_
            refine cga (rn_V (As := []) (rest := []) (b := o) (m_sum l D Y Z H.size o a (upd (upd (upd (upd I 16 v159) 17 u163) 18 u6) 20 u164) J (vf_upd (vf_upd F 5 f8) 6 f9) G gs gb (gd + 1)  (show (0 ≤ v159.toInt ∧ v159.toInt ≤ 400) by omega) (show (0 ≤ (I 3).toInt ∧ (I 3).toInt ≤ 400) by omega) (show (v159.toInt ≤ (I 3).toInt) by omega) (show (0 ≤ u163.toInt ∧ u163.toInt ≤ 4000) by omega) (show (0 ≤ u164.toInt ∧ u164.toInt ≤ 60) by omega) (show (0 ≤ (I 19).toInt ∧ (I 19).toInt ≤ 17) by omega) (show ((f9 (I 19).toNatClampNeg).toInt ≤ v159.toInt) by omega) (PG_to t22 rfl (by omega) (by omega) (by omega))) ⟨hx, hb, hml, hown, hg⟩ lk_X11_271 ⟨CP.blind, va_recv hKN.1 hP (ci := 11) (q0 := 0) rfl rfl, CP.at hP hKN hD⟩ ⟨⟨rfl, rfl⟩, ⟨Nat.le_of_ble_eq_true rfl, Nat.le_of_ble_eq_true rfl⟩, ⟨Nat.le_of_ble_eq_true rfl, Nat.le_of_ble_eq_true rfl⟩⟩ hl.1 rfl (Nat.le_of_ble_eq_true rfl) dX11_compare_155) hP hD hS hA (fun u178 H locs w179 hP hD hS => ?_)
            obtain ⟨u180, u181, u182, u183, u184, f185, f186⟩ := u178
            have w179 : (0 ≤ u181.toInt ∧ u181.toInt ≤ 400) ∧ (v159.toInt ≤ u181.toInt) ∧ (u181.toInt ≤ (I 3).toInt) ∧ (0 ≤ u182.toInt ∧ u182.toInt ≤ 4000) ∧ (0 ≤ u184.toInt ∧ u184.toInt ≤ 60) ∧ (u164.toInt ≤ u184.toInt) ∧ (0 ≤ u180.toInt ∧ u180.toInt ≤ 1) ∧ (u180.toInt = 0 → 1 ≤ u182.toInt) ∧ (u180.toInt = 1 → (f186 (I 19).toNatClampNeg).toInt + v159.toInt ≤ (f9 (I 19).toNatClampNeg).toInt + u181.toInt) ∧ (u180.toInt = 1 → PSg (F 4) (F 8) (F 7) f185 f186 gs (I 19).toNatClampNeg gb ((gd + 1) + 1) (u184.toInt).toNat) ∧ TC (F 4) (F 8) (F 7) f185 := w179
            obtain ⟨hw187, hw188, hw189, hw190, hw191, hw192, hw193, hw194, hw195, hw196, hw197⟩ := w179
            refine W.eq (g2 := F0 m 158 ls [.int u180]) rfl ?_
            have hP : va_P D vwCl (MW Y o a (upd (upd (upd (upd I 16 u181) 17 u182) 18 u183) 20 u184) J (vf_upd (vf_upd F 5 f185) 6 f186) G) H := hP
            have hD : va_D A (MW Y o a (upd (upd (upd (upd I 16 u181) 17 u182) 18 u183) 20 u184) J (vf_upd (vf_upd F 5 f185) 6 f186) G) := hD
            rcases (show u180.toInt = 1 ∨ u180.toInt = 0 by omega) with c198 | c198
            · obtain rfl : u180 = 1 := i_is c198 (by decide)
              have t199 := hw196 (by decide)
              refine W.eq (g2 := F0 m 158 ls [.int 1]) rfl ?_
              refine lv_if_ne (tgt := 163) hx hb dX11_compare_158 (by decide) (fun c200 => ?_) (fun c200 => ?_)
              rotate_left
              · exact absurd c200 (by decide)
              refine lv_aload_n hx hb dX11_compare_163 rfl (lv_at hl 4 rfl) ?_
              refine lv_bipush (v := 6) hx hb dX11_compare_164 (by decide) ?_
              refine lv_iload hx hb dX11_compare_166 (lv_at hl 0 rfl) ?_
              refine lv_iadd hx hb dX11_compare_168 ?_
              refine lv_topi (fun z201 ez201 => ?_)
              obtain rfl : z201 = 7 := ez201.trans (by decide)
              refine lv_iconst (v := 0) hx hb dX11_compare_169 (by decide) ?_
              have zi7 : (7 : Int32).toInt = 7 := by decide
              have zi0 : (0 : Int32).toInt = 0 := by decide
              refine cga (rn_V (As := [.int 7, .int 0]) (rest := []) (b := o) (m_puts l D Y Z H.size o a (upd (upd (upd (upd I 16 u181) 17 u182) 18 u183) 20 u184) J (vf_upd (vf_upd F 5 f185) 6 f186) G  7 0 (show (0 ≤ (I 19).toInt ∧ (I 19).toInt ≤ 17) by omega) (show (0 ≤ (7 : Int32).toInt ∧ (7 : Int32).toInt ≤ 15) by omega) (show (0 ≤ (0 : Int32).toInt ∧ (0 : Int32).toInt ≤ 99999) by omega) (show (0 ≤ (f186 (I 19).toNatClampNeg).toInt ∧ (f186 (I 19).toNatClampNeg).toInt ≤ 399) by omega)) ⟨hx, hb, hml, hown, hg⟩ lk_X11_250 ⟨CP.blind, va_recv hKN.1 hP (ci := 11) (q0 := 0) rfl rfl, CP.at hP hKN hD⟩ ⟨⟨rfl, rfl⟩, ⟨Nat.le_of_ble_eq_true rfl, Nat.le_of_ble_eq_true rfl⟩, ⟨Nat.le_of_ble_eq_true rfl, Nat.le_of_ble_eq_true rfl⟩⟩ hl.1 rfl (Nat.le_of_ble_eq_true rfl) dX11_compare_170) hP hD hS hA (fun u202 H locs w203 hP hD hS => ?_)
              obtain ⟨f204, f205⟩ := u202
              have w203 : PU f185 f204 f186 f205 (I 19).toNatClampNeg (7 : Int32).toInt (0 : Int32).toInt := w203
              have hw206 := w203
              refine W.eq (g2 := F0 m 173 ls []) rfl ?_
              have hP : va_P D vwCl (MW Y o a (upd (upd (upd (upd I 16 u181) 17 u182) 18 u183) 20 u184) J (vf_upd (vf_upd F 5 f204) 6 f205) G) H := hP
              have hD : va_D A (MW Y o a (upd (upd (upd (upd I 16 u181) 17 u182) 18 u183) 20 u184) J (vf_upd (vf_upd F 5 f204) 6 f205) G) := hD
              have t207 := PG_pu (e := (((gd + 1) + 1) - 1)) (PG_to (md2 := u184.toInt.toNat) t199 rfl rfl (by omega) (by omega)) hw206 (fun x hx => stp_bin hx (by omega) (by omega) (by omega) (by omega) (by omega) (by omega) rfl) (by omega) (by omega)
              obtain ⟨t207p, t207l⟩ := t207
              refine lv_iconst (v := 1) hx hb dX11_compare_173 (by decide) ?_
              refine W.widen (k := 0) (n := 0) (Nat.le_of_ble_eq_true rfl) (Nat.le_of_ble_eq_true rfl) ?_
              exact W.zret (v := 1) hx hb hr (by decide) (fun t ht hW => ⟨⟨(1, u181, u182, u183, u184, f204, f205), rfl, ⟨(show (0 ≤ u181.toInt ∧ u181.toInt ≤ 400) by omega), (show ((I 16).toInt ≤ u181.toInt) by omega), (show (u181.toInt ≤ (I 3).toInt) by omega), (show (0 ≤ u182.toInt ∧ u182.toInt ≤ 4000) by omega), (show (0 ≤ u184.toInt ∧ u184.toInt ≤ 60) by omega), (show ((I 20).toInt ≤ u184.toInt) by omega), (show (0 ≤ (1 : Int32).toInt ∧ (1 : Int32).toInt ≤ 1) by omega), (show ((1 : Int32).toInt = 0 → 1 ≤ u182.toInt) by omega), (show ((1 : Int32).toInt = 1 → (f205 (I 19).toNatClampNeg).toInt + (I 16).toInt ≤ ((F 6) (I 19).toNatClampNeg).toInt + u181.toInt) by omega), (fun _ => (PG_to t207p rfl (by omega) (by omega) (by omega))), (PG_tc t207p)⟩, CB.mk ht hP hD⟩, hS.F ht⟩) hS.2.2 dX11_compare_174
            · obtain rfl : u180 = 0 := i_is c198 (by decide)
              have zi0 : (0 : Int32).toInt = 0 := by decide
              refine W.eq (g2 := F0 m 158 ls [.int 0]) rfl ?_
              refine lv_if_ne (tgt := 163) hx hb dX11_compare_158 (by decide) (fun c208 => ?_) (fun c208 => ?_)
              · exact absurd c208 (by decide)
              refine lv_iconst (v := 0) hx hb dX11_compare_161 (by decide) ?_
              refine W.widen (k := 0) (n := 0) (Nat.le_of_ble_eq_true rfl) (Nat.le_of_ble_eq_true rfl) ?_
              exact W.zret (v := 0) hx hb hr (by decide) (fun t ht hW => ⟨⟨(0, u181, u182, u183, u184, f185, f186), rfl, ⟨(show (0 ≤ u181.toInt ∧ u181.toInt ≤ 400) by omega), (show ((I 16).toInt ≤ u181.toInt) by omega), (show (u181.toInt ≤ (I 3).toInt) by omega), (show (0 ≤ u182.toInt ∧ u182.toInt ≤ 4000) by omega), (show (0 ≤ u184.toInt ∧ u184.toInt ≤ 60) by omega), (show ((I 20).toInt ≤ u184.toInt) by omega), (show (0 ≤ (0 : Int32).toInt ∧ (0 : Int32).toInt ≤ 1) by omega), (show ((0 : Int32).toInt = 0 → 1 ≤ u182.toInt) by omega), (show ((0 : Int32).toInt = 1 → (f186 (I 19).toNatClampNeg).toInt + (I 16).toInt ≤ ((F 6) (I 19).toNatClampNeg).toInt + u181.toInt) by omega), (fun h => absurd h (by decide)), (PG_tc hw196)⟩, CB.mk ht hP hD⟩, hS.F ht⟩) hS.2.2 dX11_compare_162
          · obtain rfl : u162 = 0 := i_is c169 (by decide)
            have zi0 : (0 : Int32).toInt = 0 := by decide
            refine W.eq (g2 := F0 m 110 ls [.int 0]) rfl ?_
            refine lv_if_ne (tgt := 115) hx hb dX11_compare_110 (by decide) (fun c209 => ?_) (fun c209 => ?_)
            · exact absurd c209 (by decide)
            refine lv_iconst (v := 0) hx hb dX11_compare_113 (by decide) ?_
            refine W.widen (k := 0) (n := 0) (Nat.le_of_ble_eq_true rfl) (Nat.le_of_ble_eq_true rfl) ?_
            exact W.zret (v := 0) hx hb hr (by decide) (fun t ht hW => ⟨⟨(0, v159, u163, u6, u164, f8, f9), rfl, ⟨(show (0 ≤ v159.toInt ∧ v159.toInt ≤ 400) by omega), (show ((I 16).toInt ≤ v159.toInt) by omega), (show (v159.toInt ≤ (I 3).toInt) by omega), (show (0 ≤ u163.toInt ∧ u163.toInt ≤ 4000) by omega), (show (0 ≤ u164.toInt ∧ u164.toInt ≤ 60) by omega), (show ((I 20).toInt ≤ u164.toInt) by omega), (show (0 ≤ (0 : Int32).toInt ∧ (0 : Int32).toInt ≤ 1) by omega), (show ((0 : Int32).toInt = 0 → 1 ≤ u163.toInt) by omega), (show ((0 : Int32).toInt = 1 → (f9 (I 19).toNatClampNeg).toInt + (I 16).toInt ≤ ((F 6) (I 19).toNatClampNeg).toInt + v159.toInt) by omega), (fun h => absurd h (by decide)), (PG_tc t22)⟩, CB.mk ht hP hD⟩, hS.F ht⟩) hS.2.2 dX11_compare_114
    · skip
      have c34 := i_ne (Eq.refl u26.toInt) (show (60 : Int32).toInt = 60 by decide) c34
      refine lv_iload_n hx hb dX11_compare_25 rfl (lv_at hl 1 rfl) ?_
      refine lv_bipush (v := 61) hx hb dX11_compare_26 (by decide) ?_
      refine lv_icmp_eq (tgt := 44) hx hb dX11_compare_28 (by decide) (fun c210 => ?_) (fun c210 => ?_)
      · skip
        have c210 := i_eq (Eq.refl u26.toInt) (show (61 : Int32).toInt = 61 by decide) c210
        refine lv_aload_n hx hb dX11_compare_44 rfl (lv_at hl 2 rfl) ?_
        refine lv_dup hx hb dX11_compare_45 rfl ?_
        refine va_get (D := D) (ci := 11) (v := .int u27) (C := RX11) (T := TX11) (N := 49) hx hb hg inGX11 hown hKN.1 hP 0 rfl rfl 16 (by decide) (hg _ kw_1224) (fun _ h9 => h9) rfl dX11_compare_46 ?_
        refine lv_iconst (v := 1) hx hb dX11_compare_49 (by decide) ?_
        refine lv_iadd hx hb dX11_compare_50 ?_
        refine lv_topi (fun v211 ev211 => ?_)
        have hv211 := i_add (Eq.refl u27.toInt) (show (1 : Int32).toInt = 1 by decide) ev211 (by omega) (by omega)
        refine va_put (D := D) (ci := 11) (v := .int v211) (ty := .int) (C := RX11) (T := TX11) (N := 49) hx hb hg inGX11 tyX11 tyX11_ok nmX11 hown hKN.1 hP hD hS 0 rfl rfl 16 (by decide) (hg _ kw_1224) (fun _ h9 => h9) rfl (by decide +kernel) rfl rfl (Nat.le_of_ble_eq_true rfl) dX11_compare_51 (fun H locs hP hD hS => ?_)
        have hP : va_P D vwCl (MW Y o a (upd (upd (upd (upd I 16 v211) 17 u5) 18 u6) 20 u7) J (vf_upd (vf_upd F 5 f8) 6 f9) G) H := hP
        have hD : va_D A (MW Y o a (upd (upd (upd (upd I 16 v211) 17 u5) 18 u6) 20 u7) J (vf_upd (vf_upd F 5 f8) 6 f9) G) := hD
        refine lv_iload_n hx hb dX11_compare_54 rfl (lv_at hl 1 rfl) ?_
        refine lv_bipush (v := 61) hx hb dX11_compare_55 (by decide) ?_
        refine lv_icmp_eq (tgt := 89) hx hb dX11_compare_57 (by decide) (fun c213 => ?_) (fun c213 => ?_)
        rotate_left
        · have c213 := i_ne (Eq.refl u26.toInt) (show (61 : Int32).toInt = 61 by decide) c213; exfalso; omega
        have c213 := i_eq (Eq.refl u26.toInt) (show (61 : Int32).toInt = 61 by decide) c213
        refine lv_iconst (v := 0) hx hb dX11_compare_89 (by decide) ?_
        refine lv_istore_n (lv' := [(3, .int 0), (2, .int u27), (1, .int u26), (0, .ref o)]) hx hb dX11_compare_90 rfl hl (by decide) rfl (fun ls hl => ?_)
        refine lv_iload_n hx hb dX11_compare_91 rfl (lv_at hl 0 rfl) ?_
        refine lv_if_eq (tgt := 105) hx hb dX11_compare_92 (by decide) (fun c215 => ?_) (fun c215 => ?_)
        rotate_left
        · exact absurd c215 (by decide)
        refine lv_aload_n hx hb dX11_compare_105 rfl (lv_at hl 3 rfl) ?_
        refine lv_iload_n hx hb dX11_compare_106 rfl (lv_at hl 1 rfl) ?_
        refine cga (rn_V (As := [.int u27]) (rest := []) (b := o) (m_makes l D Y Z H.size o a (upd (upd (upd (upd I 16 v211) 17 u5) 18 u6) 20 u7) J (vf_upd (vf_upd F 5 f8) 6 f9) G  u27 (show (0 ≤ u7.toInt ∧ u7.toInt ≤ 60) by omega) (show (0 ≤ u27.toInt ∧ u27.toInt ≤ 400) by omega) (show (0 ≤ u5.toInt ∧ u5.toInt ≤ 4000) by omega)) ⟨hx, hb, hml, hown, hg⟩ lk_X11_258 ⟨CP.blind, va_recv hKN.1 hP (ci := 11) (q0 := 0) rfl rfl, CP.at hP hKN hD⟩ ⟨⟨rfl, rfl⟩, ⟨Nat.le_of_ble_eq_true rfl, Nat.le_of_ble_eq_true rfl⟩, ⟨Nat.le_of_ble_eq_true rfl, Nat.le_of_ble_eq_true rfl⟩⟩ hl.1 rfl (Nat.le_of_ble_eq_true rfl) dX11_compare_107) hP hD hS hA (fun u216 H locs w217 hP hD hS => ?_)
        obtain ⟨u218, u219, u220⟩ := u216
        have w217 : (0 ≤ u220.toInt ∧ u220.toInt ≤ 60) ∧ (0 ≤ u219.toInt ∧ u219.toInt ≤ 4000) ∧ ((u218.toInt = 1 ∧ u220.toInt = u7.toInt + 1) ∨ (u218.toInt = 0 ∧ 1 ≤ u219.toInt ∧ u220.toInt = u7.toInt)) ∧ (0 ≤ u218.toInt ∧ u218.toInt ≤ 1) := w217
        obtain ⟨hw221, hw222, hw223, hw224⟩ := w217
        refine W.eq (g2 := F0 m 110 ls [.int u218]) rfl ?_
        have hP : va_P D vwCl (MW Y o a (upd (upd (upd (upd I 16 v211) 17 u219) 18 u6) 20 u220) J (vf_upd (vf_upd F 5 f8) 6 f9) G) H := hP
        have hD : va_D A (MW Y o a (upd (upd (upd (upd I 16 v211) 17 u219) 18 u6) 20 u220) J (vf_upd (vf_upd F 5 f8) 6 f9) G) := hD
        rcases (show u218.toInt = 1 ∨ u218.toInt = 0 by omega) with c225 | c225
        · obtain rfl : u218 = 1 := i_is c225 (by decide)
          refine W.eq (g2 := F0 m 110 ls [.int 1]) rfl ?_
          refine lv_if_ne (tgt := 115) hx hb dX11_compare_110 (by decide) (fun c226 => ?_) (fun c226 => ?_)
          rotate_left
          · exact absurd c226 (by decide)
          refine lv_iload_n hx hb dX11_compare_115 rfl (lv_at hl 2 rfl) ?_
          refine lv_bipush (v := 60) hx hb dX11_compare_116 (by decide) ?_
          refine lv_icmp_ne (tgt := 133) hx hb dX11_compare_118 (by decide) (fun c229 => ?_) (fun c229 => ?_)
          rotate_left
          · have c229 := i_eq (Eq.refl u26.toInt) (show (60 : Int32).toInt = 60 by decide) c229; exfalso; omega
          have c229 := i_ne (Eq.refl u26.toInt) (show (60 : Int32).toInt = 60 by decide) c229
          refine lv_iload_n hx hb dX11_compare_133 rfl (lv_at hl 2 rfl) ?_
          refine lv_bipush (v := 61) hx hb dX11_compare_134 (by decide) ?_
          refine lv_icmp_ne (tgt := 143) hx hb dX11_compare_136 (by decide) (fun c231 => ?_) (fun c231 => ?_)
          · have c231 := i_ne (Eq.refl u26.toInt) (show (61 : Int32).toInt = 61 by decide) c231; exfalso; omega
          have c231 := i_eq (Eq.refl u26.toInt) (show (61 : Int32).toInt = 61 by decide) c231
          refine lv_iconst (v := 2) hx hb dX11_compare_139 (by decide) ?_
          refine lv_goto (tgt := 152) hx hb dX11_compare_140 (by decide) ?_
          refine lv_istore (lv' := [(4, .int 2), (3, .int 0), (2, .int u27), (1, .int u26), (0, .ref o)]) hx hb dX11_compare_152 hl (by decide) rfl (fun ls hl => ?_)
          have t232 := PG_len t22
          have t233 := PG_dep t22
          refine lv_aload_n hx hb dX11_compare_154 rfl (lv_at hl 4 rfl) ?_
          refine cga (rn_V (As := []) (rest := []) (b := o) (m_sum l D Y Z H.size o a (upd (upd (upd (upd I 16 v211) 17 u219) 18 u6) 20 u220) J (vf_upd (vf_upd F 5 f8) 6 f9) G gs gb (gd + 1)  (show (0 ≤ v211.toInt ∧ v211.toInt ≤ 400) by omega) (show (0 ≤ (I 3).toInt ∧ (I 3).toInt ≤ 400) by omega) (show (v211.toInt ≤ (I 3).toInt) by omega) (show (0 ≤ u219.toInt ∧ u219.toInt ≤ 4000) by omega) (show (0 ≤ u220.toInt ∧ u220.toInt ≤ 60) by omega) (show (0 ≤ (I 19).toInt ∧ (I 19).toInt ≤ 17) by omega) (show ((f9 (I 19).toNatClampNeg).toInt ≤ v211.toInt) by omega) (PG_to t22 rfl (by omega) (by omega) (by omega))) ⟨hx, hb, hml, hown, hg⟩ lk_X11_271 ⟨CP.blind, va_recv hKN.1 hP (ci := 11) (q0 := 0) rfl rfl, CP.at hP hKN hD⟩ ⟨⟨rfl, rfl⟩, ⟨Nat.le_of_ble_eq_true rfl, Nat.le_of_ble_eq_true rfl⟩, ⟨Nat.le_of_ble_eq_true rfl, Nat.le_of_ble_eq_true rfl⟩⟩ hl.1 rfl (Nat.le_of_ble_eq_true rfl) dX11_compare_155) hP hD hS hA (fun u234 H locs w235 hP hD hS => ?_)
          obtain ⟨u236, u237, u238, u239, u240, f241, f242⟩ := u234
          have w235 : (0 ≤ u237.toInt ∧ u237.toInt ≤ 400) ∧ (v211.toInt ≤ u237.toInt) ∧ (u237.toInt ≤ (I 3).toInt) ∧ (0 ≤ u238.toInt ∧ u238.toInt ≤ 4000) ∧ (0 ≤ u240.toInt ∧ u240.toInt ≤ 60) ∧ (u220.toInt ≤ u240.toInt) ∧ (0 ≤ u236.toInt ∧ u236.toInt ≤ 1) ∧ (u236.toInt = 0 → 1 ≤ u238.toInt) ∧ (u236.toInt = 1 → (f242 (I 19).toNatClampNeg).toInt + v211.toInt ≤ (f9 (I 19).toNatClampNeg).toInt + u237.toInt) ∧ (u236.toInt = 1 → PSg (F 4) (F 8) (F 7) f241 f242 gs (I 19).toNatClampNeg gb ((gd + 1) + 1) (u240.toInt).toNat) ∧ TC (F 4) (F 8) (F 7) f241 := w235
          obtain ⟨hw243, hw244, hw245, hw246, hw247, hw248, hw249, hw250, hw251, hw252, hw253⟩ := w235
          refine W.eq (g2 := F0 m 158 ls [.int u236]) rfl ?_
          have hP : va_P D vwCl (MW Y o a (upd (upd (upd (upd I 16 u237) 17 u238) 18 u239) 20 u240) J (vf_upd (vf_upd F 5 f241) 6 f242) G) H := hP
          have hD : va_D A (MW Y o a (upd (upd (upd (upd I 16 u237) 17 u238) 18 u239) 20 u240) J (vf_upd (vf_upd F 5 f241) 6 f242) G) := hD
          rcases (show u236.toInt = 1 ∨ u236.toInt = 0 by omega) with c254 | c254
          · obtain rfl : u236 = 1 := i_is c254 (by decide)
            have t255 := hw252 (by decide)
            refine W.eq (g2 := F0 m 158 ls [.int 1]) rfl ?_
            refine lv_if_ne (tgt := 163) hx hb dX11_compare_158 (by decide) (fun c256 => ?_) (fun c256 => ?_)
            rotate_left
            · exact absurd c256 (by decide)
            refine lv_aload_n hx hb dX11_compare_163 rfl (lv_at hl 4 rfl) ?_
            refine lv_bipush (v := 6) hx hb dX11_compare_164 (by decide) ?_
            refine lv_iload hx hb dX11_compare_166 (lv_at hl 0 rfl) ?_
            refine lv_iadd hx hb dX11_compare_168 ?_
            refine lv_topi (fun z257 ez257 => ?_)
            obtain rfl : z257 = 8 := ez257.trans (by decide)
            refine lv_iconst (v := 0) hx hb dX11_compare_169 (by decide) ?_
            have zi8 : (8 : Int32).toInt = 8 := by decide
            have zi0 : (0 : Int32).toInt = 0 := by decide
            refine cga (rn_V (As := [.int 8, .int 0]) (rest := []) (b := o) (m_puts l D Y Z H.size o a (upd (upd (upd (upd I 16 u237) 17 u238) 18 u239) 20 u240) J (vf_upd (vf_upd F 5 f241) 6 f242) G  8 0 (show (0 ≤ (I 19).toInt ∧ (I 19).toInt ≤ 17) by omega) (show (0 ≤ (8 : Int32).toInt ∧ (8 : Int32).toInt ≤ 15) by omega) (show (0 ≤ (0 : Int32).toInt ∧ (0 : Int32).toInt ≤ 99999) by omega) (show (0 ≤ (f242 (I 19).toNatClampNeg).toInt ∧ (f242 (I 19).toNatClampNeg).toInt ≤ 399) by omega)) ⟨hx, hb, hml, hown, hg⟩ lk_X11_250 ⟨CP.blind, va_recv hKN.1 hP (ci := 11) (q0 := 0) rfl rfl, CP.at hP hKN hD⟩ ⟨⟨rfl, rfl⟩, ⟨Nat.le_of_ble_eq_true rfl, Nat.le_of_ble_eq_true rfl⟩, ⟨Nat.le_of_ble_eq_true rfl, Nat.le_of_ble_eq_true rfl⟩⟩ hl.1 rfl (Nat.le_of_ble_eq_true rfl) dX11_compare_170) hP hD hS hA (fun u258 H locs w259 hP hD hS => ?_)
            obtain ⟨f260, f261⟩ := u258
            have w259 : PU f241 f260 f242 f261 (I 19).toNatClampNeg (8 : Int32).toInt (0 : Int32).toInt := w259
            have hw262 := w259
            refine W.eq (g2 := F0 m 173 ls []) rfl ?_
            have hP : va_P D vwCl (MW Y o a (upd (upd (upd (upd I 16 u237) 17 u238) 18 u239) 20 u240) J (vf_upd (vf_upd F 5 f260) 6 f261) G) H := hP
            have hD : va_D A (MW Y o a (upd (upd (upd (upd I 16 u237) 17 u238) 18 u239) 20 u240) J (vf_upd (vf_upd F 5 f260) 6 f261) G) := hD
            have t263 := PG_pu (e := (((gd + 1) + 1) - 1)) (PG_to (md2 := u240.toInt.toNat) t255 rfl rfl (by omega) (by omega)) hw262 (fun x hx => stp_bin hx (by omega) (by omega) (by omega) (by omega) (by omega) (by omega) rfl) (by omega) (by omega)
            obtain ⟨t263p, t263l⟩ := t263
            refine lv_iconst (v := 1) hx hb dX11_compare_173 (by decide) ?_
            refine W.widen (k := 0) (n := 0) (Nat.le_of_ble_eq_true rfl) (Nat.le_of_ble_eq_true rfl) ?_
            exact W.zret (v := 1) hx hb hr (by decide) (fun t ht hW => ⟨⟨(1, u237, u238, u239, u240, f260, f261), rfl, ⟨(show (0 ≤ u237.toInt ∧ u237.toInt ≤ 400) by omega), (show ((I 16).toInt ≤ u237.toInt) by omega), (show (u237.toInt ≤ (I 3).toInt) by omega), (show (0 ≤ u238.toInt ∧ u238.toInt ≤ 4000) by omega), (show (0 ≤ u240.toInt ∧ u240.toInt ≤ 60) by omega), (show ((I 20).toInt ≤ u240.toInt) by omega), (show (0 ≤ (1 : Int32).toInt ∧ (1 : Int32).toInt ≤ 1) by omega), (show ((1 : Int32).toInt = 0 → 1 ≤ u238.toInt) by omega), (show ((1 : Int32).toInt = 1 → (f261 (I 19).toNatClampNeg).toInt + (I 16).toInt ≤ ((F 6) (I 19).toNatClampNeg).toInt + u237.toInt) by omega), (fun _ => (PG_to t263p rfl (by omega) (by omega) (by omega))), (PG_tc t263p)⟩, CB.mk ht hP hD⟩, hS.F ht⟩) hS.2.2 dX11_compare_174
          · obtain rfl : u236 = 0 := i_is c254 (by decide)
            have zi0 : (0 : Int32).toInt = 0 := by decide
            refine W.eq (g2 := F0 m 158 ls [.int 0]) rfl ?_
            refine lv_if_ne (tgt := 163) hx hb dX11_compare_158 (by decide) (fun c264 => ?_) (fun c264 => ?_)
            · exact absurd c264 (by decide)
            refine lv_iconst (v := 0) hx hb dX11_compare_161 (by decide) ?_
            refine W.widen (k := 0) (n := 0) (Nat.le_of_ble_eq_true rfl) (Nat.le_of_ble_eq_true rfl) ?_
            exact W.zret (v := 0) hx hb hr (by decide) (fun t ht hW => ⟨⟨(0, u237, u238, u239, u240, f241, f242), rfl, ⟨(show (0 ≤ u237.toInt ∧ u237.toInt ≤ 400) by omega), (show ((I 16).toInt ≤ u237.toInt) by omega), (show (u237.toInt ≤ (I 3).toInt) by omega), (show (0 ≤ u238.toInt ∧ u238.toInt ≤ 4000) by omega), (show (0 ≤ u240.toInt ∧ u240.toInt ≤ 60) by omega), (show ((I 20).toInt ≤ u240.toInt) by omega), (show (0 ≤ (0 : Int32).toInt ∧ (0 : Int32).toInt ≤ 1) by omega), (show ((0 : Int32).toInt = 0 → 1 ≤ u238.toInt) by omega), (show ((0 : Int32).toInt = 1 → (f242 (I 19).toNatClampNeg).toInt + (I 16).toInt ≤ ((F 6) (I 19).toNatClampNeg).toInt + u237.toInt) by omega), (fun h => absurd h (by decide)), (PG_tc hw252)⟩, CB.mk ht hP hD⟩, hS.F ht⟩) hS.2.2 dX11_compare_162
        · obtain rfl : u218 = 0 := i_is c225 (by decide)
          have zi0 : (0 : Int32).toInt = 0 := by decide
          refine W.eq (g2 := F0 m 110 ls [.int 0]) rfl ?_
          refine lv_if_ne (tgt := 115) hx hb dX11_compare_110 (by decide) (fun c265 => ?_) (fun c265 => ?_)
          · exact absurd c265 (by decide)
          refine lv_iconst (v := 0) hx hb dX11_compare_113 (by decide) ?_
          refine W.widen (k := 0) (n := 0) (Nat.le_of_ble_eq_true rfl) (Nat.le_of_ble_eq_true rfl) ?_
          exact W.zret (v := 0) hx hb hr (by decide) (fun t ht hW => ⟨⟨(0, v211, u219, u6, u220, f8, f9), rfl, ⟨(show (0 ≤ v211.toInt ∧ v211.toInt ≤ 400) by omega), (show ((I 16).toInt ≤ v211.toInt) by omega), (show (v211.toInt ≤ (I 3).toInt) by omega), (show (0 ≤ u219.toInt ∧ u219.toInt ≤ 4000) by omega), (show (0 ≤ u220.toInt ∧ u220.toInt ≤ 60) by omega), (show ((I 20).toInt ≤ u220.toInt) by omega), (show (0 ≤ (0 : Int32).toInt ∧ (0 : Int32).toInt ≤ 1) by omega), (show ((0 : Int32).toInt = 0 → 1 ≤ u219.toInt) by omega), (show ((0 : Int32).toInt = 1 → (f9 (I 19).toNatClampNeg).toInt + (I 16).toInt ≤ ((F 6) (I 19).toNatClampNeg).toInt + v211.toInt) by omega), (fun h => absurd h (by decide)), (PG_tc t22)⟩, CB.mk ht hP hD⟩, hS.F ht⟩) hS.2.2 dX11_compare_114
      · skip
        have c210 := i_ne (Eq.refl u26.toInt) (show (61 : Int32).toInt = 61 by decide) c210
        refine lv_iload_n hx hb dX11_compare_31 rfl (lv_at hl 1 rfl) ?_
        refine lv_bipush (v := 62) hx hb dX11_compare_32 (by decide) ?_
        refine lv_icmp_eq (tgt := 44) hx hb dX11_compare_34 (by decide) (fun c266 => ?_) (fun c266 => ?_)
        · skip
          have c266 := i_eq (Eq.refl u26.toInt) (show (62 : Int32).toInt = 62 by decide) c266
          refine lv_aload_n hx hb dX11_compare_44 rfl (lv_at hl 2 rfl) ?_
          refine lv_dup hx hb dX11_compare_45 rfl ?_
          refine va_get (D := D) (ci := 11) (v := .int u27) (C := RX11) (T := TX11) (N := 49) hx hb hg inGX11 hown hKN.1 hP 0 rfl rfl 16 (by decide) (hg _ kw_1224) (fun _ h9 => h9) rfl dX11_compare_46 ?_
          refine lv_iconst (v := 1) hx hb dX11_compare_49 (by decide) ?_
          refine lv_iadd hx hb dX11_compare_50 ?_
          refine lv_topi (fun v267 ev267 => ?_)
          have hv267 := i_add (Eq.refl u27.toInt) (show (1 : Int32).toInt = 1 by decide) ev267 (by omega) (by omega)
          refine va_put (D := D) (ci := 11) (v := .int v267) (ty := .int) (C := RX11) (T := TX11) (N := 49) hx hb hg inGX11 tyX11 tyX11_ok nmX11 hown hKN.1 hP hD hS 0 rfl rfl 16 (by decide) (hg _ kw_1224) (fun _ h9 => h9) rfl (by decide +kernel) rfl rfl (Nat.le_of_ble_eq_true rfl) dX11_compare_51 (fun H locs hP hD hS => ?_)
          have hP : va_P D vwCl (MW Y o a (upd (upd (upd (upd I 16 v267) 17 u5) 18 u6) 20 u7) J (vf_upd (vf_upd F 5 f8) 6 f9) G) H := hP
          have hD : va_D A (MW Y o a (upd (upd (upd (upd I 16 v267) 17 u5) 18 u6) 20 u7) J (vf_upd (vf_upd F 5 f8) 6 f9) G) := hD
          refine lv_iload_n hx hb dX11_compare_54 rfl (lv_at hl 1 rfl) ?_
          refine lv_bipush (v := 61) hx hb dX11_compare_55 (by decide) ?_
          refine lv_icmp_eq (tgt := 89) hx hb dX11_compare_57 (by decide) (fun c273 => ?_) (fun c273 => ?_)
          · have c273 := i_eq (Eq.refl u26.toInt) (show (61 : Int32).toInt = 61 by decide) c273; exfalso; omega
          have c273 := i_ne (Eq.refl u26.toInt) (show (61 : Int32).toInt = 61 by decide) c273
          refine lv_aload_n hx hb dX11_compare_60 rfl (lv_at hl 2 rfl) ?_
          refine va_get (D := D) (ci := 11) (v := .int v267) (C := RX11) (T := TX11) (N := 49) hx hb hg inGX11 hown hKN.1 hP 0 rfl rfl 16 (by decide) (hg _ kw_1224) (fun _ h9 => h9) rfl dX11_compare_61 ?_
          refine lv_aload_n hx hb dX11_compare_64 rfl (lv_at hl 2 rfl) ?_
          refine va_get (D := D) (ci := 11) (v := .int (I 3)) (C := RX11) (T := TX11) (N := 49) hx hb hg inGX11 hown hKN.1 hP 0 rfl rfl 3 (by decide) (hg _ kw_1211) (fun _ h9 => h9) rfl dX11_compare_65 ?_
          refine lv_icmp_ge (tgt := 89) hx hb dX11_compare_68 (by decide) (fun c278 => ?_) (fun c278 => ?_)
          · skip
            have c278 := i_le (Eq.refl (I 3).toInt) (Eq.refl v267.toInt) c278
            refine lv_iconst (v := 0) hx hb dX11_compare_89 (by decide) ?_
            refine lv_istore_n (lv' := [(3, .int 0), (2, .int u27), (1, .int u26), (0, .ref o)]) hx hb dX11_compare_90 rfl hl (by decide) rfl (fun ls hl => ?_)
            refine lv_iload_n hx hb dX11_compare_91 rfl (lv_at hl 0 rfl) ?_
            refine lv_if_eq (tgt := 105) hx hb dX11_compare_92 (by decide) (fun c280 => ?_) (fun c280 => ?_)
            rotate_left
            · exact absurd c280 (by decide)
            refine lv_aload_n hx hb dX11_compare_105 rfl (lv_at hl 3 rfl) ?_
            refine lv_iload_n hx hb dX11_compare_106 rfl (lv_at hl 1 rfl) ?_
            refine cga (rn_V (As := [.int u27]) (rest := []) (b := o) (m_makes l D Y Z H.size o a (upd (upd (upd (upd I 16 v267) 17 u5) 18 u6) 20 u7) J (vf_upd (vf_upd F 5 f8) 6 f9) G  u27 (show (0 ≤ u7.toInt ∧ u7.toInt ≤ 60) by omega) (show (0 ≤ u27.toInt ∧ u27.toInt ≤ 400) by omega) (show (0 ≤ u5.toInt ∧ u5.toInt ≤ 4000) by omega)) ⟨hx, hb, hml, hown, hg⟩ lk_X11_258 ⟨CP.blind, va_recv hKN.1 hP (ci := 11) (q0 := 0) rfl rfl, CP.at hP hKN hD⟩ ⟨⟨rfl, rfl⟩, ⟨Nat.le_of_ble_eq_true rfl, Nat.le_of_ble_eq_true rfl⟩, ⟨Nat.le_of_ble_eq_true rfl, Nat.le_of_ble_eq_true rfl⟩⟩ hl.1 rfl (Nat.le_of_ble_eq_true rfl) dX11_compare_107) hP hD hS hA (fun u281 H locs w282 hP hD hS => ?_)
            obtain ⟨u283, u284, u285⟩ := u281
            have w282 : (0 ≤ u285.toInt ∧ u285.toInt ≤ 60) ∧ (0 ≤ u284.toInt ∧ u284.toInt ≤ 4000) ∧ ((u283.toInt = 1 ∧ u285.toInt = u7.toInt + 1) ∨ (u283.toInt = 0 ∧ 1 ≤ u284.toInt ∧ u285.toInt = u7.toInt)) ∧ (0 ≤ u283.toInt ∧ u283.toInt ≤ 1) := w282
            obtain ⟨hw286, hw287, hw288, hw289⟩ := w282
            refine W.eq (g2 := F0 m 110 ls [.int u283]) rfl ?_
            have hP : va_P D vwCl (MW Y o a (upd (upd (upd (upd I 16 v267) 17 u284) 18 u6) 20 u285) J (vf_upd (vf_upd F 5 f8) 6 f9) G) H := hP
            have hD : va_D A (MW Y o a (upd (upd (upd (upd I 16 v267) 17 u284) 18 u6) 20 u285) J (vf_upd (vf_upd F 5 f8) 6 f9) G) := hD
            rcases (show u283.toInt = 1 ∨ u283.toInt = 0 by omega) with c290 | c290
            · obtain rfl : u283 = 1 := i_is c290 (by decide)
              refine W.eq (g2 := F0 m 110 ls [.int 1]) rfl ?_
              refine lv_if_ne (tgt := 115) hx hb dX11_compare_110 (by decide) (fun c291 => ?_) (fun c291 => ?_)
              rotate_left
              · exact absurd c291 (by decide)
              refine lv_iload_n hx hb dX11_compare_115 rfl (lv_at hl 2 rfl) ?_
              refine lv_bipush (v := 60) hx hb dX11_compare_116 (by decide) ?_
              refine lv_icmp_ne (tgt := 133) hx hb dX11_compare_118 (by decide) (fun c295 => ?_) (fun c295 => ?_)
              rotate_left
              · have c295 := i_eq (Eq.refl u26.toInt) (show (60 : Int32).toInt = 60 by decide) c295; exfalso; omega
              have c295 := i_ne (Eq.refl u26.toInt) (show (60 : Int32).toInt = 60 by decide) c295
              refine lv_iload_n hx hb dX11_compare_133 rfl (lv_at hl 2 rfl) ?_
              refine lv_bipush (v := 61) hx hb dX11_compare_134 (by decide) ?_
              refine lv_icmp_ne (tgt := 143) hx hb dX11_compare_136 (by decide) (fun c298 => ?_) (fun c298 => ?_)
              rotate_left
              · have c298 := i_eq (Eq.refl u26.toInt) (show (61 : Int32).toInt = 61 by decide) c298; exfalso; omega
              have c298 := i_ne (Eq.refl u26.toInt) (show (61 : Int32).toInt = 61 by decide) c298
              refine lv_iload_n hx hb dX11_compare_143 rfl (lv_at hl 0 rfl) ?_
              refine lv_if_eq (tgt := 151) hx hb dX11_compare_144 (by decide) (fun c300 => ?_) (fun c300 => ?_)
              rotate_left
              · exact absurd c300 (by decide)
              refine lv_iconst (v := 4) hx hb dX11_compare_151 (by decide) ?_
              refine lv_istore (lv' := [(4, .int 4), (3, .int 0), (2, .int u27), (1, .int u26), (0, .ref o)]) hx hb dX11_compare_152 hl (by decide) rfl (fun ls hl => ?_)
              have t301 := PG_len t22
              have t302 := PG_dep t22
              refine lv_aload_n hx hb dX11_compare_154 rfl (lv_at hl 4 rfl) ?_
              refine cga (rn_V (As := []) (rest := []) (b := o) (m_sum l D Y Z H.size o a (upd (upd (upd (upd I 16 v267) 17 u284) 18 u6) 20 u285) J (vf_upd (vf_upd F 5 f8) 6 f9) G gs gb (gd + 1)  (show (0 ≤ v267.toInt ∧ v267.toInt ≤ 400) by omega) (show (0 ≤ (I 3).toInt ∧ (I 3).toInt ≤ 400) by omega) (show (v267.toInt ≤ (I 3).toInt) by omega) (show (0 ≤ u284.toInt ∧ u284.toInt ≤ 4000) by omega) (show (0 ≤ u285.toInt ∧ u285.toInt ≤ 60) by omega) (show (0 ≤ (I 19).toInt ∧ (I 19).toInt ≤ 17) by omega) (show ((f9 (I 19).toNatClampNeg).toInt ≤ v267.toInt) by omega) (PG_to t22 rfl (by omega) (by omega) (by omega))) ⟨hx, hb, hml, hown, hg⟩ lk_X11_271 ⟨CP.blind, va_recv hKN.1 hP (ci := 11) (q0 := 0) rfl rfl, CP.at hP hKN hD⟩ ⟨⟨rfl, rfl⟩, ⟨Nat.le_of_ble_eq_true rfl, Nat.le_of_ble_eq_true rfl⟩, ⟨Nat.le_of_ble_eq_true rfl, Nat.le_of_ble_eq_true rfl⟩⟩ hl.1 rfl (Nat.le_of_ble_eq_true rfl) dX11_compare_155) hP hD hS hA (fun u303 H locs w304 hP hD hS => ?_)
              obtain ⟨u305, u306, u307, u308, u309, f310, f311⟩ := u303
              have w304 : (0 ≤ u306.toInt ∧ u306.toInt ≤ 400) ∧ (v267.toInt ≤ u306.toInt) ∧ (u306.toInt ≤ (I 3).toInt) ∧ (0 ≤ u307.toInt ∧ u307.toInt ≤ 4000) ∧ (0 ≤ u309.toInt ∧ u309.toInt ≤ 60) ∧ (u285.toInt ≤ u309.toInt) ∧ (0 ≤ u305.toInt ∧ u305.toInt ≤ 1) ∧ (u305.toInt = 0 → 1 ≤ u307.toInt) ∧ (u305.toInt = 1 → (f311 (I 19).toNatClampNeg).toInt + v267.toInt ≤ (f9 (I 19).toNatClampNeg).toInt + u306.toInt) ∧ (u305.toInt = 1 → PSg (F 4) (F 8) (F 7) f310 f311 gs (I 19).toNatClampNeg gb ((gd + 1) + 1) (u309.toInt).toNat) ∧ TC (F 4) (F 8) (F 7) f310 := w304
              obtain ⟨hw312, hw313, hw314, hw315, hw316, hw317, hw318, hw319, hw320, hw321, hw322⟩ := w304
              refine W.eq (g2 := F0 m 158 ls [.int u305]) rfl ?_
              have hP : va_P D vwCl (MW Y o a (upd (upd (upd (upd I 16 u306) 17 u307) 18 u308) 20 u309) J (vf_upd (vf_upd F 5 f310) 6 f311) G) H := hP
              have hD : va_D A (MW Y o a (upd (upd (upd (upd I 16 u306) 17 u307) 18 u308) 20 u309) J (vf_upd (vf_upd F 5 f310) 6 f311) G) := hD
              rcases (show u305.toInt = 1 ∨ u305.toInt = 0 by omega) with c323 | c323
              · obtain rfl : u305 = 1 := i_is c323 (by decide)
                have t324 := hw321 (by decide)
                refine W.eq (g2 := F0 m 158 ls [.int 1]) rfl ?_
                refine lv_if_ne (tgt := 163) hx hb dX11_compare_158 (by decide) (fun c325 => ?_) (fun c325 => ?_)
                rotate_left
                · exact absurd c325 (by decide)
                refine lv_aload_n hx hb dX11_compare_163 rfl (lv_at hl 4 rfl) ?_
                refine lv_bipush (v := 6) hx hb dX11_compare_164 (by decide) ?_
                refine lv_iload hx hb dX11_compare_166 (lv_at hl 0 rfl) ?_
                refine lv_iadd hx hb dX11_compare_168 ?_
                refine lv_topi (fun z326 ez326 => ?_)
                obtain rfl : z326 = 10 := ez326.trans (by decide)
                refine lv_iconst (v := 0) hx hb dX11_compare_169 (by decide) ?_
                have zi10 : (10 : Int32).toInt = 10 := by decide
                have zi0 : (0 : Int32).toInt = 0 := by decide
                refine cga (rn_V (As := [.int 10, .int 0]) (rest := []) (b := o) (m_puts l D Y Z H.size o a (upd (upd (upd (upd I 16 u306) 17 u307) 18 u308) 20 u309) J (vf_upd (vf_upd F 5 f310) 6 f311) G  10 0 (show (0 ≤ (I 19).toInt ∧ (I 19).toInt ≤ 17) by omega) (show (0 ≤ (10 : Int32).toInt ∧ (10 : Int32).toInt ≤ 15) by omega) (show (0 ≤ (0 : Int32).toInt ∧ (0 : Int32).toInt ≤ 99999) by omega) (show (0 ≤ (f311 (I 19).toNatClampNeg).toInt ∧ (f311 (I 19).toNatClampNeg).toInt ≤ 399) by omega)) ⟨hx, hb, hml, hown, hg⟩ lk_X11_250 ⟨CP.blind, va_recv hKN.1 hP (ci := 11) (q0 := 0) rfl rfl, CP.at hP hKN hD⟩ ⟨⟨rfl, rfl⟩, ⟨Nat.le_of_ble_eq_true rfl, Nat.le_of_ble_eq_true rfl⟩, ⟨Nat.le_of_ble_eq_true rfl, Nat.le_of_ble_eq_true rfl⟩⟩ hl.1 rfl (Nat.le_of_ble_eq_true rfl) dX11_compare_170) hP hD hS hA (fun u327 H locs w328 hP hD hS => ?_)
                obtain ⟨f329, f330⟩ := u327
                have w328 : PU f310 f329 f311 f330 (I 19).toNatClampNeg (10 : Int32).toInt (0 : Int32).toInt := w328
                have hw331 := w328
                refine W.eq (g2 := F0 m 173 ls []) rfl ?_
                have hP : va_P D vwCl (MW Y o a (upd (upd (upd (upd I 16 u306) 17 u307) 18 u308) 20 u309) J (vf_upd (vf_upd F 5 f329) 6 f330) G) H := hP
                have hD : va_D A (MW Y o a (upd (upd (upd (upd I 16 u306) 17 u307) 18 u308) 20 u309) J (vf_upd (vf_upd F 5 f329) 6 f330) G) := hD
                have t332 := PG_pu (e := (((gd + 1) + 1) - 1)) (PG_to (md2 := u309.toInt.toNat) t324 rfl rfl (by omega) (by omega)) hw331 (fun x hx => stp_bin hx (by omega) (by omega) (by omega) (by omega) (by omega) (by omega) rfl) (by omega) (by omega)
                obtain ⟨t332p, t332l⟩ := t332
                refine lv_iconst (v := 1) hx hb dX11_compare_173 (by decide) ?_
                refine W.widen (k := 0) (n := 0) (Nat.le_of_ble_eq_true rfl) (Nat.le_of_ble_eq_true rfl) ?_
                exact W.zret (v := 1) hx hb hr (by decide) (fun t ht hW => ⟨⟨(1, u306, u307, u308, u309, f329, f330), rfl, ⟨(show (0 ≤ u306.toInt ∧ u306.toInt ≤ 400) by omega), (show ((I 16).toInt ≤ u306.toInt) by omega), (show (u306.toInt ≤ (I 3).toInt) by omega), (show (0 ≤ u307.toInt ∧ u307.toInt ≤ 4000) by omega), (show (0 ≤ u309.toInt ∧ u309.toInt ≤ 60) by omega), (show ((I 20).toInt ≤ u309.toInt) by omega), (show (0 ≤ (1 : Int32).toInt ∧ (1 : Int32).toInt ≤ 1) by omega), (show ((1 : Int32).toInt = 0 → 1 ≤ u307.toInt) by omega), (show ((1 : Int32).toInt = 1 → (f330 (I 19).toNatClampNeg).toInt + (I 16).toInt ≤ ((F 6) (I 19).toNatClampNeg).toInt + u306.toInt) by omega), (fun _ => (PG_to t332p rfl (by omega) (by omega) (by omega))), (PG_tc t332p)⟩, CB.mk ht hP hD⟩, hS.F ht⟩) hS.2.2 dX11_compare_174
              · obtain rfl : u305 = 0 := i_is c323 (by decide)
                have zi0 : (0 : Int32).toInt = 0 := by decide
                refine W.eq (g2 := F0 m 158 ls [.int 0]) rfl ?_
                refine lv_if_ne (tgt := 163) hx hb dX11_compare_158 (by decide) (fun c333 => ?_) (fun c333 => ?_)
                · exact absurd c333 (by decide)
                refine lv_iconst (v := 0) hx hb dX11_compare_161 (by decide) ?_
                refine W.widen (k := 0) (n := 0) (Nat.le_of_ble_eq_true rfl) (Nat.le_of_ble_eq_true rfl) ?_
                exact W.zret (v := 0) hx hb hr (by decide) (fun t ht hW => ⟨⟨(0, u306, u307, u308, u309, f310, f311), rfl, ⟨(show (0 ≤ u306.toInt ∧ u306.toInt ≤ 400) by omega), (show ((I 16).toInt ≤ u306.toInt) by omega), (show (u306.toInt ≤ (I 3).toInt) by omega), (show (0 ≤ u307.toInt ∧ u307.toInt ≤ 4000) by omega), (show (0 ≤ u309.toInt ∧ u309.toInt ≤ 60) by omega), (show ((I 20).toInt ≤ u309.toInt) by omega), (show (0 ≤ (0 : Int32).toInt ∧ (0 : Int32).toInt ≤ 1) by omega), (show ((0 : Int32).toInt = 0 → 1 ≤ u307.toInt) by omega), (show ((0 : Int32).toInt = 1 → (f311 (I 19).toNatClampNeg).toInt + (I 16).toInt ≤ ((F 6) (I 19).toNatClampNeg).toInt + u306.toInt) by omega), (fun h => absurd h (by decide)), (PG_tc hw321)⟩, CB.mk ht hP hD⟩, hS.F ht⟩) hS.2.2 dX11_compare_162
            · obtain rfl : u283 = 0 := i_is c290 (by decide)
              have zi0 : (0 : Int32).toInt = 0 := by decide
              refine W.eq (g2 := F0 m 110 ls [.int 0]) rfl ?_
              refine lv_if_ne (tgt := 115) hx hb dX11_compare_110 (by decide) (fun c334 => ?_) (fun c334 => ?_)
              · exact absurd c334 (by decide)
              refine lv_iconst (v := 0) hx hb dX11_compare_113 (by decide) ?_
              refine W.widen (k := 0) (n := 0) (Nat.le_of_ble_eq_true rfl) (Nat.le_of_ble_eq_true rfl) ?_
              exact W.zret (v := 0) hx hb hr (by decide) (fun t ht hW => ⟨⟨(0, v267, u284, u6, u285, f8, f9), rfl, ⟨(show (0 ≤ v267.toInt ∧ v267.toInt ≤ 400) by omega), (show ((I 16).toInt ≤ v267.toInt) by omega), (show (v267.toInt ≤ (I 3).toInt) by omega), (show (0 ≤ u284.toInt ∧ u284.toInt ≤ 4000) by omega), (show (0 ≤ u285.toInt ∧ u285.toInt ≤ 60) by omega), (show ((I 20).toInt ≤ u285.toInt) by omega), (show (0 ≤ (0 : Int32).toInt ∧ (0 : Int32).toInt ≤ 1) by omega), (show ((0 : Int32).toInt = 0 → 1 ≤ u284.toInt) by omega), (show ((0 : Int32).toInt = 1 → (f9 (I 19).toNatClampNeg).toInt + (I 16).toInt ≤ ((F 6) (I 19).toNatClampNeg).toInt + v267.toInt) by omega), (fun h => absurd h (by decide)), (PG_tc t22)⟩, CB.mk ht hP hD⟩, hS.F ht⟩) hS.2.2 dX11_compare_114
          · skip
            have c278 := i_nle (Eq.refl (I 3).toInt) (Eq.refl v267.toInt) c278
            refine lv_aload_n hx hb dX11_compare_71 rfl (lv_at hl 2 rfl) ?_
            refine va_get (D := D) (ci := 11) (v := .ref (a 2)) (C := RX11) (T := TX11) (N := 49) hx hb hg inGX11 hown hKN.1 hP 0 rfl rfl 2 (by decide) (hg _ kw_1210) (fun _ h9 => h9) rfl dX11_compare_72 ?_
            refine lv_aload_n hx hb dX11_compare_75 rfl (lv_at hl 2 rfl) ?_
            refine va_get (D := D) (ci := 11) (v := .int v267) (C := RX11) (T := TX11) (N := 49) hx hb hg inGX11 hown hKN.1 hP 0 rfl rfl 16 (by decide) (hg _ kw_1224) (fun _ h9 => h9) rfl dX11_compare_76 ?_
            refine va_bald hx hb hKN.1 hP 3 2 rfl rfl (vp_in_iff.mpr ⟨by omega, by omega⟩) dX11_compare_79 ?_
            refine lv_topi (fun v335 ev335 => ?_)
            have ev335 : v335 = (F 2) v267.toNatClampNeg := ev335
            have qv335 := congrArg Int32.toInt ev335
            refine lv_bipush (v := 61) hx hb dX11_compare_80 (by decide) ?_
            have j338 := rgI v335
            refine lv_icmp_ne (tgt := 89) hx hb dX11_compare_82 (by decide) (fun c339 => ?_) (fun c339 => ?_)
            · skip
              have c339 := i_ne (Eq.refl v335.toInt) (show (61 : Int32).toInt = 61 by decide) c339
              refine lv_iconst (v := 0) hx hb dX11_compare_89 (by decide) ?_
              refine lv_istore_n (lv' := [(3, .int 0), (2, .int u27), (1, .int u26), (0, .ref o)]) hx hb dX11_compare_90 rfl hl (by decide) rfl (fun ls hl => ?_)
              refine lv_iload_n hx hb dX11_compare_91 rfl (lv_at hl 0 rfl) ?_
              refine lv_if_eq (tgt := 105) hx hb dX11_compare_92 (by decide) (fun c341 => ?_) (fun c341 => ?_)
              rotate_left
              · exact absurd c341 (by decide)
              refine lv_aload_n hx hb dX11_compare_105 rfl (lv_at hl 3 rfl) ?_
              refine lv_iload_n hx hb dX11_compare_106 rfl (lv_at hl 1 rfl) ?_
              refine cga (rn_V (As := [.int u27]) (rest := []) (b := o) (m_makes l D Y Z H.size o a (upd (upd (upd (upd I 16 v267) 17 u5) 18 u6) 20 u7) J (vf_upd (vf_upd F 5 f8) 6 f9) G  u27 (show (0 ≤ u7.toInt ∧ u7.toInt ≤ 60) by omega) (show (0 ≤ u27.toInt ∧ u27.toInt ≤ 400) by omega) (show (0 ≤ u5.toInt ∧ u5.toInt ≤ 4000) by omega)) ⟨hx, hb, hml, hown, hg⟩ lk_X11_258 ⟨CP.blind, va_recv hKN.1 hP (ci := 11) (q0 := 0) rfl rfl, CP.at hP hKN hD⟩ ⟨⟨rfl, rfl⟩, ⟨Nat.le_of_ble_eq_true rfl, Nat.le_of_ble_eq_true rfl⟩, ⟨Nat.le_of_ble_eq_true rfl, Nat.le_of_ble_eq_true rfl⟩⟩ hl.1 rfl (Nat.le_of_ble_eq_true rfl) dX11_compare_107) hP hD hS hA (fun u342 H locs w343 hP hD hS => ?_)
              obtain ⟨u344, u345, u346⟩ := u342
              have w343 : (0 ≤ u346.toInt ∧ u346.toInt ≤ 60) ∧ (0 ≤ u345.toInt ∧ u345.toInt ≤ 4000) ∧ ((u344.toInt = 1 ∧ u346.toInt = u7.toInt + 1) ∨ (u344.toInt = 0 ∧ 1 ≤ u345.toInt ∧ u346.toInt = u7.toInt)) ∧ (0 ≤ u344.toInt ∧ u344.toInt ≤ 1) := w343
              obtain ⟨hw347, hw348, hw349, hw350⟩ := w343
              refine W.eq (g2 := F0 m 110 ls [.int u344]) rfl ?_
              have hP : va_P D vwCl (MW Y o a (upd (upd (upd (upd I 16 v267) 17 u345) 18 u6) 20 u346) J (vf_upd (vf_upd F 5 f8) 6 f9) G) H := hP
              have hD : va_D A (MW Y o a (upd (upd (upd (upd I 16 v267) 17 u345) 18 u6) 20 u346) J (vf_upd (vf_upd F 5 f8) 6 f9) G) := hD
              rcases (show u344.toInt = 1 ∨ u344.toInt = 0 by omega) with c351 | c351
              · obtain rfl : u344 = 1 := i_is c351 (by decide)
                refine W.eq (g2 := F0 m 110 ls [.int 1]) rfl ?_
                refine lv_if_ne (tgt := 115) hx hb dX11_compare_110 (by decide) (fun c352 => ?_) (fun c352 => ?_)
                rotate_left
                · exact absurd c352 (by decide)
                refine lv_iload_n hx hb dX11_compare_115 rfl (lv_at hl 2 rfl) ?_
                refine lv_bipush (v := 60) hx hb dX11_compare_116 (by decide) ?_
                refine lv_icmp_ne (tgt := 133) hx hb dX11_compare_118 (by decide) (fun c356 => ?_) (fun c356 => ?_)
                rotate_left
                · have c356 := i_eq (Eq.refl u26.toInt) (show (60 : Int32).toInt = 60 by decide) c356; exfalso; omega
                have c356 := i_ne (Eq.refl u26.toInt) (show (60 : Int32).toInt = 60 by decide) c356
                refine lv_iload_n hx hb dX11_compare_133 rfl (lv_at hl 2 rfl) ?_
                refine lv_bipush (v := 61) hx hb dX11_compare_134 (by decide) ?_
                refine lv_icmp_ne (tgt := 143) hx hb dX11_compare_136 (by decide) (fun c359 => ?_) (fun c359 => ?_)
                rotate_left
                · have c359 := i_eq (Eq.refl u26.toInt) (show (61 : Int32).toInt = 61 by decide) c359; exfalso; omega
                have c359 := i_ne (Eq.refl u26.toInt) (show (61 : Int32).toInt = 61 by decide) c359
                refine lv_iload_n hx hb dX11_compare_143 rfl (lv_at hl 0 rfl) ?_
                refine lv_if_eq (tgt := 151) hx hb dX11_compare_144 (by decide) (fun c361 => ?_) (fun c361 => ?_)
                rotate_left
                · exact absurd c361 (by decide)
                refine lv_iconst (v := 4) hx hb dX11_compare_151 (by decide) ?_
                refine lv_istore (lv' := [(4, .int 4), (3, .int 0), (2, .int u27), (1, .int u26), (0, .ref o)]) hx hb dX11_compare_152 hl (by decide) rfl (fun ls hl => ?_)
                have t362 := PG_len t22
                have t363 := PG_dep t22
                refine lv_aload_n hx hb dX11_compare_154 rfl (lv_at hl 4 rfl) ?_
                refine cga (rn_V (As := []) (rest := []) (b := o) (m_sum l D Y Z H.size o a (upd (upd (upd (upd I 16 v267) 17 u345) 18 u6) 20 u346) J (vf_upd (vf_upd F 5 f8) 6 f9) G gs gb (gd + 1)  (show (0 ≤ v267.toInt ∧ v267.toInt ≤ 400) by omega) (show (0 ≤ (I 3).toInt ∧ (I 3).toInt ≤ 400) by omega) (show (v267.toInt ≤ (I 3).toInt) by omega) (show (0 ≤ u345.toInt ∧ u345.toInt ≤ 4000) by omega) (show (0 ≤ u346.toInt ∧ u346.toInt ≤ 60) by omega) (show (0 ≤ (I 19).toInt ∧ (I 19).toInt ≤ 17) by omega) (show ((f9 (I 19).toNatClampNeg).toInt ≤ v267.toInt) by omega) (PG_to t22 rfl (by omega) (by omega) (by omega))) ⟨hx, hb, hml, hown, hg⟩ lk_X11_271 ⟨CP.blind, va_recv hKN.1 hP (ci := 11) (q0 := 0) rfl rfl, CP.at hP hKN hD⟩ ⟨⟨rfl, rfl⟩, ⟨Nat.le_of_ble_eq_true rfl, Nat.le_of_ble_eq_true rfl⟩, ⟨Nat.le_of_ble_eq_true rfl, Nat.le_of_ble_eq_true rfl⟩⟩ hl.1 rfl (Nat.le_of_ble_eq_true rfl) dX11_compare_155) hP hD hS hA (fun u364 H locs w365 hP hD hS => ?_)
                obtain ⟨u366, u367, u368, u369, u370, f371, f372⟩ := u364
                have w365 : (0 ≤ u367.toInt ∧ u367.toInt ≤ 400) ∧ (v267.toInt ≤ u367.toInt) ∧ (u367.toInt ≤ (I 3).toInt) ∧ (0 ≤ u368.toInt ∧ u368.toInt ≤ 4000) ∧ (0 ≤ u370.toInt ∧ u370.toInt ≤ 60) ∧ (u346.toInt ≤ u370.toInt) ∧ (0 ≤ u366.toInt ∧ u366.toInt ≤ 1) ∧ (u366.toInt = 0 → 1 ≤ u368.toInt) ∧ (u366.toInt = 1 → (f372 (I 19).toNatClampNeg).toInt + v267.toInt ≤ (f9 (I 19).toNatClampNeg).toInt + u367.toInt) ∧ (u366.toInt = 1 → PSg (F 4) (F 8) (F 7) f371 f372 gs (I 19).toNatClampNeg gb ((gd + 1) + 1) (u370.toInt).toNat) ∧ TC (F 4) (F 8) (F 7) f371 := w365
                obtain ⟨hw373, hw374, hw375, hw376, hw377, hw378, hw379, hw380, hw381, hw382, hw383⟩ := w365
                refine W.eq (g2 := F0 m 158 ls [.int u366]) rfl ?_
                have hP : va_P D vwCl (MW Y o a (upd (upd (upd (upd I 16 u367) 17 u368) 18 u369) 20 u370) J (vf_upd (vf_upd F 5 f371) 6 f372) G) H := hP
                have hD : va_D A (MW Y o a (upd (upd (upd (upd I 16 u367) 17 u368) 18 u369) 20 u370) J (vf_upd (vf_upd F 5 f371) 6 f372) G) := hD
                rcases (show u366.toInt = 1 ∨ u366.toInt = 0 by omega) with c384 | c384
                · obtain rfl : u366 = 1 := i_is c384 (by decide)
                  have t385 := hw382 (by decide)
                  refine W.eq (g2 := F0 m 158 ls [.int 1]) rfl ?_
                  refine lv_if_ne (tgt := 163) hx hb dX11_compare_158 (by decide) (fun c386 => ?_) (fun c386 => ?_)
                  rotate_left
                  · exact absurd c386 (by decide)
                  refine lv_aload_n hx hb dX11_compare_163 rfl (lv_at hl 4 rfl) ?_
                  refine lv_bipush (v := 6) hx hb dX11_compare_164 (by decide) ?_
                  refine lv_iload hx hb dX11_compare_166 (lv_at hl 0 rfl) ?_
                  refine lv_iadd hx hb dX11_compare_168 ?_
                  refine lv_topi (fun z387 ez387 => ?_)
                  obtain rfl : z387 = 10 := ez387.trans (by decide)
                  refine lv_iconst (v := 0) hx hb dX11_compare_169 (by decide) ?_
                  have zi10 : (10 : Int32).toInt = 10 := by decide
                  have zi0 : (0 : Int32).toInt = 0 := by decide
                  refine cga (rn_V (As := [.int 10, .int 0]) (rest := []) (b := o) (m_puts l D Y Z H.size o a (upd (upd (upd (upd I 16 u367) 17 u368) 18 u369) 20 u370) J (vf_upd (vf_upd F 5 f371) 6 f372) G  10 0 (show (0 ≤ (I 19).toInt ∧ (I 19).toInt ≤ 17) by omega) (show (0 ≤ (10 : Int32).toInt ∧ (10 : Int32).toInt ≤ 15) by omega) (show (0 ≤ (0 : Int32).toInt ∧ (0 : Int32).toInt ≤ 99999) by omega) (show (0 ≤ (f372 (I 19).toNatClampNeg).toInt ∧ (f372 (I 19).toNatClampNeg).toInt ≤ 399) by omega)) ⟨hx, hb, hml, hown, hg⟩ lk_X11_250 ⟨CP.blind, va_recv hKN.1 hP (ci := 11) (q0 := 0) rfl rfl, CP.at hP hKN hD⟩ ⟨⟨rfl, rfl⟩, ⟨Nat.le_of_ble_eq_true rfl, Nat.le_of_ble_eq_true rfl⟩, ⟨Nat.le_of_ble_eq_true rfl, Nat.le_of_ble_eq_true rfl⟩⟩ hl.1 rfl (Nat.le_of_ble_eq_true rfl) dX11_compare_170) hP hD hS hA (fun u388 H locs w389 hP hD hS => ?_)
                  obtain ⟨f390, f391⟩ := u388
                  have w389 : PU f371 f390 f372 f391 (I 19).toNatClampNeg (10 : Int32).toInt (0 : Int32).toInt := w389
                  have hw392 := w389
                  refine W.eq (g2 := F0 m 173 ls []) rfl ?_
                  have hP : va_P D vwCl (MW Y o a (upd (upd (upd (upd I 16 u367) 17 u368) 18 u369) 20 u370) J (vf_upd (vf_upd F 5 f390) 6 f391) G) H := hP
                  have hD : va_D A (MW Y o a (upd (upd (upd (upd I 16 u367) 17 u368) 18 u369) 20 u370) J (vf_upd (vf_upd F 5 f390) 6 f391) G) := hD
                  have t393 := PG_pu (e := (((gd + 1) + 1) - 1)) (PG_to (md2 := u370.toInt.toNat) t385 rfl rfl (by omega) (by omega)) hw392 (fun x hx => stp_bin hx (by omega) (by omega) (by omega) (by omega) (by omega) (by omega) rfl) (by omega) (by omega)
                  obtain ⟨t393p, t393l⟩ := t393
                  refine lv_iconst (v := 1) hx hb dX11_compare_173 (by decide) ?_
                  refine W.widen (k := 0) (n := 0) (Nat.le_of_ble_eq_true rfl) (Nat.le_of_ble_eq_true rfl) ?_
                  exact W.zret (v := 1) hx hb hr (by decide) (fun t ht hW => ⟨⟨(1, u367, u368, u369, u370, f390, f391), rfl, ⟨(show (0 ≤ u367.toInt ∧ u367.toInt ≤ 400) by omega), (show ((I 16).toInt ≤ u367.toInt) by omega), (show (u367.toInt ≤ (I 3).toInt) by omega), (show (0 ≤ u368.toInt ∧ u368.toInt ≤ 4000) by omega), (show (0 ≤ u370.toInt ∧ u370.toInt ≤ 60) by omega), (show ((I 20).toInt ≤ u370.toInt) by omega), (show (0 ≤ (1 : Int32).toInt ∧ (1 : Int32).toInt ≤ 1) by omega), (show ((1 : Int32).toInt = 0 → 1 ≤ u368.toInt) by omega), (show ((1 : Int32).toInt = 1 → (f391 (I 19).toNatClampNeg).toInt + (I 16).toInt ≤ ((F 6) (I 19).toNatClampNeg).toInt + u367.toInt) by omega), (fun _ => (PG_to t393p rfl (by omega) (by omega) (by omega))), (PG_tc t393p)⟩, CB.mk ht hP hD⟩, hS.F ht⟩) hS.2.2 dX11_compare_174
                · obtain rfl : u366 = 0 := i_is c384 (by decide)
                  have zi0 : (0 : Int32).toInt = 0 := by decide
                  refine W.eq (g2 := F0 m 158 ls [.int 0]) rfl ?_
                  refine lv_if_ne (tgt := 163) hx hb dX11_compare_158 (by decide) (fun c394 => ?_) (fun c394 => ?_)
                  · exact absurd c394 (by decide)
                  refine lv_iconst (v := 0) hx hb dX11_compare_161 (by decide) ?_
                  refine W.widen (k := 0) (n := 0) (Nat.le_of_ble_eq_true rfl) (Nat.le_of_ble_eq_true rfl) ?_
                  exact W.zret (v := 0) hx hb hr (by decide) (fun t ht hW => ⟨⟨(0, u367, u368, u369, u370, f371, f372), rfl, ⟨(show (0 ≤ u367.toInt ∧ u367.toInt ≤ 400) by omega), (show ((I 16).toInt ≤ u367.toInt) by omega), (show (u367.toInt ≤ (I 3).toInt) by omega), (show (0 ≤ u368.toInt ∧ u368.toInt ≤ 4000) by omega), (show (0 ≤ u370.toInt ∧ u370.toInt ≤ 60) by omega), (show ((I 20).toInt ≤ u370.toInt) by omega), (show (0 ≤ (0 : Int32).toInt ∧ (0 : Int32).toInt ≤ 1) by omega), (show ((0 : Int32).toInt = 0 → 1 ≤ u368.toInt) by omega), (show ((0 : Int32).toInt = 1 → (f372 (I 19).toNatClampNeg).toInt + (I 16).toInt ≤ ((F 6) (I 19).toNatClampNeg).toInt + u367.toInt) by omega), (fun h => absurd h (by decide)), (PG_tc hw382)⟩, CB.mk ht hP hD⟩, hS.F ht⟩) hS.2.2 dX11_compare_162
              · obtain rfl : u344 = 0 := i_is c351 (by decide)
                have zi0 : (0 : Int32).toInt = 0 := by decide
                refine W.eq (g2 := F0 m 110 ls [.int 0]) rfl ?_
                refine lv_if_ne (tgt := 115) hx hb dX11_compare_110 (by decide) (fun c395 => ?_) (fun c395 => ?_)
                · exact absurd c395 (by decide)
                refine lv_iconst (v := 0) hx hb dX11_compare_113 (by decide) ?_
                refine W.widen (k := 0) (n := 0) (Nat.le_of_ble_eq_true rfl) (Nat.le_of_ble_eq_true rfl) ?_
                exact W.zret (v := 0) hx hb hr (by decide) (fun t ht hW => ⟨⟨(0, v267, u345, u6, u346, f8, f9), rfl, ⟨(show (0 ≤ v267.toInt ∧ v267.toInt ≤ 400) by omega), (show ((I 16).toInt ≤ v267.toInt) by omega), (show (v267.toInt ≤ (I 3).toInt) by omega), (show (0 ≤ u345.toInt ∧ u345.toInt ≤ 4000) by omega), (show (0 ≤ u346.toInt ∧ u346.toInt ≤ 60) by omega), (show ((I 20).toInt ≤ u346.toInt) by omega), (show (0 ≤ (0 : Int32).toInt ∧ (0 : Int32).toInt ≤ 1) by omega), (show ((0 : Int32).toInt = 0 → 1 ≤ u345.toInt) by omega), (show ((0 : Int32).toInt = 1 → (f9 (I 19).toNatClampNeg).toInt + (I 16).toInt ≤ ((F 6) (I 19).toNatClampNeg).toInt + v267.toInt) by omega), (fun h => absurd h (by decide)), (PG_tc t22)⟩, CB.mk ht hP hD⟩, hS.F ht⟩) hS.2.2 dX11_compare_114
            · skip
              have c339 := i_eq (Eq.refl v335.toInt) (show (61 : Int32).toInt = 61 by decide) c339
              refine lv_iconst (v := 1) hx hb dX11_compare_85 (by decide) ?_
              refine lv_goto (tgt := 90) hx hb dX11_compare_86 (by decide) ?_
              refine lv_istore_n (lv' := [(3, .int 1), (2, .int u27), (1, .int u26), (0, .ref o)]) hx hb dX11_compare_90 rfl hl (by decide) rfl (fun ls hl => ?_)
              refine lv_iload_n hx hb dX11_compare_91 rfl (lv_at hl 0 rfl) ?_
              refine lv_if_eq (tgt := 105) hx hb dX11_compare_92 (by decide) (fun c398 => ?_) (fun c398 => ?_)
              · exact absurd c398 (by decide)
              refine lv_aload_n hx hb dX11_compare_95 rfl (lv_at hl 3 rfl) ?_
              refine lv_dup hx hb dX11_compare_96 rfl ?_
              refine va_get (D := D) (ci := 11) (v := .int v267) (C := RX11) (T := TX11) (N := 49) hx hb hg inGX11 hown hKN.1 hP 0 rfl rfl 16 (by decide) (hg _ kw_1224) (fun _ h9 => h9) rfl dX11_compare_97 ?_
              refine lv_iconst (v := 1) hx hb dX11_compare_100 (by decide) ?_
              refine lv_iadd hx hb dX11_compare_101 ?_
              refine lv_topi (fun v399 ev399 => ?_)
              have hv399 := i_add (Eq.refl v267.toInt) (show (1 : Int32).toInt = 1 by decide) ev399 (by omega) (by omega)
              refine va_put (D := D) (ci := 11) (v := .int v399) (ty := .int) (C := RX11) (T := TX11) (N := 49) hx hb hg inGX11 tyX11 tyX11_ok nmX11 hown hKN.1 hP hD hS 0 rfl rfl 16 (by decide) (hg _ kw_1224) (fun _ h9 => h9) rfl (by decide +kernel) rfl rfl (Nat.le_of_ble_eq_true rfl) dX11_compare_102 (fun H locs hP hD hS => ?_)
              have hP : va_P D vwCl (MW Y o a (upd (upd (upd (upd I 16 v399) 17 u5) 18 u6) 20 u7) J (vf_upd (vf_upd F 5 f8) 6 f9) G) H := hP
              have hD : va_D A (MW Y o a (upd (upd (upd (upd I 16 v399) 17 u5) 18 u6) 20 u7) J (vf_upd (vf_upd F 5 f8) 6 f9) G) := hD
              refine lv_aload_n hx hb dX11_compare_105 rfl (lv_at hl 3 rfl) ?_
              refine lv_iload_n hx hb dX11_compare_106 rfl (lv_at hl 1 rfl) ?_
              refine cga (rn_V (As := [.int u27]) (rest := []) (b := o) (m_makes l D Y Z H.size o a (upd (upd (upd (upd I 16 v399) 17 u5) 18 u6) 20 u7) J (vf_upd (vf_upd F 5 f8) 6 f9) G  u27 (show (0 ≤ u7.toInt ∧ u7.toInt ≤ 60) by omega) (show (0 ≤ u27.toInt ∧ u27.toInt ≤ 400) by omega) (show (0 ≤ u5.toInt ∧ u5.toInt ≤ 4000) by omega)) ⟨hx, hb, hml, hown, hg⟩ lk_X11_258 ⟨CP.blind, va_recv hKN.1 hP (ci := 11) (q0 := 0) rfl rfl, CP.at hP hKN hD⟩ ⟨⟨rfl, rfl⟩, ⟨Nat.le_of_ble_eq_true rfl, Nat.le_of_ble_eq_true rfl⟩, ⟨Nat.le_of_ble_eq_true rfl, Nat.le_of_ble_eq_true rfl⟩⟩ hl.1 rfl (Nat.le_of_ble_eq_true rfl) dX11_compare_107) hP hD hS hA (fun u400 H locs w401 hP hD hS => ?_)
              obtain ⟨u402, u403, u404⟩ := u400
              have w401 : (0 ≤ u404.toInt ∧ u404.toInt ≤ 60) ∧ (0 ≤ u403.toInt ∧ u403.toInt ≤ 4000) ∧ ((u402.toInt = 1 ∧ u404.toInt = u7.toInt + 1) ∨ (u402.toInt = 0 ∧ 1 ≤ u403.toInt ∧ u404.toInt = u7.toInt)) ∧ (0 ≤ u402.toInt ∧ u402.toInt ≤ 1) := w401
              obtain ⟨hw405, hw406, hw407, hw408⟩ := w401
              refine W.eq (g2 := F0 m 110 ls [.int u402]) rfl ?_
              have hP : va_P D vwCl (MW Y o a (upd (upd (upd (upd I 16 v399) 17 u403) 18 u6) 20 u404) J (vf_upd (vf_upd F 5 f8) 6 f9) G) H := hP
              have hD : va_D A (MW Y o a (upd (upd (upd (upd I 16 v399) 17 u403) 18 u6) 20 u404) J (vf_upd (vf_upd F 5 f8) 6 f9) G) := hD
              rcases (show u402.toInt = 1 ∨ u402.toInt = 0 by omega) with c409 | c409
              · obtain rfl : u402 = 1 := i_is c409 (by decide)
                refine W.eq (g2 := F0 m 110 ls [.int 1]) rfl ?_
                refine lv_if_ne (tgt := 115) hx hb dX11_compare_110 (by decide) (fun c410 => ?_) (fun c410 => ?_)
                rotate_left
                · exact absurd c410 (by decide)
                refine lv_iload_n hx hb dX11_compare_115 rfl (lv_at hl 2 rfl) ?_
                refine lv_bipush (v := 60) hx hb dX11_compare_116 (by decide) ?_
                refine lv_icmp_ne (tgt := 133) hx hb dX11_compare_118 (by decide) (fun c414 => ?_) (fun c414 => ?_)
                rotate_left
                · have c414 := i_eq (Eq.refl u26.toInt) (show (60 : Int32).toInt = 60 by decide) c414; exfalso; omega
                have c414 := i_ne (Eq.refl u26.toInt) (show (60 : Int32).toInt = 60 by decide) c414
                refine lv_iload_n hx hb dX11_compare_133 rfl (lv_at hl 2 rfl) ?_
                refine lv_bipush (v := 61) hx hb dX11_compare_134 (by decide) ?_
                refine lv_icmp_ne (tgt := 143) hx hb dX11_compare_136 (by decide) (fun c417 => ?_) (fun c417 => ?_)
                rotate_left
                · have c417 := i_eq (Eq.refl u26.toInt) (show (61 : Int32).toInt = 61 by decide) c417; exfalso; omega
                have c417 := i_ne (Eq.refl u26.toInt) (show (61 : Int32).toInt = 61 by decide) c417
                refine lv_iload_n hx hb dX11_compare_143 rfl (lv_at hl 0 rfl) ?_
                refine lv_if_eq (tgt := 151) hx hb dX11_compare_144 (by decide) (fun c419 => ?_) (fun c419 => ?_)
                · exact absurd c419 (by decide)
                refine lv_iconst (v := 3) hx hb dX11_compare_147 (by decide) ?_
                refine lv_goto (tgt := 152) hx hb dX11_compare_148 (by decide) ?_
                refine lv_istore (lv' := [(4, .int 3), (3, .int 1), (2, .int u27), (1, .int u26), (0, .ref o)]) hx hb dX11_compare_152 hl (by decide) rfl (fun ls hl => ?_)
                have t420 := PG_len t22
                have t421 := PG_dep t22
                refine lv_aload_n hx hb dX11_compare_154 rfl (lv_at hl 4 rfl) ?_
                refine cga (rn_V (As := []) (rest := []) (b := o) (m_sum l D Y Z H.size o a (upd (upd (upd (upd I 16 v399) 17 u403) 18 u6) 20 u404) J (vf_upd (vf_upd F 5 f8) 6 f9) G gs gb (gd + 1)  (show (0 ≤ v399.toInt ∧ v399.toInt ≤ 400) by omega) (show (0 ≤ (I 3).toInt ∧ (I 3).toInt ≤ 400) by omega) (show (v399.toInt ≤ (I 3).toInt) by omega) (show (0 ≤ u403.toInt ∧ u403.toInt ≤ 4000) by omega) (show (0 ≤ u404.toInt ∧ u404.toInt ≤ 60) by omega) (show (0 ≤ (I 19).toInt ∧ (I 19).toInt ≤ 17) by omega) (show ((f9 (I 19).toNatClampNeg).toInt ≤ v399.toInt) by omega) (PG_to t22 rfl (by omega) (by omega) (by omega))) ⟨hx, hb, hml, hown, hg⟩ lk_X11_271 ⟨CP.blind, va_recv hKN.1 hP (ci := 11) (q0 := 0) rfl rfl, CP.at hP hKN hD⟩ ⟨⟨rfl, rfl⟩, ⟨Nat.le_of_ble_eq_true rfl, Nat.le_of_ble_eq_true rfl⟩, ⟨Nat.le_of_ble_eq_true rfl, Nat.le_of_ble_eq_true rfl⟩⟩ hl.1 rfl (Nat.le_of_ble_eq_true rfl) dX11_compare_155) hP hD hS hA (fun u422 H locs w423 hP hD hS => ?_)
                obtain ⟨u424, u425, u426, u427, u428, f429, f430⟩ := u422
                have w423 : (0 ≤ u425.toInt ∧ u425.toInt ≤ 400) ∧ (v399.toInt ≤ u425.toInt) ∧ (u425.toInt ≤ (I 3).toInt) ∧ (0 ≤ u426.toInt ∧ u426.toInt ≤ 4000) ∧ (0 ≤ u428.toInt ∧ u428.toInt ≤ 60) ∧ (u404.toInt ≤ u428.toInt) ∧ (0 ≤ u424.toInt ∧ u424.toInt ≤ 1) ∧ (u424.toInt = 0 → 1 ≤ u426.toInt) ∧ (u424.toInt = 1 → (f430 (I 19).toNatClampNeg).toInt + v399.toInt ≤ (f9 (I 19).toNatClampNeg).toInt + u425.toInt) ∧ (u424.toInt = 1 → PSg (F 4) (F 8) (F 7) f429 f430 gs (I 19).toNatClampNeg gb ((gd + 1) + 1) (u428.toInt).toNat) ∧ TC (F 4) (F 8) (F 7) f429 := w423
                obtain ⟨hw431, hw432, hw433, hw434, hw435, hw436, hw437, hw438, hw439, hw440, hw441⟩ := w423
                refine W.eq (g2 := F0 m 158 ls [.int u424]) rfl ?_
                have hP : va_P D vwCl (MW Y o a (upd (upd (upd (upd I 16 u425) 17 u426) 18 u427) 20 u428) J (vf_upd (vf_upd F 5 f429) 6 f430) G) H := hP
                have hD : va_D A (MW Y o a (upd (upd (upd (upd I 16 u425) 17 u426) 18 u427) 20 u428) J (vf_upd (vf_upd F 5 f429) 6 f430) G) := hD
                rcases (show u424.toInt = 1 ∨ u424.toInt = 0 by omega) with c442 | c442
                · obtain rfl : u424 = 1 := i_is c442 (by decide)
                  have t443 := hw440 (by decide)
                  refine W.eq (g2 := F0 m 158 ls [.int 1]) rfl ?_
                  refine lv_if_ne (tgt := 163) hx hb dX11_compare_158 (by decide) (fun c444 => ?_) (fun c444 => ?_)
                  rotate_left
                  · exact absurd c444 (by decide)
                  refine lv_aload_n hx hb dX11_compare_163 rfl (lv_at hl 4 rfl) ?_
                  refine lv_bipush (v := 6) hx hb dX11_compare_164 (by decide) ?_
                  refine lv_iload hx hb dX11_compare_166 (lv_at hl 0 rfl) ?_
                  refine lv_iadd hx hb dX11_compare_168 ?_
                  refine lv_topi (fun z445 ez445 => ?_)
                  obtain rfl : z445 = 9 := ez445.trans (by decide)
                  refine lv_iconst (v := 0) hx hb dX11_compare_169 (by decide) ?_
                  have zi9 : (9 : Int32).toInt = 9 := by decide
                  have zi0 : (0 : Int32).toInt = 0 := by decide
                  refine cga (rn_V (As := [.int 9, .int 0]) (rest := []) (b := o) (m_puts l D Y Z H.size o a (upd (upd (upd (upd I 16 u425) 17 u426) 18 u427) 20 u428) J (vf_upd (vf_upd F 5 f429) 6 f430) G  9 0 (show (0 ≤ (I 19).toInt ∧ (I 19).toInt ≤ 17) by omega) (show (0 ≤ (9 : Int32).toInt ∧ (9 : Int32).toInt ≤ 15) by omega) (show (0 ≤ (0 : Int32).toInt ∧ (0 : Int32).toInt ≤ 99999) by omega) (show (0 ≤ (f430 (I 19).toNatClampNeg).toInt ∧ (f430 (I 19).toNatClampNeg).toInt ≤ 399) by omega)) ⟨hx, hb, hml, hown, hg⟩ lk_X11_250 ⟨CP.blind, va_recv hKN.1 hP (ci := 11) (q0 := 0) rfl rfl, CP.at hP hKN hD⟩ ⟨⟨rfl, rfl⟩, ⟨Nat.le_of_ble_eq_true rfl, Nat.le_of_ble_eq_true rfl⟩, ⟨Nat.le_of_ble_eq_true rfl, Nat.le_of_ble_eq_true rfl⟩⟩ hl.1 rfl (Nat.le_of_ble_eq_true rfl) dX11_compare_170) hP hD hS hA (fun u446 H locs w447 hP hD hS => ?_)
                  obtain ⟨f448, f449⟩ := u446
                  have w447 : PU f429 f448 f430 f449 (I 19).toNatClampNeg (9 : Int32).toInt (0 : Int32).toInt := w447
                  have hw450 := w447
                  refine W.eq (g2 := F0 m 173 ls []) rfl ?_
                  have hP : va_P D vwCl (MW Y o a (upd (upd (upd (upd I 16 u425) 17 u426) 18 u427) 20 u428) J (vf_upd (vf_upd F 5 f448) 6 f449) G) H := hP
                  have hD : va_D A (MW Y o a (upd (upd (upd (upd I 16 u425) 17 u426) 18 u427) 20 u428) J (vf_upd (vf_upd F 5 f448) 6 f449) G) := hD
                  have t451 := PG_pu (e := (((gd + 1) + 1) - 1)) (PG_to (md2 := u428.toInt.toNat) t443 rfl rfl (by omega) (by omega)) hw450 (fun x hx => stp_bin hx (by omega) (by omega) (by omega) (by omega) (by omega) (by omega) rfl) (by omega) (by omega)
                  obtain ⟨t451p, t451l⟩ := t451
                  refine lv_iconst (v := 1) hx hb dX11_compare_173 (by decide) ?_
                  refine W.widen (k := 0) (n := 0) (Nat.le_of_ble_eq_true rfl) (Nat.le_of_ble_eq_true rfl) ?_
                  exact W.zret (v := 1) hx hb hr (by decide) (fun t ht hW => ⟨⟨(1, u425, u426, u427, u428, f448, f449), rfl, ⟨(show (0 ≤ u425.toInt ∧ u425.toInt ≤ 400) by omega), (show ((I 16).toInt ≤ u425.toInt) by omega), (show (u425.toInt ≤ (I 3).toInt) by omega), (show (0 ≤ u426.toInt ∧ u426.toInt ≤ 4000) by omega), (show (0 ≤ u428.toInt ∧ u428.toInt ≤ 60) by omega), (show ((I 20).toInt ≤ u428.toInt) by omega), (show (0 ≤ (1 : Int32).toInt ∧ (1 : Int32).toInt ≤ 1) by omega), (show ((1 : Int32).toInt = 0 → 1 ≤ u426.toInt) by omega), (show ((1 : Int32).toInt = 1 → (f449 (I 19).toNatClampNeg).toInt + (I 16).toInt ≤ ((F 6) (I 19).toNatClampNeg).toInt + u425.toInt) by omega), (fun _ => (PG_to t451p rfl (by omega) (by omega) (by omega))), (PG_tc t451p)⟩, CB.mk ht hP hD⟩, hS.F ht⟩) hS.2.2 dX11_compare_174
                · obtain rfl : u424 = 0 := i_is c442 (by decide)
                  have zi0 : (0 : Int32).toInt = 0 := by decide
                  refine W.eq (g2 := F0 m 158 ls [.int 0]) rfl ?_
                  refine lv_if_ne (tgt := 163) hx hb dX11_compare_158 (by decide) (fun c452 => ?_) (fun c452 => ?_)
                  · exact absurd c452 (by decide)
                  refine lv_iconst (v := 0) hx hb dX11_compare_161 (by decide) ?_
                  refine W.widen (k := 0) (n := 0) (Nat.le_of_ble_eq_true rfl) (Nat.le_of_ble_eq_true rfl) ?_
                  exact W.zret (v := 0) hx hb hr (by decide) (fun t ht hW => ⟨⟨(0, u425, u426, u427, u428, f429, f430), rfl, ⟨(show (0 ≤ u425.toInt ∧ u425.toInt ≤ 400) by omega), (show ((I 16).toInt ≤ u425.toInt) by omega), (show (u425.toInt ≤ (I 3).toInt) by omega), (show (0 ≤ u426.toInt ∧ u426.toInt ≤ 4000) by omega), (show (0 ≤ u428.toInt ∧ u428.toInt ≤ 60) by omega), (show ((I 20).toInt ≤ u428.toInt) by omega), (show (0 ≤ (0 : Int32).toInt ∧ (0 : Int32).toInt ≤ 1) by omega), (show ((0 : Int32).toInt = 0 → 1 ≤ u426.toInt) by omega), (show ((0 : Int32).toInt = 1 → (f430 (I 19).toNatClampNeg).toInt + (I 16).toInt ≤ ((F 6) (I 19).toNatClampNeg).toInt + u425.toInt) by omega), (fun h => absurd h (by decide)), (PG_tc hw440)⟩, CB.mk ht hP hD⟩, hS.F ht⟩) hS.2.2 dX11_compare_162
              · obtain rfl : u402 = 0 := i_is c409 (by decide)
                have zi0 : (0 : Int32).toInt = 0 := by decide
                refine W.eq (g2 := F0 m 110 ls [.int 0]) rfl ?_
                refine lv_if_ne (tgt := 115) hx hb dX11_compare_110 (by decide) (fun c453 => ?_) (fun c453 => ?_)
                · exact absurd c453 (by decide)
                refine lv_iconst (v := 0) hx hb dX11_compare_113 (by decide) ?_
                refine W.widen (k := 0) (n := 0) (Nat.le_of_ble_eq_true rfl) (Nat.le_of_ble_eq_true rfl) ?_
                exact W.zret (v := 0) hx hb hr (by decide) (fun t ht hW => ⟨⟨(0, v399, u403, u6, u404, f8, f9), rfl, ⟨(show (0 ≤ v399.toInt ∧ v399.toInt ≤ 400) by omega), (show ((I 16).toInt ≤ v399.toInt) by omega), (show (v399.toInt ≤ (I 3).toInt) by omega), (show (0 ≤ u403.toInt ∧ u403.toInt ≤ 4000) by omega), (show (0 ≤ u404.toInt ∧ u404.toInt ≤ 60) by omega), (show ((I 20).toInt ≤ u404.toInt) by omega), (show (0 ≤ (0 : Int32).toInt ∧ (0 : Int32).toInt ≤ 1) by omega), (show ((0 : Int32).toInt = 0 → 1 ≤ u403.toInt) by omega), (show ((0 : Int32).toInt = 1 → (f9 (I 19).toNatClampNeg).toInt + (I 16).toInt ≤ ((F 6) (I 19).toNatClampNeg).toInt + v399.toInt) by omega), (fun h => absurd h (by decide)), (PG_tc t22)⟩, CB.mk ht hP hD⟩, hS.F ht⟩) hS.2.2 dX11_compare_114
        · skip
          have c266 := i_ne (Eq.refl u26.toInt) (show (62 : Int32).toInt = 62 by decide) c266
          refine lv_aload_n hx hb dX11_compare_37 rfl (lv_at hl 2 rfl) ?_
          refine lv_iconst (v := 0) hx hb dX11_compare_38 (by decide) ?_
          refine lv_iload_n hx hb dX11_compare_39 rfl (lv_at hl 0 rfl) ?_
          have zi0 : (0 : Int32).toInt = 0 := by decide
          refine cga (rn_V (As := [.int 0, .int u27]) (rest := []) (b := o) (m_fails l D Y Z H.size o a (upd (upd (upd (upd I 16 u27) 17 u5) 18 u6) 20 u7) J (vf_upd (vf_upd F 5 f8) 6 f9) G  0 u27 (show (0 ≤ (0 : Int32).toInt ∧ (0 : Int32).toInt ≤ 4) by omega) (show (0 ≤ u27.toInt ∧ u27.toInt ≤ 400) by omega) (show (0 ≤ u5.toInt ∧ u5.toInt ≤ 4000) by omega)) ⟨hx, hb, hml, hown, hg⟩ lk_X11_200 ⟨CP.blind, va_recv hKN.1 hP (ci := 11) (q0 := 0) rfl rfl, CP.at hP hKN hD⟩ ⟨⟨rfl, rfl⟩, ⟨Nat.le_of_ble_eq_true rfl, Nat.le_of_ble_eq_true rfl⟩, ⟨Nat.le_of_ble_eq_true rfl, Nat.le_of_ble_eq_true rfl⟩⟩ hl.1 rfl (Nat.le_of_ble_eq_true rfl) dX11_compare_40) hP hD hS hA (fun u454 H locs w455 hP hD hS => ?_)
          obtain ⟨u456, u457⟩ := u454
          have w455 : (u456.toInt = 0) ∧ (1 ≤ u457.toInt ∧ u457.toInt ≤ 4000) := w455
          obtain ⟨hw458, hw459⟩ := w455
          refine W.eq (g2 := F0 m 43 ls [.int u456]) rfl ?_
          have hP : va_P D vwCl (MW Y o a (upd (upd (upd (upd I 16 u27) 17 u457) 18 u6) 20 u7) J (vf_upd (vf_upd F 5 f8) 6 f9) G) H := hP
          have hD : va_D A (MW Y o a (upd (upd (upd (upd I 16 u27) 17 u457) 18 u6) 20 u7) J (vf_upd (vf_upd F 5 f8) 6 f9) G) := hD
          obtain rfl : u456 = 0 := i_is (X := 0) (by omega) (by decide)
          refine W.eq (g2 := F0 m 43 ls [.int 0]) rfl ?_
          refine W.widen (k := 0) (n := 0) (Nat.le_of_ble_eq_true rfl) (Nat.le_of_ble_eq_true rfl) ?_
          exact W.zret (v := 0) hx hb hr (by decide) (fun t ht hW => ⟨⟨(0, u27, u457, u6, u7, f8, f9), rfl, ⟨(show (0 ≤ u27.toInt ∧ u27.toInt ≤ 400) by omega), (show ((I 16).toInt ≤ u27.toInt) by omega), (show (u27.toInt ≤ (I 3).toInt) by omega), (show (0 ≤ u457.toInt ∧ u457.toInt ≤ 4000) by omega), (show (0 ≤ u7.toInt ∧ u7.toInt ≤ 60) by omega), (show ((I 20).toInt ≤ u7.toInt) by omega), (show (0 ≤ (0 : Int32).toInt ∧ (0 : Int32).toInt ≤ 1) by omega), (show ((0 : Int32).toInt = 0 → 1 ≤ u457.toInt) by omega), (show ((0 : Int32).toInt = 1 → (f9 (I 19).toNatClampNeg).toInt + (I 16).toInt ≤ ((F 6) (I 19).toNatClampNeg).toInt + u27.toInt) by omega), (fun h => absurd h (by decide)), (PG_tc t22)⟩, CB.mk ht hP hD⟩, hS.F ht⟩) hS.2.2 dX11_compare_43
  · obtain rfl : u3 = 0 := i_is c21 (by decide)
    have zi0 : (0 : Int32).toInt = 0 := by decide
    refine W.eq (g2 := F0 m 4 ls [.int 0]) rfl ?_
    refine lv_if_ne (tgt := 9) hx hb dX11_compare_4 (by decide) (fun c460 => ?_) (fun c460 => ?_)
    · exact absurd c460 (by decide)
    refine lv_iconst (v := 0) hx hb dX11_compare_7 (by decide) ?_
    refine W.widen (k := 0) (n := 0) (Nat.le_of_ble_eq_true rfl) (Nat.le_of_ble_eq_true rfl) ?_
    exact W.zret (v := 0) hx hb hr (by decide) (fun t ht hW => ⟨⟨(0, u4, u5, u6, u7, f8, f9), rfl, ⟨(show (0 ≤ u4.toInt ∧ u4.toInt ≤ 400) by omega), (show ((I 16).toInt ≤ u4.toInt) by omega), (show (u4.toInt ≤ (I 3).toInt) by omega), (show (0 ≤ u5.toInt ∧ u5.toInt ≤ 4000) by omega), (show (0 ≤ u7.toInt ∧ u7.toInt ≤ 60) by omega), (show ((I 20).toInt ≤ u7.toInt) by omega), (show (0 ≤ (0 : Int32).toInt ∧ (0 : Int32).toInt ≤ 1) by omega), (show ((0 : Int32).toInt = 0 → 1 ≤ u5.toInt) by omega), (show ((0 : Int32).toInt = 1 → (f9 (I 19).toNatClampNeg).toInt + (I 16).toInt ≤ ((F 6) (I 19).toNatClampNeg).toInt + u4.toInt) by omega), (fun h => absurd h (by decide)), (PG_tc hw19)⟩, CB.mk ht hP hD⟩, hS.F ht⟩) hS.2.2 dX11_compare_8
