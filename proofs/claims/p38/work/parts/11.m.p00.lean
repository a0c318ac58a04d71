set_option maxHeartbeats 4000000 in
set_option maxRecDepth 100000 in
theorem m_seasonAt (l : Launch) (D : va_G) (Y : Nat → ClassId) (Z : Nat → Nat) (sz : Nat)  (p0 : Int32) (p1 : Int32) (hk_0 : (0 ≤ p0.toInt ∧ p0.toInt ≤ 23)) (hk_1 : (0 ≤ p1.toInt ∧ p1.toInt ≤ 3)) : Met l yX11_seasonAt (.code yX11_seasonAt cX11_seasonAt 8 (some .int) :: GW) ({ frames := 0, cells := 0, slots := 0, locals := 0 }) (va_Pc [.int p0, .int p1] (CP D Y Z [] sz)) (QG (S := Int32) (fun u => some (.int u)) (fun u => (0 ≤ u.toInt ∧ u.toInt ≤ 3)) (fun u => CB D [] (va_A [] sz)) (va_A [] sz)) 0 0 (va_A [] sz) := by
  refine Met.ofW (cc := cX11_seasonAt) (maxL := 8) (ret := (some .int)) (by decide) rfl ?_
  intro p e s m args below meth c s₁ B hml hv
  obtain ⟨rfl, hsz, hP, hKN, hD0⟩ := hv
  have hx := B.exec
  have hb := B.bytes
  have hr := B.returns
  have hts := atoms_spec (ws := .code yX11_seasonAt cX11_seasonAt 8 (some .int) :: GW) B.pre
  have hg : ∀ w ∈ GW, w.before _ s = true := fun w h => hts w (List.mem_cons_of_mem _ h)
  have hown : s.vm.findClass RX11 = some m.cls := findClass_of_methodNamed B.named
  have hlocks := B.notSynchronized
  subst hsz
  have hD := hD0.self (sz := s.heap.size)
  generalize hAe : va_A [] s.heap.size = A at hD ⊢
  have hA : ∀ q : Nat, s.heap.size ≤ q → A q := fun q h => by rw [← hAe]; exact Or.inr h
  clear hAe hD0 hts B
  have hl := lv_entry ([.int p0, .int p1]) (n := 8) (Nat.le_of_ble_eq_true rfl)
  rw [lg_entry_eq]
  generalize (lg_sl ([.int p0, .int p1]) ++ List.replicate (8 - (lg_sl ([.int p0, .int p1])).length) Slot.unset).toArray = ls at hl ⊢
  have hl : lv_has ls 8 [(0, .int p0), (1, .int p1)] := hl
  refine w_start (A0 := A) hP (fun H locs hP hS => ?_)
  refine lv_iload_n hx hb dX11_seasonAt_0 rfl (lv_at hl 0 rfl) ?_
  refine lv_istore_n (lv' := [(2, .int p0), (0, .int p0), (1, .int p1)]) hx hb dX11_seasonAt_1 rfl hl (by decide) rfl (fun ls hl => ?_)
  refine lv_bipush (v := 15) hx hb dX11_seasonAt_2 (by decide) ?_
  refine lv_istore_n (lv' := [(3, .int 15), (2, .int p0), (0, .int p0), (1, .int p1)]) hx hb dX11_seasonAt_4 rfl hl (by decide) rfl (fun ls hl => ?_)
  refine lv_bipush (v := 6) hx hb dX11_seasonAt_5 (by decide) ?_
  refine lv_istore (lv' := [(4, .int 6), (3, .int 15), (2, .int p0), (0, .int p0), (1, .int p1)]) hx hb dX11_seasonAt_7 hl (by decide) rfl (fun ls hl => ?_)
  refine lv_iconst (v := 0) hx hb dX11_seasonAt_9 (by decide) ?_
  refine lv_istore (lv' := [(5, .int 0), (4, .int 6), (3, .int 15), (2, .int p0), (0, .int p0), (1, .int p1)]) hx hb dX11_seasonAt_10 hl (by decide) rfl (fun ls hl => ?_)
  refine lv_iconst (v := 0) hx hb dX11_seasonAt_12 (by decide) ?_
  refine lv_istore (lv' := [(6, .int 0), (5, .int 0), (4, .int 6), (3, .int 15), (2, .int p0), (0, .int p0), (1, .int p1)]) hx hb dX11_seasonAt_13 hl (by decide) rfl (fun ls hl => ?_)
  refine lv_iload hx hb dX11_seasonAt_15 (lv_at hl 0 rfl) ?_
  refine lv_iload_n hx hb dX11_seasonAt_17 rfl (lv_at hl 6 rfl) ?_
  refine lv_icmp_gt (tgt := 93) hx hb dX11_seasonAt_18 (by decide) (fun c1 => ?_) (fun c1 => ?_)
  · have c1 := i_lt (Eq.refl p1.toInt) (show (0 : Int32).toInt = 0 by decide) c1; exfalso; omega
  have c1 := i_nlt (Eq.refl p1.toInt) (show (0 : Int32).toInt = 0 by decide) c1
  refine lv_iload_n hx hb dX11_seasonAt_21 rfl (lv_at hl 4 rfl) ?_
  refine lv_iload hx hb dX11_seasonAt_22 (lv_at hl 2 rfl) ?_
  have zi6 : (6 : Int32).toInt = 6 := by decide
  refine lv_idiv hx hb dX11_seasonAt_24 (i_nz (show (6 : Int32).toInt = 6 by decide) (by omega)) ?_
  refine lv_topi (fun v2 ev2 => ?_)
  have hv2 := i_div (Eq.refl p0.toInt) (show (6 : Int32).toInt = 6 by decide) ev2 (by omega) (by omega)
  refine lv_istore (lv' := [(7, .int v2), (6, .int 0), (5, .int 0), (4, .int 6), (3, .int 15), (2, .int p0), (0, .int p0), (1, .int p1)]) hx hb dX11_seasonAt_25 hl (by decide) rfl (fun ls hl => ?_)
  rcases (show v2.toInt = 0 ∨ v2.toInt = 1 ∨ v2.toInt = 2 ∨ v2.toInt = 3 by omega) with c3 | c3 | c3 | c3
  · obtain rfl : v2 = 0 := i_is c3 (by decide)
    refine lv_iload_n hx hb dX11_seasonAt_27 rfl (lv_at hl 5 rfl) ?_
    refine lv_iload hx hb dX11_seasonAt_28 (lv_at hl 3 rfl) ?_
    refine lv_irem hx hb dX11_seasonAt_30 (i_nz (show (6 : Int32).toInt = 6 by decide) (by omega)) ?_
    refine lv_topi (fun v4 ev4 => ?_)
    have hv4 := i_rem (Eq.refl p0.toInt) (show (6 : Int32).toInt = 6 by decide) ev4 (by omega) (by omega)
    refine lv_istore_n (lv' := [(2, .int v4), (7, .int 0), (6, .int 0), (5, .int 0), (4, .int 6), (3, .int 15), (0, .int p0), (1, .int p1)]) hx hb dX11_seasonAt_31 rfl hl (by decide) rfl (fun ls hl => ?_)
    refine lv_iload hx hb dX11_seasonAt_32 (lv_at hl 2 rfl) ?_
    refine lv_if_ne (tgt := 41) hx hb dX11_seasonAt_34 (by decide) (fun c5 => ?_) (fun c5 => ?_)
    · exact absurd c5 (by decide)
    refine lv_iconst (v := 2) hx hb dX11_seasonAt_37 (by decide) ?_
    refine lv_goto (tgt := 42) hx hb dX11_seasonAt_38 (by decide) ?_
    refine lv_istore (lv' := [(4, .int 2), (2, .int v4), (7, .int 0), (6, .int 0), (5, .int 0), (3, .int 15), (0, .int p0), (1, .int p1)]) hx hb dX11_seasonAt_42 hl (by decide) rfl (fun ls hl => ?_)
    refine lv_iconst (v := 0) hx hb dX11_seasonAt_44 (by decide) ?_
    refine lv_istore (lv' := [(5, .int 0), (4, .int 2), (2, .int v4), (7, .int 0), (6, .int 0), (3, .int 15), (0, .int p0), (1, .int p1)]) hx hb dX11_seasonAt_45 hl (by decide) rfl (fun ls hl => ?_)
    refine lv_iload_n hx hb dX11_seasonAt_47 rfl (lv_at hl 5 rfl) ?_
    refine lv_iload hx hb dX11_seasonAt_48 (lv_at hl 0 rfl) ?_
    refine lv_ishr hx hb dX11_seasonAt_50 ?_
    refine lv_topi (fun z6 ez6 => ?_)
    obtain rfl : z6 = 15 := ez6.trans (by decide)
    refine lv_iconst (v := 1) hx hb dX11_seasonAt_51 (by decide) ?_
    refine lv_iand hx hb dX11_seasonAt_52 ?_
    refine lv_topi (fun z7 ez7 => ?_)
    obtain rfl : z7 = 1 := ez7.trans (by decide)
    refine lv_if_eq (tgt := 61) hx hb dX11_seasonAt_53 (by decide) (fun c8 => ?_) (fun c8 => ?_)
    · exact absurd c8 (by decide)
    refine lv_iload hx hb dX11_seasonAt_56 (lv_at hl 3 rfl) ?_
    refine lv_if_le (tgt := 78) hx hb dX11_seasonAt_58 (by decide) (fun c9 => ?_) (fun c9 => ?_)
    rotate_left
    · exact absurd c9 (by decide)
    refine lv_iload_n hx hb dX11_seasonAt_78 rfl (lv_at hl 5 rfl) ?_
    refine lv_iconst (v := 1) hx hb dX11_seasonAt_79 (by decide) ?_
    refine lv_iload hx hb dX11_seasonAt_80 (lv_at hl 0 rfl) ?_
    refine lv_ishl hx hb dX11_seasonAt_82 ?_
    refine lv_topi (fun z10 ez10 => ?_)
    obtain rfl : z10 = 1 := ez10.trans (by decide)
    refine lv_iconst (v := (-1)) hx hb dX11_seasonAt_83 (by decide) ?_
    refine lv_ixor hx hb dX11_seasonAt_84 ?_
    refine lv_topi (fun z11 ez11 => ?_)
    obtain rfl : z11 = (-2) := ez11.trans (by decide)
    refine lv_iand hx hb dX11_seasonAt_85 ?_
    refine lv_topi (fun z12 ez12 => ?_)
    obtain rfl : z12 = 14 := ez12.trans (by decide)
    refine lv_istore_n (lv' := [(3, .int 14), (5, .int 0), (4, .int 2), (2, .int v4), (7, .int 0), (6, .int 0), (0, .int p0), (1, .int p1)]) hx hb dX11_seasonAt_86 rfl hl (by decide) rfl (fun ls hl => ?_)
    refine lv_iinc (v := 1) (lv' := [(6, .int 1), (3, .int 14), (5, .int 0), (4, .int 2), (2, .int v4), (7, .int 0), (0, .int p0), (1, .int p1)]) hx hb dX11_seasonAt_87 hl (k := 5) rfl (by decide) (by decide) rfl (fun ls hl => ?_)
    refine lv_goto (tgt := 15) hx hb dX11_seasonAt_90 (by decide) ?_
    refine lv_iload hx hb dX11_seasonAt_15 (lv_at hl 0 rfl) ?_
    refine lv_iload_n hx hb dX11_seasonAt_17 rfl (lv_at hl 7 rfl) ?_
    refine lv_icmp_gt (tgt := 93) hx hb dX11_seasonAt_18 (by decide) (fun c13 => ?_) (fun c13 => ?_)
    · skip
      have c13 := i_lt (Eq.refl p1.toInt) (show (1 : Int32).toInt = 1 by decide) c13
      refine lv_iload hx hb dX11_seasonAt_93 (lv_at hl 2 rfl) ?_
      refine W.widen (k := 0) (n := 0) (Nat.le_of_ble_eq_true rfl) (Nat.le_of_ble_eq_true rfl) ?_
      have zi0 : (0 : Int32).toInt = 0 := by decide
      exact W.iret (v := 0) hx hb hr (fun t ht hW => ⟨⟨0, rfl, ((show (0 ≤ (0 : Int32).toInt ∧ (0 : Int32).toInt ≤ 3) by omega)), CB.nil⟩, hS.F ht⟩) hS.2.2 dX11_seasonAt_95
    · skip
      have c13 := i_nlt (Eq.refl p1.toInt) (show (1 : Int32).toInt = 1 by decide) c13
      refine lv_iload_n hx hb dX11_seasonAt_21 rfl (lv_at hl 4 rfl) ?_
      refine lv_iload hx hb dX11_seasonAt_22 (lv_at hl 3 rfl) ?_
      have zi2 : (2 : Int32).toInt = 2 := by decide
      refine lv_idiv hx hb dX11_seasonAt_24 (i_nz (show (2 : Int32).toInt = 2 by decide) (by omega)) ?_
      refine lv_topi (fun v14 ev14 => ?_)
      have hv14 := i_div (Eq.refl v4.toInt) (show (2 : Int32).toInt = 2 by decide) ev14 (by omega) (by omega)
      refine lv_istore (lv' := [(7, .int v14), (6, .int 1), (3, .int 14), (5, .int 0), (4, .int 2), (2, .int v4), (0, .int p0), (1, .int p1)]) hx hb dX11_seasonAt_25 hl (by decide) rfl (fun ls hl => ?_)
      rcases (show v14.toInt = 0 ∨ v14.toInt = 1 ∨ v14.toInt = 2 by omega) with c15 | c15 | c15
      · obtain rfl : v14 = 0 := i_is c15 (by decide)
        refine lv_iload_n hx hb dX11_seasonAt_27 rfl (lv_at hl 5 rfl) ?_
        refine lv_iload hx hb dX11_seasonAt_28 (lv_at hl 4 rfl) ?_
        refine lv_irem hx hb dX11_seasonAt_30 (i_nz (show (2 : Int32).toInt = 2 by decide) (by omega)) ?_
        refine lv_topi (fun v16 ev16 => ?_)
        have hv16 := i_rem (Eq.refl v4.toInt) (show (2 : Int32).toInt = 2 by decide) ev16 (by omega) (by omega)
        refine lv_istore_n (lv' := [(2, .int v16), (7, .int 0), (6, .int 1), (3, .int 14), (5, .int 0), (4, .int 2), (0, .int p0), (1, .int p1)]) hx hb dX11_seasonAt_31 rfl hl (by decide) rfl (fun ls hl => ?_)
        refine lv_iload hx hb dX11_seasonAt_32 (lv_at hl 2 rfl) ?_
        refine lv_if_ne (tgt := 41) hx hb dX11_seasonAt_34 (by decide) (fun c17 => ?_) (fun c17 => ?_)
        rotate_left
        · exact absurd c17 (by decide)
        refine lv_iconst (v := 1) hx hb dX11_seasonAt_41 (by decide) ?_
        refine lv_istore (lv' := [(4, .int 1), (2, .int v16), (7, .int 0), (6, .int 1), (3, .int 14), (5, .int 0), (0, .int p0), (1, .int p1)]) hx hb dX11_seasonAt_42 hl (by decide) rfl (fun ls hl => ?_)
        refine lv_iconst (v := 0) hx hb dX11_seasonAt_44 (by decide) ?_
        refine lv_istore (lv' := [(5, .int 0), (4, .int 1), (2, .int v16), (7, .int 0), (6, .int 1), (3, .int 14), (0, .int p0), (1, .int p1)]) hx hb dX11_seasonAt_45 hl (by decide) rfl (fun ls hl => ?_)
        refine lv_iload_n hx hb dX11_seasonAt_47 rfl (lv_at hl 5 rfl) ?_
        refine lv_iload hx hb dX11_seasonAt_48 (lv_at hl 0 rfl) ?_
        refine lv_ishr hx hb dX11_seasonAt_50 ?_
        refine lv_topi (fun z18 ez18 => ?_)
        obtain rfl : z18 = 14 := ez18.trans (by decide)
        refine lv_iconst (v := 1) hx hb dX11_seasonAt_51 (by decide) ?_
        refine lv_iand hx hb dX11_seasonAt_52 ?_
        refine lv_topi (fun z19 ez19 => ?_)
        obtain rfl : z19 = 0 := ez19.trans (by decide)
        refine lv_if_eq (tgt := 61) hx hb dX11_seasonAt_53 (by decide) (fun c20 => ?_) (fun c20 => ?_)
        rotate_left
        · exact absurd c20 (by decide)
        refine lv_iload hx hb dX11_seasonAt_61 (lv_at hl 3 rfl) ?_
        refine lv_iload_n hx hb dX11_seasonAt_63 rfl (lv_at hl 5 rfl) ?_
        refine lv_iload hx hb dX11_seasonAt_64 (lv_at hl 0 rfl) ?_
        refine lv_ishr hx hb dX11_seasonAt_66 ?_
        refine lv_topi (fun z21 ez21 => ?_)
        obtain rfl : z21 = 14 := ez21.trans (by decide)
        refine lv_iconst (v := 1) hx hb dX11_seasonAt_67 (by decide) ?_
        refine lv_iand hx hb dX11_seasonAt_68 ?_
        refine lv_topi (fun z22 ez22 => ?_)
        obtain rfl : z22 = 0 := ez22.trans (by decide)
        refine lv_isub hx hb dX11_seasonAt_69 ?_
        refine lv_topi (fun z23 ez23 => ?_)
        obtain rfl : z23 = 0 := ez23.trans (by decide)
        refine lv_istore (lv' := [(7, .int 0), (5, .int 0), (4, .int 1), (2, .int v16), (6, .int 1), (3, .int 14), (0, .int p0), (1, .int p1)]) hx hb dX11_seasonAt_70 hl (by decide) rfl (fun ls hl => ?_)
        refine lv_iinc (v := 1) (lv' := [(5, .int 1), (7, .int 0), (4, .int 1), (2, .int v16), (6, .int 1), (3, .int 14), (0, .int p0), (1, .int p1)]) hx hb dX11_seasonAt_72 hl (k := 1) rfl (by decide) (by decide) rfl (fun ls hl => ?_)
        refine lv_goto (tgt := 47) hx hb dX11_seasonAt_75 (by decide) ?_
        refine lv_iload_n hx hb dX11_seasonAt_47 rfl (lv_at hl 5 rfl) ?_
        refine lv_iload hx hb dX11_seasonAt_48 (lv_at hl 0 rfl) ?_
        refine lv_ishr hx hb dX11_seasonAt_50 ?_
        refine lv_topi (fun z24 ez24 => ?_)
        obtain rfl : z24 = 7 := ez24.trans (by decide)
        refine lv_iconst (v := 1) hx hb dX11_seasonAt_51 (by decide) ?_
        refine lv_iand hx hb dX11_seasonAt_52 ?_
        refine lv_topi (fun z25 ez25 => ?_)
        obtain rfl : z25 = 1 := ez25.trans (by decide)
        refine lv_if_eq (tgt := 61) hx hb dX11_seasonAt_53 (by decide) (fun c26 => ?_) (fun c26 => ?_)
        · exact absurd c26 (by decide)
        refine lv_iload hx hb dX11_seasonAt_56 (lv_at hl 1 rfl) ?_
        refine lv_if_le (tgt := 78) hx hb dX11_seasonAt_58 (by decide) (fun c27 => ?_) (fun c27 => ?_)
        rotate_left
        · exact absurd c27 (by decide)
        refine lv_iload_n hx hb dX11_seasonAt_78 rfl (lv_at hl 5 rfl) ?_
        refine lv_iconst (v := 1) hx hb dX11_seasonAt_79 (by decide) ?_
        refine lv_iload hx hb dX11_seasonAt_80 (lv_at hl 0 rfl) ?_
        refine lv_ishl hx hb dX11_seasonAt_82 ?_
        refine lv_topi (fun z28 ez28 => ?_)
        obtain rfl : z28 = 2 := ez28.trans (by decide)
        refine lv_iconst (v := (-1)) hx hb dX11_seasonAt_83 (by decide) ?_
        refine lv_ixor hx hb dX11_seasonAt_84 ?_
        refine lv_topi (fun z29 ez29 => ?_)
        obtain rfl : z29 = (-3) := ez29.trans (by decide)
        refine lv_iand hx hb dX11_seasonAt_85 ?_
        refine lv_topi (fun z30 ez30 => ?_)
        obtain rfl : z30 = 12 := ez30.trans (by decide)
        refine lv_istore_n (lv' := [(3, .int 12), (5, .int 1), (7, .int 0), (4, .int 1), (2, .int v16), (6, .int 1), (0, .int p0), (1, .int p1)]) hx hb dX11_seasonAt_86 rfl hl (by decide) rfl (fun ls hl => ?_)
        refine lv_iinc (v := 2) (lv' := [(6, .int 2), (3, .int 12), (5, .int 1), (7, .int 0), (4, .int 1), (2, .int v16), (0, .int p0), (1, .int p1)]) hx hb dX11_seasonAt_87 hl (k := 5) rfl (by decide) (by decide) rfl (fun ls hl => ?_)
        refine lv_goto (tgt := 15) hx hb dX11_seasonAt_90 (by decide) ?_
        refine lv_iload hx hb dX11_seasonAt_15 (lv_at hl 0 rfl) ?_
        refine lv_iload_n hx hb dX11_seasonAt_17 rfl (lv_at hl 7 rfl) ?_
        refine lv_icmp_gt (tgt := 93) hx hb dX11_seasonAt_18 (by decide) (fun c31 => ?_) (fun c31 => ?_)
        · skip
          have c31 := i_lt (Eq.refl p1.toInt) (show (2 : Int32).toInt = 2 by decide) c31
          refine lv_iload hx hb dX11_seasonAt_93 (lv_at hl 2 rfl) ?_
          refine W.widen (k := 0) (n := 0) (Nat.le_of_ble_eq_true rfl) (Nat.le_of_ble_eq_true rfl) ?_
          have zi1 : (1 : Int32).toInt = 1 := by decide
          exact W.iret (v := 1) hx hb hr (fun t ht hW => ⟨⟨1, rfl, ((show (0 ≤ (1 : Int32).toInt ∧ (1 : Int32).toInt ≤ 3) by omega)), CB.nil⟩, hS.F ht⟩) hS.2.2 dX11_seasonAt_95
        · skip
          have c31 := i_nlt (Eq.refl p1.toInt) (show (2 : Int32).toInt = 2 by decide) c31
          refine lv_iload_n hx hb dX11_seasonAt_21 rfl (lv_at hl 5 rfl) ?_
          refine lv_iload hx hb dX11_seasonAt_22 (lv_at hl 4 rfl) ?_
          have zi1 : (1 : Int32).toInt = 1 := by decide
          refine lv_idiv hx hb dX11_seasonAt_24 (i_nz (show (1 : Int32).toInt = 1 by decide) (by omega)) ?_
          refine lv_topi (fun v32 ev32 => ?_)
          have hv32 := i_div (Eq.refl v16.toInt) (show (1 : Int32).toInt = 1 by decide) ev32 (by omega) (by omega)
          refine lv_istore (lv' := [(7, .int v32), (6, .int 2), (3, .int 12), (5, .int 1), (4, .int 1), (2, .int v16), (0, .int p0), (1, .int p1)]) hx hb dX11_seasonAt_25 hl (by decide) rfl (fun ls hl => ?_)
          rcases (show v32.toInt = 0 ∨ v32.toInt = 1 by omega) with c33 | c33
          · obtain rfl : v32 = 0 := i_is c33 (by decide)
            refine lv_iload_n hx hb dX11_seasonAt_27 rfl (lv_at hl 5 rfl) ?_
            refine lv_iload hx hb dX11_seasonAt_28 (lv_at hl 4 rfl) ?_
            refine lv_irem hx hb dX11_seasonAt_30 (i_nz (show (1 : Int32).toInt = 1 by decide) (by omega)) ?_
            refine lv_topi (fun v34 ev34 => ?_)
            have hv34 := i_rem (Eq.refl v16.toInt) (show (1 : Int32).toInt = 1 by decide) ev34 (by omega) (by omega)
            refine lv_istore_n (lv' := [(2, .int v34), (7, .int 0), (6, .int 2), (3, .int 12), (5, .int 1), (4, .int 1), (0, .int p0), (1, .int p1)]) hx hb dX11_seasonAt_31 rfl hl (by decide) rfl (fun ls hl => ?_)
            refine lv_iload hx hb dX11_seasonAt_32 (lv_at hl 2 rfl) ?_
            refine lv_if_ne (tgt := 41) hx hb dX11_seasonAt_34 (by decide) (fun c35 => ?_) (fun c35 => ?_)
            rotate_left
            · exact absurd c35 (by decide)
            refine lv_iconst (v := 1) hx hb dX11_seasonAt_41 (by decide) ?_
            refine lv_istore (lv' := [(4, .int 1), (2, .int v34), (7, .int 0), (6, .int 2), (3, .int 12), (5, .int 1), (0, .int p0), (1, .int p1)]) hx hb dX11_seasonAt_42 hl (by decide) rfl (fun ls hl => ?_)
            refine lv_iconst (v := 0) hx hb dX11_seasonAt_44 (by decide) ?_
            refine lv_istore (lv' := [(5, .int 0), (4, .int 1), (2, .int v34), (7, .int 0), (6, .int 2), (3, .int 12), (0, .int p0), (1, .int p1)]) hx hb dX11_seasonAt_45 hl (by decide) rfl (fun ls hl => ?_)
            refine lv_iload_n hx hb dX11_seasonAt_47 rfl (lv_at hl 5 rfl) ?_
            refine lv_iload hx hb dX11_seasonAt_48 (lv_at hl 0 rfl) ?_
            refine lv_ishr hx hb dX11_seasonAt_50 ?_
            refine lv_topi (fun z36 ez36 => ?_)
            obtain rfl : z36 = 12 := ez36.trans (by decide)
            refine lv_iconst (v := 1) hx hb dX11_seasonAt_51 (by decide) ?_
            refine lv_iand hx hb dX11_seasonAt_52 ?_
            refine lv_topi (fun z37 ez37 => ?_)
            obtain rfl : z37 = 0 := ez37.trans (by decide)
            refine lv_if_eq (tgt := 61) hx hb dX11_seasonAt_53 (by decide) (fun c38 => ?_) (fun c38 => ?_)
            rotate_left
            · exact absurd c38 (by decide)
            refine lv_iload hx hb dX11_seasonAt_61 (lv_at hl 3 rfl) ?_
            refine lv_iload_n hx hb dX11_seasonAt_63 rfl (lv_at hl 5 rfl) ?_
            refine lv_iload hx hb dX11_seasonAt_64 (lv_at hl 0 rfl) ?_
            refine lv_ishr hx hb dX11_seasonAt_66 ?_
            refine lv_topi (fun z39 ez39 => ?_)
            obtain rfl : z39 = 12 := ez39.trans (by decide)
            refine lv_iconst (v := 1) hx hb dX11_seasonAt_67 (by decide) ?_
            refine lv_iand hx hb dX11_seasonAt_68 ?_
            refine lv_topi (fun z40 ez40 => ?_)
            obtain rfl : z40 = 0 := ez40.trans (by decide)
            refine lv_isub hx hb dX11_seasonAt_69 ?_
            refine lv_topi (fun z41 ez41 => ?_)
            obtain rfl : z41 = 0 := ez41.trans (by decide)
            refine lv_istore (lv' := [(7, .int 0), (5, .int 0), (4, .int 1), (2, .int v34), (6, .int 2), (3, .int 12), (0, .int p0), (1, .int p1)]) hx hb dX11_seasonAt_70 hl (by decide) rfl (fun ls hl => ?_)
            refine lv_iinc (v := 1) (lv' := [(5, .int 1), (7, .int 0), (4, .int 1), (2, .int v34), (6, .int 2), (3, .int 12), (0, .int p0), (1, .int p1)]) hx hb dX11_seasonAt_72 hl (k := 1) rfl (by decide) (by decide) rfl (fun ls hl => ?_)
            refine lv_goto (tgt := 47) hx hb dX11_seasonAt_75 (by decide) ?_
            refine lv_iload_n hx hb dX11_seasonAt_47 rfl (lv_at hl 5 rfl) ?_
            refine lv_iload hx hb dX11_seasonAt_48 (lv_at hl 0 rfl) ?_
            refine lv_ishr hx hb dX11_seasonAt_50 ?_
            refine lv_topi (fun z42 ez42 => ?_)
            obtain rfl : z42 = 6 := ez42.trans (by decide)
            refine lv_iconst (v := 1) hx hb dX11_seasonAt_51 (by decide) ?_
            refine lv_iand hx hb dX11_seasonAt_52 ?_
            refine lv_topi (fun z43 ez43 => ?_)
            obtain rfl : z43 = 0 := ez43.trans (by decide)
            refine lv_if_eq (tgt := 61) hx hb dX11_seasonAt_53 (by decide) (fun c44 => ?_) (fun c44 => ?_)
            rotate_left
            · exact absurd c44 (by decide)
            refine lv_iload hx hb dX11_seasonAt_61 (lv_at hl 1 rfl) ?_
            refine lv_iload_n hx hb dX11_seasonAt_63 rfl (lv_at hl 5 rfl) ?_
            refine lv_iload hx hb dX11_seasonAt_64 (lv_at hl 0 rfl) ?_
            refine lv_ishr hx hb dX11_seasonAt_66 ?_
            refine lv_topi (fun z45 ez45 => ?_)
            obtain rfl : z45 = 6 := ez45.trans (by decide)
            refine lv_iconst (v := 1) hx hb dX11_seasonAt_67 (by decide) ?_
            refine lv_iand hx hb dX11_seasonAt_68 ?_
            refine lv_topi (fun z46 ez46 => ?_)
            obtain rfl : z46 = 0 := ez46.trans (by decide)
            refine lv_isub hx hb dX11_seasonAt_69 ?_
            refine lv_topi (fun z47 ez47 => ?_)
            obtain rfl : z47 = 0 := ez47.trans (by decide)
            refine lv_istore (lv' := [(7, .int 0), (5, .int 1), (4, .int 1), (2, .int v34), (6, .int 2), (3, .int 12), (0, .int p0), (1, .int p1)]) hx hb dX11_seasonAt_70 hl (by decide) rfl (fun ls hl => ?_)
            refine lv_iinc (v := 2) (lv' := [(5, .int 2), (7, .int 0), (4, .int 1), (2, .int v34), (6, .int 2), (3, .int 12), (0, .int p0), (1, .int p1)]) hx hb dX11_seasonAt_72 hl (k := 1) rfl (by decide) (by decide) rfl (fun ls hl => ?_)
            refine lv_goto (tgt := 47) hx hb dX11_seasonAt_75 (by decide) ?_
            refine lv_iload_n hx hb dX11_seasonAt_47 rfl (lv_at hl 5 rfl) ?_
            refine lv_iload hx hb dX11_seasonAt_48 (lv_at hl 0 rfl) ?_
            refine lv_ishr hx hb dX11_seasonAt_50 ?_
            refine lv_topi (fun z48 ez48 => ?_)
            obtain rfl : z48 = 3 := ez48.trans (by decide)
            refine lv_iconst (v := 1) hx hb dX11_seasonAt_51 (by decide) ?_
            refine lv_iand hx hb dX11_seasonAt_52 ?_
            refine lv_topi (fun z49 ez49 => ?_)
            obtain rfl : z49 = 1 := ez49.trans (by decide)
            refine lv_if_eq (tgt := 61) hx hb dX11_seasonAt_53 (by decide) (fun c50 => ?_) (fun c50 => ?_)
            · exact absurd c50 (by decide)
            refine lv_iload hx hb dX11_seasonAt_56 (lv_at hl 1 rfl) ?_
            refine lv_if_le (tgt := 78) hx hb dX11_seasonAt_58 (by decide) (fun c51 => ?_) (fun c51 => ?_)
            rotate_left
            · exact absurd c51 (by decide)
            refine lv_iload_n hx hb dX11_seasonAt_78 rfl (lv_at hl 5 rfl) ?_
            refine lv_iconst (v := 1) hx hb dX11_seasonAt_79 (by decide) ?_
            refine lv_iload hx hb dX11_seasonAt_80 (lv_at hl 0 rfl) ?_
            refine lv_ishl hx hb dX11_seasonAt_82 ?_
            refine lv_topi (fun z52 ez52 => ?_)
            obtain rfl : z52 = 4 := ez52.trans (by decide)
            refine lv_iconst (v := (-1)) hx hb dX11_seasonAt_83 (by decide) ?_
            refine lv_ixor hx hb dX11_seasonAt_84 ?_
            refine lv_topi (fun z53 ez53 => ?_)
            obtain rfl : z53 = (-5) := ez53.trans (by decide)
            refine lv_iand hx hb dX11_seasonAt_85 ?_
            refine lv_topi (fun z54 ez54 => ?_)
            obtain rfl : z54 = 8 := ez54.trans (by decide)
            refine lv_istore_n (lv' := [(3, .int 8), (5, .int 2), (7, .int 0), (4, .int 1), (2, .int v34), (6, .int 2), (0, .int p0), (1, .int p1)]) hx hb dX11_seasonAt_86 rfl hl (by decide) rfl (fun ls hl => ?_)
            refine lv_iinc (v := 3) (lv' := [(6, .int 3), (3, .int 8), (5, .int 2), (7, .int 0), (4, .int 1), (2, .int v34), (0, .int p0), (1, .int p1)]) hx hb dX11_seasonAt_87 hl (k := 5) rfl (by decide) (by decide) rfl (fun ls hl => ?_)
            refine lv_goto (tgt := 15) hx hb dX11_seasonAt_90 (by decide) ?_
            refine lv_iload hx hb dX11_seasonAt_15 (lv_at hl 0 rfl) ?_
            refine lv_iload_n hx hb dX11_seasonAt_17 rfl (lv_at hl 7 rfl) ?_
            refine lv_icmp_gt (tgt := 93) hx hb dX11_seasonAt_18 (by decide) (fun c55 => ?_) (fun c55 => ?_)
            · skip
              have c55 := i_lt (Eq.refl p1.toInt) (show (3 : Int32).toInt = 3 by decide) c55
              refine lv_iload hx hb dX11_seasonAt_93 (lv_at hl 2 rfl) ?_
              refine W.widen (k := 0) (n := 0) (Nat.le_of_ble_eq_true rfl) (Nat.le_of_ble_eq_true rfl) ?_
              exact W.iret (v := 2) hx hb hr (fun t ht hW => ⟨⟨2, rfl, ((show (0 ≤ (2 : Int32).toInt ∧ (2 : Int32).toInt ≤ 3) by omega)), CB.nil⟩, hS.F ht⟩) hS.2.2 dX11_seasonAt_95
            · skip
              have c55 := i_nlt (Eq.refl p1.toInt) (show (3 : Int32).toInt = 3 by decide) c55
              refine lv_iload_n hx hb dX11_seasonAt_21 rfl (lv_at hl 5 rfl) ?_
              refine lv_iload hx hb dX11_seasonAt_22 (lv_at hl 4 rfl) ?_
              refine lv_idiv hx hb dX11_seasonAt_24 (i_nz (show (1 : Int32).toInt = 1 by decide) (by omega)) ?_
              refine lv_topi (fun v56 ev56 => ?_)
              have hv56 := i_div (Eq.refl v34.toInt) (show (1 : Int32).toInt = 1 by decide) ev56 (by omega) (by omega)
              refine lv_istore (lv' := [(7, .int v56), (6, .int 3), (3, .int 8), (5, .int 2), (4, .int 1), (2, .int v34), (0, .int p0), (1, .int p1)]) hx hb dX11_seasonAt_25 hl (by decide) rfl (fun ls hl => ?_)
              rcases (show v56.toInt = 0 by omega) with c57
              · obtain rfl : v56 = 0 := i_is c57 (by decide)
                refine lv_iload_n hx hb dX11_seasonAt_27 rfl (lv_at hl 5 rfl) ?_
                refine lv_iload hx hb dX11_seasonAt_28 (lv_at hl 4 rfl) ?_
                refine lv_irem hx hb dX11_seasonAt_30 (i_nz (show (1 : Int32).toInt = 1 by decide) (by omega)) ?_
                refine lv_topi (fun v58 ev58 => ?_)
                have hv58 := i_rem (Eq.refl v34.toInt) (show (1 : Int32).toInt = 1 by decide) ev58 (by omega) (by omega)
                refine lv_istore_n (lv' := [(2, .int v58), (7, .int 0), (6, .int 3), (3, .int 8), (5, .int 2), (4, .int 1), (0, .int p0), (1, .int p1)]) hx hb dX11_seasonAt_31 rfl hl (by decide) rfl (fun ls hl => ?_)
                refine lv_iload hx hb dX11_seasonAt_32 (lv_at hl 2 rfl) ?_
                refine lv_if_ne (tgt := 41) hx hb dX11_seasonAt_34 (by decide) (fun c59 => ?_) (fun c59 => ?_)
                rotate_left
                · exact absurd c59 (by decide)
                refine lv_iconst (v := 1) hx hb dX11_seasonAt_41 (by decide) ?_
                refine lv_istore (lv' := [(4, .int 1), (2, .int v58), (7, .int 0), (6, .int 3), (3, .int 8), (5, .int 2), (0, .int p0), (1, .int p1)]) hx hb dX11_seasonAt_42 hl (by decide) rfl (fun ls hl => ?_)
                refine lv_iconst (v := 0) hx hb dX11_seasonAt_44 (by decide) ?_
                refine lv_istore (lv' := [(5, .int 0), (4, .int 1), (2, .int v58), (7, .int 0), (6, .int 3), (3, .int 8), (0, .int p0), (1, .int p1)]) hx hb dX11_seasonAt_45 hl (by decide) rfl (fun ls hl => ?_)
                refine lv_iload_n hx hb dX11_seasonAt_47 rfl (lv_at hl 5 rfl) ?_
                refine lv_iload hx hb dX11_seasonAt_48 (lv_at hl 0 rfl) ?_
                refine lv_ishr hx hb dX11_seasonAt_50 ?_
                refine lv_topi (fun z60 ez60 => ?_)
                obtain rfl : z60 = 8 := ez60.trans (by decide)
                refine lv_iconst (v := 1) hx hb dX11_seasonAt_51 (by decide) ?_
                refine lv_iand hx hb dX11_seasonAt_52 ?_
                refine lv_topi (fun z61 ez61 => ?_)
                obtain rfl : z61 = 0 := ez61.trans (by decide)
                refine lv_if_eq (tgt := 61) hx hb dX11_seasonAt_53 (by decide) (fun c62 => ?_) (fun c62 => ?_)
                rotate_left
                · exact absurd c62 (by decide)
                refine lv_iload hx hb dX11_seasonAt_61 (lv_at hl 3 rfl) ?_
                refine lv_iload_n hx hb dX11_seasonAt_63 rfl (lv_at hl 5 rfl) ?_
                refine lv_iload hx hb dX11_seasonAt_64 (lv_at hl 0 rfl) ?_
                refine lv_ishr hx hb dX11_seasonAt_66 ?_
                refine lv_topi (fun z63 ez63 => ?_)
                obtain rfl : z63 = 8 := ez63.trans (by decide)
                refine lv_iconst (v := 1) hx hb dX11_seasonAt_67 (by decide) ?_
                refine lv_iand hx hb dX11_seasonAt_68 ?_
                refine lv_topi (fun z64 ez64 => ?_)
                obtain rfl : z64 = 0 := ez64.trans (by decide)
                refine lv_isub hx hb dX11_seasonAt_69 ?_
                refine lv_topi (fun z65 ez65 => ?_)
                obtain rfl : z65 = 0 := ez65.trans (by decide)
                refine lv_istore (lv' := [(7, .int 0), (5, .int 0), (4, .int 1), (2, .int v58), (6, .int 3), (3, .int 8), (0, .int p0), (1, .int p1)]) hx hb dX11_seasonAt_70 hl (by decide) rfl (fun ls hl => ?_)
                refine lv_iinc (v := 1) (lv' := [(5, .int 1), (7, .int 0), (4, .int 1), (2, .int v58), (6, .int 3), (3, .int 8), (0, .int p0), (1, .int p1)]) hx hb dX11_seasonAt_72 hl (k := 1) rfl (by decide) (by decide) rfl (fun ls hl => ?_)
                refine lv_goto (tgt := 47) hx hb dX11_seasonAt_75 (by decide) ?_
                refine lv_iload_n hx hb dX11_seasonAt_47 rfl (lv_at hl 5 rfl) ?_
                refine lv_iload hx hb dX11_seasonAt_48 (lv_at hl 0 rfl) ?_
                refine lv_ishr hx hb dX11_seasonAt_50 ?_
                refine lv_topi (fun z66 ez66 => ?_)
                obtain rfl : z66 = 4 := ez66.trans (by decide)
                refine lv_iconst (v := 1) hx hb dX11_seasonAt_51 (by decide) ?_
                refine lv_iand hx hb dX11_seasonAt_52 ?_
                refine lv_topi (fun z67 ez67 => ?_)
                obtain rfl : z67 = 0 := ez67.trans (by decide)
                refine lv_if_eq (tgt := 61) hx hb dX11_seasonAt_53 (by decide) (fun c68 => ?_) (fun c68 => ?_)
                rotate_left
                · exact absurd c68 (by decide)
                refine lv_iload hx hb dX11_seasonAt_61 (lv_at hl 1 rfl) ?_
                refine lv_iload_n hx hb dX11_seasonAt_63 rfl (lv_at hl 5 rfl) ?_
                refine lv_iload hx hb dX11_seasonAt_64 (lv_at hl 0 rfl) ?_
                refine lv_ishr hx hb dX11_seasonAt_66 ?_
                refine lv_topi (fun z69 ez69 => ?_)
                obtain rfl : z69 = 4 := ez69.trans (by decide)
                refine lv_iconst (v := 1) hx hb dX11_seasonAt_67 (by decide) ?_
                refine lv_iand hx hb dX11_seasonAt_68 ?_
                refine lv_topi (fun z70 ez70 => ?_)
                obtain rfl : z70 = 0 := ez70.trans (by decide)
                refine lv_isub hx hb dX11_seasonAt_69 ?_
                refine lv_topi (fun z71 ez71 => ?_)
                obtain rfl : z71 = 0 := ez71.trans (by decide)
                refine lv_istore (lv' := [(7, .int 0), (5, .int 1), (4, .int 1), (2, .int v58), (6, .int 3), (3, .int 8), (0, .int p0), (1, .int p1)]) hx hb dX11_seasonAt_70 hl (by decide) rfl (fun ls hl => ?_)
                refine lv_iinc (v := 2) (lv' := [(5, .int 2), (7, .int 0), (4, .int 1), (2, .int v58), (6, .int 3), (3, .int 8), (0, .int p0), (1, .int p1)]) hx hb dX11_seasonAt_72 hl (k := 1) rfl (by decide) (by decide) rfl (fun ls hl => ?_)
                refine lv_goto (tgt := 47) hx hb dX11_seasonAt_75 (by decide) ?_
                refine lv_iload_n hx hb dX11_seasonAt_47 rfl (lv_at hl 5 rfl) ?_
                refine lv_iload hx hb dX11_seasonAt_48 (lv_at hl 0 rfl) ?_
                refine lv_ishr hx hb dX11_seasonAt_50 ?_
                refine lv_topi (fun z72 ez72 => ?_)
                obtain rfl : z72 = 2 := ez72.trans (by decide)
                refine lv_iconst (v := 1) hx hb dX11_seasonAt_51 (by decide) ?_
                refine lv_iand hx hb dX11_seasonAt_52 ?_
                refine lv_topi (fun z73 ez73 => ?_)
                obtain rfl : z73 = 0 := ez73.trans (by decide)
                refine lv_if_eq (tgt := 61) hx hb dX11_seasonAt_53 (by decide) (fun c74 => ?_) (fun c74 => ?_)
                rotate_left
                · exact absurd c74 (by decide)
                refine lv_iload hx hb dX11_seasonAt_61 (lv_at hl 1 rfl) ?_
                refine lv_iload_n hx hb dX11_seasonAt_63 rfl (lv_at hl 5 rfl) ?_
                refine lv_iload hx hb dX11_seasonAt_64 (lv_at hl 0 rfl) ?_
                refine lv_ishr hx hb dX11_seasonAt_66 ?_
                refine lv_topi (fun z75 ez75 => ?_)
                obtain rfl : z75 = 2 := ez75.trans (by decide)
                refine lv_iconst (v := 1) hx hb dX11_seasonAt_67 (by decide) ?_
                refine lv_iand hx hb dX11_seasonAt_68 ?_
                refine lv_topi (fun z76 ez76 => ?_)
                obtain rfl : z76 = 0 := ez76.trans (by decide)
                refine lv_isub hx hb dX11_seasonAt_69 ?_
                refine lv_topi (fun z77 ez77 => ?_)
                obtain rfl : z77 = 0 := ez77.trans (by decide)
                refine lv_istore (lv' := [(7, .int 0), (5, .int 2), (4, .int 1), (2, .int v58), (6, .int 3), (3, .int 8), (0, .int p0), (1, .int p1)]) hx hb dX11_seasonAt_70 hl (by decide) rfl (fun ls hl => ?_)
                refine lv_iinc (v := 3) (lv' := [(5, .int 3), (7, .int 0), (4, .int 1), (2, .int v58), (6, .int 3), (3, .int 8), (0, .int p0), (1, .int p1)]) hx hb dX11_seasonAt_72 hl (k := 1) rfl (by decide) (by decide) rfl (fun ls hl => ?_)
                refine lv_goto (tgt := 47) hx hb dX11_seasonAt_75 (by decide) ?_
                refine lv_iload_n hx hb dX11_seasonAt_47 rfl (lv_at hl 5 rfl) ?_
                refine lv_iload hx hb dX11_seasonAt_48 (lv_at hl 0 rfl) ?_
                refine lv_ishr hx hb dX11_seasonAt_50 ?_
                refine lv_topi (fun z78 ez78 => ?_)
                obtain rfl : z78 = 1 := ez78.trans (by decide)
                refine lv_iconst (v := 1) hx hb dX11_seasonAt_51 (by decide) ?_
                refine lv_iand hx hb dX11_seasonAt_52 ?_
                refine lv_topi (fun z79 ez79 => ?_)
                obtain rfl : z79 = 1 := ez79.trans (by decide)
                refine lv_if_eq (tgt := 61) hx hb dX11_seasonAt_53 (by decide) (fun c80 => ?_) (fun c80 => ?_)
                · exact absurd c80 (by decide)
                refine lv_iload hx hb dX11_seasonAt_56 (lv_at hl 1 rfl) ?_
                refine lv_if_le (tgt := 78) hx hb dX11_seasonAt_58 (by decide) (fun c81 => ?_) (fun c81 => ?_)
                rotate_left
                · exact absurd c81 (by decide)
                refine lv_iload_n hx hb dX11_seasonAt_78 rfl (lv_at hl 5 rfl) ?_
                refine lv_iconst (v := 1) hx hb dX11_seasonAt_79 (by decide) ?_
                refine lv_iload hx hb dX11_seasonAt_80 (lv_at hl 0 rfl) ?_
                refine lv_ishl hx hb dX11_seasonAt_82 ?_
                refine lv_topi (fun z82 ez82 => ?_)
                obtain rfl : z82 = 8 := ez82.trans (by decide)
                refine lv_iconst (v := (-1)) hx hb dX11_seasonAt_83 (by decide) ?_
                refine lv_ixor hx hb dX11_seasonAt_84 ?_
                refine lv_topi (fun z83 ez83 => ?_)
                obtain rfl : z83 = (-9) := ez83.trans (by decide)
                refine lv_iand hx hb dX11_seasonAt_85 ?_
                refine lv_topi (fun z84 ez84 => ?_)
                obtain rfl : z84 = 0 := ez84.trans (by decide)
                refine lv_istore_n (lv' := [(3, .int 0), (5, .int 3), (7, .int 0), (4, .int 1), (2, .int v58), (6, .int 3), (0, .int p0), (1, .int p1)]) hx hb dX11_seasonAt_86 rfl hl (by decide) rfl (fun ls hl => ?_)
                refine lv_iinc (v := 4) (lv' := [(6, .int 4), (3, .int 0), (5, .int 3), (7, .int 0), (4, .int 1), (2, .int v58), (0, .int p0), (1, .int p1)]) hx hb dX11_seasonAt_87 hl (k := 5) rfl (by decide) (by decide) rfl (fun ls hl => ?_)
                refine lv_goto (tgt := 15) hx hb dX11_seasonAt_90 (by decide) ?_
                refine lv_iload hx hb dX11_seasonAt_15 (lv_at hl 0 rfl) ?_
                refine lv_iload_n hx hb dX11_seasonAt_17 rfl (lv_at hl 7 rfl) ?_
                refine lv_icmp_gt (tgt := 93) hx hb dX11_seasonAt_18 (by decide) (fun c85 => ?_) (fun c85 => ?_)
                rotate_left
                · have c85 := i_nlt (Eq.refl p1.toInt) (show (4 : Int32).toInt = 4 by decide) c85; exfalso; omega
                have c85 := i_lt (Eq.refl p1.toInt) (show (4 : Int32).toInt = 4 by decide) c85
                refine lv_iload hx hb dX11_seasonAt_93 (lv_at hl 2 rfl) ?_
                refine W.widen (k := 0) (n := 0) (Nat.le_of_ble_eq_true rfl) (Nat.le_of_ble_eq_true rfl) ?_
                have zi3 : (3 : Int32).toInt = 3 := by decide
                exact W.iret (v := 3) hx hb hr (fun t ht hW => ⟨⟨3, rfl, ((show (0 ≤ (3 : Int32).toInt ∧ (3 : Int32).toInt ≤ 3) by omega)), CB.nil⟩, hS.F ht⟩) hS.2.2 dX11_seasonAt_95
          · obtain rfl : v32 = 1 := i_is c33 (by decide)
            refine lv_iload_n hx hb dX11_seasonAt_27 rfl (lv_at hl 5 rfl) ?_
            refine lv_iload hx hb dX11_seasonAt_28 (lv_at hl 4 rfl) ?_
            refine lv_irem hx hb dX11_seasonAt_30 (i_nz (show (1 : Int32).toInt = 1 by decide) (by omega)) ?_
            refine lv_topi (fun v86 ev86 => ?_)
            have hv86 := i_rem (Eq.refl v16.toInt) (show (1 : Int32).toInt = 1 by decide) ev86 (by omega) (by omega)
            refine lv_istore_n (lv' := [(2, .int v86), (7, .int 1), (6, .int 2), (3, .int 12), (5, .int 1), (4, .int 1), (0, .int p0), (1, .int p1)]) hx hb dX11_seasonAt_31 rfl hl (by decide) rfl (fun ls hl => ?_)
            refine lv_iload hx hb dX11_seasonAt_32 (lv_at hl 2 rfl) ?_
            refine lv_if_ne (tgt := 41) hx hb dX11_seasonAt_34 (by decide) (fun c87 => ?_) (fun c87 => ?_)
            rotate_left
            · exact absurd c87 (by decide)
            refine lv_iconst (v := 1) hx hb dX11_seasonAt_41 (by decide) ?_
            refine lv_istore (lv' := [(4, .int 1), (2, .int v86), (7, .int 1), (6, .int 2), (3, .int 12), (5, .int 1), (0, .int p0), (1, .int p1)]) hx hb dX11_seasonAt_42 hl (by decide) rfl (fun ls hl => ?_)
            refine lv_iconst (v := 0) hx hb dX11_seasonAt_44 (by decide) ?_
            refine lv_istore (lv' := [(5, .int 0), (4, .int 1), (2, .int v86), (7, .int 1), (6, .int 2), (3, .int 12), (0, .int p0), (1, .int p1)]) hx hb dX11_seasonAt_45 hl (by decide) rfl (fun ls hl => ?_)
            refine lv_iload_n hx hb dX11_seasonAt_47 rfl (lv_at hl 5 rfl) ?_
            refine lv_iload hx hb dX11_seasonAt_48 (lv_at hl 0 rfl) ?_
            refine lv_ishr hx hb dX11_seasonAt_50 ?_
            refine lv_topi (fun z88 ez88 => ?_)
            obtain rfl : z88 = 12 := ez88.trans (by decide)
            refine lv_iconst (v := 1) hx hb dX11_seasonAt_51 (by decide) ?_
            refine lv_iand hx hb dX11_seasonAt_52 ?_
            refine lv_topi (fun z89 ez89 => ?_)
            obtain rfl : z89 = 0 := ez89.trans (by decide)
            refine lv_if_eq (tgt := 61) hx hb dX11_seasonAt_53 (by decide) (fun c90 => ?_) (fun c90 => ?_)
            rotate_left
            · exact absurd c90 (by decide)
            refine lv_iload hx hb dX11_seasonAt_61 (lv_at hl 3 rfl) ?_
            refine lv_iload_n hx hb dX11_seasonAt_63 rfl (lv_at hl 5 rfl) ?_
            refine lv_iload hx hb dX11_seasonAt_64 (lv_at hl 0 rfl) ?_
            refine lv_ishr hx hb dX11_seasonAt_66 ?_
            refine lv_topi (fun z91 ez91 => ?_)
            obtain rfl : z91 = 12 := ez91.trans (by decide)
            refine lv_iconst (v := 1) hx hb dX11_seasonAt_67 (by decide) ?_
            refine lv_iand hx hb dX11_seasonAt_68 ?_
            refine lv_topi (fun z92 ez92 => ?_)
            obtain rfl : z92 = 0 := ez92.trans (by decide)
            refine lv_isub hx hb dX11_seasonAt_69 ?_
            refine lv_topi (fun z93 ez93 => ?_)
            obtain rfl : z93 = 1 := ez93.trans (by decide)
            refine lv_istore (lv' := [(7, .int 1), (5, .int 0), (4, .int 1), (2, .int v86), (6, .int 2), (3, .int 12), (0, .int p0), (1, .int p1)]) hx hb dX11_seasonAt_70 hl (by decide) rfl (fun ls hl => ?_)
            refine lv_iinc (v := 1) (lv' := [(5, .int 1), (7, .int 1), (4, .int 1), (2, .int v86), (6, .int 2), (3, .int 12), (0, .int p0), (1, .int p1)]) hx hb dX11_seasonAt_72 hl (k := 1) rfl (by decide) (by decide) rfl (fun ls hl => ?_)
            refine lv_goto (tgt := 47) hx hb dX11_seasonAt_75 (by decide) ?_
            refine lv_iload_n hx hb dX11_seasonAt_47 rfl (lv_at hl 5 rfl) ?_
            refine lv_iload hx hb dX11_seasonAt_48 (lv_at hl 0 rfl) ?_
            refine lv_ishr hx hb dX11_seasonAt_50 ?_
            refine lv_topi (fun z94 ez94 => ?_)
            obtain rfl : z94 = 6 := ez94.trans (by decide)
            refine lv_iconst (v := 1) hx hb dX11_seasonAt_51 (by decide) ?_
            refine lv_iand hx hb dX11_seasonAt_52 ?_
            refine lv_topi (fun z95 ez95 => ?_)
            obtain rfl : z95 = 0 := ez95.trans (by decide)
            refine lv_if_eq (tgt := 61) hx hb dX11_seasonAt_53 (by decide) (fun c96 => ?_) (fun c96 => ?_)
            rotate_left
            · exact absurd c96 (by decide)
            refine lv_iload hx hb dX11_seasonAt_61 (lv_at hl 1 rfl) ?_
            refine lv_iload_n hx hb dX11_seasonAt_63 rfl (lv_at hl 5 rfl) ?_
            refine lv_iload hx hb dX11_seasonAt_64 (lv_at hl 0 rfl) ?_
            refine lv_ishr hx hb dX11_seasonAt_66 ?_
            refine lv_topi (fun z97 ez97 => ?_)
            obtain rfl : z97 = 6 := ez97.trans (by decide)
            refine lv_iconst (v := 1) hx hb dX11_seasonAt_67 (by decide) ?_
            refine lv_iand hx hb dX11_seasonAt_68 ?_
            refine lv_topi (fun z98 ez98 => ?_)
            obtain rfl : z98 = 0 := ez98.trans (by decide)
            refine lv_isub hx hb dX11_seasonAt_69 ?_
            refine lv_topi (fun z99 ez99 => ?_)
            obtain rfl : z99 = 1 := ez99.trans (by decide)
            refine lv_istore (lv' := [(7, .int 1), (5, .int 1), (4, .int 1), (2, .int v86), (6, .int 2), (3, .int 12), (0, .int p0), (1, .int p1)]) hx hb dX11_seasonAt_70 hl (by decide) rfl (fun ls hl => ?_)
            refine lv_iinc (v := 2) (lv' := [(5, .int 2), (7, .int 1), (4, .int 1), (2, .int v86), (6, .int 2), (3, .int 12), (0, .int p0), (1, .int p1)]) hx hb dX11_seasonAt_72 hl (k := 1) rfl (by decide) (by decide) rfl (fun ls hl => ?_)
            refine lv_goto (tgt := 47) hx hb dX11_seasonAt_75 (by decide) ?_
            refine lv_iload_n hx hb dX11_seasonAt_47 rfl (lv_at hl 5 rfl) ?_
            refine lv_iload hx hb dX11_seasonAt_48 (lv_at hl 0 rfl) ?_
            refine lv_ishr hx hb dX11_seasonAt_50 ?_
            refine lv_topi (fun z100 ez100 => ?_)
            obtain rfl : z100 = 3 := ez100.trans (by decide)
            refine lv_iconst (v := 1) hx hb dX11_seasonAt_51 (by decide) ?_
            refine lv_iand hx hb dX11_seasonAt_52 ?_
            refine lv_topi (fun z101 ez101 => ?_)
            obtain rfl : z101 = 1 := ez101.trans (by decide)
            refine lv_if_eq (tgt := 61) hx hb dX11_seasonAt_53 (by decide) (fun c102 => ?_) (fun c102 => ?_)
            · exact absurd c102 (by decide)
            refine lv_iload hx hb dX11_seasonAt_56 (lv_at hl 1 rfl) ?_
            refine lv_if_le (tgt := 78) hx hb dX11_seasonAt_58 (by decide) (fun c103 => ?_) (fun c103 => ?_)
            · exact absurd c103 (by decide)
            refine lv_iload hx hb dX11_seasonAt_61 (lv_at hl 1 rfl) ?_
            refine lv_iload_n hx hb dX11_seasonAt_63 rfl (lv_at hl 5 rfl) ?_
            refine lv_iload hx hb dX11_seasonAt_64 (lv_at hl 0 rfl) ?_
            refine lv_ishr hx hb dX11_seasonAt_66 ?_
            refine lv_topi (fun z104 ez104 => ?_)
            obtain rfl : z104 = 3 := ez104.trans (by decide)
            refine lv_iconst (v := 1) hx hb dX11_seasonAt_67 (by decide) ?_
            refine lv_iand hx hb dX11_seasonAt_68 ?_
            refine lv_topi (fun z105 ez105 => ?_)
            obtain rfl : z105 = 1 := ez105.trans (by decide)
            refine lv_isub hx hb dX11_seasonAt_69 ?_
            refine lv_topi (fun z106 ez106 => ?_)
            obtain rfl : z106 = 0 := ez106.trans (by decide)
            refine lv_istore (lv' := [(7, .int 0), (5, .int 2), (4, .int 1), (2, .int v86), (6, .int 2), (3, .int 12), (0, .int p0), (1, .int p1)]) hx hb dX11_seasonAt_70 hl (by decide) rfl (fun ls hl => ?_)
            refine lv_iinc (v := 3) (lv' := [(5, .int 3), (7, .int 0), (4, .int 1), (2, .int v86), (6, .int 2), (3, .int 12), (0, .int p0), (1, .int p1)]) hx hb dX11_seasonAt_72 hl (k := 1) rfl (by decide) (by decide) rfl (fun ls hl => ?_)
            refine lv_goto (tgt := 47) hx hb dX11_seasonAt_75 (by decide) ?_
            refine lv_iload_n hx hb dX11_seasonAt_47 rfl (lv_at hl 5 rfl) ?_
            refine lv_iload hx hb dX11_seasonAt_48 (lv_at hl 0 rfl) ?_
            refine lv_ishr hx hb dX11_seasonAt_50 ?_
            refine lv_topi (fun z107 ez107 => ?_)
            obtain rfl : z107 = 1 := ez107.trans (by decide)
            refine lv_iconst (v := 1) hx hb dX11_seasonAt_51 (by decide) ?_
            refine lv_iand hx hb dX11_seasonAt_52 ?_
            refine lv_topi (fun z108 ez108 => ?_)
            obtain rfl : z108 = 1 := ez108.trans (by decide)
            refine lv_if_eq (tgt := 61) hx hb dX11_seasonAt_53 (by decide) (fun c109 => ?_) (fun c109 => ?_)
            · exact absurd c109 (by decide)
            refine lv_iload hx hb dX11_seasonAt_56 (lv_at hl 1 rfl) ?_
            refine lv_if_le (tgt := 78) hx hb dX11_seasonAt_58 (by decide) (fun c110 => ?_) (fun c110 => ?_)
            rotate_left
            · exact absurd c110 (by decide)
            refine lv_iload_n hx hb dX11_seasonAt_78 rfl (lv_at hl 5 rfl) ?_
            refine lv_iconst (v := 1) hx hb dX11_seasonAt_79 (by decide) ?_
            refine lv_iload hx hb dX11_seasonAt_80 (lv_at hl 0 rfl) ?_
            refine lv_ishl hx hb dX11_seasonAt_82 ?_
            refine lv_topi (fun z111 ez111 => ?_)
            obtain rfl : z111 = 8 := ez111.trans (by decide)
            refine lv_iconst (v := (-1)) hx hb dX11_seasonAt_83 (by decide) ?_
            refine lv_ixor hx hb dX11_seasonAt_84 ?_
            refine lv_topi (fun z112 ez112 => ?_)
            obtain rfl : z112 = (-9) := ez112.trans (by decide)
            refine lv_iand hx hb dX11_seasonAt_85 ?_
            refine lv_topi (fun z113 ez113 => ?_)
            obtain rfl : z113 = 4 := ez113.trans (by decide)
            refine lv_istore_n (lv' := [(3, .int 4), (5, .int 3), (7, .int 0), (4, .int 1), (2, .int v86), (6, .int 2), (0, .int p0), (1, .int p1)]) hx hb dX11_seasonAt_86 rfl hl (by decide) rfl (fun ls hl => ?_)
            refine lv_iinc (v := 3) (lv' := [(6, .int 3), (3, .int 4), (5, .int 3), (7, .int 0), (4, .int 1), (2, .int v86), (0, .int p0), (1, .int p1)]) hx hb dX11_seasonAt_87 hl (k := 5) rfl (by decide) (by decide) rfl (fun ls hl => ?_)
            refine lv_goto (tgt := 15) hx hb dX11_seasonAt_90 (by decide) ?_
            refine lv_iload hx hb dX11_seasonAt_15 (lv_at hl 0 rfl) ?_
            refine lv_iload_n hx hb dX11_seasonAt_17 rfl (lv_at hl 7 rfl) ?_
            refine lv_icmp_gt (tgt := 93) hx hb dX11_seasonAt_18 (by decide) (fun c114 => ?_) (fun c114 => ?_)
            · skip
              have c114 := i_lt (Eq.refl p1.toInt) (show (3 : Int32).toInt = 3 by decide) c114
              refine lv_iload hx hb dX11_seasonAt_93 (lv_at hl 2 rfl) ?_
              refine W.widen (k := 0) (n := 0) (Nat.le_of_ble_eq_true rfl) (Nat.le_of_ble_eq_true rfl) ?_
              have zi3 : (3 : Int32).toInt = 3 := by decide
              exact W.iret (v := 3) hx hb hr (fun t ht hW => ⟨⟨3, rfl, ((show (0 ≤ (3 : Int32).toInt ∧ (3 : Int32).toInt ≤ 3) by omega)), CB.nil⟩, hS.F ht⟩) hS.2.2 dX11_seasonAt_95
            · skip
              have c114 := i_nlt (Eq.refl p1.toInt) (show (3 : Int32).toInt = 3 by decide) c114
              refine lv_iload_n hx hb dX11_seasonAt_21 rfl (lv_at hl 5 rfl) ?_
              refine lv_iload hx hb dX11_seasonAt_22 (lv_at hl 4 rfl) ?_
              refine lv_idiv hx hb dX11_seasonAt_24 (i_nz (show (1 : Int32).toInt = 1 by decide) (by omega)) ?_
              refine lv_topi (fun v115 ev115 => ?_)
              have hv115 := i_div (Eq.refl v86.toInt) (show (1 : Int32).toInt = 1 by decide) ev115 (by omega) (by omega)
              refine lv_istore (lv' := [(7, .int v115), (6, .int 3), (3, .int 4), (5, .int 3), (4, .int 1), (2, .int v86), (0, .int p0), (1, .int p1)]) hx hb dX11_seasonAt_25 hl (by decide) rfl (fun ls hl => ?_)
              rcases (show v115.toInt = 0 by omega) with c116
              · obtain rfl : v115 = 0 := i_is c116 (by decide)
                refine lv_iload_n hx hb dX11_seasonAt_27 rfl (lv_at hl 5 rfl) ?_
                refine lv_iload hx hb dX11_seasonAt_28 (lv_at hl 4 rfl) ?_
                refine lv_irem hx hb dX11_seasonAt_30 (i_nz (show (1 : Int32).toInt = 1 by decide) (by omega)) ?_
                refine lv_topi (fun v117 ev117 => ?_)
                have hv117 := i_rem (Eq.refl v86.toInt) (show (1 : Int32).toInt = 1 by decide) ev117 (by omega) (by omega)
                refine lv_istore_n (lv' := [(2, .int v117), (7, .int 0), (6, .int 3), (3, .int 4), (5, .int 3), (4, .int 1), (0, .int p0), (1, .int p1)]) hx hb dX11_seasonAt_31 rfl hl (by decide) rfl (fun ls hl => ?_)
                refine lv_iload hx hb dX11_seasonAt_32 (lv_at hl 2 rfl) ?_
                refine lv_if_ne (tgt := 41) hx hb dX11_seasonAt_34 (by decide) (fun c118 => ?_) (fun c118 => ?_)
                rotate_left
                · exact absurd c118 (by decide)
                refine lv_iconst (v := 1) hx hb dX11_seasonAt_41 (by decide) ?_
                refine lv_istore (lv' := [(4, .int 1), (2, .int v117), (7, .int 0), (6, .int 3), (3, .int 4), (5, .int 3), (0, .int p0), (1, .int p1)]) hx hb dX11_seasonAt_42 hl (by decide) rfl (fun ls hl => ?_)
                refine lv_iconst (v := 0) hx hb dX11_seasonAt_44 (by decide) ?_
                refine lv_istore (lv' := [(5, .int 0), (4, .int 1), (2, .int v117), (7, .int 0), (6, .int 3), (3, .int 4), (0, .int p0), (1, .int p1)]) hx hb dX11_seasonAt_45 hl (by decide) rfl (fun ls hl => ?_)
                refine lv_iload_n hx hb dX11_seasonAt_47 rfl (lv_at hl 5 rfl) ?_
                refine lv_iload hx hb dX11_seasonAt_48 (lv_at hl 0 rfl) ?_
                refine lv_ishr hx hb dX11_seasonAt_50 ?_
                refine lv_topi (fun z119 ez119 => ?_)
                obtain rfl : z119 = 4 := ez119.trans (by decide)
                refine lv_iconst (v := 1) hx hb dX11_seasonAt_51 (by decide) ?_
                refine lv_iand hx hb dX11_seasonAt_52 ?_
                refine lv_topi (fun z120 ez120 => ?_)
                obtain rfl : z120 = 0 := ez120.trans (by decide)
                refine lv_if_eq (tgt := 61) hx hb dX11_seasonAt_53 (by decide) (fun c121 => ?_) (fun c121 => ?_)
                rotate_left
                · exact absurd c121 (by decide)
                refine lv_iload hx hb dX11_seasonAt_61 (lv_at hl 3 rfl) ?_
                refine lv_iload_n hx hb dX11_seasonAt_63 rfl (lv_at hl 5 rfl) ?_
                refine lv_iload hx hb dX11_seasonAt_64 (lv_at hl 0 rfl) ?_
                refine lv_ishr hx hb dX11_seasonAt_66 ?_
                refine lv_topi (fun z122 ez122 => ?_)
                obtain rfl : z122 = 4 := ez122.trans (by decide)
                refine lv_iconst (v := 1) hx hb dX11_seasonAt_67 (by decide) ?_
                refine lv_iand hx hb dX11_seasonAt_68 ?_
                refine lv_topi (fun z123 ez123 => ?_)
                obtain rfl : z123 = 0 := ez123.trans (by decide)
                refine lv_isub hx hb dX11_seasonAt_69 ?_
                refine lv_topi (fun z124 ez124 => ?_)
                obtain rfl : z124 = 0 := ez124.trans (by decide)
                refine lv_istore (lv' := [(7, .int 0), (5, .int 0), (4, .int 1), (2, .int v117), (6, .int 3), (3, .int 4), (0, .int p0), (1, .int p1)]) hx hb dX11_seasonAt_70 hl (by decide) rfl (fun ls hl => ?_)
                refine lv_iinc (v := 1) (lv' := [(5, .int 1), (7, .int 0), (4, .int 1), (2, .int v117), (6, .int 3), (3, .int 4), (0, .int p0), (1, .int p1)]) hx hb dX11_seasonAt_72 hl (k := 1) rfl (by decide) (by decide) rfl (fun ls hl => ?_)
                refine lv_goto (tgt := 47) hx hb dX11_seasonAt_75 (by decide) ?_
                refine lv_iload_n hx hb dX11_seasonAt_47 rfl (lv_at hl 5 rfl) ?_
                refine lv_iload hx hb dX11_seasonAt_48 (lv_at hl 0 rfl) ?_
                refine lv_ishr hx hb dX11_seasonAt_50 ?_
                refine lv_topi (fun z125 ez125 => ?_)
                obtain rfl : z125 = 2 := ez125.trans (by decide)
                refine lv_iconst (v := 1) hx hb dX11_seasonAt_51 (by decide) ?_
                refine lv_iand hx hb dX11_seasonAt_52 ?_
                refine lv_topi (fun z126 ez126 => ?_)
                obtain rfl : z126 = 0 := ez126.trans (by decide)
                refine lv_if_eq (tgt := 61) hx hb dX11_seasonAt_53 (by decide) (fun c127 => ?_) (fun c127 => ?_)
                rotate_left
                · exact absurd c127 (by decide)
                refine lv_iload hx hb dX11_seasonAt_61 (lv_at hl 1 rfl) ?_
                refine lv_iload_n hx hb dX11_seasonAt_63 rfl (lv_at hl 5 rfl) ?_
                refine lv_iload hx hb dX11_seasonAt_64 (lv_at hl 0 rfl) ?_
                refine lv_ishr hx hb dX11_seasonAt_66 ?_
                refine lv_topi (fun z128 ez128 => ?_)
                obtain rfl : z128 = 2 := ez128.trans (by decide)
                refine lv_iconst (v := 1) hx hb dX11_seasonAt_67 (by decide) ?_
                refine lv_iand hx hb dX11_seasonAt_68 ?_
                refine lv_topi (fun z129 ez129 => ?_)
                obtain rfl : z129 = 0 := ez129.trans (by decide)
                refine lv_isub hx hb dX11_seasonAt_69 ?_
                refine lv_topi (fun z130 ez130 => ?_)
                obtain rfl : z130 = 0 := ez130.trans (by decide)
                refine lv_istore (lv' := [(7, .int 0), (5, .int 1), (4, .int 1), (2, .int v117), (6, .int 3), (3, .int 4), (0, .int p0), (1, .int p1)]) hx hb dX11_seasonAt_70 hl (by decide) rfl (fun ls hl => ?_)
                refine lv_iinc (v := 2) (lv' := [(5, .int 2), (7, .int 0), (4, .int 1), (2, .int v117), (6, .int 3), (3, .int 4), (0, .int p0), (1, .int p1)]) hx hb dX11_seasonAt_72 hl (k := 1) rfl (by decide) (by decide) rfl (fun ls hl => ?_)
                refine lv_goto (tgt := 47) hx hb dX11_seasonAt_75 (by decide) ?_
                refine lv_iload_n hx hb dX11_seasonAt_47 rfl (lv_at hl 5 rfl) ?_
                refine lv_iload hx hb dX11_seasonAt_48 (lv_at hl 0 rfl) ?_
                refine lv_ishr hx hb dX11_seasonAt_50 ?_
                refine lv_topi (fun z131 ez131 => ?_)
                obtain rfl : z131 = 1 := ez131.trans (by decide)
                refine lv_iconst (v := 1) hx hb dX11_seasonAt_51 (by decide) ?_
                refine lv_iand hx hb dX11_seasonAt_52 ?_
                refine lv_topi (fun z132 ez132 => ?_)
                obtain rfl : z132 = 1 := ez132.trans (by decide)
                refine lv_if_eq (tgt := 61) hx hb dX11_seasonAt_53 (by decide) (fun c133 => ?_) (fun c133 => ?_)
                · exact absurd c133 (by decide)
                refine lv_iload hx hb dX11_seasonAt_56 (lv_at hl 1 rfl) ?_
                refine lv_if_le (tgt := 78) hx hb dX11_seasonAt_58 (by decide) (fun c134 => ?_) (fun c134 => ?_)
                rotate_left
                · exact absurd c134 (by decide)
                refine lv_iload_n hx hb dX11_seasonAt_78 rfl (lv_at hl 5 rfl) ?_
                refine lv_iconst (v := 1) hx hb dX11_seasonAt_79 (by decide) ?_
                refine lv_iload hx hb dX11_seasonAt_80 (lv_at hl 0 rfl) ?_
                refine lv_ishl hx hb dX11_seasonAt_82 ?_
                refine lv_topi (fun z135 ez135 => ?_)
                obtain rfl : z135 = 4 := ez135.trans (by decide)
                refine lv_iconst (v := (-1)) hx hb dX11_seasonAt_83 (by decide) ?_
                refine lv_ixor hx hb dX11_seasonAt_84 ?_
                refine lv_topi (fun z136 ez136 => ?_)
                obtain rfl : z136 = (-5) := ez136.trans (by decide)
                refine lv_iand hx hb dX11_seasonAt_85 ?_
                refine lv_topi (fun z137 ez137 => ?_)
                obtain rfl : z137 = 0 := ez137.trans (by decide)
                refine lv_istore_n (lv' := [(3, .int 0), (5, .int 2), (7, .int 0), (4, .int 1), (2, .int v117), (6, .int 3), (0, .int p0), (1, .int p1)]) hx hb dX11_seasonAt_86 rfl hl (by decide) rfl (fun ls hl => ?_)
                refine lv_iinc (v := 4) (lv' := [(6, .int 4), (3, .int 0), (5, .int 2), (7, .int 0), (4, .int 1), (2, .int v117), (0, .int p0), (1, .int p1)]) hx hb dX11_seasonAt_87 hl (k := 5) rfl (by decide) (by decide) rfl (fun ls hl => ?_)
                refine lv_goto (tgt := 15) hx hb dX11_seasonAt_90 (by decide) ?_
                refine lv_iload hx hb dX11_seasonAt_15 (lv_at hl 0 rfl) ?_
                refine lv_iload_n hx hb dX11_seasonAt_17 rfl (lv_at hl 7 rfl) ?_
                refine lv_icmp_gt (tgt := 93) hx hb dX11_seasonAt_18 (by decide) (fun c138 => ?_) (fun c138 => ?_)
                rotate_left
                · have c138 := i_nlt (Eq.refl p1.toInt) (show (4 : Int32).toInt = 4 by decide) c138; exfalso; omega
                have c138 := i_lt (Eq.refl p1.toInt) (show (4 : Int32).toInt = 4 by decide) c138
                refine lv_iload hx hb dX11_seasonAt_93 (lv_at hl 2 rfl) ?_
                refine W.widen (k := 0) (n := 0) (Nat.le_of_ble_eq_true rfl) (Nat.le_of_ble_eq_true rfl) ?_
                exact W.iret (v := 2) hx hb hr (fun t ht hW => ⟨⟨2, rfl, ((show (0 ≤ (2 : Int32).toInt ∧ (2 : Int32).toInt ≤ 3) by omega)), CB.nil⟩, hS.F ht⟩) hS.2.2 dX11_seasonAt_95
      · obtain rfl : v14 = 1 := i_is c15 (by decide)
        refine lv_iload_n hx hb dX11_seasonAt_27 rfl (lv_at hl 5 rfl) ?_
        refine lv_iload hx hb dX11_seasonAt_28 (lv_at hl 4 rfl) ?_
        refine lv_irem hx hb dX11_seasonAt_30 (i_nz (show (2 : Int32).toInt = 2 by decide) (by omega)) ?_
        refine lv_topi (fun v139 ev139 => ?_)
        have hv139 := i_rem (Eq.refl v4.toInt) (show (2 : Int32).toInt = 2 by decide) ev139 (by omega) (by omega)
        refine lv_istore_n (lv' := [(2, .int v139), (7, .int 1), (6, .int 1), (3, .int 14), (5, .int 0), (4, .int 2), (0, .int p0), (1, .int p1)]) hx hb dX11_seasonAt_31 rfl hl (by decide) rfl (fun ls hl => ?_)
        refine lv_iload hx hb dX11_seasonAt_32 (lv_at hl 2 rfl) ?_
        refine lv_if_ne (tgt := 41) hx hb dX11_seasonAt_34 (by decide) (fun c140 => ?_) (fun c140 => ?_)
        rotate_left
        · exact absurd c140 (by decide)
        refine lv_iconst (v := 1) hx hb dX11_seasonAt_41 (by decide) ?_
        refine lv_istore (lv' := [(4, .int 1), (2, .int v139), (7, .int 1), (6, .int 1), (3, .int 14), (5, .int 0), (0, .int p0), (1, .int p1)]) hx hb dX11_seasonAt_42 hl (by decide) rfl (fun ls hl => ?_)
        refine lv_iconst (v := 0) hx hb dX11_seasonAt_44 (by decide) ?_
        refine lv_istore (lv' := [(5, .int 0), (4, .int 1), (2, .int v139), (7, .int 1), (6, .int 1), (3, .int 14), (0, .int p0), (1, .int p1)]) hx hb dX11_seasonAt_45 hl (by decide) rfl (fun ls hl => ?_)
        refine lv_iload_n hx hb dX11_seasonAt_47 rfl (lv_at hl 5 rfl) ?_
        refine lv_iload hx hb dX11_seasonAt_48 (lv_at hl 0 rfl) ?_
        refine lv_ishr hx hb dX11_seasonAt_50 ?_
        refine lv_topi (fun z141 ez141 => ?_)
        obtain rfl : z141 = 14 := ez141.trans (by decide)
        refine lv_iconst (v := 1) hx hb dX11_seasonAt_51 (by decide) ?_
        refine lv_iand hx hb dX11_seasonAt_52 ?_
        refine lv_topi (fun z142 ez142 => ?_)
        obtain rfl : z142 = 0 := ez142.trans (by decide)
        refine lv_if_eq (tgt := 61) hx hb dX11_seasonAt_53 (by decide) (fun c143 => ?_) (fun c143 => ?_)
        rotate_left
        · exact absurd c143 (by decide)
        refine lv_iload hx hb dX11_seasonAt_61 (lv_at hl 3 rfl) ?_
        refine lv_iload_n hx hb dX11_seasonAt_63 rfl (lv_at hl 5 rfl) ?_
        refine lv_iload hx hb dX11_seasonAt_64 (lv_at hl 0 rfl) ?_
        refine lv_ishr hx hb dX11_seasonAt_66 ?_
        refine lv_topi (fun z144 ez144 => ?_)
        obtain rfl : z144 = 14 := ez144.trans (by decide)
        refine lv_iconst (v := 1) hx hb dX11_seasonAt_67 (by decide) ?_
        refine lv_iand hx hb dX11_seasonAt_68 ?_
        refine lv_topi (fun z145 ez145 => ?_)
        obtain rfl : z145 = 0 := ez145.trans (by decide)
        refine lv_isub hx hb dX11_seasonAt_69 ?_
        refine lv_topi (fun z146 ez146 => ?_)
        obtain rfl : z146 = 1 := ez146.trans (by decide)
        refine lv_istore (lv' := [(7, .int 1), (5, .int 0), (4, .int 1), (2, .int v139), (6, .int 1), (3, .int 14), (0, .int p0), (1, .int p1)]) hx hb dX11_seasonAt_70 hl (by decide) rfl (fun ls hl => ?_)
        refine lv_iinc (v := 1) (lv' := [(5, .int 1), (7, .int 1), (4, .int 1), (2, .int v139), (6, .int 1), (3, .int 14), (0, .int p0), (1, .int p1)]) hx hb dX11_seasonAt_72 hl (k := 1) rfl (by decide) (by decide) rfl (fun ls hl => ?_)
        refine lv_goto (tgt := 47) hx hb dX11_seasonAt_75 (by decide) ?_
        refine lv_iload_n hx hb dX11_seasonAt_47 rfl (lv_at hl 5 rfl) ?_
        refine lv_iload hx hb dX11_seasonAt_48 (lv_at hl 0 rfl) ?_
        refine lv_ishr hx hb dX11_seasonAt_50 ?_
        refine lv_topi (fun z147 ez147 => ?_)
        obtain rfl : z147 = 7 := ez147.trans (by decide)
        refine lv_iconst (v := 1) hx hb dX11_seasonAt_51 (by decide) ?_
        refine lv_iand hx hb dX11_seasonAt_52 ?_
        refine lv_topi (fun z148 ez148 => ?_)
        obtain rfl : z148 = 1 := ez148.trans (by decide)
        refine lv_if_eq (tgt := 61) hx hb dX11_seasonAt_53 (by decide) (fun c149 => ?_) (fun c149 => ?_)
        · exact absurd c149 (by decide)
        refine lv_iload hx hb dX11_seasonAt_56 (lv_at hl 1 rfl) ?_
        refine lv_if_le (tgt := 78) hx hb dX11_seasonAt_58 (by decide) (fun c150 => ?_) (fun c150 => ?_)
        · exact absurd c150 (by decide)
        refine lv_iload hx hb dX11_seasonAt_61 (lv_at hl 1 rfl) ?_
        refine lv_iload_n hx hb dX11_seasonAt_63 rfl (lv_at hl 5 rfl) ?_
        refine lv_iload hx hb dX11_seasonAt_64 (lv_at hl 0 rfl) ?_
        refine lv_ishr hx hb dX11_seasonAt_66 ?_
        refine lv_topi (fun z151 ez151 => ?_)
        obtain rfl : z151 = 7 := ez151.trans (by decide)
        refine lv_iconst (v := 1) hx hb dX11_seasonAt_67 (by decide) ?_
        refine lv_iand hx hb dX11_seasonAt_68 ?_
        refine lv_topi (fun z152 ez152 => ?_)
        obtain rfl : z152 = 1 := ez152.trans (by decide)
        refine lv_isub hx hb dX11_seasonAt_69 ?_
        refine lv_topi (fun z153 ez153 => ?_)
        obtain rfl : z153 = 0 := ez153.trans (by decide)
        refine lv_istore (lv' := [(7, .int 0), (5, .int 1), (4, .int 1), (2, .int v139), (6, .int 1), (3, .int 14), (0, .int p0), (1, .int p1)]) hx hb dX11_seasonAt_70 hl (by decide) rfl (fun ls hl => ?_)
        refine lv_iinc (v := 2) (lv' := [(5, .int 2), (7, .int 0), (4, .int 1), (2, .int v139), (6, .int 1), (3, .int 14), (0, .int p0), (1, .int p1)]) hx hb dX11_seasonAt_72 hl (k := 1) rfl (by decide) (by decide) rfl (fun ls hl => ?_)
        refine lv_goto (tgt := 47) hx hb dX11_seasonAt_75 (by decide) ?_
        refine lv_iload_n hx hb dX11_seasonAt_47 rfl (lv_at hl 5 rfl) ?_
        refine lv_iload hx hb dX11_seasonAt_48 (lv_at hl 0 rfl) ?_
        refine lv_ishr hx hb dX11_seasonAt_50 ?_
        refine lv_topi (fun z154 ez154 => ?_)
        obtain rfl : z154 = 3 := ez154.trans (by decide)
        refine lv_iconst (v := 1) hx hb dX11_seasonAt_51 (by decide) ?_
        refine lv_iand hx hb dX11_seasonAt_52 ?_
        refine lv_topi (fun z155 ez155 => ?_)
        obtain rfl : z155 = 1 := ez155.trans (by decide)
        refine lv_if_eq (tgt := 61) hx hb dX11_seasonAt_53 (by decide) (fun c156 => ?_) (fun c156 => ?_)
        · exact absurd c156 (by decide)
        refine lv_iload hx hb dX11_seasonAt_56 (lv_at hl 1 rfl) ?_
        refine lv_if_le (tgt := 78) hx hb dX11_seasonAt_58 (by decide) (fun c157 => ?_) (fun c157 => ?_)
        rotate_left
        · exact absurd c157 (by decide)
        refine lv_iload_n hx hb dX11_seasonAt_78 rfl (lv_at hl 5 rfl) ?_
        refine lv_iconst (v := 1) hx hb dX11_seasonAt_79 (by decide) ?_
        refine lv_iload hx hb dX11_seasonAt_80 (lv_at hl 0 rfl) ?_
        refine lv_ishl hx hb dX11_seasonAt_82 ?_
        refine lv_topi (fun z158 ez158 => ?_)
        obtain rfl : z158 = 4 := ez158.trans (by decide)
        refine lv_iconst (v := (-1)) hx hb dX11_seasonAt_83 (by decide) ?_
        refine lv_ixor hx hb dX11_seasonAt_84 ?_
        refine lv_topi (fun z159 ez159 => ?_)
        obtain rfl : z159 = (-5) := ez159.trans (by decide)
        refine lv_iand hx hb dX11_seasonAt_85 ?_
        refine lv_topi (fun z160 ez160 => ?_)
        obtain rfl : z160 = 10 := ez160.trans (by decide)
        refine lv_istore_n (lv' := [(3, .int 10), (5, .int 2), (7, .int 0), (4, .int 1), (2, .int v139), (6, .int 1), (0, .int p0), (1, .int p1)]) hx hb dX11_seasonAt_86 rfl hl (by decide) rfl (fun ls hl => ?_)
        refine lv_iinc (v := 2) (lv' := [(6, .int 2), (3, .int 10), (5, .int 2), (7, .int 0), (4, .int 1), (2, .int v139), (0, .int p0), (1, .int p1)]) hx hb dX11_seasonAt_87 hl (k := 5) rfl (by decide) (by decide) rfl (fun ls hl => ?_)
        refine lv_goto (tgt := 15) hx hb dX11_seasonAt_90 (by decide) ?_
        refine lv_iload hx hb dX11_seasonAt_15 (lv_at hl 0 rfl) ?_
        refine lv_iload_n hx hb dX11_seasonAt_17 rfl (lv_at hl 7 rfl) ?_
        refine lv_icmp_gt (tgt := 93) hx hb dX11_seasonAt_18 (by decide) (fun c161 => ?_) (fun c161 => ?_)
        · skip
          have c161 := i_lt (Eq.refl p1.toInt) (show (2 : Int32).toInt = 2 by decide) c161
          refine lv_iload hx hb dX11_seasonAt_93 (lv_at hl 2 rfl) ?_
          refine W.widen (k := 0) (n := 0) (Nat.le_of_ble_eq_true rfl) (Nat.le_of_ble_eq_true rfl) ?_
          exact W.iret (v := 2) hx hb hr (fun t ht hW => ⟨⟨2, rfl, ((show (0 ≤ (2 : Int32).toInt ∧ (2 : Int32).toInt ≤ 3) by omega)), CB.nil⟩, hS.F ht⟩) hS.2.2 dX11_seasonAt_95
        · skip
          have c161 := i_nlt (Eq.refl p1.toInt) (show (2 : Int32).toInt = 2 by decide) c161
          refine lv_iload_n hx hb dX11_seasonAt_21 rfl (lv_at hl 5 rfl) ?_
          refine lv_iload hx hb dX11_seasonAt_22 (lv_at hl 4 rfl) ?_
          have zi1 : (1 : Int32).toInt = 1 := by decide
          refine lv_idiv hx hb dX11_seasonAt_24 (i_nz (show (1 : Int32).toInt = 1 by decide) (by omega)) ?_
          refine lv_topi (fun v162 ev162 => ?_)
          have hv162 := i_div (Eq.refl v139.toInt) (show (1 : Int32).toInt = 1 by decide) ev162 (by omega) (by omega)
          refine lv_istore (lv' := [(7, .int v162), (6, .int 2), (3, .int 10), (5, .int 2), (4, .int 1), (2, .int v139), (0, .int p0), (1, .int p1)]) hx hb dX11_seasonAt_25 hl (by decide) rfl (fun ls hl => ?_)
          rcases (show v162.toInt = 0 ∨ v162.toInt = 1 by omega) with c163 | c163
          · obtain rfl : v162 = 0 := i_is c163 (by decide)
            refine lv_iload_n hx hb dX11_seasonAt_27 rfl (lv_at hl 5 rfl) ?_
            refine lv_iload hx hb dX11_seasonAt_28 (lv_at hl 4 rfl) ?_
            refine lv_irem hx hb dX11_seasonAt_30 (i_nz (show (1 : Int32).toInt = 1 by decide) (by omega)) ?_
            refine lv_topi (fun v164 ev164 => ?_)
            have hv164 := i_rem (Eq.refl v139.toInt) (show (1 : Int32).toInt = 1 by decide) ev164 (by omega) (by omega)
            refine lv_istore_n (lv' := [(2, .int v164), (7, .int 0), (6, .int 2), (3, .int 10), (5, .int 2), (4, .int 1), (0, .int p0), (1, .int p1)]) hx hb dX11_seasonAt_31 rfl hl (by decide) rfl (fun ls hl => ?_)
            refine lv_iload hx hb dX11_seasonAt_32 (lv_at hl 2 rfl) ?_
            refine lv_if_ne (tgt := 41) hx hb dX11_seasonAt_34 (by decide) (fun c165 => ?_) (fun c165 => ?_)
            rotate_left
            · exact absurd c165 (by decide)
            refine lv_iconst (v := 1) hx hb dX11_seasonAt_41 (by decide) ?_
            refine lv_istore (lv' := [(4, .int 1), (2, .int v164), (7, .int 0), (6, .int 2), (3, .int 10), (5, .int 2), (0, .int p0), (1, .int p1)]) hx hb dX11_seasonAt_42 hl (by decide) rfl (fun ls hl => ?_)
            refine lv_iconst (v := 0) hx hb dX11_seasonAt_44 (by decide) ?_
            refine lv_istore (lv' := [(5, .int 0), (4, .int 1), (2, .int v164), (7, .int 0), (6, .int 2), (3, .int 10), (0, .int p0), (1, .int p1)]) hx hb dX11_seasonAt_45 hl (by decide) rfl (fun ls hl => ?_)
            refine lv_iload_n hx hb dX11_seasonAt_47 rfl (lv_at hl 5 rfl) ?_
            refine lv_iload hx hb dX11_seasonAt_48 (lv_at hl 0 rfl) ?_
            refine lv_ishr hx hb dX11_seasonAt_50 ?_
            refine lv_topi (fun z166 ez166 => ?_)
            obtain rfl : z166 = 10 := ez166.trans (by decide)
            refine lv_iconst (v := 1) hx hb dX11_seasonAt_51 (by decide) ?_
            refine lv_iand hx hb dX11_seasonAt_52 ?_
            refine lv_topi (fun z167 ez167 => ?_)
            obtain rfl : z167 = 0 := ez167.trans (by decide)
            refine lv_if_eq (tgt := 61) hx hb dX11_seasonAt_53 (by decide) (fun c168 => ?_) (fun c168 => ?_)
            rotate_left
            · exact absurd c168 (by decide)
            refine lv_iload hx hb dX11_seasonAt_61 (lv_at hl 3 rfl) ?_
            refine lv_iload_n hx hb dX11_seasonAt_63 rfl (lv_at hl 5 rfl) ?_
            refine lv_iload hx hb dX11_seasonAt_64 (lv_at hl 0 rfl) ?_
            refine lv_ishr hx hb dX11_seasonAt_66 ?_
            refine lv_topi (fun z169 ez169 => ?_)
            obtain rfl : z169 = 10 := ez169.trans (by decide)
            refine lv_iconst (v := 1) hx hb dX11_seasonAt_67 (by decide) ?_
            refine lv_iand hx hb dX11_seasonAt_68 ?_
            refine lv_topi (fun z170 ez170 => ?_)
            obtain rfl : z170 = 0 := ez170.trans (by decide)
            refine lv_isub hx hb dX11_seasonAt_69 ?_
            refine lv_topi (fun z171 ez171 => ?_)
            obtain rfl : z171 = 0 := ez171.trans (by decide)
            refine lv_istore (lv' := [(7, .int 0), (5, .int 0), (4, .int 1), (2, .int v164), (6, .int 2), (3, .int 10), (0, .int p0), (1, .int p1)]) hx hb dX11_seasonAt_70 hl (by decide) rfl (fun ls hl => ?_)
            refine lv_iinc (v := 1) (lv' := [(5, .int 1), (7, .int 0), (4, .int 1), (2, .int v164), (6, .int 2), (3, .int 10), (0, .int p0), (1, .int p1)]) hx hb dX11_seasonAt_72 hl (k := 1) rfl (by decide) (by decide) rfl (fun ls hl => ?_)
            refine lv_goto (tgt := 47) hx hb dX11_seasonAt_75 (by decide) ?_
            refine lv_iload_n hx hb dX11_seasonAt_47 rfl (lv_at hl 5 rfl) ?_
            refine lv_iload hx hb dX11_seasonAt_48 (lv_at hl 0 rfl) ?_
            refine lv_ishr hx hb dX11_seasonAt_50 ?_
            refine lv_topi (fun z172 ez172 => ?_)
            obtain rfl : z172 = 5 := ez172.trans (by decide)
            refine lv_iconst (v := 1) hx hb dX11_seasonAt_51 (by decide) ?_
            refine lv_iand hx hb dX11_seasonAt_52 ?_
            refine lv_topi (fun z173 ez173 => ?_)
            obtain rfl : z173 = 1 := ez173.trans (by decide)
            refine lv_if_eq (tgt := 61) hx hb dX11_seasonAt_53 (by decide) (fun c174 => ?_) (fun c174 => ?_)
            · exact absurd c174 (by decide)
            refine lv_iload hx hb dX11_seasonAt_56 (lv_at hl 1 rfl) ?_
            refine lv_if_le (tgt := 78) hx hb dX11_seasonAt_58 (by decide) (fun c175 => ?_) (fun c175 => ?_)
            rotate_left
            · exact absurd c175 (by decide)
            refine lv_iload_n hx hb dX11_seasonAt_78 rfl (lv_at hl 5 rfl) ?_
            refine lv_iconst (v := 1) hx hb dX11_seasonAt_79 (by decide) ?_
            refine lv_iload hx hb dX11_seasonAt_80 (lv_at hl 0 rfl) ?_
            refine lv_ishl hx hb dX11_seasonAt_82 ?_
            refine lv_topi (fun z176 ez176 => ?_)
            obtain rfl : z176 = 2 := ez176.trans (by decide)
            refine lv_iconst (v := (-1)) hx hb dX11_seasonAt_83 (by decide) ?_
            refine lv_ixor hx hb dX11_seasonAt_84 ?_
            refine lv_topi (fun z177 ez177 => ?_)
            obtain rfl : z177 = (-3) := ez177.trans (by decide)
            refine lv_iand hx hb dX11_seasonAt_85 ?_
            refine lv_topi (fun z178 ez178 => ?_)
            obtain rfl : z178 = 8 := ez178.trans (by decide)
            refine lv_istore_n (lv' := [(3, .int 8), (5, .int 1), (7, .int 0), (4, .int 1), (2, .int v164), (6, .int 2), (0, .int p0), (1, .int p1)]) hx hb dX11_seasonAt_86 rfl hl (by decide) rfl (fun ls hl => ?_)
            refine lv_iinc (v := 3) (lv' := [(6, .int 3), (3, .int 8), (5, .int 1), (7, .int 0), (4, .int 1), (2, .int v164), (0, .int p0), (1, .int p1)]) hx hb dX11_seasonAt_87 hl (k := 5) rfl (by decide) (by decide) rfl (fun ls hl => ?_)
            refine lv_goto (tgt := 15) hx hb dX11_seasonAt_90 (by decide) ?_
            refine lv_iload hx hb dX11_seasonAt_15 (lv_at hl 0 rfl) ?_
            refine lv_iload_n hx hb dX11_seasonAt_17 rfl (lv_at hl 7 rfl) ?_
            refine lv_icmp_gt (tgt := 93) hx hb dX11_seasonAt_18 (by decide) (fun c179 => ?_) (fun c179 => ?_)
            · skip
              have c179 := i_lt (Eq.refl p1.toInt) (show (3 : Int32).toInt = 3 by decide) c179
              refine lv_iload hx hb dX11_seasonAt_93 (lv_at hl 2 rfl) ?_
              refine W.widen (k := 0) (n := 0) (Nat.le_of_ble_eq_true rfl) (Nat.le_of_ble_eq_true rfl) ?_
              exact W.iret (v := 1) hx hb hr (fun t ht hW => ⟨⟨1, rfl, ((show (0 ≤ (1 : Int32).toInt ∧ (1 : Int32).toInt ≤ 3) by omega)), CB.nil⟩, hS.F ht⟩) hS.2.2 dX11_seasonAt_95
            · skip
              have c179 := i_nlt (Eq.refl p1.toInt) (show (3 : Int32).toInt = 3 by decide) c179
              refine lv_iload_n hx hb dX11_seasonAt_21 rfl (lv_at hl 5 rfl) ?_
              refine lv_iload hx hb dX11_seasonAt_22 (lv_at hl 4 rfl) ?_
              refine lv_idiv hx hb dX11_seasonAt_24 (i_nz (show (1 : Int32).toInt = 1 by decide) (by omega)) ?_
              refine lv_topi (fun v180 ev180 => ?_)
              have hv180 := i_div (Eq.refl v164.toInt) (show (1 : Int32).toInt = 1 by decide) ev180 (by omega) (by omega)
              refine lv_istore (lv' := [(7, .int v180), (6, .int 3), (3, .int 8), (5, .int 1), (4, .int 1), (2, .int v164), (0, .int p0), (1, .int p1)]) hx hb dX11_seasonAt_25 hl (by decide) rfl (fun ls hl => ?_)
              rcases (show v180.toInt = 0 by omega) with c181
              · obtain rfl : v180 = 0 := i_is c181 (by decide)
                refine lv_iload_n hx hb dX11_seasonAt_27 rfl (lv_at hl 5 rfl) ?_
                refine lv_iload hx hb dX11_seasonAt_28 (lv_at hl 4 rfl) ?_
                refine lv_irem hx hb dX11_seasonAt_30 (i_nz (show (1 : Int32).toInt = 1 by decide) (by omega)) ?_
                refine lv_topi (fun v182 ev182 => ?_)
                have hv182 := i_rem (Eq.refl v164.toInt) (show (1 : Int32).toInt = 1 by decide) ev182 (by omega) (by omega)
                refine lv_istore_n (lv' := [(2, .int v182), (7, .int 0), (6, .int 3), (3, .int 8), (5, .int 1), (4, .int 1), (0, .int p0), (1, .int p1)]) hx hb dX11_seasonAt_31 rfl hl (by decide) rfl (fun ls hl => ?_)
                refine lv_iload hx hb dX11_seasonAt_32 (lv_at hl 2 rfl) ?_
                refine lv_if_ne (tgt := 41) hx hb dX11_seasonAt_34 (by decide) (fun c183 => ?_) (fun c183 => ?_)
                rotate_left
                · exact absurd c183 (by decide)
                refine lv_iconst (v := 1) hx hb dX11_seasonAt_41 (by decide) ?_
                refine lv_istore (lv' := [(4, .int 1), (2, .int v182), (7, .int 0), (6, .int 3), (3, .int 8), (5, .int 1), (0, .int p0), (1, .int p1)]) hx hb dX11_seasonAt_42 hl (by decide) rfl (fun ls hl => ?_)
                refine lv_iconst (v := 0) hx hb dX11_seasonAt_44 (by decide) ?_
                refine lv_istore (lv' := [(5, .int 0), (4, .int 1), (2, .int v182), (7, .int 0), (6, .int 3), (3, .int 8), (0, .int p0), (1, .int p1)]) hx hb dX11_seasonAt_45 hl (by decide) rfl (fun ls hl => ?_)
                refine lv_iload_n hx hb dX11_seasonAt_47 rfl (lv_at hl 5 rfl) ?_
                refine lv_iload hx hb dX11_seasonAt_48 (lv_at hl 0 rfl) ?_
                refine lv_ishr hx hb dX11_seasonAt_50 ?_
                refine lv_topi (fun z184 ez184 => ?_)
                obtain rfl : z184 = 8 := ez184.trans (by decide)
                refine lv_iconst (v := 1) hx hb dX11_seasonAt_51 (by decide) ?_
                refine lv_iand hx hb dX11_seasonAt_52 ?_
                refine lv_topi (fun z185 ez185 => ?_)
                obtain rfl : z185 = 0 := ez185.trans (by decide)
                refine lv_if_eq (tgt := 61) hx hb dX11_seasonAt_53 (by decide) (fun c186 => ?_) (fun c186 => ?_)
                rotate_left
                · exact absurd c186 (by decide)
                refine lv_iload hx hb dX11_seasonAt_61 (lv_at hl 3 rfl) ?_
                refine lv_iload_n hx hb dX11_seasonAt_63 rfl (lv_at hl 5 rfl) ?_
                refine lv_iload hx hb dX11_seasonAt_64 (lv_at hl 0 rfl) ?_
                refine lv_ishr hx hb dX11_seasonAt_66 ?_
                refine lv_topi (fun z187 ez187 => ?_)
                obtain rfl : z187 = 8 := ez187.trans (by decide)
                refine lv_iconst (v := 1) hx hb dX11_seasonAt_67 (by decide) ?_
                refine lv_iand hx hb dX11_seasonAt_68 ?_
                refine lv_topi (fun z188 ez188 => ?_)
                obtain rfl : z188 = 0 := ez188.trans (by decide)
                refine lv_isub hx hb dX11_seasonAt_69 ?_
                refine lv_topi (fun z189 ez189 => ?_)
                obtain rfl : z189 = 0 := ez189.trans (by decide)
                refine lv_istore (lv' := [(7, .int 0), (5, .int 0), (4, .int 1), (2, .int v182), (6, .int 3), (3, .int 8), (0, .int p0), (1, .int p1)]) hx hb dX11_seasonAt_70 hl (by decide) rfl (fun ls hl => ?_)
                refine lv_iinc (v := 1) (lv' := [(5, .int 1), (7, .int 0), (4, .int 1), (2, .int v182), (6, .int 3), (3, .int 8), (0, .int p0), (1, .int p1)]) hx hb dX11_seasonAt_72 hl (k := 1) rfl (by decide) (by decide) rfl (fun ls hl => ?_)
                refine lv_goto (tgt := 47) hx hb dX11_seasonAt_75 (by decide) ?_
                refine lv_iload_n hx hb dX11_seasonAt_47 rfl (lv_at hl 5 rfl) ?_
                refine lv_iload hx hb dX11_seasonAt_48 (lv_at hl 0 rfl) ?_
                refine lv_ishr hx hb dX11_seasonAt_50 ?_
                refine lv_topi (fun z190 ez190 => ?_)
                obtain rfl : z190 = 4 := ez190.trans (by decide)
                refine lv_iconst (v := 1) hx hb dX11_seasonAt_51 (by decide) ?_
                refine lv_iand hx hb dX11_seasonAt_52 ?_
                refine lv_topi (fun z191 ez191 => ?_)
                obtain rfl : z191 = 0 := ez191.trans (by decide)
                refine lv_if_eq (tgt := 61) hx hb dX11_seasonAt_53 (by decide) (fun c192 => ?_) (fun c192 => ?_)
                rotate_left
                · exact absurd c192 (by decide)
                refine lv_iload hx hb dX11_seasonAt_61 (lv_at hl 1 rfl) ?_
                refine lv_iload_n hx hb dX11_seasonAt_63 rfl (lv_at hl 5 rfl) ?_
                refine lv_iload hx hb dX11_seasonAt_64 (lv_at hl 0 rfl) ?_
                refine lv_ishr hx hb dX11_seasonAt_66 ?_
                refine lv_topi (fun z193 ez193 => ?_)
                obtain rfl : z193 = 4 := ez193.trans (by decide)
                refine lv_iconst (v := 1) hx hb dX11_seasonAt_67 (by decide) ?_
                refine lv_iand hx hb dX11_seasonAt_68 ?_
                refine lv_topi (fun z194 ez194 => ?_)
                obtain rfl : z194 = 0 := ez194.trans (by decide)
                refine lv_isub hx hb dX11_seasonAt_69 ?_
                refine lv_topi (fun z195 ez195 => ?_)
                obtain rfl : z195 = 0 := ez195.trans (by decide)
                refine lv_istore (lv' := [(7, .int 0), (5, .int 1), (4, .int 1), (2, .int v182), (6, .int 3), (3, .int 8), (0, .int p0), (1, .int p1)]) hx hb dX11_seasonAt_70 hl (by decide) rfl (fun ls hl => ?_)
                refine lv_iinc (v := 2) (lv' := [(5, .int 2), (7, .int 0), (4, .int 1), (2, .int v182), (6, .int 3), (3, .int 8), (0, .int p0), (1, .int p1)]) hx hb dX11_seasonAt_72 hl (k := 1) rfl (by decide) (by decide) rfl (fun ls hl => ?_)
                refine lv_goto (tgt := 47) hx hb dX11_seasonAt_75 (by decide) ?_
                refine lv_iload_n hx hb dX11_seasonAt_47 rfl (lv_at hl 5 rfl) ?_
                refine lv_iload hx hb dX11_seasonAt_48 (lv_at hl 0 rfl) ?_
                refine lv_ishr hx hb dX11_seasonAt_50 ?_
                refine lv_topi (fun z196 ez196 => ?_)
                obtain rfl : z196 = 2 := ez196.trans (by decide)
                refine lv_iconst (v := 1) hx hb dX11_seasonAt_51 (by decide) ?_
                refine lv_iand hx hb dX11_seasonAt_52 ?_
                refine lv_topi (fun z197 ez197 => ?_)
                obtain rfl : z197 = 0 := ez197.trans (by decide)
                refine lv_if_eq (tgt := 61) hx hb dX11_seasonAt_53 (by decide) (fun c198 => ?_) (fun c198 => ?_)
                rotate_left
                · exact absurd c198 (by decide)
                refine lv_iload hx hb dX11_seasonAt_61 (lv_at hl 1 rfl) ?_
                refine lv_iload_n hx hb dX11_seasonAt_63 rfl (lv_at hl 5 rfl) ?_
                refine lv_iload hx hb dX11_seasonAt_64 (lv_at hl 0 rfl) ?_
                refine lv_ishr hx hb dX11_seasonAt_66 ?_
                refine lv_topi (fun z199 ez199 => ?_)
                obtain rfl : z199 = 2 := ez199.trans (by decide)
                refine lv_iconst (v := 1) hx hb dX11_seasonAt_67 (by decide) ?_
                refine lv_iand hx hb dX11_seasonAt_68 ?_
                refine lv_topi (fun z200 ez200 => ?_)
                obtain rfl : z200 = 0 := ez200.trans (by decide)
                refine lv_isub hx hb dX11_seasonAt_69 ?_
                refine lv_topi (fun z201 ez201 => ?_)
                obtain rfl : z201 = 0 := ez201.trans (by decide)
                refine lv_istore (lv' := [(7, .int 0), (5, .int 2), (4, .int 1), (2, .int v182), (6, .int 3), (3, .int 8), (0, .int p0), (1, .int p1)]) hx hb dX11_seasonAt_70 hl (by decide) rfl (fun ls hl => ?_)
                refine lv_iinc (v := 3) (lv' := [(5, .int 3), (7, .int 0), (4, .int 1), (2, .int v182), (6, .int 3), (3, .int 8), (0, .int p0), (1, .int p1)]) hx hb dX11_seasonAt_72 hl (k := 1) rfl (by decide) (by decide) rfl (fun ls hl => ?_)
                refine lv_goto (tgt := 47) hx hb dX11_seasonAt_75 (by decide) ?_
                refine lv_iload_n hx hb dX11_seasonAt_47 rfl (lv_at hl 5 rfl) ?_
                refine lv_iload hx hb dX11_seasonAt_48 (lv_at hl 0 rfl) ?_
                refine lv_ishr hx hb dX11_seasonAt_50 ?_
                refine lv_topi (fun z202 ez202 => ?_)
                obtain rfl : z202 = 1 := ez202.trans (by decide)
                refine lv_iconst (v := 1) hx hb dX11_seasonAt_51 (by decide) ?_
                refine lv_iand hx hb dX11_seasonAt_52 ?_
                refine lv_topi (fun z203 ez203 => ?_)
                obtain rfl : z203 = 1 := ez203.trans (by decide)
                refine lv_if_eq (tgt := 61) hx hb dX11_seasonAt_53 (by decide) (fun c204 => ?_) (fun c204 => ?_)
                · exact absurd c204 (by decide)
                refine lv_iload hx hb dX11_seasonAt_56 (lv_at hl 1 rfl) ?_
                refine lv_if_le (tgt := 78) hx hb dX11_seasonAt_58 (by decide) (fun c205 => ?_) (fun c205 => ?_)
                rotate_left
                · exact absurd c205 (by decide)
                refine lv_iload_n hx hb dX11_seasonAt_78 rfl (lv_at hl 5 rfl) ?_
                refine lv_iconst (v := 1) hx hb dX11_seasonAt_79 (by decide) ?_
                refine lv_iload hx hb dX11_seasonAt_80 (lv_at hl 0 rfl) ?_
                refine lv_ishl hx hb dX11_seasonAt_82 ?_
                refine lv_topi (fun z206 ez206 => ?_)
                obtain rfl : z206 = 8 := ez206.trans (by decide)
                refine lv_iconst (v := (-1)) hx hb dX11_seasonAt_83 (by decide) ?_
                refine lv_ixor hx hb dX11_seasonAt_84 ?_
                refine lv_topi (fun z207 ez207 => ?_)
                obtain rfl : z207 = (-9) := ez207.trans (by decide)
                refine lv_iand hx hb dX11_seasonAt_85 ?_
                refine lv_topi (fun z208 ez208 => ?_)
                obtain rfl : z208 = 0 := ez208.trans (by decide)
                refine lv_istore_n (lv' := [(3, .int 0), (5, .int 3), (7, .int 0), (4, .int 1), (2, .int v182), (6, .int 3), (0, .int p0), (1, .int p1)]) hx hb dX11_seasonAt_86 rfl hl (by decide) rfl (fun ls hl => ?_)
                refine lv_iinc (v := 4) (lv' := [(6, .int 4), (3, .int 0), (5, .int 3), (7, .int 0), (4, .int 1), (2, .int v182), (0, .int p0), (1, .int p1)]) hx hb dX11_seasonAt_87 hl (k := 5) rfl (by decide) (by decide) rfl (fun ls hl => ?_)
                refine lv_goto (tgt := 15) hx hb dX11_seasonAt_90 (by decide) ?_
                refine lv_iload hx hb dX11_seasonAt_15 (lv_at hl 0 rfl) ?_
                refine lv_iload_n hx hb dX11_seasonAt_17 rfl (lv_at hl 7 rfl) ?_
                refine lv_icmp_gt (tgt := 93) hx hb dX11_seasonAt_18 (by decide) (fun c209 => ?_) (fun c209 => ?_)
                rotate_left
                · have c209 := i_nlt (Eq.refl p1.toInt) (show (4 : Int32).toInt = 4 by decide) c209; exfalso; omega
                have c209 := i_lt (Eq.refl p1.toInt) (show (4 : Int32).toInt = 4 by decide) c209
                refine lv_iload hx hb dX11_seasonAt_93 (lv_at hl 2 rfl) ?_
                refine W.widen (k := 0) (n := 0) (Nat.le_of_ble_eq_true rfl) (Nat.le_of_ble_eq_true rfl) ?_
                have zi3 : (3 : Int32).toInt = 3 := by decide
                exact W.iret (v := 3) hx hb hr (fun t ht hW => ⟨⟨3, rfl, ((show (0 ≤ (3 : Int32).toInt ∧ (3 : Int32).toInt ≤ 3) by omega)), CB.nil⟩, hS.F ht⟩) hS.2.2 dX11_seasonAt_95
          · obtain rfl : v162 = 1 := i_is c163 (by decide)
            refine lv_iload_n hx hb dX11_seasonAt_27 rfl (lv_at hl 5 rfl) ?_
            refine lv_iload hx hb dX11_seasonAt_28 (lv_at hl 4 rfl) ?_
            refine lv_irem hx hb dX11_seasonAt_30 (i_nz (show (1 : Int32).toInt = 1 by decide) (by omega)) ?_
            refine lv_topi (fun v210 ev210 => ?_)
            have hv210 := i_rem (Eq.refl v139.toInt) (show (1 : Int32).toInt = 1 by decide) ev210 (by omega) (by omega)
            refine lv_istore_n (lv' := [(2, .int v210), (7, .int 1), (6, .int 2), (3, .int 10), (5, .int 2), (4, .int 1), (0, .int p0), (1, .int p1)]) hx hb dX11_seasonAt_31 rfl hl (by decide) rfl (fun ls hl => ?_)
            refine lv_iload hx hb dX11_seasonAt_32 (lv_at hl 2 rfl) ?_
            refine lv_if_ne (tgt := 41) hx hb dX11_seasonAt_34 (by decide) (fun c211 => ?_) (fun c211 => ?_)
            rotate_left
            · exact absurd c211 (by decide)
            refine lv_iconst (v := 1) hx hb dX11_seasonAt_41 (by decide) ?_
            refine lv_istore (lv' := [(4, .int 1), (2, .int v210), (7, .int 1), (6, .int 2), (3, .int 10), (5, .int 2), (0, .int p0), (1, .int p1)]) hx hb dX11_seasonAt_42 hl (by decide) rfl (fun ls hl => ?_)
            refine lv_iconst (v := 0) hx hb dX11_seasonAt_44 (by decide) ?_
            refine lv_istore (lv' := [(5, .int 0), (4, .int 1), (2, .int v210), (7, .int 1), (6, .int 2), (3, .int 10), (0, .int p0), (1, .int p1)]) hx hb dX11_seasonAt_45 hl (by decide) rfl (fun ls hl => ?_)
            refine lv_iload_n hx hb dX11_seasonAt_47 rfl (lv_at hl 5 rfl) ?_
            refine lv_iload hx hb dX11_seasonAt_48 (lv_at hl 0 rfl) ?_
            refine lv_ishr hx hb dX11_seasonAt_50 ?_
            refine lv_topi (fun z212 ez212 => ?_)
            obtain rfl : z212 = 10 := ez212.trans (by decide)
            refine lv_iconst (v := 1) hx hb dX11_seasonAt_51 (by decide) ?_
            refine lv_iand hx hb dX11_seasonAt_52 ?_
            refine lv_topi (fun z213 ez213 => ?_)
            obtain rfl : z213 = 0 := ez213.trans (by decide)
            refine lv_if_eq (tgt := 61) hx hb dX11_seasonAt_53 (by decide) (fun c214 => ?_) (fun c214 => ?_)
            rotate_left
            · exact absurd c214 (by decide)
            refine lv_iload hx hb dX11_seasonAt_61 (lv_at hl 3 rfl) ?_
            refine lv_iload_n hx hb dX11_seasonAt_63 rfl (lv_at hl 5 rfl) ?_
            refine lv_iload hx hb dX11_seasonAt_64 (lv_at hl 0 rfl) ?_
            refine lv_ishr hx hb dX11_seasonAt_66 ?_
            refine lv_topi (fun z215 ez215 => ?_)
            obtain rfl : z215 = 10 := ez215.trans (by decide)
            refine lv_iconst (v := 1) hx hb dX11_seasonAt_67 (by decide) ?_
            refine lv_iand hx hb dX11_seasonAt_68 ?_
            refine lv_topi (fun z216 ez216 => ?_)
            obtain rfl : z216 = 0 := ez216.trans (by decide)
            refine lv_isub hx hb dX11_seasonAt_69 ?_
            refine lv_topi (fun z217 ez217 => ?_)
            obtain rfl : z217 = 1 := ez217.trans (by decide)
            refine lv_istore (lv' := [(7, .int 1), (5, .int 0), (4, .int 1), (2, .int v210), (6, .int 2), (3, .int 10), (0, .int p0), (1, .int p1)]) hx hb dX11_seasonAt_70 hl (by decide) rfl (fun ls hl => ?_)
            refine lv_iinc (v := 1) (lv' := [(5, .int 1), (7, .int 1), (4, .int 1), (2, .int v210), (6, .int 2), (3, .int 10), (0, .int p0), (1, .int p1)]) hx hb dX11_seasonAt_72 hl (k := 1) rfl (by decide) (by decide) rfl (fun ls hl => ?_)
            refine lv_goto (tgt := 47) hx hb dX11_seasonAt_75 (by decide) ?_
            refine lv_iload_n hx hb dX11_seasonAt_47 rfl (lv_at hl 5 rfl) ?_
            refine lv_iload hx hb dX11_seasonAt_48 (lv_at hl 0 rfl) ?_
            refine lv_ishr hx hb dX11_seasonAt_50 ?_
            refine lv_topi (fun z218 ez218 => ?_)
            obtain rfl : z218 = 5 := ez218.trans (by decide)
            refine lv_iconst (v := 1) hx hb dX11_seasonAt_51 (by decide) ?_
            refine lv_iand hx hb dX11_seasonAt_52 ?_
            refine lv_topi (fun z219 ez219 => ?_)
            obtain rfl : z219 = 1 := ez219.trans (by decide)
            refine lv_if_eq (tgt := 61) hx hb dX11_seasonAt_53 (by decide) (fun c220 => ?_) (fun c220 => ?_)
            · exact absurd c220 (by decide)
            refine lv_iload hx hb dX11_seasonAt_56 (lv_at hl 1 rfl) ?_
            refine lv_if_le (tgt := 78) hx hb dX11_seasonAt_58 (by decide) (fun c221 => ?_) (fun c221 => ?_)
            · exact absurd c221 (by decide)
            refine lv_iload hx hb dX11_seasonAt_61 (lv_at hl 1 rfl) ?_
            refine lv_iload_n hx hb dX11_seasonAt_63 rfl (lv_at hl 5 rfl) ?_
            refine lv_iload hx hb dX11_seasonAt_64 (lv_at hl 0 rfl) ?_
            refine lv_ishr hx hb dX11_seasonAt_66 ?_
            refine lv_topi (fun z222 ez222 => ?_)
            obtain rfl : z222 = 5 := ez222.trans (by decide)
            refine lv_iconst (v := 1) hx hb dX11_seasonAt_67 (by decide) ?_
            refine lv_iand hx hb dX11_seasonAt_68 ?_
            refine lv_topi (fun z223 ez223 => ?_)
            obtain rfl : z223 = 1 := ez223.trans (by decide)
            refine lv_isub hx hb dX11_seasonAt_69 ?_
            refine lv_topi (fun z224 ez224 => ?_)
            obtain rfl : z224 = 0 := ez224.trans (by decide)
            refine lv_istore (lv' := [(7, .int 0), (5, .int 1), (4, .int 1), (2, .int v210), (6, .int 2), (3, .int 10), (0, .int p0), (1, .int p1)]) hx hb dX11_seasonAt_70 hl (by decide) rfl (fun ls hl => ?_)
            refine lv_iinc (v := 2) (lv' := [(5, .int 2), (7, .int 0), (4, .int 1), (2, .int v210), (6, .int 2), (3, .int 10), (0, .int p0), (1, .int p1)]) hx hb dX11_seasonAt_72 hl (k := 1) rfl (by decide) (by decide) rfl (fun ls hl => ?_)
            refine lv_goto (tgt := 47) hx hb dX11_seasonAt_75 (by decide) ?_
            refine lv_iload_n hx hb dX11_seasonAt_47 rfl (lv_at hl 5 rfl) ?_
            refine lv_iload hx hb dX11_seasonAt_48 (lv_at hl 0 rfl) ?_
            refine lv_ishr hx hb dX11_seasonAt_50 ?_
            refine lv_topi (fun z225 ez225 => ?_)
            obtain rfl : z225 = 2 := ez225.trans (by decide)
            refine lv_iconst (v := 1) hx hb dX11_seasonAt_51 (by decide) ?_
            refine lv_iand hx hb dX11_seasonAt_52 ?_
            refine lv_topi (fun z226 ez226 => ?_)
            obtain rfl : z226 = 0 := ez226.trans (by decide)
            refine lv_if_eq (tgt := 61) hx hb dX11_seasonAt_53 (by decide) (fun c227 => ?_) (fun c227 => ?_)
            rotate_left
            · exact absurd c227 (by decide)
            refine lv_iload hx hb dX11_seasonAt_61 (lv_at hl 1 rfl) ?_
            refine lv_iload_n hx hb dX11_seasonAt_63 rfl (lv_at hl 5 rfl) ?_
            refine lv_iload hx hb dX11_seasonAt_64 (lv_at hl 0 rfl) ?_
            refine lv_ishr hx hb dX11_seasonAt_66 ?_
            refine lv_topi (fun z228 ez228 => ?_)
            obtain rfl : z228 = 2 := ez228.trans (by decide)
            refine lv_iconst (v := 1) hx hb dX11_seasonAt_67 (by decide) ?_
            refine lv_iand hx hb dX11_seasonAt_68 ?_
            refine lv_topi (fun z229 ez229 => ?_)
            obtain rfl : z229 = 0 := ez229.trans (by decide)
            refine lv_isub hx hb dX11_seasonAt_69 ?_
            refine lv_topi (fun z230 ez230 => ?_)
            obtain rfl : z230 = 0 := ez230.trans (by decide)
            refine lv_istore (lv' := [(7, .int 0), (5, .int 2), (4, .int 1), (2, .int v210), (6, .int 2), (3, .int 10), (0, .int p0), (1, .int p1)]) hx hb dX11_seasonAt_70 hl (by decide) rfl (fun ls hl => ?_)
            refine lv_iinc (v := 3) (lv' := [(5, .int 3), (7, .int 0), (4, .int 1), (2, .int v210), (6, .int 2), (3, .int 10), (0, .int p0), (1, .int p1)]) hx hb dX11_seasonAt_72 hl (k := 1) rfl (by decide) (by decide) rfl (fun ls hl => ?_)
            refine lv_goto (tgt := 47) hx hb dX11_seasonAt_75 (by decide) ?_
            refine lv_iload_n hx hb dX11_seasonAt_47 rfl (lv_at hl 5 rfl) ?_
            refine lv_iload hx hb dX11_seasonAt_48 (lv_at hl 0 rfl) ?_
            refine lv_ishr hx hb dX11_seasonAt_50 ?_
            refine lv_topi (fun z231 ez231 => ?_)
            obtain rfl : z231 = 1 := ez231.trans (by decide)
            refine lv_iconst (v := 1) hx hb dX11_seasonAt_51 (by decide) ?_
            refine lv_iand hx hb dX11_seasonAt_52 ?_
            refine lv_topi (fun z232 ez232 => ?_)
            obtain rfl : z232 = 1 := ez232.trans (by decide)
            refine lv_if_eq (tgt := 61) hx hb dX11_seasonAt_53 (by decide) (fun c233 => ?_) (fun c233 => ?_)
            · exact absurd c233 (by decide)
            refine lv_iload hx hb dX11_seasonAt_56 (lv_at hl 1 rfl) ?_
            refine lv_if_le (tgt := 78) hx hb dX11_seasonAt_58 (by decide) (fun c234 => ?_) (fun c234 => ?_)
            rotate_left
            · exact absurd c234 (by decide)
            refine lv_iload_n hx hb dX11_seasonAt_78 rfl (lv_at hl 5 rfl) ?_
            refine lv_iconst (v := 1) hx hb dX11_seasonAt_79 (by decide) ?_
            refine lv_iload hx hb dX11_seasonAt_80 (lv_at hl 0 rfl) ?_
            refine lv_ishl hx hb dX11_seasonAt_82 ?_
            refine lv_topi (fun z235 ez235 => ?_)
            obtain rfl : z235 = 8 := ez235.trans (by decide)
            refine lv_iconst (v := (-1)) hx hb dX11_seasonAt_83 (by decide) ?_
            refine lv_ixor hx hb dX11_seasonAt_84 ?_
            refine lv_topi (fun z236 ez236 => ?_)
            obtain rfl : z236 = (-9) := ez236.trans (by decide)
            refine lv_iand hx hb dX11_seasonAt_85 ?_
            refine lv_topi (fun z237 ez237 => ?_)
            obtain rfl : z237 = 2 := ez237.trans (by decide)
            refine lv_istore_n (lv' := [(3, .int 2), (5, .int 3), (7, .int 0), (4, .int 1), (2, .int v210), (6, .int 2), (0, .int p0), (1, .int p1)]) hx hb dX11_seasonAt_86 rfl hl (by decide) rfl (fun ls hl => ?_)
            refine lv_iinc (v := 3) (lv' := [(6, .int 3), (3, .int 2), (5, .int 3), (7, .int 0), (4, .int 1), (2, .int v210), (0, .int p0), (1, .int p1)]) hx hb dX11_seasonAt_87 hl (k := 5) rfl (by decide) (by decide) rfl (fun ls hl => ?_)
            refine lv_goto (tgt := 15) hx hb dX11_seasonAt_90 (by decide) ?_
            refine lv_iload hx hb dX11_seasonAt_15 (lv_at hl 0 rfl) ?_
            refine lv_iload_n hx hb dX11_seasonAt_17 rfl (lv_at hl 7 rfl) ?_
            refine lv_icmp_gt (tgt := 93) hx hb dX11_seasonAt_18 (by decide) (fun c238 => ?_) (fun c238 => ?_)
            · skip
              have c238 := i_lt (Eq.refl p1.toInt) (show (3 : Int32).toInt = 3 by decide) c238
              refine lv_iload hx hb dX11_seasonAt_93 (lv_at hl 2 rfl) ?_
              refine W.widen (k := 0) (n := 0) (Nat.le_of_ble_eq_true rfl) (Nat.le_of_ble_eq_true rfl) ?_
              have zi3 : (3 : Int32).toInt = 3 := by decide
              exact W.iret (v := 3) hx hb hr (fun t ht hW => ⟨⟨3, rfl, ((show (0 ≤ (3 : Int32).toInt ∧ (3 : Int32).toInt ≤ 3) by omega)), CB.nil⟩, hS.F ht⟩) hS.2.2 dX11_seasonAt_95
            · skip
              have c238 := i_nlt (Eq.refl p1.toInt) (show (3 : Int32).toInt = 3 by decide) c238
              refine lv_iload_n hx hb dX11_seasonAt_21 rfl (lv_at hl 5 rfl) ?_
              refine lv_iload hx hb dX11_seasonAt_22 (lv_at hl 4 rfl) ?_
              refine lv_idiv hx hb dX11_seasonAt_24 (i_nz (show (1 : Int32).toInt = 1 by decide) (by omega)) ?_
              refine lv_topi (fun v239 ev239 => ?_)
              have hv239 := i_div (Eq.refl v210.toInt) (show (1 : Int32).toInt = 1 by decide) ev239 (by omega) (by omega)
              refine lv_istore (lv' := [(7, .int v239), (6, .int 3), (3, .int 2), (5, .int 3), (4, .int 1), (2, .int v210), (0, .int p0), (1, .int p1)]) hx hb dX11_seasonAt_25 hl (by decide) rfl (fun ls hl => ?_)
              rcases (show v239.toInt = 0 by omega) with c240
              · obtain rfl : v239 = 0 := i_is c240 (by decide)
                refine lv_iload_n hx hb dX11_seasonAt_27 rfl (lv_at hl 5 rfl) ?_
                refine lv_iload hx hb dX11_seasonAt_28 (lv_at hl 4 rfl) ?_
                refine lv_irem hx hb dX11_seasonAt_30 (i_nz (show (1 : Int32).toInt = 1 by decide) (by omega)) ?_
                refine lv_topi (fun v241 ev241 => ?_)
                have hv241 := i_rem (Eq.refl v210.toInt) (show (1 : Int32).toInt = 1 by decide) ev241 (by omega) (by omega)
                refine lv_istore_n (lv' := [(2, .int v241), (7, .int 0), (6, .int 3), (3, .int 2), (5, .int 3), (4, .int 1), (0, .int p0), (1, .int p1)]) hx hb dX11_seasonAt_31 rfl hl (by decide) rfl (fun ls hl => ?_)
                refine lv_iload hx hb dX11_seasonAt_32 (lv_at hl 2 rfl) ?_
                refine lv_if_ne (tgt := 41) hx hb dX11_seasonAt_34 (by decide) (fun c242 => ?_) (fun c242 => ?_)
                rotate_left
                · exact absurd c242 (by decide)
                refine lv_iconst (v := 1) hx hb dX11_seasonAt_41 (by decide) ?_
                refine lv_istore (lv' := [(4, .int 1), (2, .int v241), (7, .int 0), (6, .int 3), (3, .int 2), (5, .int 3), (0, .int p0), (1, .int p1)]) hx hb dX11_seasonAt_42 hl (by decide) rfl (fun ls hl => ?_)
                refine lv_iconst (v := 0) hx hb dX11_seasonAt_44 (by decide) ?_
                refine lv_istore (lv' := [(5, .int 0), (4, .int 1), (2, .int v241), (7, .int 0), (6, .int 3), (3, .int 2), (0, .int p0), (1, .int p1)]) hx hb dX11_seasonAt_45 hl (by decide) rfl (fun ls hl => ?_)
                refine lv_iload_n hx hb dX11_seasonAt_47 rfl (lv_at hl 5 rfl) ?_
                refine lv_iload hx hb dX11_seasonAt_48 (lv_at hl 0 rfl) ?_
                refine lv_ishr hx hb dX11_seasonAt_50 ?_
                refine lv_topi (fun z243 ez243 => ?_)
                obtain rfl : z243 = 2 := ez243.trans (by decide)
                refine lv_iconst (v := 1) hx hb dX11_seasonAt_51 (by decide) ?_
                refine lv_iand hx hb dX11_seasonAt_52 ?_
                refine lv_topi (fun z244 ez244 => ?_)
                obtain rfl : z244 = 0 := ez244.trans (by decide)
                refine lv_if_eq (tgt := 61) hx hb dX11_seasonAt_53 (by decide) (fun c245 => ?_) (fun c245 => ?_)
                rotate_left
                · exact absurd c245 (by decide)
                refine lv_iload hx hb dX11_seasonAt_61 (lv_at hl 3 rfl) ?_
                refine lv_iload_n hx hb dX11_seasonAt_63 rfl (lv_at hl 5 rfl) ?_
                refine lv_iload hx hb dX11_seasonAt_64 (lv_at hl 0 rfl) ?_
                refine lv_ishr hx hb dX11_seasonAt_66 ?_
                refine lv_topi (fun z246 ez246 => ?_)
                obtain rfl : z246 = 2 := ez246.trans (by decide)
                refine lv_iconst (v := 1) hx hb dX11_seasonAt_67 (by decide) ?_
                refine lv_iand hx hb dX11_seasonAt_68 ?_
                refine lv_topi (fun z247 ez247 => ?_)
                obtain rfl : z247 = 0 := ez247.trans (by decide)
                refine lv_isub hx hb dX11_seasonAt_69 ?_
                refine lv_topi (fun z248 ez248 => ?_)
                obtain rfl : z248 = 0 := ez248.trans (by decide)
                refine lv_istore (lv' := [(7, .int 0), (5, .int 0), (4, .int 1), (2, .int v241), (6, .int 3), (3, .int 2), (0, .int p0), (1, .int p1)]) hx hb dX11_seasonAt_70 hl (by decide) rfl (fun ls hl => ?_)
                refine lv_iinc (v := 1) (lv' := [(5, .int 1), (7, .int 0), (4, .int 1), (2, .int v241), (6, .int 3), (3, .int 2), (0, .int p0), (1, .int p1)]) hx hb dX11_seasonAt_72 hl (k := 1) rfl (by decide) (by decide) rfl (fun ls hl => ?_)
                refine lv_goto (tgt := 47) hx hb dX11_seasonAt_75 (by decide) ?_
                refine lv_iload_n hx hb dX11_seasonAt_47 rfl (lv_at hl 5 rfl) ?_
                refine lv_iload hx hb dX11_seasonAt_48 (lv_at hl 0 rfl) ?_
                refine lv_ishr hx hb dX11_seasonAt_50 ?_
                refine lv_topi (fun z249 ez249 => ?_)
                obtain rfl : z249 = 1 := ez249.trans (by decide)
                refine lv_iconst (v := 1) hx hb dX11_seasonAt_51 (by decide) ?_
                refine lv_iand hx hb dX11_seasonAt_52 ?_
                refine lv_topi (fun z250 ez250 => ?_)
                obtain rfl : z250 = 1 := ez250.trans (by decide)
                refine lv_if_eq (tgt := 61) hx hb dX11_seasonAt_53 (by decide) (fun c251 => ?_) (fun c251 => ?_)
                · exact absurd c251 (by decide)
                refine lv_iload hx hb dX11_seasonAt_56 (lv_at hl 1 rfl) ?_
                refine lv_if_le (tgt := 78) hx hb dX11_seasonAt_58 (by decide) (fun c252 => ?_) (fun c252 => ?_)
                rotate_left
                · exact absurd c252 (by decide)
                refine lv_iload_n hx hb dX11_seasonAt_78 rfl (lv_at hl 5 rfl) ?_
                refine lv_iconst (v := 1) hx hb dX11_seasonAt_79 (by decide) ?_
                refine lv_iload hx hb dX11_seasonAt_80 (lv_at hl 0 rfl) ?_
                refine lv_ishl hx hb dX11_seasonAt_82 ?_
                refine lv_topi (fun z253 ez253 => ?_)
                obtain rfl : z253 = 2 := ez253.trans (by decide)
                refine lv_iconst (v := (-1)) hx hb dX11_seasonAt_83 (by decide) ?_
                refine lv_ixor hx hb dX11_seasonAt_84 ?_
                refine lv_topi (fun z254 ez254 => ?_)
                obtain rfl : z254 = (-3) := ez254.trans (by decide)
                refine lv_iand hx hb dX11_seasonAt_85 ?_
                refine lv_topi (fun z255 ez255 => ?_)
                obtain rfl : z255 = 0 := ez255.trans (by decide)
                refine lv_istore_n (lv' := [(3, .int 0), (5, .int 1), (7, .int 0), (4, .int 1), (2, .int v241), (6, .int 3), (0, .int p0), (1, .int p1)]) hx hb dX11_seasonAt_86 rfl hl (by decide) rfl (fun ls hl => ?_)
                refine lv_iinc (v := 4) (lv' := [(6, .int 4), (3, .int 0), (5, .int 1), (7, .int 0), (4, .int 1), (2, .int v241), (0, .int p0), (1, .int p1)]) hx hb dX11_seasonAt_87 hl (k := 5) rfl (by decide) (by decide) rfl (fun ls hl => ?_)
                refine lv_goto (tgt := 15) hx hb dX11_seasonAt_90 (by decide) ?_
                refine lv_iload hx hb dX11_seasonAt_15 (lv_at hl 0 rfl) ?_
                refine lv_iload_n hx hb dX11_seasonAt_17 rfl (lv_at hl 7 rfl) ?_
                refine lv_icmp_gt (tgt := 93) hx hb dX11_seasonAt_18 (by decide) (fun c256 => ?_) (fun c256 => ?_)
                rotate_left
                · have c256 := i_nlt (Eq.refl p1.toInt) (show (4 : Int32).toInt = 4 by decide) c256; exfalso; omega
                have c256 := i_lt (Eq.refl p1.toInt) (show (4 : Int32).toInt = 4 by decide) c256
                refine lv_iload hx hb dX11_seasonAt_93 (lv_at hl 2 rfl) ?_
                refine W.widen (k := 0) (n := 0) (Nat.le_of_ble_eq_true rfl) (Nat.le_of_ble_eq_true rfl) ?_
                exact W.iret (v := 1) hx hb hr (fun t ht hW => ⟨⟨1, rfl, ((show (0 ≤ (1 : Int32).toInt ∧ (1 : Int32).toInt ≤ 3) by omega)), CB.nil⟩, hS.F ht⟩) hS.2.2 dX11_seasonAt_95
      · obtain rfl : v14 = 2 := i_is c15 (by decide)
        refine lv_iload_n hx hb dX11_seasonAt_27 rfl (lv_at hl 5 rfl) ?_
        refine lv_iload hx hb dX11_seasonAt_28 (lv_at hl 4 rfl) ?_
        refine lv_irem hx hb dX11_seasonAt_30 (i_nz (show (2 : Int32).toInt = 2 by decide) (by omega)) ?_
        refine lv_topi (fun v257 ev257 => ?_)
        have hv257 := i_rem (Eq.refl v4.toInt) (show (2 : Int32).toInt = 2 by decide) ev257 (by omega) (by omega)
        refine lv_istore_n (lv' := [(2, .int v257), (7, .int 2), (6, .int 1), (3, .int 14), (5, .int 0), (4, .int 2), (0, .int p0), (1, .int p1)]) hx hb dX11_seasonAt_31 rfl hl (by decide) rfl (fun ls hl => ?_)
        refine lv_iload hx hb dX11_seasonAt_32 (lv_at hl 2 rfl) ?_
        refine lv_if_ne (tgt := 41) hx hb dX11_seasonAt_34 (by decide) (fun c258 => ?_) (fun c258 => ?_)
        rotate_left
        · exact absurd c258 (by decide)
        refine lv_iconst (v := 1) hx hb dX11_seasonAt_41 (by decide) ?_
        refine lv_istore (lv' := [(4, .int 1), (2, .int v257), (7, .int 2), (6, .int 1), (3, .int 14), (5, .int 0), (0, .int p0), (1, .int p1)]) hx hb dX11_seasonAt_42 hl (by decide) rfl (fun ls hl => ?_)
        refine lv_iconst (v := 0) hx hb dX11_seasonAt_44 (by decide) ?_
        refine lv_istore (lv' := [(5, .int 0), (4, .int 1), (2, .int v257), (7, .int 2), (6, .int 1), (3, .int 14), (0, .int p0), (1, .int p1)]) hx hb dX11_seasonAt_45 hl (by decide) rfl (fun ls hl => ?_)
        refine lv_iload_n hx hb dX11_seasonAt_47 rfl (lv_at hl 5 rfl) ?_
        refine lv_iload hx hb dX11_seasonAt_48 (lv_at hl 0 rfl) ?_
        refine lv_ishr hx hb dX11_seasonAt_50 ?_
        refine lv_topi (fun z259 ez259 => ?_)
        obtain rfl : z259 = 14 := ez259.trans (by decide)
        refine lv_iconst (v := 1) hx hb dX11_seasonAt_51 (by decide) ?_
        refine lv_iand hx hb dX11_seasonAt_52 ?_
        refine lv_topi (fun z260 ez260 => ?_)
        obtain rfl : z260 = 0 := ez260.trans (by decide)
        refine lv_if_eq (tgt := 61) hx hb dX11_seasonAt_53 (by decide) (fun c261 => ?_) (fun c261 => ?_)
        rotate_left
        · exact absurd c261 (by decide)
        refine lv_iload hx hb dX11_seasonAt_61 (lv_at hl 3 rfl) ?_
        refine lv_iload_n hx hb dX11_seasonAt_63 rfl (lv_at hl 5 rfl) ?_
        refine lv_iload hx hb dX11_seasonAt_64 (lv_at hl 0 rfl) ?_
        refine lv_ishr hx hb dX11_seasonAt_66 ?_
        refine lv_topi (fun z262 ez262 => ?_)
        obtain rfl : z262 = 14 := ez262.trans (by decide)
        refine lv_iconst (v := 1) hx hb dX11_seasonAt_67 (by decide) ?_
        refine lv_iand hx hb dX11_seasonAt_68 ?_
        refine lv_topi (fun z263 ez263 => ?_)
        obtain rfl : z263 = 0 := ez263.trans (by decide)
        refine lv_isub hx hb dX11_seasonAt_69 ?_
        refine lv_topi (fun z264 ez264 => ?_)
        obtain rfl : z264 = 2 := ez264.trans (by decide)
        refine lv_istore (lv' := [(7, .int 2), (5, .int 0), (4, .int 1), (2, .int v257), (6, .int 1), (3, .int 14), (0, .int p0), (1, .int p1)]) hx hb dX11_seasonAt_70 hl (by decide) rfl (fun ls hl => ?_)
        refine lv_iinc (v := 1) (lv' := [(5, .int 1), (7, .int 2), (4, .int 1), (2, .int v257), (6, .int 1), (3, .int 14), (0, .int p0), (1, .int p1)]) hx hb dX11_seasonAt_72 hl (k := 1) rfl (by decide) (by decide) rfl (fun ls hl => ?_)
        refine lv_goto (tgt := 47) hx hb dX11_seasonAt_75 (by decide) ?_
        refine lv_iload_n hx hb dX11_seasonAt_47 rfl (lv_at hl 5 rfl) ?_
        refine lv_iload hx hb dX11_seasonAt_48 (lv_at hl 0 rfl) ?_
        refine lv_ishr hx hb dX11_seasonAt_50 ?_
        refine lv_topi (fun z265 ez265 => ?_)
        obtain rfl : z265 = 7 := ez265.trans (by decide)
        refine lv_iconst (v := 1) hx hb dX11_seasonAt_51 (by decide) ?_
        refine lv_iand hx hb dX11_seasonAt_52 ?_
        refine lv_topi (fun z266 ez266 => ?_)
        obtain rfl : z266 = 1 := ez266.trans (by decide)
        refine lv_if_eq (tgt := 61) hx hb dX11_seasonAt_53 (by decide) (fun c267 => ?_) (fun c267 => ?_)
        · exact absurd c267 (by decide)
        refine lv_iload hx hb dX11_seasonAt_56 (lv_at hl 1 rfl) ?_
        refine lv_if_le (tgt := 78) hx hb dX11_seasonAt_58 (by decide) (fun c268 => ?_) (fun c268 => ?_)
        · exact absurd c268 (by decide)
        refine lv_iload hx hb dX11_seasonAt_61 (lv_at hl 1 rfl) ?_
        refine lv_iload_n hx hb dX11_seasonAt_63 rfl (lv_at hl 5 rfl) ?_
        refine lv_iload hx hb dX11_seasonAt_64 (lv_at hl 0 rfl) ?_
        refine lv_ishr hx hb dX11_seasonAt_66 ?_
        refine lv_topi (fun z269 ez269 => ?_)
        obtain rfl : z269 = 7 := ez269.trans (by decide)
        refine lv_iconst (v := 1) hx hb dX11_seasonAt_67 (by decide) ?_
        refine lv_iand hx hb dX11_seasonAt_68 ?_
        refine lv_topi (fun z270 ez270 => ?_)
        obtain rfl : z270 = 1 := ez270.trans (by decide)
        refine lv_isub hx hb dX11_seasonAt_69 ?_
        refine lv_topi (fun z271 ez271 => ?_)
        obtain rfl : z271 = 1 := ez271.trans (by decide)
        refine lv_istore (lv' := [(7, .int 1), (5, .int 1), (4, .int 1), (2, .int v257), (6, .int 1), (3, .int 14), (0, .int p0), (1, .int p1)]) hx hb dX11_seasonAt_70 hl (by decide) rfl (fun ls hl => ?_)
        refine lv_iinc (v := 2) (lv' := [(5, .int 2), (7, .int 1), (4, .int 1), (2, .int v257), (6, .int 1), (3, .int 14), (0, .int p0), (1, .int p1)]) hx hb dX11_seasonAt_72 hl (k := 1) rfl (by decide) (by decide) rfl (fun ls hl => ?_)
        refine lv_goto (tgt := 47) hx hb dX11_seasonAt_75 (by decide) ?_
        refine lv_iload_n hx hb dX11_seasonAt_47 rfl (lv_at hl 5 rfl) ?_
        refine lv_iload hx hb dX11_seasonAt_48 (lv_at hl 0 rfl) ?_
        refine lv_ishr hx hb dX11_seasonAt_50 ?_
        refine lv_topi (fun z272 ez272 => ?_)
        obtain rfl : z272 = 3 := ez272.trans (by decide)
        refine lv_iconst (v := 1) hx hb dX11_seasonAt_51 (by decide) ?_
        refine lv_iand hx hb dX11_seasonAt_52 ?_
        refine lv_topi (fun z273 ez273 => ?_)
        obtain rfl : z273 = 1 := ez273.trans (by decide)
        refine lv_if_eq (tgt := 61) hx hb dX11_seasonAt_53 (by decide) (fun c274 => ?_) (fun c274 => ?_)
        · exact absurd c274 (by decide)
        refine lv_iload hx hb dX11_seasonAt_56 (lv_at hl 1 rfl) ?_
        refine lv_if_le (tgt := 78) hx hb dX11_seasonAt_58 (by decide) (fun c275 => ?_) (fun c275 => ?_)
        · exact absurd c275 (by decide)
        refine lv_iload hx hb dX11_seasonAt_61 (lv_at hl 1 rfl) ?_
        refine lv_iload_n hx hb dX11_seasonAt_63 rfl (lv_at hl 5 rfl) ?_
        refine lv_iload hx hb dX11_seasonAt_64 (lv_at hl 0 rfl) ?_
        refine lv_ishr hx hb dX11_seasonAt_66 ?_
        refine lv_topi (fun z276 ez276 => ?_)
        obtain rfl : z276 = 3 := ez276.trans (by decide)
        refine lv_iconst (v := 1) hx hb dX11_seasonAt_67 (by decide) ?_
        refine lv_iand hx hb dX11_seasonAt_68 ?_
        refine lv_topi (fun z277 ez277 => ?_)
        obtain rfl : z277 = 1 := ez277.trans (by decide)
        refine lv_isub hx hb dX11_seasonAt_69 ?_
        refine lv_topi (fun z278 ez278 => ?_)
        obtain rfl : z278 = 0 := ez278.trans (by decide)
        refine lv_istore (lv' := [(7, .int 0), (5, .int 2), (4, .int 1), (2, .int v257), (6, .int 1), (3, .int 14), (0, .int p0), (1, .int p1)]) hx hb dX11_seasonAt_70 hl (by decide) rfl (fun ls hl => ?_)
        refine lv_iinc (v := 3) (lv' := [(5, .int 3), (7, .int 0), (4, .int 1), (2, .int v257), (6, .int 1), (3, .int 14), (0, .int p0), (1, .int p1)]) hx hb dX11_seasonAt_72 hl (k := 1) rfl (by decide) (by decide) rfl (fun ls hl => ?_)
        refine lv_goto (tgt := 47) hx hb dX11_seasonAt_75 (by decide) ?_
        refine lv_iload_n hx hb dX11_seasonAt_47 rfl (lv_at hl 5 rfl) ?_
        refine lv_iload hx hb dX11_seasonAt_48 (lv_at hl 0 rfl) ?_
        refine lv_ishr hx hb dX11_seasonAt_50 ?_
        refine lv_topi (fun z279 ez279 => ?_)
        obtain rfl : z279 = 1 := ez279.trans (by decide)
        refine lv_iconst (v := 1) hx hb dX11_seasonAt_51 (by decide) ?_
        refine lv_iand hx hb dX11_seasonAt_52 ?_
        refine lv_topi (fun z280 ez280 => ?_)
        obtain rfl : z280 = 1 := ez280.trans (by decide)
        refine lv_if_eq (tgt := 61) hx hb dX11_seasonAt_53 (by decide) (fun c281 => ?_) (fun c281 => ?_)
        · exact absurd c281 (by decide)
        refine lv_iload hx hb dX11_seasonAt_56 (lv_at hl 1 rfl) ?_
        refine lv_if_le (tgt := 78) hx hb dX11_seasonAt_58 (by decide) (fun c282 => ?_) (fun c282 => ?_)
        rotate_left
        · exact absurd c282 (by decide)
        refine lv_iload_n hx hb dX11_seasonAt_78 rfl (lv_at hl 5 rfl) ?_
        refine lv_iconst (v := 1) hx hb dX11_seasonAt_79 (by decide) ?_
        refine lv_iload hx hb dX11_seasonAt_80 (lv_at hl 0 rfl) ?_
        refine lv_ishl hx hb dX11_seasonAt_82 ?_
        refine lv_topi (fun z283 ez283 => ?_)
        obtain rfl : z283 = 8 := ez283.trans (by decide)
        refine lv_iconst (v := (-1)) hx hb dX11_seasonAt_83 (by decide) ?_
        refine lv_ixor hx hb dX11_seasonAt_84 ?_
        refine lv_topi (fun z284 ez284 => ?_)
        obtain rfl : z284 = (-9) := ez284.trans (by decide)
        refine lv_iand hx hb dX11_seasonAt_85 ?_
        refine lv_topi (fun z285 ez285 => ?_)
        obtain rfl : z285 = 6 := ez285.trans (by decide)
        refine lv_istore_n (lv' := [(3, .int 6), (5, .int 3), (7, .int 0), (4, .int 1), (2, .int v257), (6, .int 1), (0, .int p0), (1, .int p1)]) hx hb dX11_seasonAt_86 rfl hl (by decide) rfl (fun ls hl => ?_)
        refine lv_iinc (v := 2) (lv' := [(6, .int 2), (3, .int 6), (5, .int 3), (7, .int 0), (4, .int 1), (2, .int v257), (0, .int p0), (1, .int p1)]) hx hb dX11_seasonAt_87 hl (k := 5) rfl (by decide) (by decide) rfl (fun ls hl => ?_)
        refine lv_goto (tgt := 15) hx hb dX11_seasonAt_90 (by decide) ?_
        refine lv_iload hx hb dX11_seasonAt_15 (lv_at hl 0 rfl) ?_
        refine lv_iload_n hx hb dX11_seasonAt_17 rfl (lv_at hl 7 rfl) ?_
        refine lv_icmp_gt (tgt := 93) hx hb dX11_seasonAt_18 (by decide) (fun c286 => ?_) (fun c286 => ?_)
        · skip
          have c286 := i_lt (Eq.refl p1.toInt) (show (2 : Int32).toInt = 2 by decide) c286
          refine lv_iload hx hb dX11_seasonAt_93 (lv_at hl 2 rfl) ?_
          refine W.widen (k := 0) (n := 0) (Nat.le_of_ble_eq_true rfl) (Nat.le_of_ble_eq_true rfl) ?_
          have zi3 : (3 : Int32).toInt = 3 := by decide
          exact W.iret (v := 3) hx hb hr (fun t ht hW => ⟨⟨3, rfl, ((show (0 ≤ (3 : Int32).toInt ∧ (3 : Int32).toInt ≤ 3) by omega)), CB.nil⟩, hS.F ht⟩) hS.2.2 dX11_seasonAt_95
        · skip
          have c286 := i_nlt (Eq.refl p1.toInt) (show (2 : Int32).toInt = 2 by decide) c286
          refine lv_iload_n hx hb dX11_seasonAt_21 rfl (lv_at hl 5 rfl) ?_
          refine lv_iload hx hb dX11_seasonAt_22 (lv_at hl 4 rfl) ?_
          have zi1 : (1 : Int32).toInt = 1 := by decide
          refine lv_idiv hx hb dX11_seasonAt_24 (i_nz (show (1 : Int32).toInt = 1 by decide) (by omega)) ?_
          refine lv_topi (fun v287 ev287 => ?_)
          have hv287 := i_div (Eq.refl v257.toInt) (show (1 : Int32).toInt = 1 by decide) ev287 (by omega) (by omega)
          refine lv_istore (lv' := [(7, .int v287), (6, .int 2), (3, .int 6), (5, .int 3), (4, .int 1), (2, .int v257), (0, .int p0), (1, .int p1)]) hx hb dX11_seasonAt_25 hl (by decide) rfl (fun ls hl => ?_)
          rcases (show v287.toInt = 0 ∨ v287.toInt = 1 by omega) with c288 | c288
          · obtain rfl : v287 = 0 := i_is c288 (by decide)
            refine lv_iload_n hx hb dX11_seasonAt_27 rfl (lv_at hl 5 rfl) ?_
            refine lv_iload hx hb dX11_seasonAt_28 (lv_at hl 4 rfl) ?_
            refine lv_irem hx hb dX11_seasonAt_30 (i_nz (show (1 : Int32).toInt = 1 by decide) (by omega)) ?_
            refine lv_topi (fun v289 ev289 => ?_)
            have hv289 := i_rem (Eq.refl v257.toInt) (show (1 : Int32).toInt = 1 by decide) ev289 (by omega) (by omega)
            refine lv_istore_n (lv' := [(2, .int v289), (7, .int 0), (6, .int 2), (3, .int 6), (5, .int 3), (4, .int 1), (0, .int p0), (1, .int p1)]) hx hb dX11_seasonAt_31 rfl hl (by decide) rfl (fun ls hl => ?_)
            refine lv_iload hx hb dX11_seasonAt_32 (lv_at hl 2 rfl) ?_
            refine lv_if_ne (tgt := 41) hx hb dX11_seasonAt_34 (by decide) (fun c290 => ?_) (fun c290 => ?_)
            rotate_left
            · exact absurd c290 (by decide)
            refine lv_iconst (v := 1) hx hb dX11_seasonAt_41 (by decide) ?_
            refine lv_istore (lv' := [(4, .int 1), (2, .int v289), (7, .int 0), (6, .int 2), (3, .int 6), (5, .int 3), (0, .int p0), (1, .int p1)]) hx hb dX11_seasonAt_42 hl (by decide) rfl (fun ls hl => ?_)
            refine lv_iconst (v := 0) hx hb dX11_seasonAt_44 (by decide) ?_
            refine lv_istore (lv' := [(5, .int 0), (4, .int 1), (2, .int v289), (7, .int 0), (6, .int 2), (3, .int 6), (0, .int p0), (1, .int p1)]) hx hb dX11_seasonAt_45 hl (by decide) rfl (fun ls hl => ?_)
            refine lv_iload_n hx hb dX11_seasonAt_47 rfl (lv_at hl 5 rfl) ?_
            refine lv_iload hx hb dX11_seasonAt_48 (lv_at hl 0 rfl) ?_
            refine lv_ishr hx hb dX11_seasonAt_50 ?_
            refine lv_topi (fun z291 ez291 => ?_)
            obtain rfl : z291 = 6 := ez291.trans (by decide)
            refine lv_iconst (v := 1) hx hb dX11_seasonAt_51 (by decide) ?_
            refine lv_iand hx hb dX11_seasonAt_52 ?_
            refine lv_topi (fun z292 ez292 => ?_)
            obtain rfl : z292 = 0 := ez292.trans (by decide)
            refine lv_if_eq (tgt := 61) hx hb dX11_seasonAt_53 (by decide) (fun c293 => ?_) (fun c293 => ?_)
            rotate_left
            · exact absurd c293 (by decide)
            refine lv_iload hx hb dX11_seasonAt_61 (lv_at hl 3 rfl) ?_
            refine lv_iload_n hx hb dX11_seasonAt_63 rfl (lv_at hl 5 rfl) ?_
            refine lv_iload hx hb dX11_seasonAt_64 (lv_at hl 0 rfl) ?_
            refine lv_ishr hx hb dX11_seasonAt_66 ?_
            refine lv_topi (fun z294 ez294 => ?_)
            obtain rfl : z294 = 6 := ez294.trans (by decide)
            refine lv_iconst (v := 1) hx hb dX11_seasonAt_67 (by decide) ?_
            refine lv_iand hx hb dX11_seasonAt_68 ?_
            refine lv_topi (fun z295 ez295 => ?_)
            obtain rfl : z295 = 0 := ez295.trans (by decide)
            refine lv_isub hx hb dX11_seasonAt_69 ?_
            refine lv_topi (fun z296 ez296 => ?_)
            obtain rfl : z296 = 0 := ez296.trans (by decide)
            refine lv_istore (lv' := [(7, .int 0), (5, .int 0), (4, .int 1), (2, .int v289), (6, .int 2), (3, .int 6), (0, .int p0), (1, .int p1)]) hx hb dX11_seasonAt_70 hl (by decide) rfl (fun ls hl => ?_)
            refine lv_iinc (v := 1) (lv' := [(5, .int 1), (7, .int 0), (4, .int 1), (2, .int v289), (6, .int 2), (3, .int 6), (0, .int p0), (1, .int p1)]) hx hb dX11_seasonAt_72 hl (k := 1) rfl (by decide) (by decide) rfl (fun ls hl => ?_)
            refine lv_goto (tgt := 47) hx hb dX11_seasonAt_75 (by decide) ?_
            refine lv_iload_n hx hb dX11_seasonAt_47 rfl (lv_at hl 5 rfl) ?_
            refine lv_iload hx hb dX11_seasonAt_48 (lv_at hl 0 rfl) ?_
            refine lv_ishr hx hb dX11_seasonAt_50 ?_
            refine lv_topi (fun z297 ez297 => ?_)
            obtain rfl : z297 = 3 := ez297.trans (by decide)
            refine lv_iconst (v := 1) hx hb dX11_seasonAt_51 (by decide) ?_
            refine lv_iand hx hb dX11_seasonAt_52 ?_
            refine lv_topi (fun z298 ez298 => ?_)
            obtain rfl : z298 = 1 := ez298.trans (by decide)
            refine lv_if_eq (tgt := 61) hx hb dX11_seasonAt_53 (by decide) (fun c299 => ?_) (fun c299 => ?_)
            · exact absurd c299 (by decide)
            refine lv_iload hx hb dX11_seasonAt_56 (lv_at hl 1 rfl) ?_
            refine lv_if_le (tgt := 78) hx hb dX11_seasonAt_58 (by decide) (fun c300 => ?_) (fun c300 => ?_)
            rotate_left
            · exact absurd c300 (by decide)
            refine lv_iload_n hx hb dX11_seasonAt_78 rfl (lv_at hl 5 rfl) ?_
            refine lv_iconst (v := 1) hx hb dX11_seasonAt_79 (by decide) ?_
            refine lv_iload hx hb dX11_seasonAt_80 (lv_at hl 0 rfl) ?_
            refine lv_ishl hx hb dX11_seasonAt_82 ?_
            refine lv_topi (fun z301 ez301 => ?_)
            obtain rfl : z301 = 2 := ez301.trans (by decide)
            refine lv_iconst (v := (-1)) hx hb dX11_seasonAt_83 (by decide) ?_
            refine lv_ixor hx hb dX11_seasonAt_84 ?_
            refine lv_topi (fun z302 ez302 => ?_)
            obtain rfl : z302 = (-3) := ez302.trans (by decide)
            refine lv_iand hx hb dX11_seasonAt_85 ?_
            refine lv_topi (fun z303 ez303 => ?_)
            obtain rfl : z303 = 4 := ez303.trans (by decide)
            refine lv_istore_n (lv' := [(3, .int 4), (5, .int 1), (7, .int 0), (4, .int 1), (2, .int v289), (6, .int 2), (0, .int p0), (1, .int p1)]) hx hb dX11_seasonAt_86 rfl hl (by decide) rfl (fun ls hl => ?_)
            refine lv_iinc (v := 3) (lv' := [(6, .int 3), (3, .int 4), (5, .int 1), (7, .int 0), (4, .int 1), (2, .int v289), (0, .int p0), (1, .int p1)]) hx hb dX11_seasonAt_87 hl (k := 5) rfl (by decide) (by decide) rfl (fun ls hl => ?_)
            refine lv_goto (tgt := 15) hx hb dX11_seasonAt_90 (by decide) ?_
            refine lv_iload hx hb dX11_seasonAt_15 (lv_at hl 0 rfl) ?_
            refine lv_iload_n hx hb dX11_seasonAt_17 rfl (lv_at hl 7 rfl) ?_
            refine lv_icmp_gt (tgt := 93) hx hb dX11_seasonAt_18 (by decide) (fun c304 => ?_) (fun c304 => ?_)
            · skip
              have c304 := i_lt (Eq.refl p1.toInt) (show (3 : Int32).toInt = 3 by decide) c304
              refine lv_iload hx hb dX11_seasonAt_93 (lv_at hl 2 rfl) ?_
              refine W.widen (k := 0) (n := 0) (Nat.le_of_ble_eq_true rfl) (Nat.le_of_ble_eq_true rfl) ?_
              exact W.iret (v := 1) hx hb hr (fun t ht hW => ⟨⟨1, rfl, ((show (0 ≤ (1 : Int32).toInt ∧ (1 : Int32).toInt ≤ 3) by omega)), CB.nil⟩, hS.F ht⟩) hS.2.2 dX11_seasonAt_95
            · skip
              have c304 := i_nlt (Eq.refl p1.toInt) (show (3 : Int32).toInt = 3 by decide) c304
              refine lv_iload_n hx hb dX11_seasonAt_21 rfl (lv_at hl 5 rfl) ?_
              refine lv_iload hx hb dX11_seasonAt_22 (lv_at hl 4 rfl) ?_
              refine lv_idiv hx hb dX11_seasonAt_24 (i_nz (show (1 : Int32).toInt = 1 by decide) (by omega)) ?_
              refine lv_topi (fun v305 ev305 => ?_)
              have hv305 := i_div (Eq.refl v289.toInt) (show (1 : Int32).toInt = 1 by decide) ev305 (by omega) (by omega)
              refine lv_istore (lv' := [(7, .int v305), (6, .int 3), (3, .int 4), (5, .int 1), (4, .int 1), (2, .int v289), (0, .int p0), (1, .int p1)]) hx hb dX11_seasonAt_25 hl (by decide) rfl (fun ls hl => ?_)
              rcases (show v305.toInt = 0 by omega) with c306
              · obtain rfl : v305 = 0 := i_is c306 (by decide)
                refine lv_iload_n hx hb dX11_seasonAt_27 rfl (lv_at hl 5 rfl) ?_
                refine lv_iload hx hb dX11_seasonAt_28 (lv_at hl 4 rfl) ?_
                refine lv_irem hx hb dX11_seasonAt_30 (i_nz (show (1 : Int32).toInt = 1 by decide) (by omega)) ?_
                refine lv_topi (fun v307 ev307 => ?_)
                have hv307 := i_rem (Eq.refl v289.toInt) (show (1 : Int32).toInt = 1 by decide) ev307 (by omega) (by omega)
                refine lv_istore_n (lv' := [(2, .int v307), (7, .int 0), (6, .int 3), (3, .int 4), (5, .int 1), (4, .int 1), (0, .int p0), (1, .int p1)]) hx hb dX11_seasonAt_31 rfl hl (by decide) rfl (fun ls hl => ?_)
                refine lv_iload hx hb dX11_seasonAt_32 (lv_at hl 2 rfl) ?_
                refine lv_if_ne (tgt := 41) hx hb dX11_seasonAt_34 (by decide) (fun c308 => ?_) (fun c308 => ?_)
                rotate_left
                · exact absurd c308 (by decide)
                refine lv_iconst (v := 1) hx hb dX11_seasonAt_41 (by decide) ?_
                refine lv_istore (lv' := [(4, .int 1), (2, .int v307), (7, .int 0), (6, .int 3), (3, .int 4), (5, .int 1), (0, .int p0), (1, .int p1)]) hx hb dX11_seasonAt_42 hl (by decide) rfl (fun ls hl => ?_)
                refine lv_iconst (v := 0) hx hb dX11_seasonAt_44 (by decide) ?_
                refine lv_istore (lv' := [(5, .int 0), (4, .int 1), (2, .int v307), (7, .int 0), (6, .int 3), (3, .int 4), (0, .int p0), (1, .int p1)]) hx hb dX11_seasonAt_45 hl (by decide) rfl (fun ls hl => ?_)
                refine lv_iload_n hx hb dX11_seasonAt_47 rfl (lv_at hl 5 rfl) ?_
                refine lv_iload hx hb dX11_seasonAt_48 (lv_at hl 0 rfl) ?_
                refine lv_ishr hx hb dX11_seasonAt_50 ?_
                refine lv_topi (fun z309 ez309 => ?_)
                obtain rfl : z309 = 4 := ez309.trans (by decide)
                refine lv_iconst (v := 1) hx hb dX11_seasonAt_51 (by decide) ?_
                refine lv_iand hx hb dX11_seasonAt_52 ?_
                refine lv_topi (fun z310 ez310 => ?_)
                obtain rfl : z310 = 0 := ez310.trans (by decide)
                refine lv_if_eq (tgt := 61) hx hb dX11_seasonAt_53 (by decide) (fun c311 => ?_) (fun c311 => ?_)
                rotate_left
                · exact absurd c311 (by decide)
                refine lv_iload hx hb dX11_seasonAt_61 (lv_at hl 3 rfl) ?_
                refine lv_iload_n hx hb dX11_seasonAt_63 rfl (lv_at hl 5 rfl) ?_
                refine lv_iload hx hb dX11_seasonAt_64 (lv_at hl 0 rfl) ?_
                refine lv_ishr hx hb dX11_seasonAt_66 ?_
                refine lv_topi (fun z312 ez312 => ?_)
                obtain rfl : z312 = 4 := ez312.trans (by decide)
                refine lv_iconst (v := 1) hx hb dX11_seasonAt_67 (by decide) ?_
                refine lv_iand hx hb dX11_seasonAt_68 ?_
                refine lv_topi (fun z313 ez313 => ?_)
                obtain rfl : z313 = 0 := ez313.trans (by decide)
                refine lv_isub hx hb dX11_seasonAt_69 ?_
                refine lv_topi (fun z314 ez314 => ?_)
                obtain rfl : z314 = 0 := ez314.trans (by decide)
                refine lv_istore (lv' := [(7, .int 0), (5, .int 0), (4, .int 1), (2, .int v307), (6, .int 3), (3, .int 4), (0, .int p0), (1, .int p1)]) hx hb dX11_seasonAt_70 hl (by decide) rfl (fun ls hl => ?_)
                refine lv_iinc (v := 1) (lv' := [(5, .int 1), (7, .int 0), (4, .int 1), (2, .int v307), (6, .int 3), (3, .int 4), (0, .int p0), (1, .int p1)]) hx hb dX11_seasonAt_72 hl (k := 1) rfl (by decide) (by decide) rfl (fun ls hl => ?_)
                refine lv_goto (tgt := 47) hx hb dX11_seasonAt_75 (by decide) ?_
                refine lv_iload_n hx hb dX11_seasonAt_47 rfl (lv_at hl 5 rfl) ?_
                refine lv_iload hx hb dX11_seasonAt_48 (lv_at hl 0 rfl) ?_
                refine lv_ishr hx hb dX11_seasonAt_50 ?_
                refine lv_topi (fun z315 ez315 => ?_)
                obtain rfl : z315 = 2 := ez315.trans (by decide)
                refine lv_iconst (v := 1) hx hb dX11_seasonAt_51 (by decide) ?_
                refine lv_iand hx hb dX11_seasonAt_52 ?_
                refine lv_topi (fun z316 ez316 => ?_)
                obtain rfl : z316 = 0 := ez316.trans (by decide)
                refine lv_if_eq (tgt := 61) hx hb dX11_seasonAt_53 (by decide) (fun c317 => ?_) (fun c317 => ?_)
                rotate_left
                · exact absurd c317 (by decide)
                refine lv_iload hx hb dX11_seasonAt_61 (lv_at hl 1 rfl) ?_
                refine lv_iload_n hx hb dX11_seasonAt_63 rfl (lv_at hl 5 rfl) ?_
                refine lv_iload hx hb dX11_seasonAt_64 (lv_at hl 0 rfl) ?_
                refine lv_ishr hx hb dX11_seasonAt_66 ?_
                refine lv_topi (fun z318 ez318 => ?_)
                obtain rfl : z318 = 2 := ez318.trans (by decide)
                refine lv_iconst (v := 1) hx hb dX11_seasonAt_67 (by decide) ?_
                refine lv_iand hx hb dX11_seasonAt_68 ?_
                refine lv_topi (fun z319 ez319 => ?_)
                obtain rfl : z319 = 0 := ez319.trans (by decide)
                refine lv_isub hx hb dX11_seasonAt_69 ?_
                refine lv_topi (fun z320 ez320 => ?_)
                obtain rfl : z320 = 0 := ez320.trans (by decide)
                refine lv_istore (lv' := [(7, .int 0), (5, .int 1), (4, .int 1), (2, .int v307), (6, .int 3), (3, .int 4), (0, .int p0), (1, .int p1)]) hx hb dX11_seasonAt_70 hl (by decide) rfl (fun ls hl => ?_)
                refine lv_iinc (v := 2) (lv' := [(5, .int 2), (7, .int 0), (4, .int 1), (2, .int v307), (6, .int 3), (3, .int 4), (0, .int p0), (1, .int p1)]) hx hb dX11_seasonAt_72 hl (k := 1) rfl (by decide) (by decide) rfl (fun ls hl => ?_)
                refine lv_goto (tgt := 47) hx hb dX11_seasonAt_75 (by decide) ?_
                refine lv_iload_n hx hb dX11_seasonAt_47 rfl (lv_at hl 5 rfl) ?_
                refine lv_iload hx hb dX11_seasonAt_48 (lv_at hl 0 rfl) ?_
                refine lv_ishr hx hb dX11_seasonAt_50 ?_
                refine lv_topi (fun z321 ez321 => ?_)
                obtain rfl : z321 = 1 := ez321.trans (by decide)
                refine lv_iconst (v := 1) hx hb dX11_seasonAt_51 (by decide) ?_
                refine lv_iand hx hb dX11_seasonAt_52 ?_
                refine lv_topi (fun z322 ez322 => ?_)
                obtain rfl : z322 = 1 := ez322.trans (by decide)
                refine lv_if_eq (tgt := 61) hx hb dX11_seasonAt_53 (by decide) (fun c323 => ?_) (fun c323 => ?_)
                · exact absurd c323 (by decide)
                refine lv_iload hx hb dX11_seasonAt_56 (lv_at hl 1 rfl) ?_
                refine lv_if_le (tgt := 78) hx hb dX11_seasonAt_58 (by decide) (fun c324 => ?_) (fun c324 => ?_)
                rotate_left
                · exact absurd c324 (by decide)
                refine lv_iload_n hx hb dX11_seasonAt_78 rfl (lv_at hl 5 rfl) ?_
                refine lv_iconst (v := 1) hx hb dX11_seasonAt_79 (by decide) ?_
                refine lv_iload hx hb dX11_seasonAt_80 (lv_at hl 0 rfl) ?_
                refine lv_ishl hx hb dX11_seasonAt_82 ?_
                refine lv_topi (fun z325 ez325 => ?_)
                obtain rfl : z325 = 4 := ez325.trans (by decide)
                refine lv_iconst (v := (-1)) hx hb dX11_seasonAt_83 (by decide) ?_
                refine lv_ixor hx hb dX11_seasonAt_84 ?_
                refine lv_topi (fun z326 ez326 => ?_)
                obtain rfl : z326 = (-5) := ez326.trans (by decide)
                refine lv_iand hx hb dX11_seasonAt_85 ?_
                refine lv_topi (fun z327 ez327 => ?_)
                obtain rfl : z327 = 0 := ez327.trans (by decide)
                refine lv_istore_n (lv' := [(3, .int 0), (5, .int 2), (7, .int 0), (4, .int 1), (2, .int v307), (6, .int 3), (0, .int p0), (1, .int p1)]) hx hb dX11_seasonAt_86 rfl hl (by decide) rfl (fun ls hl => ?_)
                refine lv_iinc (v := 4) (lv' := [(6, .int 4), (3, .int 0), (5, .int 2), (7, .int 0), (4, .int 1), (2, .int v307), (0, .int p0), (1, .int p1)]) hx hb dX11_seasonAt_87 hl (k := 5) rfl (by decide) (by decide) rfl (fun ls hl => ?_)
                refine lv_goto (tgt := 15) hx hb dX11_seasonAt_90 (by decide) ?_
                refine lv_iload hx hb dX11_seasonAt_15 (lv_at hl 0 rfl) ?_
                refine lv_iload_n hx hb dX11_seasonAt_17 rfl (lv_at hl 7 rfl) ?_
                refine lv_icmp_gt (tgt := 93) hx hb dX11_seasonAt_18 (by decide) (fun c328 => ?_) (fun c328 => ?_)
                rotate_left
                · have c328 := i_nlt (Eq.refl p1.toInt) (show (4 : Int32).toInt = 4 by decide) c328; exfalso; omega
                have c328 := i_lt (Eq.refl p1.toInt) (show (4 : Int32).toInt = 4 by decide) c328
                refine lv_iload hx hb dX11_seasonAt_93 (lv_at hl 2 rfl) ?_
                refine W.widen (k := 0) (n := 0) (Nat.le_of_ble_eq_true rfl) (Nat.le_of_ble_eq_true rfl) ?_
                exact W.iret (v := 2) hx hb hr (fun t ht hW => ⟨⟨2, rfl, ((show (0 ≤ (2 : Int32).toInt ∧ (2 : Int32).toInt ≤ 3) by omega)), CB.nil⟩, hS.F ht⟩) hS.2.2 dX11_seasonAt_95
          · obtain rfl : v287 = 1 := i_is c288 (by decide)
            refine lv_iload_n hx hb dX11_seasonAt_27 rfl (lv_at hl 5 rfl) ?_
            refine lv_iload hx hb dX11_seasonAt_28 (lv_at hl 4 rfl) ?_
            refine lv_irem hx hb dX11_seasonAt_30 (i_nz (show (1 : Int32).toInt = 1 by decide) (by omega)) ?_
            refine lv_topi (fun v329 ev329 => ?_)
            have hv329 := i_rem (Eq.refl v257.toInt) (show (1 : Int32).toInt = 1 by decide) ev329 (by omega) (by omega)
            refine lv_istore_n (lv' := [(2, .int v329), (7, .int 1), (6, .int 2), (3, .int 6), (5, .int 3), (4, .int 1), (0, .int p0), (1, .int p1)]) hx hb dX11_seasonAt_31 rfl hl (by decide) rfl (fun ls hl => ?_)
            refine lv_iload hx hb dX11_seasonAt_32 (lv_at hl 2 rfl) ?_
            refine lv_if_ne (tgt := 41) hx hb dX11_seasonAt_34 (by decide) (fun c330 => ?_) (fun c330 => ?_)
            rotate_left
            · exact absurd c330 (by decide)
            refine lv_iconst (v := 1) hx hb dX11_seasonAt_41 (by decide) ?_
            refine lv_istore (lv' := [(4, .int 1), (2, .int v329), (7, .int 1), (6, .int 2), (3, .int 6), (5, .int 3), (0, .int p0), (1, .int p1)]) hx hb dX11_seasonAt_42 hl (by decide) rfl (fun ls hl => ?_)
            refine lv_iconst (v := 0) hx hb dX11_seasonAt_44 (by decide) ?_
            refine lv_istore (lv' := [(5, .int 0), (4, .int 1), (2, .int v329), (7, .int 1), (6, .int 2), (3, .int 6), (0, .int p0), (1, .int p1)]) hx hb dX11_seasonAt_45 hl (by decide) rfl (fun ls hl => ?_)
            refine lv_iload_n hx hb dX11_seasonAt_47 rfl (lv_at hl 5 rfl) ?_
            refine lv_iload hx hb dX11_seasonAt_48 (lv_at hl 0 rfl) ?_
            refine lv_ishr hx hb dX11_seasonAt_50 ?_
            refine lv_topi (fun z331 ez331 => ?_)
            obtain rfl : z331 = 6 := ez331.trans (by decide)
            refine lv_iconst (v := 1) hx hb dX11_seasonAt_51 (by decide) ?_
            refine lv_iand hx hb dX11_seasonAt_52 ?_
            refine lv_topi (fun z332 ez332 => ?_)
            obtain rfl : z332 = 0 := ez332.trans (by decide)
            refine lv_if_eq (tgt := 61) hx hb dX11_seasonAt_53 (by decide) (fun c333 => ?_) (fun c333 => ?_)
            rotate_left
            · exact absurd c333 (by decide)
            refine lv_iload hx hb dX11_seasonAt_61 (lv_at hl 3 rfl) ?_
            refine lv_iload_n hx hb dX11_seasonAt_63 rfl (lv_at hl 5 rfl) ?_
            refine lv_iload hx hb dX11_seasonAt_64 (lv_at hl 0 rfl) ?_
            refine lv_ishr hx hb dX11_seasonAt_66 ?_
            refine lv_topi (fun z334 ez334 => ?_)
            obtain rfl : z334 = 6 := ez334.trans (by decide)
            refine lv_iconst (v := 1) hx hb dX11_seasonAt_67 (by decide) ?_
            refine lv_iand hx hb dX11_seasonAt_68 ?_
            refine lv_topi (fun z335 ez335 => ?_)
            obtain rfl : z335 = 0 := ez335.trans (by decide)
            refine lv_isub hx hb dX11_seasonAt_69 ?_
            refine lv_topi (fun z336 ez336 => ?_)
            obtain rfl : z336 = 1 := ez336.trans (by decide)
            refine lv_istore (lv' := [(7, .int 1), (5, .int 0), (4, .int 1), (2, .int v329), (6, .int 2), (3, .int 6), (0, .int p0), (1, .int p1)]) hx hb dX11_seasonAt_70 hl (by decide) rfl (fun ls hl => ?_)
            refine lv_iinc (v := 1) (lv' := [(5, .int 1), (7, .int 1), (4, .int 1), (2, .int v329), (6, .int 2), (3, .int 6), (0, .int p0), (1, .int p1)]) hx hb dX11_seasonAt_72 hl (k := 1) rfl (by decide) (by decide) rfl (fun ls hl => ?_)
            refine lv_goto (tgt := 47) hx hb dX11_seasonAt_75 (by decide) ?_
            refine lv_iload_n hx hb dX11_seasonAt_47 rfl (lv_at hl 5 rfl) ?_
            refine lv_iload hx hb dX11_seasonAt_48 (lv_at hl 0 rfl) ?_
            refine lv_ishr hx hb dX11_seasonAt_50 ?_
            refine lv_topi (fun z337 ez337 => ?_)
            obtain rfl : z337 = 3 := ez337.trans (by decide)
            refine lv_iconst (v := 1) hx hb dX11_seasonAt_51 (by decide) ?_
            refine lv_iand hx hb dX11_seasonAt_52 ?_
            refine lv_topi (fun z338 ez338 => ?_)
            obtain rfl : z338 = 1 := ez338.trans (by decide)
            refine lv_if_eq (tgt := 61) hx hb dX11_seasonAt_53 (by decide) (fun c339 => ?_) (fun c339 => ?_)
            · exact absurd c339 (by decide)
            refine lv_iload hx hb dX11_seasonAt_56 (lv_at hl 1 rfl) ?_
            refine lv_if_le (tgt := 78) hx hb dX11_seasonAt_58 (by decide) (fun c340 => ?_) (fun c340 => ?_)
            · exact absurd c340 (by decide)
            refine lv_iload hx hb dX11_seasonAt_61 (lv_at hl 1 rfl) ?_
            refine lv_iload_n hx hb dX11_seasonAt_63 rfl (lv_at hl 5 rfl) ?_
            refine lv_iload hx hb dX11_seasonAt_64 (lv_at hl 0 rfl) ?_
            refine lv_ishr hx hb dX11_seasonAt_66 ?_
            refine lv_topi (fun z341 ez341 => ?_)
            obtain rfl : z341 = 3 := ez341.trans (by decide)
            refine lv_iconst (v := 1) hx hb dX11_seasonAt_67 (by decide) ?_
            refine lv_iand hx hb dX11_seasonAt_68 ?_
            refine lv_topi (fun z342 ez342 => ?_)
            obtain rfl : z342 = 1 := ez342.trans (by decide)
            refine lv_isub hx hb dX11_seasonAt_69 ?_
            refine lv_topi (fun z343 ez343 => ?_)
            obtain rfl : z343 = 0 := ez343.trans (by decide)
            refine lv_istore (lv' := [(7, .int 0), (5, .int 1), (4, .int 1), (2, .int v329), (6, .int 2), (3, .int 6), (0, .int p0), (1, .int p1)]) hx hb dX11_seasonAt_70 hl (by decide) rfl (fun ls hl => ?_)
            refine lv_iinc (v := 2) (lv' := [(5, .int 2), (7, .int 0), (4, .int 1), (2, .int v329), (6, .int 2), (3, .int 6), (0, .int p0), (1, .int p1)]) hx hb dX11_seasonAt_72 hl (k := 1) rfl (by decide) (by decide) rfl (fun ls hl => ?_)
            refine lv_goto (tgt := 47) hx hb dX11_seasonAt_75 (by decide) ?_
            refine lv_iload_n hx hb dX11_seasonAt_47 rfl (lv_at hl 5 rfl) ?_
            refine lv_iload hx hb dX11_seasonAt_48 (lv_at hl 0 rfl) ?_
            refine lv_ishr hx hb dX11_seasonAt_50 ?_
            refine lv_topi (fun z344 ez344 => ?_)
            obtain rfl : z344 = 1 := ez344.trans (by decide)
            refine lv_iconst (v := 1) hx hb dX11_seasonAt_51 (by decide) ?_
            refine lv_iand hx hb dX11_seasonAt_52 ?_
            refine lv_topi (fun z345 ez345 => ?_)
            obtain rfl : z345 = 1 := ez345.trans (by decide)
            refine lv_if_eq (tgt := 61) hx hb dX11_seasonAt_53 (by decide) (fun c346 => ?_) (fun c346 => ?_)
            · exact absurd c346 (by decide)
            refine lv_iload hx hb dX11_seasonAt_56 (lv_at hl 1 rfl) ?_
            refine lv_if_le (tgt := 78) hx hb dX11_seasonAt_58 (by decide) (fun c347 => ?_) (fun c347 => ?_)
            rotate_left
            · exact absurd c347 (by decide)
            refine lv_iload_n hx hb dX11_seasonAt_78 rfl (lv_at hl 5 rfl) ?_
            refine lv_iconst (v := 1) hx hb dX11_seasonAt_79 (by decide) ?_
            refine lv_iload hx hb dX11_seasonAt_80 (lv_at hl 0 rfl) ?_
            refine lv_ishl hx hb dX11_seasonAt_82 ?_
            refine lv_topi (fun z348 ez348 => ?_)
            obtain rfl : z348 = 4 := ez348.trans (by decide)
            refine lv_iconst (v := (-1)) hx hb dX11_seasonAt_83 (by decide) ?_
            refine lv_ixor hx hb dX11_seasonAt_84 ?_
            refine lv_topi (fun z349 ez349 => ?_)
            obtain rfl : z349 = (-5) := ez349.trans (by decide)
            refine lv_iand hx hb dX11_seasonAt_85 ?_
            refine lv_topi (fun z350 ez350 => ?_)
            obtain rfl : z350 = 2 := ez350.trans (by decide)
            refine lv_istore_n (lv' := [(3, .int 2), (5, .int 2), (7, .int 0), (4, .int 1), (2, .int v329), (6, .int 2), (0, .int p0), (1, .int p1)]) hx hb dX11_seasonAt_86 rfl hl (by decide) rfl (fun ls hl => ?_)
            refine lv_iinc (v := 3) (lv' := [(6, .int 3), (3, .int 2), (5, .int 2), (7, .int 0), (4, .int 1), (2, .int v329), (0, .int p0), (1, .int p1)]) hx hb dX11_seasonAt_87 hl (k := 5) rfl (by decide) (by decide) rfl (fun ls hl => ?_)
            refine lv_goto (tgt := 15) hx hb dX11_seasonAt_90 (by decide) ?_
            refine lv_iload hx hb dX11_seasonAt_15 (lv_at hl 0 rfl) ?_
            refine lv_iload_n hx hb dX11_seasonAt_17 rfl (lv_at hl 7 rfl) ?_
            refine lv_icmp_gt (tgt := 93) hx hb dX11_seasonAt_18 (by decide) (fun c351 => ?_) (fun c351 => ?_)
            · skip
              have c351 := i_lt (Eq.refl p1.toInt) (show (3 : Int32).toInt = 3 by decide) c351
              refine lv_iload hx hb dX11_seasonAt_93 (lv_at hl 2 rfl) ?_
              refine W.widen (k := 0) (n := 0) (Nat.le_of_ble_eq_true rfl) (Nat.le_of_ble_eq_true rfl) ?_
              exact W.iret (v := 2) hx hb hr (fun t ht hW => ⟨⟨2, rfl, ((show (0 ≤ (2 : Int32).toInt ∧ (2 : Int32).toInt ≤ 3) by omega)), CB.nil⟩, hS.F ht⟩) hS.2.2 dX11_seasonAt_95
            · skip
              have c351 := i_nlt (Eq.refl p1.toInt) (show (3 : Int32).toInt = 3 by decide) c351
              refine lv_iload_n hx hb dX11_seasonAt_21 rfl (lv_at hl 5 rfl) ?_
              refine lv_iload hx hb dX11_seasonAt_22 (lv_at hl 4 rfl) ?_
              refine lv_idiv hx hb dX11_seasonAt_24 (i_nz (show (1 : Int32).toInt = 1 by decide) (by omega)) ?_
              refine lv_topi (fun v352 ev352 => ?_)
              have hv352 := i_div (Eq.refl v329.toInt) (show (1 : Int32).toInt = 1 by decide) ev352 (by omega) (by omega)
              refine lv_istore (lv' := [(7, .int v352), (6, .int 3), (3, .int 2), (5, .int 2), (4, .int 1), (2, .int v329), (0, .int p0), (1, .int p1)]) hx hb dX11_seasonAt_25 hl (by decide) rfl (fun ls hl => ?_)
              rcases (show v352.toInt = 0 by omega) with c353
              · obtain rfl : v352 = 0 := i_is c353 (by decide)
                refine lv_iload_n hx hb dX11_seasonAt_27 rfl (lv_at hl 5 rfl) ?_
                refine lv_iload hx hb dX11_seasonAt_28 (lv_at hl 4 rfl) ?_
                refine lv_irem hx hb dX11_seasonAt_30 (i_nz (show (1 : Int32).toInt = 1 by decide) (by omega)) ?_
                refine lv_topi (fun v354 ev354 => ?_)
                have hv354 := i_rem (Eq.refl v329.toInt) (show (1 : Int32).toInt = 1 by decide) ev354 (by omega) (by omega)
                refine lv_istore_n (lv' := [(2, .int v354), (7, .int 0), (6, .int 3), (3, .int 2), (5, .int 2), (4, .int 1), (0, .int p0), (1, .int p1)]) hx hb dX11_seasonAt_31 rfl hl (by decide) rfl (fun ls hl => ?_)
                refine lv_iload hx hb dX11_seasonAt_32 (lv_at hl 2 rfl) ?_
                refine lv_if_ne (tgt := 41) hx hb dX11_seasonAt_34 (by decide) (fun c355 => ?_) (fun c355 => ?_)
                rotate_left
                · exact absurd c355 (by decide)
                refine lv_iconst (v := 1) hx hb dX11_seasonAt_41 (by decide) ?_
                refine lv_istore (lv' := [(4, .int 1), (2, .int v354), (7, .int 0), (6, .int 3), (3, .int 2), (5, .int 2), (0, .int p0), (1, .int p1)]) hx hb dX11_seasonAt_42 hl (by decide) rfl (fun ls hl => ?_)
                refine lv_iconst (v := 0) hx hb dX11_seasonAt_44 (by decide) ?_
                refine lv_istore (lv' := [(5, .int 0), (4, .int 1), (2, .int v354), (7, .int 0), (6, .int 3), (3, .int 2), (0, .int p0), (1, .int p1)]) hx hb dX11_seasonAt_45 hl (by decide) rfl (fun ls hl => ?_)
                refine lv_iload_n hx hb dX11_seasonAt_47 rfl (lv_at hl 5 rfl) ?_
                refine lv_iload hx hb dX11_seasonAt_48 (lv_at hl 0 rfl) ?_
                refine lv_ishr hx hb dX11_seasonAt_50 ?_
                refine lv_topi (fun z356 ez356 => ?_)
                obtain rfl : z356 = 2 := ez356.trans (by decide)
                refine lv_iconst (v := 1) hx hb dX11_seasonAt_51 (by decide) ?_
                refine lv_iand hx hb dX11_seasonAt_52 ?_
                refine lv_topi (fun z357 ez357 => ?_)
                obtain rfl : z357 = 0 := ez357.trans (by decide)
                refine lv_if_eq (tgt := 61) hx hb dX11_seasonAt_53 (by decide) (fun c358 => ?_) (fun c358 => ?_)
                rotate_left
                · exact absurd c358 (by decide)
                refine lv_iload hx hb dX11_seasonAt_61 (lv_at hl 3 rfl) ?_
                refine lv_iload_n hx hb dX11_seasonAt_63 rfl (lv_at hl 5 rfl) ?_
                refine lv_iload hx hb dX11_seasonAt_64 (lv_at hl 0 rfl) ?_
                refine lv_ishr hx hb dX11_seasonAt_66 ?_
                refine lv_topi (fun z359 ez359 => ?_)
                obtain rfl : z359 = 2 := ez359.trans (by decide)
                refine lv_iconst (v := 1) hx hb dX11_seasonAt_67 (by decide) ?_
                refine lv_iand hx hb dX11_seasonAt_68 ?_
                refine lv_topi (fun z360 ez360 => ?_)
                obtain rfl : z360 = 0 := ez360.trans (by decide)
                refine lv_isub hx hb dX11_seasonAt_69 ?_
                refine lv_topi (fun z361 ez361 => ?_)
                obtain rfl : z361 = 0 := ez361.trans (by decide)
                refine lv_istore (lv' := [(7, .int 0), (5, .int 0), (4, .int 1), (2, .int v354), (6, .int 3), (3, .int 2), (0, .int p0), (1, .int p1)]) hx hb dX11_seasonAt_70 hl (by decide) rfl (fun ls hl => ?_)
                refine lv_iinc (v := 1) (lv' := [(5, .int 1), (7, .int 0), (4, .int 1), (2, .int v354), (6, .int 3), (3, .int 2), (0, .int p0), (1, .int p1)]) hx hb dX11_seasonAt_72 hl (k := 1) rfl (by decide) (by decide) rfl (fun ls hl => ?_)
                refine lv_goto (tgt := 47) hx hb dX11_seasonAt_75 (by decide) ?_
                refine lv_iload_n hx hb dX11_seasonAt_47 rfl (lv_at hl 5 rfl) ?_
                refine lv_iload hx hb dX11_seasonAt_48 (lv_at hl 0 rfl) ?_
                refine lv_ishr hx hb dX11_seasonAt_50 ?_
                refine lv_topi (fun z362 ez362 => ?_)
                obtain rfl : z362 = 1 := ez362.trans (by decide)
                refine lv_iconst (v := 1) hx hb dX11_seasonAt_51 (by decide) ?_
                refine lv_iand hx hb dX11_seasonAt_52 ?_
                refine lv_topi (fun z363 ez363 => ?_)
                obtain rfl : z363 = 1 := ez363.trans (by decide)
                refine lv_if_eq (tgt := 61) hx hb dX11_seasonAt_53 (by decide) (fun c364 => ?_) (fun c364 => ?_)
                · exact absurd c364 (by decide)
                refine lv_iload hx hb dX11_seasonAt_56 (lv_at hl 1 rfl) ?_
                refine lv_if_le (tgt := 78) hx hb dX11_seasonAt_58 (by decide) (fun c365 => ?_) (fun c365 => ?_)
                rotate_left
                · exact absurd c365 (by decide)
                refine lv_iload_n hx hb dX11_seasonAt_78 rfl (lv_at hl 5 rfl) ?_
                refine lv_iconst (v := 1) hx hb dX11_seasonAt_79 (by decide) ?_
                refine lv_iload hx hb dX11_seasonAt_80 (lv_at hl 0 rfl) ?_
                refine lv_ishl hx hb dX11_seasonAt_82 ?_
                refine lv_topi (fun z366 ez366 => ?_)
                obtain rfl : z366 = 2 := ez366.trans (by decide)
                refine lv_iconst (v := (-1)) hx hb dX11_seasonAt_83 (by decide) ?_
                refine lv_ixor hx hb dX11_seasonAt_84 ?_
                refine lv_topi (fun z367 ez367 => ?_)
                obtain rfl : z367 = (-3) := ez367.trans (by decide)
                refine lv_iand hx hb dX11_seasonAt_85 ?_
                refine lv_topi (fun z368 ez368 => ?_)
                obtain rfl : z368 = 0 := ez368.trans (by decide)
                refine lv_istore_n (lv' := [(3, .int 0), (5, .int 1), (7, .int 0), (4, .int 1), (2, .int v354), (6, .int 3), (0, .int p0), (1, .int p1)]) hx hb dX11_seasonAt_86 rfl hl (by decide) rfl (fun ls hl => ?_)
                refine lv_iinc (v := 4) (lv' := [(6, .int 4), (3, .int 0), (5, .int 1), (7, .int 0), (4, .int 1), (2, .int v354), (0, .int p0), (1, .int p1)]) hx hb dX11_seasonAt_87 hl (k := 5) rfl (by decide) (by decide) rfl (fun ls hl => ?_)
                refine lv_goto (tgt := 15) hx hb dX11_seasonAt_90 (by decide) ?_
                refine lv_iload hx hb dX11_seasonAt_15 (lv_at hl 0 rfl) ?_
                refine lv_iload_n hx hb dX11_seasonAt_17 rfl (lv_at hl 7 rfl) ?_
                refine lv_icmp_gt (tgt := 93) hx hb dX11_seasonAt_18 (by decide) (fun c369 => ?_) (fun c369 => ?_)
                rotate_left
                · have c369 := i_nlt (Eq.refl p1.toInt) (show (4 : Int32).toInt = 4 by decide) c369; exfalso; omega
                have c369 := i_lt (Eq.refl p1.toInt) (show (4 : Int32).toInt = 4 by decide) c369
                refine lv_iload hx hb dX11_seasonAt_93 (lv_at hl 2 rfl) ?_
                refine W.widen (k := 0) (n := 0) (Nat.le_of_ble_eq_true rfl) (Nat.le_of_ble_eq_true rfl) ?_
                exact W.iret (v := 1) hx hb hr (fun t ht hW => ⟨⟨1, rfl, ((show (0 ≤ (1 : Int32).toInt ∧ (1 : Int32).toInt ≤ 3) by omega)), CB.nil⟩, hS.F ht⟩) hS.2.2 dX11_seasonAt_95
  · obtain rfl : v2 = 1 := i_is c3 (by decide)
    refine lv_iload_n hx hb dX11_seasonAt_27 rfl (lv_at hl 5 rfl) ?_
    refine lv_iload hx hb dX11_seasonAt_28 (lv_at hl 3 rfl) ?_
    refine lv_irem hx hb dX11_seasonAt_30 (i_nz (show (6 : Int32).toInt = 6 by decide) (by omega)) ?_
    refine lv_topi (fun v370 ev370 => ?_)
    have hv370 := i_rem (Eq.refl p0.toInt) (show (6 : Int32).toInt = 6 by decide) ev370 (by omega) (by omega)
    refine lv_istore_n (lv' := [(2, .int v370), (7, .int 1), (6, .int 0), (5, .int 0), (4, .int 6), (3, .int 15), (0, .int p0), (1, .int p1)]) hx hb dX11_seasonAt_31 rfl hl (by decide) rfl (fun ls hl => ?_)
    refine lv_iload hx hb dX11_seasonAt_32 (lv_at hl 2 rfl) ?_
    refine lv_if_ne (tgt := 41) hx hb dX11_seasonAt_34 (by decide) (fun c371 => ?_) (fun c371 => ?_)
    · exact absurd c371 (by decide)
    refine lv_iconst (v := 2) hx hb dX11_seasonAt_37 (by decide) ?_
    refine lv_goto (tgt := 42) hx hb dX11_seasonAt_38 (by decide) ?_
    refine lv_istore (lv' := [(4, .int 2), (2, .int v370), (7, .int 1), (6, .int 0), (5, .int 0), (3, .int 15), (0, .int p0), (1, .int p1)]) hx hb dX11_seasonAt_42 hl (by decide) rfl (fun ls hl => ?_)
    refine lv_iconst (v := 0) hx hb dX11_seasonAt_44 (by decide) ?_
    refine lv_istore (lv' := [(5, .int 0), (4, .int 2), (2, .int v370), (7, .int 1), (6, .int 0), (3, .int 15), (0, .int p0), (1, .int p1)]) hx hb dX11_seasonAt_45 hl (by decide) rfl (fun ls hl => ?_)
    refine lv_iload_n hx hb dX11_seasonAt_47 rfl (lv_at hl 5 rfl) ?_
    refine lv_iload hx hb dX11_seasonAt_48 (lv_at hl 0 rfl) ?_
    refine lv_ishr hx hb dX11_seasonAt_50 ?_
    refine lv_topi (fun z372 ez372 => ?_)
    obtain rfl : z372 = 15 := ez372.trans (by decide)
    refine lv_iconst (v := 1) hx hb dX11_seasonAt_51 (by decide) ?_
    refine lv_iand hx hb dX11_seasonAt_52 ?_
    refine lv_topi (fun z373 ez373 => ?_)
    obtain rfl : z373 = 1 := ez373.trans (by decide)
    refine lv_if_eq (tgt := 61) hx hb dX11_seasonAt_53 (by decide) (fun c374 => ?_) (fun c374 => ?_)
    · exact absurd c374 (by decide)
    refine lv_iload hx hb dX11_seasonAt_56 (lv_at hl 3 rfl) ?_
    refine lv_if_le (tgt := 78) hx hb dX11_seasonAt_58 (by decide) (fun c375 => ?_) (fun c375 => ?_)
    · exact absurd c375 (by decide)
    refine lv_iload hx hb dX11_seasonAt_61 (lv_at hl 3 rfl) ?_
    refine lv_iload_n hx hb dX11_seasonAt_63 rfl (lv_at hl 5 rfl) ?_
    refine lv_iload hx hb dX11_seasonAt_64 (lv_at hl 0 rfl) ?_
    refine lv_ishr hx hb dX11_seasonAt_66 ?_
    refine lv_topi (fun z376 ez376 => ?_)
    obtain rfl : z376 = 15 := ez376.trans (by decide)
    refine lv_iconst (v := 1) hx hb dX11_seasonAt_67 (by decide) ?_
    refine lv_iand hx hb dX11_seasonAt_68 ?_
    refine lv_topi (fun z377 ez377 => ?_)
    obtain rfl : z377 = 1 := ez377.trans (by decide)
    refine lv_isub hx hb dX11_seasonAt_69 ?_
    refine lv_topi (fun z378 ez378 => ?_)
    obtain rfl : z378 = 0 := ez378.trans (by decide)
    refine lv_istore (lv' := [(7, .int 0), (5, .int 0), (4, .int 2), (2, .int v370), (6, .int 0), (3, .int 15), (0, .int p0), (1, .int p1)]) hx hb dX11_seasonAt_70 hl (by decide) rfl (fun ls hl => ?_)
    refine lv_iinc (v := 1) (lv' := [(5, .int 1), (7, .int 0), (4, .int 2), (2, .int v370), (6, .int 0), (3, .int 15), (0, .int p0), (1, .int p1)]) hx hb dX11_seasonAt_72 hl (k := 1) rfl (by decide) (by decide) rfl (fun ls hl => ?_)
    refine lv_goto (tgt := 47) hx hb dX11_seasonAt_75 (by decide) ?_
    refine lv_iload_n hx hb dX11_seasonAt_47 rfl (lv_at hl 5 rfl) ?_
    refine lv_iload hx hb dX11_seasonAt_48 (lv_at hl 0 rfl) ?_
    refine lv_ishr hx hb dX11_seasonAt_50 ?_
    refine lv_topi (fun z379 ez379 => ?_)
    obtain rfl : z379 = 7 := ez379.trans (by decide)
    refine lv_iconst (v := 1) hx hb dX11_seasonAt_51 (by decide) ?_
    refine lv_iand hx hb dX11_seasonAt_52 ?_
    refine lv_topi (fun z380 ez380 => ?_)
    obtain rfl : z380 = 1 := ez380.trans (by decide)
    refine lv_if_eq (tgt := 61) hx hb dX11_seasonAt_53 (by decide) (fun c381 => ?_) (fun c381 => ?_)
    · exact absurd c381 (by decide)
    refine lv_iload hx hb dX11_seasonAt_56 (lv_at hl 1 rfl) ?_
    refine lv_if_le (tgt := 78) hx hb dX11_seasonAt_58 (by decide) (fun c382 => ?_) (fun c382 => ?_)
    rotate_left
    · exact absurd c382 (by decide)
    refine lv_iload_n hx hb dX11_seasonAt_78 rfl (lv_at hl 5 rfl) ?_
    refine lv_iconst (v := 1) hx hb dX11_seasonAt_79 (by decide) ?_
    refine lv_iload hx hb dX11_seasonAt_80 (lv_at hl 0 rfl) ?_
    refine lv_ishl hx hb dX11_seasonAt_82 ?_
    refine lv_topi (fun z383 ez383 => ?_)
    obtain rfl : z383 = 2 := ez383.trans (by decide)
    refine lv_iconst (v := (-1)) hx hb dX11_seasonAt_83 (by decide) ?_
    refine lv_ixor hx hb dX11_seasonAt_84 ?_
    refine lv_topi (fun z384 ez384 => ?_)
    obtain rfl : z384 = (-3) := ez384.trans (by decide)
    refine lv_iand hx hb dX11_seasonAt_85 ?_
    refine lv_topi (fun z385 ez385 => ?_)
    obtain rfl : z385 = 13 := ez385.trans (by decide)
    refine lv_istore_n (lv' := [(3, .int 13), (5, .int 1), (7, .int 0), (4, .int 2), (2, .int v370), (6, .int 0), (0, .int p0), (1, .int p1)]) hx hb dX11_seasonAt_86 rfl hl (by decide) rfl (fun ls hl => ?_)
    refine lv_iinc (v := 1) (lv' := [(6, .int 1), (3, .int 13), (5, .int 1), (7, .int 0), (4, .int 2), (2, .int v370), (0, .int p0), (1, .int p1)]) hx hb dX11_seasonAt_87 hl (k := 5) rfl (by decide) (by decide) rfl (fun ls hl => ?_)
    refine lv_goto (tgt := 15) hx hb dX11_seasonAt_90 (by decide) ?_
    refine lv_iload hx hb dX11_seasonAt_15 (lv_at hl 0 rfl) ?_
    refine lv_iload_n hx hb dX11_seasonAt_17 rfl (lv_at hl 7 rfl) ?_
    refine lv_icmp_gt (tgt := 93) hx hb dX11_seasonAt_18 (by decide) (fun c386 => ?_) (fun c386 => ?_)
    · skip
      have c386 := i_lt (Eq.refl p1.toInt) (show (1 : Int32).toInt = 1 by decide) c386
      refine lv_iload hx hb dX11_seasonAt_93 (lv_at hl 2 rfl) ?_
      refine W.widen (k := 0) (n := 0) (Nat.le_of_ble_eq_true rfl) (Nat.le_of_ble_eq_true rfl) ?_
      have zi1 : (1 : Int32).toInt = 1 := by decide
      exact W.iret (v := 1) hx hb hr (fun t ht hW => ⟨⟨1, rfl, ((show (0 ≤ (1 : Int32).toInt ∧ (1 : Int32).toInt ≤ 3) by omega)), CB.nil⟩, hS.F ht⟩) hS.2.2 dX11_seasonAt_95
    · skip
      have c386 := i_nlt (Eq.refl p1.toInt) (show (1 : Int32).toInt = 1 by decide) c386
      refine lv_iload_n hx hb dX11_seasonAt_21 rfl (lv_at hl 5 rfl) ?_
      refine lv_iload hx hb dX11_seasonAt_22 (lv_at hl 4 rfl) ?_
      have zi2 : (2 : Int32).toInt = 2 := by decide
      refine lv_idiv hx hb dX11_seasonAt_24 (i_nz (show (2 : Int32).toInt = 2 by decide) (by omega)) ?_
      refine lv_topi (fun v387 ev387 => ?_)
      have hv387 := i_div (Eq.refl v370.toInt) (show (2 : Int32).toInt = 2 by decide) ev387 (by omega) (by omega)
      refine lv_istore (lv' := [(7, .int v387), (6, .int 1), (3, .int 13), (5, .int 1), (4, .int 2), (2, .int v370), (0, .int p0), (1, .int p1)]) hx hb dX11_seasonAt_25 hl (by decide) rfl (fun ls hl => ?_)
      rcases (show v387.toInt = 0 ∨ v387.toInt = 1 ∨ v387.toInt = 2 by omega) with c388 | c388 | c388
      · obtain rfl : v387 = 0 := i_is c388 (by decide)
        refine lv_iload_n hx hb dX11_seasonAt_27 rfl (lv_at hl 5 rfl) ?_
        refine lv_iload hx hb dX11_seasonAt_28 (lv_at hl 4 rfl) ?_
        refine lv_irem hx hb dX11_seasonAt_30 (i_nz (show (2 : Int32).toInt = 2 by decide) (by omega)) ?_
        refine lv_topi (fun v389 ev389 => ?_)
        have hv389 := i_rem (Eq.refl v370.toInt) (show (2 : Int32).toInt = 2 by decide) ev389 (by omega) (by omega)
        refine lv_istore_n (lv' := [(2, .int v389), (7, .int 0), (6, .int 1), (3, .int 13), (5, .int 1), (4, .int 2), (0, .int p0), (1, .int p1)]) hx hb dX11_seasonAt_31 rfl hl (by decide) rfl (fun ls hl => ?_)
        refine lv_iload hx hb dX11_seasonAt_32 (lv_at hl 2 rfl) ?_
        refine lv_if_ne (tgt := 41) hx hb dX11_seasonAt_34 (by decide) (fun c390 => ?_) (fun c390 => ?_)
        rotate_left
        · exact absurd c390 (by decide)
        refine lv_iconst (v := 1) hx hb dX11_seasonAt_41 (by decide) ?_
        refine lv_istore (lv' := [(4, .int 1), (2, .int v389), (7, .int 0), (6, .int 1), (3, .int 13), (5, .int 1), (0, .int p0), (1, .int p1)]) hx hb dX11_seasonAt_42 hl (by decide) rfl (fun ls hl => ?_)
        refine lv_iconst (v := 0) hx hb dX11_seasonAt_44 (by decide) ?_
        refine lv_istore (lv' := [(5, .int 0), (4, .int 1), (2, .int v389), (7, .int 0), (6, .int 1), (3, .int 13), (0, .int p0), (1, .int p1)]) hx hb dX11_seasonAt_45 hl (by decide) rfl (fun ls hl => ?_)
        refine lv_iload_n hx hb dX11_seasonAt_47 rfl (lv_at hl 5 rfl) ?_
        refine lv_iload hx hb dX11_seasonAt_48 (lv_at hl 0 rfl) ?_
        refine lv_ishr hx hb dX11_seasonAt_50 ?_
        refine lv_topi (fun z391 ez391 => ?_)
        obtain rfl : z391 = 13 := ez391.trans (by decide)
        refine lv_iconst (v := 1) hx hb dX11_seasonAt_51 (by decide) ?_
        refine lv_iand hx hb dX11_seasonAt_52 ?_
        refine lv_topi (fun z392 ez392 => ?_)
        obtain rfl : z392 = 1 := ez392.trans (by decide)
        refine lv_if_eq (tgt := 61) hx hb dX11_seasonAt_53 (by decide) (fun c393 => ?_) (fun c393 => ?_)
        · exact absurd c393 (by decide)
        refine lv_iload hx hb dX11_seasonAt_56 (lv_at hl 3 rfl) ?_
        refine lv_if_le (tgt := 78) hx hb dX11_seasonAt_58 (by decide) (fun c394 => ?_) (fun c394 => ?_)
        rotate_left
        · exact absurd c394 (by decide)
        refine lv_iload_n hx hb dX11_seasonAt_78 rfl (lv_at hl 5 rfl) ?_
        refine lv_iconst (v := 1) hx hb dX11_seasonAt_79 (by decide) ?_
        refine lv_iload hx hb dX11_seasonAt_80 (lv_at hl 0 rfl) ?_
        refine lv_ishl hx hb dX11_seasonAt_82 ?_
        refine lv_topi (fun z395 ez395 => ?_)
        obtain rfl : z395 = 1 := ez395.trans (by decide)
        refine lv_iconst (v := (-1)) hx hb dX11_seasonAt_83 (by decide) ?_
        refine lv_ixor hx hb dX11_seasonAt_84 ?_
        refine lv_topi (fun z396 ez396 => ?_)
        obtain rfl : z396 = (-2) := ez396.trans (by decide)
        refine lv_iand hx hb dX11_seasonAt_85 ?_
        refine lv_topi (fun z397 ez397 => ?_)
        obtain rfl : z397 = 12 := ez397.trans (by decide)
        refine lv_istore_n (lv' := [(3, .int 12), (5, .int 0), (4, .int 1), (2, .int v389), (7, .int 0), (6, .int 1), (0, .int p0), (1, .int p1)]) hx hb dX11_seasonAt_86 rfl hl (by decide) rfl (fun ls hl => ?_)
        refine lv_iinc (v := 2) (lv' := [(6, .int 2), (3, .int 12), (5, .int 0), (4, .int 1), (2, .int v389), (7, .int 0), (0, .int p0), (1, .int p1)]) hx hb dX11_seasonAt_87 hl (k := 5) rfl (by decide) (by decide) rfl (fun ls hl => ?_)
        refine lv_goto (tgt := 15) hx hb dX11_seasonAt_90 (by decide) ?_
        refine lv_iload hx hb dX11_seasonAt_15 (lv_at hl 0 rfl) ?_
        refine lv_iload_n hx hb dX11_seasonAt_17 rfl (lv_at hl 7 rfl) ?_
        refine lv_icmp_gt (tgt := 93) hx hb dX11_seasonAt_18 (by decide) (fun c398 => ?_) (fun c398 => ?_)
        · skip
          have c398 := i_lt (Eq.refl p1.toInt) (show (2 : Int32).toInt = 2 by decide) c398
          refine lv_iload hx hb dX11_seasonAt_93 (lv_at hl 2 rfl) ?_
          refine W.widen (k := 0) (n := 0) (Nat.le_of_ble_eq_true rfl) (Nat.le_of_ble_eq_true rfl) ?_
          have zi0 : (0 : Int32).toInt = 0 := by decide
          exact W.iret (v := 0) hx hb hr (fun t ht hW => ⟨⟨0, rfl, ((show (0 ≤ (0 : Int32).toInt ∧ (0 : Int32).toInt ≤ 3) by omega)), CB.nil⟩, hS.F ht⟩) hS.2.2 dX11_seasonAt_95
        · skip
          have c398 := i_nlt (Eq.refl p1.toInt) (show (2 : Int32).toInt = 2 by decide) c398
          refine lv_iload_n hx hb dX11_seasonAt_21 rfl (lv_at hl 4 rfl) ?_
          refine lv_iload hx hb dX11_seasonAt_22 (lv_at hl 3 rfl) ?_
          have zi1 : (1 : Int32).toInt = 1 := by decide
          refine lv_idiv hx hb dX11_seasonAt_24 (i_nz (show (1 : Int32).toInt = 1 by decide) (by omega)) ?_
          refine lv_topi (fun v399 ev399 => ?_)
          have hv399 := i_div (Eq.refl v389.toInt) (show (1 : Int32).toInt = 1 by decide) ev399 (by omega) (by omega)
          refine lv_istore (lv' := [(7, .int v399), (6, .int 2), (3, .int 12), (5, .int 0), (4, .int 1), (2, .int v389), (0, .int p0), (1, .int p1)]) hx hb dX11_seasonAt_25 hl (by decide) rfl (fun ls hl => ?_)
          rcases (show v399.toInt = 0 ∨ v399.toInt = 1 by omega) with c400 | c400
          · obtain rfl : v399 = 0 := i_is c400 (by decide)
            refine lv_iload_n hx hb dX11_seasonAt_27 rfl (lv_at hl 5 rfl) ?_
            refine lv_iload hx hb dX11_seasonAt_28 (lv_at hl 4 rfl) ?_
            refine lv_irem hx hb dX11_seasonAt_30 (i_nz (show (1 : Int32).toInt = 1 by decide) (by omega)) ?_
            refine lv_topi (fun v401 ev401 => ?_)
            have hv401 := i_rem (Eq.refl v389.toInt) (show (1 : Int32).toInt = 1 by decide) ev401 (by omega) (by omega)
            refine lv_istore_n (lv' := [(2, .int v401), (7, .int 0), (6, .int 2), (3, .int 12), (5, .int 0), (4, .int 1), (0, .int p0), (1, .int p1)]) hx hb dX11_seasonAt_31 rfl hl (by decide) rfl (fun ls hl => ?_)
            refine lv_iload hx hb dX11_seasonAt_32 (lv_at hl 2 rfl) ?_
            refine lv_if_ne (tgt := 41) hx hb dX11_seasonAt_34 (by decide) (fun c402 => ?_) (fun c402 => ?_)
            rotate_left
            · exact absurd c402 (by decide)
            refine lv_iconst (v := 1) hx hb dX11_seasonAt_41 (by decide) ?_
            refine lv_istore (lv' := [(4, .int 1), (2, .int v401), (7, .int 0), (6, .int 2), (3, .int 12), (5, .int 0), (0, .int p0), (1, .int p1)]) hx hb dX11_seasonAt_42 hl (by decide) rfl (fun ls hl => ?_)
            refine lv_iconst (v := 0) hx hb dX11_seasonAt_44 (by decide) ?_
            refine lv_istore (lv' := [(5, .int 0), (4, .int 1), (2, .int v401), (7, .int 0), (6, .int 2), (3, .int 12), (0, .int p0), (1, .int p1)]) hx hb dX11_seasonAt_45 hl (by decide) rfl (fun ls hl => ?_)
            refine lv_iload_n hx hb dX11_seasonAt_47 rfl (lv_at hl 5 rfl) ?_
            refine lv_iload hx hb dX11_seasonAt_48 (lv_at hl 0 rfl) ?_
            refine lv_ishr hx hb dX11_seasonAt_50 ?_
            refine lv_topi (fun z403 ez403 => ?_)
            obtain rfl : z403 = 12 := ez403.trans (by decide)
            refine lv_iconst (v := 1) hx hb dX11_seasonAt_51 (by decide) ?_
            refine lv_iand hx hb dX11_seasonAt_52 ?_
            refine lv_topi (fun z404 ez404 => ?_)
            obtain rfl : z404 = 0 := ez404.trans (by decide)
            refine lv_if_eq (tgt := 61) hx hb dX11_seasonAt_53 (by decide) (fun c405 => ?_) (fun c405 => ?_)
            rotate_left
            · exact absurd c405 (by decide)
            refine lv_iload hx hb dX11_seasonAt_61 (lv_at hl 3 rfl) ?_
            refine lv_iload_n hx hb dX11_seasonAt_63 rfl (lv_at hl 5 rfl) ?_
            refine lv_iload hx hb dX11_seasonAt_64 (lv_at hl 0 rfl) ?_
            refine lv_ishr hx hb dX11_seasonAt_66 ?_
            refine lv_topi (fun z406 ez406 => ?_)
            obtain rfl : z406 = 12 := ez406.trans (by decide)
            refine lv_iconst (v := 1) hx hb dX11_seasonAt_67 (by decide) ?_
            refine lv_iand hx hb dX11_seasonAt_68 ?_
            refine lv_topi (fun z407 ez407 => ?_)
            obtain rfl : z407 = 0 := ez407.trans (by decide)
            refine lv_isub hx hb dX11_seasonAt_69 ?_
            refine lv_topi (fun z408 ez408 => ?_)
            obtain rfl : z408 = 0 := ez408.trans (by decide)
            refine lv_istore (lv' := [(7, .int 0), (5, .int 0), (4, .int 1), (2, .int v401), (6, .int 2), (3, .int 12), (0, .int p0), (1, .int p1)]) hx hb dX11_seasonAt_70 hl (by decide) rfl (fun ls hl => ?_)
            refine lv_iinc (v := 1) (lv' := [(5, .int 1), (7, .int 0), (4, .int 1), (2, .int v401), (6, .int 2), (3, .int 12), (0, .int p0), (1, .int p1)]) hx hb dX11_seasonAt_72 hl (k := 1) rfl (by decide) (by decide) rfl (fun ls hl => ?_)
            refine lv_goto (tgt := 47) hx hb dX11_seasonAt_75 (by decide) ?_
            refine lv_iload_n hx hb dX11_seasonAt_47 rfl (lv_at hl 5 rfl) ?_
            refine lv_iload hx hb dX11_seasonAt_48 (lv_at hl 0 rfl) ?_
            refine lv_ishr hx hb dX11_seasonAt_50 ?_
            refine lv_topi (fun z409 ez409 => ?_)
            obtain rfl : z409 = 6 := ez409.trans (by decide)
            refine lv_iconst (v := 1) hx hb dX11_seasonAt_51 (by decide) ?_
            refine lv_iand hx hb dX11_seasonAt_52 ?_
            refine lv_topi (fun z410 ez410 => ?_)
            obtain rfl : z410 = 0 := ez410.trans (by decide)
            refine lv_if_eq (tgt := 61) hx hb dX11_seasonAt_53 (by decide) (fun c411 => ?_) (fun c411 => ?_)
            rotate_left
            · exact absurd c411 (by decide)
            refine lv_iload hx hb dX11_seasonAt_61 (lv_at hl 1 rfl) ?_
            refine lv_iload_n hx hb dX11_seasonAt_63 rfl (lv_at hl 5 rfl) ?_
            refine lv_iload hx hb dX11_seasonAt_64 (lv_at hl 0 rfl) ?_
            refine lv_ishr hx hb dX11_seasonAt_66 ?_
            refine lv_topi (fun z412 ez412 => ?_)
            obtain rfl : z412 = 6 := ez412.trans (by decide)
            refine lv_iconst (v := 1) hx hb dX11_seasonAt_67 (by decide) ?_
            refine lv_iand hx hb dX11_seasonAt_68 ?_
            refine lv_topi (fun z413 ez413 => ?_)
            obtain rfl : z413 = 0 := ez413.trans (by decide)
            refine lv_isub hx hb dX11_seasonAt_69 ?_
            refine lv_topi (fun z414 ez414 => ?_)
            obtain rfl : z414 = 0 := ez414.trans (by decide)
            refine lv_istore (lv' := [(7, .int 0), (5, .int 1), (4, .int 1), (2, .int v401), (6, .int 2), (3, .int 12), (0, .int p0), (1, .int p1)]) hx hb dX11_seasonAt_70 hl (by decide) rfl (fun ls hl => ?_)
            refine lv_iinc (v := 2) (lv' := [(5, .int 2), (7, .int 0), (4, .int 1), (2, .int v401), (6, .int 2), (3, .int 12), (0, .int p0), (1, .int p1)]) hx hb dX11_seasonAt_72 hl (k := 1) rfl (by decide) (by decide) rfl (fun ls hl => ?_)
            refine lv_goto (tgt := 47) hx hb dX11_seasonAt_75 (by decide) ?_
            refine lv_iload_n hx hb dX11_seasonAt_47 rfl (lv_at hl 5 rfl) ?_
            refine lv_iload hx hb dX11_seasonAt_48 (lv_at hl 0 rfl) ?_
            refine lv_ishr hx hb dX11_seasonAt_50 ?_
            refine lv_topi (fun z415 ez415 => ?_)
            obtain rfl : z415 = 3 := ez415.trans (by decide)
            refine lv_iconst (v := 1) hx hb dX11_seasonAt_51 (by decide) ?_
            refine lv_iand hx hb dX11_seasonAt_52 ?_
            refine lv_topi (fun z416 ez416 => ?_)
            obtain rfl : z416 = 1 := ez416.trans (by decide)
            refine lv_if_eq (tgt := 61) hx hb dX11_seasonAt_53 (by decide) (fun c417 => ?_) (fun c417 => ?_)
            · exact absurd c417 (by decide)
            refine lv_iload hx hb dX11_seasonAt_56 (lv_at hl 1 rfl) ?_
            refine lv_if_le (tgt := 78) hx hb dX11_seasonAt_58 (by decide) (fun c418 => ?_) (fun c418 => ?_)
            rotate_left
            · exact absurd c418 (by decide)
            refine lv_iload_n hx hb dX11_seasonAt_78 rfl (lv_at hl 5 rfl) ?_
            refine lv_iconst (v := 1) hx hb dX11_seasonAt_79 (by decide) ?_
            refine lv_iload hx hb dX11_seasonAt_80 (lv_at hl 0 rfl) ?_
            refine lv_ishl hx hb dX11_seasonAt_82 ?_
            refine lv_topi (fun z419 ez419 => ?_)
            obtain rfl : z419 = 4 := ez419.trans (by decide)
            refine lv_iconst (v := (-1)) hx hb dX11_seasonAt_83 (by decide) ?_
            refine lv_ixor hx hb dX11_seasonAt_84 ?_
            refine lv_topi (fun z420 ez420 => ?_)
            obtain rfl : z420 = (-5) := ez420.trans (by decide)
            refine lv_iand hx hb dX11_seasonAt_85 ?_
            refine lv_topi (fun z421 ez421 => ?_)
            obtain rfl : z421 = 8 := ez421.trans (by decide)
            refine lv_istore_n (lv' := [(3, .int 8), (5, .int 2), (7, .int 0), (4, .int 1), (2, .int v401), (6, .int 2), (0, .int p0), (1, .int p1)]) hx hb dX11_seasonAt_86 rfl hl (by decide) rfl (fun ls hl => ?_)
            refine lv_iinc (v := 3) (lv' := [(6, .int 3), (3, .int 8), (5, .int 2), (7, .int 0), (4, .int 1), (2, .int v401), (0, .int p0), (1, .int p1)]) hx hb dX11_seasonAt_87 hl (k := 5) rfl (by decide) (by decide) rfl (fun ls hl => ?_)
            refine lv_goto (tgt := 15) hx hb dX11_seasonAt_90 (by decide) ?_
            refine lv_iload hx hb dX11_seasonAt_15 (lv_at hl 0 rfl) ?_
            refine lv_iload_n hx hb dX11_seasonAt_17 rfl (lv_at hl 7 rfl) ?_
            refine lv_icmp_gt (tgt := 93) hx hb dX11_seasonAt_18 (by decide) (fun c422 => ?_) (fun c422 => ?_)
            · skip
              have c422 := i_lt (Eq.refl p1.toInt) (show (3 : Int32).toInt = 3 by decide) c422
              refine lv_iload hx hb dX11_seasonAt_93 (lv_at hl 2 rfl) ?_
              refine W.widen (k := 0) (n := 0) (Nat.le_of_ble_eq_true rfl) (Nat.le_of_ble_eq_true rfl) ?_
              exact W.iret (v := 2) hx hb hr (fun t ht hW => ⟨⟨2, rfl, ((show (0 ≤ (2 : Int32).toInt ∧ (2 : Int32).toInt ≤ 3) by omega)), CB.nil⟩, hS.F ht⟩) hS.2.2 dX11_seasonAt_95
            · skip
              have c422 := i_nlt (Eq.refl p1.toInt) (show (3 : Int32).toInt = 3 by decide) c422
              refine lv_iload_n hx hb dX11_seasonAt_21 rfl (lv_at hl 5 rfl) ?_
              refine lv_iload hx hb dX11_seasonAt_22 (lv_at hl 4 rfl) ?_
              refine lv_idiv hx hb dX11_seasonAt_24 (i_nz (show (1 : Int32).toInt = 1 by decide) (by omega)) ?_
              refine lv_topi (fun v423 ev423 => ?_)
              have hv423 := i_div (Eq.refl v401.toInt) (show (1 : Int32).toInt = 1 by decide) ev423 (by omega) (by omega)
              refine lv_istore (lv' := [(7, .int v423), (6, .int 3), (3, .int 8), (5, .int 2), (4, .int 1), (2, .int v401), (0, .int p0), (1, .int p1)]) hx hb dX11_seasonAt_25 hl (by decide) rfl (fun ls hl => ?_)
              rcases (show v423.toInt = 0 by omega) with c424
              · obtain rfl : v423 = 0 := i_is c424 (by decide)
                refine lv_iload_n hx hb dX11_seasonAt_27 rfl (lv_at hl 5 rfl) ?_
                refine lv_iload hx hb dX11_seasonAt_28 (lv_at hl 4 rfl) ?_
                refine lv_irem hx hb dX11_seasonAt_30 (i_nz (show (1 : Int32).toInt = 1 by decide) (by omega)) ?_
                refine lv_topi (fun v425 ev425 => ?_)
                have hv425 := i_rem (Eq.refl v401.toInt) (show (1 : Int32).toInt = 1 by decide) ev425 (by omega) (by omega)
                refine lv_istore_n (lv' := [(2, .int v425), (7, .int 0), (6, .int 3), (3, .int 8), (5, .int 2), (4, .int 1), (0, .int p0), (1, .int p1)]) hx hb dX11_seasonAt_31 rfl hl (by decide) rfl (fun ls hl => ?_)
                refine lv_iload hx hb dX11_seasonAt_32 (lv_at hl 2 rfl) ?_
                refine lv_if_ne (tgt := 41) hx hb dX11_seasonAt_34 (by decide) (fun c426 => ?_) (fun c426 => ?_)
                rotate_left
                · exact absurd c426 (by decide)
                refine lv_iconst (v := 1) hx hb dX11_seasonAt_41 (by decide) ?_
                refine lv_istore (lv' := [(4, .int 1), (2, .int v425), (7, .int 0), (6, .int 3), (3, .int 8), (5, .int 2), (0, .int p0), (1, .int p1)]) hx hb dX11_seasonAt_42 hl (by decide) rfl (fun ls hl => ?_)
                refine lv_iconst (v := 0) hx hb dX11_seasonAt_44 (by decide) ?_
                refine lv_istore (lv' := [(5, .int 0), (4, .int 1), (2, .int v425), (7, .int 0), (6, .int 3), (3, .int 8), (0, .int p0), (1, .int p1)]) hx hb dX11_seasonAt_45 hl (by decide) rfl (fun ls hl => ?_)
                refine lv_iload_n hx hb dX11_seasonAt_47 rfl (lv_at hl 5 rfl) ?_
                refine lv_iload hx hb dX11_seasonAt_48 (lv_at hl 0 rfl) ?_
                refine lv_ishr hx hb dX11_seasonAt_50 ?_
                refine lv_topi (fun z427 ez427 => ?_)
                obtain rfl : z427 = 8 := ez427.trans (by decide)
                refine lv_iconst (v := 1) hx hb dX11_seasonAt_51 (by decide) ?_
                refine lv_iand hx hb dX11_seasonAt_52 ?_
                refine lv_topi (fun z428 ez428 => ?_)
                obtain rfl : z428 = 0 := ez428.trans (by decide)
                refine lv_if_eq (tgt := 61) hx hb dX11_seasonAt_53 (by decide) (fun c429 => ?_) (fun c429 => ?_)
                rotate_left
                · exact absurd c429 (by decide)
                refine lv_iload hx hb dX11_seasonAt_61 (lv_at hl 3 rfl) ?_
                refine lv_iload_n hx hb dX11_seasonAt_63 rfl (lv_at hl 5 rfl) ?_
                refine lv_iload hx hb dX11_seasonAt_64 (lv_at hl 0 rfl) ?_
                refine lv_ishr hx hb dX11_seasonAt_66 ?_
                refine lv_topi (fun z430 ez430 => ?_)
                obtain rfl : z430 = 8 := ez430.trans (by decide)
                refine lv_iconst (v := 1) hx hb dX11_seasonAt_67 (by decide) ?_
                refine lv_iand hx hb dX11_seasonAt_68 ?_
                refine lv_topi (fun z431 ez431 => ?_)
                obtain rfl : z431 = 0 := ez431.trans (by decide)
                refine lv_isub hx hb dX11_seasonAt_69 ?_
                refine lv_topi (fun z432 ez432 => ?_)
                obtain rfl : z432 = 0 := ez432.trans (by decide)
                refine lv_istore (lv' := [(7, .int 0), (5, .int 0), (4, .int 1), (2, .int v425), (6, .int 3), (3, .int 8), (0, .int p0), (1, .int p1)]) hx hb dX11_seasonAt_70 hl (by decide) rfl (fun ls hl => ?_)
                refine lv_iinc (v := 1) (lv' := [(5, .int 1), (7, .int 0), (4, .int 1), (2, .int v425), (6, .int 3), (3, .int 8), (0, .int p0), (1, .int p1)]) hx hb dX11_seasonAt_72 hl (k := 1) rfl (by decide) (by decide) rfl (fun ls hl => ?_)
                refine lv_goto (tgt := 47) hx hb dX11_seasonAt_75 (by decide) ?_
                refine lv_iload_n hx hb dX11_seasonAt_47 rfl (lv_at hl 5 rfl) ?_
                refine lv_iload hx hb dX11_seasonAt_48 (lv_at hl 0 rfl) ?_
                refine lv_ishr hx hb dX11_seasonAt_50 ?_
                refine lv_topi (fun z433 ez433 => ?_)
                obtain rfl : z433 = 4 := ez433.trans (by decide)
                refine lv_iconst (v := 1) hx hb dX11_seasonAt_51 (by decide) ?_
                refine lv_iand hx hb dX11_seasonAt_52 ?_
                refine lv_topi (fun z434 ez434 => ?_)
                obtain rfl : z434 = 0 := ez434.trans (by decide)
                refine lv_if_eq (tgt := 61) hx hb dX11_seasonAt_53 (by decide) (fun c435 => ?_) (fun c435 => ?_)
                rotate_left
                · exact absurd c435 (by decide)
                refine lv_iload hx hb dX11_seasonAt_61 (lv_at hl 1 rfl) ?_
                refine lv_iload_n hx hb dX11_seasonAt_63 rfl (lv_at hl 5 rfl) ?_
                refine lv_iload hx hb dX11_seasonAt_64 (lv_at hl 0 rfl) ?_
                refine lv_ishr hx hb dX11_seasonAt_66 ?_
                refine lv_topi (fun z436 ez436 => ?_)
                obtain rfl : z436 = 4 := ez436.trans (by decide)
                refine lv_iconst (v := 1) hx hb dX11_seasonAt_67 (by decide) ?_
                refine lv_iand hx hb dX11_seasonAt_68 ?_
                refine lv_topi (fun z437 ez437 => ?_)
                obtain rfl : z437 = 0 := ez437.trans (by decide)
                refine lv_isub hx hb dX11_seasonAt_69 ?_
                refine lv_topi (fun z438 ez438 => ?_)
                obtain rfl : z438 = 0 := ez438.trans (by decide)
                refine lv_istore (lv' := [(7, .int 0), (5, .int 1), (4, .int 1), (2, .int v425), (6, .int 3), (3, .int 8), (0, .int p0), (1, .int p1)]) hx hb dX11_seasonAt_70 hl (by decide) rfl (fun ls hl => ?_)
                refine lv_iinc (v := 2) (lv' := [(5, .int 2), (7, .int 0), (4, .int 1), (2, .int v425), (6, .int 3), (3, .int 8), (0, .int p0), (1, .int p1)]) hx hb dX11_seasonAt_72 hl (k := 1) rfl (by decide) (by decide) rfl (fun ls hl => ?_)
                refine lv_goto (tgt := 47) hx hb dX11_seasonAt_75 (by decide) ?_
                refine lv_iload_n hx hb dX11_seasonAt_47 rfl (lv_at hl 5 rfl) ?_
                refine lv_iload hx hb dX11_seasonAt_48 (lv_at hl 0 rfl) ?_
                refine lv_ishr hx hb dX11_seasonAt_50 ?_
                refine lv_topi (fun z439 ez439 => ?_)
                obtain rfl : z439 = 2 := ez439.trans (by decide)
                refine lv_iconst (v := 1) hx hb dX11_seasonAt_51 (by decide) ?_
                refine lv_iand hx hb dX11_seasonAt_52 ?_
                refine lv_topi (fun z440 ez440 => ?_)
                obtain rfl : z440 = 0 := ez440.trans (by decide)
                refine lv_if_eq (tgt := 61) hx hb dX11_seasonAt_53 (by decide) (fun c441 => ?_) (fun c441 => ?_)
                rotate_left
                · exact absurd c441 (by decide)
                refine lv_iload hx hb dX11_seasonAt_61 (lv_at hl 1 rfl) ?_
                refine lv_iload_n hx hb dX11_seasonAt_63 rfl (lv_at hl 5 rfl) ?_
                refine lv_iload hx hb dX11_seasonAt_64 (lv_at hl 0 rfl) ?_
                refine lv_ishr hx hb dX11_seasonAt_66 ?_
                refine lv_topi (fun z442 ez442 => ?_)
                obtain rfl : z442 = 2 := ez442.trans (by decide)
                refine lv_iconst (v := 1) hx hb dX11_seasonAt_67 (by decide) ?_
                refine lv_iand hx hb dX11_seasonAt_68 ?_
                refine lv_topi (fun z443 ez443 => ?_)
                obtain rfl : z443 = 0 := ez443.trans (by decide)
                refine lv_isub hx hb dX11_seasonAt_69 ?_
                refine lv_topi (fun z444 ez444 => ?_)
                obtain rfl : z444 = 0 := ez444.trans (by decide)
                refine lv_istore (lv' := [(7, .int 0), (5, .int 2), (4, .int 1), (2, .int v425), (6, .int 3), (3, .int 8), (0, .int p0), (1, .int p1)]) hx hb dX11_seasonAt_70 hl (by decide) rfl (fun ls hl => ?_)
                refine lv_iinc (v := 3) (lv' := [(5, .int 3), (7, .int 0), (4, .int 1), (2, .int v425), (6, .int 3), (3, .int 8), (0, .int p0), (1, .int p1)]) hx hb dX11_seasonAt_72 hl (k := 1) rfl (by decide) (by decide) rfl (fun ls hl => ?_)
                refine lv_goto (tgt := 47) hx hb dX11_seasonAt_75 (by decide) ?_
                refine lv_iload_n hx hb dX11_seasonAt_47 rfl (lv_at hl 5 rfl) ?_
                refine lv_iload hx hb dX11_seasonAt_48 (lv_at hl 0 rfl) ?_
                refine lv_ishr hx hb dX11_seasonAt_50 ?_
                refine lv_topi (fun z445 ez445 => ?_)
                obtain rfl : z445 = 1 := ez445.trans (by decide)
                refine lv_iconst (v := 1) hx hb dX11_seasonAt_51 (by decide) ?_
                refine lv_iand hx hb dX11_seasonAt_52 ?_
                refine lv_topi (fun z446 ez446 => ?_)
                obtain rfl : z446 = 1 := ez446.trans (by decide)
                refine lv_if_eq (tgt := 61) hx hb dX11_seasonAt_53 (by decide) (fun c447 => ?_) (fun c447 => ?_)
                · exact absurd c447 (by decide)
                refine lv_iload hx hb dX11_seasonAt_56 (lv_at hl 1 rfl) ?_
                refine lv_if_le (tgt := 78) hx hb dX11_seasonAt_58 (by decide) (fun c448 => ?_) (fun c448 => ?_)
                rotate_left
                · exact absurd c448 (by decide)
                refine lv_iload_n hx hb dX11_seasonAt_78 rfl (lv_at hl 5 rfl) ?_
                refine lv_iconst (v := 1) hx hb dX11_seasonAt_79 (by decide) ?_
                refine lv_iload hx hb dX11_seasonAt_80 (lv_at hl 0 rfl) ?_
                refine lv_ishl hx hb dX11_seasonAt_82 ?_
                refine lv_topi (fun z449 ez449 => ?_)
                obtain rfl : z449 = 8 := ez449.trans (by decide)
                refine lv_iconst (v := (-1)) hx hb dX11_seasonAt_83 (by decide) ?_
                refine lv_ixor hx hb dX11_seasonAt_84 ?_
                refine lv_topi (fun z450 ez450 => ?_)
                obtain rfl : z450 = (-9) := ez450.trans (by decide)
                refine lv_iand hx hb dX11_seasonAt_85 ?_
                refine lv_topi (fun z451 ez451 => ?_)
                obtain rfl : z451 = 0 := ez451.trans (by decide)
                refine lv_istore_n (lv' := [(3, .int 0), (5, .int 3), (7, .int 0), (4, .int 1), (2, .int v425), (6, .int 3), (0, .int p0), (1, .int p1)]) hx hb dX11_seasonAt_86 rfl hl (by decide) rfl (fun ls hl => ?_)
                refine lv_iinc (v := 4) (lv' := [(6, .int 4), (3, .int 0), (5, .int 3), (7, .int 0), (4, .int 1), (2, .int v425), (0, .int p0), (1, .int p1)]) hx hb dX11_seasonAt_87 hl (k := 5) rfl (by decide) (by decide) rfl (fun ls hl => ?_)
                refine lv_goto (tgt := 15) hx hb dX11_seasonAt_90 (by decide) ?_
                refine lv_iload hx hb dX11_seasonAt_15 (lv_at hl 0 rfl) ?_
                refine lv_iload_n hx hb dX11_seasonAt_17 rfl (lv_at hl 7 rfl) ?_
                refine lv_icmp_gt (tgt := 93) hx hb dX11_seasonAt_18 (by decide) (fun c452 => ?_) (fun c452 => ?_)
                rotate_left
                · have c452 := i_nlt (Eq.refl p1.toInt) (show (4 : Int32).toInt = 4 by decide) c452; exfalso; omega
                have c452 := i_lt (Eq.refl p1.toInt) (show (4 : Int32).toInt = 4 by decide) c452
                refine lv_iload hx hb dX11_seasonAt_93 (lv_at hl 2 rfl) ?_
                refine W.widen (k := 0) (n := 0) (Nat.le_of_ble_eq_true rfl) (Nat.le_of_ble_eq_true rfl) ?_
                have zi3 : (3 : Int32).toInt = 3 := by decide
                exact W.iret (v := 3) hx hb hr (fun t ht hW => ⟨⟨3, rfl, ((show (0 ≤ (3 : Int32).toInt ∧ (3 : Int32).toInt ≤ 3) by omega)), CB.nil⟩, hS.F ht⟩) hS.2.2 dX11_seasonAt_95
          · obtain rfl : v399 = 1 := i_is c400 (by decide)
            refine lv_iload_n hx hb dX11_seasonAt_27 rfl (lv_at hl 5 rfl) ?_
            refine lv_iload hx hb dX11_seasonAt_28 (lv_at hl 4 rfl) ?_
            refine lv_irem hx hb dX11_seasonAt_30 (i_nz (show (1 : Int32).toInt = 1 by decide) (by omega)) ?_
            refine lv_topi (fun v453 ev453 => ?_)
            have hv453 := i_rem (Eq.refl v389.toInt) (show (1 : Int32).toInt = 1 by decide) ev453 (by omega) (by omega)
            refine lv_istore_n (lv' := [(2, .int v453), (7, .int 1), (6, .int 2), (3, .int 12), (5, .int 0), (4, .int 1), (0, .int p0), (1, .int p1)]) hx hb dX11_seasonAt_31 rfl hl (by decide) rfl (fun ls hl => ?_)
            refine lv_iload hx hb dX11_seasonAt_32 (lv_at hl 2 rfl) ?_
            refine lv_if_ne (tgt := 41) hx hb dX11_seasonAt_34 (by decide) (fun c454 => ?_) (fun c454 => ?_)
            rotate_left
            · exact absurd c454 (by decide)
            refine lv_iconst (v := 1) hx hb dX11_seasonAt_41 (by decide) ?_
            refine lv_istore (lv' := [(4, .int 1), (2, .int v453), (7, .int 1), (6, .int 2), (3, .int 12), (5, .int 0), (0, .int p0), (1, .int p1)]) hx hb dX11_seasonAt_42 hl (by decide) rfl (fun ls hl => ?_)
            refine lv_iconst (v := 0) hx hb dX11_seasonAt_44 (by decide) ?_
            refine lv_istore (lv' := [(5, .int 0), (4, .int 1), (2, .int v453), (7, .int 1), (6, .int 2), (3, .int 12), (0, .int p0), (1, .int p1)]) hx hb dX11_seasonAt_45 hl (by decide) rfl (fun ls hl => ?_)
            refine lv_iload_n hx hb dX11_seasonAt_47 rfl (lv_at hl 5 rfl) ?_
            refine lv_iload hx hb dX11_seasonAt_48 (lv_at hl 0 rfl) ?_
            refine lv_ishr hx hb dX11_seasonAt_50 ?_
            refine lv_topi (fun z455 ez455 => ?_)
            obtain rfl : z455 = 12 := ez455.trans (by decide)
            refine lv_iconst (v := 1) hx hb dX11_seasonAt_51 (by decide) ?_
            refine lv_iand hx hb dX11_seasonAt_52 ?_
            refine lv_topi (fun z456 ez456 => ?_)
            obtain rfl : z456 = 0 := ez456.trans (by decide)
            refine lv_if_eq (tgt := 61) hx hb dX11_seasonAt_53 (by decide) (fun c457 => ?_) (fun c457 => ?_)
            rotate_left
            · exact absurd c457 (by decide)
            refine lv_iload hx hb dX11_seasonAt_61 (lv_at hl 3 rfl) ?_
            refine lv_iload_n hx hb dX11_seasonAt_63 rfl (lv_at hl 5 rfl) ?_
            refine lv_iload hx hb dX11_seasonAt_64 (lv_at hl 0 rfl) ?_
            refine lv_ishr hx hb dX11_seasonAt_66 ?_
            refine lv_topi (fun z458 ez458 => ?_)
            obtain rfl : z458 = 12 := ez458.trans (by decide)
            refine lv_iconst (v := 1) hx hb dX11_seasonAt_67 (by decide) ?_
            refine lv_iand hx hb dX11_seasonAt_68 ?_
            refine lv_topi (fun z459 ez459 => ?_)
            obtain rfl : z459 = 0 := ez459.trans (by decide)
            refine lv_isub hx hb dX11_seasonAt_69 ?_
            refine lv_topi (fun z460 ez460 => ?_)
            obtain rfl : z460 = 1 := ez460.trans (by decide)
            refine lv_istore (lv' := [(7, .int 1), (5, .int 0), (4, .int 1), (2, .int v453), (6, .int 2), (3, .int 12), (0, .int p0), (1, .int p1)]) hx hb dX11_seasonAt_70 hl (by decide) rfl (fun ls hl => ?_)
            refine lv_iinc (v := 1) (lv' := [(5, .int 1), (7, .int 1), (4, .int 1), (2, .int v453), (6, .int 2), (3, .int 12), (0, .int p0), (1, .int p1)]) hx hb dX11_seasonAt_72 hl (k := 1) rfl (by decide) (by decide) rfl (fun ls hl => ?_)
            refine lv_goto (tgt := 47) hx hb dX11_seasonAt_75 (by decide) ?_
            refine lv_iload_n hx hb dX11_seasonAt_47 rfl (lv_at hl 5 rfl) ?_
            refine lv_iload hx hb dX11_seasonAt_48 (lv_at hl 0 rfl) ?_
            refine lv_ishr hx hb dX11_seasonAt_50 ?_
            refine lv_topi (fun z461 ez461 => ?_)
            obtain rfl : z461 = 6 := ez461.trans (by decide)
            refine lv_iconst (v := 1) hx hb dX11_seasonAt_51 (by decide) ?_
            refine lv_iand hx hb dX11_seasonAt_52 ?_
            refine lv_topi (fun z462 ez462 => ?_)
            obtain rfl : z462 = 0 := ez462.trans (by decide)
            refine lv_if_eq (tgt := 61) hx hb dX11_seasonAt_53 (by decide) (fun c463 => ?_) (fun c463 => ?_)
            rotate_left
            · exact absurd c463 (by decide)
            refine lv_iload hx hb dX11_seasonAt_61 (lv_at hl 1 rfl) ?_
            refine lv_iload_n hx hb dX11_seasonAt_63 rfl (lv_at hl 5 rfl) ?_
            refine lv_iload hx hb dX11_seasonAt_64 (lv_at hl 0 rfl) ?_
            refine lv_ishr hx hb dX11_seasonAt_66 ?_
            refine lv_topi (fun z464 ez464 => ?_)
            obtain rfl : z464 = 6 := ez464.trans (by decide)
            refine lv_iconst (v := 1) hx hb dX11_seasonAt_67 (by decide) ?_
            refine lv_iand hx hb dX11_seasonAt_68 ?_
            refine lv_topi (fun z465 ez465 => ?_)
            obtain rfl : z465 = 0 := ez465.trans (by decide)
            refine lv_isub hx hb dX11_seasonAt_69 ?_
            refine lv_topi (fun z466 ez466 => ?_)
            obtain rfl : z466 = 1 := ez466.trans (by decide)
            refine lv_istore (lv' := [(7, .int 1), (5, .int 1), (4, .int 1), (2, .int v453), (6, .int 2), (3, .int 12), (0, .int p0), (1, .int p1)]) hx hb dX11_seasonAt_70 hl (by decide) rfl (fun ls hl => ?_)
            refine lv_iinc (v := 2) (lv' := [(5, .int 2), (7, .int 1), (4, .int 1), (2, .int v453), (6, .int 2), (3, .int 12), (0, .int p0), (1, .int p1)]) hx hb dX11_seasonAt_72 hl (k := 1) rfl (by decide) (by decide) rfl (fun ls hl => ?_)
            refine lv_goto (tgt := 47) hx hb dX11_seasonAt_75 (by decide) ?_
            refine lv_iload_n hx hb dX11_seasonAt_47 rfl (lv_at hl 5 rfl) ?_
            refine lv_iload hx hb dX11_seasonAt_48 (lv_at hl 0 rfl) ?_
            refine lv_ishr hx hb dX11_seasonAt_50 ?_
            refine lv_topi (fun z467 ez467 => ?_)
            obtain rfl : z467 = 3 := ez467.trans (by decide)
            refine lv_iconst (v := 1) hx hb dX11_seasonAt_51 (by decide) ?_
            refine lv_iand hx hb dX11_seasonAt_52 ?_
            refine lv_topi (fun z468 ez468 => ?_)
            obtain rfl : z468 = 1 := ez468.trans (by decide)
            refine lv_if_eq (tgt := 61) hx hb dX11_seasonAt_53 (by decide) (fun c469 => ?_) (fun c469 => ?_)
            · exact absurd c469 (by decide)
            refine lv_iload hx hb dX11_seasonAt_56 (lv_at hl 1 rfl) ?_
            refine lv_if_le (tgt := 78) hx hb dX11_seasonAt_58 (by decide) (fun c470 => ?_) (fun c470 => ?_)
            · exact absurd c470 (by decide)
            refine lv_iload hx hb dX11_seasonAt_61 (lv_at hl 1 rfl) ?_
            refine lv_iload_n hx hb dX11_seasonAt_63 rfl (lv_at hl 5 rfl) ?_
            refine lv_iload hx hb dX11_seasonAt_64 (lv_at hl 0 rfl) ?_
            refine lv_ishr hx hb dX11_seasonAt_66 ?_
            refine lv_topi (fun z471 ez471 => ?_)
            obtain rfl : z471 = 3 := ez471.trans (by decide)
            refine lv_iconst (v := 1) hx hb dX11_seasonAt_67 (by decide) ?_
            refine lv_iand hx hb dX11_seasonAt_68 ?_
            refine lv_topi (fun z472 ez472 => ?_)
            obtain rfl : z472 = 1 := ez472.trans (by decide)
            refine lv_isub hx hb dX11_seasonAt_69 ?_
            refine lv_topi (fun z473 ez473 => ?_)
            obtain rfl : z473 = 0 := ez473.trans (by decide)
            refine lv_istore (lv' := [(7, .int 0), (5, .int 2), (4, .int 1), (2, .int v453), (6, .int 2), (3, .int 12), (0, .int p0), (1, .int p1)]) hx hb dX11_seasonAt_70 hl (by decide) rfl (fun ls hl => ?_)
            refine lv_iinc (v := 3) (lv' := [(5, .int 3), (7, .int 0), (4, .int 1), (2, .int v453), (6, .int 2), (3, .int 12), (0, .int p0), (1, .int p1)]) hx hb dX11_seasonAt_72 hl (k := 1) rfl (by decide) (by decide) rfl (fun ls hl => ?_)
            refine lv_goto (tgt := 47) hx hb dX11_seasonAt_75 (by decide) ?_
            refine lv_iload_n hx hb dX11_seasonAt_47 rfl (lv_at hl 5 rfl) ?_
            refine lv_iload hx hb dX11_seasonAt_48 (lv_at hl 0 rfl) ?_
            refine lv_ishr hx hb dX11_seasonAt_50 ?_
            refine lv_topi (fun z474 ez474 => ?_)
            obtain rfl : z474 = 1 := ez474.trans (by decide)
            refine lv_iconst (v := 1) hx hb dX11_seasonAt_51 (by decide) ?_
            refine lv_iand hx hb dX11_seasonAt_52 ?_
            refine lv_topi (fun z475 ez475 => ?_)
            obtain rfl : z475 = 1 := ez475.trans (by decide)
            refine lv_if_eq (tgt := 61) hx hb dX11_seasonAt_53 (by decide) (fun c476 => ?_) (fun c476 => ?_)
            · exact absurd c476 (by decide)
            refine lv_iload hx hb dX11_seasonAt_56 (lv_at hl 1 rfl) ?_
            refine lv_if_le (tgt := 78) hx hb dX11_seasonAt_58 (by decide) (fun c477 => ?_) (fun c477 => ?_)
            rotate_left
            · exact absurd c477 (by decide)
            refine lv_iload_n hx hb dX11_seasonAt_78 rfl (lv_at hl 5 rfl) ?_
            refine lv_iconst (v := 1) hx hb dX11_seasonAt_79 (by decide) ?_
            refine lv_iload hx hb dX11_seasonAt_80 (lv_at hl 0 rfl) ?_
            refine lv_ishl hx hb dX11_seasonAt_82 ?_
            refine lv_topi (fun z478 ez478 => ?_)
            obtain rfl : z478 = 8 := ez478.trans (by decide)
            refine lv_iconst (v := (-1)) hx hb dX11_seasonAt_83 (by decide) ?_
            refine lv_ixor hx hb dX11_seasonAt_84 ?_
            refine lv_topi (fun z479 ez479 => ?_)
            obtain rfl : z479 = (-9) := ez479.trans (by decide)
            refine lv_iand hx hb dX11_seasonAt_85 ?_
            refine lv_topi (fun z480 ez480 => ?_)
            obtain rfl : z480 = 4 := ez480.trans (by decide)
            refine lv_istore_n (lv' := [(3, .int 4), (5, .int 3), (7, .int 0), (4, .int 1), (2, .int v453), (6, .int 2), (0, .int p0), (1, .int p1)]) hx hb dX11_seasonAt_86 rfl hl (by decide) rfl (fun ls hl => ?_)
            refine lv_iinc (v := 3) (lv' := [(6, .int 3), (3, .int 4), (5, .int 3), (7, .int 0), (4, .int 1), (2, .int v453), (0, .int p0), (1, .int p1)]) hx hb dX11_seasonAt_87 hl (k := 5) rfl (by decide) (by decide) rfl (fun ls hl => ?_)
            refine lv_goto (tgt := 15) hx hb dX11_seasonAt_90 (by decide) ?_
            refine lv_iload hx hb dX11_seasonAt_15 (lv_at hl 0 rfl) ?_
            refine lv_iload_n hx hb dX11_seasonAt_17 rfl (lv_at hl 7 rfl) ?_
            refine lv_icmp_gt (tgt := 93) hx hb dX11_seasonAt_18 (by decide) (fun c481 => ?_) (fun c481 => ?_)
            · skip
              have c481 := i_lt (Eq.refl p1.toInt) (show (3 : Int32).toInt = 3 by decide) c481
              refine lv_iload hx hb dX11_seasonAt_93 (lv_at hl 2 rfl) ?_
              refine W.widen (k := 0) (n := 0) (Nat.le_of_ble_eq_true rfl) (Nat.le_of_ble_eq_true rfl) ?_
              have zi3 : (3 : Int32).toInt = 3 := by decide
              exact W.iret (v := 3) hx hb hr (fun t ht hW => ⟨⟨3, rfl, ((show (0 ≤ (3 : Int32).toInt ∧ (3 : Int32).toInt ≤ 3) by omega)), CB.nil⟩, hS.F ht⟩) hS.2.2 dX11_seasonAt_95
            · skip
              have c481 := i_nlt (Eq.refl p1.toInt) (show (3 : Int32).toInt = 3 by decide) c481
              refine lv_iload_n hx hb dX11_seasonAt_21 rfl (lv_at hl 5 rfl) ?_
              refine lv_iload hx hb dX11_seasonAt_22 (lv_at hl 4 rfl) ?_
              refine lv_idiv hx hb dX11_seasonAt_24 (i_nz (show (1 : Int32).toInt = 1 by decide) (by omega)) ?_
              refine lv_topi (fun v482 ev482 => ?_)
              have hv482 := i_div (Eq.refl v453.toInt) (show (1 : Int32).toInt = 1 by decide) ev482 (by omega) (by omega)
              refine lv_istore (lv' := [(7, .int v482), (6, .int 3), (3, .int 4), (5, .int 3), (4, .int 1), (2, .int v453), (0, .int p0), (1, .int p1)]) hx hb dX11_seasonAt_25 hl (by decide) rfl (fun ls hl => ?_)
              rcases (show v482.toInt = 0 by omega) with c483
              · obtain rfl : v482 = 0 := i_is c483 (by decide)
                refine lv_iload_n hx hb dX11_seasonAt_27 rfl (lv_at hl 5 rfl) ?_
                refine lv_iload hx hb dX11_seasonAt_28 (lv_at hl 4 rfl) ?_
                refine lv_irem hx hb dX11_seasonAt_30 (i_nz (show (1 : Int32).toInt = 1 by decide) (by omega)) ?_
                refine lv_topi (fun v484 ev484 => ?_)
                have hv484 := i_rem (Eq.refl v453.toInt) (show (1 : Int32).toInt = 1 by decide) ev484 (by omega) (by omega)
                refine lv_istore_n (lv' := [(2, .int v484), (7, .int 0), (6, .int 3), (3, .int 4), (5, .int 3), (4, .int 1), (0, .int p0), (1, .int p1)]) hx hb dX11_seasonAt_31 rfl hl (by decide) rfl (fun ls hl => ?_)
                refine lv_iload hx hb dX11_seasonAt_32 (lv_at hl 2 rfl) ?_
                refine lv_if_ne (tgt := 41) hx hb dX11_seasonAt_34 (by decide) (fun c485 => ?_) (fun c485 => ?_)
                rotate_left
                · exact absurd c485 (by decide)
                refine lv_iconst (v := 1) hx hb dX11_seasonAt_41 (by decide) ?_
                refine lv_istore (lv' := [(4, .int 1), (2, .int v484), (7, .int 0), (6, .int 3), (3, .int 4), (5, .int 3), (0, .int p0), (1, .int p1)]) hx hb dX11_seasonAt_42 hl (by decide) rfl (fun ls hl => ?_)
                refine lv_iconst (v := 0) hx hb dX11_seasonAt_44 (by decide) ?_
                refine lv_istore (lv' := [(5, .int 0), (4, .int 1), (2, .int v484), (7, .int 0), (6, .int 3), (3, .int 4), (0, .int p0), (1, .int p1)]) hx hb dX11_seasonAt_45 hl (by decide) rfl (fun ls hl => ?_)
                refine lv_iload_n hx hb dX11_seasonAt_47 rfl (lv_at hl 5 rfl) ?_
                refine lv_iload hx hb dX11_seasonAt_48 (lv_at hl 0 rfl) ?_
                refine lv_ishr hx hb dX11_seasonAt_50 ?_
                refine lv_topi (fun z486 ez486 => ?_)
                obtain rfl : z486 = 4 := ez486.trans (by decide)
                refine lv_iconst (v := 1) hx hb dX11_seasonAt_51 (by decide) ?_
                refine lv_iand hx hb dX11_seasonAt_52 ?_
                refine lv_topi (fun z487 ez487 => ?_)
                obtain rfl : z487 = 0 := ez487.trans (by decide)
                refine lv_if_eq (tgt := 61) hx hb dX11_seasonAt_53 (by decide) (fun c488 => ?_) (fun c488 => ?_)
                rotate_left
                · exact absurd c488 (by decide)
                refine lv_iload hx hb dX11_seasonAt_61 (lv_at hl 3 rfl) ?_
                refine lv_iload_n hx hb dX11_seasonAt_63 rfl (lv_at hl 5 rfl) ?_
                refine lv_iload hx hb dX11_seasonAt_64 (lv_at hl 0 rfl) ?_
                refine lv_ishr hx hb dX11_seasonAt_66 ?_
                refine lv_topi (fun z489 ez489 => ?_)
                obtain rfl : z489 = 4 := ez489.trans (by decide)
                refine lv_iconst (v := 1) hx hb dX11_seasonAt_67 (by decide) ?_
                refine lv_iand hx hb dX11_seasonAt_68 ?_
                refine lv_topi (fun z490 ez490 => ?_)
                obtain rfl : z490 = 0 := ez490.trans (by decide)
                refine lv_isub hx hb dX11_seasonAt_69 ?_
                refine lv_topi (fun z491 ez491 => ?_)
                obtain rfl : z491 = 0 := ez491.trans (by decide)
                refine lv_istore (lv' := [(7, .int 0), (5, .int 0), (4, .int 1), (2, .int v484), (6, .int 3), (3, .int 4), (0, .int p0), (1, .int p1)]) hx hb dX11_seasonAt_70 hl (by decide) rfl (fun ls hl => ?_)
                refine lv_iinc (v := 1) (lv' := [(5, .int 1), (7, .int 0), (4, .int 1), (2, .int v484), (6, .int 3), (3, .int 4), (0, .int p0), (1, .int p1)]) hx hb dX11_seasonAt_72 hl (k := 1) rfl (by decide) (by decide) rfl (fun ls hl => ?_)
                refine lv_goto (tgt := 47) hx hb dX11_seasonAt_75 (by decide) ?_
                refine lv_iload_n hx hb dX11_seasonAt_47 rfl (lv_at hl 5 rfl) ?_
                refine lv_iload hx hb dX11_seasonAt_48 (lv_at hl 0 rfl) ?_
                refine lv_ishr hx hb dX11_seasonAt_50 ?_
                refine lv_topi (fun z492 ez492 => ?_)
                obtain rfl : z492 = 2 := ez492.trans (by decide)
                refine lv_iconst (v := 1) hx hb dX11_seasonAt_51 (by decide) ?_
                refine lv_iand hx hb dX11_seasonAt_52 ?_
                refine lv_topi (fun z493 ez493 => ?_)
                obtain rfl : z493 = 0 := ez493.trans (by decide)
                refine lv_if_eq (tgt := 61) hx hb dX11_seasonAt_53 (by decide) (fun c494 => ?_) (fun c494 => ?_)
                rotate_left
                · exact absurd c494 (by decide)
                refine lv_iload hx hb dX11_seasonAt_61 (lv_at hl 1 rfl) ?_
                refine lv_iload_n hx hb dX11_seasonAt_63 rfl (lv_at hl 5 rfl) ?_
                refine lv_iload hx hb dX11_seasonAt_64 (lv_at hl 0 rfl) ?_
                refine lv_ishr hx hb dX11_seasonAt_66 ?_
                refine lv_topi (fun z495 ez495 => ?_)
                obtain rfl : z495 = 2 := ez495.trans (by decide)
                refine lv_iconst (v := 1) hx hb dX11_seasonAt_67 (by decide) ?_
                refine lv_iand hx hb dX11_seasonAt_68 ?_
                refine lv_topi (fun z496 ez496 => ?_)
                obtain rfl : z496 = 0 := ez496.trans (by decide)
                refine lv_isub hx hb dX11_seasonAt_69 ?_
                refine lv_topi (fun z497 ez497 => ?_)
                obtain rfl : z497 = 0 := ez497.trans (by decide)
                refine lv_istore (lv' := [(7, .int 0), (5, .int 1), (4, .int 1), (2, .int v484), (6, .int 3), (3, .int 4), (0, .int p0), (1, .int p1)]) hx hb dX11_seasonAt_70 hl (by decide) rfl (fun ls hl => ?_)
                refine lv_iinc (v := 2) (lv' := [(5, .int 2), (7, .int 0), (4, .int 1), (2, .int v484), (6, .int 3), (3, .int 4), (0, .int p0), (1, .int p1)]) hx hb dX11_seasonAt_72 hl (k := 1) rfl (by decide) (by decide) rfl (fun ls hl => ?_)
                refine lv_goto (tgt := 47) hx hb dX11_seasonAt_75 (by decide) ?_
                refine lv_iload_n hx hb dX11_seasonAt_47 rfl (lv_at hl 5 rfl) ?_
                refine lv_iload hx hb dX11_seasonAt_48 (lv_at hl 0 rfl) ?_
                refine lv_ishr hx hb dX11_seasonAt_50 ?_
                refine lv_topi (fun z498 ez498 => ?_)
                obtain rfl : z498 = 1 := ez498.trans (by decide)
                refine lv_iconst (v := 1) hx hb dX11_seasonAt_51 (by decide) ?_
                refine lv_iand hx hb dX11_seasonAt_52 ?_
                refine lv_topi (fun z499 ez499 => ?_)
                obtain rfl : z499 = 1 := ez499.trans (by decide)
                refine lv_if_eq (tgt := 61) hx hb dX11_seasonAt_53 (by decide) (fun c500 => ?_) (fun c500 => ?_)
                · exact absurd c500 (by decide)
                refine lv_iload hx hb dX11_seasonAt_56 (lv_at hl 1 rfl) ?_
                refine lv_if_le (tgt := 78) hx hb dX11_seasonAt_58 (by decide) (fun c501 => ?_) (fun c501 => ?_)
                rotate_left
                · exact absurd c501 (by decide)
                refine lv_iload_n hx hb dX11_seasonAt_78 rfl (lv_at hl 5 rfl) ?_
                refine lv_iconst (v := 1) hx hb dX11_seasonAt_79 (by decide) ?_
                refine lv_iload hx hb dX11_seasonAt_80 (lv_at hl 0 rfl) ?_
                refine lv_ishl hx hb dX11_seasonAt_82 ?_
                refine lv_topi (fun z502 ez502 => ?_)
                obtain rfl : z502 = 4 := ez502.trans (by decide)
                refine lv_iconst (v := (-1)) hx hb dX11_seasonAt_83 (by decide) ?_
                refine lv_ixor hx hb dX11_seasonAt_84 ?_
                refine lv_topi (fun z503 ez503 => ?_)
                obtain rfl : z503 = (-5) := ez503.trans (by decide)
                refine lv_iand hx hb dX11_seasonAt_85 ?_
                refine lv_topi (fun z504 ez504 => ?_)
                obtain rfl : z504 = 0 := ez504.trans (by decide)
                refine lv_istore_n (lv' := [(3, .int 0), (5, .int 2), (7, .int 0), (4, .int 1), (2, .int v484), (6, .int 3), (0, .int p0), (1, .int p1)]) hx hb dX11_seasonAt_86 rfl hl (by decide) rfl (fun ls hl => ?_)
                refine lv_iinc (v := 4) (lv' := [(6, .int 4), (3, .int 0), (5, .int 2), (7, .int 0), (4, .int 1), (2, .int v484), (0, .int p0), (1, .int p1)]) hx hb dX11_seasonAt_87 hl (k := 5) rfl (by decide) (by decide) rfl (fun ls hl => ?_)
                refine lv_goto (tgt := 15) hx hb dX11_seasonAt_90 (by decide) ?_
                refine lv_iload hx hb dX11_seasonAt_15 (lv_at hl 0 rfl) ?_
                refine lv_iload_n hx hb dX11_seasonAt_17 rfl (lv_at hl 7 rfl) ?_
                refine lv_icmp_gt (tgt := 93) hx hb dX11_seasonAt_18 (by decide) (fun c505 => ?_) (fun c505 => ?_)
                rotate_left
                · have c505 := i_nlt (Eq.refl p1.toInt) (show (4 : Int32).toInt = 4 by decide) c505; exfalso; omega
                have c505 := i_lt (Eq.refl p1.toInt) (show (4 : Int32).toInt = 4 by decide) c505
                refine lv_iload hx hb dX11_seasonAt_93 (lv_at hl 2 rfl) ?_
                refine W.widen (k := 0) (n := 0) (Nat.le_of_ble_eq_true rfl) (Nat.le_of_ble_eq_true rfl) ?_
                exact W.iret (v := 2) hx hb hr (fun t ht hW => ⟨⟨2, rfl, ((show (0 ≤ (2 : Int32).toInt ∧ (2 : Int32).toInt ≤ 3) by omega)), CB.nil⟩, hS.F ht⟩) hS.2.2 dX11_seasonAt_95
      · obtain rfl : v387 = 1 := i_is c388 (by decide)
        refine lv_iload_n hx hb dX11_seasonAt_27 rfl (lv_at hl 5 rfl) ?_
        refine lv_iload hx hb dX11_seasonAt_28 (lv_at hl 4 rfl) ?_
        refine lv_irem hx hb dX11_seasonAt_30 (i_nz (show (2 : Int32).toInt = 2 by decide) (by omega)) ?_
        refine lv_topi (fun v506 ev506 => ?_)
        have hv506 := i_rem (Eq.refl v370.toInt) (show (2 : Int32).toInt = 2 by decide) ev506 (by omega) (by omega)
        refine lv_istore_n (lv' := [(2, .int v506), (7, .int 1), (6, .int 1), (3, .int 13), (5, .int 1), (4, .int 2), (0, .int p0), (1, .int p1)]) hx hb dX11_seasonAt_31 rfl hl (by decide) rfl (fun ls hl => ?_)
        refine lv_iload hx hb dX11_seasonAt_32 (lv_at hl 2 rfl) ?_
        refine lv_if_ne (tgt := 41) hx hb dX11_seasonAt_34 (by decide) (fun c507 => ?_) (fun c507 => ?_)
        rotate_left
        · exact absurd c507 (by decide)
        refine lv_iconst (v := 1) hx hb dX11_seasonAt_41 (by decide) ?_
        refine lv_istore (lv' := [(4, .int 1), (2, .int v506), (7, .int 1), (6, .int 1), (3, .int 13), (5, .int 1), (0, .int p0), (1, .int p1)]) hx hb dX11_seasonAt_42 hl (by decide) rfl (fun ls hl => ?_)
        refine lv_iconst (v := 0) hx hb dX11_seasonAt_44 (by decide) ?_
        refine lv_istore (lv' := [(5, .int 0), (4, .int 1), (2, .int v506), (7, .int 1), (6, .int 1), (3, .int 13), (0, .int p0), (1, .int p1)]) hx hb dX11_seasonAt_45 hl (by decide) rfl (fun ls hl => ?_)
        refine lv_iload_n hx hb dX11_seasonAt_47 rfl (lv_at hl 5 rfl) ?_
        refine lv_iload hx hb dX11_seasonAt_48 (lv_at hl 0 rfl) ?_
        refine lv_ishr hx hb dX11_seasonAt_50 ?_
        refine lv_topi (fun z508 ez508 => ?_)
        obtain rfl : z508 = 13 := ez508.trans (by decide)
        refine lv_iconst (v := 1) hx hb dX11_seasonAt_51 (by decide) ?_
        refine lv_iand hx hb dX11_seasonAt_52 ?_
        refine lv_topi (fun z509 ez509 => ?_)
        obtain rfl : z509 = 1 := ez509.trans (by decide)
        refine lv_if_eq (tgt := 61) hx hb dX11_seasonAt_53 (by decide) (fun c510 => ?_) (fun c510 => ?_)
        · exact absurd c510 (by decide)
        refine lv_iload hx hb dX11_seasonAt_56 (lv_at hl 3 rfl) ?_
        refine lv_if_le (tgt := 78) hx hb dX11_seasonAt_58 (by decide) (fun c511 => ?_) (fun c511 => ?_)
        · exact absurd c511 (by decide)
        refine lv_iload hx hb dX11_seasonAt_61 (lv_at hl 3 rfl) ?_
        refine lv_iload_n hx hb dX11_seasonAt_63 rfl (lv_at hl 5 rfl) ?_
        refine lv_iload hx hb dX11_seasonAt_64 (lv_at hl 0 rfl) ?_
        refine lv_ishr hx hb dX11_seasonAt_66 ?_
        refine lv_topi (fun z512 ez512 => ?_)
        obtain rfl : z512 = 13 := ez512.trans (by decide)
        refine lv_iconst (v := 1) hx hb dX11_seasonAt_67 (by decide) ?_
        refine lv_iand hx hb dX11_seasonAt_68 ?_
        refine lv_topi (fun z513 ez513 => ?_)
        obtain rfl : z513 = 1 := ez513.trans (by decide)
        refine lv_isub hx hb dX11_seasonAt_69 ?_
        refine lv_topi (fun z514 ez514 => ?_)
        obtain rfl : z514 = 0 := ez514.trans (by decide)
        refine lv_istore (lv' := [(7, .int 0), (5, .int 0), (4, .int 1), (2, .int v506), (6, .int 1), (3, .int 13), (0, .int p0), (1, .int p1)]) hx hb dX11_seasonAt_70 hl (by decide) rfl (fun ls hl => ?_)
        refine lv_iinc (v := 1) (lv' := [(5, .int 1), (7, .int 0), (4, .int 1), (2, .int v506), (6, .int 1), (3, .int 13), (0, .int p0), (1, .int p1)]) hx hb dX11_seasonAt_72 hl (k := 1) rfl (by decide) (by decide) rfl (fun ls hl => ?_)
        refine lv_goto (tgt := 47) hx hb dX11_seasonAt_75 (by decide) ?_
        refine lv_iload_n hx hb dX11_seasonAt_47 rfl (lv_at hl 5 rfl) ?_
        refine lv_iload hx hb dX11_seasonAt_48 (lv_at hl 0 rfl) ?_
        refine lv_ishr hx hb dX11_seasonAt_50 ?_
        refine lv_topi (fun z515 ez515 => ?_)
        obtain rfl : z515 = 6 := ez515.trans (by decide)
        refine lv_iconst (v := 1) hx hb dX11_seasonAt_51 (by decide) ?_
        refine lv_iand hx hb dX11_seasonAt_52 ?_
        refine lv_topi (fun z516 ez516 => ?_)
        obtain rfl : z516 = 0 := ez516.trans (by decide)
        refine lv_if_eq (tgt := 61) hx hb dX11_seasonAt_53 (by decide) (fun c517 => ?_) (fun c517 => ?_)
        rotate_left
        · exact absurd c517 (by decide)
        refine lv_iload hx hb dX11_seasonAt_61 (lv_at hl 1 rfl) ?_
        refine lv_iload_n hx hb dX11_seasonAt_63 rfl (lv_at hl 5 rfl) ?_
        refine lv_iload hx hb dX11_seasonAt_64 (lv_at hl 0 rfl) ?_
        refine lv_ishr hx hb dX11_seasonAt_66 ?_
        refine lv_topi (fun z518 ez518 => ?_)
        obtain rfl : z518 = 6 := ez518.trans (by decide)
        refine lv_iconst (v := 1) hx hb dX11_seasonAt_67 (by decide) ?_
        refine lv_iand hx hb dX11_seasonAt_68 ?_
        refine lv_topi (fun z519 ez519 => ?_)
        obtain rfl : z519 = 0 := ez519.trans (by decide)
        refine lv_isub hx hb dX11_seasonAt_69 ?_
        refine lv_topi (fun z520 ez520 => ?_)
        obtain rfl : z520 = 0 := ez520.trans (by decide)
        refine lv_istore (lv' := [(7, .int 0), (5, .int 1), (4, .int 1), (2, .int v506), (6, .int 1), (3, .int 13), (0, .int p0), (1, .int p1)]) hx hb dX11_seasonAt_70 hl (by decide) rfl (fun ls hl => ?_)
        refine lv_iinc (v := 2) (lv' := [(5, .int 2), (7, .int 0), (4, .int 1), (2, .int v506), (6, .int 1), (3, .int 13), (0, .int p0), (1, .int p1)]) hx hb dX11_seasonAt_72 hl (k := 1) rfl (by decide) (by decide) rfl (fun ls hl => ?_)
        refine lv_goto (tgt := 47) hx hb dX11_seasonAt_75 (by decide) ?_
        refine lv_iload_n hx hb dX11_seasonAt_47 rfl (lv_at hl 5 rfl) ?_
        refine lv_iload hx hb dX11_seasonAt_48 (lv_at hl 0 rfl) ?_
        refine lv_ishr hx hb dX11_seasonAt_50 ?_
        refine lv_topi (fun z521 ez521 => ?_)
        obtain rfl : z521 = 3 := ez521.trans (by decide)
        refine lv_iconst (v := 1) hx hb dX11_seasonAt_51 (by decide) ?_
        refine lv_iand hx hb dX11_seasonAt_52 ?_
        refine lv_topi (fun z522 ez522 => ?_)
        obtain rfl : z522 = 1 := ez522.trans (by decide)
        refine lv_if_eq (tgt := 61) hx hb dX11_seasonAt_53 (by decide) (fun c523 => ?_) (fun c523 => ?_)
        · exact absurd c523 (by decide)
        refine lv_iload hx hb dX11_seasonAt_56 (lv_at hl 1 rfl) ?_
        refine lv_if_le (tgt := 78) hx hb dX11_seasonAt_58 (by decide) (fun c524 => ?_) (fun c524 => ?_)
        rotate_left
        · exact absurd c524 (by decide)
        refine lv_iload_n hx hb dX11_seasonAt_78 rfl (lv_at hl 5 rfl) ?_
        refine lv_iconst (v := 1) hx hb dX11_seasonAt_79 (by decide) ?_
        refine lv_iload hx hb dX11_seasonAt_80 (lv_at hl 0 rfl) ?_
        refine lv_ishl hx hb dX11_seasonAt_82 ?_
        refine lv_topi (fun z525 ez525 => ?_)
        obtain rfl : z525 = 4 := ez525.trans (by decide)
        refine lv_iconst (v := (-1)) hx hb dX11_seasonAt_83 (by decide) ?_
        refine lv_ixor hx hb dX11_seasonAt_84 ?_
        refine lv_topi (fun z526 ez526 => ?_)
        obtain rfl : z526 = (-5) := ez526.trans (by decide)
        refine lv_iand hx hb dX11_seasonAt_85 ?_
        refine lv_topi (fun z527 ez527 => ?_)
        obtain rfl : z527 = 9 := ez527.trans (by decide)
        refine lv_istore_n (lv' := [(3, .int 9), (5, .int 2), (7, .int 0), (4, .int 1), (2, .int v506), (6, .int 1), (0, .int p0), (1, .int p1)]) hx hb dX11_seasonAt_86 rfl hl (by decide) rfl (fun ls hl => ?_)
        refine lv_iinc (v := 2) (lv' := [(6, .int 2), (3, .int 9), (5, .int 2), (7, .int 0), (4, .int 1), (2, .int v506), (0, .int p0), (1, .int p1)]) hx hb dX11_seasonAt_87 hl (k := 5) rfl (by decide) (by decide) rfl (fun ls hl => ?_)
        refine lv_goto (tgt := 15) hx hb dX11_seasonAt_90 (by decide) ?_
        refine lv_iload hx hb dX11_seasonAt_15 (lv_at hl 0 rfl) ?_
        refine lv_iload_n hx hb dX11_seasonAt_17 rfl (lv_at hl 7 rfl) ?_
        refine lv_icmp_gt (tgt := 93) hx hb dX11_seasonAt_18 (by decide) (fun c528 => ?_) (fun c528 => ?_)
        · skip
          have c528 := i_lt (Eq.refl p1.toInt) (show (2 : Int32).toInt = 2 by decide) c528
          refine lv_iload hx hb dX11_seasonAt_93 (lv_at hl 2 rfl) ?_
          refine W.widen (k := 0) (n := 0) (Nat.le_of_ble_eq_true rfl) (Nat.le_of_ble_eq_true rfl) ?_
          exact W.iret (v := 2) hx hb hr (fun t ht hW => ⟨⟨2, rfl, ((show (0 ≤ (2 : Int32).toInt ∧ (2 : Int32).toInt ≤ 3) by omega)), CB.nil⟩, hS.F ht⟩) hS.2.2 dX11_seasonAt_95
        · skip
          have c528 := i_nlt (Eq.refl p1.toInt) (show (2 : Int32).toInt = 2 by decide) c528
          refine lv_iload_n hx hb dX11_seasonAt_21 rfl (lv_at hl 5 rfl) ?_
          refine lv_iload hx hb dX11_seasonAt_22 (lv_at hl 4 rfl) ?_
          have zi1 : (1 : Int32).toInt = 1 := by decide
          refine lv_idiv hx hb dX11_seasonAt_24 (i_nz (show (1 : Int32).toInt = 1 by decide) (by omega)) ?_
          refine lv_topi (fun v529 ev529 => ?_)
          have hv529 := i_div (Eq.refl v506.toInt) (show (1 : Int32).toInt = 1 by decide) ev529 (by omega) (by omega)
          refine lv_istore (lv' := [(7, .int v529), (6, .int 2), (3, .int 9), (5, .int 2), (4, .int 1), (2, .int v506), (0, .int p0), (1, .int p1)]) hx hb dX11_seasonAt_25 hl (by decide) rfl (fun ls hl => ?_)
          rcases (show v529.toInt = 0 ∨ v529.toInt = 1 by omega) with c530 | c530
          · obtain rfl : v529 = 0 := i_is c530 (by decide)
            refine lv_iload_n hx hb dX11_seasonAt_27 rfl (lv_at hl 5 rfl) ?_
            refine lv_iload hx hb dX11_seasonAt_28 (lv_at hl 4 rfl) ?_
            refine lv_irem hx hb dX11_seasonAt_30 (i_nz (show (1 : Int32).toInt = 1 by decide) (by omega)) ?_
            refine lv_topi (fun v531 ev531 => ?_)
            have hv531 := i_rem (Eq.refl v506.toInt) (show (1 : Int32).toInt = 1 by decide) ev531 (by omega) (by omega)
            refine lv_istore_n (lv' := [(2, .int v531), (7, .int 0), (6, .int 2), (3, .int 9), (5, .int 2), (4, .int 1), (0, .int p0), (1, .int p1)]) hx hb dX11_seasonAt_31 rfl hl (by decide) rfl (fun ls hl => ?_)
            refine lv_iload hx hb dX11_seasonAt_32 (lv_at hl 2 rfl) ?_
            refine lv_if_ne (tgt := 41) hx hb dX11_seasonAt_34 (by decide) (fun c532 => ?_) (fun c532 => ?_)
            rotate_left
            · exact absurd c532 (by decide)
            refine lv_iconst (v := 1) hx hb dX11_seasonAt_41 (by decide) ?_
            refine lv_istore (lv' := [(4, .int 1), (2, .int v531), (7, .int 0), (6, .int 2), (3, .int 9), (5, .int 2), (0, .int p0), (1, .int p1)]) hx hb dX11_seasonAt_42 hl (by decide) rfl (fun ls hl => ?_)
            refine lv_iconst (v := 0) hx hb dX11_seasonAt_44 (by decide) ?_
            refine lv_istore (lv' := [(5, .int 0), (4, .int 1), (2, .int v531), (7, .int 0), (6, .int 2), (3, .int 9), (0, .int p0), (1, .int p1)]) hx hb dX11_seasonAt_45 hl (by decide) rfl (fun ls hl => ?_)
            refine lv_iload_n hx hb dX11_seasonAt_47 rfl (lv_at hl 5 rfl) ?_
            refine lv_iload hx hb dX11_seasonAt_48 (lv_at hl 0 rfl) ?_
            refine lv_ishr hx hb dX11_seasonAt_50 ?_
            refine lv_topi (fun z533 ez533 => ?_)
            obtain rfl : z533 = 9 := ez533.trans (by decide)
            refine lv_iconst (v := 1) hx hb dX11_seasonAt_51 (by decide) ?_
            refine lv_iand hx hb dX11_seasonAt_52 ?_
            refine lv_topi (fun z534 ez534 => ?_)
            obtain rfl : z534 = 1 := ez534.trans (by decide)
            refine lv_if_eq (tgt := 61) hx hb dX11_seasonAt_53 (by decide) (fun c535 => ?_) (fun c535 => ?_)
            · exact absurd c535 (by decide)
            refine lv_iload hx hb dX11_seasonAt_56 (lv_at hl 3 rfl) ?_
            refine lv_if_le (tgt := 78) hx hb dX11_seasonAt_58 (by decide) (fun c536 => ?_) (fun c536 => ?_)
            rotate_left
            · exact absurd c536 (by decide)
            refine lv_iload_n hx hb dX11_seasonAt_78 rfl (lv_at hl 5 rfl) ?_
            refine lv_iconst (v := 1) hx hb dX11_seasonAt_79 (by decide) ?_
            refine lv_iload hx hb dX11_seasonAt_80 (lv_at hl 0 rfl) ?_
            refine lv_ishl hx hb dX11_seasonAt_82 ?_
            refine lv_topi (fun z537 ez537 => ?_)
            obtain rfl : z537 = 1 := ez537.trans (by decide)
            refine lv_iconst (v := (-1)) hx hb dX11_seasonAt_83 (by decide) ?_
            refine lv_ixor hx hb dX11_seasonAt_84 ?_
            refine lv_topi (fun z538 ez538 => ?_)
            obtain rfl : z538 = (-2) := ez538.trans (by decide)
            refine lv_iand hx hb dX11_seasonAt_85 ?_
            refine lv_topi (fun z539 ez539 => ?_)
            obtain rfl : z539 = 8 := ez539.trans (by decide)
            refine lv_istore_n (lv' := [(3, .int 8), (5, .int 0), (4, .int 1), (2, .int v531), (7, .int 0), (6, .int 2), (0, .int p0), (1, .int p1)]) hx hb dX11_seasonAt_86 rfl hl (by decide) rfl (fun ls hl => ?_)
            refine lv_iinc (v := 3) (lv' := [(6, .int 3), (3, .int 8), (5, .int 0), (4, .int 1), (2, .int v531), (7, .int 0), (0, .int p0), (1, .int p1)]) hx hb dX11_seasonAt_87 hl (k := 5) rfl (by decide) (by decide) rfl (fun ls hl => ?_)
            refine lv_goto (tgt := 15) hx hb dX11_seasonAt_90 (by decide) ?_
            refine lv_iload hx hb dX11_seasonAt_15 (lv_at hl 0 rfl) ?_
            refine lv_iload_n hx hb dX11_seasonAt_17 rfl (lv_at hl 7 rfl) ?_
            refine lv_icmp_gt (tgt := 93) hx hb dX11_seasonAt_18 (by decide) (fun c540 => ?_) (fun c540 => ?_)
            · skip
              have c540 := i_lt (Eq.refl p1.toInt) (show (3 : Int32).toInt = 3 by decide) c540
              refine lv_iload hx hb dX11_seasonAt_93 (lv_at hl 2 rfl) ?_
              refine W.widen (k := 0) (n := 0) (Nat.le_of_ble_eq_true rfl) (Nat.le_of_ble_eq_true rfl) ?_
              have zi0 : (0 : Int32).toInt = 0 := by decide
              exact W.iret (v := 0) hx hb hr (fun t ht hW => ⟨⟨0, rfl, ((show (0 ≤ (0 : Int32).toInt ∧ (0 : Int32).toInt ≤ 3) by omega)), CB.nil⟩, hS.F ht⟩) hS.2.2 dX11_seasonAt_95
            · skip
              have c540 := i_nlt (Eq.refl p1.toInt) (show (3 : Int32).toInt = 3 by decide) c540
              refine lv_iload_n hx hb dX11_seasonAt_21 rfl (lv_at hl 4 rfl) ?_
              refine lv_iload hx hb dX11_seasonAt_22 (lv_at hl 3 rfl) ?_
              refine lv_idiv hx hb dX11_seasonAt_24 (i_nz (show (1 : Int32).toInt = 1 by decide) (by omega)) ?_
              refine lv_topi (fun v541 ev541 => ?_)
              have hv541 := i_div (Eq.refl v531.toInt) (show (1 : Int32).toInt = 1 by decide) ev541 (by omega) (by omega)
              refine lv_istore (lv' := [(7, .int v541), (6, .int 3), (3, .int 8), (5, .int 0), (4, .int 1), (2, .int v531), (0, .int p0), (1, .int p1)]) hx hb dX11_seasonAt_25 hl (by decide) rfl (fun ls hl => ?_)
              rcases (show v541.toInt = 0 by omega) with c542
              · obtain rfl : v541 = 0 := i_is c542 (by decide)
                refine lv_iload_n hx hb dX11_seasonAt_27 rfl (lv_at hl 5 rfl) ?_
                refine lv_iload hx hb dX11_seasonAt_28 (lv_at hl 4 rfl) ?_
                refine lv_irem hx hb dX11_seasonAt_30 (i_nz (show (1 : Int32).toInt = 1 by decide) (by omega)) ?_
                refine lv_topi (fun v543 ev543 => ?_)
                have hv543 := i_rem (Eq.refl v531.toInt) (show (1 : Int32).toInt = 1 by decide) ev543 (by omega) (by omega)
                refine lv_istore_n (lv' := [(2, .int v543), (7, .int 0), (6, .int 3), (3, .int 8), (5, .int 0), (4, .int 1), (0, .int p0), (1, .int p1)]) hx hb dX11_seasonAt_31 rfl hl (by decide) rfl (fun ls hl => ?_)
                refine lv_iload hx hb dX11_seasonAt_32 (lv_at hl 2 rfl) ?_
                refine lv_if_ne (tgt := 41) hx hb dX11_seasonAt_34 (by decide) (fun c544 => ?_) (fun c544 => ?_)
                rotate_left
                · exact absurd c544 (by decide)
                refine lv_iconst (v := 1) hx hb dX11_seasonAt_41 (by decide) ?_
                refine lv_istore (lv' := [(4, .int 1), (2, .int v543), (7, .int 0), (6, .int 3), (3, .int 8), (5, .int 0), (0, .int p0), (1, .int p1)]) hx hb dX11_seasonAt_42 hl (by decide) rfl (fun ls hl => ?_)
                refine lv_iconst (v := 0) hx hb dX11_seasonAt_44 (by decide) ?_
                refine lv_istore (lv' := [(5, .int 0), (4, .int 1), (2, .int v543), (7, .int 0), (6, .int 3), (3, .int 8), (0, .int p0), (1, .int p1)]) hx hb dX11_seasonAt_45 hl (by decide) rfl (fun ls hl => ?_)
                refine lv_iload_n hx hb dX11_seasonAt_47 rfl (lv_at hl 5 rfl) ?_
                refine lv_iload hx hb dX11_seasonAt_48 (lv_at hl 0 rfl) ?_
                refine lv_ishr hx hb dX11_seasonAt_50 ?_
                refine lv_topi (fun z545 ez545 => ?_)
                obtain rfl : z545 = 8 := ez545.trans (by decide)
                refine lv_iconst (v := 1) hx hb dX11_seasonAt_51 (by decide) ?_
                refine lv_iand hx hb dX11_seasonAt_52 ?_
                refine lv_topi (fun z546 ez546 => ?_)
                obtain rfl : z546 = 0 := ez546.trans (by decide)
                refine lv_if_eq (tgt := 61) hx hb dX11_seasonAt_53 (by decide) (fun c547 => ?_) (fun c547 => ?_)
                rotate_left
                · exact absurd c547 (by decide)
                refine lv_iload hx hb dX11_seasonAt_61 (lv_at hl 3 rfl) ?_
                refine lv_iload_n hx hb dX11_seasonAt_63 rfl (lv_at hl 5 rfl) ?_
                refine lv_iload hx hb dX11_seasonAt_64 (lv_at hl 0 rfl) ?_
                refine lv_ishr hx hb dX11_seasonAt_66 ?_
                refine lv_topi (fun z548 ez548 => ?_)
                obtain rfl : z548 = 8 := ez548.trans (by decide)
                refine lv_iconst (v := 1) hx hb dX11_seasonAt_67 (by decide) ?_
                refine lv_iand hx hb dX11_seasonAt_68 ?_
                refine lv_topi (fun z549 ez549 => ?_)
                obtain rfl : z549 = 0 := ez549.trans (by decide)
                refine lv_isub hx hb dX11_seasonAt_69 ?_
                refine lv_topi (fun z550 ez550 => ?_)
                obtain rfl : z550 = 0 := ez550.trans (by decide)
                refine lv_istore (lv' := [(7, .int 0), (5, .int 0), (4, .int 1), (2, .int v543), (6, .int 3), (3, .int 8), (0, .int p0), (1, .int p1)]) hx hb dX11_seasonAt_70 hl (by decide) rfl (fun ls hl => ?_)
                refine lv_iinc (v := 1) (lv' := [(5, .int 1), (7, .int 0), (4, .int 1), (2, .int v543), (6, .int 3), (3, .int 8), (0, .int p0), (1, .int p1)]) hx hb dX11_seasonAt_72 hl (k := 1) rfl (by decide) (by decide) rfl (fun ls hl => ?_)
                refine lv_goto (tgt := 47) hx hb dX11_seasonAt_75 (by decide) ?_
                refine lv_iload_n hx hb dX11_seasonAt_47 rfl (lv_at hl 5 rfl) ?_
                refine lv_iload hx hb dX11_seasonAt_48 (lv_at hl 0 rfl) ?_
                refine lv_ishr hx hb dX11_seasonAt_50 ?_
                refine lv_topi (fun z551 ez551 => ?_)
                obtain rfl : z551 = 4 := ez551.trans (by decide)
                refine lv_iconst (v := 1) hx hb dX11_seasonAt_51 (by decide) ?_
                refine lv_iand hx hb dX11_seasonAt_52 ?_
                refine lv_topi (fun z552 ez552 => ?_)
                obtain rfl : z552 = 0 := ez552.trans (by decide)
                refine lv_if_eq (tgt := 61) hx hb dX11_seasonAt_53 (by decide) (fun c553 => ?_) (fun c553 => ?_)
                rotate_left
                · exact absurd c553 (by decide)
                refine lv_iload hx hb dX11_seasonAt_61 (lv_at hl 1 rfl) ?_
                refine lv_iload_n hx hb dX11_seasonAt_63 rfl (lv_at hl 5 rfl) ?_
                refine lv_iload hx hb dX11_seasonAt_64 (lv_at hl 0 rfl) ?_
                refine lv_ishr hx hb dX11_seasonAt_66 ?_
                refine lv_topi (fun z554 ez554 => ?_)
                obtain rfl : z554 = 4 := ez554.trans (by decide)
                refine lv_iconst (v := 1) hx hb dX11_seasonAt_67 (by decide) ?_
                refine lv_iand hx hb dX11_seasonAt_68 ?_
                refine lv_topi (fun z555 ez555 => ?_)
                obtain rfl : z555 = 0 := ez555.trans (by decide)
                refine lv_isub hx hb dX11_seasonAt_69 ?_
                refine lv_topi (fun z556 ez556 => ?_)
                obtain rfl : z556 = 0 := ez556.trans (by decide)
                refine lv_istore (lv' := [(7, .int 0), (5, .int 1), (4, .int 1), (2, .int v543), (6, .int 3), (3, .int 8), (0, .int p0), (1, .int p1)]) hx hb dX11_seasonAt_70 hl (by decide) rfl (fun ls hl => ?_)
                refine lv_iinc (v := 2) (lv' := [(5, .int 2), (7, .int 0), (4, .int 1), (2, .int v543), (6, .int 3), (3, .int 8), (0, .int p0), (1, .int p1)]) hx hb dX11_seasonAt_72 hl (k := 1) rfl (by decide) (by decide) rfl (fun ls hl => ?_)
                refine lv_goto (tgt := 47) hx hb dX11_seasonAt_75 (by decide) ?_
                refine lv_iload_n hx hb dX11_seasonAt_47 rfl (lv_at hl 5 rfl) ?_
                refine lv_iload hx hb dX11_seasonAt_48 (lv_at hl 0 rfl) ?_
                refine lv_ishr hx hb dX11_seasonAt_50 ?_
                refine lv_topi (fun z557 ez557 => ?_)
                obtain rfl : z557 = 2 := ez557.trans (by decide)
                refine lv_iconst (v := 1) hx hb dX11_seasonAt_51 (by decide) ?_
                refine lv_iand hx hb dX11_seasonAt_52 ?_
                refine lv_topi (fun z558 ez558 => ?_)
                obtain rfl : z558 = 0 := ez558.trans (by decide)
                refine lv_if_eq (tgt := 61) hx hb dX11_seasonAt_53 (by decide) (fun c559 => ?_) (fun c559 => ?_)
                rotate_left
                · exact absurd c559 (by decide)
                refine lv_iload hx hb dX11_seasonAt_61 (lv_at hl 1 rfl) ?_
                refine lv_iload_n hx hb dX11_seasonAt_63 rfl (lv_at hl 5 rfl) ?_
                refine lv_iload hx hb dX11_seasonAt_64 (lv_at hl 0 rfl) ?_
                refine lv_ishr hx hb dX11_seasonAt_66 ?_
                refine lv_topi (fun z560 ez560 => ?_)
                obtain rfl : z560 = 2 := ez560.trans (by decide)
                refine lv_iconst (v := 1) hx hb dX11_seasonAt_67 (by decide) ?_
                refine lv_iand hx hb dX11_seasonAt_68 ?_
                refine lv_topi (fun z561 ez561 => ?_)
                obtain rfl : z561 = 0 := ez561.trans (by decide)
                refine lv_isub hx hb dX11_seasonAt_69 ?_
                refine lv_topi (fun z562 ez562 => ?_)
                obtain rfl : z562 = 0 := ez562.trans (by decide)
                refine lv_istore (lv' := [(7, .int 0), (5, .int 2), (4, .int 1), (2, .int v543), (6, .int 3), (3, .int 8), (0, .int p0), (1, .int p1)]) hx hb dX11_seasonAt_70 hl (by decide) rfl (fun ls hl => ?_)
                refine lv_iinc (v := 3) (lv' := [(5, .int 3), (7, .int 0), (4, .int 1), (2, .int v543), (6, .int 3), (3, .int 8), (0, .int p0), (1, .int p1)]) hx hb dX11_seasonAt_72 hl (k := 1) rfl (by decide) (by decide) rfl (fun ls hl => ?_)
                refine lv_goto (tgt := 47) hx hb dX11_seasonAt_75 (by decide) ?_
                refine lv_iload_n hx hb dX11_seasonAt_47 rfl (lv_at hl 5 rfl) ?_
                refine lv_iload hx hb dX11_seasonAt_48 (lv_at hl 0 rfl) ?_
                refine lv_ishr hx hb dX11_seasonAt_50 ?_
                refine lv_topi (fun z563 ez563 => ?_)
                obtain rfl : z563 = 1 := ez563.trans (by decide)
                refine lv_iconst (v := 1) hx hb dX11_seasonAt_51 (by decide) ?_
                refine lv_iand hx hb dX11_seasonAt_52 ?_
                refine lv_topi (fun z564 ez564 => ?_)
                obtain rfl : z564 = 1 := ez564.trans (by decide)
                refine lv_if_eq (tgt := 61) hx hb dX11_seasonAt_53 (by decide) (fun c565 => ?_) (fun c565 => ?_)
                · exact absurd c565 (by decide)
                refine lv_iload hx hb dX11_seasonAt_56 (lv_at hl 1 rfl) ?_
                refine lv_if_le (tgt := 78) hx hb dX11_seasonAt_58 (by decide) (fun c566 => ?_) (fun c566 => ?_)
                rotate_left
                · exact absurd c566 (by decide)
                refine lv_iload_n hx hb dX11_seasonAt_78 rfl (lv_at hl 5 rfl) ?_
                refine lv_iconst (v := 1) hx hb dX11_seasonAt_79 (by decide) ?_
                refine lv_iload hx hb dX11_seasonAt_80 (lv_at hl 0 rfl) ?_
                refine lv_ishl hx hb dX11_seasonAt_82 ?_
                refine lv_topi (fun z567 ez567 => ?_)
                obtain rfl : z567 = 8 := ez567.trans (by decide)
                refine lv_iconst (v := (-1)) hx hb dX11_seasonAt_83 (by decide) ?_
                refine lv_ixor hx hb dX11_seasonAt_84 ?_
                refine lv_topi (fun z568 ez568 => ?_)
                obtain rfl : z568 = (-9) := ez568.trans (by decide)
                refine lv_iand hx hb dX11_seasonAt_85 ?_
                refine lv_topi (fun z569 ez569 => ?_)
                obtain rfl : z569 = 0 := ez569.trans (by decide)
                refine lv_istore_n (lv' := [(3, .int 0), (5, .int 3), (7, .int 0), (4, .int 1), (2, .int v543), (6, .int 3), (0, .int p0), (1, .int p1)]) hx hb dX11_seasonAt_86 rfl hl (by decide) rfl (fun ls hl => ?_)
                refine lv_iinc (v := 4) (lv' := [(6, .int 4), (3, .int 0), (5, .int 3), (7, .int 0), (4, .int 1), (2, .int v543), (0, .int p0), (1, .int p1)]) hx hb dX11_seasonAt_87 hl (k := 5) rfl (by decide) (by decide) rfl (fun ls hl => ?_)
                refine lv_goto (tgt := 15) hx hb dX11_seasonAt_90 (by decide) ?_
                refine lv_iload hx hb dX11_seasonAt_15 (lv_at hl 0 rfl) ?_
                refine lv_iload_n hx hb dX11_seasonAt_17 rfl (lv_at hl 7 rfl) ?_
                refine lv_icmp_gt (tgt := 93) hx hb dX11_seasonAt_18 (by decide) (fun c570 => ?_) (fun c570 => ?_)
                rotate_left
                · have c570 := i_nlt (Eq.refl p1.toInt) (show (4 : Int32).toInt = 4 by decide) c570; exfalso; omega
                have c570 := i_lt (Eq.refl p1.toInt) (show (4 : Int32).toInt = 4 by decide) c570
                refine lv_iload hx hb dX11_seasonAt_93 (lv_at hl 2 rfl) ?_
                refine W.widen (k := 0) (n := 0) (Nat.le_of_ble_eq_true rfl) (Nat.le_of_ble_eq_true rfl) ?_
                have zi3 : (3 : Int32).toInt = 3 := by decide
                exact W.iret (v := 3) hx hb hr (fun t ht hW => ⟨⟨3, rfl, ((show (0 ≤ (3 : Int32).toInt ∧ (3 : Int32).toInt ≤ 3) by omega)), CB.nil⟩, hS.F ht⟩) hS.2.2 dX11_seasonAt_95
          · obtain rfl : v529 = 1 := i_is c530 (by decide)
            refine lv_iload_n hx hb dX11_seasonAt_27 rfl (lv_at hl 5 rfl) ?_
            refine lv_iload hx hb dX11_seasonAt_28 (lv_at hl 4 rfl) ?_
            refine lv_irem hx hb dX11_seasonAt_30 (i_nz (show (1 : Int32).toInt = 1 by decide) (by omega)) ?_
            refine lv_topi (fun v571 ev571 => ?_)
            have hv571 := i_rem (Eq.refl v506.toInt) (show (1 : Int32).toInt = 1 by decide) ev571 (by omega) (by omega)
            refine lv_istore_n (lv' := [(2, .int v571), (7, .int 1), (6, .int 2), (3, .int 9), (5, .int 2), (4, .int 1), (0, .int p0), (1, .int p1)]) hx hb dX11_seasonAt_31 rfl hl (by decide) rfl (fun ls hl => ?_)
            refine lv_iload hx hb dX11_seasonAt_32 (lv_at hl 2 rfl) ?_
            refine lv_if_ne (tgt := 41) hx hb dX11_seasonAt_34 (by decide) (fun c572 => ?_) (fun c572 => ?_)
            rotate_left
            · exact absurd c572 (by decide)
            refine lv_iconst (v := 1) hx hb dX11_seasonAt_41 (by decide) ?_
            refine lv_istore (lv' := [(4, .int 1), (2, .int v571), (7, .int 1), (6, .int 2), (3, .int 9), (5, .int 2), (0, .int p0), (1, .int p1)]) hx hb dX11_seasonAt_42 hl (by decide) rfl (fun ls hl => ?_)
            refine lv_iconst (v := 0) hx hb dX11_seasonAt_44 (by decide) ?_
            refine lv_istore (lv' := [(5, .int 0), (4, .int 1), (2, .int v571), (7, .int 1), (6, .int 2), (3, .int 9), (0, .int p0), (1, .int p1)]) hx hb dX11_seasonAt_45 hl (by decide) rfl (fun ls hl => ?_)
            refine lv_iload_n hx hb dX11_seasonAt_47 rfl (lv_at hl 5 rfl) ?_
            refine lv_iload hx hb dX11_seasonAt_48 (lv_at hl 0 rfl) ?_
            refine lv_ishr hx hb dX11_seasonAt_50 ?_
            refine lv_topi (fun z573 ez573 => ?_)
            obtain rfl : z573 = 9 := ez573.trans (by decide)
            refine lv_iconst (v := 1) hx hb dX11_seasonAt_51 (by decide) ?_
            refine lv_iand hx hb dX11_seasonAt_52 ?_
            refine lv_topi (fun z574 ez574 => ?_)
            obtain rfl : z574 = 1 := ez574.trans (by decide)
            refine lv_if_eq (tgt := 61) hx hb dX11_seasonAt_53 (by decide) (fun c575 => ?_) (fun c575 => ?_)
            · exact absurd c575 (by decide)
            refine lv_iload hx hb dX11_seasonAt_56 (lv_at hl 3 rfl) ?_
            refine lv_if_le (tgt := 78) hx hb dX11_seasonAt_58 (by decide) (fun c576 => ?_) (fun c576 => ?_)
            · exact absurd c576 (by decide)
            refine lv_iload hx hb dX11_seasonAt_61 (lv_at hl 3 rfl) ?_
            refine lv_iload_n hx hb dX11_seasonAt_63 rfl (lv_at hl 5 rfl) ?_
            refine lv_iload hx hb dX11_seasonAt_64 (lv_at hl 0 rfl) ?_
            refine lv_ishr hx hb dX11_seasonAt_66 ?_
            refine lv_topi (fun z577 ez577 => ?_)
            obtain rfl : z577 = 9 := ez577.trans (by decide)
            refine lv_iconst (v := 1) hx hb dX11_seasonAt_67 (by decide) ?_
            refine lv_iand hx hb dX11_seasonAt_68 ?_
            refine lv_topi (fun z578 ez578 => ?_)
            obtain rfl : z578 = 1 := ez578.trans (by decide)
            refine lv_isub hx hb dX11_seasonAt_69 ?_
            refine lv_topi (fun z579 ez579 => ?_)
            obtain rfl : z579 = 0 := ez579.trans (by decide)
            refine lv_istore (lv' := [(7, .int 0), (5, .int 0), (4, .int 1), (2, .int v571), (6, .int 2), (3, .int 9), (0, .int p0), (1, .int p1)]) hx hb dX11_seasonAt_70 hl (by decide) rfl (fun ls hl => ?_)
            refine lv_iinc (v := 1) (lv' := [(5, .int 1), (7, .int 0), (4, .int 1), (2, .int v571), (6, .int 2), (3, .int 9), (0, .int p0), (1, .int p1)]) hx hb dX11_seasonAt_72 hl (k := 1) rfl (by decide) (by decide) rfl (fun ls hl => ?_)
            refine lv_goto (tgt := 47) hx hb dX11_seasonAt_75 (by decide) ?_
            refine lv_iload_n hx hb dX11_seasonAt_47 rfl (lv_at hl 5 rfl) ?_
            refine lv_iload hx hb dX11_seasonAt_48 (lv_at hl 0 rfl) ?_
            refine lv_ishr hx hb dX11_seasonAt_50 ?_
            refine lv_topi (fun z580 ez580 => ?_)
            obtain rfl : z580 = 4 := ez580.trans (by decide)
            refine lv_iconst (v := 1) hx hb dX11_seasonAt_51 (by decide) ?_
            refine lv_iand hx hb dX11_seasonAt_52 ?_
            refine lv_topi (fun z581 ez581 => ?_)
            obtain rfl : z581 = 0 := ez581.trans (by decide)
            refine lv_if_eq (tgt := 61) hx hb dX11_seasonAt_53 (by decide) (fun c582 => ?_) (fun c582 => ?_)
            rotate_left
            · exact absurd c582 (by decide)
            refine lv_iload hx hb dX11_seasonAt_61 (lv_at hl 1 rfl) ?_
            refine lv_iload_n hx hb dX11_seasonAt_63 rfl (lv_at hl 5 rfl) ?_
            refine lv_iload hx hb dX11_seasonAt_64 (lv_at hl 0 rfl) ?_
            refine lv_ishr hx hb dX11_seasonAt_66 ?_
            refine lv_topi (fun z583 ez583 => ?_)
            obtain rfl : z583 = 4 := ez583.trans (by decide)
            refine lv_iconst (v := 1) hx hb dX11_seasonAt_67 (by decide) ?_
            refine lv_iand hx hb dX11_seasonAt_68 ?_
            refine lv_topi (fun z584 ez584 => ?_)
            obtain rfl : z584 = 0 := ez584.trans (by decide)
            refine lv_isub hx hb dX11_seasonAt_69 ?_
            refine lv_topi (fun z585 ez585 => ?_)
            obtain rfl : z585 = 0 := ez585.trans (by decide)
            refine lv_istore (lv' := [(7, .int 0), (5, .int 1), (4, .int 1), (2, .int v571), (6, .int 2), (3, .int 9), (0, .int p0), (1, .int p1)]) hx hb dX11_seasonAt_70 hl (by decide) rfl (fun ls hl => ?_)
            refine lv_iinc (v := 2) (lv' := [(5, .int 2), (7, .int 0), (4, .int 1), (2, .int v571), (6, .int 2), (3, .int 9), (0, .int p0), (1, .int p1)]) hx hb dX11_seasonAt_72 hl (k := 1) rfl (by decide) (by decide) rfl (fun ls hl => ?_)
            refine lv_goto (tgt := 47) hx hb dX11_seasonAt_75 (by decide) ?_
            refine lv_iload_n hx hb dX11_seasonAt_47 rfl (lv_at hl 5 rfl) ?_
            refine lv_iload hx hb dX11_seasonAt_48 (lv_at hl 0 rfl) ?_
            refine lv_ishr hx hb dX11_seasonAt_50 ?_
            refine lv_topi (fun z586 ez586 => ?_)
            obtain rfl : z586 = 2 := ez586.trans (by decide)
            refine lv_iconst (v := 1) hx hb dX11_seasonAt_51 (by decide) ?_
            refine lv_iand hx hb dX11_seasonAt_52 ?_
            refine lv_topi (fun z587 ez587 => ?_)
            obtain rfl : z587 = 0 := ez587.trans (by decide)
            refine lv_if_eq (tgt := 61) hx hb dX11_seasonAt_53 (by decide) (fun c588 => ?_) (fun c588 => ?_)
            rotate_left
            · exact absurd c588 (by decide)
            refine lv_iload hx hb dX11_seasonAt_61 (lv_at hl 1 rfl) ?_
            refine lv_iload_n hx hb dX11_seasonAt_63 rfl (lv_at hl 5 rfl) ?_
            refine lv_iload hx hb dX11_seasonAt_64 (lv_at hl 0 rfl) ?_
            refine lv_ishr hx hb dX11_seasonAt_66 ?_
            refine lv_topi (fun z589 ez589 => ?_)
            obtain rfl : z589 = 2 := ez589.trans (by decide)
            refine lv_iconst (v := 1) hx hb dX11_seasonAt_67 (by decide) ?_
            refine lv_iand hx hb dX11_seasonAt_68 ?_
            refine lv_topi (fun z590 ez590 => ?_)
            obtain rfl : z590 = 0 := ez590.trans (by decide)
            refine lv_isub hx hb dX11_seasonAt_69 ?_
            refine lv_topi (fun z591 ez591 => ?_)
            obtain rfl : z591 = 0 := ez591.trans (by decide)
            refine lv_istore (lv' := [(7, .int 0), (5, .int 2), (4, .int 1), (2, .int v571), (6, .int 2), (3, .int 9), (0, .int p0), (1, .int p1)]) hx hb dX11_seasonAt_70 hl (by decide) rfl (fun ls hl => ?_)
            refine lv_iinc (v := 3) (lv' := [(5, .int 3), (7, .int 0), (4, .int 1), (2, .int v571), (6, .int 2), (3, .int 9), (0, .int p0), (1, .int p1)]) hx hb dX11_seasonAt_72 hl (k := 1) rfl (by decide) (by decide) rfl (fun ls hl => ?_)
            refine lv_goto (tgt := 47) hx hb dX11_seasonAt_75 (by decide) ?_
            refine lv_iload_n hx hb dX11_seasonAt_47 rfl (lv_at hl 5 rfl) ?_
            refine lv_iload hx hb dX11_seasonAt_48 (lv_at hl 0 rfl) ?_
            refine lv_ishr hx hb dX11_seasonAt_50 ?_
            refine lv_topi (fun z592 ez592 => ?_)
            obtain rfl : z592 = 1 := ez592.trans (by decide)
            refine lv_iconst (v := 1) hx hb dX11_seasonAt_51 (by decide) ?_
            refine lv_iand hx hb dX11_seasonAt_52 ?_
            refine lv_topi (fun z593 ez593 => ?_)
            obtain rfl : z593 = 1 := ez593.trans (by decide)
            refine lv_if_eq (tgt := 61) hx hb dX11_seasonAt_53 (by decide) (fun c594 => ?_) (fun c594 => ?_)
            · exact absurd c594 (by decide)
            refine lv_iload hx hb dX11_seasonAt_56 (lv_at hl 1 rfl) ?_
            refine lv_if_le (tgt := 78) hx hb dX11_seasonAt_58 (by decide) (fun c595 => ?_) (fun c595 => ?_)
            rotate_left
            · exact absurd c595 (by decide)
            refine lv_iload_n hx hb dX11_seasonAt_78 rfl (lv_at hl 5 rfl) ?_
            refine lv_iconst (v := 1) hx hb dX11_seasonAt_79 (by decide) ?_
            refine lv_iload hx hb dX11_seasonAt_80 (lv_at hl 0 rfl) ?_
            refine lv_ishl hx hb dX11_seasonAt_82 ?_
            refine lv_topi (fun z596 ez596 => ?_)
            obtain rfl : z596 = 8 := ez596.trans (by decide)
            refine lv_iconst (v := (-1)) hx hb dX11_seasonAt_83 (by decide) ?_
            refine lv_ixor hx hb dX11_seasonAt_84 ?_
            refine lv_topi (fun z597 ez597 => ?_)
            obtain rfl : z597 = (-9) := ez597.trans (by decide)
            refine lv_iand hx hb dX11_seasonAt_85 ?_
            refine lv_topi (fun z598 ez598 => ?_)
            obtain rfl : z598 = 1 := ez598.trans (by decide)
            refine lv_istore_n (lv' := [(3, .int 1), (5, .int 3), (7, .int 0), (4, .int 1), (2, .int v571), (6, .int 2), (0, .int p0), (1, .int p1)]) hx hb dX11_seasonAt_86 rfl hl (by decide) rfl (fun ls hl => ?_)
            refine lv_iinc (v := 3) (lv' := [(6, .int 3), (3, .int 1), (5, .int 3), (7, .int 0), (4, .int 1), (2, .int v571), (0, .int p0), (1, .int p1)]) hx hb dX11_seasonAt_87 hl (k := 5) rfl (by decide) (by decide) rfl (fun ls hl => ?_)
            refine lv_goto (tgt := 15) hx hb dX11_seasonAt_90 (by decide) ?_
            refine lv_iload hx hb dX11_seasonAt_15 (lv_at hl 0 rfl) ?_
            refine lv_iload_n hx hb dX11_seasonAt_17 rfl (lv_at hl 7 rfl) ?_
            refine lv_icmp_gt (tgt := 93) hx hb dX11_seasonAt_18 (by decide) (fun c599 => ?_) (fun c599 => ?_)
            · skip
              have c599 := i_lt (Eq.refl p1.toInt) (show (3 : Int32).toInt = 3 by decide) c599
              refine lv_iload hx hb dX11_seasonAt_93 (lv_at hl 2 rfl) ?_
              refine W.widen (k := 0) (n := 0) (Nat.le_of_ble_eq_true rfl) (Nat.le_of_ble_eq_true rfl) ?_
              have zi3 : (3 : Int32).toInt = 3 := by decide
              exact W.iret (v := 3) hx hb hr (fun t ht hW => ⟨⟨3, rfl, ((show (0 ≤ (3 : Int32).toInt ∧ (3 : Int32).toInt ≤ 3) by omega)), CB.nil⟩, hS.F ht⟩) hS.2.2 dX11_seasonAt_95
            · skip
              have c599 := i_nlt (Eq.refl p1.toInt) (show (3 : Int32).toInt = 3 by decide) c599
              refine lv_iload_n hx hb dX11_seasonAt_21 rfl (lv_at hl 5 rfl) ?_
              refine lv_iload hx hb dX11_seasonAt_22 (lv_at hl 4 rfl) ?_
              refine lv_idiv hx hb dX11_seasonAt_24 (i_nz (show (1 : Int32).toInt = 1 by decide) (by omega)) ?_
              refine lv_topi (fun v600 ev600 => ?_)
              have hv600 := i_div (Eq.refl v571.toInt) (show (1 : Int32).toInt = 1 by decide) ev600 (by omega) (by omega)
              refine lv_istore (lv' := [(7, .int v600), (6, .int 3), (3, .int 1), (5, .int 3), (4, .int 1), (2, .int v571), (0, .int p0), (1, .int p1)]) hx hb dX11_seasonAt_25 hl (by decide) rfl (fun ls hl => ?_)
              rcases (show v600.toInt = 0 by omega) with c601
              · obtain rfl : v600 = 0 := i_is c601 (by decide)
                refine lv_iload_n hx hb dX11_seasonAt_27 rfl (lv_at hl 5 rfl) ?_
                refine lv_iload hx hb dX11_seasonAt_28 (lv_at hl 4 rfl) ?_
                refine lv_irem hx hb dX11_seasonAt_30 (i_nz (show (1 : Int32).toInt = 1 by decide) (by omega)) ?_
                refine lv_topi (fun v602 ev602 => ?_)
                have hv602 := i_rem (Eq.refl v571.toInt) (show (1 : Int32).toInt = 1 by decide) ev602 (by omega) (by omega)
                refine lv_istore_n (lv' := [(2, .int v602), (7, .int 0), (6, .int 3), (3, .int 1), (5, .int 3), (4, .int 1), (0, .int p0), (1, .int p1)]) hx hb dX11_seasonAt_31 rfl hl (by decide) rfl (fun ls hl => ?_)
                refine lv_iload hx hb dX11_seasonAt_32 (lv_at hl 2 rfl) ?_
                refine lv_if_ne (tgt := 41) hx hb dX11_seasonAt_34 (by decide) (fun c603 => ?_) (fun c603 => ?_)
                rotate_left
                · exact absurd c603 (by decide)
                refine lv_iconst (v := 1) hx hb dX11_seasonAt_41 (by decide) ?_
                refine lv_istore (lv' := [(4, .int 1), (2, .int v602), (7, .int 0), (6, .int 3), (3, .int 1), (5, .int 3), (0, .int p0), (1, .int p1)]) hx hb dX11_seasonAt_42 hl (by decide) rfl (fun ls hl => ?_)
                refine lv_iconst (v := 0) hx hb dX11_seasonAt_44 (by decide) ?_
                refine lv_istore (lv' := [(5, .int 0), (4, .int 1), (2, .int v602), (7, .int 0), (6, .int 3), (3, .int 1), (0, .int p0), (1, .int p1)]) hx hb dX11_seasonAt_45 hl (by decide) rfl (fun ls hl => ?_)
                refine lv_iload_n hx hb dX11_seasonAt_47 rfl (lv_at hl 5 rfl) ?_
                refine lv_iload hx hb dX11_seasonAt_48 (lv_at hl 0 rfl) ?_
                refine lv_ishr hx hb dX11_seasonAt_50 ?_
                refine lv_topi (fun z604 ez604 => ?_)
                obtain rfl : z604 = 1 := ez604.trans (by decide)
                refine lv_iconst (v := 1) hx hb dX11_seasonAt_51 (by decide) ?_
                refine lv_iand hx hb dX11_seasonAt_52 ?_
                refine lv_topi (fun z605 ez605 => ?_)
                obtain rfl : z605 = 1 := ez605.trans (by decide)
                refine lv_if_eq (tgt := 61) hx hb dX11_seasonAt_53 (by decide) (fun c606 => ?_) (fun c606 => ?_)
                · exact absurd c606 (by decide)
                refine lv_iload hx hb dX11_seasonAt_56 (lv_at hl 3 rfl) ?_
                refine lv_if_le (tgt := 78) hx hb dX11_seasonAt_58 (by decide) (fun c607 => ?_) (fun c607 => ?_)
                rotate_left
                · exact absurd c607 (by decide)
                refine lv_iload_n hx hb dX11_seasonAt_78 rfl (lv_at hl 5 rfl) ?_
                refine lv_iconst (v := 1) hx hb dX11_seasonAt_79 (by decide) ?_
                refine lv_iload hx hb dX11_seasonAt_80 (lv_at hl 0 rfl) ?_
                refine lv_ishl hx hb dX11_seasonAt_82 ?_
                refine lv_topi (fun z608 ez608 => ?_)
                obtain rfl : z608 = 1 := ez608.trans (by decide)
                refine lv_iconst (v := (-1)) hx hb dX11_seasonAt_83 (by decide) ?_
                refine lv_ixor hx hb dX11_seasonAt_84 ?_
                refine lv_topi (fun z609 ez609 => ?_)
                obtain rfl : z609 = (-2) := ez609.trans (by decide)
                refine lv_iand hx hb dX11_seasonAt_85 ?_
                refine lv_topi (fun z610 ez610 => ?_)
                obtain rfl : z610 = 0 := ez610.trans (by decide)
                refine lv_istore_n (lv' := [(3, .int 0), (5, .int 0), (4, .int 1), (2, .int v602), (7, .int 0), (6, .int 3), (0, .int p0), (1, .int p1)]) hx hb dX11_seasonAt_86 rfl hl (by decide) rfl (fun ls hl => ?_)
                refine lv_iinc (v := 4) (lv' := [(6, .int 4), (3, .int 0), (5, .int 0), (4, .int 1), (2, .int v602), (7, .int 0), (0, .int p0), (1, .int p1)]) hx hb dX11_seasonAt_87 hl (k := 5) rfl (by decide) (by decide) rfl (fun ls hl => ?_)
                refine lv_goto (tgt := 15) hx hb dX11_seasonAt_90 (by decide) ?_
                refine lv_iload hx hb dX11_seasonAt_15 (lv_at hl 0 rfl) ?_
                refine lv_iload_n hx hb dX11_seasonAt_17 rfl (lv_at hl 7 rfl) ?_
                refine lv_icmp_gt (tgt := 93) hx hb dX11_seasonAt_18 (by decide) (fun c611 => ?_) (fun c611 => ?_)
                rotate_left
                · have c611 := i_nlt (Eq.refl p1.toInt) (show (4 : Int32).toInt = 4 by decide) c611; exfalso; omega
                have c611 := i_lt (Eq.refl p1.toInt) (show (4 : Int32).toInt = 4 by decide) c611
                refine lv_iload hx hb dX11_seasonAt_93 (lv_at hl 2 rfl) ?_
                refine W.widen (k := 0) (n := 0) (Nat.le_of_ble_eq_true rfl) (Nat.le_of_ble_eq_true rfl) ?_
                have zi0 : (0 : Int32).toInt = 0 := by decide
                exact W.iret (v := 0) hx hb hr (fun t ht hW => ⟨⟨0, rfl, ((show (0 ≤ (0 : Int32).toInt ∧ (0 : Int32).toInt ≤ 3) by omega)), CB.nil⟩, hS.F ht⟩) hS.2.2 dX11_seasonAt_95
      · obtain rfl : v387 = 2 := i_is c388 (by decide)
        refine lv_iload_n hx hb dX11_seasonAt_27 rfl (lv_at hl 5 rfl) ?_
        refine lv_iload hx hb dX11_seasonAt_28 (lv_at hl 4 rfl) ?_
        refine lv_irem hx hb dX11_seasonAt_30 (i_nz (show (2 : Int32).toInt = 2 by decide) (by omega)) ?_
        refine lv_topi (fun v612 ev612 => ?_)
        have hv612 := i_rem (Eq.refl v370.toInt) (show (2 : Int32).toInt = 2 by decide) ev612 (by omega) (by omega)
        refine lv_istore_n (lv' := [(2, .int v612), (7, .int 2), (6, .int 1), (3, .int 13), (5, .int 1), (4, .int 2), (0, .int p0), (1, .int p1)]) hx hb dX11_seasonAt_31 rfl hl (by decide) rfl (fun ls hl => ?_)
        refine lv_iload hx hb dX11_seasonAt_32 (lv_at hl 2 rfl) ?_
        refine lv_if_ne (tgt := 41) hx hb dX11_seasonAt_34 (by decide) (fun c613 => ?_) (fun c613 => ?_)
        rotate_left
        · exact absurd c613 (by decide)
        refine lv_iconst (v := 1) hx hb dX11_seasonAt_41 (by decide) ?_
        refine lv_istore (lv' := [(4, .int 1), (2, .int v612), (7, .int 2), (6, .int 1), (3, .int 13), (5, .int 1), (0, .int p0), (1, .int p1)]) hx hb dX11_seasonAt_42 hl (by decide) rfl (fun ls hl => ?_)
        refine lv_iconst (v := 0) hx hb dX11_seasonAt_44 (by decide) ?_
        refine lv_istore (lv' := [(5, .int 0), (4, .int 1), (2, .int v612), (7, .int 2), (6, .int 1), (3, .int 13), (0, .int p0), (1, .int p1)]) hx hb dX11_seasonAt_45 hl (by decide) rfl (fun ls hl => ?_)
        refine lv_iload_n hx hb dX11_seasonAt_47 rfl (lv_at hl 5 rfl) ?_
        refine lv_iload hx hb dX11_seasonAt_48 (lv_at hl 0 rfl) ?_
        refine lv_ishr hx hb dX11_seasonAt_50 ?_
        refine lv_topi (fun z614 ez614 => ?_)
        obtain rfl : z614 = 13 := ez614.trans (by decide)
        refine lv_iconst (v := 1) hx hb dX11_seasonAt_51 (by decide) ?_
        refine lv_iand hx hb dX11_seasonAt_52 ?_
        refine lv_topi (fun z615 ez615 => ?_)
        obtain rfl : z615 = 1 := ez615.trans (by decide)
        refine lv_if_eq (tgt := 61) hx hb dX11_seasonAt_53 (by decide) (fun c616 => ?_) (fun c616 => ?_)
        · exact absurd c616 (by decide)
        refine lv_iload hx hb dX11_seasonAt_56 (lv_at hl 3 rfl) ?_
        refine lv_if_le (tgt := 78) hx hb dX11_seasonAt_58 (by decide) (fun c617 => ?_) (fun c617 => ?_)
        · exact absurd c617 (by decide)
        refine lv_iload hx hb dX11_seasonAt_61 (lv_at hl 3 rfl) ?_
        refine lv_iload_n hx hb dX11_seasonAt_63 rfl (lv_at hl 5 rfl) ?_
        refine lv_iload hx hb dX11_seasonAt_64 (lv_at hl 0 rfl) ?_
        refine lv_ishr hx hb dX11_seasonAt_66 ?_
        refine lv_topi (fun z618 ez618 => ?_)
        obtain rfl : z618 = 13 := ez618.trans (by decide)
        refine lv_iconst (v := 1) hx hb dX11_seasonAt_67 (by decide) ?_
        refine lv_iand hx hb dX11_seasonAt_68 ?_
        refine lv_topi (fun z619 ez619 => ?_)
        obtain rfl : z619 = 1 := ez619.trans (by decide)
        refine lv_isub hx hb dX11_seasonAt_69 ?_
        refine lv_topi (fun z620 ez620 => ?_)
        obtain rfl : z620 = 1 := ez620.trans (by decide)
        refine lv_istore (lv' := [(7, .int 1), (5, .int 0), (4, .int 1), (2, .int v612), (6, .int 1), (3, .int 13), (0, .int p0), (1, .int p1)]) hx hb dX11_seasonAt_70 hl (by decide) rfl (fun ls hl => ?_)
        refine lv_iinc (v := 1) (lv' := [(5, .int 1), (7, .int 1), (4, .int 1), (2, .int v612), (6, .int 1), (3, .int 13), (0, .int p0), (1, .int p1)]) hx hb dX11_seasonAt_72 hl (k := 1) rfl (by decide) (by decide) rfl (fun ls hl => ?_)
        refine lv_goto (tgt := 47) hx hb dX11_seasonAt_75 (by decide) ?_
        refine lv_iload_n hx hb dX11_seasonAt_47 rfl (lv_at hl 5 rfl) ?_
        refine lv_iload hx hb dX11_seasonAt_48 (lv_at hl 0 rfl) ?_
        refine lv_ishr hx hb dX11_seasonAt_50 ?_
        refine lv_topi (fun z621 ez621 => ?_)
        obtain rfl : z621 = 6 := ez621.trans (by decide)
        refine lv_iconst (v := 1) hx hb dX11_seasonAt_51 (by decide) ?_
        refine lv_iand hx hb dX11_seasonAt_52 ?_
        refine lv_topi (fun z622 ez622 => ?_)
        obtain rfl : z622 = 0 := ez622.trans (by decide)
        refine lv_if_eq (tgt := 61) hx hb dX11_seasonAt_53 (by decide) (fun c623 => ?_) (fun c623 => ?_)
        rotate_left
        · exact absurd c623 (by decide)
        refine lv_iload hx hb dX11_seasonAt_61 (lv_at hl 1 rfl) ?_
        refine lv_iload_n hx hb dX11_seasonAt_63 rfl (lv_at hl 5 rfl) ?_
        refine lv_iload hx hb dX11_seasonAt_64 (lv_at hl 0 rfl) ?_
        refine lv_ishr hx hb dX11_seasonAt_66 ?_
        refine lv_topi (fun z624 ez624 => ?_)
        obtain rfl : z624 = 6 := ez624.trans (by decide)
        refine lv_iconst (v := 1) hx hb dX11_seasonAt_67 (by decide) ?_
        refine lv_iand hx hb dX11_seasonAt_68 ?_
        refine lv_topi (fun z625 ez625 => ?_)
        obtain rfl : z625 = 0 := ez625.trans (by decide)
        refine lv_isub hx hb dX11_seasonAt_69 ?_
        refine lv_topi (fun z626 ez626 => ?_)
        obtain rfl : z626 = 1 := ez626.trans (by decide)
        refine lv_istore (lv' := [(7, .int 1), (5, .int 1), (4, .int 1), (2, .int v612), (6, .int 1), (3, .int 13), (0, .int p0), (1, .int p1)]) hx hb dX11_seasonAt_70 hl (by decide) rfl (fun ls hl => ?_)
        refine lv_iinc (v := 2) (lv' := [(5, .int 2), (7, .int 1), (4, .int 1), (2, .int v612), (6, .int 1), (3, .int 13), (0, .int p0), (1, .int p1)]) hx hb dX11_seasonAt_72 hl (k := 1) rfl (by decide) (by decide) rfl (fun ls hl => ?_)
        refine lv_goto (tgt := 47) hx hb dX11_seasonAt_75 (by decide) ?_
        refine lv_iload_n hx hb dX11_seasonAt_47 rfl (lv_at hl 5 rfl) ?_
        refine lv_iload hx hb dX11_seasonAt_48 (lv_at hl 0 rfl) ?_
        refine lv_ishr hx hb dX11_seasonAt_50 ?_
        refine lv_topi (fun z627 ez627 => ?_)
        obtain rfl : z627 = 3 := ez627.trans (by decide)
        refine lv_iconst (v := 1) hx hb dX11_seasonAt_51 (by decide) ?_
        refine lv_iand hx hb dX11_seasonAt_52 ?_
        refine lv_topi (fun z628 ez628 => ?_)
        obtain rfl : z628 = 1 := ez628.trans (by decide)
        refine lv_if_eq (tgt := 61) hx hb dX11_seasonAt_53 (by decide) (fun c629 => ?_) (fun c629 => ?_)
        · exact absurd c629 (by decide)
        refine lv_iload hx hb dX11_seasonAt_56 (lv_at hl 1 rfl) ?_
        refine lv_if_le (tgt := 78) hx hb dX11_seasonAt_58 (by decide) (fun c630 => ?_) (fun c630 => ?_)
        · exact absurd c630 (by decide)
        refine lv_iload hx hb dX11_seasonAt_61 (lv_at hl 1 rfl) ?_
        refine lv_iload_n hx hb dX11_seasonAt_63 rfl (lv_at hl 5 rfl) ?_
        refine lv_iload hx hb dX11_seasonAt_64 (lv_at hl 0 rfl) ?_
        refine lv_ishr hx hb dX11_seasonAt_66 ?_
        refine lv_topi (fun z631 ez631 => ?_)
        obtain rfl : z631 = 3 := ez631.trans (by decide)
        refine lv_iconst (v := 1) hx hb dX11_seasonAt_67 (by decide) ?_
        refine lv_iand hx hb dX11_seasonAt_68 ?_
        refine lv_topi (fun z632 ez632 => ?_)
        obtain rfl : z632 = 1 := ez632.trans (by decide)
        refine lv_isub hx hb dX11_seasonAt_69 ?_
        refine lv_topi (fun z633 ez633 => ?_)
        obtain rfl : z633 = 0 := ez633.trans (by decide)
        refine lv_istore (lv' := [(7, .int 0), (5, .int 2), (4, .int 1), (2, .int v612), (6, .int 1), (3, .int 13), (0, .int p0), (1, .int p1)]) hx hb dX11_seasonAt_70 hl (by decide) rfl (fun ls hl => ?_)
        refine lv_iinc (v := 3) (lv' := [(5, .int 3), (7, .int 0), (4, .int 1), (2, .int v612), (6, .int 1), (3, .int 13), (0, .int p0), (1, .int p1)]) hx hb dX11_seasonAt_72 hl (k := 1) rfl (by decide) (by decide) rfl (fun ls hl => ?_)
        refine lv_goto (tgt := 47) hx hb dX11_seasonAt_75 (by decide) ?_
        refine lv_iload_n hx hb dX11_seasonAt_47 rfl (lv_at hl 5 rfl) ?_
        refine lv_iload hx hb dX11_seasonAt_48 (lv_at hl 0 rfl) ?_
        refine lv_ishr hx hb dX11_seasonAt_50 ?_
        refine lv_topi (fun z634 ez634 => ?_)
        obtain rfl : z634 = 1 := ez634.trans (by decide)
        refine lv_iconst (v := 1) hx hb dX11_seasonAt_51 (by decide) ?_
        refine lv_iand hx hb dX11_seasonAt_52 ?_
        refine lv_topi (fun z635 ez635 => ?_)
        obtain rfl : z635 = 1 := ez635.trans (by decide)
        refine lv_if_eq (tgt := 61) hx hb dX11_seasonAt_53 (by decide) (fun c636 => ?_) (fun c636 => ?_)
        · exact absurd c636 (by decide)
        refine lv_iload hx hb dX11_seasonAt_56 (lv_at hl 1 rfl) ?_
        refine lv_if_le (tgt := 78) hx hb dX11_seasonAt_58 (by decide) (fun c637 => ?_) (fun c637 => ?_)
        rotate_left
        · exact absurd c637 (by decide)
        refine lv_iload_n hx hb dX11_seasonAt_78 rfl (lv_at hl 5 rfl) ?_
        refine lv_iconst (v := 1) hx hb dX11_seasonAt_79 (by decide) ?_
        refine lv_iload hx hb dX11_seasonAt_80 (lv_at hl 0 rfl) ?_
        refine lv_ishl hx hb dX11_seasonAt_82 ?_
        refine lv_topi (fun z638 ez638 => ?_)
        obtain rfl : z638 = 8 := ez638.trans (by decide)
        refine lv_iconst (v := (-1)) hx hb dX11_seasonAt_83 (by decide) ?_
        refine lv_ixor hx hb dX11_seasonAt_84 ?_
        refine lv_topi (fun z639 ez639 => ?_)
        obtain rfl : z639 = (-9) := ez639.trans (by decide)
        refine lv_iand hx hb dX11_seasonAt_85 ?_
        refine lv_topi (fun z640 ez640 => ?_)
        obtain rfl : z640 = 5 := ez640.trans (by decide)
        refine lv_istore_n (lv' := [(3, .int 5), (5, .int 3), (7, .int 0), (4, .int 1), (2, .int v612), (6, .int 1), (0, .int p0), (1, .int p1)]) hx hb dX11_seasonAt_86 rfl hl (by decide) rfl (fun ls hl => ?_)
        refine lv_iinc (v := 2) (lv' := [(6, .int 2), (3, .int 5), (5, .int 3), (7, .int 0), (4, .int 1), (2, .int v612), (0, .int p0), (1, .int p1)]) hx hb dX11_seasonAt_87 hl (k := 5) rfl (by decide) (by decide) rfl (fun ls hl => ?_)
        refine lv_goto (tgt := 15) hx hb dX11_seasonAt_90 (by decide) ?_
        refine lv_iload hx hb dX11_seasonAt_15 (lv_at hl 0 rfl) ?_
        refine lv_iload_n hx hb dX11_seasonAt_17 rfl (lv_at hl 7 rfl) ?_
        refine lv_icmp_gt (tgt := 93) hx hb dX11_seasonAt_18 (by decide) (fun c641 => ?_) (fun c641 => ?_)
        · skip
          have c641 := i_lt (Eq.refl p1.toInt) (show (2 : Int32).toInt = 2 by decide) c641
          refine lv_iload hx hb dX11_seasonAt_93 (lv_at hl 2 rfl) ?_
          refine W.widen (k := 0) (n := 0) (Nat.le_of_ble_eq_true rfl) (Nat.le_of_ble_eq_true rfl) ?_
          have zi3 : (3 : Int32).toInt = 3 := by decide
          exact W.iret (v := 3) hx hb hr (fun t ht hW => ⟨⟨3, rfl, ((show (0 ≤ (3 : Int32).toInt ∧ (3 : Int32).toInt ≤ 3) by omega)), CB.nil⟩, hS.F ht⟩) hS.2.2 dX11_seasonAt_95
        · skip
          have c641 := i_nlt (Eq.refl p1.toInt) (show (2 : Int32).toInt = 2 by decide) c641
          refine lv_iload_n hx hb dX11_seasonAt_21 rfl (lv_at hl 5 rfl) ?_
          refine lv_iload hx hb dX11_seasonAt_22 (lv_at hl 4 rfl) ?_
          have zi1 : (1 : Int32).toInt = 1 := by decide
          refine lv_idiv hx hb dX11_seasonAt_24 (i_nz (show (1 : Int32).toInt = 1 by decide) (by omega)) ?_
          refine lv_topi (fun v642 ev642 => ?_)
          have hv642 := i_div (Eq.refl v612.toInt) (show (1 : Int32).toInt = 1 by decide) ev642 (by omega) (by omega)
          refine lv_istore (lv' := [(7, .int v642), (6, .int 2), (3, .int 5), (5, .int 3), (4, .int 1), (2, .int v612), (0, .int p0), (1, .int p1)]) hx hb dX11_seasonAt_25 hl (by decide) rfl (fun ls hl => ?_)
          rcases (show v642.toInt = 0 ∨ v642.toInt = 1 by omega) with c643 | c643
          · obtain rfl : v642 = 0 := i_is c643 (by decide)
            refine lv_iload_n hx hb dX11_seasonAt_27 rfl (lv_at hl 5 rfl) ?_
            refine lv_iload hx hb dX11_seasonAt_28 (lv_at hl 4 rfl) ?_
            refine lv_irem hx hb dX11_seasonAt_30 (i_nz (show (1 : Int32).toInt = 1 by decide) (by omega)) ?_
            refine lv_topi (fun v644 ev644 => ?_)
            have hv644 := i_rem (Eq.refl v612.toInt) (show (1 : Int32).toInt = 1 by decide) ev644 (by omega) (by omega)
            refine lv_istore_n (lv' := [(2, .int v644), (7, .int 0), (6, .int 2), (3, .int 5), (5, .int 3), (4, .int 1), (0, .int p0), (1, .int p1)]) hx hb dX11_seasonAt_31 rfl hl (by decide) rfl (fun ls hl => ?_)
            refine lv_iload hx hb dX11_seasonAt_32 (lv_at hl 2 rfl) ?_
            refine lv_if_ne (tgt := 41) hx hb dX11_seasonAt_34 (by decide) (fun c645 => ?_) (fun c645 => ?_)
            rotate_left
            · exact absurd c645 (by decide)
            refine lv_iconst (v := 1) hx hb dX11_seasonAt_41 (by decide) ?_
            refine lv_istore (lv' := [(4, .int 1), (2, .int v644), (7, .int 0), (6, .int 2), (3, .int 5), (5, .int 3), (0, .int p0), (1, .int p1)]) hx hb dX11_seasonAt_42 hl (by decide) rfl (fun ls hl => ?_)
            refine lv_iconst (v := 0) hx hb dX11_seasonAt_44 (by decide) ?_
            refine lv_istore (lv' := [(5, .int 0), (4, .int 1), (2, .int v644), (7, .int 0), (6, .int 2), (3, .int 5), (0, .int p0), (1, .int p1)]) hx hb dX11_seasonAt_45 hl (by decide) rfl (fun ls hl => ?_)
            refine lv_iload_n hx hb dX11_seasonAt_47 rfl (lv_at hl 5 rfl) ?_
            refine lv_iload hx hb dX11_seasonAt_48 (lv_at hl 0 rfl) ?_
            refine lv_ishr hx hb dX11_seasonAt_50 ?_
            refine lv_topi (fun z646 ez646 => ?_)
            obtain rfl : z646 = 5 := ez646.trans (by decide)
            refine lv_iconst (v := 1) hx hb dX11_seasonAt_51 (by decide) ?_
            refine lv_iand hx hb dX11_seasonAt_52 ?_
            refine lv_topi (fun z647 ez647 => ?_)
            obtain rfl : z647 = 1 := ez647.trans (by decide)
            refine lv_if_eq (tgt := 61) hx hb dX11_seasonAt_53 (by decide) (fun c648 => ?_) (fun c648 => ?_)
            · exact absurd c648 (by decide)
            refine lv_iload hx hb dX11_seasonAt_56 (lv_at hl 3 rfl) ?_
            refine lv_if_le (tgt := 78) hx hb dX11_seasonAt_58 (by decide) (fun c649 => ?_) (fun c649 => ?_)
            rotate_left
            · exact absurd c649 (by decide)
            refine lv_iload_n hx hb dX11_seasonAt_78 rfl (lv_at hl 5 rfl) ?_
            refine lv_iconst (v := 1) hx hb dX11_seasonAt_79 (by decide) ?_
            refine lv_iload hx hb dX11_seasonAt_80 (lv_at hl 0 rfl) ?_
            refine lv_ishl hx hb dX11_seasonAt_82 ?_
            refine lv_topi (fun z650 ez650 => ?_)
            obtain rfl : z650 = 1 := ez650.trans (by decide)
            refine lv_iconst (v := (-1)) hx hb dX11_seasonAt_83 (by decide) ?_
            refine lv_ixor hx hb dX11_seasonAt_84 ?_
            refine lv_topi (fun z651 ez651 => ?_)
            obtain rfl : z651 = (-2) := ez651.trans (by decide)
            refine lv_iand hx hb dX11_seasonAt_85 ?_
            refine lv_topi (fun z652 ez652 => ?_)
            obtain rfl : z652 = 4 := ez652.trans (by decide)
            refine lv_istore_n (lv' := [(3, .int 4), (5, .int 0), (4, .int 1), (2, .int v644), (7, .int 0), (6, .int 2), (0, .int p0), (1, .int p1)]) hx hb dX11_seasonAt_86 rfl hl (by decide) rfl (fun ls hl => ?_)
            refine lv_iinc (v := 3) (lv' := [(6, .int 3), (3, .int 4), (5, .int 0), (4, .int 1), (2, .int v644), (7, .int 0), (0, .int p0), (1, .int p1)]) hx hb dX11_seasonAt_87 hl (k := 5) rfl (by decide) (by decide) rfl (fun ls hl => ?_)
            refine lv_goto (tgt := 15) hx hb dX11_seasonAt_90 (by decide) ?_
            refine lv_iload hx hb dX11_seasonAt_15 (lv_at hl 0 rfl) ?_
            refine lv_iload_n hx hb dX11_seasonAt_17 rfl (lv_at hl 7 rfl) ?_
            refine lv_icmp_gt (tgt := 93) hx hb dX11_seasonAt_18 (by decide) (fun c653 => ?_) (fun c653 => ?_)
            · skip
              have c653 := i_lt (Eq.refl p1.toInt) (show (3 : Int32).toInt = 3 by decide) c653
              refine lv_iload hx hb dX11_seasonAt_93 (lv_at hl 2 rfl) ?_
              refine W.widen (k := 0) (n := 0) (Nat.le_of_ble_eq_true rfl) (Nat.le_of_ble_eq_true rfl) ?_
              have zi0 : (0 : Int32).toInt = 0 := by decide
              exact W.iret (v := 0) hx hb hr (fun t ht hW => ⟨⟨0, rfl, ((show (0 ≤ (0 : Int32).toInt ∧ (0 : Int32).toInt ≤ 3) by omega)), CB.nil⟩, hS.F ht⟩) hS.2.2 dX11_seasonAt_95
            · skip
              have c653 := i_nlt (Eq.refl p1.toInt) (show (3 : Int32).toInt = 3 by decide) c653
              refine lv_iload_n hx hb dX11_seasonAt_21 rfl (lv_at hl 4 rfl) ?_
              refine lv_iload hx hb dX11_seasonAt_22 (lv_at hl 3 rfl) ?_
              refine lv_idiv hx hb dX11_seasonAt_24 (i_nz (show (1 : Int32).toInt = 1 by decide) (by omega)) ?_
              refine lv_topi (fun v654 ev654 => ?_)
              have hv654 := i_div (Eq.refl v644.toInt) (show (1 : Int32).toInt = 1 by decide) ev654 (by omega) (by omega)
              refine lv_istore (lv' := [(7, .int v654), (6, .int 3), (3, .int 4), (5, .int 0), (4, .int 1), (2, .int v644), (0, .int p0), (1, .int p1)]) hx hb dX11_seasonAt_25 hl (by decide) rfl (fun ls hl => ?_)
              rcases (show v654.toInt = 0 by omega) with c655
              · obtain rfl : v654 = 0 := i_is c655 (by decide)
                refine lv_iload_n hx hb dX11_seasonAt_27 rfl (lv_at hl 5 rfl) ?_
                refine lv_iload hx hb dX11_seasonAt_28 (lv_at hl 4 rfl) ?_
                refine lv_irem hx hb dX11_seasonAt_30 (i_nz (show (1 : Int32).toInt = 1 by decide) (by omega)) ?_
                refine lv_topi (fun v656 ev656 => ?_)
                have hv656 := i_rem (Eq.refl v644.toInt) (show (1 : Int32).toInt = 1 by decide) ev656 (by omega) (by omega)
                refine lv_istore_n (lv' := [(2, .int v656), (7, .int 0), (6, .int 3), (3, .int 4), (5, .int 0), (4, .int 1), (0, .int p0), (1, .int p1)]) hx hb dX11_seasonAt_31 rfl hl (by decide) rfl (fun ls hl => ?_)
                refine lv_iload hx hb dX11_seasonAt_32 (lv_at hl 2 rfl) ?_
                refine lv_if_ne (tgt := 41) hx hb dX11_seasonAt_34 (by decide) (fun c657 => ?_) (fun c657 => ?_)
                rotate_left
                · exact absurd c657 (by decide)
                refine lv_iconst (v := 1) hx hb dX11_seasonAt_41 (by decide) ?_
                refine lv_istore (lv' := [(4, .int 1), (2, .int v656), (7, .int 0), (6, .int 3), (3, .int 4), (5, .int 0), (0, .int p0), (1, .int p1)]) hx hb dX11_seasonAt_42 hl (by decide) rfl (fun ls hl => ?_)
                refine lv_iconst (v := 0) hx hb dX11_seasonAt_44 (by decide) ?_
                refine lv_istore (lv' := [(5, .int 0), (4, .int 1), (2, .int v656), (7, .int 0), (6, .int 3), (3, .int 4), (0, .int p0), (1, .int p1)]) hx hb dX11_seasonAt_45 hl (by decide) rfl (fun ls hl => ?_)
                refine lv_iload_n hx hb dX11_seasonAt_47 rfl (lv_at hl 5 rfl) ?_
                refine lv_iload hx hb dX11_seasonAt_48 (lv_at hl 0 rfl) ?_
                refine lv_ishr hx hb dX11_seasonAt_50 ?_
                refine lv_topi (fun z658 ez658 => ?_)
                obtain rfl : z658 = 4 := ez658.trans (by decide)
                refine lv_iconst (v := 1) hx hb dX11_seasonAt_51 (by decide) ?_
                refine lv_iand hx hb dX11_seasonAt_52 ?_
                refine lv_topi (fun z659 ez659 => ?_)
                obtain rfl : z659 = 0 := ez659.trans (by decide)
                refine lv_if_eq (tgt := 61) hx hb dX11_seasonAt_53 (by decide) (fun c660 => ?_) (fun c660 => ?_)
                rotate_left
                · exact absurd c660 (by decide)
                refine lv_iload hx hb dX11_seasonAt_61 (lv_at hl 3 rfl) ?_
                refine lv_iload_n hx hb dX11_seasonAt_63 rfl (lv_at hl 5 rfl) ?_
                refine lv_iload hx hb dX11_seasonAt_64 (lv_at hl 0 rfl) ?_
                refine lv_ishr hx hb dX11_seasonAt_66 ?_
                refine lv_topi (fun z661 ez661 => ?_)
                obtain rfl : z661 = 4 := ez661.trans (by decide)
                refine lv_iconst (v := 1) hx hb dX11_seasonAt_67 (by decide) ?_
                refine lv_iand hx hb dX11_seasonAt_68 ?_
                refine lv_topi (fun z662 ez662 => ?_)
                obtain rfl : z662 = 0 := ez662.trans (by decide)
                refine lv_isub hx hb dX11_seasonAt_69 ?_
                refine lv_topi (fun z663 ez663 => ?_)
                obtain rfl : z663 = 0 := ez663.trans (by decide)
                refine lv_istore (lv' := [(7, .int 0), (5, .int 0), (4, .int 1), (2, .int v656), (6, .int 3), (3, .int 4), (0, .int p0), (1, .int p1)]) hx hb dX11_seasonAt_70 hl (by decide) rfl (fun ls hl => ?_)
                refine lv_iinc (v := 1) (lv' := [(5, .int 1), (7, .int 0), (4, .int 1), (2, .int v656), (6, .int 3), (3, .int 4), (0, .int p0), (1, .int p1)]) hx hb dX11_seasonAt_72 hl (k := 1) rfl (by decide) (by decide) rfl (fun ls hl => ?_)
                refine lv_goto (tgt := 47) hx hb dX11_seasonAt_75 (by decide) ?_
                refine lv_iload_n hx hb dX11_seasonAt_47 rfl (lv_at hl 5 rfl) ?_
                refine lv_iload hx hb dX11_seasonAt_48 (lv_at hl 0 rfl) ?_
                refine lv_ishr hx hb dX11_seasonAt_50 ?_
                refine lv_topi (fun z664 ez664 => ?_)
                obtain rfl : z664 = 2 := ez664.trans (by decide)
                refine lv_iconst (v := 1) hx hb dX11_seasonAt_51 (by decide) ?_
                refine lv_iand hx hb dX11_seasonAt_52 ?_
                refine lv_topi (fun z665 ez665 => ?_)
                obtain rfl : z665 = 0 := ez665.trans (by decide)
                refine lv_if_eq (tgt := 61) hx hb dX11_seasonAt_53 (by decide) (fun c666 => ?_) (fun c666 => ?_)
                rotate_left
                · exact absurd c666 (by decide)
                refine lv_iload hx hb dX11_seasonAt_61 (lv_at hl 1 rfl) ?_
                refine lv_iload_n hx hb dX11_seasonAt_63 rfl (lv_at hl 5 rfl) ?_
                refine lv_iload hx hb dX11_seasonAt_64 (lv_at hl 0 rfl) ?_
                refine lv_ishr hx hb dX11_seasonAt_66 ?_
                refine lv_topi (fun z667 ez667 => ?_)
                obtain rfl : z667 = 2 := ez667.trans (by decide)
                refine lv_iconst (v := 1) hx hb dX11_seasonAt_67 (by decide) ?_
                refine lv_iand hx hb dX11_seasonAt_68 ?_
                refine lv_topi (fun z668 ez668 => ?_)
                obtain rfl : z668 = 0 := ez668.trans (by decide)
                refine lv_isub hx hb dX11_seasonAt_69 ?_
                refine lv_topi (fun z669 ez669 => ?_)
                obtain rfl : z669 = 0 := ez669.trans (by decide)
                refine lv_istore (lv' := [(7, .int 0), (5, .int 1), (4, .int 1), (2, .int v656), (6, .int 3), (3, .int 4), (0, .int p0), (1, .int p1)]) hx hb dX11_seasonAt_70 hl (by decide) rfl (fun ls hl => ?_)
                refine lv_iinc (v := 2) (lv' := [(5, .int 2), (7, .int 0), (4, .int 1), (2, .int v656), (6, .int 3), (3, .int 4), (0, .int p0), (1, .int p1)]) hx hb dX11_seasonAt_72 hl (k := 1) rfl (by decide) (by decide) rfl (fun ls hl => ?_)
                refine lv_goto (tgt := 47) hx hb dX11_seasonAt_75 (by decide) ?_
                refine lv_iload_n hx hb dX11_seasonAt_47 rfl (lv_at hl 5 rfl) ?_
                refine lv_iload hx hb dX11_seasonAt_48 (lv_at hl 0 rfl) ?_
                refine lv_ishr hx hb dX11_seasonAt_50 ?_
                refine lv_topi (fun z670 ez670 => ?_)
                obtain rfl : z670 = 1 := ez670.trans (by decide)
                refine lv_iconst (v := 1) hx hb dX11_seasonAt_51 (by decide) ?_
                refine lv_iand hx hb dX11_seasonAt_52 ?_
                refine lv_topi (fun z671 ez671 => ?_)
                obtain rfl : z671 = 1 := ez671.trans (by decide)
                refine lv_if_eq (tgt := 61) hx hb dX11_seasonAt_53 (by decide) (fun c672 => ?_) (fun c672 => ?_)
                · exact absurd c672 (by decide)
                refine lv_iload hx hb dX11_seasonAt_56 (lv_at hl 1 rfl) ?_
                refine lv_if_le (tgt := 78) hx hb dX11_seasonAt_58 (by decide) (fun c673 => ?_) (fun c673 => ?_)
                rotate_left
                · exact absurd c673 (by decide)
                refine lv_iload_n hx hb dX11_seasonAt_78 rfl (lv_at hl 5 rfl) ?_
                refine lv_iconst (v := 1) hx hb dX11_seasonAt_79 (by decide) ?_
                refine lv_iload hx hb dX11_seasonAt_80 (lv_at hl 0 rfl) ?_
                refine lv_ishl hx hb dX11_seasonAt_82 ?_
                refine lv_topi (fun z674 ez674 => ?_)
                obtain rfl : z674 = 4 := ez674.trans (by decide)
                refine lv_iconst (v := (-1)) hx hb dX11_seasonAt_83 (by decide) ?_
                refine lv_ixor hx hb dX11_seasonAt_84 ?_
                refine lv_topi (fun z675 ez675 => ?_)
                obtain rfl : z675 = (-5) := ez675.trans (by decide)
                refine lv_iand hx hb dX11_seasonAt_85 ?_
                refine lv_topi (fun z676 ez676 => ?_)
                obtain rfl : z676 = 0 := ez676.trans (by decide)
                refine lv_istore_n (lv' := [(3, .int 0), (5, .int 2), (7, .int 0), (4, .int 1), (2, .int v656), (6, .int 3), (0, .int p0), (1, .int p1)]) hx hb dX11_seasonAt_86 rfl hl (by decide) rfl (fun ls hl => ?_)
                refine lv_iinc (v := 4) (lv' := [(6, .int 4), (3, .int 0), (5, .int 2), (7, .int 0), (4, .int 1), (2, .int v656), (0, .int p0), (1, .int p1)]) hx hb dX11_seasonAt_87 hl (k := 5) rfl (by decide) (by decide) rfl (fun ls hl => ?_)
                refine lv_goto (tgt := 15) hx hb dX11_seasonAt_90 (by decide) ?_
                refine lv_iload hx hb dX11_seasonAt_15 (lv_at hl 0 rfl) ?_
                refine lv_iload_n hx hb dX11_seasonAt_17 rfl (lv_at hl 7 rfl) ?_
                refine lv_icmp_gt (tgt := 93) hx hb dX11_seasonAt_18 (by decide) (fun c677 => ?_) (fun c677 => ?_)
                rotate_left
                · have c677 := i_nlt (Eq.refl p1.toInt) (show (4 : Int32).toInt = 4 by decide) c677; exfalso; omega
                have c677 := i_lt (Eq.refl p1.toInt) (show (4 : Int32).toInt = 4 by decide) c677
                refine lv_iload hx hb dX11_seasonAt_93 (lv_at hl 2 rfl) ?_
                refine W.widen (k := 0) (n := 0) (Nat.le_of_ble_eq_true rfl) (Nat.le_of_ble_eq_true rfl) ?_
                exact W.iret (v := 2) hx hb hr (fun t ht hW => ⟨⟨2, rfl, ((show (0 ≤ (2 : Int32).toInt ∧ (2 : Int32).toInt ≤ 3) by omega)), CB.nil⟩, hS.F ht⟩) hS.2.2 dX11_seasonAt_95
          · obtain rfl : v642 = 1 := i_is c643 (by decide)
            refine lv_iload_n hx hb dX11_seasonAt_27 rfl (lv_at hl 5 rfl) ?_
            refine lv_iload hx hb dX11_seasonAt_28 (lv_at hl 4 rfl) ?_
            refine lv_irem hx hb dX11_seasonAt_30 (i_nz (show (1 : Int32).toInt = 1 by decide) (by omega)) ?_
            refine lv_topi (fun v678 ev678 => ?_)
            have hv678 := i_rem (Eq.refl v612.toInt) (show (1 : Int32).toInt = 1 by decide) ev678 (by omega) (by omega)
            refine lv_istore_n (lv' := [(2, .int v678), (7, .int 1), (6, .int 2), (3, .int 5), (5, .int 3), (4, .int 1), (0, .int p0), (1, .int p1)]) hx hb dX11_seasonAt_31 rfl hl (by decide) rfl (fun ls hl => ?_)
            refine lv_iload hx hb dX11_seasonAt_32 (lv_at hl 2 rfl) ?_
            refine lv_if_ne (tgt := 41) hx hb dX11_seasonAt_34 (by decide) (fun c679 => ?_) (fun c679 => ?_)
            rotate_left
            · exact absurd c679 (by decide)
            refine lv_iconst (v := 1) hx hb dX11_seasonAt_41 (by decide) ?_
            refine lv_istore (lv' := [(4, .int 1), (2, .int v678), (7, .int 1), (6, .int 2), (3, .int 5), (5, .int 3), (0, .int p0), (1, .int p1)]) hx hb dX11_seasonAt_42 hl (by decide) rfl (fun ls hl => ?_)
            refine lv_iconst (v := 0) hx hb dX11_seasonAt_44 (by decide) ?_
            refine lv_istore (lv' := [(5, .int 0), (4, .int 1), (2, .int v678), (7, .int 1), (6, .int 2), (3, .int 5), (0, .int p0), (1, .int p1)]) hx hb dX11_seasonAt_45 hl (by decide) rfl (fun ls hl => ?_)
            refine lv_iload_n hx hb dX11_seasonAt_47 rfl (lv_at hl 5 rfl) ?_
            refine lv_iload hx hb dX11_seasonAt_48 (lv_at hl 0 rfl) ?_
            refine lv_ishr hx hb dX11_seasonAt_50 ?_
            refine lv_topi (fun z680 ez680 => ?_)
            obtain rfl : z680 = 5 := ez680.trans (by decide)
            refine lv_iconst (v := 1) hx hb dX11_seasonAt_51 (by decide) ?_
            refine lv_iand hx hb dX11_seasonAt_52 ?_
            refine lv_topi (fun z681 ez681 => ?_)
            obtain rfl : z681 = 1 := ez681.trans (by decide)
            refine lv_if_eq (tgt := 61) hx hb dX11_seasonAt_53 (by decide) (fun c682 => ?_) (fun c682 => ?_)
            · exact absurd c682 (by decide)
            refine lv_iload hx hb dX11_seasonAt_56 (lv_at hl 3 rfl) ?_
            refine lv_if_le (tgt := 78) hx hb dX11_seasonAt_58 (by decide) (fun c683 => ?_) (fun c683 => ?_)
            · exact absurd c683 (by decide)
            refine lv_iload hx hb dX11_seasonAt_61 (lv_at hl 3 rfl) ?_
            refine lv_iload_n hx hb dX11_seasonAt_63 rfl (lv_at hl 5 rfl) ?_
            refine lv_iload hx hb dX11_seasonAt_64 (lv_at hl 0 rfl) ?_
            refine lv_ishr hx hb dX11_seasonAt_66 ?_
            refine lv_topi (fun z684 ez684 => ?_)
            obtain rfl : z684 = 5 := ez684.trans (by decide)
            refine lv_iconst (v := 1) hx hb dX11_seasonAt_67 (by decide) ?_
            refine lv_iand hx hb dX11_seasonAt_68 ?_
            refine lv_topi (fun z685 ez685 => ?_)
            obtain rfl : z685 = 1 := ez685.trans (by decide)
            refine lv_isub hx hb dX11_seasonAt_69 ?_
            refine lv_topi (fun z686 ez686 => ?_)
            obtain rfl : z686 = 0 := ez686.trans (by decide)
            refine lv_istore (lv' := [(7, .int 0), (5, .int 0), (4, .int 1), (2, .int v678), (6, .int 2), (3, .int 5), (0, .int p0), (1, .int p1)]) hx hb dX11_seasonAt_70 hl (by decide) rfl (fun ls hl => ?_)
            refine lv_iinc (v := 1) (lv' := [(5, .int 1), (7, .int 0), (4, .int 1), (2, .int v678), (6, .int 2), (3, .int 5), (0, .int p0), (1, .int p1)]) hx hb dX11_seasonAt_72 hl (k := 1) rfl (by decide) (by decide) rfl (fun ls hl => ?_)
            refine lv_goto (tgt := 47) hx hb dX11_seasonAt_75 (by decide) ?_
            refine lv_iload_n hx hb dX11_seasonAt_47 rfl (lv_at hl 5 rfl) ?_
            refine lv_iload hx hb dX11_seasonAt_48 (lv_at hl 0 rfl) ?_
            refine lv_ishr hx hb dX11_seasonAt_50 ?_
            refine lv_topi (fun z687 ez687 => ?_)
            obtain rfl : z687 = 2 := ez687.trans (by decide)
            refine lv_iconst (v := 1) hx hb dX11_seasonAt_51 (by decide) ?_
            refine lv_iand hx hb dX11_seasonAt_52 ?_
            refine lv_topi (fun z688 ez688 => ?_)
            obtain rfl : z688 = 0 := ez688.trans (by decide)
            refine lv_if_eq (tgt := 61) hx hb dX11_seasonAt_53 (by decide) (fun c689 => ?_) (fun c689 => ?_)
            rotate_left
            · exact absurd c689 (by decide)
            refine lv_iload hx hb dX11_seasonAt_61 (lv_at hl 1 rfl) ?_
            refine lv_iload_n hx hb dX11_seasonAt_63 rfl (lv_at hl 5 rfl) ?_
            refine lv_iload hx hb dX11_seasonAt_64 (lv_at hl 0 rfl) ?_
            refine lv_ishr hx hb dX11_seasonAt_66 ?_
            refine lv_topi (fun z690 ez690 => ?_)
            obtain rfl : z690 = 2 := ez690.trans (by decide)
            refine lv_iconst (v := 1) hx hb dX11_seasonAt_67 (by decide) ?_
            refine lv_iand hx hb dX11_seasonAt_68 ?_
            refine lv_topi (fun z691 ez691 => ?_)
            obtain rfl : z691 = 0 := ez691.trans (by decide)
            refine lv_isub hx hb dX11_seasonAt_69 ?_
            refine lv_topi (fun z692 ez692 => ?_)
            obtain rfl : z692 = 0 := ez692.trans (by decide)
            refine lv_istore (lv' := [(7, .int 0), (5, .int 1), (4, .int 1), (2, .int v678), (6, .int 2), (3, .int 5), (0, .int p0), (1, .int p1)]) hx hb dX11_seasonAt_70 hl (by decide) rfl (fun ls hl => ?_)
            refine lv_iinc (v := 2) (lv' := [(5, .int 2), (7, .int 0), (4, .int 1), (2, .int v678), (6, .int 2), (3, .int 5), (0, .int p0), (1, .int p1)]) hx hb dX11_seasonAt_72 hl (k := 1) rfl (by decide) (by decide) rfl (fun ls hl => ?_)
            refine lv_goto (tgt := 47) hx hb dX11_seasonAt_75 (by decide) ?_
            refine lv_iload_n hx hb dX11_seasonAt_47 rfl (lv_at hl 5 rfl) ?_
            refine lv_iload hx hb dX11_seasonAt_48 (lv_at hl 0 rfl) ?_
            refine lv_ishr hx hb dX11_seasonAt_50 ?_
            refine lv_topi (fun z693 ez693 => ?_)
            obtain rfl : z693 = 1 := ez693.trans (by decide)
            refine lv_iconst (v := 1) hx hb dX11_seasonAt_51 (by decide) ?_
            refine lv_iand hx hb dX11_seasonAt_52 ?_
            refine lv_topi (fun z694 ez694 => ?_)
            obtain rfl : z694 = 1 := ez694.trans (by decide)
            refine lv_if_eq (tgt := 61) hx hb dX11_seasonAt_53 (by decide) (fun c695 => ?_) (fun c695 => ?_)
            · exact absurd c695 (by decide)
            refine lv_iload hx hb dX11_seasonAt_56 (lv_at hl 1 rfl) ?_
            refine lv_if_le (tgt := 78) hx hb dX11_seasonAt_58 (by decide) (fun c696 => ?_) (fun c696 => ?_)
            rotate_left
            · exact absurd c696 (by decide)
            refine lv_iload_n hx hb dX11_seasonAt_78 rfl (lv_at hl 5 rfl) ?_
            refine lv_iconst (v := 1) hx hb dX11_seasonAt_79 (by decide) ?_
            refine lv_iload hx hb dX11_seasonAt_80 (lv_at hl 0 rfl) ?_
            refine lv_ishl hx hb dX11_seasonAt_82 ?_
            refine lv_topi (fun z697 ez697 => ?_)
            obtain rfl : z697 = 4 := ez697.trans (by decide)
            refine lv_iconst (v := (-1)) hx hb dX11_seasonAt_83 (by decide) ?_
            refine lv_ixor hx hb dX11_seasonAt_84 ?_
            refine lv_topi (fun z698 ez698 => ?_)
            obtain rfl : z698 = (-5) := ez698.trans (by decide)
            refine lv_iand hx hb dX11_seasonAt_85 ?_
            refine lv_topi (fun z699 ez699 => ?_)
            obtain rfl : z699 = 1 := ez699.trans (by decide)
            refine lv_istore_n (lv' := [(3, .int 1), (5, .int 2), (7, .int 0), (4, .int 1), (2, .int v678), (6, .int 2), (0, .int p0), (1, .int p1)]) hx hb dX11_seasonAt_86 rfl hl (by decide) rfl (fun ls hl => ?_)
            refine lv_iinc (v := 3) (lv' := [(6, .int 3), (3, .int 1), (5, .int 2), (7, .int 0), (4, .int 1), (2, .int v678), (0, .int p0), (1, .int p1)]) hx hb dX11_seasonAt_87 hl (k := 5) rfl (by decide) (by decide) rfl (fun ls hl => ?_)
            refine lv_goto (tgt := 15) hx hb dX11_seasonAt_90 (by decide) ?_
            refine lv_iload hx hb dX11_seasonAt_15 (lv_at hl 0 rfl) ?_
            refine lv_iload_n hx hb dX11_seasonAt_17 rfl (lv_at hl 7 rfl) ?_
            refine lv_icmp_gt (tgt := 93) hx hb dX11_seasonAt_18 (by decide) (fun c700 => ?_) (fun c700 => ?_)
            · skip
              have c700 := i_lt (Eq.refl p1.toInt) (show (3 : Int32).toInt = 3 by decide) c700
              refine lv_iload hx hb dX11_seasonAt_93 (lv_at hl 2 rfl) ?_
              refine W.widen (k := 0) (n := 0) (Nat.le_of_ble_eq_true rfl) (Nat.le_of_ble_eq_true rfl) ?_
              exact W.iret (v := 2) hx hb hr (fun t ht hW => ⟨⟨2, rfl, ((show (0 ≤ (2 : Int32).toInt ∧ (2 : Int32).toInt ≤ 3) by omega)), CB.nil⟩, hS.F ht⟩) hS.2.2 dX11_seasonAt_95
            · skip
              have c700 := i_nlt (Eq.refl p1.toInt) (show (3 : Int32).toInt = 3 by decide) c700
              refine lv_iload_n hx hb dX11_seasonAt_21 rfl (lv_at hl 5 rfl) ?_
              refine lv_iload hx hb dX11_seasonAt_22 (lv_at hl 4 rfl) ?_
              refine lv_idiv hx hb dX11_seasonAt_24 (i_nz (show (1 : Int32).toInt = 1 by decide) (by omega)) ?_
              refine lv_topi (fun v701 ev701 => ?_)
              have hv701 := i_div (Eq.refl v678.toInt) (show (1 : Int32).toInt = 1 by decide) ev701 (by omega) (by omega)
              refine lv_istore (lv' := [(7, .int v701), (6, .int 3), (3, .int 1), (5, .int 2), (4, .int 1), (2, .int v678), (0, .int p0), (1, .int p1)]) hx hb dX11_seasonAt_25 hl (by decide) rfl (fun ls hl => ?_)
              rcases (show v701.toInt = 0 by omega) with c702
              · obtain rfl : v701 = 0 := i_is c702 (by decide)
                refine lv_iload_n hx hb dX11_seasonAt_27 rfl (lv_at hl 5 rfl) ?_
                refine lv_iload hx hb dX11_seasonAt_28 (lv_at hl 4 rfl) ?_
                refine lv_irem hx hb dX11_seasonAt_30 (i_nz (show (1 : Int32).toInt = 1 by decide) (by omega)) ?_
                refine lv_topi (fun v703 ev703 => ?_)
                have hv703 := i_rem (Eq.refl v678.toInt) (show (1 : Int32).toInt = 1 by decide) ev703 (by omega) (by omega)
                refine lv_istore_n (lv' := [(2, .int v703), (7, .int 0), (6, .int 3), (3, .int 1), (5, .int 2), (4, .int 1), (0, .int p0), (1, .int p1)]) hx hb dX11_seasonAt_31 rfl hl (by decide) rfl (fun ls hl => ?_)
                refine lv_iload hx hb dX11_seasonAt_32 (lv_at hl 2 rfl) ?_
                refine lv_if_ne (tgt := 41) hx hb dX11_seasonAt_34 (by decide) (fun c704 => ?_) (fun c704 => ?_)
                rotate_left
                · exact absurd c704 (by decide)
                refine lv_iconst (v := 1) hx hb dX11_seasonAt_41 (by decide) ?_
                refine lv_istore (lv' := [(4, .int 1), (2, .int v703), (7, .int 0), (6, .int 3), (3, .int 1), (5, .int 2), (0, .int p0), (1, .int p1)]) hx hb dX11_seasonAt_42 hl (by decide) rfl (fun ls hl => ?_)
                refine lv_iconst (v := 0) hx hb dX11_seasonAt_44 (by decide) ?_
                refine lv_istore (lv' := [(5, .int 0), (4, .int 1), (2, .int v703), (7, .int 0), (6, .int 3), (3, .int 1), (0, .int p0), (1, .int p1)]) hx hb dX11_seasonAt_45 hl (by decide) rfl (fun ls hl => ?_)
                refine lv_iload_n hx hb dX11_seasonAt_47 rfl (lv_at hl 5 rfl) ?_
                refine lv_iload hx hb dX11_seasonAt_48 (lv_at hl 0 rfl) ?_
                refine lv_ishr hx hb dX11_seasonAt_50 ?_
                refine lv_topi (fun z705 ez705 => ?_)
                obtain rfl : z705 = 1 := ez705.trans (by decide)
                refine lv_iconst (v := 1) hx hb dX11_seasonAt_51 (by decide) ?_
                refine lv_iand hx hb dX11_seasonAt_52 ?_
                refine lv_topi (fun z706 ez706 => ?_)
                obtain rfl : z706 = 1 := ez706.trans (by decide)
                refine lv_if_eq (tgt := 61) hx hb dX11_seasonAt_53 (by decide) (fun c707 => ?_) (fun c707 => ?_)
                · exact absurd c707 (by decide)
                refine lv_iload hx hb dX11_seasonAt_56 (lv_at hl 3 rfl) ?_
                refine lv_if_le (tgt := 78) hx hb dX11_seasonAt_58 (by decide) (fun c708 => ?_) (fun c708 => ?_)
                rotate_left
                · exact absurd c708 (by decide)
                refine lv_iload_n hx hb dX11_seasonAt_78 rfl (lv_at hl 5 rfl) ?_
                refine lv_iconst (v := 1) hx hb dX11_seasonAt_79 (by decide) ?_
                refine lv_iload hx hb dX11_seasonAt_80 (lv_at hl 0 rfl) ?_
                refine lv_ishl hx hb dX11_seasonAt_82 ?_
                refine lv_topi (fun z709 ez709 => ?_)
                obtain rfl : z709 = 1 := ez709.trans (by decide)
                refine lv_iconst (v := (-1)) hx hb dX11_seasonAt_83 (by decide) ?_
                refine lv_ixor hx hb dX11_seasonAt_84 ?_
                refine lv_topi (fun z710 ez710 => ?_)
                obtain rfl : z710 = (-2) := ez710.trans (by decide)
                refine lv_iand hx hb dX11_seasonAt_85 ?_
                refine lv_topi (fun z711 ez711 => ?_)
                obtain rfl : z711 = 0 := ez711.trans (by decide)
                refine lv_istore_n (lv' := [(3, .int 0), (5, .int 0), (4, .int 1), (2, .int v703), (7, .int 0), (6, .int 3), (0, .int p0), (1, .int p1)]) hx hb dX11_seasonAt_86 rfl hl (by decide) rfl (fun ls hl => ?_)
                refine lv_iinc (v := 4) (lv' := [(6, .int 4), (3, .int 0), (5, .int 0), (4, .int 1), (2, .int v703), (7, .int 0), (0, .int p0), (1, .int p1)]) hx hb dX11_seasonAt_87 hl (k := 5) rfl (by decide) (by decide) rfl (fun ls hl => ?_)
                refine lv_goto (tgt := 15) hx hb dX11_seasonAt_90 (by decide) ?_
                refine lv_iload hx hb dX11_seasonAt_15 (lv_at hl 0 rfl) ?_
                refine lv_iload_n hx hb dX11_seasonAt_17 rfl (lv_at hl 7 rfl) ?_
                refine lv_icmp_gt (tgt := 93) hx hb dX11_seasonAt_18 (by decide) (fun c712 => ?_) (fun c712 => ?_)
                rotate_left
                · have c712 := i_nlt (Eq.refl p1.toInt) (show (4 : Int32).toInt = 4 by decide) c712; exfalso; omega
                have c712 := i_lt (Eq.refl p1.toInt) (show (4 : Int32).toInt = 4 by decide) c712
                refine lv_iload hx hb dX11_seasonAt_93 (lv_at hl 2 rfl) ?_
                refine W.widen (k := 0) (n := 0) (Nat.le_of_ble_eq_true rfl) (Nat.le_of_ble_eq_true rfl) ?_
                have zi0 : (0 : Int32).toInt = 0 := by decide
                exact W.iret (v := 0) hx hb hr (fun t ht hW => ⟨⟨0, rfl, ((show (0 ≤ (0 : Int32).toInt ∧ (0 : Int32).toInt ≤ 3) by omega)), CB.nil⟩, hS.F ht⟩) hS.2.2 dX11_seasonAt_95
  · obtain rfl : v2 = 2 := i_is c3 (by decide)
    refine lv_iload_n hx hb dX11_seasonAt_27 rfl (lv_at hl 5 rfl) ?_
    refine lv_iload hx hb dX11_seasonAt_28 (lv_at hl 3 rfl) ?_
    refine lv_irem hx hb dX11_seasonAt_30 (i_nz (show (6 : Int32).toInt = 6 by decide) (by omega)) ?_
    refine lv_topi (fun v713 ev713 => ?_)
    have hv713 := i_rem (Eq.refl p0.toInt) (show (6 : Int32).toInt = 6 by decide) ev713 (by omega) (by omega)
    refine lv_istore_n (lv' := [(2, .int v713), (7, .int 2), (6, .int 0), (5, .int 0), (4, .int 6), (3, .int 15), (0, .int p0), (1, .int p1)]) hx hb dX11_seasonAt_31 rfl hl (by decide) rfl (fun ls hl => ?_)
    refine lv_iload hx hb dX11_seasonAt_32 (lv_at hl 2 rfl) ?_
    refine lv_if_ne (tgt := 41) hx hb dX11_seasonAt_34 (by decide) (fun c714 => ?_) (fun c714 => ?_)
    · exact absurd c714 (by decide)
    refine lv_iconst (v := 2) hx hb dX11_seasonAt_37 (by decide) ?_
    refine lv_goto (tgt := 42) hx hb dX11_seasonAt_38 (by decide) ?_
    refine lv_istore (lv' := [(4, .int 2), (2, .int v713), (7, .int 2), (6, .int 0), (5, .int 0), (3, .int 15), (0, .int p0), (1, .int p1)]) hx hb dX11_seasonAt_42 hl (by decide) rfl (fun ls hl => ?_)
    refine lv_iconst (v := 0) hx hb dX11_seasonAt_44 (by decide) ?_
    refine lv_istore (lv' := [(5, .int 0), (4, .int 2), (2, .int v713), (7, .int 2), (6, .int 0), (3, .int 15), (0, .int p0), (1, .int p1)]) hx hb dX11_seasonAt_45 hl (by decide) rfl (fun ls hl => ?_)
    refine lv_iload_n hx hb dX11_seasonAt_47 rfl (lv_at hl 5 rfl) ?_
    refine lv_iload hx hb dX11_seasonAt_48 (lv_at hl 0 rfl) ?_
    refine lv_ishr hx hb dX11_seasonAt_50 ?_
    refine lv_topi (fun z715 ez715 => ?_)
    obtain rfl : z715 = 15 := ez715.trans (by decide)
    refine lv_iconst (v := 1) hx hb dX11_seasonAt_51 (by decide) ?_
    refine lv_iand hx hb dX11_seasonAt_52 ?_
    refine lv_topi (fun z716 ez716 => ?_)
    obtain rfl : z716 = 1 := ez716.trans (by decide)
    refine lv_if_eq (tgt := 61) hx hb dX11_seasonAt_53 (by decide) (fun c717 => ?_) (fun c717 => ?_)
    · exact absurd c717 (by decide)
    refine lv_iload hx hb dX11_seasonAt_56 (lv_at hl 3 rfl) ?_
    refine lv_if_le (tgt := 78) hx hb dX11_seasonAt_58 (by decide) (fun c718 => ?_) (fun c718 => ?_)
    · exact absurd c718 (by decide)
    refine lv_iload hx hb dX11_seasonAt_61 (lv_at hl 3 rfl) ?_
    refine lv_iload_n hx hb dX11_seasonAt_63 rfl (lv_at hl 5 rfl) ?_
    refine lv_iload hx hb dX11_seasonAt_64 (lv_at hl 0 rfl) ?_
    refine lv_ishr hx hb dX11_seasonAt_66 ?_
    refine lv_topi (fun z719 ez719 => ?_)
    obtain rfl : z719 = 15 := ez719.trans (by decide)
    refine lv_iconst (v := 1) hx hb dX11_seasonAt_67 (by decide) ?_
    refine lv_iand hx hb dX11_seasonAt_68 ?_
    refine lv_topi (fun z720 ez720 => ?_)
    obtain rfl : z720 = 1 := ez720.trans (by decide)
    refine lv_isub hx hb dX11_seasonAt_69 ?_
    refine lv_topi (fun z721 ez721 => ?_)
    obtain rfl : z721 = 1 := ez721.trans (by decide)
    refine lv_istore (lv' := [(7, .int 1), (5, .int 0), (4, .int 2), (2, .int v713), (6, .int 0), (3, .int 15), (0, .int p0), (1, .int p1)]) hx hb dX11_seasonAt_70 hl (by decide) rfl (fun ls hl => ?_)
    refine lv_iinc (v := 1) (lv' := [(5, .int 1), (7, .int 1), (4, .int 2), (2, .int v713), (6, .int 0), (3, .int 15), (0, .int p0), (1, .int p1)]) hx hb dX11_seasonAt_72 hl (k := 1) rfl (by decide) (by decide) rfl (fun ls hl => ?_)
    refine lv_goto (tgt := 47) hx hb dX11_seasonAt_75 (by decide) ?_
    refine lv_iload_n hx hb dX11_seasonAt_47 rfl (lv_at hl 5 rfl) ?_
    refine lv_iload hx hb dX11_seasonAt_48 (lv_at hl 0 rfl) ?_
    refine lv_ishr hx hb dX11_seasonAt_50 ?_
    refine lv_topi (fun z722 ez722 => ?_)
    obtain rfl : z722 = 7 := ez722.trans (by decide)
    refine lv_iconst (v := 1) hx hb dX11_seasonAt_51 (by decide) ?_
    refine lv_iand hx hb dX11_seasonAt_52 ?_
    refine lv_topi (fun z723 ez723 => ?_)
    obtain rfl : z723 = 1 := ez723.trans (by decide)
    refine lv_if_eq (tgt := 61) hx hb dX11_seasonAt_53 (by decide) (fun c724 => ?_) (fun c724 => ?_)
    · exact absurd c724 (by decide)
    refine lv_iload hx hb dX11_seasonAt_56 (lv_at hl 1 rfl) ?_
    refine lv_if_le (tgt := 78) hx hb dX11_seasonAt_58 (by decide) (fun c725 => ?_) (fun c725 => ?_)
    · exact absurd c725 (by decide)
    refine lv_iload hx hb dX11_seasonAt_61 (lv_at hl 1 rfl) ?_
    refine lv_iload_n hx hb dX11_seasonAt_63 rfl (lv_at hl 5 rfl) ?_
    refine lv_iload hx hb dX11_seasonAt_64 (lv_at hl 0 rfl) ?_
    refine lv_ishr hx hb dX11_seasonAt_66 ?_
    refine lv_topi (fun z726 ez726 => ?_)
    obtain rfl : z726 = 7 := ez726.trans (by decide)
    refine lv_iconst (v := 1) hx hb dX11_seasonAt_67 (by decide) ?_
    refine lv_iand hx hb dX11_seasonAt_68 ?_
    refine lv_topi (fun z727 ez727 => ?_)
    obtain rfl : z727 = 1 := ez727.trans (by decide)
    refine lv_isub hx hb dX11_seasonAt_69 ?_
    refine lv_topi (fun z728 ez728 => ?_)
    obtain rfl : z728 = 0 := ez728.trans (by decide)
    refine lv_istore (lv' := [(7, .int 0), (5, .int 1), (4, .int 2), (2, .int v713), (6, .int 0), (3, .int 15), (0, .int p0), (1, .int p1)]) hx hb dX11_seasonAt_70 hl (by decide) rfl (fun ls hl => ?_)
    refine lv_iinc (v := 2) (lv' := [(5, .int 2), (7, .int 0), (4, .int 2), (2, .int v713), (6, .int 0), (3, .int 15), (0, .int p0), (1, .int p1)]) hx hb dX11_seasonAt_72 hl (k := 1) rfl (by decide) (by decide) rfl (fun ls hl => ?_)
    refine lv_goto (tgt := 47) hx hb dX11_seasonAt_75 (by decide) ?_
    refine lv_iload_n hx hb dX11_seasonAt_47 rfl (lv_at hl 5 rfl) ?_
    refine lv_iload hx hb dX11_seasonAt_48 (lv_at hl 0 rfl) ?_
    refine lv_ishr hx hb dX11_seasonAt_50 ?_
    refine lv_topi (fun z729 ez729 => ?_)
    obtain rfl : z729 = 3 := ez729.trans (by decide)
    refine lv_iconst (v := 1) hx hb dX11_seasonAt_51 (by decide) ?_
    refine lv_iand hx hb dX11_seasonAt_52 ?_
    refine lv_topi (fun z730 ez730 => ?_)
    obtain rfl : z730 = 1 := ez730.trans (by decide)
    refine lv_if_eq (tgt := 61) hx hb dX11_seasonAt_53 (by decide) (fun c731 => ?_) (fun c731 => ?_)
    · exact absurd c731 (by decide)
    refine lv_iload hx hb dX11_seasonAt_56 (lv_at hl 1 rfl) ?_
    refine lv_if_le (tgt := 78) hx hb dX11_seasonAt_58 (by decide) (fun c732 => ?_) (fun c732 => ?_)
    rotate_left
    · exact absurd c732 (by decide)
    refine lv_iload_n hx hb dX11_seasonAt_78 rfl (lv_at hl 5 rfl) ?_
    refine lv_iconst (v := 1) hx hb dX11_seasonAt_79 (by decide) ?_
    refine lv_iload hx hb dX11_seasonAt_80 (lv_at hl 0 rfl) ?_
    refine lv_ishl hx hb dX11_seasonAt_82 ?_
    refine lv_topi (fun z733 ez733 => ?_)
    obtain rfl : z733 = 4 := ez733.trans (by decide)
    refine lv_iconst (v := (-1)) hx hb dX11_seasonAt_83 (by decide) ?_
    refine lv_ixor hx hb dX11_seasonAt_84 ?_
    refine lv_topi (fun z734 ez734 => ?_)
    obtain rfl : z734 = (-5) := ez734.trans (by decide)
    refine lv_iand hx hb dX11_seasonAt_85 ?_
    refine lv_topi (fun z735 ez735 => ?_)
    obtain rfl : z735 = 11 := ez735.trans (by decide)
    refine lv_istore_n (lv' := [(3, .int 11), (5, .int 2), (7, .int 0), (4, .int 2), (2, .int v713), (6, .int 0), (0, .int p0), (1, .int p1)]) hx hb dX11_seasonAt_86 rfl hl (by decide) rfl (fun ls hl => ?_)
    refine lv_iinc (v := 1) (lv' := [(6, .int 1), (3, .int 11), (5, .int 2), (7, .int 0), (4, .int 2), (2, .int v713), (0, .int p0), (1, .int p1)]) hx hb dX11_seasonAt_87 hl (k := 5) rfl (by decide) (by decide) rfl (fun ls hl => ?_)
    refine lv_goto (tgt := 15) hx hb dX11_seasonAt_90 (by decide) ?_
    refine lv_iload hx hb dX11_seasonAt_15 (lv_at hl 0 rfl) ?_
    refine lv_iload_n hx hb dX11_seasonAt_17 rfl (lv_at hl 7 rfl) ?_
    refine lv_icmp_gt (tgt := 93) hx hb dX11_seasonAt_18 (by decide) (fun c736 => ?_) (fun c736 => ?_)
    · skip
      have c736 := i_lt (Eq.refl p1.toInt) (show (1 : Int32).toInt = 1 by decide) c736
      refine lv_iload hx hb dX11_seasonAt_93 (lv_at hl 2 rfl) ?_
      refine W.widen (k := 0) (n := 0) (Nat.le_of_ble_eq_true rfl) (Nat.le_of_ble_eq_true rfl) ?_
      have zi2 : (2 : Int32).toInt = 2 := by decide
      exact W.iret (v := 2) hx hb hr (fun t ht hW => ⟨⟨2, rfl, ((show (0 ≤ (2 : Int32).toInt ∧ (2 : Int32).toInt ≤ 3) by omega)), CB.nil⟩, hS.F ht⟩) hS.2.2 dX11_seasonAt_95
    · skip
      have c736 := i_nlt (Eq.refl p1.toInt) (show (1 : Int32).toInt = 1 by decide) c736
      refine lv_iload_n hx hb dX11_seasonAt_21 rfl (lv_at hl 5 rfl) ?_
      refine lv_iload hx hb dX11_seasonAt_22 (lv_at hl 4 rfl) ?_
      have zi2 : (2 : Int32).toInt = 2 := by decide
      refine lv_idiv hx hb dX11_seasonAt_24 (i_nz (show (2 : Int32).toInt = 2 by decide) (by omega)) ?_
      refine lv_topi (fun v737 ev737 => ?_)
      have hv737 := i_div (Eq.refl v713.toInt) (show (2 : Int32).toInt = 2 by decide) ev737 (by omega) (by omega)
      refine lv_istore (lv' := [(7, .int v737), (6, .int 1), (3, .int 11), (5, .int 2), (4, .int 2), (2, .int v713), (0, .int p0), (1, .int p1)]) hx hb dX11_seasonAt_25 hl (by decide) rfl (fun ls hl => ?_)
      rcases (show v737.toInt = 0 ∨ v737.toInt = 1 ∨ v737.toInt = 2 by omega) with c738 | c738 | c738
      · obtain rfl : v737 = 0 := i_is c738 (by decide)
        refine lv_iload_n hx hb dX11_seasonAt_27 rfl (lv_at hl 5 rfl) ?_
        refine lv_iload hx hb dX11_seasonAt_28 (lv_at hl 4 rfl) ?_
        refine lv_irem hx hb dX11_seasonAt_30 (i_nz (show (2 : Int32).toInt = 2 by decide) (by omega)) ?_
        refine lv_topi (fun v739 ev739 => ?_)
        have hv739 := i_rem (Eq.refl v713.toInt) (show (2 : Int32).toInt = 2 by decide) ev739 (by omega) (by omega)
        refine lv_istore_n (lv' := [(2, .int v739), (7, .int 0), (6, .int 1), (3, .int 11), (5, .int 2), (4, .int 2), (0, .int p0), (1, .int p1)]) hx hb dX11_seasonAt_31 rfl hl (by decide) rfl (fun ls hl => ?_)
        refine lv_iload hx hb dX11_seasonAt_32 (lv_at hl 2 rfl) ?_
        refine lv_if_ne (tgt := 41) hx hb dX11_seasonAt_34 (by decide) (fun c740 => ?_) (fun c740 => ?_)
        rotate_left
        · exact absurd c740 (by decide)
        refine lv_iconst (v := 1) hx hb dX11_seasonAt_41 (by decide) ?_
        refine lv_istore (lv' := [(4, .int 1), (2, .int v739), (7, .int 0), (6, .int 1), (3, .int 11), (5, .int 2), (0, .int p0), (1, .int p1)]) hx hb dX11_seasonAt_42 hl (by decide) rfl (fun ls hl => ?_)
        refine lv_iconst (v := 0) hx hb dX11_seasonAt_44 (by decide) ?_
        refine lv_istore (lv' := [(5, .int 0), (4, .int 1), (2, .int v739), (7, .int 0), (6, .int 1), (3, .int 11), (0, .int p0), (1, .int p1)]) hx hb dX11_seasonAt_45 hl (by decide) rfl (fun ls hl => ?_)
        refine lv_iload_n hx hb dX11_seasonAt_47 rfl (lv_at hl 5 rfl) ?_
        refine lv_iload hx hb dX11_seasonAt_48 (lv_at hl 0 rfl) ?_
        refine lv_ishr hx hb dX11_seasonAt_50 ?_
        refine lv_topi (fun z741 ez741 => ?_)
        obtain rfl : z741 = 11 := ez741.trans (by decide)
        refine lv_iconst (v := 1) hx hb dX11_seasonAt_51 (by decide) ?_
        refine lv_iand hx hb dX11_seasonAt_52 ?_
        refine lv_topi (fun z742 ez742 => ?_)
        obtain rfl : z742 = 1 := ez742.trans (by decide)
        refine lv_if_eq (tgt := 61) hx hb dX11_seasonAt_53 (by decide) (fun c743 => ?_) (fun c743 => ?_)
        · exact absurd c743 (by decide)
        refine lv_iload hx hb dX11_seasonAt_56 (lv_at hl 3 rfl) ?_
        refine lv_if_le (tgt := 78) hx hb dX11_seasonAt_58 (by decide) (fun c744 => ?_) (fun c744 => ?_)
        rotate_left
        · exact absurd c744 (by decide)
        refine lv_iload_n hx hb dX11_seasonAt_78 rfl (lv_at hl 5 rfl) ?_
        refine lv_iconst (v := 1) hx hb dX11_seasonAt_79 (by decide) ?_
        refine lv_iload hx hb dX11_seasonAt_80 (lv_at hl 0 rfl) ?_
        refine lv_ishl hx hb dX11_seasonAt_82 ?_
        refine lv_topi (fun z745 ez745 => ?_)
        obtain rfl : z745 = 1 := ez745.trans (by decide)
        refine lv_iconst (v := (-1)) hx hb dX11_seasonAt_83 (by decide) ?_
        refine lv_ixor hx hb dX11_seasonAt_84 ?_
        refine lv_topi (fun z746 ez746 => ?_)
        obtain rfl : z746 = (-2) := ez746.trans (by decide)
        refine lv_iand hx hb dX11_seasonAt_85 ?_
        refine lv_topi (fun z747 ez747 => ?_)
        obtain rfl : z747 = 10 := ez747.trans (by decide)
        refine lv_istore_n (lv' := [(3, .int 10), (5, .int 0), (4, .int 1), (2, .int v739), (7, .int 0), (6, .int 1), (0, .int p0), (1, .int p1)]) hx hb dX11_seasonAt_86 rfl hl (by decide) rfl (fun ls hl => ?_)
        refine lv_iinc (v := 2) (lv' := [(6, .int 2), (3, .int 10), (5, .int 0), (4, .int 1), (2, .int v739), (7, .int 0), (0, .int p0), (1, .int p1)]) hx hb dX11_seasonAt_87 hl (k := 5) rfl (by decide) (by decide) rfl (fun ls hl => ?_)
        refine lv_goto (tgt := 15) hx hb dX11_seasonAt_90 (by decide) ?_
        refine lv_iload hx hb dX11_seasonAt_15 (lv_at hl 0 rfl) ?_
        refine lv_iload_n hx hb dX11_seasonAt_17 rfl (lv_at hl 7 rfl) ?_
        refine lv_icmp_gt (tgt := 93) hx hb dX11_seasonAt_18 (by decide) (fun c748 => ?_) (fun c748 => ?_)
        · skip
          have c748 := i_lt (Eq.refl p1.toInt) (show (2 : Int32).toInt = 2 by decide) c748
          refine lv_iload hx hb dX11_seasonAt_93 (lv_at hl 2 rfl) ?_
          refine W.widen (k := 0) (n := 0) (Nat.le_of_ble_eq_true rfl) (Nat.le_of_ble_eq_true rfl) ?_
          have zi0 : (0 : Int32).toInt = 0 := by decide
          exact W.iret (v := 0) hx hb hr (fun t ht hW => ⟨⟨0, rfl, ((show (0 ≤ (0 : Int32).toInt ∧ (0 : Int32).toInt ≤ 3) by omega)), CB.nil⟩, hS.F ht⟩) hS.2.2 dX11_seasonAt_95
        · skip
          have c748 := i_nlt (Eq.refl p1.toInt) (show (2 : Int32).toInt = 2 by decide) c748
          refine lv_iload_n hx hb dX11_seasonAt_21 rfl (lv_at hl 4 rfl) ?_
          refine lv_iload hx hb dX11_seasonAt_22 (lv_at hl 3 rfl) ?_
          have zi1 : (1 : Int32).toInt = 1 := by decide
          refine lv_idiv hx hb dX11_seasonAt_24 (i_nz (show (1 : Int32).toInt = 1 by decide) (by omega)) ?_
          refine lv_topi (fun v749 ev749 => ?_)
          have hv749 := i_div (Eq.refl v739.toInt) (show (1 : Int32).toInt = 1 by decide) ev749 (by omega) (by omega)
          refine lv_istore (lv' := [(7, .int v749), (6, .int 2), (3, .int 10), (5, .int 0), (4, .int 1), (2, .int v739), (0, .int p0), (1, .int p1)]) hx hb dX11_seasonAt_25 hl (by decide) rfl (fun ls hl => ?_)
          rcases (show v749.toInt = 0 ∨ v749.toInt = 1 by omega) with c750 | c750
          · obtain rfl : v749 = 0 := i_is c750 (by decide)
            refine lv_iload_n hx hb dX11_seasonAt_27 rfl (lv_at hl 5 rfl) ?_
            refine lv_iload hx hb dX11_seasonAt_28 (lv_at hl 4 rfl) ?_
            refine lv_irem hx hb dX11_seasonAt_30 (i_nz (show (1 : Int32).toInt = 1 by decide) (by omega)) ?_
            refine lv_topi (fun v751 ev751 => ?_)
            have hv751 := i_rem (Eq.refl v739.toInt) (show (1 : Int32).toInt = 1 by decide) ev751 (by omega) (by omega)
            refine lv_istore_n (lv' := [(2, .int v751), (7, .int 0), (6, .int 2), (3, .int 10), (5, .int 0), (4, .int 1), (0, .int p0), (1, .int p1)]) hx hb dX11_seasonAt_31 rfl hl (by decide) rfl (fun ls hl => ?_)
            refine lv_iload hx hb dX11_seasonAt_32 (lv_at hl 2 rfl) ?_
            refine lv_if_ne (tgt := 41) hx hb dX11_seasonAt_34 (by decide) (fun c752 => ?_) (fun c752 => ?_)
            rotate_left
            · exact absurd c752 (by decide)
            refine lv_iconst (v := 1) hx hb dX11_seasonAt_41 (by decide) ?_
            refine lv_istore (lv' := [(4, .int 1), (2, .int v751), (7, .int 0), (6, .int 2), (3, .int 10), (5, .int 0), (0, .int p0), (1, .int p1)]) hx hb dX11_seasonAt_42 hl (by decide) rfl (fun ls hl => ?_)
            refine lv_iconst (v := 0) hx hb dX11_seasonAt_44 (by decide) ?_
            refine lv_istore (lv' := [(5, .int 0), (4, .int 1), (2, .int v751), (7, .int 0), (6, .int 2), (3, .int 10), (0, .int p0), (1, .int p1)]) hx hb dX11_seasonAt_45 hl (by decide) rfl (fun ls hl => ?_)
            refine lv_iload_n hx hb dX11_seasonAt_47 rfl (lv_at hl 5 rfl) ?_
            refine lv_iload hx hb dX11_seasonAt_48 (lv_at hl 0 rfl) ?_
            refine lv_ishr hx hb dX11_seasonAt_50 ?_
            refine lv_topi (fun z753 ez753 => ?_)
            obtain rfl : z753 = 10 := ez753.trans (by decide)
            refine lv_iconst (v := 1) hx hb dX11_seasonAt_51 (by decide) ?_
            refine lv_iand hx hb dX11_seasonAt_52 ?_
            refine lv_topi (fun z754 ez754 => ?_)
            obtain rfl : z754 = 0 := ez754.trans (by decide)
            refine lv_if_eq (tgt := 61) hx hb dX11_seasonAt_53 (by decide) (fun c755 => ?_) (fun c755 => ?_)
            rotate_left
            · exact absurd c755 (by decide)
            refine lv_iload hx hb dX11_seasonAt_61 (lv_at hl 3 rfl) ?_
            refine lv_iload_n hx hb dX11_seasonAt_63 rfl (lv_at hl 5 rfl) ?_
            refine lv_iload hx hb dX11_seasonAt_64 (lv_at hl 0 rfl) ?_
            refine lv_ishr hx hb dX11_seasonAt_66 ?_
            refine lv_topi (fun z756 ez756 => ?_)
            obtain rfl : z756 = 10 := ez756.trans (by decide)
            refine lv_iconst (v := 1) hx hb dX11_seasonAt_67 (by decide) ?_
            refine lv_iand hx hb dX11_seasonAt_68 ?_
            refine lv_topi (fun z757 ez757 => ?_)
            obtain rfl : z757 = 0 := ez757.trans (by decide)
            refine lv_isub hx hb dX11_seasonAt_69 ?_
            refine lv_topi (fun z758 ez758 => ?_)
            obtain rfl : z758 = 0 := ez758.trans (by decide)
            refine lv_istore (lv' := [(7, .int 0), (5, .int 0), (4, .int 1), (2, .int v751), (6, .int 2), (3, .int 10), (0, .int p0), (1, .int p1)]) hx hb dX11_seasonAt_70 hl (by decide) rfl (fun ls hl => ?_)
            refine lv_iinc (v := 1) (lv' := [(5, .int 1), (7, .int 0), (4, .int 1), (2, .int v751), (6, .int 2), (3, .int 10), (0, .int p0), (1, .int p1)]) hx hb dX11_seasonAt_72 hl (k := 1) rfl (by decide) (by decide) rfl (fun ls hl => ?_)
            refine lv_goto (tgt := 47) hx hb dX11_seasonAt_75 (by decide) ?_
            refine lv_iload_n hx hb dX11_seasonAt_47 rfl (lv_at hl 5 rfl) ?_
            refine lv_iload hx hb dX11_seasonAt_48 (lv_at hl 0 rfl) ?_
            refine lv_ishr hx hb dX11_seasonAt_50 ?_
            refine lv_topi (fun z759 ez759 => ?_)
            obtain rfl : z759 = 5 := ez759.trans (by decide)
            refine lv_iconst (v := 1) hx hb dX11_seasonAt_51 (by decide) ?_
            refine lv_iand hx hb dX11_seasonAt_52 ?_
            refine lv_topi (fun z760 ez760 => ?_)
            obtain rfl : z760 = 1 := ez760.trans (by decide)
            refine lv_if_eq (tgt := 61) hx hb dX11_seasonAt_53 (by decide) (fun c761 => ?_) (fun c761 => ?_)
            · exact absurd c761 (by decide)
            refine lv_iload hx hb dX11_seasonAt_56 (lv_at hl 1 rfl) ?_
            refine lv_if_le (tgt := 78) hx hb dX11_seasonAt_58 (by decide) (fun c762 => ?_) (fun c762 => ?_)
            rotate_left
            · exact absurd c762 (by decide)
            refine lv_iload_n hx hb dX11_seasonAt_78 rfl (lv_at hl 5 rfl) ?_
            refine lv_iconst (v := 1) hx hb dX11_seasonAt_79 (by decide) ?_
            refine lv_iload hx hb dX11_seasonAt_80 (lv_at hl 0 rfl) ?_
            refine lv_ishl hx hb dX11_seasonAt_82 ?_
            refine lv_topi (fun z763 ez763 => ?_)
            obtain rfl : z763 = 2 := ez763.trans (by decide)
            refine lv_iconst (v := (-1)) hx hb dX11_seasonAt_83 (by decide) ?_
            refine lv_ixor hx hb dX11_seasonAt_84 ?_
            refine lv_topi (fun z764 ez764 => ?_)
            obtain rfl : z764 = (-3) := ez764.trans (by decide)
            refine lv_iand hx hb dX11_seasonAt_85 ?_
            refine lv_topi (fun z765 ez765 => ?_)
            obtain rfl : z765 = 8 := ez765.trans (by decide)
            refine lv_istore_n (lv' := [(3, .int 8), (5, .int 1), (7, .int 0), (4, .int 1), (2, .int v751), (6, .int 2), (0, .int p0), (1, .int p1)]) hx hb dX11_seasonAt_86 rfl hl (by decide) rfl (fun ls hl => ?_)
            refine lv_iinc (v := 3) (lv' := [(6, .int 3), (3, .int 8), (5, .int 1), (7, .int 0), (4, .int 1), (2, .int v751), (0, .int p0), (1, .int p1)]) hx hb dX11_seasonAt_87 hl (k := 5) rfl (by decide) (by decide) rfl (fun ls hl => ?_)
            refine lv_goto (tgt := 15) hx hb dX11_seasonAt_90 (by decide) ?_
            refine lv_iload hx hb dX11_seasonAt_15 (lv_at hl 0 rfl) ?_
            refine lv_iload_n hx hb dX11_seasonAt_17 rfl (lv_at hl 7 rfl) ?_
            refine lv_icmp_gt (tgt := 93) hx hb dX11_seasonAt_18 (by decide) (fun c766 => ?_) (fun c766 => ?_)
            · skip
              have c766 := i_lt (Eq.refl p1.toInt) (show (3 : Int32).toInt = 3 by decide) c766
              refine lv_iload hx hb dX11_seasonAt_93 (lv_at hl 2 rfl) ?_
              refine W.widen (k := 0) (n := 0) (Nat.le_of_ble_eq_true rfl) (Nat.le_of_ble_eq_true rfl) ?_
              exact W.iret (v := 1) hx hb hr (fun t ht hW => ⟨⟨1, rfl, ((show (0 ≤ (1 : Int32).toInt ∧ (1 : Int32).toInt ≤ 3) by omega)), CB.nil⟩, hS.F ht⟩) hS.2.2 dX11_seasonAt_95
            · skip
              have c766 := i_nlt (Eq.refl p1.toInt) (show (3 : Int32).toInt = 3 by decide) c766
              refine lv_iload_n hx hb dX11_seasonAt_21 rfl (lv_at hl 5 rfl) ?_
              refine lv_iload hx hb dX11_seasonAt_22 (lv_at hl 4 rfl) ?_
              refine lv_idiv hx hb dX11_seasonAt_24 (i_nz (show (1 : Int32).toInt = 1 by decide) (by omega)) ?_
              refine lv_topi (fun v767 ev767 => ?_)
              have hv767 := i_div (Eq.refl v751.toInt) (show (1 : Int32).toInt = 1 by decide) ev767 (by omega) (by omega)
              refine lv_istore (lv' := [(7, .int v767), (6, .int 3), (3, .int 8), (5, .int 1), (4, .int 1), (2, .int v751), (0, .int p0), (1, .int p1)]) hx hb dX11_seasonAt_25 hl (by decide) rfl (fun ls hl => ?_)
              rcases (show v767.toInt = 0 by omega) with c768
              · obtain rfl : v767 = 0 := i_is c768 (by decide)
                refine lv_iload_n hx hb dX11_seasonAt_27 rfl (lv_at hl 5 rfl) ?_
                refine lv_iload hx hb dX11_seasonAt_28 (lv_at hl 4 rfl) ?_
                refine lv_irem hx hb dX11_seasonAt_30 (i_nz (show (1 : Int32).toInt = 1 by decide) (by omega)) ?_
                refine lv_topi (fun v769 ev769 => ?_)
                have hv769 := i_rem (Eq.refl v751.toInt) (show (1 : Int32).toInt = 1 by decide) ev769 (by omega) (by omega)
                refine lv_istore_n (lv' := [(2, .int v769), (7, .int 0), (6, .int 3), (3, .int 8), (5, .int 1), (4, .int 1), (0, .int p0), (1, .int p1)]) hx hb dX11_seasonAt_31 rfl hl (by decide) rfl (fun ls hl => ?_)
                refine lv_iload hx hb dX11_seasonAt_32 (lv_at hl 2 rfl) ?_
                refine lv_if_ne (tgt := 41) hx hb dX11_seasonAt_34 (by decide) (fun c770 => ?_) (fun c770 => ?_)
                rotate_left
                · exact absurd c770 (by decide)
                refine lv_iconst (v := 1) hx hb dX11_seasonAt_41 (by decide) ?_
                refine lv_istore (lv' := [(4, .int 1), (2, .int v769), (7, .int 0), (6, .int 3), (3, .int 8), (5, .int 1), (0, .int p0), (1, .int p1)]) hx hb dX11_seasonAt_42 hl (by decide) rfl (fun ls hl => ?_)
                refine lv_iconst (v := 0) hx hb dX11_seasonAt_44 (by decide) ?_
                refine lv_istore (lv' := [(5, .int 0), (4, .int 1), (2, .int v769), (7, .int 0), (6, .int 3), (3, .int 8), (0, .int p0), (1, .int p1)]) hx hb dX11_seasonAt_45 hl (by decide) rfl (fun ls hl => ?_)
                refine lv_iload_n hx hb dX11_seasonAt_47 rfl (lv_at hl 5 rfl) ?_
                refine lv_iload hx hb dX11_seasonAt_48 (lv_at hl 0 rfl) ?_
                refine lv_ishr hx hb dX11_seasonAt_50 ?_
                refine lv_topi (fun z771 ez771 => ?_)
                obtain rfl : z771 = 8 := ez771.trans (by decide)
                refine lv_iconst (v := 1) hx hb dX11_seasonAt_51 (by decide) ?_
                refine lv_iand hx hb dX11_seasonAt_52 ?_
                refine lv_topi (fun z772 ez772 => ?_)
                obtain rfl : z772 = 0 := ez772.trans (by decide)
                refine lv_if_eq (tgt := 61) hx hb dX11_seasonAt_53 (by decide) (fun c773 => ?_) (fun c773 => ?_)
                rotate_left
                · exact absurd c773 (by decide)
                refine lv_iload hx hb dX11_seasonAt_61 (lv_at hl 3 rfl) ?_
                refine lv_iload_n hx hb dX11_seasonAt_63 rfl (lv_at hl 5 rfl) ?_
                refine lv_iload hx hb dX11_seasonAt_64 (lv_at hl 0 rfl) ?_
                refine lv_ishr hx hb dX11_seasonAt_66 ?_
                refine lv_topi (fun z774 ez774 => ?_)
                obtain rfl : z774 = 8 := ez774.trans (by decide)
                refine lv_iconst (v := 1) hx hb dX11_seasonAt_67 (by decide) ?_
                refine lv_iand hx hb dX11_seasonAt_68 ?_
                refine lv_topi (fun z775 ez775 => ?_)
                obtain rfl : z775 = 0 := ez775.trans (by decide)
                refine lv_isub hx hb dX11_seasonAt_69 ?_
                refine lv_topi (fun z776 ez776 => ?_)
                obtain rfl : z776 = 0 := ez776.trans (by decide)
                refine lv_istore (lv' := [(7, .int 0), (5, .int 0), (4, .int 1), (2, .int v769), (6, .int 3), (3, .int 8), (0, .int p0), (1, .int p1)]) hx hb dX11_seasonAt_70 hl (by decide) rfl (fun ls hl => ?_)
                refine lv_iinc (v := 1) (lv' := [(5, .int 1), (7, .int 0), (4, .int 1), (2, .int v769), (6, .int 3), (3, .int 8), (0, .int p0), (1, .int p1)]) hx hb dX11_seasonAt_72 hl (k := 1) rfl (by decide) (by decide) rfl (fun ls hl => ?_)
                refine lv_goto (tgt := 47) hx hb dX11_seasonAt_75 (by decide) ?_
                refine lv_iload_n hx hb dX11_seasonAt_47 rfl (lv_at hl 5 rfl) ?_
                refine lv_iload hx hb dX11_seasonAt_48 (lv_at hl 0 rfl) ?_
                refine lv_ishr hx hb dX11_seasonAt_50 ?_
                refine lv_topi (fun z777 ez777 => ?_)
                obtain rfl : z777 = 4 := ez777.trans (by decide)
                refine lv_iconst (v := 1) hx hb dX11_seasonAt_51 (by decide) ?_
                refine lv_iand hx hb dX11_seasonAt_52 ?_
                refine lv_topi (fun z778 ez778 => ?_)
                obtain rfl : z778 = 0 := ez778.trans (by decide)
                refine lv_if_eq (tgt := 61) hx hb dX11_seasonAt_53 (by decide) (fun c779 => ?_) (fun c779 => ?_)
                rotate_left
                · exact absurd c779 (by decide)
                refine lv_iload hx hb dX11_seasonAt_61 (lv_at hl 1 rfl) ?_
                refine lv_iload_n hx hb dX11_seasonAt_63 rfl (lv_at hl 5 rfl) ?_
                refine lv_iload hx hb dX11_seasonAt_64 (lv_at hl 0 rfl) ?_
                refine lv_ishr hx hb dX11_seasonAt_66 ?_
                refine lv_topi (fun z780 ez780 => ?_)
                obtain rfl : z780 = 4 := ez780.trans (by decide)
                refine lv_iconst (v := 1) hx hb dX11_seasonAt_67 (by decide) ?_
                refine lv_iand hx hb dX11_seasonAt_68 ?_
                refine lv_topi (fun z781 ez781 => ?_)
                obtain rfl : z781 = 0 := ez781.trans (by decide)
                refine lv_isub hx hb dX11_seasonAt_69 ?_
                refine lv_topi (fun z782 ez782 => ?_)
                obtain rfl : z782 = 0 := ez782.trans (by decide)
                refine lv_istore (lv' := [(7, .int 0), (5, .int 1), (4, .int 1), (2, .int v769), (6, .int 3), (3, .int 8), (0, .int p0), (1, .int p1)]) hx hb dX11_seasonAt_70 hl (by decide) rfl (fun ls hl => ?_)
                refine lv_iinc (v := 2) (lv' := [(5, .int 2), (7, .int 0), (4, .int 1), (2, .int v769), (6, .int 3), (3, .int 8), (0, .int p0), (1, .int p1)]) hx hb dX11_seasonAt_72 hl (k := 1) rfl (by decide) (by decide) rfl (fun ls hl => ?_)
                refine lv_goto (tgt := 47) hx hb dX11_seasonAt_75 (by decide) ?_
                refine lv_iload_n hx hb dX11_seasonAt_47 rfl (lv_at hl 5 rfl) ?_
                refine lv_iload hx hb dX11_seasonAt_48 (lv_at hl 0 rfl) ?_
                refine lv_ishr hx hb dX11_seasonAt_50 ?_
                refine lv_topi (fun z783 ez783 => ?_)
                obtain rfl : z783 = 2 := ez783.trans (by decide)
                refine lv_iconst (v := 1) hx hb dX11_seasonAt_51 (by decide) ?_
                refine lv_iand hx hb dX11_seasonAt_52 ?_
                refine lv_topi (fun z784 ez784 => ?_)
                obtain rfl : z784 = 0 := ez784.trans (by decide)
                refine lv_if_eq (tgt := 61) hx hb dX11_seasonAt_53 (by decide) (fun c785 => ?_) (fun c785 => ?_)
                rotate_left
                · exact absurd c785 (by decide)
                refine lv_iload hx hb dX11_seasonAt_61 (lv_at hl 1 rfl) ?_
                refine lv_iload_n hx hb dX11_seasonAt_63 rfl (lv_at hl 5 rfl) ?_
                refine lv_iload hx hb dX11_seasonAt_64 (lv_at hl 0 rfl) ?_
                refine lv_ishr hx hb dX11_seasonAt_66 ?_
                refine lv_topi (fun z786 ez786 => ?_)
                obtain rfl : z786 = 2 := ez786.trans (by decide)
                refine lv_iconst (v := 1) hx hb dX11_seasonAt_67 (by decide) ?_
                refine lv_iand hx hb dX11_seasonAt_68 ?_
                refine lv_topi (fun z787 ez787 => ?_)
                obtain rfl : z787 = 0 := ez787.trans (by decide)
                refine lv_isub hx hb dX11_seasonAt_69 ?_
                refine lv_topi (fun z788 ez788 => ?_)
                obtain rfl : z788 = 0 := ez788.trans (by decide)
                refine lv_istore (lv' := [(7, .int 0), (5, .int 2), (4, .int 1), (2, .int v769), (6, .int 3), (3, .int 8), (0, .int p0), (1, .int p1)]) hx hb dX11_seasonAt_70 hl (by decide) rfl (fun ls hl => ?_)
                refine lv_iinc (v := 3) (lv' := [(5, .int 3), (7, .int 0), (4, .int 1), (2, .int v769), (6, .int 3), (3, .int 8), (0, .int p0), (1, .int p1)]) hx hb dX11_seasonAt_72 hl (k := 1) rfl (by decide) (by decide) rfl (fun ls hl => ?_)
                refine lv_goto (tgt := 47) hx hb dX11_seasonAt_75 (by decide) ?_
                refine lv_iload_n hx hb dX11_seasonAt_47 rfl (lv_at hl 5 rfl) ?_
                refine lv_iload hx hb dX11_seasonAt_48 (lv_at hl 0 rfl) ?_
                refine lv_ishr hx hb dX11_seasonAt_50 ?_
                refine lv_topi (fun z789 ez789 => ?_)
                obtain rfl : z789 = 1 := ez789.trans (by decide)
                refine lv_iconst (v := 1) hx hb dX11_seasonAt_51 (by decide) ?_
                refine lv_iand hx hb dX11_seasonAt_52 ?_
                refine lv_topi (fun z790 ez790 => ?_)
                obtain rfl : z790 = 1 := ez790.trans (by decide)
                refine lv_if_eq (tgt := 61) hx hb dX11_seasonAt_53 (by decide) (fun c791 => ?_) (fun c791 => ?_)
                · exact absurd c791 (by decide)
                refine lv_iload hx hb dX11_seasonAt_56 (lv_at hl 1 rfl) ?_
                refine lv_if_le (tgt := 78) hx hb dX11_seasonAt_58 (by decide) (fun c792 => ?_) (fun c792 => ?_)
                rotate_left
                · exact absurd c792 (by decide)
                refine lv_iload_n hx hb dX11_seasonAt_78 rfl (lv_at hl 5 rfl) ?_
                refine lv_iconst (v := 1) hx hb dX11_seasonAt_79 (by decide) ?_
                refine lv_iload hx hb dX11_seasonAt_80 (lv_at hl 0 rfl) ?_
                refine lv_ishl hx hb dX11_seasonAt_82 ?_
                refine lv_topi (fun z793 ez793 => ?_)
                obtain rfl : z793 = 8 := ez793.trans (by decide)
                refine lv_iconst (v := (-1)) hx hb dX11_seasonAt_83 (by decide) ?_
                refine lv_ixor hx hb dX11_seasonAt_84 ?_
                refine lv_topi (fun z794 ez794 => ?_)
                obtain rfl : z794 = (-9) := ez794.trans (by decide)
                refine lv_iand hx hb dX11_seasonAt_85 ?_
                refine lv_topi (fun z795 ez795 => ?_)
                obtain rfl : z795 = 0 := ez795.trans (by decide)
                refine lv_istore_n (lv' := [(3, .int 0), (5, .int 3), (7, .int 0), (4, .int 1), (2, .int v769), (6, .int 3), (0, .int p0), (1, .int p1)]) hx hb dX11_seasonAt_86 rfl hl (by decide) rfl (fun ls hl => ?_)
                refine lv_iinc (v := 4) (lv' := [(6, .int 4), (3, .int 0), (5, .int 3), (7, .int 0), (4, .int 1), (2, .int v769), (0, .int p0), (1, .int p1)]) hx hb dX11_seasonAt_87 hl (k := 5) rfl (by decide) (by decide) rfl (fun ls hl => ?_)
                refine lv_goto (tgt := 15) hx hb dX11_seasonAt_90 (by decide) ?_
                refine lv_iload hx hb dX11_seasonAt_15 (lv_at hl 0 rfl) ?_
                refine lv_iload_n hx hb dX11_seasonAt_17 rfl (lv_at hl 7 rfl) ?_
                refine lv_icmp_gt (tgt := 93) hx hb dX11_seasonAt_18 (by decide) (fun c796 => ?_) (fun c796 => ?_)
                rotate_left
                · have c796 := i_nlt (Eq.refl p1.toInt) (show (4 : Int32).toInt = 4 by decide) c796; exfalso; omega
                have c796 := i_lt (Eq.refl p1.toInt) (show (4 : Int32).toInt = 4 by decide) c796
                refine lv_iload hx hb dX11_seasonAt_93 (lv_at hl 2 rfl) ?_
                refine W.widen (k := 0) (n := 0) (Nat.le_of_ble_eq_true rfl) (Nat.le_of_ble_eq_true rfl) ?_
                have zi3 : (3 : Int32).toInt = 3 := by decide
                exact W.iret (v := 3) hx hb hr (fun t ht hW => ⟨⟨3, rfl, ((show (0 ≤ (3 : Int32).toInt ∧ (3 : Int32).toInt ≤ 3) by omega)), CB.nil⟩, hS.F ht⟩) hS.2.2 dX11_seasonAt_95
          · obtain rfl : v749 = 1 := i_is c750 (by decide)
            refine lv_iload_n hx hb dX11_seasonAt_27 rfl (lv_at hl 5 rfl) ?_
            refine lv_iload hx hb dX11_seasonAt_28 (lv_at hl 4 rfl) ?_
            refine lv_irem hx hb dX11_seasonAt_30 (i_nz (show (1 : Int32).toInt = 1 by decide) (by omega)) ?_
            refine lv_topi (fun v797 ev797 => ?_)
            have hv797 := i_rem (Eq.refl v739.toInt) (show (1 : Int32).toInt = 1 by decide) ev797 (by omega) (by omega)
            refine lv_istore_n (lv' := [(2, .int v797), (7, .int 1), (6, .int 2), (3, .int 10), (5, .int 0), (4, .int 1), (0, .int p0), (1, .int p1)]) hx hb dX11_seasonAt_31 rfl hl (by decide) rfl (fun ls hl => ?_)
            refine lv_iload hx hb dX11_seasonAt_32 (lv_at hl 2 rfl) ?_
            refine lv_if_ne (tgt := 41) hx hb dX11_seasonAt_34 (by decide) (fun c798 => ?_) (fun c798 => ?_)
            rotate_left
            · exact absurd c798 (by decide)
            refine lv_iconst (v := 1) hx hb dX11_seasonAt_41 (by decide) ?_
            refine lv_istore (lv' := [(4, .int 1), (2, .int v797), (7, .int 1), (6, .int 2), (3, .int 10), (5, .int 0), (0, .int p0), (1, .int p1)]) hx hb dX11_seasonAt_42 hl (by decide) rfl (fun ls hl => ?_)
            refine lv_iconst (v := 0) hx hb dX11_seasonAt_44 (by decide) ?_
            refine lv_istore (lv' := [(5, .int 0), (4, .int 1), (2, .int v797), (7, .int 1), (6, .int 2), (3, .int 10), (0, .int p0), (1, .int p1)]) hx hb dX11_seasonAt_45 hl (by decide) rfl (fun ls hl => ?_)
            refine lv_iload_n hx hb dX11_seasonAt_47 rfl (lv_at hl 5 rfl) ?_
            refine lv_iload hx hb dX11_seasonAt_48 (lv_at hl 0 rfl) ?_
            refine lv_ishr hx hb dX11_seasonAt_50 ?_
            refine lv_topi (fun z799 ez799 => ?_)
            obtain rfl : z799 = 10 := ez799.trans (by decide)
            refine lv_iconst (v := 1) hx hb dX11_seasonAt_51 (by decide) ?_
            refine lv_iand hx hb dX11_seasonAt_52 ?_
            refine lv_topi (fun z800 ez800 => ?_)
            obtain rfl : z800 = 0 := ez800.trans (by decide)
            refine lv_if_eq (tgt := 61) hx hb dX11_seasonAt_53 (by decide) (fun c801 => ?_) (fun c801 => ?_)
            rotate_left
            · exact absurd c801 (by decide)
            refine lv_iload hx hb dX11_seasonAt_61 (lv_at hl 3 rfl) ?_
            refine lv_iload_n hx hb dX11_seasonAt_63 rfl (lv_at hl 5 rfl) ?_
            refine lv_iload hx hb dX11_seasonAt_64 (lv_at hl 0 rfl) ?_
            refine lv_ishr hx hb dX11_seasonAt_66 ?_
            refine lv_topi (fun z802 ez802 => ?_)
            obtain rfl : z802 = 10 := ez802.trans (by decide)
            refine lv_iconst (v := 1) hx hb dX11_seasonAt_67 (by decide) ?_
            refine lv_iand hx hb dX11_seasonAt_68 ?_
            refine lv_topi (fun z803 ez803 => ?_)
            obtain rfl : z803 = 0 := ez803.trans (by decide)
            refine lv_isub hx hb dX11_seasonAt_69 ?_
            refine lv_topi (fun z804 ez804 => ?_)
            obtain rfl : z804 = 1 := ez804.trans (by decide)
            refine lv_istore (lv' := [(7, .int 1), (5, .int 0), (4, .int 1), (2, .int v797), (6, .int 2), (3, .int 10), (0, .int p0), (1, .int p1)]) hx hb dX11_seasonAt_70 hl (by decide) rfl (fun ls hl => ?_)
            refine lv_iinc (v := 1) (lv' := [(5, .int 1), (7, .int 1), (4, .int 1), (2, .int v797), (6, .int 2), (3, .int 10), (0, .int p0), (1, .int p1)]) hx hb dX11_seasonAt_72 hl (k := 1) rfl (by decide) (by decide) rfl (fun ls hl => ?_)
            refine lv_goto (tgt := 47) hx hb dX11_seasonAt_75 (by decide) ?_
            refine lv_iload_n hx hb dX11_seasonAt_47 rfl (lv_at hl 5 rfl) ?_
            refine lv_iload hx hb dX11_seasonAt_48 (lv_at hl 0 rfl) ?_
            refine lv_ishr hx hb dX11_seasonAt_50 ?_
            refine lv_topi (fun z805 ez805 => ?_)
            obtain rfl : z805 = 5 := ez805.trans (by decide)
            refine lv_iconst (v := 1) hx hb dX11_seasonAt_51 (by decide) ?_
            refine lv_iand hx hb dX11_seasonAt_52 ?_
            refine lv_topi (fun z806 ez806 => ?_)
            obtain rfl : z806 = 1 := ez806.trans (by decide)
            refine lv_if_eq (tgt := 61) hx hb dX11_seasonAt_53 (by decide) (fun c807 => ?_) (fun c807 => ?_)
            · exact absurd c807 (by decide)
            refine lv_iload hx hb dX11_seasonAt_56 (lv_at hl 1 rfl) ?_
            refine lv_if_le (tgt := 78) hx hb dX11_seasonAt_58 (by decide) (fun c808 => ?_) (fun c808 => ?_)
            · exact absurd c808 (by decide)
            refine lv_iload hx hb dX11_seasonAt_61 (lv_at hl 1 rfl) ?_
            refine lv_iload_n hx hb dX11_seasonAt_63 rfl (lv_at hl 5 rfl) ?_
            refine lv_iload hx hb dX11_seasonAt_64 (lv_at hl 0 rfl) ?_
            refine lv_ishr hx hb dX11_seasonAt_66 ?_
            refine lv_topi (fun z809 ez809 => ?_)
            obtain rfl : z809 = 5 := ez809.trans (by decide)
            refine lv_iconst (v := 1) hx hb dX11_seasonAt_67 (by decide) ?_
            refine lv_iand hx hb dX11_seasonAt_68 ?_
            refine lv_topi (fun z810 ez810 => ?_)
            obtain rfl : z810 = 1 := ez810.trans (by decide)
            refine lv_isub hx hb dX11_seasonAt_69 ?_
            refine lv_topi (fun z811 ez811 => ?_)
            obtain rfl : z811 = 0 := ez811.trans (by decide)
            refine lv_istore (lv' := [(7, .int 0), (5, .int 1), (4, .int 1), (2, .int v797), (6, .int 2), (3, .int 10), (0, .int p0), (1, .int p1)]) hx hb dX11_seasonAt_70 hl (by decide) rfl (fun ls hl => ?_)
            refine lv_iinc (v := 2) (lv' := [(5, .int 2), (7, .int 0), (4, .int 1), (2, .int v797), (6, .int 2), (3, .int 10), (0, .int p0), (1, .int p1)]) hx hb dX11_seasonAt_72 hl (k := 1) rfl (by decide) (by decide) rfl (fun ls hl => ?_)
            refine lv_goto (tgt := 47) hx hb dX11_seasonAt_75 (by decide) ?_
            refine lv_iload_n hx hb dX11_seasonAt_47 rfl (lv_at hl 5 rfl) ?_
            refine lv_iload hx hb dX11_seasonAt_48 (lv_at hl 0 rfl) ?_
            refine lv_ishr hx hb dX11_seasonAt_50 ?_
            refine lv_topi (fun z812 ez812 => ?_)
            obtain rfl : z812 = 2 := ez812.trans (by decide)
            refine lv_iconst (v := 1) hx hb dX11_seasonAt_51 (by decide) ?_
            refine lv_iand hx hb dX11_seasonAt_52 ?_
            refine lv_topi (fun z813 ez813 => ?_)
            obtain rfl : z813 = 0 := ez813.trans (by decide)
            refine lv_if_eq (tgt := 61) hx hb dX11_seasonAt_53 (by decide) (fun c814 => ?_) (fun c814 => ?_)
            rotate_left
            · exact absurd c814 (by decide)
            refine lv_iload hx hb dX11_seasonAt_61 (lv_at hl 1 rfl) ?_
            refine lv_iload_n hx hb dX11_seasonAt_63 rfl (lv_at hl 5 rfl) ?_
            refine lv_iload hx hb dX11_seasonAt_64 (lv_at hl 0 rfl) ?_
            refine lv_ishr hx hb dX11_seasonAt_66 ?_
            refine lv_topi (fun z815 ez815 => ?_)
            obtain rfl : z815 = 2 := ez815.trans (by decide)
            refine lv_iconst (v := 1) hx hb dX11_seasonAt_67 (by decide) ?_
            refine lv_iand hx hb dX11_seasonAt_68 ?_
            refine lv_topi (fun z816 ez816 => ?_)
            obtain rfl : z816 = 0 := ez816.trans (by decide)
            refine lv_isub hx hb dX11_seasonAt_69 ?_
            refine lv_topi (fun z817 ez817 => ?_)
            obtain rfl : z817 = 0 := ez817.trans (by decide)
            refine lv_istore (lv' := [(7, .int 0), (5, .int 2), (4, .int 1), (2, .int v797), (6, .int 2), (3, .int 10), (0, .int p0), (1, .int p1)]) hx hb dX11_seasonAt_70 hl (by decide) rfl (fun ls hl => ?_)
            refine lv_iinc (v := 3) (lv' := [(5, .int 3), (7, .int 0), (4, .int 1), (2, .int v797), (6, .int 2), (3, .int 10), (0, .int p0), (1, .int p1)]) hx hb dX11_seasonAt_72 hl (k := 1) rfl (by decide) (by decide) rfl (fun ls hl => ?_)
            refine lv_goto (tgt := 47) hx hb dX11_seasonAt_75 (by decide) ?_
            refine lv_iload_n hx hb dX11_seasonAt_47 rfl (lv_at hl 5 rfl) ?_
            refine lv_iload hx hb dX11_seasonAt_48 (lv_at hl 0 rfl) ?_
            refine lv_ishr hx hb dX11_seasonAt_50 ?_
            refine lv_topi (fun z818 ez818 => ?_)
            obtain rfl : z818 = 1 := ez818.trans (by decide)
            refine lv_iconst (v := 1) hx hb dX11_seasonAt_51 (by decide) ?_
            refine lv_iand hx hb dX11_seasonAt_52 ?_
            refine lv_topi (fun z819 ez819 => ?_)
            obtain rfl : z819 = 1 := ez819.trans (by decide)
            refine lv_if_eq (tgt := 61) hx hb dX11_seasonAt_53 (by decide) (fun c820 => ?_) (fun c820 => ?_)
            · exact absurd c820 (by decide)
            refine lv_iload hx hb dX11_seasonAt_56 (lv_at hl 1 rfl) ?_
            refine lv_if_le (tgt := 78) hx hb dX11_seasonAt_58 (by decide) (fun c821 => ?_) (fun c821 => ?_)
            rotate_left
            · exact absurd c821 (by decide)
            refine lv_iload_n hx hb dX11_seasonAt_78 rfl (lv_at hl 5 rfl) ?_
            refine lv_iconst (v := 1) hx hb dX11_seasonAt_79 (by decide) ?_
            refine lv_iload hx hb dX11_seasonAt_80 (lv_at hl 0 rfl) ?_
            refine lv_ishl hx hb dX11_seasonAt_82 ?_
            refine lv_topi (fun z822 ez822 => ?_)
            obtain rfl : z822 = 8 := ez822.trans (by decide)
            refine lv_iconst (v := (-1)) hx hb dX11_seasonAt_83 (by decide) ?_
            refine lv_ixor hx hb dX11_seasonAt_84 ?_
            refine lv_topi (fun z823 ez823 => ?_)
            obtain rfl : z823 = (-9) := ez823.trans (by decide)
            refine lv_iand hx hb dX11_seasonAt_85 ?_
            refine lv_topi (fun z824 ez824 => ?_)
            obtain rfl : z824 = 2 := ez824.trans (by decide)
            refine lv_istore_n (lv' := [(3, .int 2), (5, .int 3), (7, .int 0), (4, .int 1), (2, .int v797), (6, .int 2), (0, .int p0), (1, .int p1)]) hx hb dX11_seasonAt_86 rfl hl (by decide) rfl (fun ls hl => ?_)
            refine lv_iinc (v := 3) (lv' := [(6, .int 3), (3, .int 2), (5, .int 3), (7, .int 0), (4, .int 1), (2, .int v797), (0, .int p0), (1, .int p1)]) hx hb dX11_seasonAt_87 hl (k := 5) rfl (by decide) (by decide) rfl (fun ls hl => ?_)
            refine lv_goto (tgt := 15) hx hb dX11_seasonAt_90 (by decide) ?_
            refine lv_iload hx hb dX11_seasonAt_15 (lv_at hl 0 rfl) ?_
            refine lv_iload_n hx hb dX11_seasonAt_17 rfl (lv_at hl 7 rfl) ?_
            refine lv_icmp_gt (tgt := 93) hx hb dX11_seasonAt_18 (by decide) (fun c825 => ?_) (fun c825 => ?_)
            · skip
              have c825 := i_lt (Eq.refl p1.toInt) (show (3 : Int32).toInt = 3 by decide) c825
              refine lv_iload hx hb dX11_seasonAt_93 (lv_at hl 2 rfl) ?_
              refine W.widen (k := 0) (n := 0) (Nat.le_of_ble_eq_true rfl) (Nat.le_of_ble_eq_true rfl) ?_
              have zi3 : (3 : Int32).toInt = 3 := by decide
              exact W.iret (v := 3) hx hb hr (fun t ht hW => ⟨⟨3, rfl, ((show (0 ≤ (3 : Int32).toInt ∧ (3 : Int32).toInt ≤ 3) by omega)), CB.nil⟩, hS.F ht⟩) hS.2.2 dX11_seasonAt_95
            · skip
              have c825 := i_nlt (Eq.refl p1.toInt) (show (3 : Int32).toInt = 3 by decide) c825
              refine lv_iload_n hx hb dX11_seasonAt_21 rfl (lv_at hl 5 rfl) ?_
              refine lv_iload hx hb dX11_seasonAt_22 (lv_at hl 4 rfl) ?_
              refine lv_idiv hx hb dX11_seasonAt_24 (i_nz (show (1 : Int32).toInt = 1 by decide) (by omega)) ?_
              refine lv_topi (fun v826 ev826 => ?_)
              have hv826 := i_div (Eq.refl v797.toInt) (show (1 : Int32).toInt = 1 by decide) ev826 (by omega) (by omega)
              refine lv_istore (lv' := [(7, .int v826), (6, .int 3), (3, .int 2), (5, .int 3), (4, .int 1), (2, .int v797), (0, .int p0), (1, .int p1)]) hx hb dX11_seasonAt_25 hl (by decide) rfl (fun ls hl => ?_)
              rcases (show v826.toInt = 0 by omega) with c827
              · obtain rfl : v826 = 0 := i_is c827 (by decide)
                refine lv_iload_n hx hb dX11_seasonAt_27 rfl (lv_at hl 5 rfl) ?_
                refine lv_iload hx hb dX11_seasonAt_28 (lv_at hl 4 rfl) ?_
                refine lv_irem hx hb dX11_seasonAt_30 (i_nz (show (1 : Int32).toInt = 1 by decide) (by omega)) ?_
                refine lv_topi (fun v828 ev828 => ?_)
                have hv828 := i_rem (Eq.refl v797.toInt) (show (1 : Int32).toInt = 1 by decide) ev828 (by omega) (by omega)
                refine lv_istore_n (lv' := [(2, .int v828), (7, .int 0), (6, .int 3), (3, .int 2), (5, .int 3), (4, .int 1), (0, .int p0), (1, .int p1)]) hx hb dX11_seasonAt_31 rfl hl (by decide) rfl (fun ls hl => ?_)
                refine lv_iload hx hb dX11_seasonAt_32 (lv_at hl 2 rfl) ?_
                refine lv_if_ne (tgt := 41) hx hb dX11_seasonAt_34 (by decide) (fun c829 => ?_) (fun c829 => ?_)
                rotate_left
                · exact absurd c829 (by decide)
                refine lv_iconst (v := 1) hx hb dX11_seasonAt_41 (by decide) ?_
                refine lv_istore (lv' := [(4, .int 1), (2, .int v828), (7, .int 0), (6, .int 3), (3, .int 2), (5, .int 3), (0, .int p0), (1, .int p1)]) hx hb dX11_seasonAt_42 hl (by decide) rfl (fun ls hl => ?_)
                refine lv_iconst (v := 0) hx hb dX11_seasonAt_44 (by decide) ?_
                refine lv_istore (lv' := [(5, .int 0), (4, .int 1), (2, .int v828), (7, .int 0), (6, .int 3), (3, .int 2), (0, .int p0), (1, .int p1)]) hx hb dX11_seasonAt_45 hl (by decide) rfl (fun ls hl => ?_)
                refine lv_iload_n hx hb dX11_seasonAt_47 rfl (lv_at hl 5 rfl) ?_
                refine lv_iload hx hb dX11_seasonAt_48 (lv_at hl 0 rfl) ?_
                refine lv_ishr hx hb dX11_seasonAt_50 ?_
                refine lv_topi (fun z830 ez830 => ?_)
                obtain rfl : z830 = 2 := ez830.trans (by decide)
                refine lv_iconst (v := 1) hx hb dX11_seasonAt_51 (by decide) ?_
                refine lv_iand hx hb dX11_seasonAt_52 ?_
                refine lv_topi (fun z831 ez831 => ?_)
                obtain rfl : z831 = 0 := ez831.trans (by decide)
                refine lv_if_eq (tgt := 61) hx hb dX11_seasonAt_53 (by decide) (fun c832 => ?_) (fun c832 => ?_)
                rotate_left
                · exact absurd c832 (by decide)
                refine lv_iload hx hb dX11_seasonAt_61 (lv_at hl 3 rfl) ?_
                refine lv_iload_n hx hb dX11_seasonAt_63 rfl (lv_at hl 5 rfl) ?_
                refine lv_iload hx hb dX11_seasonAt_64 (lv_at hl 0 rfl) ?_
                refine lv_ishr hx hb dX11_seasonAt_66 ?_
                refine lv_topi (fun z833 ez833 => ?_)
                obtain rfl : z833 = 2 := ez833.trans (by decide)
                refine lv_iconst (v := 1) hx hb dX11_seasonAt_67 (by decide) ?_
                refine lv_iand hx hb dX11_seasonAt_68 ?_
                refine lv_topi (fun z834 ez834 => ?_)
                obtain rfl : z834 = 0 := ez834.trans (by decide)
                refine lv_isub hx hb dX11_seasonAt_69 ?_
                refine lv_topi (fun z835 ez835 => ?_)
                obtain rfl : z835 = 0 := ez835.trans (by decide)
                refine lv_istore (lv' := [(7, .int 0), (5, .int 0), (4, .int 1), (2, .int v828), (6, .int 3), (3, .int 2), (0, .int p0), (1, .int p1)]) hx hb dX11_seasonAt_70 hl (by decide) rfl (fun ls hl => ?_)
                refine lv_iinc (v := 1) (lv' := [(5, .int 1), (7, .int 0), (4, .int 1), (2, .int v828), (6, .int 3), (3, .int 2), (0, .int p0), (1, .int p1)]) hx hb dX11_seasonAt_72 hl (k := 1) rfl (by decide) (by decide) rfl (fun ls hl => ?_)
                refine lv_goto (tgt := 47) hx hb dX11_seasonAt_75 (by decide) ?_
                refine lv_iload_n hx hb dX11_seasonAt_47 rfl (lv_at hl 5 rfl) ?_
                refine lv_iload hx hb dX11_seasonAt_48 (lv_at hl 0 rfl) ?_
                refine lv_ishr hx hb dX11_seasonAt_50 ?_
                refine lv_topi (fun z836 ez836 => ?_)
                obtain rfl : z836 = 1 := ez836.trans (by decide)
                refine lv_iconst (v := 1) hx hb dX11_seasonAt_51 (by decide) ?_
                refine lv_iand hx hb dX11_seasonAt_52 ?_
                refine lv_topi (fun z837 ez837 => ?_)
                obtain rfl : z837 = 1 := ez837.trans (by decide)
                refine lv_if_eq (tgt := 61) hx hb dX11_seasonAt_53 (by decide) (fun c838 => ?_) (fun c838 => ?_)
                · exact absurd c838 (by decide)
                refine lv_iload hx hb dX11_seasonAt_56 (lv_at hl 1 rfl) ?_
                refine lv_if_le (tgt := 78) hx hb dX11_seasonAt_58 (by decide) (fun c839 => ?_) (fun c839 => ?_)
                rotate_left
                · exact absurd c839 (by decide)
                refine lv_iload_n hx hb dX11_seasonAt_78 rfl (lv_at hl 5 rfl) ?_
                refine lv_iconst (v := 1) hx hb dX11_seasonAt_79 (by decide) ?_
                refine lv_iload hx hb dX11_seasonAt_80 (lv_at hl 0 rfl) ?_
                refine lv_ishl hx hb dX11_seasonAt_82 ?_
                refine lv_topi (fun z840 ez840 => ?_)
                obtain rfl : z840 = 2 := ez840.trans (by decide)
                refine lv_iconst (v := (-1)) hx hb dX11_seasonAt_83 (by decide) ?_
                refine lv_ixor hx hb dX11_seasonAt_84 ?_
                refine lv_topi (fun z841 ez841 => ?_)
                obtain rfl : z841 = (-3) := ez841.trans (by decide)
                refine lv_iand hx hb dX11_seasonAt_85 ?_
                refine lv_topi (fun z842 ez842 => ?_)
                obtain rfl : z842 = 0 := ez842.trans (by decide)
                refine lv_istore_n (lv' := [(3, .int 0), (5, .int 1), (7, .int 0), (4, .int 1), (2, .int v828), (6, .int 3), (0, .int p0), (1, .int p1)]) hx hb dX11_seasonAt_86 rfl hl (by decide) rfl (fun ls hl => ?_)
                refine lv_iinc (v := 4) (lv' := [(6, .int 4), (3, .int 0), (5, .int 1), (7, .int 0), (4, .int 1), (2, .int v828), (0, .int p0), (1, .int p1)]) hx hb dX11_seasonAt_87 hl (k := 5) rfl (by decide) (by decide) rfl (fun ls hl => ?_)
                refine lv_goto (tgt := 15) hx hb dX11_seasonAt_90 (by decide) ?_
                refine lv_iload hx hb dX11_seasonAt_15 (lv_at hl 0 rfl) ?_
                refine lv_iload_n hx hb dX11_seasonAt_17 rfl (lv_at hl 7 rfl) ?_
                refine lv_icmp_gt (tgt := 93) hx hb dX11_seasonAt_18 (by decide) (fun c843 => ?_) (fun c843 => ?_)
                rotate_left
                · have c843 := i_nlt (Eq.refl p1.toInt) (show (4 : Int32).toInt = 4 by decide) c843; exfalso; omega
                have c843 := i_lt (Eq.refl p1.toInt) (show (4 : Int32).toInt = 4 by decide) c843
                refine lv_iload hx hb dX11_seasonAt_93 (lv_at hl 2 rfl) ?_
                refine W.widen (k := 0) (n := 0) (Nat.le_of_ble_eq_true rfl) (Nat.le_of_ble_eq_true rfl) ?_
                exact W.iret (v := 1) hx hb hr (fun t ht hW => ⟨⟨1, rfl, ((show (0 ≤ (1 : Int32).toInt ∧ (1 : Int32).toInt ≤ 3) by omega)), CB.nil⟩, hS.F ht⟩) hS.2.2 dX11_seasonAt_95
      · obtain rfl : v737 = 1 := i_is c738 (by decide)
        refine lv_iload_n hx hb dX11_seasonAt_27 rfl (lv_at hl 5 rfl) ?_
        refine lv_iload hx hb dX11_seasonAt_28 (lv_at hl 4 rfl) ?_
        refine lv_irem hx hb dX11_seasonAt_30 (i_nz (show (2 : Int32).toInt = 2 by decide) (by omega)) ?_
        refine lv_topi (fun v844 ev844 => ?_)
        have hv844 := i_rem (Eq.refl v713.toInt) (show (2 : Int32).toInt = 2 by decide) ev844 (by omega) (by omega)
        refine lv_istore_n (lv' := [(2, .int v844), (7, .int 1), (6, .int 1), (3, .int 11), (5, .int 2), (4, .int 2), (0, .int p0), (1, .int p1)]) hx hb dX11_seasonAt_31 rfl hl (by decide) rfl (fun ls hl => ?_)
        refine lv_iload hx hb dX11_seasonAt_32 (lv_at hl 2 rfl) ?_
        refine lv_if_ne (tgt := 41) hx hb dX11_seasonAt_34 (by decide) (fun c845 => ?_) (fun c845 => ?_)
        rotate_left
        · exact absurd c845 (by decide)
        refine lv_iconst (v := 1) hx hb dX11_seasonAt_41 (by decide) ?_
        refine lv_istore (lv' := [(4, .int 1), (2, .int v844), (7, .int 1), (6, .int 1), (3, .int 11), (5, .int 2), (0, .int p0), (1, .int p1)]) hx hb dX11_seasonAt_42 hl (by decide) rfl (fun ls hl => ?_)
        refine lv_iconst (v := 0) hx hb dX11_seasonAt_44 (by decide) ?_
        refine lv_istore (lv' := [(5, .int 0), (4, .int 1), (2, .int v844), (7, .int 1), (6, .int 1), (3, .int 11), (0, .int p0), (1, .int p1)]) hx hb dX11_seasonAt_45 hl (by decide) rfl (fun ls hl => ?_)
        refine lv_iload_n hx hb dX11_seasonAt_47 rfl (lv_at hl 5 rfl) ?_
        refine lv_iload hx hb dX11_seasonAt_48 (lv_at hl 0 rfl) ?_
        refine lv_ishr hx hb dX11_seasonAt_50 ?_
        refine lv_topi (fun z846 ez846 => ?_)
        obtain rfl : z846 = 11 := ez846.trans (by decide)
        refine lv_iconst (v := 1) hx hb dX11_seasonAt_51 (by decide) ?_
        refine lv_iand hx hb dX11_seasonAt_52 ?_
        refine lv_topi (fun z847 ez847 => ?_)
        obtain rfl : z847 = 1 := ez847.trans (by decide)
        refine lv_if_eq (tgt := 61) hx hb dX11_seasonAt_53 (by decide) (fun c848 => ?_) (fun c848 => ?_)
        · exact absurd c848 (by decide)
        refine lv_iload hx hb dX11_seasonAt_56 (lv_at hl 3 rfl) ?_
        refine lv_if_le (tgt := 78) hx hb dX11_seasonAt_58 (by decide) (fun c849 => ?_) (fun c849 => ?_)
        · exact absurd c849 (by decide)
        refine lv_iload hx hb dX11_seasonAt_61 (lv_at hl 3 rfl) ?_
        refine lv_iload_n hx hb dX11_seasonAt_63 rfl (lv_at hl 5 rfl) ?_
        refine lv_iload hx hb dX11_seasonAt_64 (lv_at hl 0 rfl) ?_
        refine lv_ishr hx hb dX11_seasonAt_66 ?_
        refine lv_topi (fun z850 ez850 => ?_)
        obtain rfl : z850 = 11 := ez850.trans (by decide)
        refine lv_iconst (v := 1) hx hb dX11_seasonAt_67 (by decide) ?_
        refine lv_iand hx hb dX11_seasonAt_68 ?_
        refine lv_topi (fun z851 ez851 => ?_)
        obtain rfl : z851 = 1 := ez851.trans (by decide)
        refine lv_isub hx hb dX11_seasonAt_69 ?_
        refine lv_topi (fun z852 ez852 => ?_)
        obtain rfl : z852 = 0 := ez852.trans (by decide)
        refine lv_istore (lv' := [(7, .int 0), (5, .int 0), (4, .int 1), (2, .int v844), (6, .int 1), (3, .int 11), (0, .int p0), (1, .int p1)]) hx hb dX11_seasonAt_70 hl (by decide) rfl (fun ls hl => ?_)
        refine lv_iinc (v := 1) (lv' := [(5, .int 1), (7, .int 0), (4, .int 1), (2, .int v844), (6, .int 1), (3, .int 11), (0, .int p0), (1, .int p1)]) hx hb dX11_seasonAt_72 hl (k := 1) rfl (by decide) (by decide) rfl (fun ls hl => ?_)
        refine lv_goto (tgt := 47) hx hb dX11_seasonAt_75 (by decide) ?_
        refine lv_iload_n hx hb dX11_seasonAt_47 rfl (lv_at hl 5 rfl) ?_
        refine lv_iload hx hb dX11_seasonAt_48 (lv_at hl 0 rfl) ?_
        refine lv_ishr hx hb dX11_seasonAt_50 ?_
        refine lv_topi (fun z853 ez853 => ?_)
        obtain rfl : z853 = 5 := ez853.trans (by decide)
        refine lv_iconst (v := 1) hx hb dX11_seasonAt_51 (by decide) ?_
        refine lv_iand hx hb dX11_seasonAt_52 ?_
        refine lv_topi (fun z854 ez854 => ?_)
        obtain rfl : z854 = 1 := ez854.trans (by decide)
        refine lv_if_eq (tgt := 61) hx hb dX11_seasonAt_53 (by decide) (fun c855 => ?_) (fun c855 => ?_)
        · exact absurd c855 (by decide)
        refine lv_iload hx hb dX11_seasonAt_56 (lv_at hl 1 rfl) ?_
        refine lv_if_le (tgt := 78) hx hb dX11_seasonAt_58 (by decide) (fun c856 => ?_) (fun c856 => ?_)
        rotate_left
        · exact absurd c856 (by decide)
        refine lv_iload_n hx hb dX11_seasonAt_78 rfl (lv_at hl 5 rfl) ?_
        refine lv_iconst (v := 1) hx hb dX11_seasonAt_79 (by decide) ?_
        refine lv_iload hx hb dX11_seasonAt_80 (lv_at hl 0 rfl) ?_
        refine lv_ishl hx hb dX11_seasonAt_82 ?_
        refine lv_topi (fun z857 ez857 => ?_)
        obtain rfl : z857 = 2 := ez857.trans (by decide)
        refine lv_iconst (v := (-1)) hx hb dX11_seasonAt_83 (by decide) ?_
        refine lv_ixor hx hb dX11_seasonAt_84 ?_
        refine lv_topi (fun z858 ez858 => ?_)
        obtain rfl : z858 = (-3) := ez858.trans (by decide)
        refine lv_iand hx hb dX11_seasonAt_85 ?_
        refine lv_topi (fun z859 ez859 => ?_)
        obtain rfl : z859 = 9 := ez859.trans (by decide)
        refine lv_istore_n (lv' := [(3, .int 9), (5, .int 1), (7, .int 0), (4, .int 1), (2, .int v844), (6, .int 1), (0, .int p0), (1, .int p1)]) hx hb dX11_seasonAt_86 rfl hl (by decide) rfl (fun ls hl => ?_)
        refine lv_iinc (v := 2) (lv' := [(6, .int 2), (3, .int 9), (5, .int 1), (7, .int 0), (4, .int 1), (2, .int v844), (0, .int p0), (1, .int p1)]) hx hb dX11_seasonAt_87 hl (k := 5) rfl (by decide) (by decide) rfl (fun ls hl => ?_)
        refine lv_goto (tgt := 15) hx hb dX11_seasonAt_90 (by decide) ?_
        refine lv_iload hx hb dX11_seasonAt_15 (lv_at hl 0 rfl) ?_
        refine lv_iload_n hx hb dX11_seasonAt_17 rfl (lv_at hl 7 rfl) ?_
        refine lv_icmp_gt (tgt := 93) hx hb dX11_seasonAt_18 (by decide) (fun c860 => ?_) (fun c860 => ?_)
        · skip
          have c860 := i_lt (Eq.refl p1.toInt) (show (2 : Int32).toInt = 2 by decide) c860
          refine lv_iload hx hb dX11_seasonAt_93 (lv_at hl 2 rfl) ?_
          refine W.widen (k := 0) (n := 0) (Nat.le_of_ble_eq_true rfl) (Nat.le_of_ble_eq_true rfl) ?_
          have zi1 : (1 : Int32).toInt = 1 := by decide
          exact W.iret (v := 1) hx hb hr (fun t ht hW => ⟨⟨1, rfl, ((show (0 ≤ (1 : Int32).toInt ∧ (1 : Int32).toInt ≤ 3) by omega)), CB.nil⟩, hS.F ht⟩) hS.2.2 dX11_seasonAt_95
        · skip
          have c860 := i_nlt (Eq.refl p1.toInt) (show (2 : Int32).toInt = 2 by decide) c860
          refine lv_iload_n hx hb dX11_seasonAt_21 rfl (lv_at hl 5 rfl) ?_
          refine lv_iload hx hb dX11_seasonAt_22 (lv_at hl 4 rfl) ?_
          have zi1 : (1 : Int32).toInt = 1 := by decide
          refine lv_idiv hx hb dX11_seasonAt_24 (i_nz (show (1 : Int32).toInt = 1 by decide) (by omega)) ?_
          refine lv_topi (fun v861 ev861 => ?_)
          have hv861 := i_div (Eq.refl v844.toInt) (show (1 : Int32).toInt = 1 by decide) ev861 (by omega) (by omega)
          refine lv_istore (lv' := [(7, .int v861), (6, .int 2), (3, .int 9), (5, .int 1), (4, .int 1), (2, .int v844), (0, .int p0), (1, .int p1)]) hx hb dX11_seasonAt_25 hl (by decide) rfl (fun ls hl => ?_)
          rcases (show v861.toInt = 0 ∨ v861.toInt = 1 by omega) with c862 | c862
          · obtain rfl : v861 = 0 := i_is c862 (by decide)
            refine lv_iload_n hx hb dX11_seasonAt_27 rfl (lv_at hl 5 rfl) ?_
            refine lv_iload hx hb dX11_seasonAt_28 (lv_at hl 4 rfl) ?_
            refine lv_irem hx hb dX11_seasonAt_30 (i_nz (show (1 : Int32).toInt = 1 by decide) (by omega)) ?_
            refine lv_topi (fun v863 ev863 => ?_)
            have hv863 := i_rem (Eq.refl v844.toInt) (show (1 : Int32).toInt = 1 by decide) ev863 (by omega) (by omega)
            refine lv_istore_n (lv' := [(2, .int v863), (7, .int 0), (6, .int 2), (3, .int 9), (5, .int 1), (4, .int 1), (0, .int p0), (1, .int p1)]) hx hb dX11_seasonAt_31 rfl hl (by decide) rfl (fun ls hl => ?_)
            refine lv_iload hx hb dX11_seasonAt_32 (lv_at hl 2 rfl) ?_
            refine lv_if_ne (tgt := 41) hx hb dX11_seasonAt_34 (by decide) (fun c864 => ?_) (fun c864 => ?_)
            rotate_left
            · exact absurd c864 (by decide)
            refine lv_iconst (v := 1) hx hb dX11_seasonAt_41 (by decide) ?_
            refine lv_istore (lv' := [(4, .int 1), (2, .int v863), (7, .int 0), (6, .int 2), (3, .int 9), (5, .int 1), (0, .int p0), (1, .int p1)]) hx hb dX11_seasonAt_42 hl (by decide) rfl (fun ls hl => ?_)
            refine lv_iconst (v := 0) hx hb dX11_seasonAt_44 (by decide) ?_
            refine lv_istore (lv' := [(5, .int 0), (4, .int 1), (2, .int v863), (7, .int 0), (6, .int 2), (3, .int 9), (0, .int p0), (1, .int p1)]) hx hb dX11_seasonAt_45 hl (by decide) rfl (fun ls hl => ?_)
            refine lv_iload_n hx hb dX11_seasonAt_47 rfl (lv_at hl 5 rfl) ?_
            refine lv_iload hx hb dX11_seasonAt_48 (lv_at hl 0 rfl) ?_
            refine lv_ishr hx hb dX11_seasonAt_50 ?_
            refine lv_topi (fun z865 ez865 => ?_)
            obtain rfl : z865 = 9 := ez865.trans (by decide)
            refine lv_iconst (v := 1) hx hb dX11_seasonAt_51 (by decide) ?_
            refine lv_iand hx hb dX11_seasonAt_52 ?_
            refine lv_topi (fun z866 ez866 => ?_)
            obtain rfl : z866 = 1 := ez866.trans (by decide)
            refine lv_if_eq (tgt := 61) hx hb dX11_seasonAt_53 (by decide) (fun c867 => ?_) (fun c867 => ?_)
            · exact absurd c867 (by decide)
            refine lv_iload hx hb dX11_seasonAt_56 (lv_at hl 3 rfl) ?_
            refine lv_if_le (tgt := 78) hx hb dX11_seasonAt_58 (by decide) (fun c868 => ?_) (fun c868 => ?_)
            rotate_left
            · exact absurd c868 (by decide)
            refine lv_iload_n hx hb dX11_seasonAt_78 rfl (lv_at hl 5 rfl) ?_
            refine lv_iconst (v := 1) hx hb dX11_seasonAt_79 (by decide) ?_
            refine lv_iload hx hb dX11_seasonAt_80 (lv_at hl 0 rfl) ?_
            refine lv_ishl hx hb dX11_seasonAt_82 ?_
            refine lv_topi (fun z869 ez869 => ?_)
            obtain rfl : z869 = 1 := ez869.trans (by decide)
            refine lv_iconst (v := (-1)) hx hb dX11_seasonAt_83 (by decide) ?_
            refine lv_ixor hx hb dX11_seasonAt_84 ?_
            refine lv_topi (fun z870 ez870 => ?_)
            obtain rfl : z870 = (-2) := ez870.trans (by decide)
            refine lv_iand hx hb dX11_seasonAt_85 ?_
            refine lv_topi (fun z871 ez871 => ?_)
            obtain rfl : z871 = 8 := ez871.trans (by decide)
            refine lv_istore_n (lv' := [(3, .int 8), (5, .int 0), (4, .int 1), (2, .int v863), (7, .int 0), (6, .int 2), (0, .int p0), (1, .int p1)]) hx hb dX11_seasonAt_86 rfl hl (by decide) rfl (fun ls hl => ?_)
            refine lv_iinc (v := 3) (lv' := [(6, .int 3), (3, .int 8), (5, .int 0), (4, .int 1), (2, .int v863), (7, .int 0), (0, .int p0), (1, .int p1)]) hx hb dX11_seasonAt_87 hl (k := 5) rfl (by decide) (by decide) rfl (fun ls hl => ?_)
            refine lv_goto (tgt := 15) hx hb dX11_seasonAt_90 (by decide) ?_
            refine lv_iload hx hb dX11_seasonAt_15 (lv_at hl 0 rfl) ?_
            refine lv_iload_n hx hb dX11_seasonAt_17 rfl (lv_at hl 7 rfl) ?_
            refine lv_icmp_gt (tgt := 93) hx hb dX11_seasonAt_18 (by decide) (fun c872 => ?_) (fun c872 => ?_)
            · skip
              have c872 := i_lt (Eq.refl p1.toInt) (show (3 : Int32).toInt = 3 by decide) c872
              refine lv_iload hx hb dX11_seasonAt_93 (lv_at hl 2 rfl) ?_
              refine W.widen (k := 0) (n := 0) (Nat.le_of_ble_eq_true rfl) (Nat.le_of_ble_eq_true rfl) ?_
              have zi0 : (0 : Int32).toInt = 0 := by decide
              exact W.iret (v := 0) hx hb hr (fun t ht hW => ⟨⟨0, rfl, ((show (0 ≤ (0 : Int32).toInt ∧ (0 : Int32).toInt ≤ 3) by omega)), CB.nil⟩, hS.F ht⟩) hS.2.2 dX11_seasonAt_95
            · skip
              have c872 := i_nlt (Eq.refl p1.toInt) (show (3 : Int32).toInt = 3 by decide) c872
              refine lv_iload_n hx hb dX11_seasonAt_21 rfl (lv_at hl 4 rfl) ?_
              refine lv_iload hx hb dX11_seasonAt_22 (lv_at hl 3 rfl) ?_
              refine lv_idiv hx hb dX11_seasonAt_24 (i_nz (show (1 : Int32).toInt = 1 by decide) (by omega)) ?_
              refine lv_topi (fun v873 ev873 => ?_)
              have hv873 := i_div (Eq.refl v863.toInt) (show (1 : Int32).toInt = 1 by decide) ev873 (by omega) (by omega)
              refine lv_istore (lv' := [(7, .int v873), (6, .int 3), (3, .int 8), (5, .int 0), (4, .int 1), (2, .int v863), (0, .int p0), (1, .int p1)]) hx hb dX11_seasonAt_25 hl (by decide) rfl (fun ls hl => ?_)
              rcases (show v873.toInt = 0 by omega) with c874
              · obtain rfl : v873 = 0 := i_is c874 (by decide)
                refine lv_iload_n hx hb dX11_seasonAt_27 rfl (lv_at hl 5 rfl) ?_
                refine lv_iload hx hb dX11_seasonAt_28 (lv_at hl 4 rfl) ?_
                refine lv_irem hx hb dX11_seasonAt_30 (i_nz (show (1 : Int32).toInt = 1 by decide) (by omega)) ?_
                refine lv_topi (fun v875 ev875 => ?_)
                have hv875 := i_rem (Eq.refl v863.toInt) (show (1 : Int32).toInt = 1 by decide) ev875 (by omega) (by omega)
                refine lv_istore_n (lv' := [(2, .int v875), (7, .int 0), (6, .int 3), (3, .int 8), (5, .int 0), (4, .int 1), (0, .int p0), (1, .int p1)]) hx hb dX11_seasonAt_31 rfl hl (by decide) rfl (fun ls hl => ?_)
                refine lv_iload hx hb dX11_seasonAt_32 (lv_at hl 2 rfl) ?_
                refine lv_if_ne (tgt := 41) hx hb dX11_seasonAt_34 (by decide) (fun c876 => ?_) (fun c876 => ?_)
                rotate_left
                · exact absurd c876 (by decide)
                refine lv_iconst (v := 1) hx hb dX11_seasonAt_41 (by decide) ?_
                refine lv_istore (lv' := [(4, .int 1), (2, .int v875), (7, .int 0), (6, .int 3), (3, .int 8), (5, .int 0), (0, .int p0), (1, .int p1)]) hx hb dX11_seasonAt_42 hl (by decide) rfl (fun ls hl => ?_)
                refine lv_iconst (v := 0) hx hb dX11_seasonAt_44 (by decide) ?_
                refine lv_istore (lv' := [(5, .int 0), (4, .int 1), (2, .int v875), (7, .int 0), (6, .int 3), (3, .int 8), (0, .int p0), (1, .int p1)]) hx hb dX11_seasonAt_45 hl (by decide) rfl (fun ls hl => ?_)
                refine lv_iload_n hx hb dX11_seasonAt_47 rfl (lv_at hl 5 rfl) ?_
                refine lv_iload hx hb dX11_seasonAt_48 (lv_at hl 0 rfl) ?_
                refine lv_ishr hx hb dX11_seasonAt_50 ?_
                refine lv_topi (fun z877 ez877 => ?_)
                obtain rfl : z877 = 8 := ez877.trans (by decide)
                refine lv_iconst (v := 1) hx hb dX11_seasonAt_51 (by decide) ?_
                refine lv_iand hx hb dX11_seasonAt_52 ?_
                refine lv_topi (fun z878 ez878 => ?_)
                obtain rfl : z878 = 0 := ez878.trans (by decide)
                refine lv_if_eq (tgt := 61) hx hb dX11_seasonAt_53 (by decide) (fun c879 => ?_) (fun c879 => ?_)
                rotate_left
                · exact absurd c879 (by decide)
                refine lv_iload hx hb dX11_seasonAt_61 (lv_at hl 3 rfl) ?_
                refine lv_iload_n hx hb dX11_seasonAt_63 rfl (lv_at hl 5 rfl) ?_
                refine lv_iload hx hb dX11_seasonAt_64 (lv_at hl 0 rfl) ?_
                refine lv_ishr hx hb dX11_seasonAt_66 ?_
                refine lv_topi (fun z880 ez880 => ?_)
                obtain rfl : z880 = 8 := ez880.trans (by decide)
                refine lv_iconst (v := 1) hx hb dX11_seasonAt_67 (by decide) ?_
                refine lv_iand hx hb dX11_seasonAt_68 ?_
                refine lv_topi (fun z881 ez881 => ?_)
                obtain rfl : z881 = 0 := ez881.trans (by decide)
                refine lv_isub hx hb dX11_seasonAt_69 ?_
                refine lv_topi (fun z882 ez882 => ?_)
                obtain rfl : z882 = 0 := ez882.trans (by decide)
                refine lv_istore (lv' := [(7, .int 0), (5, .int 0), (4, .int 1), (2, .int v875), (6, .int 3), (3, .int 8), (0, .int p0), (1, .int p1)]) hx hb dX11_seasonAt_70 hl (by decide) rfl (fun ls hl => ?_)
                refine lv_iinc (v := 1) (lv' := [(5, .int 1), (7, .int 0), (4, .int 1), (2, .int v875), (6, .int 3), (3, .int 8), (0, .int p0), (1, .int p1)]) hx hb dX11_seasonAt_72 hl (k := 1) rfl (by decide) (by decide) rfl (fun ls hl => ?_)
                refine lv_goto (tgt := 47) hx hb dX11_seasonAt_75 (by decide) ?_
                refine lv_iload_n hx hb dX11_seasonAt_47 rfl (lv_at hl 5 rfl) ?_
                refine lv_iload hx hb dX11_seasonAt_48 (lv_at hl 0 rfl) ?_
                refine lv_ishr hx hb dX11_seasonAt_50 ?_
                refine lv_topi (fun z883 ez883 => ?_)
                obtain rfl : z883 = 4 := ez883.trans (by decide)
                refine lv_iconst (v := 1) hx hb dX11_seasonAt_51 (by decide) ?_
                refine lv_iand hx hb dX11_seasonAt_52 ?_
                refine lv_topi (fun z884 ez884 => ?_)
                obtain rfl : z884 = 0 := ez884.trans (by decide)
                refine lv_if_eq (tgt := 61) hx hb dX11_seasonAt_53 (by decide) (fun c885 => ?_) (fun c885 => ?_)
                rotate_left
                · exact absurd c885 (by decide)
                refine lv_iload hx hb dX11_seasonAt_61 (lv_at hl 1 rfl) ?_
                refine lv_iload_n hx hb dX11_seasonAt_63 rfl (lv_at hl 5 rfl) ?_
                refine lv_iload hx hb dX11_seasonAt_64 (lv_at hl 0 rfl) ?_
                refine lv_ishr hx hb dX11_seasonAt_66 ?_
                refine lv_topi (fun z886 ez886 => ?_)
                obtain rfl : z886 = 4 := ez886.trans (by decide)
                refine lv_iconst (v := 1) hx hb dX11_seasonAt_67 (by decide) ?_
                refine lv_iand hx hb dX11_seasonAt_68 ?_
                refine lv_topi (fun z887 ez887 => ?_)
                obtain rfl : z887 = 0 := ez887.trans (by decide)
                refine lv_isub hx hb dX11_seasonAt_69 ?_
                refine lv_topi (fun z888 ez888 => ?_)
                obtain rfl : z888 = 0 := ez888.trans (by decide)
                refine lv_istore (lv' := [(7, .int 0), (5, .int 1), (4, .int 1), (2, .int v875), (6, .int 3), (3, .int 8), (0, .int p0), (1, .int p1)]) hx hb dX11_seasonAt_70 hl (by decide) rfl (fun ls hl => ?_)
                refine lv_iinc (v := 2) (lv' := [(5, .int 2), (7, .int 0), (4, .int 1), (2, .int v875), (6, .int 3), (3, .int 8), (0, .int p0), (1, .int p1)]) hx hb dX11_seasonAt_72 hl (k := 1) rfl (by decide) (by decide) rfl (fun ls hl => ?_)
                refine lv_goto (tgt := 47) hx hb dX11_seasonAt_75 (by decide) ?_
                refine lv_iload_n hx hb dX11_seasonAt_47 rfl (lv_at hl 5 rfl) ?_
                refine lv_iload hx hb dX11_seasonAt_48 (lv_at hl 0 rfl) ?_
                refine lv_ishr hx hb dX11_seasonAt_50 ?_
                refine lv_topi (fun z889 ez889 => ?_)
                obtain rfl : z889 = 2 := ez889.trans (by decide)
                refine lv_iconst (v := 1) hx hb dX11_seasonAt_51 (by decide) ?_
                refine lv_iand hx hb dX11_seasonAt_52 ?_
                refine lv_topi (fun z890 ez890 => ?_)
                obtain rfl : z890 = 0 := ez890.trans (by decide)
                refine lv_if_eq (tgt := 61) hx hb dX11_seasonAt_53 (by decide) (fun c891 => ?_) (fun c891 => ?_)
                rotate_left
                · exact absurd c891 (by decide)
                refine lv_iload hx hb dX11_seasonAt_61 (lv_at hl 1 rfl) ?_
                refine lv_iload_n hx hb dX11_seasonAt_63 rfl (lv_at hl 5 rfl) ?_
                refine lv_iload hx hb dX11_seasonAt_64 (lv_at hl 0 rfl) ?_
                refine lv_ishr hx hb dX11_seasonAt_66 ?_
                refine lv_topi (fun z892 ez892 => ?_)
                obtain rfl : z892 = 2 := ez892.trans (by decide)
                refine lv_iconst (v := 1) hx hb dX11_seasonAt_67 (by decide) ?_
                refine lv_iand hx hb dX11_seasonAt_68 ?_
                refine lv_topi (fun z893 ez893 => ?_)
                obtain rfl : z893 = 0 := ez893.trans (by decide)
                refine lv_isub hx hb dX11_seasonAt_69 ?_
                refine lv_topi (fun z894 ez894 => ?_)
                obtain rfl : z894 = 0 := ez894.trans (by decide)
                refine lv_istore (lv' := [(7, .int 0), (5, .int 2), (4, .int 1), (2, .int v875), (6, .int 3), (3, .int 8), (0, .int p0), (1, .int p1)]) hx hb dX11_seasonAt_70 hl (by decide) rfl (fun ls hl => ?_)
                refine lv_iinc (v := 3) (lv' := [(5, .int 3), (7, .int 0), (4, .int 1), (2, .int v875), (6, .int 3), (3, .int 8), (0, .int p0), (1, .int p1)]) hx hb dX11_seasonAt_72 hl (k := 1) rfl (by decide) (by decide) rfl (fun ls hl => ?_)
                refine lv_goto (tgt := 47) hx hb dX11_seasonAt_75 (by decide) ?_
                refine lv_iload_n hx hb dX11_seasonAt_47 rfl (lv_at hl 5 rfl) ?_
                refine lv_iload hx hb dX11_seasonAt_48 (lv_at hl 0 rfl) ?_
                refine lv_ishr hx hb dX11_seasonAt_50 ?_
                refine lv_topi (fun z895 ez895 => ?_)
                obtain rfl : z895 = 1 := ez895.trans (by decide)
                refine lv_iconst (v := 1) hx hb dX11_seasonAt_51 (by decide) ?_
                refine lv_iand hx hb dX11_seasonAt_52 ?_
                refine lv_topi (fun z896 ez896 => ?_)
                obtain rfl : z896 = 1 := ez896.trans (by decide)
                refine lv_if_eq (tgt := 61) hx hb dX11_seasonAt_53 (by decide) (fun c897 => ?_) (fun c897 => ?_)
                · exact absurd c897 (by decide)
                refine lv_iload hx hb dX11_seasonAt_56 (lv_at hl 1 rfl) ?_
                refine lv_if_le (tgt := 78) hx hb dX11_seasonAt_58 (by decide) (fun c898 => ?_) (fun c898 => ?_)
                rotate_left
                · exact absurd c898 (by decide)
                refine lv_iload_n hx hb dX11_seasonAt_78 rfl (lv_at hl 5 rfl) ?_
                refine lv_iconst (v := 1) hx hb dX11_seasonAt_79 (by decide) ?_
                refine lv_iload hx hb dX11_seasonAt_80 (lv_at hl 0 rfl) ?_
                refine lv_ishl hx hb dX11_seasonAt_82 ?_
                refine lv_topi (fun z899 ez899 => ?_)
                obtain rfl : z899 = 8 := ez899.trans (by decide)
                refine lv_iconst (v := (-1)) hx hb dX11_seasonAt_83 (by decide) ?_
                refine lv_ixor hx hb dX11_seasonAt_84 ?_
                refine lv_topi (fun z900 ez900 => ?_)
                obtain rfl : z900 = (-9) := ez900.trans (by decide)
                refine lv_iand hx hb dX11_seasonAt_85 ?_
                refine lv_topi (fun z901 ez901 => ?_)
                obtain rfl : z901 = 0 := ez901.trans (by decide)
                refine lv_istore_n (lv' := [(3, .int 0), (5, .int 3), (7, .int 0), (4, .int 1), (2, .int v875), (6, .int 3), (0, .int p0), (1, .int p1)]) hx hb dX11_seasonAt_86 rfl hl (by decide) rfl (fun ls hl => ?_)
                refine lv_iinc (v := 4) (lv' := [(6, .int 4), (3, .int 0), (5, .int 3), (7, .int 0), (4, .int 1), (2, .int v875), (0, .int p0), (1, .int p1)]) hx hb dX11_seasonAt_87 hl (k := 5) rfl (by decide) (by decide) rfl (fun ls hl => ?_)
                refine lv_goto (tgt := 15) hx hb dX11_seasonAt_90 (by decide) ?_
                refine lv_iload hx hb dX11_seasonAt_15 (lv_at hl 0 rfl) ?_
                refine lv_iload_n hx hb dX11_seasonAt_17 rfl (lv_at hl 7 rfl) ?_
                refine lv_icmp_gt (tgt := 93) hx hb dX11_seasonAt_18 (by decide) (fun c902 => ?_) (fun c902 => ?_)
                rotate_left
                · have c902 := i_nlt (Eq.refl p1.toInt) (show (4 : Int32).toInt = 4 by decide) c902; exfalso; omega
                have c902 := i_lt (Eq.refl p1.toInt) (show (4 : Int32).toInt = 4 by decide) c902
                refine lv_iload hx hb dX11_seasonAt_93 (lv_at hl 2 rfl) ?_
                refine W.widen (k := 0) (n := 0) (Nat.le_of_ble_eq_true rfl) (Nat.le_of_ble_eq_true rfl) ?_
                have zi3 : (3 : Int32).toInt = 3 := by decide
                exact W.iret (v := 3) hx hb hr (fun t ht hW => ⟨⟨3, rfl, ((show (0 ≤ (3 : Int32).toInt ∧ (3 : Int32).toInt ≤ 3) by omega)), CB.nil⟩, hS.F ht⟩) hS.2.2 dX11_seasonAt_95
          · obtain rfl : v861 = 1 := i_is c862 (by decide)
            refine lv_iload_n hx hb dX11_seasonAt_27 rfl (lv_at hl 5 rfl) ?_
            refine lv_iload hx hb dX11_seasonAt_28 (lv_at hl 4 rfl) ?_
            refine lv_irem hx hb dX11_seasonAt_30 (i_nz (show (1 : Int32).toInt = 1 by decide) (by omega)) ?_
            refine lv_topi (fun v903 ev903 => ?_)
            have hv903 := i_rem (Eq.refl v844.toInt) (show (1 : Int32).toInt = 1 by decide) ev903 (by omega) (by omega)
            refine lv_istore_n (lv' := [(2, .int v903), (7, .int 1), (6, .int 2), (3, .int 9), (5, .int 1), (4, .int 1), (0, .int p0), (1, .int p1)]) hx hb dX11_seasonAt_31 rfl hl (by decide) rfl (fun ls hl => ?_)
            refine lv_iload hx hb dX11_seasonAt_32 (lv_at hl 2 rfl) ?_
            refine lv_if_ne (tgt := 41) hx hb dX11_seasonAt_34 (by decide) (fun c904 => ?_) (fun c904 => ?_)
            rotate_left
            · exact absurd c904 (by decide)
            refine lv_iconst (v := 1) hx hb dX11_seasonAt_41 (by decide) ?_
            refine lv_istore (lv' := [(4, .int 1), (2, .int v903), (7, .int 1), (6, .int 2), (3, .int 9), (5, .int 1), (0, .int p0), (1, .int p1)]) hx hb dX11_seasonAt_42 hl (by decide) rfl (fun ls hl => ?_)
            refine lv_iconst (v := 0) hx hb dX11_seasonAt_44 (by decide) ?_
            refine lv_istore (lv' := [(5, .int 0), (4, .int 1), (2, .int v903), (7, .int 1), (6, .int 2), (3, .int 9), (0, .int p0), (1, .int p1)]) hx hb dX11_seasonAt_45 hl (by decide) rfl (fun ls hl => ?_)
            refine lv_iload_n hx hb dX11_seasonAt_47 rfl (lv_at hl 5 rfl) ?_
            refine lv_iload hx hb dX11_seasonAt_48 (lv_at hl 0 rfl) ?_
            refine lv_ishr hx hb dX11_seasonAt_50 ?_
            refine lv_topi (fun z905 ez905 => ?_)
            obtain rfl : z905 = 9 := ez905.trans (by decide)
            refine lv_iconst (v := 1) hx hb dX11_seasonAt_51 (by decide) ?_
            refine lv_iand hx hb dX11_seasonAt_52 ?_
            refine lv_topi (fun z906 ez906 => ?_)
            obtain rfl : z906 = 1 := ez906.trans (by decide)
            refine lv_if_eq (tgt := 61) hx hb dX11_seasonAt_53 (by decide) (fun c907 => ?_) (fun c907 => ?_)
            · exact absurd c907 (by decide)
            refine lv_iload hx hb dX11_seasonAt_56 (lv_at hl 3 rfl) ?_
            refine lv_if_le (tgt := 78) hx hb dX11_seasonAt_58 (by decide) (fun c908 => ?_) (fun c908 => ?_)
            · exact absurd c908 (by decide)
            refine lv_iload hx hb dX11_seasonAt_61 (lv_at hl 3 rfl) ?_
            refine lv_iload_n hx hb dX11_seasonAt_63 rfl (lv_at hl 5 rfl) ?_
            refine lv_iload hx hb dX11_seasonAt_64 (lv_at hl 0 rfl) ?_
            refine lv_ishr hx hb dX11_seasonAt_66 ?_
            refine lv_topi (fun z909 ez909 => ?_)
            obtain rfl : z909 = 9 := ez909.trans (by decide)
            refine lv_iconst (v := 1) hx hb dX11_seasonAt_67 (by decide) ?_
            refine lv_iand hx hb dX11_seasonAt_68 ?_
            refine lv_topi (fun z910 ez910 => ?_)
            obtain rfl : z910 = 1 := ez910.trans (by decide)
            refine lv_isub hx hb dX11_seasonAt_69 ?_
            refine lv_topi (fun z911 ez911 => ?_)
            obtain rfl : z911 = 0 := ez911.trans (by decide)
            refine lv_istore (lv' := [(7, .int 0), (5, .int 0), (4, .int 1), (2, .int v903), (6, .int 2), (3, .int 9), (0, .int p0), (1, .int p1)]) hx hb dX11_seasonAt_70 hl (by decide) rfl (fun ls hl => ?_)
            refine lv_iinc (v := 1) (lv' := [(5, .int 1), (7, .int 0), (4, .int 1), (2, .int v903), (6, .int 2), (3, .int 9), (0, .int p0), (1, .int p1)]) hx hb dX11_seasonAt_72 hl (k := 1) rfl (by decide) (by decide) rfl (fun ls hl => ?_)
            refine lv_goto (tgt := 47) hx hb dX11_seasonAt_75 (by decide) ?_
            refine lv_iload_n hx hb dX11_seasonAt_47 rfl (lv_at hl 5 rfl) ?_
            refine lv_iload hx hb dX11_seasonAt_48 (lv_at hl 0 rfl) ?_
            refine lv_ishr hx hb dX11_seasonAt_50 ?_
            refine lv_topi (fun z912 ez912 => ?_)
            obtain rfl : z912 = 4 := ez912.trans (by decide)
            refine lv_iconst (v := 1) hx hb dX11_seasonAt_51 (by decide) ?_
            refine lv_iand hx hb dX11_seasonAt_52 ?_
            refine lv_topi (fun z913 ez913 => ?_)
            obtain rfl : z913 = 0 := ez913.trans (by decide)
            refine lv_if_eq (tgt := 61) hx hb dX11_seasonAt_53 (by decide) (fun c914 => ?_) (fun c914 => ?_)
            rotate_left
            · exact absurd c914 (by decide)
            refine lv_iload hx hb dX11_seasonAt_61 (lv_at hl 1 rfl) ?_
            refine lv_iload_n hx hb dX11_seasonAt_63 rfl (lv_at hl 5 rfl) ?_
            refine lv_iload hx hb dX11_seasonAt_64 (lv_at hl 0 rfl) ?_
            refine lv_ishr hx hb dX11_seasonAt_66 ?_
            refine lv_topi (fun z915 ez915 => ?_)
            obtain rfl : z915 = 4 := ez915.trans (by decide)
            refine lv_iconst (v := 1) hx hb dX11_seasonAt_67 (by decide) ?_
            refine lv_iand hx hb dX11_seasonAt_68 ?_
            refine lv_topi (fun z916 ez916 => ?_)
            obtain rfl : z916 = 0 := ez916.trans (by decide)
            refine lv_isub hx hb dX11_seasonAt_69 ?_
            refine lv_topi (fun z917 ez917 => ?_)
            obtain rfl : z917 = 0 := ez917.trans (by decide)
            refine lv_istore (lv' := [(7, .int 0), (5, .int 1), (4, .int 1), (2, .int v903), (6, .int 2), (3, .int 9), (0, .int p0), (1, .int p1)]) hx hb dX11_seasonAt_70 hl (by decide) rfl (fun ls hl => ?_)
            refine lv_iinc (v := 2) (lv' := [(5, .int 2), (7, .int 0), (4, .int 1), (2, .int v903), (6, .int 2), (3, .int 9), (0, .int p0), (1, .int p1)]) hx hb dX11_seasonAt_72 hl (k := 1) rfl (by decide) (by decide) rfl (fun ls hl => ?_)
            refine lv_goto (tgt := 47) hx hb dX11_seasonAt_75 (by decide) ?_
            refine lv_iload_n hx hb dX11_seasonAt_47 rfl (lv_at hl 5 rfl) ?_
            refine lv_iload hx hb dX11_seasonAt_48 (lv_at hl 0 rfl) ?_
            refine lv_ishr hx hb dX11_seasonAt_50 ?_
            refine lv_topi (fun z918 ez918 => ?_)
            obtain rfl : z918 = 2 := ez918.trans (by decide)
            refine lv_iconst (v := 1) hx hb dX11_seasonAt_51 (by decide) ?_
            refine lv_iand hx hb dX11_seasonAt_52 ?_
            refine lv_topi (fun z919 ez919 => ?_)
            obtain rfl : z919 = 0 := ez919.trans (by decide)
            refine lv_if_eq (tgt := 61) hx hb dX11_seasonAt_53 (by decide) (fun c920 => ?_) (fun c920 => ?_)
            rotate_left
            · exact absurd c920 (by decide)
            refine lv_iload hx hb dX11_seasonAt_61 (lv_at hl 1 rfl) ?_
            refine lv_iload_n hx hb dX11_seasonAt_63 rfl (lv_at hl 5 rfl) ?_
            refine lv_iload hx hb dX11_seasonAt_64 (lv_at hl 0 rfl) ?_
            refine lv_ishr hx hb dX11_seasonAt_66 ?_
            refine lv_topi (fun z921 ez921 => ?_)
            obtain rfl : z921 = 2 := ez921.trans (by decide)
            refine lv_iconst (v := 1) hx hb dX11_seasonAt_67 (by decide) ?_
            refine lv_iand hx hb dX11_seasonAt_68 ?_
            refine lv_topi (fun z922 ez922 => ?_)
            obtain rfl : z922 = 0 := ez922.trans (by decide)
            refine lv_isub hx hb dX11_seasonAt_69 ?_
            refine lv_topi (fun z923 ez923 => ?_)
            obtain rfl : z923 = 0 := ez923.trans (by decide)
            refine lv_istore (lv' := [(7, .int 0), (5, .int 2), (4, .int 1), (2, .int v903), (6, .int 2), (3, .int 9), (0, .int p0), (1, .int p1)]) hx hb dX11_seasonAt_70 hl (by decide) rfl (fun ls hl => ?_)
            refine lv_iinc (v := 3) (lv' := [(5, .int 3), (7, .int 0), (4, .int 1), (2, .int v903), (6, .int 2), (3, .int 9), (0, .int p0), (1, .int p1)]) hx hb dX11_seasonAt_72 hl (k := 1) rfl (by decide) (by decide) rfl (fun ls hl => ?_)
            refine lv_goto (tgt := 47) hx hb dX11_seasonAt_75 (by decide) ?_
            refine lv_iload_n hx hb dX11_seasonAt_47 rfl (lv_at hl 5 rfl) ?_
            refine lv_iload hx hb dX11_seasonAt_48 (lv_at hl 0 rfl) ?_
            refine lv_ishr hx hb dX11_seasonAt_50 ?_
            refine lv_topi (fun z924 ez924 => ?_)
            obtain rfl : z924 = 1 := ez924.trans (by decide)
            refine lv_iconst (v := 1) hx hb dX11_seasonAt_51 (by decide) ?_
            refine lv_iand hx hb dX11_seasonAt_52 ?_
            refine lv_topi (fun z925 ez925 => ?_)
            obtain rfl : z925 = 1 := ez925.trans (by decide)
            refine lv_if_eq (tgt := 61) hx hb dX11_seasonAt_53 (by decide) (fun c926 => ?_) (fun c926 => ?_)
            · exact absurd c926 (by decide)
            refine lv_iload hx hb dX11_seasonAt_56 (lv_at hl 1 rfl) ?_
            refine lv_if_le (tgt := 78) hx hb dX11_seasonAt_58 (by decide) (fun c927 => ?_) (fun c927 => ?_)
            rotate_left
            · exact absurd c927 (by decide)
            refine lv_iload_n hx hb dX11_seasonAt_78 rfl (lv_at hl 5 rfl) ?_
            refine lv_iconst (v := 1) hx hb dX11_seasonAt_79 (by decide) ?_
            refine lv_iload hx hb dX11_seasonAt_80 (lv_at hl 0 rfl) ?_
            refine lv_ishl hx hb dX11_seasonAt_82 ?_
            refine lv_topi (fun z928 ez928 => ?_)
            obtain rfl : z928 = 8 := ez928.trans (by decide)
            refine lv_iconst (v := (-1)) hx hb dX11_seasonAt_83 (by decide) ?_
            refine lv_ixor hx hb dX11_seasonAt_84 ?_
            refine lv_topi (fun z929 ez929 => ?_)
            obtain rfl : z929 = (-9) := ez929.trans (by decide)
            refine lv_iand hx hb dX11_seasonAt_85 ?_
            refine lv_topi (fun z930 ez930 => ?_)
            obtain rfl : z930 = 1 := ez930.trans (by decide)
            refine lv_istore_n (lv' := [(3, .int 1), (5, .int 3), (7, .int 0), (4, .int 1), (2, .int v903), (6, .int 2), (0, .int p0), (1, .int p1)]) hx hb dX11_seasonAt_86 rfl hl (by decide) rfl (fun ls hl => ?_)
            refine lv_iinc (v := 3) (lv' := [(6, .int 3), (3, .int 1), (5, .int 3), (7, .int 0), (4, .int 1), (2, .int v903), (0, .int p0), (1, .int p1)]) hx hb dX11_seasonAt_87 hl (k := 5) rfl (by decide) (by decide) rfl (fun ls hl => ?_)
            refine lv_goto (tgt := 15) hx hb dX11_seasonAt_90 (by decide) ?_
            refine lv_iload hx hb dX11_seasonAt_15 (lv_at hl 0 rfl) ?_
            refine lv_iload_n hx hb dX11_seasonAt_17 rfl (lv_at hl 7 rfl) ?_
            refine lv_icmp_gt (tgt := 93) hx hb dX11_seasonAt_18 (by decide) (fun c931 => ?_) (fun c931 => ?_)
            · skip
              have c931 := i_lt (Eq.refl p1.toInt) (show (3 : Int32).toInt = 3 by decide) c931
              refine lv_iload hx hb dX11_seasonAt_93 (lv_at hl 2 rfl) ?_
              refine W.widen (k := 0) (n := 0) (Nat.le_of_ble_eq_true rfl) (Nat.le_of_ble_eq_true rfl) ?_
              have zi3 : (3 : Int32).toInt = 3 := by decide
              exact W.iret (v := 3) hx hb hr (fun t ht hW => ⟨⟨3, rfl, ((show (0 ≤ (3 : Int32).toInt ∧ (3 : Int32).toInt ≤ 3) by omega)), CB.nil⟩, hS.F ht⟩) hS.2.2 dX11_seasonAt_95
            · skip
              have c931 := i_nlt (Eq.refl p1.toInt) (show (3 : Int32).toInt = 3 by decide) c931
              refine lv_iload_n hx hb dX11_seasonAt_21 rfl (lv_at hl 5 rfl) ?_
              refine lv_iload hx hb dX11_seasonAt_22 (lv_at hl 4 rfl) ?_
              refine lv_idiv hx hb dX11_seasonAt_24 (i_nz (show (1 : Int32).toInt = 1 by decide) (by omega)) ?_
              refine lv_topi (fun v932 ev932 => ?_)
              have hv932 := i_div (Eq.refl v903.toInt) (show (1 : Int32).toInt = 1 by decide) ev932 (by omega) (by omega)
              refine lv_istore (lv' := [(7, .int v932), (6, .int 3), (3, .int 1), (5, .int 3), (4, .int 1), (2, .int v903), (0, .int p0), (1, .int p1)]) hx hb dX11_seasonAt_25 hl (by decide) rfl (fun ls hl => ?_)
              rcases (show v932.toInt = 0 by omega) with c933
              · obtain rfl : v932 = 0 := i_is c933 (by decide)
                refine lv_iload_n hx hb dX11_seasonAt_27 rfl (lv_at hl 5 rfl) ?_
                refine lv_iload hx hb dX11_seasonAt_28 (lv_at hl 4 rfl) ?_
                refine lv_irem hx hb dX11_seasonAt_30 (i_nz (show (1 : Int32).toInt = 1 by decide) (by omega)) ?_
                refine lv_topi (fun v934 ev934 => ?_)
                have hv934 := i_rem (Eq.refl v903.toInt) (show (1 : Int32).toInt = 1 by decide) ev934 (by omega) (by omega)
                refine lv_istore_n (lv' := [(2, .int v934), (7, .int 0), (6, .int 3), (3, .int 1), (5, .int 3), (4, .int 1), (0, .int p0), (1, .int p1)]) hx hb dX11_seasonAt_31 rfl hl (by decide) rfl (fun ls hl => ?_)
                refine lv_iload hx hb dX11_seasonAt_32 (lv_at hl 2 rfl) ?_
                refine lv_if_ne (tgt := 41) hx hb dX11_seasonAt_34 (by decide) (fun c935 => ?_) (fun c935 => ?_)
                rotate_left
                · exact absurd c935 (by decide)
                refine lv_iconst (v := 1) hx hb dX11_seasonAt_41 (by decide) ?_
                refine lv_istore (lv' := [(4, .int 1), (2, .int v934), (7, .int 0), (6, .int 3), (3, .int 1), (5, .int 3), (0, .int p0), (1, .int p1)]) hx hb dX11_seasonAt_42 hl (by decide) rfl (fun ls hl => ?_)
                refine lv_iconst (v := 0) hx hb dX11_seasonAt_44 (by decide) ?_
                refine lv_istore (lv' := [(5, .int 0), (4, .int 1), (2, .int v934), (7, .int 0), (6, .int 3), (3, .int 1), (0, .int p0), (1, .int p1)]) hx hb dX11_seasonAt_45 hl (by decide) rfl (fun ls hl => ?_)
                refine lv_iload_n hx hb dX11_seasonAt_47 rfl (lv_at hl 5 rfl) ?_
                refine lv_iload hx hb dX11_seasonAt_48 (lv_at hl 0 rfl) ?_
                refine lv_ishr hx hb dX11_seasonAt_50 ?_
                refine lv_topi (fun z936 ez936 => ?_)
                obtain rfl : z936 = 1 := ez936.trans (by decide)
                refine lv_iconst (v := 1) hx hb dX11_seasonAt_51 (by decide) ?_
                refine lv_iand hx hb dX11_seasonAt_52 ?_
                refine lv_topi (fun z937 ez937 => ?_)
                obtain rfl : z937 = 1 := ez937.trans (by decide)
                refine lv_if_eq (tgt := 61) hx hb dX11_seasonAt_53 (by decide) (fun c938 => ?_) (fun c938 => ?_)
                · exact absurd c938 (by decide)
                refine lv_iload hx hb dX11_seasonAt_56 (lv_at hl 3 rfl) ?_
                refine lv_if_le (tgt := 78) hx hb dX11_seasonAt_58 (by decide) (fun c939 => ?_) (fun c939 => ?_)
                rotate_left
                · exact absurd c939 (by decide)
                refine lv_iload_n hx hb dX11_seasonAt_78 rfl (lv_at hl 5 rfl) ?_
                refine lv_iconst (v := 1) hx hb dX11_seasonAt_79 (by decide) ?_
                refine lv_iload hx hb dX11_seasonAt_80 (lv_at hl 0 rfl) ?_
                refine lv_ishl hx hb dX11_seasonAt_82 ?_
                refine lv_topi (fun z940 ez940 => ?_)
                obtain rfl : z940 = 1 := ez940.trans (by decide)
                refine lv_iconst (v := (-1)) hx hb dX11_seasonAt_83 (by decide) ?_
                refine lv_ixor hx hb dX11_seasonAt_84 ?_
                refine lv_topi (fun z941 ez941 => ?_)
                obtain rfl : z941 = (-2) := ez941.trans (by decide)
                refine lv_iand hx hb dX11_seasonAt_85 ?_
                refine lv_topi (fun z942 ez942 => ?_)
                obtain rfl : z942 = 0 := ez942.trans (by decide)
                refine lv_istore_n (lv' := [(3, .int 0), (5, .int 0), (4, .int 1), (2, .int v934), (7, .int 0), (6, .int 3), (0, .int p0), (1, .int p1)]) hx hb dX11_seasonAt_86 rfl hl (by decide) rfl (fun ls hl => ?_)
                refine lv_iinc (v := 4) (lv' := [(6, .int 4), (3, .int 0), (5, .int 0), (4, .int 1), (2, .int v934), (7, .int 0), (0, .int p0), (1, .int p1)]) hx hb dX11_seasonAt_87 hl (k := 5) rfl (by decide) (by decide) rfl (fun ls hl => ?_)
                refine lv_goto (tgt := 15) hx hb dX11_seasonAt_90 (by decide) ?_
                refine lv_iload hx hb dX11_seasonAt_15 (lv_at hl 0 rfl) ?_
                refine lv_iload_n hx hb dX11_seasonAt_17 rfl (lv_at hl 7 rfl) ?_
                refine lv_icmp_gt (tgt := 93) hx hb dX11_seasonAt_18 (by decide) (fun c943 => ?_) (fun c943 => ?_)
                rotate_left
                · have c943 := i_nlt (Eq.refl p1.toInt) (show (4 : Int32).toInt = 4 by decide) c943; exfalso; omega
                have c943 := i_lt (Eq.refl p1.toInt) (show (4 : Int32).toInt = 4 by decide) c943
                refine lv_iload hx hb dX11_seasonAt_93 (lv_at hl 2 rfl) ?_
                refine W.widen (k := 0) (n := 0) (Nat.le_of_ble_eq_true rfl) (Nat.le_of_ble_eq_true rfl) ?_
                have zi0 : (0 : Int32).toInt = 0 := by decide
                exact W.iret (v := 0) hx hb hr (fun t ht hW => ⟨⟨0, rfl, ((show (0 ≤ (0 : Int32).toInt ∧ (0 : Int32).toInt ≤ 3) by omega)), CB.nil⟩, hS.F ht⟩) hS.2.2 dX11_seasonAt_95
      · obtain rfl : v737 = 2 := i_is c738 (by decide)
        refine lv_iload_n hx hb dX11_seasonAt_27 rfl (lv_at hl 5 rfl) ?_
        refine lv_iload hx hb dX11_seasonAt_28 (lv_at hl 4 rfl) ?_
        refine lv_irem hx hb dX11_seasonAt_30 (i_nz (show (2 : Int32).toInt = 2 by decide) (by omega)) ?_
        refine lv_topi (fun v944 ev944 => ?_)
        have hv944 := i_rem (Eq.refl v713.toInt) (show (2 : Int32).toInt = 2 by decide) ev944 (by omega) (by omega)
        refine lv_istore_n (lv' := [(2, .int v944), (7, .int 2), (6, .int 1), (3, .int 11), (5, .int 2), (4, .int 2), (0, .int p0), (1, .int p1)]) hx hb dX11_seasonAt_31 rfl hl (by decide) rfl (fun ls hl => ?_)
        refine lv_iload hx hb dX11_seasonAt_32 (lv_at hl 2 rfl) ?_
        refine lv_if_ne (tgt := 41) hx hb dX11_seasonAt_34 (by decide) (fun c945 => ?_) (fun c945 => ?_)
        rotate_left
        · exact absurd c945 (by decide)
        refine lv_iconst (v := 1) hx hb dX11_seasonAt_41 (by decide) ?_
        refine lv_istore (lv' := [(4, .int 1), (2, .int v944), (7, .int 2), (6, .int 1), (3, .int 11), (5, .int 2), (0, .int p0), (1, .int p1)]) hx hb dX11_seasonAt_42 hl (by decide) rfl (fun ls hl => ?_)
        refine lv_iconst (v := 0) hx hb dX11_seasonAt_44 (by decide) ?_
        refine lv_istore (lv' := [(5, .int 0), (4, .int 1), (2, .int v944), (7, .int 2), (6, .int 1), (3, .int 11), (0, .int p0), (1, .int p1)]) hx hb dX11_seasonAt_45 hl (by decide) rfl (fun ls hl => ?_)
        refine lv_iload_n hx hb dX11_seasonAt_47 rfl (lv_at hl 5 rfl) ?_
        refine lv_iload hx hb dX11_seasonAt_48 (lv_at hl 0 rfl) ?_
        refine lv_ishr hx hb dX11_seasonAt_50 ?_
        refine lv_topi (fun z946 ez946 => ?_)
        obtain rfl : z946 = 11 := ez946.trans (by decide)
        refine lv_iconst (v := 1) hx hb dX11_seasonAt_51 (by decide) ?_
        refine lv_iand hx hb dX11_seasonAt_52 ?_
        refine lv_topi (fun z947 ez947 => ?_)
        obtain rfl : z947 = 1 := ez947.trans (by decide)
        refine lv_if_eq (tgt := 61) hx hb dX11_seasonAt_53 (by decide) (fun c948 => ?_) (fun c948 => ?_)
        · exact absurd c948 (by decide)
        refine lv_iload hx hb dX11_seasonAt_56 (lv_at hl 3 rfl) ?_
        refine lv_if_le (tgt := 78) hx hb dX11_seasonAt_58 (by decide) (fun c949 => ?_) (fun c949 => ?_)
        · exact absurd c949 (by decide)
        refine lv_iload hx hb dX11_seasonAt_61 (lv_at hl 3 rfl) ?_
        refine lv_iload_n hx hb dX11_seasonAt_63 rfl (lv_at hl 5 rfl) ?_
        refine lv_iload hx hb dX11_seasonAt_64 (lv_at hl 0 rfl) ?_
        refine lv_ishr hx hb dX11_seasonAt_66 ?_
        refine lv_topi (fun z950 ez950 => ?_)
        obtain rfl : z950 = 11 := ez950.trans (by decide)
        refine lv_iconst (v := 1) hx hb dX11_seasonAt_67 (by decide) ?_
        refine lv_iand hx hb dX11_seasonAt_68 ?_
        refine lv_topi (fun z951 ez951 => ?_)
        obtain rfl : z951 = 1 := ez951.trans (by decide)
        refine lv_isub hx hb dX11_seasonAt_69 ?_
        refine lv_topi (fun z952 ez952 => ?_)
        obtain rfl : z952 = 1 := ez952.trans (by decide)
        refine lv_istore (lv' := [(7, .int 1), (5, .int 0), (4, .int 1), (2, .int v944), (6, .int 1), (3, .int 11), (0, .int p0), (1, .int p1)]) hx hb dX11_seasonAt_70 hl (by decide) rfl (fun ls hl => ?_)
        refine lv_iinc (v := 1) (lv' := [(5, .int 1), (7, .int 1), (4, .int 1), (2, .int v944), (6, .int 1), (3, .int 11), (0, .int p0), (1, .int p1)]) hx hb dX11_seasonAt_72 hl (k := 1) rfl (by decide) (by decide) rfl (fun ls hl => ?_)
        refine lv_goto (tgt := 47) hx hb dX11_seasonAt_75 (by decide) ?_
        refine lv_iload_n hx hb dX11_seasonAt_47 rfl (lv_at hl 5 rfl) ?_
        refine lv_iload hx hb dX11_seasonAt_48 (lv_at hl 0 rfl) ?_
        refine lv_ishr hx hb dX11_seasonAt_50 ?_
        refine lv_topi (fun z953 ez953 => ?_)
        obtain rfl : z953 = 5 := ez953.trans (by decide)
        refine lv_iconst (v := 1) hx hb dX11_seasonAt_51 (by decide) ?_
        refine lv_iand hx hb dX11_seasonAt_52 ?_
        refine lv_topi (fun z954 ez954 => ?_)
        obtain rfl : z954 = 1 := ez954.trans (by decide)
        refine lv_if_eq (tgt := 61) hx hb dX11_seasonAt_53 (by decide) (fun c955 => ?_) (fun c955 => ?_)
        · exact absurd c955 (by decide)
        refine lv_iload hx hb dX11_seasonAt_56 (lv_at hl 1 rfl) ?_
        refine lv_if_le (tgt := 78) hx hb dX11_seasonAt_58 (by decide) (fun c956 => ?_) (fun c956 => ?_)
        · exact absurd c956 (by decide)
        refine lv_iload hx hb dX11_seasonAt_61 (lv_at hl 1 rfl) ?_
        refine lv_iload_n hx hb dX11_seasonAt_63 rfl (lv_at hl 5 rfl) ?_
        refine lv_iload hx hb dX11_seasonAt_64 (lv_at hl 0 rfl) ?_
        refine lv_ishr hx hb dX11_seasonAt_66 ?_
        refine lv_topi (fun z957 ez957 => ?_)
        obtain rfl : z957 = 5 := ez957.trans (by decide)
        refine lv_iconst (v := 1) hx hb dX11_seasonAt_67 (by decide) ?_
        refine lv_iand hx hb dX11_seasonAt_68 ?_
        refine lv_topi (fun z958 ez958 => ?_)
        obtain rfl : z958 = 1 := ez958.trans (by decide)
        refine lv_isub hx hb dX11_seasonAt_69 ?_
        refine lv_topi (fun z959 ez959 => ?_)
        obtain rfl : z959 = 0 := ez959.trans (by decide)
        refine lv_istore (lv' := [(7, .int 0), (5, .int 1), (4, .int 1), (2, .int v944), (6, .int 1), (3, .int 11), (0, .int p0), (1, .int p1)]) hx hb dX11_seasonAt_70 hl (by decide) rfl (fun ls hl => ?_)
        refine lv_iinc (v := 2) (lv' := [(5, .int 2), (7, .int 0), (4, .int 1), (2, .int v944), (6, .int 1), (3, .int 11), (0, .int p0), (1, .int p1)]) hx hb dX11_seasonAt_72 hl (k := 1) rfl (by decide) (by decide) rfl (fun ls hl => ?_)
        refine lv_goto (tgt := 47) hx hb dX11_seasonAt_75 (by decide) ?_
        refine lv_iload_n hx hb dX11_seasonAt_47 rfl (lv_at hl 5 rfl) ?_
        refine lv_iload hx hb dX11_seasonAt_48 (lv_at hl 0 rfl) ?_
        refine lv_ishr hx hb dX11_seasonAt_50 ?_
        refine lv_topi (fun z960 ez960 => ?_)
        obtain rfl : z960 = 2 := ez960.trans (by decide)
        refine lv_iconst (v := 1) hx hb dX11_seasonAt_51 (by decide) ?_
        refine lv_iand hx hb dX11_seasonAt_52 ?_
        refine lv_topi (fun z961 ez961 => ?_)
        obtain rfl : z961 = 0 := ez961.trans (by decide)
        refine lv_if_eq (tgt := 61) hx hb dX11_seasonAt_53 (by decide) (fun c962 => ?_) (fun c962 => ?_)
        rotate_left
        · exact absurd c962 (by decide)
        refine lv_iload hx hb dX11_seasonAt_61 (lv_at hl 1 rfl) ?_
        refine lv_iload_n hx hb dX11_seasonAt_63 rfl (lv_at hl 5 rfl) ?_
        refine lv_iload hx hb dX11_seasonAt_64 (lv_at hl 0 rfl) ?_
        refine lv_ishr hx hb dX11_seasonAt_66 ?_
        refine lv_topi (fun z963 ez963 => ?_)
        obtain rfl : z963 = 2 := ez963.trans (by decide)
        refine lv_iconst (v := 1) hx hb dX11_seasonAt_67 (by decide) ?_
        refine lv_iand hx hb dX11_seasonAt_68 ?_
        refine lv_topi (fun z964 ez964 => ?_)
        obtain rfl : z964 = 0 := ez964.trans (by decide)
        refine lv_isub hx hb dX11_seasonAt_69 ?_
        refine lv_topi (fun z965 ez965 => ?_)
        obtain rfl : z965 = 0 := ez965.trans (by decide)
        refine lv_istore (lv' := [(7, .int 0), (5, .int 2), (4, .int 1), (2, .int v944), (6, .int 1), (3, .int 11), (0, .int p0), (1, .int p1)]) hx hb dX11_seasonAt_70 hl (by decide) rfl (fun ls hl => ?_)
        refine lv_iinc (v := 3) (lv' := [(5, .int 3), (7, .int 0), (4, .int 1), (2, .int v944), (6, .int 1), (3, .int 11), (0, .int p0), (1, .int p1)]) hx hb dX11_seasonAt_72 hl (k := 1) rfl (by decide) (by decide) rfl (fun ls hl => ?_)
        refine lv_goto (tgt := 47) hx hb dX11_seasonAt_75 (by decide) ?_
        refine lv_iload_n hx hb dX11_seasonAt_47 rfl (lv_at hl 5 rfl) ?_
        refine lv_iload hx hb dX11_seasonAt_48 (lv_at hl 0 rfl) ?_
        refine lv_ishr hx hb dX11_seasonAt_50 ?_
        refine lv_topi (fun z966 ez966 => ?_)
        obtain rfl : z966 = 1 := ez966.trans (by decide)
        refine lv_iconst (v := 1) hx hb dX11_seasonAt_51 (by decide) ?_
        refine lv_iand hx hb dX11_seasonAt_52 ?_
        refine lv_topi (fun z967 ez967 => ?_)
        obtain rfl : z967 = 1 := ez967.trans (by decide)
        refine lv_if_eq (tgt := 61) hx hb dX11_seasonAt_53 (by decide) (fun c968 => ?_) (fun c968 => ?_)
        · exact absurd c968 (by decide)
        refine lv_iload hx hb dX11_seasonAt_56 (lv_at hl 1 rfl) ?_
        refine lv_if_le (tgt := 78) hx hb dX11_seasonAt_58 (by decide) (fun c969 => ?_) (fun c969 => ?_)
        rotate_left
        · exact absurd c969 (by decide)
        refine lv_iload_n hx hb dX11_seasonAt_78 rfl (lv_at hl 5 rfl) ?_
        refine lv_iconst (v := 1) hx hb dX11_seasonAt_79 (by decide) ?_
        refine lv_iload hx hb dX11_seasonAt_80 (lv_at hl 0 rfl) ?_
        refine lv_ishl hx hb dX11_seasonAt_82 ?_
        refine lv_topi (fun z970 ez970 => ?_)
        obtain rfl : z970 = 8 := ez970.trans (by decide)
        refine lv_iconst (v := (-1)) hx hb dX11_seasonAt_83 (by decide) ?_
        refine lv_ixor hx hb dX11_seasonAt_84 ?_
        refine lv_topi (fun z971 ez971 => ?_)
        obtain rfl : z971 = (-9) := ez971.trans (by decide)
        refine lv_iand hx hb dX11_seasonAt_85 ?_
        refine lv_topi (fun z972 ez972 => ?_)
        obtain rfl : z972 = 3 := ez972.trans (by decide)
        refine lv_istore_n (lv' := [(3, .int 3), (5, .int 3), (7, .int 0), (4, .int 1), (2, .int v944), (6, .int 1), (0, .int p0), (1, .int p1)]) hx hb dX11_seasonAt_86 rfl hl (by decide) rfl (fun ls hl => ?_)
        refine lv_iinc (v := 2) (lv' := [(6, .int 2), (3, .int 3), (5, .int 3), (7, .int 0), (4, .int 1), (2, .int v944), (0, .int p0), (1, .int p1)]) hx hb dX11_seasonAt_87 hl (k := 5) rfl (by decide) (by decide) rfl (fun ls hl => ?_)
        refine lv_goto (tgt := 15) hx hb dX11_seasonAt_90 (by decide) ?_
        refine lv_iload hx hb dX11_seasonAt_15 (lv_at hl 0 rfl) ?_
        refine lv_iload_n hx hb dX11_seasonAt_17 rfl (lv_at hl 7 rfl) ?_
        refine lv_icmp_gt (tgt := 93) hx hb dX11_seasonAt_18 (by decide) (fun c973 => ?_) (fun c973 => ?_)
        · skip
          have c973 := i_lt (Eq.refl p1.toInt) (show (2 : Int32).toInt = 2 by decide) c973
          refine lv_iload hx hb dX11_seasonAt_93 (lv_at hl 2 rfl) ?_
          refine W.widen (k := 0) (n := 0) (Nat.le_of_ble_eq_true rfl) (Nat.le_of_ble_eq_true rfl) ?_
          have zi3 : (3 : Int32).toInt = 3 := by decide
          exact W.iret (v := 3) hx hb hr (fun t ht hW => ⟨⟨3, rfl, ((show (0 ≤ (3 : Int32).toInt ∧ (3 : Int32).toInt ≤ 3) by omega)), CB.nil⟩, hS.F ht⟩) hS.2.2 dX11_seasonAt_95
        · skip
          have c973 := i_nlt (Eq.refl p1.toInt) (show (2 : Int32).toInt = 2 by decide) c973
          refine lv_iload_n hx hb dX11_seasonAt_21 rfl (lv_at hl 5 rfl) ?_
          refine lv_iload hx hb dX11_seasonAt_22 (lv_at hl 4 rfl) ?_
          have zi1 : (1 : Int32).toInt = 1 := by decide
          refine lv_idiv hx hb dX11_seasonAt_24 (i_nz (show (1 : Int32).toInt = 1 by decide) (by omega)) ?_
          refine lv_topi (fun v974 ev974 => ?_)
          have hv974 := i_div (Eq.refl v944.toInt) (show (1 : Int32).toInt = 1 by decide) ev974 (by omega) (by omega)
          refine lv_istore (lv' := [(7, .int v974), (6, .int 2), (3, .int 3), (5, .int 3), (4, .int 1), (2, .int v944), (0, .int p0), (1, .int p1)]) hx hb dX11_seasonAt_25 hl (by decide) rfl (fun ls hl => ?_)
          rcases (show v974.toInt = 0 ∨ v974.toInt = 1 by omega) with c975 | c975
          · obtain rfl : v974 = 0 := i_is c975 (by decide)
            refine lv_iload_n hx hb dX11_seasonAt_27 rfl (lv_at hl 5 rfl) ?_
            refine lv_iload hx hb dX11_seasonAt_28 (lv_at hl 4 rfl) ?_
            refine lv_irem hx hb dX11_seasonAt_30 (i_nz (show (1 : Int32).toInt = 1 by decide) (by omega)) ?_
            refine lv_topi (fun v976 ev976 => ?_)
            have hv976 := i_rem (Eq.refl v944.toInt) (show (1 : Int32).toInt = 1 by decide) ev976 (by omega) (by omega)
            refine lv_istore_n (lv' := [(2, .int v976), (7, .int 0), (6, .int 2), (3, .int 3), (5, .int 3), (4, .int 1), (0, .int p0), (1, .int p1)]) hx hb dX11_seasonAt_31 rfl hl (by decide) rfl (fun ls hl => ?_)
            refine lv_iload hx hb dX11_seasonAt_32 (lv_at hl 2 rfl) ?_
            refine lv_if_ne (tgt := 41) hx hb dX11_seasonAt_34 (by decide) (fun c977 => ?_) (fun c977 => ?_)
            rotate_left
            · exact absurd c977 (by decide)
            refine lv_iconst (v := 1) hx hb dX11_seasonAt_41 (by decide) ?_
            refine lv_istore (lv' := [(4, .int 1), (2, .int v976), (7, .int 0), (6, .int 2), (3, .int 3), (5, .int 3), (0, .int p0), (1, .int p1)]) hx hb dX11_seasonAt_42 hl (by decide) rfl (fun ls hl => ?_)
            refine lv_iconst (v := 0) hx hb dX11_seasonAt_44 (by decide) ?_
            refine lv_istore (lv' := [(5, .int 0), (4, .int 1), (2, .int v976), (7, .int 0), (6, .int 2), (3, .int 3), (0, .int p0), (1, .int p1)]) hx hb dX11_seasonAt_45 hl (by decide) rfl (fun ls hl => ?_)
            refine lv_iload_n hx hb dX11_seasonAt_47 rfl (lv_at hl 5 rfl) ?_
            refine lv_iload hx hb dX11_seasonAt_48 (lv_at hl 0 rfl) ?_
            refine lv_ishr hx hb dX11_seasonAt_50 ?_
            refine lv_topi (fun z978 ez978 => ?_)
            obtain rfl : z978 = 3 := ez978.trans (by decide)
            refine lv_iconst (v := 1) hx hb dX11_seasonAt_51 (by decide) ?_
            refine lv_iand hx hb dX11_seasonAt_52 ?_
            refine lv_topi (fun z979 ez979 => ?_)
            obtain rfl : z979 = 1 := ez979.trans (by decide)
            refine lv_if_eq (tgt := 61) hx hb dX11_seasonAt_53 (by decide) (fun c980 => ?_) (fun c980 => ?_)
            · exact absurd c980 (by decide)
            refine lv_iload hx hb dX11_seasonAt_56 (lv_at hl 3 rfl) ?_
            refine lv_if_le (tgt := 78) hx hb dX11_seasonAt_58 (by decide) (fun c981 => ?_) (fun c981 => ?_)
            rotate_left
            · exact absurd c981 (by decide)
            refine lv_iload_n hx hb dX11_seasonAt_78 rfl (lv_at hl 5 rfl) ?_
            refine lv_iconst (v := 1) hx hb dX11_seasonAt_79 (by decide) ?_
            refine lv_iload hx hb dX11_seasonAt_80 (lv_at hl 0 rfl) ?_
            refine lv_ishl hx hb dX11_seasonAt_82 ?_
            refine lv_topi (fun z982 ez982 => ?_)
            obtain rfl : z982 = 1 := ez982.trans (by decide)
            refine lv_iconst (v := (-1)) hx hb dX11_seasonAt_83 (by decide) ?_
            refine lv_ixor hx hb dX11_seasonAt_84 ?_
            refine lv_topi (fun z983 ez983 => ?_)
            obtain rfl : z983 = (-2) := ez983.trans (by decide)
            refine lv_iand hx hb dX11_seasonAt_85 ?_
            refine lv_topi (fun z984 ez984 => ?_)
            obtain rfl : z984 = 2 := ez984.trans (by decide)
            refine lv_istore_n (lv' := [(3, .int 2), (5, .int 0), (4, .int 1), (2, .int v976), (7, .int 0), (6, .int 2), (0, .int p0), (1, .int p1)]) hx hb dX11_seasonAt_86 rfl hl (by decide) rfl (fun ls hl => ?_)
            refine lv_iinc (v := 3) (lv' := [(6, .int 3), (3, .int 2), (5, .int 0), (4, .int 1), (2, .int v976), (7, .int 0), (0, .int p0), (1, .int p1)]) hx hb dX11_seasonAt_87 hl (k := 5) rfl (by decide) (by decide) rfl (fun ls hl => ?_)
            refine lv_goto (tgt := 15) hx hb dX11_seasonAt_90 (by decide) ?_
            refine lv_iload hx hb dX11_seasonAt_15 (lv_at hl 0 rfl) ?_
            refine lv_iload_n hx hb dX11_seasonAt_17 rfl (lv_at hl 7 rfl) ?_
            refine lv_icmp_gt (tgt := 93) hx hb dX11_seasonAt_18 (by decide) (fun c985 => ?_) (fun c985 => ?_)
            · skip
              have c985 := i_lt (Eq.refl p1.toInt) (show (3 : Int32).toInt = 3 by decide) c985
              refine lv_iload hx hb dX11_seasonAt_93 (lv_at hl 2 rfl) ?_
              refine W.widen (k := 0) (n := 0) (Nat.le_of_ble_eq_true rfl) (Nat.le_of_ble_eq_true rfl) ?_
              have zi0 : (0 : Int32).toInt = 0 := by decide
              exact W.iret (v := 0) hx hb hr (fun t ht hW => ⟨⟨0, rfl, ((show (0 ≤ (0 : Int32).toInt ∧ (0 : Int32).toInt ≤ 3) by omega)), CB.nil⟩, hS.F ht⟩) hS.2.2 dX11_seasonAt_95
            · skip
              have c985 := i_nlt (Eq.refl p1.toInt) (show (3 : Int32).toInt = 3 by decide) c985
              refine lv_iload_n hx hb dX11_seasonAt_21 rfl (lv_at hl 4 rfl) ?_
              refine lv_iload hx hb dX11_seasonAt_22 (lv_at hl 3 rfl) ?_
              refine lv_idiv hx hb dX11_seasonAt_24 (i_nz (show (1 : Int32).toInt = 1 by decide) (by omega)) ?_
              refine lv_topi (fun v986 ev986 => ?_)
              have hv986 := i_div (Eq.refl v976.toInt) (show (1 : Int32).toInt = 1 by decide) ev986 (by omega) (by omega)
              refine lv_istore (lv' := [(7, .int v986), (6, .int 3), (3, .int 2), (5, .int 0), (4, .int 1), (2, .int v976), (0, .int p0), (1, .int p1)]) hx hb dX11_seasonAt_25 hl (by decide) rfl (fun ls hl => ?_)
              rcases (show v986.toInt = 0 by omega) with c987
              · obtain rfl : v986 = 0 := i_is c987 (by decide)
                refine lv_iload_n hx hb dX11_seasonAt_27 rfl (lv_at hl 5 rfl) ?_
                refine lv_iload hx hb dX11_seasonAt_28 (lv_at hl 4 rfl) ?_
                refine lv_irem hx hb dX11_seasonAt_30 (i_nz (show (1 : Int32).toInt = 1 by decide) (by omega)) ?_
                refine lv_topi (fun v988 ev988 => ?_)
                have hv988 := i_rem (Eq.refl v976.toInt) (show (1 : Int32).toInt = 1 by decide) ev988 (by omega) (by omega)
                refine lv_istore_n (lv' := [(2, .int v988), (7, .int 0), (6, .int 3), (3, .int 2), (5, .int 0), (4, .int 1), (0, .int p0), (1, .int p1)]) hx hb dX11_seasonAt_31 rfl hl (by decide) rfl (fun ls hl => ?_)
                refine lv_iload hx hb dX11_seasonAt_32 (lv_at hl 2 rfl) ?_
                refine lv_if_ne (tgt := 41) hx hb dX11_seasonAt_34 (by decide) (fun c989 => ?_) (fun c989 => ?_)
                rotate_left
                · exact absurd c989 (by decide)
                refine lv_iconst (v := 1) hx hb dX11_seasonAt_41 (by decide) ?_
                refine lv_istore (lv' := [(4, .int 1), (2, .int v988), (7, .int 0), (6, .int 3), (3, .int 2), (5, .int 0), (0, .int p0), (1, .int p1)]) hx hb dX11_seasonAt_42 hl (by decide) rfl (fun ls hl => ?_)
                refine lv_iconst (v := 0) hx hb dX11_seasonAt_44 (by decide) ?_
                refine lv_istore (lv' := [(5, .int 0), (4, .int 1), (2, .int v988), (7, .int 0), (6, .int 3), (3, .int 2), (0, .int p0), (1, .int p1)]) hx hb dX11_seasonAt_45 hl (by decide) rfl (fun ls hl => ?_)
                refine lv_iload_n hx hb dX11_seasonAt_47 rfl (lv_at hl 5 rfl) ?_
                refine lv_iload hx hb dX11_seasonAt_48 (lv_at hl 0 rfl) ?_
                refine lv_ishr hx hb dX11_seasonAt_50 ?_
                refine lv_topi (fun z990 ez990 => ?_)
                obtain rfl : z990 = 2 := ez990.trans (by decide)
                refine lv_iconst (v := 1) hx hb dX11_seasonAt_51 (by decide) ?_
                refine lv_iand hx hb dX11_seasonAt_52 ?_
                refine lv_topi (fun z991 ez991 => ?_)
                obtain rfl : z991 = 0 := ez991.trans (by decide)
                refine lv_if_eq (tgt := 61) hx hb dX11_seasonAt_53 (by decide) (fun c992 => ?_) (fun c992 => ?_)
                rotate_left
                · exact absurd c992 (by decide)
                refine lv_iload hx hb dX11_seasonAt_61 (lv_at hl 3 rfl) ?_
                refine lv_iload_n hx hb dX11_seasonAt_63 rfl (lv_at hl 5 rfl) ?_
                refine lv_iload hx hb dX11_seasonAt_64 (lv_at hl 0 rfl) ?_
                refine lv_ishr hx hb dX11_seasonAt_66 ?_
                refine lv_topi (fun z993 ez993 => ?_)
                obtain rfl : z993 = 2 := ez993.trans (by decide)
                refine lv_iconst (v := 1) hx hb dX11_seasonAt_67 (by decide) ?_
                refine lv_iand hx hb dX11_seasonAt_68 ?_
                refine lv_topi (fun z994 ez994 => ?_)
                obtain rfl : z994 = 0 := ez994.trans (by decide)
                refine lv_isub hx hb dX11_seasonAt_69 ?_
                refine lv_topi (fun z995 ez995 => ?_)
                obtain rfl : z995 = 0 := ez995.trans (by decide)
                refine lv_istore (lv' := [(7, .int 0), (5, .int 0), (4, .int 1), (2, .int v988), (6, .int 3), (3, .int 2), (0, .int p0), (1, .int p1)]) hx hb dX11_seasonAt_70 hl (by decide) rfl (fun ls hl => ?_)
                refine lv_iinc (v := 1) (lv' := [(5, .int 1), (7, .int 0), (4, .int 1), (2, .int v988), (6, .int 3), (3, .int 2), (0, .int p0), (1, .int p1)]) hx hb dX11_seasonAt_72 hl (k := 1) rfl (by decide) (by decide) rfl (fun ls hl => ?_)
                refine lv_goto (tgt := 47) hx hb dX11_seasonAt_75 (by decide) ?_
                refine lv_iload_n hx hb dX11_seasonAt_47 rfl (lv_at hl 5 rfl) ?_
                refine lv_iload hx hb dX11_seasonAt_48 (lv_at hl 0 rfl) ?_
                refine lv_ishr hx hb dX11_seasonAt_50 ?_
                refine lv_topi (fun z996 ez996 => ?_)
                obtain rfl : z996 = 1 := ez996.trans (by decide)
                refine lv_iconst (v := 1) hx hb dX11_seasonAt_51 (by decide) ?_
                refine lv_iand hx hb dX11_seasonAt_52 ?_
                refine lv_topi (fun z997 ez997 => ?_)
                obtain rfl : z997 = 1 := ez997.trans (by decide)
                refine lv_if_eq (tgt := 61) hx hb dX11_seasonAt_53 (by decide) (fun c998 => ?_) (fun c998 => ?_)
                · exact absurd c998 (by decide)
                refine lv_iload hx hb dX11_seasonAt_56 (lv_at hl 1 rfl) ?_
                refine lv_if_le (tgt := 78) hx hb dX11_seasonAt_58 (by decide) (fun c999 => ?_) (fun c999 => ?_)
                rotate_left
                · exact absurd c999 (by decide)
                refine lv_iload_n hx hb dX11_seasonAt_78 rfl (lv_at hl 5 rfl) ?_
                refine lv_iconst (v := 1) hx hb dX11_seasonAt_79 (by decide) ?_
                refine lv_iload hx hb dX11_seasonAt_80 (lv_at hl 0 rfl) ?_
                refine lv_ishl hx hb dX11_seasonAt_82 ?_
                refine lv_topi (fun z1000 ez1000 => ?_)
                obtain rfl : z1000 = 2 := ez1000.trans (by decide)
                refine lv_iconst (v := (-1)) hx hb dX11_seasonAt_83 (by decide) ?_
                refine lv_ixor hx hb dX11_seasonAt_84 ?_
                refine lv_topi (fun z1001 ez1001 => ?_)
                obtain rfl : z1001 = (-3) := ez1001.trans (by decide)
                refine lv_iand hx hb dX11_seasonAt_85 ?_
                refine lv_topi (fun z1002 ez1002 => ?_)
                obtain rfl : z1002 = 0 := ez1002.trans (by decide)
                refine lv_istore_n (lv' := [(3, .int 0), (5, .int 1), (7, .int 0), (4, .int 1), (2, .int v988), (6, .int 3), (0, .int p0), (1, .int p1)]) hx hb dX11_seasonAt_86 rfl hl (by decide) rfl (fun ls hl => ?_)
                refine lv_iinc (v := 4) (lv' := [(6, .int 4), (3, .int 0), (5, .int 1), (7, .int 0), (4, .int 1), (2, .int v988), (0, .int p0), (1, .int p1)]) hx hb dX11_seasonAt_87 hl (k := 5) rfl (by decide) (by decide) rfl (fun ls hl => ?_)
                refine lv_goto (tgt := 15) hx hb dX11_seasonAt_90 (by decide) ?_
                refine lv_iload hx hb dX11_seasonAt_15 (lv_at hl 0 rfl) ?_
                refine lv_iload_n hx hb dX11_seasonAt_17 rfl (lv_at hl 7 rfl) ?_
                refine lv_icmp_gt (tgt := 93) hx hb dX11_seasonAt_18 (by decide) (fun c1003 => ?_) (fun c1003 => ?_)
                rotate_left
                · have c1003 := i_nlt (Eq.refl p1.toInt) (show (4 : Int32).toInt = 4 by decide) c1003; exfalso; omega
                have c1003 := i_lt (Eq.refl p1.toInt) (show (4 : Int32).toInt = 4 by decide) c1003
                refine lv_iload hx hb dX11_seasonAt_93 (lv_at hl 2 rfl) ?_
                refine W.widen (k := 0) (n := 0) (Nat.le_of_ble_eq_true rfl) (Nat.le_of_ble_eq_true rfl) ?_
                exact W.iret (v := 1) hx hb hr (fun t ht hW => ⟨⟨1, rfl, ((show (0 ≤ (1 : Int32).toInt ∧ (1 : Int32).toInt ≤ 3) by omega)), CB.nil⟩, hS.F ht⟩) hS.2.2 dX11_seasonAt_95
          · obtain rfl : v974 = 1 := i_is c975 (by decide)
            refine lv_iload_n hx hb dX11_seasonAt_27 rfl (lv_at hl 5 rfl) ?_
            refine lv_iload hx hb dX11_seasonAt_28 (lv_at hl 4 rfl) ?_
            refine lv_irem hx hb dX11_seasonAt_30 (i_nz (show (1 : Int32).toInt = 1 by decide) (by omega)) ?_
            refine lv_topi (fun v1004 ev1004 => ?_)
            have hv1004 := i_rem (Eq.refl v944.toInt) (show (1 : Int32).toInt = 1 by decide) ev1004 (by omega) (by omega)
            refine lv_istore_n (lv' := [(2, .int v1004), (7, .int 1), (6, .int 2), (3, .int 3), (5, .int 3), (4, .int 1), (0, .int p0), (1, .int p1)]) hx hb dX11_seasonAt_31 rfl hl (by decide) rfl (fun ls hl => ?_)
            refine lv_iload hx hb dX11_seasonAt_32 (lv_at hl 2 rfl) ?_
            refine lv_if_ne (tgt := 41) hx hb dX11_seasonAt_34 (by decide) (fun c1005 => ?_) (fun c1005 => ?_)
            rotate_left
            · exact absurd c1005 (by decide)
            refine lv_iconst (v := 1) hx hb dX11_seasonAt_41 (by decide) ?_
            refine lv_istore (lv' := [(4, .int 1), (2, .int v1004), (7, .int 1), (6, .int 2), (3, .int 3), (5, .int 3), (0, .int p0), (1, .int p1)]) hx hb dX11_seasonAt_42 hl (by decide) rfl (fun ls hl => ?_)
            refine lv_iconst (v := 0) hx hb dX11_seasonAt_44 (by decide) ?_
            refine lv_istore (lv' := [(5, .int 0), (4, .int 1), (2, .int v1004), (7, .int 1), (6, .int 2), (3, .int 3), (0, .int p0), (1, .int p1)]) hx hb dX11_seasonAt_45 hl (by decide) rfl (fun ls hl => ?_)
            refine lv_iload_n hx hb dX11_seasonAt_47 rfl (lv_at hl 5 rfl) ?_
            refine lv_iload hx hb dX11_seasonAt_48 (lv_at hl 0 rfl) ?_
            refine lv_ishr hx hb dX11_seasonAt_50 ?_
            refine lv_topi (fun z1006 ez1006 => ?_)
            obtain rfl : z1006 = 3 := ez1006.trans (by decide)
            refine lv_iconst (v := 1) hx hb dX11_seasonAt_51 (by decide) ?_
            refine lv_iand hx hb dX11_seasonAt_52 ?_
            refine lv_topi (fun z1007 ez1007 => ?_)
            obtain rfl : z1007 = 1 := ez1007.trans (by decide)
            refine lv_if_eq (tgt := 61) hx hb dX11_seasonAt_53 (by decide) (fun c1008 => ?_) (fun c1008 => ?_)
            · exact absurd c1008 (by decide)
            refine lv_iload hx hb dX11_seasonAt_56 (lv_at hl 3 rfl) ?_
            refine lv_if_le (tgt := 78) hx hb dX11_seasonAt_58 (by decide) (fun c1009 => ?_) (fun c1009 => ?_)
            · exact absurd c1009 (by decide)
            refine lv_iload hx hb dX11_seasonAt_61 (lv_at hl 3 rfl) ?_
            refine lv_iload_n hx hb dX11_seasonAt_63 rfl (lv_at hl 5 rfl) ?_
            refine lv_iload hx hb dX11_seasonAt_64 (lv_at hl 0 rfl) ?_
            refine lv_ishr hx hb dX11_seasonAt_66 ?_
            refine lv_topi (fun z1010 ez1010 => ?_)
            obtain rfl : z1010 = 3 := ez1010.trans (by decide)
            refine lv_iconst (v := 1) hx hb dX11_seasonAt_67 (by decide) ?_
            refine lv_iand hx hb dX11_seasonAt_68 ?_
            refine lv_topi (fun z1011 ez1011 => ?_)
            obtain rfl : z1011 = 1 := ez1011.trans (by decide)
            refine lv_isub hx hb dX11_seasonAt_69 ?_
            refine lv_topi (fun z1012 ez1012 => ?_)
            obtain rfl : z1012 = 0 := ez1012.trans (by decide)
            refine lv_istore (lv' := [(7, .int 0), (5, .int 0), (4, .int 1), (2, .int v1004), (6, .int 2), (3, .int 3), (0, .int p0), (1, .int p1)]) hx hb dX11_seasonAt_70 hl (by decide) rfl (fun ls hl => ?_)
            refine lv_iinc (v := 1) (lv' := [(5, .int 1), (7, .int 0), (4, .int 1), (2, .int v1004), (6, .int 2), (3, .int 3), (0, .int p0), (1, .int p1)]) hx hb dX11_seasonAt_72 hl (k := 1) rfl (by decide) (by decide) rfl (fun ls hl => ?_)
            refine lv_goto (tgt := 47) hx hb dX11_seasonAt_75 (by decide) ?_
            refine lv_iload_n hx hb dX11_seasonAt_47 rfl (lv_at hl 5 rfl) ?_
            refine lv_iload hx hb dX11_seasonAt_48 (lv_at hl 0 rfl) ?_
            refine lv_ishr hx hb dX11_seasonAt_50 ?_
            refine lv_topi (fun z1013 ez1013 => ?_)
            obtain rfl : z1013 = 1 := ez1013.trans (by decide)
            refine lv_iconst (v := 1) hx hb dX11_seasonAt_51 (by decide) ?_
            refine lv_iand hx hb dX11_seasonAt_52 ?_
            refine lv_topi (fun z1014 ez1014 => ?_)
            obtain rfl : z1014 = 1 := ez1014.trans (by decide)
            refine lv_if_eq (tgt := 61) hx hb dX11_seasonAt_53 (by decide) (fun c1015 => ?_) (fun c1015 => ?_)
            · exact absurd c1015 (by decide)
            refine lv_iload hx hb dX11_seasonAt_56 (lv_at hl 1 rfl) ?_
            refine lv_if_le (tgt := 78) hx hb dX11_seasonAt_58 (by decide) (fun c1016 => ?_) (fun c1016 => ?_)
            rotate_left
            · exact absurd c1016 (by decide)
            refine lv_iload_n hx hb dX11_seasonAt_78 rfl (lv_at hl 5 rfl) ?_
            refine lv_iconst (v := 1) hx hb dX11_seasonAt_79 (by decide) ?_
            refine lv_iload hx hb dX11_seasonAt_80 (lv_at hl 0 rfl) ?_
            refine lv_ishl hx hb dX11_seasonAt_82 ?_
            refine lv_topi (fun z1017 ez1017 => ?_)
            obtain rfl : z1017 = 2 := ez1017.trans (by decide)
            refine lv_iconst (v := (-1)) hx hb dX11_seasonAt_83 (by decide) ?_
            refine lv_ixor hx hb dX11_seasonAt_84 ?_
            refine lv_topi (fun z1018 ez1018 => ?_)
            obtain rfl : z1018 = (-3) := ez1018.trans (by decide)
            refine lv_iand hx hb dX11_seasonAt_85 ?_
            refine lv_topi (fun z1019 ez1019 => ?_)
            obtain rfl : z1019 = 1 := ez1019.trans (by decide)
            refine lv_istore_n (lv' := [(3, .int 1), (5, .int 1), (7, .int 0), (4, .int 1), (2, .int v1004), (6, .int 2), (0, .int p0), (1, .int p1)]) hx hb dX11_seasonAt_86 rfl hl (by decide) rfl (fun ls hl => ?_)
            refine lv_iinc (v := 3) (lv' := [(6, .int 3), (3, .int 1), (5, .int 1), (7, .int 0), (4, .int 1), (2, .int v1004), (0, .int p0), (1, .int p1)]) hx hb dX11_seasonAt_87 hl (k := 5) rfl (by decide) (by decide) rfl (fun ls hl => ?_)
            refine lv_goto (tgt := 15) hx hb dX11_seasonAt_90 (by decide) ?_
            refine lv_iload hx hb dX11_seasonAt_15 (lv_at hl 0 rfl) ?_
            refine lv_iload_n hx hb dX11_seasonAt_17 rfl (lv_at hl 7 rfl) ?_
            refine lv_icmp_gt (tgt := 93) hx hb dX11_seasonAt_18 (by decide) (fun c1020 => ?_) (fun c1020 => ?_)
            · skip
              have c1020 := i_lt (Eq.refl p1.toInt) (show (3 : Int32).toInt = 3 by decide) c1020
              refine lv_iload hx hb dX11_seasonAt_93 (lv_at hl 2 rfl) ?_
              refine W.widen (k := 0) (n := 0) (Nat.le_of_ble_eq_true rfl) (Nat.le_of_ble_eq_true rfl) ?_
              exact W.iret (v := 1) hx hb hr (fun t ht hW => ⟨⟨1, rfl, ((show (0 ≤ (1 : Int32).toInt ∧ (1 : Int32).toInt ≤ 3) by omega)), CB.nil⟩, hS.F ht⟩) hS.2.2 dX11_seasonAt_95
            · skip
              have c1020 := i_nlt (Eq.refl p1.toInt) (show (3 : Int32).toInt = 3 by decide) c1020
              refine lv_iload_n hx hb dX11_seasonAt_21 rfl (lv_at hl 5 rfl) ?_
              refine lv_iload hx hb dX11_seasonAt_22 (lv_at hl 4 rfl) ?_
              refine lv_idiv hx hb dX11_seasonAt_24 (i_nz (show (1 : Int32).toInt = 1 by decide) (by omega)) ?_
              refine lv_topi (fun v1021 ev1021 => ?_)
              have hv1021 := i_div (Eq.refl v1004.toInt) (show (1 : Int32).toInt = 1 by decide) ev1021 (by omega) (by omega)
              refine lv_istore (lv' := [(7, .int v1021), (6, .int 3), (3, .int 1), (5, .int 1), (4, .int 1), (2, .int v1004), (0, .int p0), (1, .int p1)]) hx hb dX11_seasonAt_25 hl (by decide) rfl (fun ls hl => ?_)
              rcases (show v1021.toInt = 0 by omega) with c1022
              · obtain rfl : v1021 = 0 := i_is c1022 (by decide)
                refine lv_iload_n hx hb dX11_seasonAt_27 rfl (lv_at hl 5 rfl) ?_
                refine lv_iload hx hb dX11_seasonAt_28 (lv_at hl 4 rfl) ?_
                refine lv_irem hx hb dX11_seasonAt_30 (i_nz (show (1 : Int32).toInt = 1 by decide) (by omega)) ?_
                refine lv_topi (fun v1023 ev1023 => ?_)
                have hv1023 := i_rem (Eq.refl v1004.toInt) (show (1 : Int32).toInt = 1 by decide) ev1023 (by omega) (by omega)
                refine lv_istore_n (lv' := [(2, .int v1023), (7, .int 0), (6, .int 3), (3, .int 1), (5, .int 1), (4, .int 1), (0, .int p0), (1, .int p1)]) hx hb dX11_seasonAt_31 rfl hl (by decide) rfl (fun ls hl => ?_)
                refine lv_iload hx hb dX11_seasonAt_32 (lv_at hl 2 rfl) ?_
                refine lv_if_ne (tgt := 41) hx hb dX11_seasonAt_34 (by decide) (fun c1024 => ?_) (fun c1024 => ?_)
                rotate_left
                · exact absurd c1024 (by decide)
                refine lv_iconst (v := 1) hx hb dX11_seasonAt_41 (by decide) ?_
                refine lv_istore (lv' := [(4, .int 1), (2, .int v1023), (7, .int 0), (6, .int 3), (3, .int 1), (5, .int 1), (0, .int p0), (1, .int p1)]) hx hb dX11_seasonAt_42 hl (by decide) rfl (fun ls hl => ?_)
                refine lv_iconst (v := 0) hx hb dX11_seasonAt_44 (by decide) ?_
                refine lv_istore (lv' := [(5, .int 0), (4, .int 1), (2, .int v1023), (7, .int 0), (6, .int 3), (3, .int 1), (0, .int p0), (1, .int p1)]) hx hb dX11_seasonAt_45 hl (by decide) rfl (fun ls hl => ?_)
                refine lv_iload_n hx hb dX11_seasonAt_47 rfl (lv_at hl 5 rfl) ?_
                refine lv_iload hx hb dX11_seasonAt_48 (lv_at hl 0 rfl) ?_
                refine lv_ishr hx hb dX11_seasonAt_50 ?_
                refine lv_topi (fun z1025 ez1025 => ?_)
                obtain rfl : z1025 = 1 := ez1025.trans (by decide)
                refine lv_iconst (v := 1) hx hb dX11_seasonAt_51 (by decide) ?_
                refine lv_iand hx hb dX11_seasonAt_52 ?_
                refine lv_topi (fun z1026 ez1026 => ?_)
                obtain rfl : z1026 = 1 := ez1026.trans (by decide)
                refine lv_if_eq (tgt := 61) hx hb dX11_seasonAt_53 (by decide) (fun c1027 => ?_) (fun c1027 => ?_)
                · exact absurd c1027 (by decide)
                refine lv_iload hx hb dX11_seasonAt_56 (lv_at hl 3 rfl) ?_
                refine lv_if_le (tgt := 78) hx hb dX11_seasonAt_58 (by decide) (fun c1028 => ?_) (fun c1028 => ?_)
                rotate_left
                · exact absurd c1028 (by decide)
                refine lv_iload_n hx hb dX11_seasonAt_78 rfl (lv_at hl 5 rfl) ?_
                refine lv_iconst (v := 1) hx hb dX11_seasonAt_79 (by decide) ?_
                refine lv_iload hx hb dX11_seasonAt_80 (lv_at hl 0 rfl) ?_
                refine lv_ishl hx hb dX11_seasonAt_82 ?_
                refine lv_topi (fun z1029 ez1029 => ?_)
                obtain rfl : z1029 = 1 := ez1029.trans (by decide)
                refine lv_iconst (v := (-1)) hx hb dX11_seasonAt_83 (by decide) ?_
                refine lv_ixor hx hb dX11_seasonAt_84 ?_
                refine lv_topi (fun z1030 ez1030 => ?_)
                obtain rfl : z1030 = (-2) := ez1030.trans (by decide)
                refine lv_iand hx hb dX11_seasonAt_85 ?_
                refine lv_topi (fun z1031 ez1031 => ?_)
                obtain rfl : z1031 = 0 := ez1031.trans (by decide)
                refine lv_istore_n (lv' := [(3, .int 0), (5, .int 0), (4, .int 1), (2, .int v1023), (7, .int 0), (6, .int 3), (0, .int p0), (1, .int p1)]) hx hb dX11_seasonAt_86 rfl hl (by decide) rfl (fun ls hl => ?_)
                refine lv_iinc (v := 4) (lv' := [(6, .int 4), (3, .int 0), (5, .int 0), (4, .int 1), (2, .int v1023), (7, .int 0), (0, .int p0), (1, .int p1)]) hx hb dX11_seasonAt_87 hl (k := 5) rfl (by decide) (by decide) rfl (fun ls hl => ?_)
                refine lv_goto (tgt := 15) hx hb dX11_seasonAt_90 (by decide) ?_
                refine lv_iload hx hb dX11_seasonAt_15 (lv_at hl 0 rfl) ?_
                refine lv_iload_n hx hb dX11_seasonAt_17 rfl (lv_at hl 7 rfl) ?_
                refine lv_icmp_gt (tgt := 93) hx hb dX11_seasonAt_18 (by decide) (fun c1032 => ?_) (fun c1032 => ?_)
                rotate_left
                · have c1032 := i_nlt (Eq.refl p1.toInt) (show (4 : Int32).toInt = 4 by decide) c1032; exfalso; omega
                have c1032 := i_lt (Eq.refl p1.toInt) (show (4 : Int32).toInt = 4 by decide) c1032
                refine lv_iload hx hb dX11_seasonAt_93 (lv_at hl 2 rfl) ?_
                refine W.widen (k := 0) (n := 0) (Nat.le_of_ble_eq_true rfl) (Nat.le_of_ble_eq_true rfl) ?_
                have zi0 : (0 : Int32).toInt = 0 := by decide
                exact W.iret (v := 0) hx hb hr (fun t ht hW => ⟨⟨0, rfl, ((show (0 ≤ (0 : Int32).toInt ∧ (0 : Int32).toInt ≤ 3) by omega)), CB.nil⟩, hS.F ht⟩) hS.2.2 dX11_seasonAt_95
  · obtain rfl : v2 = 3 := i_is c3 (by decide)
    refine lv_iload_n hx hb dX11_seasonAt_27 rfl (lv_at hl 5 rfl) ?_
    refine lv_iload hx hb dX11_seasonAt_28 (lv_at hl 3 rfl) ?_
    refine lv_irem hx hb dX11_seasonAt_30 (i_nz (show (6 : Int32).toInt = 6 by decide) (by omega)) ?_
    refine lv_topi (fun v1033 ev1033 => ?_)
    have hv1033 := i_rem (Eq.refl p0.toInt) (show (6 : Int32).toInt = 6 by decide) ev1033 (by omega) (by omega)
    refine lv_istore_n (lv' := [(2, .int v1033), (7, .int 3), (6, .int 0), (5, .int 0), (4, .int 6), (3, .int 15), (0, .int p0), (1, .int p1)]) hx hb dX11_seasonAt_31 rfl hl (by decide) rfl (fun ls hl => ?_)
    refine lv_iload hx hb dX11_seasonAt_32 (lv_at hl 2 rfl) ?_
    refine lv_if_ne (tgt := 41) hx hb dX11_seasonAt_34 (by decide) (fun c1034 => ?_) (fun c1034 => ?_)
    · exact absurd c1034 (by decide)
    refine lv_iconst (v := 2) hx hb dX11_seasonAt_37 (by decide) ?_
    refine lv_goto (tgt := 42) hx hb dX11_seasonAt_38 (by decide) ?_
    refine lv_istore (lv' := [(4, .int 2), (2, .int v1033), (7, .int 3), (6, .int 0), (5, .int 0), (3, .int 15), (0, .int p0), (1, .int p1)]) hx hb dX11_seasonAt_42 hl (by decide) rfl (fun ls hl => ?_)
    refine lv_iconst (v := 0) hx hb dX11_seasonAt_44 (by decide) ?_
    refine lv_istore (lv' := [(5, .int 0), (4, .int 2), (2, .int v1033), (7, .int 3), (6, .int 0), (3, .int 15), (0, .int p0), (1, .int p1)]) hx hb dX11_seasonAt_45 hl (by decide) rfl (fun ls hl => ?_)
    refine lv_iload_n hx hb dX11_seasonAt_47 rfl (lv_at hl 5 rfl) ?_
    refine lv_iload hx hb dX11_seasonAt_48 (lv_at hl 0 rfl) ?_
    refine lv_ishr hx hb dX11_seasonAt_50 ?_
    refine lv_topi (fun z1035 ez1035 => ?_)
    obtain rfl : z1035 = 15 := ez1035.trans (by decide)
    refine lv_iconst (v := 1) hx hb dX11_seasonAt_51 (by decide) ?_
    refine lv_iand hx hb dX11_seasonAt_52 ?_
    refine lv_topi (fun z1036 ez1036 => ?_)
    obtain rfl : z1036 = 1 := ez1036.trans (by decide)
    refine lv_if_eq (tgt := 61) hx hb dX11_seasonAt_53 (by decide) (fun c1037 => ?_) (fun c1037 => ?_)
    · exact absurd c1037 (by decide)
    refine lv_iload hx hb dX11_seasonAt_56 (lv_at hl 3 rfl) ?_
    refine lv_if_le (tgt := 78) hx hb dX11_seasonAt_58 (by decide) (fun c1038 => ?_) (fun c1038 => ?_)
    · exact absurd c1038 (by decide)
    refine lv_iload hx hb dX11_seasonAt_61 (lv_at hl 3 rfl) ?_
    refine lv_iload_n hx hb dX11_seasonAt_63 rfl (lv_at hl 5 rfl) ?_
    refine lv_iload hx hb dX11_seasonAt_64 (lv_at hl 0 rfl) ?_
    refine lv_ishr hx hb dX11_seasonAt_66 ?_
    refine lv_topi (fun z1039 ez1039 => ?_)
    obtain rfl : z1039 = 15 := ez1039.trans (by decide)
    refine lv_iconst (v := 1) hx hb dX11_seasonAt_67 (by decide) ?_
    refine lv_iand hx hb dX11_seasonAt_68 ?_
    refine lv_topi (fun z1040 ez1040 => ?_)
    obtain rfl : z1040 = 1 := ez1040.trans (by decide)
    refine lv_isub hx hb dX11_seasonAt_69 ?_
    refine lv_topi (fun z1041 ez1041 => ?_)
    obtain rfl : z1041 = 2 := ez1041.trans (by decide)
    refine lv_istore (lv' := [(7, .int 2), (5, .int 0), (4, .int 2), (2, .int v1033), (6, .int 0), (3, .int 15), (0, .int p0), (1, .int p1)]) hx hb dX11_seasonAt_70 hl (by decide) rfl (fun ls hl => ?_)
    refine lv_iinc (v := 1) (lv' := [(5, .int 1), (7, .int 2), (4, .int 2), (2, .int v1033), (6, .int 0), (3, .int 15), (0, .int p0), (1, .int p1)]) hx hb dX11_seasonAt_72 hl (k := 1) rfl (by decide) (by decide) rfl (fun ls hl => ?_)
    refine lv_goto (tgt := 47) hx hb dX11_seasonAt_75 (by decide) ?_
    refine lv_iload_n hx hb dX11_seasonAt_47 rfl (lv_at hl 5 rfl) ?_
    refine lv_iload hx hb dX11_seasonAt_48 (lv_at hl 0 rfl) ?_
    refine lv_ishr hx hb dX11_seasonAt_50 ?_
    refine lv_topi (fun z1042 ez1042 => ?_)
    obtain rfl : z1042 = 7 := ez1042.trans (by decide)
    refine lv_iconst (v := 1) hx hb dX11_seasonAt_51 (by decide) ?_
    refine lv_iand hx hb dX11_seasonAt_52 ?_
    refine lv_topi (fun z1043 ez1043 => ?_)
    obtain rfl : z1043 = 1 := ez1043.trans (by decide)
    refine lv_if_eq (tgt := 61) hx hb dX11_seasonAt_53 (by decide) (fun c1044 => ?_) (fun c1044 => ?_)
    · exact absurd c1044 (by decide)
    refine lv_iload hx hb dX11_seasonAt_56 (lv_at hl 1 rfl) ?_
    refine lv_if_le (tgt := 78) hx hb dX11_seasonAt_58 (by decide) (fun c1045 => ?_) (fun c1045 => ?_)
    · exact absurd c1045 (by decide)
    refine lv_iload hx hb dX11_seasonAt_61 (lv_at hl 1 rfl) ?_
    refine lv_iload_n hx hb dX11_seasonAt_63 rfl (lv_at hl 5 rfl) ?_
    refine lv_iload hx hb dX11_seasonAt_64 (lv_at hl 0 rfl) ?_
    refine lv_ishr hx hb dX11_seasonAt_66 ?_
    refine lv_topi (fun z1046 ez1046 => ?_)
    obtain rfl : z1046 = 7 := ez1046.trans (by decide)
    refine lv_iconst (v := 1) hx hb dX11_seasonAt_67 (by decide) ?_
    refine lv_iand hx hb dX11_seasonAt_68 ?_
    refine lv_topi (fun z1047 ez1047 => ?_)
    obtain rfl : z1047 = 1 := ez1047.trans (by decide)
    refine lv_isub hx hb dX11_seasonAt_69 ?_
    refine lv_topi (fun z1048 ez1048 => ?_)
    obtain rfl : z1048 = 1 := ez1048.trans (by decide)
    refine lv_istore (lv' := [(7, .int 1), (5, .int 1), (4, .int 2), (2, .int v1033), (6, .int 0), (3, .int 15), (0, .int p0), (1, .int p1)]) hx hb dX11_seasonAt_70 hl (by decide) rfl (fun ls hl => ?_)
    refine lv_iinc (v := 2) (lv' := [(5, .int 2), (7, .int 1), (4, .int 2), (2, .int v1033), (6, .int 0), (3, .int 15), (0, .int p0), (1, .int p1)]) hx hb dX11_seasonAt_72 hl (k := 1) rfl (by decide) (by decide) rfl (fun ls hl => ?_)
    refine lv_goto (tgt := 47) hx hb dX11_seasonAt_75 (by decide) ?_
    refine lv_iload_n hx hb dX11_seasonAt_47 rfl (lv_at hl 5 rfl) ?_
    refine lv_iload hx hb dX11_seasonAt_48 (lv_at hl 0 rfl) ?_
    refine lv_ishr hx hb dX11_seasonAt_50 ?_
    refine lv_topi (fun z1049 ez1049 => ?_)
    obtain rfl : z1049 = 3 := ez1049.trans (by decide)
    refine lv_iconst (v := 1) hx hb dX11_seasonAt_51 (by decide) ?_
    refine lv_iand hx hb dX11_seasonAt_52 ?_
    refine lv_topi (fun z1050 ez1050 => ?_)
    obtain rfl : z1050 = 1 := ez1050.trans (by decide)
    refine lv_if_eq (tgt := 61) hx hb dX11_seasonAt_53 (by decide) (fun c1051 => ?_) (fun c1051 => ?_)
    · exact absurd c1051 (by decide)
    refine lv_iload hx hb dX11_seasonAt_56 (lv_at hl 1 rfl) ?_
    refine lv_if_le (tgt := 78) hx hb dX11_seasonAt_58 (by decide) (fun c1052 => ?_) (fun c1052 => ?_)
    · exact absurd c1052 (by decide)
    refine lv_iload hx hb dX11_seasonAt_61 (lv_at hl 1 rfl) ?_
    refine lv_iload_n hx hb dX11_seasonAt_63 rfl (lv_at hl 5 rfl) ?_
    refine lv_iload hx hb dX11_seasonAt_64 (lv_at hl 0 rfl) ?_
    refine lv_ishr hx hb dX11_seasonAt_66 ?_
    refine lv_topi (fun z1053 ez1053 => ?_)
    obtain rfl : z1053 = 3 := ez1053.trans (by decide)
    refine lv_iconst (v := 1) hx hb dX11_seasonAt_67 (by decide) ?_
    refine lv_iand hx hb dX11_seasonAt_68 ?_
    refine lv_topi (fun z1054 ez1054 => ?_)
    obtain rfl : z1054 = 1 := ez1054.trans (by decide)
    refine lv_isub hx hb dX11_seasonAt_69 ?_
    refine lv_topi (fun z1055 ez1055 => ?_)
    obtain rfl : z1055 = 0 := ez1055.trans (by decide)
    refine lv_istore (lv' := [(7, .int 0), (5, .int 2), (4, .int 2), (2, .int v1033), (6, .int 0), (3, .int 15), (0, .int p0), (1, .int p1)]) hx hb dX11_seasonAt_70 hl (by decide) rfl (fun ls hl => ?_)
    refine lv_iinc (v := 3) (lv' := [(5, .int 3), (7, .int 0), (4, .int 2), (2, .int v1033), (6, .int 0), (3, .int 15), (0, .int p0), (1, .int p1)]) hx hb dX11_seasonAt_72 hl (k := 1) rfl (by decide) (by decide) rfl (fun ls hl => ?_)
    refine lv_goto (tgt := 47) hx hb dX11_seasonAt_75 (by decide) ?_
    refine lv_iload_n hx hb dX11_seasonAt_47 rfl (lv_at hl 5 rfl) ?_
    refine lv_iload hx hb dX11_seasonAt_48 (lv_at hl 0 rfl) ?_
    refine lv_ishr hx hb dX11_seasonAt_50 ?_
    refine lv_topi (fun z1056 ez1056 => ?_)
    obtain rfl : z1056 = 1 := ez1056.trans (by decide)
    refine lv_iconst (v := 1) hx hb dX11_seasonAt_51 (by decide) ?_
    refine lv_iand hx hb dX11_seasonAt_52 ?_
    refine lv_topi (fun z1057 ez1057 => ?_)
    obtain rfl : z1057 = 1 := ez1057.trans (by decide)
    refine lv_if_eq (tgt := 61) hx hb dX11_seasonAt_53 (by decide) (fun c1058 => ?_) (fun c1058 => ?_)
    · exact absurd c1058 (by decide)
    refine lv_iload hx hb dX11_seasonAt_56 (lv_at hl 1 rfl) ?_
    refine lv_if_le (tgt := 78) hx hb dX11_seasonAt_58 (by decide) (fun c1059 => ?_) (fun c1059 => ?_)
    rotate_left
    · exact absurd c1059 (by decide)
    refine lv_iload_n hx hb dX11_seasonAt_78 rfl (lv_at hl 5 rfl) ?_
    refine lv_iconst (v := 1) hx hb dX11_seasonAt_79 (by decide) ?_
    refine lv_iload hx hb dX11_seasonAt_80 (lv_at hl 0 rfl) ?_
    refine lv_ishl hx hb dX11_seasonAt_82 ?_
    refine lv_topi (fun z1060 ez1060 => ?_)
    obtain rfl : z1060 = 8 := ez1060.trans (by decide)
    refine lv_iconst (v := (-1)) hx hb dX11_seasonAt_83 (by decide) ?_
    refine lv_ixor hx hb dX11_seasonAt_84 ?_
    refine lv_topi (fun z1061 ez1061 => ?_)
    obtain rfl : z1061 = (-9) := ez1061.trans (by decide)
    refine lv_iand hx hb dX11_seasonAt_85 ?_
    refine lv_topi (fun z1062 ez1062 => ?_)
    obtain rfl : z1062 = 7 := ez1062.trans (by decide)
    refine lv_istore_n (lv' := [(3, .int 7), (5, .int 3), (7, .int 0), (4, .int 2), (2, .int v1033), (6, .int 0), (0, .int p0), (1, .int p1)]) hx hb dX11_seasonAt_86 rfl hl (by decide) rfl (fun ls hl => ?_)
    refine lv_iinc (v := 1) (lv' := [(6, .int 1), (3, .int 7), (5, .int 3), (7, .int 0), (4, .int 2), (2, .int v1033), (0, .int p0), (1, .int p1)]) hx hb dX11_seasonAt_87 hl (k := 5) rfl (by decide) (by decide) rfl (fun ls hl => ?_)
    refine lv_goto (tgt := 15) hx hb dX11_seasonAt_90 (by decide) ?_
    refine lv_iload hx hb dX11_seasonAt_15 (lv_at hl 0 rfl) ?_
    refine lv_iload_n hx hb dX11_seasonAt_17 rfl (lv_at hl 7 rfl) ?_
    refine lv_icmp_gt (tgt := 93) hx hb dX11_seasonAt_18 (by decide) (fun c1063 => ?_) (fun c1063 => ?_)
    · skip
      have c1063 := i_lt (Eq.refl p1.toInt) (show (1 : Int32).toInt = 1 by decide) c1063
      refine lv_iload hx hb dX11_seasonAt_93 (lv_at hl 2 rfl) ?_
      refine W.widen (k := 0) (n := 0) (Nat.le_of_ble_eq_true rfl) (Nat.le_of_ble_eq_true rfl) ?_
      have zi3 : (3 : Int32).toInt = 3 := by decide
      exact W.iret (v := 3) hx hb hr (fun t ht hW => ⟨⟨3, rfl, ((show (0 ≤ (3 : Int32).toInt ∧ (3 : Int32).toInt ≤ 3) by omega)), CB.nil⟩, hS.F ht⟩) hS.2.2 dX11_seasonAt_95
    · skip
      have c1063 := i_nlt (Eq.refl p1.toInt) (show (1 : Int32).toInt = 1 by decide) c1063
      refine lv_iload_n hx hb dX11_seasonAt_21 rfl (lv_at hl 5 rfl) ?_
      refine lv_iload hx hb dX11_seasonAt_22 (lv_at hl 4 rfl) ?_
      have zi2 : (2 : Int32).toInt = 2 := by decide
      refine lv_idiv hx hb dX11_seasonAt_24 (i_nz (show (2 : Int32).toInt = 2 by decide) (by omega)) ?_
      refine lv_topi (fun v1064 ev1064 => ?_)
      have hv1064 := i_div (Eq.refl v1033.toInt) (show (2 : Int32).toInt = 2 by decide) ev1064 (by omega) (by omega)
      refine lv_istore (lv' := [(7, .int v1064), (6, .int 1), (3, .int 7), (5, .int 3), (4, .int 2), (2, .int v1033), (0, .int p0), (1, .int p1)]) hx hb dX11_seasonAt_25 hl (by decide) rfl (fun ls hl => ?_)
      rcases (show v1064.toInt = 0 ∨ v1064.toInt = 1 ∨ v1064.toInt = 2 by omega) with c1065 | c1065 | c1065
      · obtain rfl : v1064 = 0 := i_is c1065 (by decide)
        refine lv_iload_n hx hb dX11_seasonAt_27 rfl (lv_at hl 5 rfl) ?_
        refine lv_iload hx hb dX11_seasonAt_28 (lv_at hl 4 rfl) ?_
        refine lv_irem hx hb dX11_seasonAt_30 (i_nz (show (2 : Int32).toInt = 2 by decide) (by omega)) ?_
        refine lv_topi (fun v1066 ev1066 => ?_)
        have hv1066 := i_rem (Eq.refl v1033.toInt) (show (2 : Int32).toInt = 2 by decide) ev1066 (by omega) (by omega)
        refine lv_istore_n (lv' := [(2, .int v1066), (7, .int 0), (6, .int 1), (3, .int 7), (5, .int 3), (4, .int 2), (0, .int p0), (1, .int p1)]) hx hb dX11_seasonAt_31 rfl hl (by decide) rfl (fun ls hl => ?_)
        refine lv_iload hx hb dX11_seasonAt_32 (lv_at hl 2 rfl) ?_
        refine lv_if_ne (tgt := 41) hx hb dX11_seasonAt_34 (by decide) (fun c1067 => ?_) (fun c1067 => ?_)
        rotate_left
        · exact absurd c1067 (by decide)
        refine lv_iconst (v := 1) hx hb dX11_seasonAt_41 (by decide) ?_
        refine lv_istore (lv' := [(4, .int 1), (2, .int v1066), (7, .int 0), (6, .int 1), (3, .int 7), (5, .int 3), (0, .int p0), (1, .int p1)]) hx hb dX11_seasonAt_42 hl (by decide) rfl (fun ls hl => ?_)
        refine lv_iconst (v := 0) hx hb dX11_seasonAt_44 (by decide) ?_
        refine lv_istore (lv' := [(5, .int 0), (4, .int 1), (2, .int v1066), (7, .int 0), (6, .int 1), (3, .int 7), (0, .int p0), (1, .int p1)]) hx hb dX11_seasonAt_45 hl (by decide) rfl (fun ls hl => ?_)
        refine lv_iload_n hx hb dX11_seasonAt_47 rfl (lv_at hl 5 rfl) ?_
        refine lv_iload hx hb dX11_seasonAt_48 (lv_at hl 0 rfl) ?_
        refine lv_ishr hx hb dX11_seasonAt_50 ?_
        refine lv_topi (fun z1068 ez1068 => ?_)
        obtain rfl : z1068 = 7 := ez1068.trans (by decide)
        refine lv_iconst (v := 1) hx hb dX11_seasonAt_51 (by decide) ?_
        refine lv_iand hx hb dX11_seasonAt_52 ?_
        refine lv_topi (fun z1069 ez1069 => ?_)
        obtain rfl : z1069 = 1 := ez1069.trans (by decide)
        refine lv_if_eq (tgt := 61) hx hb dX11_seasonAt_53 (by decide) (fun c1070 => ?_) (fun c1070 => ?_)
        · exact absurd c1070 (by decide)
        refine lv_iload hx hb dX11_seasonAt_56 (lv_at hl 3 rfl) ?_
        refine lv_if_le (tgt := 78) hx hb dX11_seasonAt_58 (by decide) (fun c1071 => ?_) (fun c1071 => ?_)
        rotate_left
        · exact absurd c1071 (by decide)
        refine lv_iload_n hx hb dX11_seasonAt_78 rfl (lv_at hl 5 rfl) ?_
        refine lv_iconst (v := 1) hx hb dX11_seasonAt_79 (by decide) ?_
        refine lv_iload hx hb dX11_seasonAt_80 (lv_at hl 0 rfl) ?_
        refine lv_ishl hx hb dX11_seasonAt_82 ?_
        refine lv_topi (fun z1072 ez1072 => ?_)
        obtain rfl : z1072 = 1 := ez1072.trans (by decide)
        refine lv_iconst (v := (-1)) hx hb dX11_seasonAt_83 (by decide) ?_
        refine lv_ixor hx hb dX11_seasonAt_84 ?_
        refine lv_topi (fun z1073 ez1073 => ?_)
        obtain rfl : z1073 = (-2) := ez1073.trans (by decide)
        refine lv_iand hx hb dX11_seasonAt_85 ?_
        refine lv_topi (fun z1074 ez1074 => ?_)
        obtain rfl : z1074 = 6 := ez1074.trans (by decide)
        refine lv_istore_n (lv' := [(3, .int 6), (5, .int 0), (4, .int 1), (2, .int v1066), (7, .int 0), (6, .int 1), (0, .int p0), (1, .int p1)]) hx hb dX11_seasonAt_86 rfl hl (by decide) rfl (fun ls hl => ?_)
        refine lv_iinc (v := 2) (lv' := [(6, .int 2), (3, .int 6), (5, .int 0), (4, .int 1), (2, .int v1066), (7, .int 0), (0, .int p0), (1, .int p1)]) hx hb dX11_seasonAt_87 hl (k := 5) rfl (by decide) (by decide) rfl (fun ls hl => ?_)
        refine lv_goto (tgt := 15) hx hb dX11_seasonAt_90 (by decide) ?_
        refine lv_iload hx hb dX11_seasonAt_15 (lv_at hl 0 rfl) ?_
        refine lv_iload_n hx hb dX11_seasonAt_17 rfl (lv_at hl 7 rfl) ?_
        refine lv_icmp_gt (tgt := 93) hx hb dX11_seasonAt_18 (by decide) (fun c1075 => ?_) (fun c1075 => ?_)
        · skip
          have c1075 := i_lt (Eq.refl p1.toInt) (show (2 : Int32).toInt = 2 by decide) c1075
          refine lv_iload hx hb dX11_seasonAt_93 (lv_at hl 2 rfl) ?_
          refine W.widen (k := 0) (n := 0) (Nat.le_of_ble_eq_true rfl) (Nat.le_of_ble_eq_true rfl) ?_
          have zi0 : (0 : Int32).toInt = 0 := by decide
          exact W.iret (v := 0) hx hb hr (fun t ht hW => ⟨⟨0, rfl, ((show (0 ≤ (0 : Int32).toInt ∧ (0 : Int32).toInt ≤ 3) by omega)), CB.nil⟩, hS.F ht⟩) hS.2.2 dX11_seasonAt_95
        · skip
          have c1075 := i_nlt (Eq.refl p1.toInt) (show (2 : Int32).toInt = 2 by decide) c1075
          refine lv_iload_n hx hb dX11_seasonAt_21 rfl (lv_at hl 4 rfl) ?_
          refine lv_iload hx hb dX11_seasonAt_22 (lv_at hl 3 rfl) ?_
          have zi1 : (1 : Int32).toInt = 1 := by decide
          refine lv_idiv hx hb dX11_seasonAt_24 (i_nz (show (1 : Int32).toInt = 1 by decide) (by omega)) ?_
          refine lv_topi (fun v1076 ev1076 => ?_)
          have hv1076 := i_div (Eq.refl v1066.toInt) (show (1 : Int32).toInt = 1 by decide) ev1076 (by omega) (by omega)
          refine lv_istore (lv' := [(7, .int v1076), (6, .int 2), (3, .int 6), (5, .int 0), (4, .int 1), (2, .int v1066), (0, .int p0), (1, .int p1)]) hx hb dX11_seasonAt_25 hl (by decide) rfl (fun ls hl => ?_)
          rcases (show v1076.toInt = 0 ∨ v1076.toInt = 1 by omega) with c1077 | c1077
          · obtain rfl : v1076 = 0 := i_is c1077 (by decide)
            refine lv_iload_n hx hb dX11_seasonAt_27 rfl (lv_at hl 5 rfl) ?_
            refine lv_iload hx hb dX11_seasonAt_28 (lv_at hl 4 rfl) ?_
            refine lv_irem hx hb dX11_seasonAt_30 (i_nz (show (1 : Int32).toInt = 1 by decide) (by omega)) ?_
            refine lv_topi (fun v1078 ev1078 => ?_)
            have hv1078 := i_rem (Eq.refl v1066.toInt) (show (1 : Int32).toInt = 1 by decide) ev1078 (by omega) (by omega)
            refine lv_istore_n (lv' := [(2, .int v1078), (7, .int 0), (6, .int 2), (3, .int 6), (5, .int 0), (4, .int 1), (0, .int p0), (1, .int p1)]) hx hb dX11_seasonAt_31 rfl hl (by decide) rfl (fun ls hl => ?_)
            refine lv_iload hx hb dX11_seasonAt_32 (lv_at hl 2 rfl) ?_
            refine lv_if_ne (tgt := 41) hx hb dX11_seasonAt_34 (by decide) (fun c1079 => ?_) (fun c1079 => ?_)
            rotate_left
            · exact absurd c1079 (by decide)
            refine lv_iconst (v := 1) hx hb dX11_seasonAt_41 (by decide) ?_
            refine lv_istore (lv' := [(4, .int 1), (2, .int v1078), (7, .int 0), (6, .int 2), (3, .int 6), (5, .int 0), (0, .int p0), (1, .int p1)]) hx hb dX11_seasonAt_42 hl (by decide) rfl (fun ls hl => ?_)
            refine lv_iconst (v := 0) hx hb dX11_seasonAt_44 (by decide) ?_
            refine lv_istore (lv' := [(5, .int 0), (4, .int 1), (2, .int v1078), (7, .int 0), (6, .int 2), (3, .int 6), (0, .int p0), (1, .int p1)]) hx hb dX11_seasonAt_45 hl (by decide) rfl (fun ls hl => ?_)
            refine lv_iload_n hx hb dX11_seasonAt_47 rfl (lv_at hl 5 rfl) ?_
            refine lv_iload hx hb dX11_seasonAt_48 (lv_at hl 0 rfl) ?_
            refine lv_ishr hx hb dX11_seasonAt_50 ?_
            refine lv_topi (fun z1080 ez1080 => ?_)
            obtain rfl : z1080 = 6 := ez1080.trans (by decide)
            refine lv_iconst (v := 1) hx hb dX11_seasonAt_51 (by decide) ?_
            refine lv_iand hx hb dX11_seasonAt_52 ?_
            refine lv_topi (fun z1081 ez1081 => ?_)
            obtain rfl : z1081 = 0 := ez1081.trans (by decide)
            refine lv_if_eq (tgt := 61) hx hb dX11_seasonAt_53 (by decide) (fun c1082 => ?_) (fun c1082 => ?_)
            rotate_left
            · exact absurd c1082 (by decide)
            refine lv_iload hx hb dX11_seasonAt_61 (lv_at hl 3 rfl) ?_
            refine lv_iload_n hx hb dX11_seasonAt_63 rfl (lv_at hl 5 rfl) ?_
            refine lv_iload hx hb dX11_seasonAt_64 (lv_at hl 0 rfl) ?_
            refine lv_ishr hx hb dX11_seasonAt_66 ?_
            refine lv_topi (fun z1083 ez1083 => ?_)
            obtain rfl : z1083 = 6 := ez1083.trans (by decide)
            refine lv_iconst (v := 1) hx hb dX11_seasonAt_67 (by decide) ?_
            refine lv_iand hx hb dX11_seasonAt_68 ?_
            refine lv_topi (fun z1084 ez1084 => ?_)
            obtain rfl : z1084 = 0 := ez1084.trans (by decide)
            refine lv_isub hx hb dX11_seasonAt_69 ?_
            refine lv_topi (fun z1085 ez1085 => ?_)
            obtain rfl : z1085 = 0 := ez1085.trans (by decide)
            refine lv_istore (lv' := [(7, .int 0), (5, .int 0), (4, .int 1), (2, .int v1078), (6, .int 2), (3, .int 6), (0, .int p0), (1, .int p1)]) hx hb dX11_seasonAt_70 hl (by decide) rfl (fun ls hl => ?_)
            refine lv_iinc (v := 1) (lv' := [(5, .int 1), (7, .int 0), (4, .int 1), (2, .int v1078), (6, .int 2), (3, .int 6), (0, .int p0), (1, .int p1)]) hx hb dX11_seasonAt_72 hl (k := 1) rfl (by decide) (by decide) rfl (fun ls hl => ?_)
            refine lv_goto (tgt := 47) hx hb dX11_seasonAt_75 (by decide) ?_
            refine lv_iload_n hx hb dX11_seasonAt_47 rfl (lv_at hl 5 rfl) ?_
            refine lv_iload hx hb dX11_seasonAt_48 (lv_at hl 0 rfl) ?_
            refine lv_ishr hx hb dX11_seasonAt_50 ?_
            refine lv_topi (fun z1086 ez1086 => ?_)
            obtain rfl : z1086 = 3 := ez1086.trans (by decide)
            refine lv_iconst (v := 1) hx hb dX11_seasonAt_51 (by decide) ?_
            refine lv_iand hx hb dX11_seasonAt_52 ?_
            refine lv_topi (fun z1087 ez1087 => ?_)
            obtain rfl : z1087 = 1 := ez1087.trans (by decide)
            refine lv_if_eq (tgt := 61) hx hb dX11_seasonAt_53 (by decide) (fun c1088 => ?_) (fun c1088 => ?_)
            · exact absurd c1088 (by decide)
            refine lv_iload hx hb dX11_seasonAt_56 (lv_at hl 1 rfl) ?_
            refine lv_if_le (tgt := 78) hx hb dX11_seasonAt_58 (by decide) (fun c1089 => ?_) (fun c1089 => ?_)
            rotate_left
            · exact absurd c1089 (by decide)
            refine lv_iload_n hx hb dX11_seasonAt_78 rfl (lv_at hl 5 rfl) ?_
            refine lv_iconst (v := 1) hx hb dX11_seasonAt_79 (by decide) ?_
            refine lv_iload hx hb dX11_seasonAt_80 (lv_at hl 0 rfl) ?_
            refine lv_ishl hx hb dX11_seasonAt_82 ?_
            refine lv_topi (fun z1090 ez1090 => ?_)
            obtain rfl : z1090 = 2 := ez1090.trans (by decide)
            refine lv_iconst (v := (-1)) hx hb dX11_seasonAt_83 (by decide) ?_
            refine lv_ixor hx hb dX11_seasonAt_84 ?_
            refine lv_topi (fun z1091 ez1091 => ?_)
            obtain rfl : z1091 = (-3) := ez1091.trans (by decide)
            refine lv_iand hx hb dX11_seasonAt_85 ?_
            refine lv_topi (fun z1092 ez1092 => ?_)
            obtain rfl : z1092 = 4 := ez1092.trans (by decide)
            refine lv_istore_n (lv' := [(3, .int 4), (5, .int 1), (7, .int 0), (4, .int 1), (2, .int v1078), (6, .int 2), (0, .int p0), (1, .int p1)]) hx hb dX11_seasonAt_86 rfl hl (by decide) rfl (fun ls hl => ?_)
            refine lv_iinc (v := 3) (lv' := [(6, .int 3), (3, .int 4), (5, .int 1), (7, .int 0), (4, .int 1), (2, .int v1078), (0, .int p0), (1, .int p1)]) hx hb dX11_seasonAt_87 hl (k := 5) rfl (by decide) (by decide) rfl (fun ls hl => ?_)
            refine lv_goto (tgt := 15) hx hb dX11_seasonAt_90 (by decide) ?_
            refine lv_iload hx hb dX11_seasonAt_15 (lv_at hl 0 rfl) ?_
            refine lv_iload_n hx hb dX11_seasonAt_17 rfl (lv_at hl 7 rfl) ?_
            refine lv_icmp_gt (tgt := 93) hx hb dX11_seasonAt_18 (by decide) (fun c1093 => ?_) (fun c1093 => ?_)
            · skip
              have c1093 := i_lt (Eq.refl p1.toInt) (show (3 : Int32).toInt = 3 by decide) c1093
              refine lv_iload hx hb dX11_seasonAt_93 (lv_at hl 2 rfl) ?_
              refine W.widen (k := 0) (n := 0) (Nat.le_of_ble_eq_true rfl) (Nat.le_of_ble_eq_true rfl) ?_
              exact W.iret (v := 1) hx hb hr (fun t ht hW => ⟨⟨1, rfl, ((show (0 ≤ (1 : Int32).toInt ∧ (1 : Int32).toInt ≤ 3) by omega)), CB.nil⟩, hS.F ht⟩) hS.2.2 dX11_seasonAt_95
            · skip
              have c1093 := i_nlt (Eq.refl p1.toInt) (show (3 : Int32).toInt = 3 by decide) c1093
              refine lv_iload_n hx hb dX11_seasonAt_21 rfl (lv_at hl 5 rfl) ?_
              refine lv_iload hx hb dX11_seasonAt_22 (lv_at hl 4 rfl) ?_
              refine lv_idiv hx hb dX11_seasonAt_24 (i_nz (show (1 : Int32).toInt = 1 by decide) (by omega)) ?_
              refine lv_topi (fun v1094 ev1094 => ?_)
              have hv1094 := i_div (Eq.refl v1078.toInt) (show (1 : Int32).toInt = 1 by decide) ev1094 (by omega) (by omega)
              refine lv_istore (lv' := [(7, .int v1094), (6, .int 3), (3, .int 4), (5, .int 1), (4, .int 1), (2, .int v1078), (0, .int p0), (1, .int p1)]) hx hb dX11_seasonAt_25 hl (by decide) rfl (fun ls hl => ?_)
              rcases (show v1094.toInt = 0 by omega) with c1095
              · obtain rfl : v1094 = 0 := i_is c1095 (by decide)
                refine lv_iload_n hx hb dX11_seasonAt_27 rfl (lv_at hl 5 rfl) ?_
                refine lv_iload hx hb dX11_seasonAt_28 (lv_at hl 4 rfl) ?_
                refine lv_irem hx hb dX11_seasonAt_30 (i_nz (show (1 : Int32).toInt = 1 by decide) (by omega)) ?_
                refine lv_topi (fun v1096 ev1096 => ?_)
                have hv1096 := i_rem (Eq.refl v1078.toInt) (show (1 : Int32).toInt = 1 by decide) ev1096 (by omega) (by omega)
                refine lv_istore_n (lv' := [(2, .int v1096), (7, .int 0), (6, .int 3), (3, .int 4), (5, .int 1), (4, .int 1), (0, .int p0), (1, .int p1)]) hx hb dX11_seasonAt_31 rfl hl (by decide) rfl (fun ls hl => ?_)
                refine lv_iload hx hb dX11_seasonAt_32 (lv_at hl 2 rfl) ?_
                refine lv_if_ne (tgt := 41) hx hb dX11_seasonAt_34 (by decide) (fun c1097 => ?_) (fun c1097 => ?_)
                rotate_left
                · exact absurd c1097 (by decide)
                refine lv_iconst (v := 1) hx hb dX11_seasonAt_41 (by decide) ?_
                refine lv_istore (lv' := [(4, .int 1), (2, .int v1096), (7, .int 0), (6, .int 3), (3, .int 4), (5, .int 1), (0, .int p0), (1, .int p1)]) hx hb dX11_seasonAt_42 hl (by decide) rfl (fun ls hl => ?_)
                refine lv_iconst (v := 0) hx hb dX11_seasonAt_44 (by decide) ?_
                refine lv_istore (lv' := [(5, .int 0), (4, .int 1), (2, .int v1096), (7, .int 0), (6, .int 3), (3, .int 4), (0, .int p0), (1, .int p1)]) hx hb dX11_seasonAt_45 hl (by decide) rfl (fun ls hl => ?_)
                refine lv_iload_n hx hb dX11_seasonAt_47 rfl (lv_at hl 5 rfl) ?_
                refine lv_iload hx hb dX11_seasonAt_48 (lv_at hl 0 rfl) ?_
                refine lv_ishr hx hb dX11_seasonAt_50 ?_
                refine lv_topi (fun z1098 ez1098 => ?_)
                obtain rfl : z1098 = 4 := ez1098.trans (by decide)
                refine lv_iconst (v := 1) hx hb dX11_seasonAt_51 (by decide) ?_
                refine lv_iand hx hb dX11_seasonAt_52 ?_
                refine lv_topi (fun z1099 ez1099 => ?_)
                obtain rfl : z1099 = 0 := ez1099.trans (by decide)
                refine lv_if_eq (tgt := 61) hx hb dX11_seasonAt_53 (by decide) (fun c1100 => ?_) (fun c1100 => ?_)
                rotate_left
                · exact absurd c1100 (by decide)
                refine lv_iload hx hb dX11_seasonAt_61 (lv_at hl 3 rfl) ?_
                refine lv_iload_n hx hb dX11_seasonAt_63 rfl (lv_at hl 5 rfl) ?_
                refine lv_iload hx hb dX11_seasonAt_64 (lv_at hl 0 rfl) ?_
                refine lv_ishr hx hb dX11_seasonAt_66 ?_
                refine lv_topi (fun z1101 ez1101 => ?_)
                obtain rfl : z1101 = 4 := ez1101.trans (by decide)
                refine lv_iconst (v := 1) hx hb dX11_seasonAt_67 (by decide) ?_
                refine lv_iand hx hb dX11_seasonAt_68 ?_
                refine lv_topi (fun z1102 ez1102 => ?_)
                obtain rfl : z1102 = 0 := ez1102.trans (by decide)
                refine lv_isub hx hb dX11_seasonAt_69 ?_
                refine lv_topi (fun z1103 ez1103 => ?_)
                obtain rfl : z1103 = 0 := ez1103.trans (by decide)
                refine lv_istore (lv' := [(7, .int 0), (5, .int 0), (4, .int 1), (2, .int v1096), (6, .int 3), (3, .int 4), (0, .int p0), (1, .int p1)]) hx hb dX11_seasonAt_70 hl (by decide) rfl (fun ls hl => ?_)
                refine lv_iinc (v := 1) (lv' := [(5, .int 1), (7, .int 0), (4, .int 1), (2, .int v1096), (6, .int 3), (3, .int 4), (0, .int p0), (1, .int p1)]) hx hb dX11_seasonAt_72 hl (k := 1) rfl (by decide) (by decide) rfl (fun ls hl => ?_)
                refine lv_goto (tgt := 47) hx hb dX11_seasonAt_75 (by decide) ?_
                refine lv_iload_n hx hb dX11_seasonAt_47 rfl (lv_at hl 5 rfl) ?_
                refine lv_iload hx hb dX11_seasonAt_48 (lv_at hl 0 rfl) ?_
                refine lv_ishr hx hb dX11_seasonAt_50 ?_
                refine lv_topi (fun z1104 ez1104 => ?_)
                obtain rfl : z1104 = 2 := ez1104.trans (by decide)
                refine lv_iconst (v := 1) hx hb dX11_seasonAt_51 (by decide) ?_
                refine lv_iand hx hb dX11_seasonAt_52 ?_
                refine lv_topi (fun z1105 ez1105 => ?_)
                obtain rfl : z1105 = 0 := ez1105.trans (by decide)
                refine lv_if_eq (tgt := 61) hx hb dX11_seasonAt_53 (by decide) (fun c1106 => ?_) (fun c1106 => ?_)
                rotate_left
                · exact absurd c1106 (by decide)
                refine lv_iload hx hb dX11_seasonAt_61 (lv_at hl 1 rfl) ?_
                refine lv_iload_n hx hb dX11_seasonAt_63 rfl (lv_at hl 5 rfl) ?_
                refine lv_iload hx hb dX11_seasonAt_64 (lv_at hl 0 rfl) ?_
                refine lv_ishr hx hb dX11_seasonAt_66 ?_
                refine lv_topi (fun z1107 ez1107 => ?_)
                obtain rfl : z1107 = 2 := ez1107.trans (by decide)
                refine lv_iconst (v := 1) hx hb dX11_seasonAt_67 (by decide) ?_
                refine lv_iand hx hb dX11_seasonAt_68 ?_
                refine lv_topi (fun z1108 ez1108 => ?_)
                obtain rfl : z1108 = 0 := ez1108.trans (by decide)
                refine lv_isub hx hb dX11_seasonAt_69 ?_
                refine lv_topi (fun z1109 ez1109 => ?_)
                obtain rfl : z1109 = 0 := ez1109.trans (by decide)
                refine lv_istore (lv' := [(7, .int 0), (5, .int 1), (4, .int 1), (2, .int v1096), (6, .int 3), (3, .int 4), (0, .int p0), (1, .int p1)]) hx hb dX11_seasonAt_70 hl (by decide) rfl (fun ls hl => ?_)
                refine lv_iinc (v := 2) (lv' := [(5, .int 2), (7, .int 0), (4, .int 1), (2, .int v1096), (6, .int 3), (3, .int 4), (0, .int p0), (1, .int p1)]) hx hb dX11_seasonAt_72 hl (k := 1) rfl (by decide) (by decide) rfl (fun ls hl => ?_)
                refine lv_goto (tgt := 47) hx hb dX11_seasonAt_75 (by decide) ?_
                refine lv_iload_n hx hb dX11_seasonAt_47 rfl (lv_at hl 5 rfl) ?_
                refine lv_iload hx hb dX11_seasonAt_48 (lv_at hl 0 rfl) ?_
                refine lv_ishr hx hb dX11_seasonAt_50 ?_
                refine lv_topi (fun z1110 ez1110 => ?_)
                obtain rfl : z1110 = 1 := ez1110.trans (by decide)
                refine lv_iconst (v := 1) hx hb dX11_seasonAt_51 (by decide) ?_
                refine lv_iand hx hb dX11_seasonAt_52 ?_
                refine lv_topi (fun z1111 ez1111 => ?_)
                obtain rfl : z1111 = 1 := ez1111.trans (by decide)
                refine lv_if_eq (tgt := 61) hx hb dX11_seasonAt_53 (by decide) (fun c1112 => ?_) (fun c1112 => ?_)
                · exact absurd c1112 (by decide)
                refine lv_iload hx hb dX11_seasonAt_56 (lv_at hl 1 rfl) ?_
                refine lv_if_le (tgt := 78) hx hb dX11_seasonAt_58 (by decide) (fun c1113 => ?_) (fun c1113 => ?_)
                rotate_left
                · exact absurd c1113 (by decide)
                refine lv_iload_n hx hb dX11_seasonAt_78 rfl (lv_at hl 5 rfl) ?_
                refine lv_iconst (v := 1) hx hb dX11_seasonAt_79 (by decide) ?_
                refine lv_iload hx hb dX11_seasonAt_80 (lv_at hl 0 rfl) ?_
                refine lv_ishl hx hb dX11_seasonAt_82 ?_
                refine lv_topi (fun z1114 ez1114 => ?_)
                obtain rfl : z1114 = 4 := ez1114.trans (by decide)
                refine lv_iconst (v := (-1)) hx hb dX11_seasonAt_83 (by decide) ?_
                refine lv_ixor hx hb dX11_seasonAt_84 ?_
                refine lv_topi (fun z1115 ez1115 => ?_)
                obtain rfl : z1115 = (-5) := ez1115.trans (by decide)
                refine lv_iand hx hb dX11_seasonAt_85 ?_
                refine lv_topi (fun z1116 ez1116 => ?_)
                obtain rfl : z1116 = 0 := ez1116.trans (by decide)
                refine lv_istore_n (lv' := [(3, .int 0), (5, .int 2), (7, .int 0), (4, .int 1), (2, .int v1096), (6, .int 3), (0, .int p0), (1, .int p1)]) hx hb dX11_seasonAt_86 rfl hl (by decide) rfl (fun ls hl => ?_)
                refine lv_iinc (v := 4) (lv' := [(6, .int 4), (3, .int 0), (5, .int 2), (7, .int 0), (4, .int 1), (2, .int v1096), (0, .int p0), (1, .int p1)]) hx hb dX11_seasonAt_87 hl (k := 5) rfl (by decide) (by decide) rfl (fun ls hl => ?_)
                refine lv_goto (tgt := 15) hx hb dX11_seasonAt_90 (by decide) ?_
                refine lv_iload hx hb dX11_seasonAt_15 (lv_at hl 0 rfl) ?_
                refine lv_iload_n hx hb dX11_seasonAt_17 rfl (lv_at hl 7 rfl) ?_
                refine lv_icmp_gt (tgt := 93) hx hb dX11_seasonAt_18 (by decide) (fun c1117 => ?_) (fun c1117 => ?_)
                rotate_left
                · have c1117 := i_nlt (Eq.refl p1.toInt) (show (4 : Int32).toInt = 4 by decide) c1117; exfalso; omega
                have c1117 := i_lt (Eq.refl p1.toInt) (show (4 : Int32).toInt = 4 by decide) c1117
                refine lv_iload hx hb dX11_seasonAt_93 (lv_at hl 2 rfl) ?_
                refine W.widen (k := 0) (n := 0) (Nat.le_of_ble_eq_true rfl) (Nat.le_of_ble_eq_true rfl) ?_
                exact W.iret (v := 2) hx hb hr (fun t ht hW => ⟨⟨2, rfl, ((show (0 ≤ (2 : Int32).toInt ∧ (2 : Int32).toInt ≤ 3) by omega)), CB.nil⟩, hS.F ht⟩) hS.2.2 dX11_seasonAt_95
          · obtain rfl : v1076 = 1 := i_is c1077 (by decide)
            refine lv_iload_n hx hb dX11_seasonAt_27 rfl (lv_at hl 5 rfl) ?_
            refine lv_iload hx hb dX11_seasonAt_28 (lv_at hl 4 rfl) ?_
            refine lv_irem hx hb dX11_seasonAt_30 (i_nz (show (1 : Int32).toInt = 1 by decide) (by omega)) ?_
            refine lv_topi (fun v1118 ev1118 => ?_)
            have hv1118 := i_rem (Eq.refl v1066.toInt) (show (1 : Int32).toInt = 1 by decide) ev1118 (by omega) (by omega)
            refine lv_istore_n (lv' := [(2, .int v1118), (7, .int 1), (6, .int 2), (3, .int 6), (5, .int 0), (4, .int 1), (0, .int p0), (1, .int p1)]) hx hb dX11_seasonAt_31 rfl hl (by decide) rfl (fun ls hl => ?_)
            refine lv_iload hx hb dX11_seasonAt_32 (lv_at hl 2 rfl) ?_
            refine lv_if_ne (tgt := 41) hx hb dX11_seasonAt_34 (by decide) (fun c1119 => ?_) (fun c1119 => ?_)
            rotate_left
            · exact absurd c1119 (by decide)
            refine lv_iconst (v := 1) hx hb dX11_seasonAt_41 (by decide) ?_
            refine lv_istore (lv' := [(4, .int 1), (2, .int v1118), (7, .int 1), (6, .int 2), (3, .int 6), (5, .int 0), (0, .int p0), (1, .int p1)]) hx hb dX11_seasonAt_42 hl (by decide) rfl (fun ls hl => ?_)
            refine lv_iconst (v := 0) hx hb dX11_seasonAt_44 (by decide) ?_
            refine lv_istore (lv' := [(5, .int 0), (4, .int 1), (2, .int v1118), (7, .int 1), (6, .int 2), (3, .int 6), (0, .int p0), (1, .int p1)]) hx hb dX11_seasonAt_45 hl (by decide) rfl (fun ls hl => ?_)
            refine lv_iload_n hx hb dX11_seasonAt_47 rfl (lv_at hl 5 rfl) ?_
            refine lv_iload hx hb dX11_seasonAt_48 (lv_at hl 0 rfl) ?_
            refine lv_ishr hx hb dX11_seasonAt_50 ?_
            refine lv_topi (fun z1120 ez1120 => ?_)
            obtain rfl : z1120 = 6 := ez1120.trans (by decide)
            refine lv_iconst (v := 1) hx hb dX11_seasonAt_51 (by decide) ?_
            refine lv_iand hx hb dX11_seasonAt_52 ?_
            refine lv_topi (fun z1121 ez1121 => ?_)
            obtain rfl : z1121 = 0 := ez1121.trans (by decide)
            refine lv_if_eq (tgt := 61) hx hb dX11_seasonAt_53 (by decide) (fun c1122 => ?_) (fun c1122 => ?_)
            rotate_left
            · exact absurd c1122 (by decide)
            refine lv_iload hx hb dX11_seasonAt_61 (lv_at hl 3 rfl) ?_
            refine lv_iload_n hx hb dX11_seasonAt_63 rfl (lv_at hl 5 rfl) ?_
            refine lv_iload hx hb dX11_seasonAt_64 (lv_at hl 0 rfl) ?_
            refine lv_ishr hx hb dX11_seasonAt_66 ?_
            refine lv_topi (fun z1123 ez1123 => ?_)
            obtain rfl : z1123 = 6 := ez1123.trans (by decide)
            refine lv_iconst (v := 1) hx hb dX11_seasonAt_67 (by decide) ?_
            refine lv_iand hx hb dX11_seasonAt_68 ?_
            refine lv_topi (fun z1124 ez1124 => ?_)
            obtain rfl : z1124 = 0 := ez1124.trans (by decide)
            refine lv_isub hx hb dX11_seasonAt_69 ?_
            refine lv_topi (fun z1125 ez1125 => ?_)
            obtain rfl : z1125 = 1 := ez1125.trans (by decide)
            refine lv_istore (lv' := [(7, .int 1), (5, .int 0), (4, .int 1), (2, .int v1118), (6, .int 2), (3, .int 6), (0, .int p0), (1, .int p1)]) hx hb dX11_seasonAt_70 hl (by decide) rfl (fun ls hl => ?_)
            refine lv_iinc (v := 1) (lv' := [(5, .int 1), (7, .int 1), (4, .int 1), (2, .int v1118), (6, .int 2), (3, .int 6), (0, .int p0), (1, .int p1)]) hx hb dX11_seasonAt_72 hl (k := 1) rfl (by decide) (by decide) rfl (fun ls hl => ?_)
            refine lv_goto (tgt := 47) hx hb dX11_seasonAt_75 (by decide) ?_
            refine lv_iload_n hx hb dX11_seasonAt_47 rfl (lv_at hl 5 rfl) ?_
            refine lv_iload hx hb dX11_seasonAt_48 (lv_at hl 0 rfl) ?_
            refine lv_ishr hx hb dX11_seasonAt_50 ?_
            refine lv_topi (fun z1126 ez1126 => ?_)
            obtain rfl : z1126 = 3 := ez1126.trans (by decide)
            refine lv_iconst (v := 1) hx hb dX11_seasonAt_51 (by decide) ?_
            refine lv_iand hx hb dX11_seasonAt_52 ?_
            refine lv_topi (fun z1127 ez1127 => ?_)
            obtain rfl : z1127 = 1 := ez1127.trans (by decide)
            refine lv_if_eq (tgt := 61) hx hb dX11_seasonAt_53 (by decide) (fun c1128 => ?_) (fun c1128 => ?_)
            · exact absurd c1128 (by decide)
            refine lv_iload hx hb dX11_seasonAt_56 (lv_at hl 1 rfl) ?_
            refine lv_if_le (tgt := 78) hx hb dX11_seasonAt_58 (by decide) (fun c1129 => ?_) (fun c1129 => ?_)
            · exact absurd c1129 (by decide)
            refine lv_iload hx hb dX11_seasonAt_61 (lv_at hl 1 rfl) ?_
            refine lv_iload_n hx hb dX11_seasonAt_63 rfl (lv_at hl 5 rfl) ?_
            refine lv_iload hx hb dX11_seasonAt_64 (lv_at hl 0 rfl) ?_
            refine lv_ishr hx hb dX11_seasonAt_66 ?_
            refine lv_topi (fun z1130 ez1130 => ?_)
            obtain rfl : z1130 = 3 := ez1130.trans (by decide)
            refine lv_iconst (v := 1) hx hb dX11_seasonAt_67 (by decide) ?_
            refine lv_iand hx hb dX11_seasonAt_68 ?_
            refine lv_topi (fun z1131 ez1131 => ?_)
            obtain rfl : z1131 = 1 := ez1131.trans (by decide)
            refine lv_isub hx hb dX11_seasonAt_69 ?_
            refine lv_topi (fun z1132 ez1132 => ?_)
            obtain rfl : z1132 = 0 := ez1132.trans (by decide)
            refine lv_istore (lv' := [(7, .int 0), (5, .int 1), (4, .int 1), (2, .int v1118), (6, .int 2), (3, .int 6), (0, .int p0), (1, .int p1)]) hx hb dX11_seasonAt_70 hl (by decide) rfl (fun ls hl => ?_)
            refine lv_iinc (v := 2) (lv' := [(5, .int 2), (7, .int 0), (4, .int 1), (2, .int v1118), (6, .int 2), (3, .int 6), (0, .int p0), (1, .int p1)]) hx hb dX11_seasonAt_72 hl (k := 1) rfl (by decide) (by decide) rfl (fun ls hl => ?_)
            refine lv_goto (tgt := 47) hx hb dX11_seasonAt_75 (by decide) ?_
            refine lv_iload_n hx hb dX11_seasonAt_47 rfl (lv_at hl 5 rfl) ?_
            refine lv_iload hx hb dX11_seasonAt_48 (lv_at hl 0 rfl) ?_
            refine lv_ishr hx hb dX11_seasonAt_50 ?_
            refine lv_topi (fun z1133 ez1133 => ?_)
            obtain rfl : z1133 = 1 := ez1133.trans (by decide)
            refine lv_iconst (v := 1) hx hb dX11_seasonAt_51 (by decide) ?_
            refine lv_iand hx hb dX11_seasonAt_52 ?_
            refine lv_topi (fun z1134 ez1134 => ?_)
            obtain rfl : z1134 = 1 := ez1134.trans (by decide)
            refine lv_if_eq (tgt := 61) hx hb dX11_seasonAt_53 (by decide) (fun c1135 => ?_) (fun c1135 => ?_)
            · exact absurd c1135 (by decide)
            refine lv_iload hx hb dX11_seasonAt_56 (lv_at hl 1 rfl) ?_
            refine lv_if_le (tgt := 78) hx hb dX11_seasonAt_58 (by decide) (fun c1136 => ?_) (fun c1136 => ?_)
            rotate_left
            · exact absurd c1136 (by decide)
            refine lv_iload_n hx hb dX11_seasonAt_78 rfl (lv_at hl 5 rfl) ?_
            refine lv_iconst (v := 1) hx hb dX11_seasonAt_79 (by decide) ?_
            refine lv_iload hx hb dX11_seasonAt_80 (lv_at hl 0 rfl) ?_
            refine lv_ishl hx hb dX11_seasonAt_82 ?_
            refine lv_topi (fun z1137 ez1137 => ?_)
            obtain rfl : z1137 = 4 := ez1137.trans (by decide)
            refine lv_iconst (v := (-1)) hx hb dX11_seasonAt_83 (by decide) ?_
            refine lv_ixor hx hb dX11_seasonAt_84 ?_
            refine lv_topi (fun z1138 ez1138 => ?_)
            obtain rfl : z1138 = (-5) := ez1138.trans (by decide)
            refine lv_iand hx hb dX11_seasonAt_85 ?_
            refine lv_topi (fun z1139 ez1139 => ?_)
            obtain rfl : z1139 = 2 := ez1139.trans (by decide)
            refine lv_istore_n (lv' := [(3, .int 2), (5, .int 2), (7, .int 0), (4, .int 1), (2, .int v1118), (6, .int 2), (0, .int p0), (1, .int p1)]) hx hb dX11_seasonAt_86 rfl hl (by decide) rfl (fun ls hl => ?_)
            refine lv_iinc (v := 3) (lv' := [(6, .int 3), (3, .int 2), (5, .int 2), (7, .int 0), (4, .int 1), (2, .int v1118), (0, .int p0), (1, .int p1)]) hx hb dX11_seasonAt_87 hl (k := 5) rfl (by decide) (by decide) rfl (fun ls hl => ?_)
            refine lv_goto (tgt := 15) hx hb dX11_seasonAt_90 (by decide) ?_
            refine lv_iload hx hb dX11_seasonAt_15 (lv_at hl 0 rfl) ?_
            refine lv_iload_n hx hb dX11_seasonAt_17 rfl (lv_at hl 7 rfl) ?_
            refine lv_icmp_gt (tgt := 93) hx hb dX11_seasonAt_18 (by decide) (fun c1140 => ?_) (fun c1140 => ?_)
            · skip
              have c1140 := i_lt (Eq.refl p1.toInt) (show (3 : Int32).toInt = 3 by decide) c1140
              refine lv_iload hx hb dX11_seasonAt_93 (lv_at hl 2 rfl) ?_
              refine W.widen (k := 0) (n := 0) (Nat.le_of_ble_eq_true rfl) (Nat.le_of_ble_eq_true rfl) ?_
              exact W.iret (v := 2) hx hb hr (fun t ht hW => ⟨⟨2, rfl, ((show (0 ≤ (2 : Int32).toInt ∧ (2 : Int32).toInt ≤ 3) by omega)), CB.nil⟩, hS.F ht⟩) hS.2.2 dX11_seasonAt_95
            · skip
              have c1140 := i_nlt (Eq.refl p1.toInt) (show (3 : Int32).toInt = 3 by decide) c1140
              refine lv_iload_n hx hb dX11_seasonAt_21 rfl (lv_at hl 5 rfl) ?_
              refine lv_iload hx hb dX11_seasonAt_22 (lv_at hl 4 rfl) ?_
              refine lv_idiv hx hb dX11_seasonAt_24 (i_nz (show (1 : Int32).toInt = 1 by decide) (by omega)) ?_
              refine lv_topi (fun v1141 ev1141 => ?_)
              have hv1141 := i_div (Eq.refl v1118.toInt) (show (1 : Int32).toInt = 1 by decide) ev1141 (by omega) (by omega)
              refine lv_istore (lv' := [(7, .int v1141), (6, .int 3), (3, .int 2), (5, .int 2), (4, .int 1), (2, .int v1118), (0, .int p0), (1, .int p1)]) hx hb dX11_seasonAt_25 hl (by decide) rfl (fun ls hl => ?_)
              rcases (show v1141.toInt = 0 by omega) with c1142
              · obtain rfl : v1141 = 0 := i_is c1142 (by decide)
                refine lv_iload_n hx hb dX11_seasonAt_27 rfl (lv_at hl 5 rfl) ?_
                refine lv_iload hx hb dX11_seasonAt_28 (lv_at hl 4 rfl) ?_
                refine lv_irem hx hb dX11_seasonAt_30 (i_nz (show (1 : Int32).toInt = 1 by decide) (by omega)) ?_
                refine lv_topi (fun v1143 ev1143 => ?_)
                have hv1143 := i_rem (Eq.refl v1118.toInt) (show (1 : Int32).toInt = 1 by decide) ev1143 (by omega) (by omega)
                refine lv_istore_n (lv' := [(2, .int v1143), (7, .int 0), (6, .int 3), (3, .int 2), (5, .int 2), (4, .int 1), (0, .int p0), (1, .int p1)]) hx hb dX11_seasonAt_31 rfl hl (by decide) rfl (fun ls hl => ?_)
                refine lv_iload hx hb dX11_seasonAt_32 (lv_at hl 2 rfl) ?_
                refine lv_if_ne (tgt := 41) hx hb dX11_seasonAt_34 (by decide) (fun c1144 => ?_) (fun c1144 => ?_)
                rotate_left
                · exact absurd c1144 (by decide)
                refine lv_iconst (v := 1) hx hb dX11_seasonAt_41 (by decide) ?_
                refine lv_istore (lv' := [(4, .int 1), (2, .int v1143), (7, .int 0), (6, .int 3), (3, .int 2), (5, .int 2), (0, .int p0), (1, .int p1)]) hx hb dX11_seasonAt_42 hl (by decide) rfl (fun ls hl => ?_)
                refine lv_iconst (v := 0) hx hb dX11_seasonAt_44 (by decide) ?_
                refine lv_istore (lv' := [(5, .int 0), (4, .int 1), (2, .int v1143), (7, .int 0), (6, .int 3), (3, .int 2), (0, .int p0), (1, .int p1)]) hx hb dX11_seasonAt_45 hl (by decide) rfl (fun ls hl => ?_)
                refine lv_iload_n hx hb dX11_seasonAt_47 rfl (lv_at hl 5 rfl) ?_
                refine lv_iload hx hb dX11_seasonAt_48 (lv_at hl 0 rfl) ?_
                refine lv_ishr hx hb dX11_seasonAt_50 ?_
                refine lv_topi (fun z1145 ez1145 => ?_)
                obtain rfl : z1145 = 2 := ez1145.trans (by decide)
                refine lv_iconst (v := 1) hx hb dX11_seasonAt_51 (by decide) ?_
                refine lv_iand hx hb dX11_seasonAt_52 ?_
                refine lv_topi (fun z1146 ez1146 => ?_)
                obtain rfl : z1146 = 0 := ez1146.trans (by decide)
                refine lv_if_eq (tgt := 61) hx hb dX11_seasonAt_53 (by decide) (fun c1147 => ?_) (fun c1147 => ?_)
                rotate_left
                · exact absurd c1147 (by decide)
                refine lv_iload hx hb dX11_seasonAt_61 (lv_at hl 3 rfl) ?_
                refine lv_iload_n hx hb dX11_seasonAt_63 rfl (lv_at hl 5 rfl) ?_
                refine lv_iload hx hb dX11_seasonAt_64 (lv_at hl 0 rfl) ?_
                refine lv_ishr hx hb dX11_seasonAt_66 ?_
                refine lv_topi (fun z1148 ez1148 => ?_)
                obtain rfl : z1148 = 2 := ez1148.trans (by decide)
                refine lv_iconst (v := 1) hx hb dX11_seasonAt_67 (by decide) ?_
                refine lv_iand hx hb dX11_seasonAt_68 ?_
                refine lv_topi (fun z1149 ez1149 => ?_)
                obtain rfl : z1149 = 0 := ez1149.trans (by decide)
                refine lv_isub hx hb dX11_seasonAt_69 ?_
                refine lv_topi (fun z1150 ez1150 => ?_)
                obtain rfl : z1150 = 0 := ez1150.trans (by decide)
                refine lv_istore (lv' := [(7, .int 0), (5, .int 0), (4, .int 1), (2, .int v1143), (6, .int 3), (3, .int 2), (0, .int p0), (1, .int p1)]) hx hb dX11_seasonAt_70 hl (by decide) rfl (fun ls hl => ?_)
                refine lv_iinc (v := 1) (lv' := [(5, .int 1), (7, .int 0), (4, .int 1), (2, .int v1143), (6, .int 3), (3, .int 2), (0, .int p0), (1, .int p1)]) hx hb dX11_seasonAt_72 hl (k := 1) rfl (by decide) (by decide) rfl (fun ls hl => ?_)
                refine lv_goto (tgt := 47) hx hb dX11_seasonAt_75 (by decide) ?_
                refine lv_iload_n hx hb dX11_seasonAt_47 rfl (lv_at hl 5 rfl) ?_
                refine lv_iload hx hb dX11_seasonAt_48 (lv_at hl 0 rfl) ?_
                refine lv_ishr hx hb dX11_seasonAt_50 ?_
                refine lv_topi (fun z1151 ez1151 => ?_)
                obtain rfl : z1151 = 1 := ez1151.trans (by decide)
                refine lv_iconst (v := 1) hx hb dX11_seasonAt_51 (by decide) ?_
                refine lv_iand hx hb dX11_seasonAt_52 ?_
                refine lv_topi (fun z1152 ez1152 => ?_)
                obtain rfl : z1152 = 1 := ez1152.trans (by decide)
                refine lv_if_eq (tgt := 61) hx hb dX11_seasonAt_53 (by decide) (fun c1153 => ?_) (fun c1153 => ?_)
                · exact absurd c1153 (by decide)
                refine lv_iload hx hb dX11_seasonAt_56 (lv_at hl 1 rfl) ?_
                refine lv_if_le (tgt := 78) hx hb dX11_seasonAt_58 (by decide) (fun c1154 => ?_) (fun c1154 => ?_)
                rotate_left
                · exact absurd c1154 (by decide)
                refine lv_iload_n hx hb dX11_seasonAt_78 rfl (lv_at hl 5 rfl) ?_
                refine lv_iconst (v := 1) hx hb dX11_seasonAt_79 (by decide) ?_
                refine lv_iload hx hb dX11_seasonAt_80 (lv_at hl 0 rfl) ?_
                refine lv_ishl hx hb dX11_seasonAt_82 ?_
                refine lv_topi (fun z1155 ez1155 => ?_)
                obtain rfl : z1155 = 2 := ez1155.trans (by decide)
                refine lv_iconst (v := (-1)) hx hb dX11_seasonAt_83 (by decide) ?_
                refine lv_ixor hx hb dX11_seasonAt_84 ?_
                refine lv_topi (fun z1156 ez1156 => ?_)
                obtain rfl : z1156 = (-3) := ez1156.trans (by decide)
                refine lv_iand hx hb dX11_seasonAt_85 ?_
                refine lv_topi (fun z1157 ez1157 => ?_)
                obtain rfl : z1157 = 0 := ez1157.trans (by decide)
                refine lv_istore_n (lv' := [(3, .int 0), (5, .int 1), (7, .int 0), (4, .int 1), (2, .int v1143), (6, .int 3), (0, .int p0), (1, .int p1)]) hx hb dX11_seasonAt_86 rfl hl (by decide) rfl (fun ls hl => ?_)
                refine lv_iinc (v := 4) (lv' := [(6, .int 4), (3, .int 0), (5, .int 1), (7, .int 0), (4, .int 1), (2, .int v1143), (0, .int p0), (1, .int p1)]) hx hb dX11_seasonAt_87 hl (k := 5) rfl (by decide) (by decide) rfl (fun ls hl => ?_)
                refine lv_goto (tgt := 15) hx hb dX11_seasonAt_90 (by decide) ?_
                refine lv_iload hx hb dX11_seasonAt_15 (lv_at hl 0 rfl) ?_
                refine lv_iload_n hx hb dX11_seasonAt_17 rfl (lv_at hl 7 rfl) ?_
                refine lv_icmp_gt (tgt := 93) hx hb dX11_seasonAt_18 (by decide) (fun c1158 => ?_) (fun c1158 => ?_)
                rotate_left
                · have c1158 := i_nlt (Eq.refl p1.toInt) (show (4 : Int32).toInt = 4 by decide) c1158; exfalso; omega
                have c1158 := i_lt (Eq.refl p1.toInt) (show (4 : Int32).toInt = 4 by decide) c1158
                refine lv_iload hx hb dX11_seasonAt_93 (lv_at hl 2 rfl) ?_
                refine W.widen (k := 0) (n := 0) (Nat.le_of_ble_eq_true rfl) (Nat.le_of_ble_eq_true rfl) ?_
                exact W.iret (v := 1) hx hb hr (fun t ht hW => ⟨⟨1, rfl, ((show (0 ≤ (1 : Int32).toInt ∧ (1 : Int32).toInt ≤ 3) by omega)), CB.nil⟩, hS.F ht⟩) hS.2.2 dX11_seasonAt_95
      · obtain rfl : v1064 = 1 := i_is c1065 (by decide)
        refine lv_iload_n hx hb dX11_seasonAt_27 rfl (lv_at hl 5 rfl) ?_
        refine lv_iload hx hb dX11_seasonAt_28 (lv_at hl 4 rfl) ?_
        refine lv_irem hx hb dX11_seasonAt_30 (i_nz (show (2 : Int32).toInt = 2 by decide) (by omega)) ?_
        refine lv_topi (fun v1159 ev1159 => ?_)
        have hv1159 := i_rem (Eq.refl v1033.toInt) (show (2 : Int32).toInt = 2 by decide) ev1159 (by omega) (by omega)
        refine lv_istore_n (lv' := [(2, .int v1159), (7, .int 1), (6, .int 1), (3, .int 7), (5, .int 3), (4, .int 2), (0, .int p0), (1, .int p1)]) hx hb dX11_seasonAt_31 rfl hl (by decide) rfl (fun ls hl => ?_)
        refine lv_iload hx hb dX11_seasonAt_32 (lv_at hl 2 rfl) ?_
        refine lv_if_ne (tgt := 41) hx hb dX11_seasonAt_34 (by decide) (fun c1160 => ?_) (fun c1160 => ?_)
        rotate_left
        · exact absurd c1160 (by decide)
        refine lv_iconst (v := 1) hx hb dX11_seasonAt_41 (by decide) ?_
        refine lv_istore (lv' := [(4, .int 1), (2, .int v1159), (7, .int 1), (6, .int 1), (3, .int 7), (5, .int 3), (0, .int p0), (1, .int p1)]) hx hb dX11_seasonAt_42 hl (by decide) rfl (fun ls hl => ?_)
        refine lv_iconst (v := 0) hx hb dX11_seasonAt_44 (by decide) ?_
        refine lv_istore (lv' := [(5, .int 0), (4, .int 1), (2, .int v1159), (7, .int 1), (6, .int 1), (3, .int 7), (0, .int p0), (1, .int p1)]) hx hb dX11_seasonAt_45 hl (by decide) rfl (fun ls hl => ?_)
        refine lv_iload_n hx hb dX11_seasonAt_47 rfl (lv_at hl 5 rfl) ?_
        refine lv_iload hx hb dX11_seasonAt_48 (lv_at hl 0 rfl) ?_
        refine lv_ishr hx hb dX11_seasonAt_50 ?_
        refine lv_topi (fun z1161 ez1161 => ?_)
        obtain rfl : z1161 = 7 := ez1161.trans (by decide)
        refine lv_iconst (v := 1) hx hb dX11_seasonAt_51 (by decide) ?_
        refine lv_iand hx hb dX11_seasonAt_52 ?_
        refine lv_topi (fun z1162 ez1162 => ?_)
        obtain rfl : z1162 = 1 := ez1162.trans (by decide)
        refine lv_if_eq (tgt := 61) hx hb dX11_seasonAt_53 (by decide) (fun c1163 => ?_) (fun c1163 => ?_)
        · exact absurd c1163 (by decide)
        refine lv_iload hx hb dX11_seasonAt_56 (lv_at hl 3 rfl) ?_
        refine lv_if_le (tgt := 78) hx hb dX11_seasonAt_58 (by decide) (fun c1164 => ?_) (fun c1164 => ?_)
        · exact absurd c1164 (by decide)
        refine lv_iload hx hb dX11_seasonAt_61 (lv_at hl 3 rfl) ?_
        refine lv_iload_n hx hb dX11_seasonAt_63 rfl (lv_at hl 5 rfl) ?_
        refine lv_iload hx hb dX11_seasonAt_64 (lv_at hl 0 rfl) ?_
        refine lv_ishr hx hb dX11_seasonAt_66 ?_
        refine lv_topi (fun z1165 ez1165 => ?_)
        obtain rfl : z1165 = 7 := ez1165.trans (by decide)
        refine lv_iconst (v := 1) hx hb dX11_seasonAt_67 (by decide) ?_
        refine lv_iand hx hb dX11_seasonAt_68 ?_
        refine lv_topi (fun z1166 ez1166 => ?_)
        obtain rfl : z1166 = 1 := ez1166.trans (by decide)
        refine lv_isub hx hb dX11_seasonAt_69 ?_
        refine lv_topi (fun z1167 ez1167 => ?_)
        obtain rfl : z1167 = 0 := ez1167.trans (by decide)
        refine lv_istore (lv' := [(7, .int 0), (5, .int 0), (4, .int 1), (2, .int v1159), (6, .int 1), (3, .int 7), (0, .int p0), (1, .int p1)]) hx hb dX11_seasonAt_70 hl (by decide) rfl (fun ls hl => ?_)
        refine lv_iinc (v := 1) (lv' := [(5, .int 1), (7, .int 0), (4, .int 1), (2, .int v1159), (6, .int 1), (3, .int 7), (0, .int p0), (1, .int p1)]) hx hb dX11_seasonAt_72 hl (k := 1) rfl (by decide) (by decide) rfl (fun ls hl => ?_)
        refine lv_goto (tgt := 47) hx hb dX11_seasonAt_75 (by decide) ?_
        refine lv_iload_n hx hb dX11_seasonAt_47 rfl (lv_at hl 5 rfl) ?_
        refine lv_iload hx hb dX11_seasonAt_48 (lv_at hl 0 rfl) ?_
        refine lv_ishr hx hb dX11_seasonAt_50 ?_
        refine lv_topi (fun z1168 ez1168 => ?_)
        obtain rfl : z1168 = 3 := ez1168.trans (by decide)
        refine lv_iconst (v := 1) hx hb dX11_seasonAt_51 (by decide) ?_
        refine lv_iand hx hb dX11_seasonAt_52 ?_
        refine lv_topi (fun z1169 ez1169 => ?_)
        obtain rfl : z1169 = 1 := ez1169.trans (by decide)
        refine lv_if_eq (tgt := 61) hx hb dX11_seasonAt_53 (by decide) (fun c1170 => ?_) (fun c1170 => ?_)
        · exact absurd c1170 (by decide)
        refine lv_iload hx hb dX11_seasonAt_56 (lv_at hl 1 rfl) ?_
        refine lv_if_le (tgt := 78) hx hb dX11_seasonAt_58 (by decide) (fun c1171 => ?_) (fun c1171 => ?_)
        rotate_left
        · exact absurd c1171 (by decide)
        refine lv_iload_n hx hb dX11_seasonAt_78 rfl (lv_at hl 5 rfl) ?_
        refine lv_iconst (v := 1) hx hb dX11_seasonAt_79 (by decide) ?_
        refine lv_iload hx hb dX11_seasonAt_80 (lv_at hl 0 rfl) ?_
        refine lv_ishl hx hb dX11_seasonAt_82 ?_
        refine lv_topi (fun z1172 ez1172 => ?_)
        obtain rfl : z1172 = 2 := ez1172.trans (by decide)
        refine lv_iconst (v := (-1)) hx hb dX11_seasonAt_83 (by decide) ?_
        refine lv_ixor hx hb dX11_seasonAt_84 ?_
        refine lv_topi (fun z1173 ez1173 => ?_)
        obtain rfl : z1173 = (-3) := ez1173.trans (by decide)
        refine lv_iand hx hb dX11_seasonAt_85 ?_
        refine lv_topi (fun z1174 ez1174 => ?_)
        obtain rfl : z1174 = 5 := ez1174.trans (by decide)
        refine lv_istore_n (lv' := [(3, .int 5), (5, .int 1), (7, .int 0), (4, .int 1), (2, .int v1159), (6, .int 1), (0, .int p0), (1, .int p1)]) hx hb dX11_seasonAt_86 rfl hl (by decide) rfl (fun ls hl => ?_)
        refine lv_iinc (v := 2) (lv' := [(6, .int 2), (3, .int 5), (5, .int 1), (7, .int 0), (4, .int 1), (2, .int v1159), (0, .int p0), (1, .int p1)]) hx hb dX11_seasonAt_87 hl (k := 5) rfl (by decide) (by decide) rfl (fun ls hl => ?_)
        refine lv_goto (tgt := 15) hx hb dX11_seasonAt_90 (by decide) ?_
        refine lv_iload hx hb dX11_seasonAt_15 (lv_at hl 0 rfl) ?_
        refine lv_iload_n hx hb dX11_seasonAt_17 rfl (lv_at hl 7 rfl) ?_
        refine lv_icmp_gt (tgt := 93) hx hb dX11_seasonAt_18 (by decide) (fun c1175 => ?_) (fun c1175 => ?_)
        · skip
          have c1175 := i_lt (Eq.refl p1.toInt) (show (2 : Int32).toInt = 2 by decide) c1175
          refine lv_iload hx hb dX11_seasonAt_93 (lv_at hl 2 rfl) ?_
          refine W.widen (k := 0) (n := 0) (Nat.le_of_ble_eq_true rfl) (Nat.le_of_ble_eq_true rfl) ?_
          have zi1 : (1 : Int32).toInt = 1 := by decide
          exact W.iret (v := 1) hx hb hr (fun t ht hW => ⟨⟨1, rfl, ((show (0 ≤ (1 : Int32).toInt ∧ (1 : Int32).toInt ≤ 3) by omega)), CB.nil⟩, hS.F ht⟩) hS.2.2 dX11_seasonAt_95
        · skip
          have c1175 := i_nlt (Eq.refl p1.toInt) (show (2 : Int32).toInt = 2 by decide) c1175
          refine lv_iload_n hx hb dX11_seasonAt_21 rfl (lv_at hl 5 rfl) ?_
          refine lv_iload hx hb dX11_seasonAt_22 (lv_at hl 4 rfl) ?_
          have zi1 : (1 : Int32).toInt = 1 := by decide
          refine lv_idiv hx hb dX11_seasonAt_24 (i_nz (show (1 : Int32).toInt = 1 by decide) (by omega)) ?_
          refine lv_topi (fun v1176 ev1176 => ?_)
          have hv1176 := i_div (Eq.refl v1159.toInt) (show (1 : Int32).toInt = 1 by decide) ev1176 (by omega) (by omega)
          refine lv_istore (lv' := [(7, .int v1176), (6, .int 2), (3, .int 5), (5, .int 1), (4, .int 1), (2, .int v1159), (0, .int p0), (1, .int p1)]) hx hb dX11_seasonAt_25 hl (by decide) rfl (fun ls hl => ?_)
          rcases (show v1176.toInt = 0 ∨ v1176.toInt = 1 by omega) with c1177 | c1177
          · obtain rfl : v1176 = 0 := i_is c1177 (by decide)
            refine lv_iload_n hx hb dX11_seasonAt_27 rfl (lv_at hl 5 rfl) ?_
            refine lv_iload hx hb dX11_seasonAt_28 (lv_at hl 4 rfl) ?_
            refine lv_irem hx hb dX11_seasonAt_30 (i_nz (show (1 : Int32).toInt = 1 by decide) (by omega)) ?_
            refine lv_topi (fun v1178 ev1178 => ?_)
            have hv1178 := i_rem (Eq.refl v1159.toInt) (show (1 : Int32).toInt = 1 by decide) ev1178 (by omega) (by omega)
            refine lv_istore_n (lv' := [(2, .int v1178), (7, .int 0), (6, .int 2), (3, .int 5), (5, .int 1), (4, .int 1), (0, .int p0), (1, .int p1)]) hx hb dX11_seasonAt_31 rfl hl (by decide) rfl (fun ls hl => ?_)
            refine lv_iload hx hb dX11_seasonAt_32 (lv_at hl 2 rfl) ?_
            refine lv_if_ne (tgt := 41) hx hb dX11_seasonAt_34 (by decide) (fun c1179 => ?_) (fun c1179 => ?_)
            rotate_left
            · exact absurd c1179 (by decide)
            refine lv_iconst (v := 1) hx hb dX11_seasonAt_41 (by decide) ?_
            refine lv_istore (lv' := [(4, .int 1), (2, .int v1178), (7, .int 0), (6, .int 2), (3, .int 5), (5, .int 1), (0, .int p0), (1, .int p1)]) hx hb dX11_seasonAt_42 hl (by decide) rfl (fun ls hl => ?_)
            refine lv_iconst (v := 0) hx hb dX11_seasonAt_44 (by decide) ?_
            refine lv_istore (lv' := [(5, .int 0), (4, .int 1), (2, .int v1178), (7, .int 0), (6, .int 2), (3, .int 5), (0, .int p0), (1, .int p1)]) hx hb dX11_seasonAt_45 hl (by decide) rfl (fun ls hl => ?_)
            refine lv_iload_n hx hb dX11_seasonAt_47 rfl (lv_at hl 5 rfl) ?_
            refine lv_iload hx hb dX11_seasonAt_48 (lv_at hl 0 rfl) ?_
            refine lv_ishr hx hb dX11_seasonAt_50 ?_
            refine lv_topi (fun z1180 ez1180 => ?_)
            obtain rfl : z1180 = 5 := ez1180.trans (by decide)
            refine lv_iconst (v := 1) hx hb dX11_seasonAt_51 (by decide) ?_
            refine lv_iand hx hb dX11_seasonAt_52 ?_
            refine lv_topi (fun z1181 ez1181 => ?_)
            obtain rfl : z1181 = 1 := ez1181.trans (by decide)
            refine lv_if_eq (tgt := 61) hx hb dX11_seasonAt_53 (by decide) (fun c1182 => ?_) (fun c1182 => ?_)
            · exact absurd c1182 (by decide)
            refine lv_iload hx hb dX11_seasonAt_56 (lv_at hl 3 rfl) ?_
            refine lv_if_le (tgt := 78) hx hb dX11_seasonAt_58 (by decide) (fun c1183 => ?_) (fun c1183 => ?_)
            rotate_left
            · exact absurd c1183 (by decide)
            refine lv_iload_n hx hb dX11_seasonAt_78 rfl (lv_at hl 5 rfl) ?_
            refine lv_iconst (v := 1) hx hb dX11_seasonAt_79 (by decide) ?_
            refine lv_iload hx hb dX11_seasonAt_80 (lv_at hl 0 rfl) ?_
            refine lv_ishl hx hb dX11_seasonAt_82 ?_
            refine lv_topi (fun z1184 ez1184 => ?_)
            obtain rfl : z1184 = 1 := ez1184.trans (by decide)
            refine lv_iconst (v := (-1)) hx hb dX11_seasonAt_83 (by decide) ?_
            refine lv_ixor hx hb dX11_seasonAt_84 ?_
            refine lv_topi (fun z1185 ez1185 => ?_)
            obtain rfl : z1185 = (-2) := ez1185.trans (by decide)
            refine lv_iand hx hb dX11_seasonAt_85 ?_
            refine lv_topi (fun z1186 ez1186 => ?_)
            obtain rfl : z1186 = 4 := ez1186.trans (by decide)
            refine lv_istore_n (lv' := [(3, .int 4), (5, .int 0), (4, .int 1), (2, .int v1178), (7, .int 0), (6, .int 2), (0, .int p0), (1, .int p1)]) hx hb dX11_seasonAt_86 rfl hl (by decide) rfl (fun ls hl => ?_)
            refine lv_iinc (v := 3) (lv' := [(6, .int 3), (3, .int 4), (5, .int 0), (4, .int 1), (2, .int v1178), (7, .int 0), (0, .int p0), (1, .int p1)]) hx hb dX11_seasonAt_87 hl (k := 5) rfl (by decide) (by decide) rfl (fun ls hl => ?_)
            refine lv_goto (tgt := 15) hx hb dX11_seasonAt_90 (by decide) ?_
            refine lv_iload hx hb dX11_seasonAt_15 (lv_at hl 0 rfl) ?_
            refine lv_iload_n hx hb dX11_seasonAt_17 rfl (lv_at hl 7 rfl) ?_
            refine lv_icmp_gt (tgt := 93) hx hb dX11_seasonAt_18 (by decide) (fun c1187 => ?_) (fun c1187 => ?_)
            · skip
              have c1187 := i_lt (Eq.refl p1.toInt) (show (3 : Int32).toInt = 3 by decide) c1187
              refine lv_iload hx hb dX11_seasonAt_93 (lv_at hl 2 rfl) ?_
              refine W.widen (k := 0) (n := 0) (Nat.le_of_ble_eq_true rfl) (Nat.le_of_ble_eq_true rfl) ?_
              have zi0 : (0 : Int32).toInt = 0 := by decide
              exact W.iret (v := 0) hx hb hr (fun t ht hW => ⟨⟨0, rfl, ((show (0 ≤ (0 : Int32).toInt ∧ (0 : Int32).toInt ≤ 3) by omega)), CB.nil⟩, hS.F ht⟩) hS.2.2 dX11_seasonAt_95
            · skip
              have c1187 := i_nlt (Eq.refl p1.toInt) (show (3 : Int32).toInt = 3 by decide) c1187
              refine lv_iload_n hx hb dX11_seasonAt_21 rfl (lv_at hl 4 rfl) ?_
              refine lv_iload hx hb dX11_seasonAt_22 (lv_at hl 3 rfl) ?_
              refine lv_idiv hx hb dX11_seasonAt_24 (i_nz (show (1 : Int32).toInt = 1 by decide) (by omega)) ?_
              refine lv_topi (fun v1188 ev1188 => ?_)
              have hv1188 := i_div (Eq.refl v1178.toInt) (show (1 : Int32).toInt = 1 by decide) ev1188 (by omega) (by omega)
              refine lv_istore (lv' := [(7, .int v1188), (6, .int 3), (3, .int 4), (5, .int 0), (4, .int 1), (2, .int v1178), (0, .int p0), (1, .int p1)]) hx hb dX11_seasonAt_25 hl (by decide) rfl (fun ls hl => ?_)
              rcases (show v1188.toInt = 0 by omega) with c1189
              · obtain rfl : v1188 = 0 := i_is c1189 (by decide)
                refine lv_iload_n hx hb dX11_seasonAt_27 rfl (lv_at hl 5 rfl) ?_
                refine lv_iload hx hb dX11_seasonAt_28 (lv_at hl 4 rfl) ?_
                refine lv_irem hx hb dX11_seasonAt_30 (i_nz (show (1 : Int32).toInt = 1 by decide) (by omega)) ?_
                refine lv_topi (fun v1190 ev1190 => ?_)
                have hv1190 := i_rem (Eq.refl v1178.toInt) (show (1 : Int32).toInt = 1 by decide) ev1190 (by omega) (by omega)
                refine lv_istore_n (lv' := [(2, .int v1190), (7, .int 0), (6, .int 3), (3, .int 4), (5, .int 0), (4, .int 1), (0, .int p0), (1, .int p1)]) hx hb dX11_seasonAt_31 rfl hl (by decide) rfl (fun ls hl => ?_)
                refine lv_iload hx hb dX11_seasonAt_32 (lv_at hl 2 rfl) ?_
                refine lv_if_ne (tgt := 41) hx hb dX11_seasonAt_34 (by decide) (fun c1191 => ?_) (fun c1191 => ?_)
                rotate_left
                · exact absurd c1191 (by decide)
                refine lv_iconst (v := 1) hx hb dX11_seasonAt_41 (by decide) ?_
                refine lv_istore (lv' := [(4, .int 1), (2, .int v1190), (7, .int 0), (6, .int 3), (3, .int 4), (5, .int 0), (0, .int p0), (1, .int p1)]) hx hb dX11_seasonAt_42 hl (by decide) rfl (fun ls hl => ?_)
                refine lv_iconst (v := 0) hx hb dX11_seasonAt_44 (by decide) ?_
                refine lv_istore (lv' := [(5, .int 0), (4, .int 1), (2, .int v1190), (7, .int 0), (6, .int 3), (3, .int 4), (0, .int p0), (1, .int p1)]) hx hb dX11_seasonAt_45 hl (by decide) rfl (fun ls hl => ?_)
                refine lv_iload_n hx hb dX11_seasonAt_47 rfl (lv_at hl 5 rfl) ?_
                refine lv_iload hx hb dX11_seasonAt_48 (lv_at hl 0 rfl) ?_
                refine lv_ishr hx hb dX11_seasonAt_50 ?_
                refine lv_topi (fun z1192 ez1192 => ?_)
                obtain rfl : z1192 = 4 := ez1192.trans (by decide)
                refine lv_iconst (v := 1) hx hb dX11_seasonAt_51 (by decide) ?_
                refine lv_iand hx hb dX11_seasonAt_52 ?_
                refine lv_topi (fun z1193 ez1193 => ?_)
                obtain rfl : z1193 = 0 := ez1193.trans (by decide)
                refine lv_if_eq (tgt := 61) hx hb dX11_seasonAt_53 (by decide) (fun c1194 => ?_) (fun c1194 => ?_)
                rotate_left
                · exact absurd c1194 (by decide)
                refine lv_iload hx hb dX11_seasonAt_61 (lv_at hl 3 rfl) ?_
                refine lv_iload_n hx hb dX11_seasonAt_63 rfl (lv_at hl 5 rfl) ?_
                refine lv_iload hx hb dX11_seasonAt_64 (lv_at hl 0 rfl) ?_
                refine lv_ishr hx hb dX11_seasonAt_66 ?_
                refine lv_topi (fun z1195 ez1195 => ?_)
                obtain rfl : z1195 = 4 := ez1195.trans (by decide)
                refine lv_iconst (v := 1) hx hb dX11_seasonAt_67 (by decide) ?_
                refine lv_iand hx hb dX11_seasonAt_68 ?_
                refine lv_topi (fun z1196 ez1196 => ?_)
                obtain rfl : z1196 = 0 := ez1196.trans (by decide)
                refine lv_isub hx hb dX11_seasonAt_69 ?_
                refine lv_topi (fun z1197 ez1197 => ?_)
                obtain rfl : z1197 = 0 := ez1197.trans (by decide)
                refine lv_istore (lv' := [(7, .int 0), (5, .int 0), (4, .int 1), (2, .int v1190), (6, .int 3), (3, .int 4), (0, .int p0), (1, .int p1)]) hx hb dX11_seasonAt_70 hl (by decide) rfl (fun ls hl => ?_)
                refine lv_iinc (v := 1) (lv' := [(5, .int 1), (7, .int 0), (4, .int 1), (2, .int v1190), (6, .int 3), (3, .int 4), (0, .int p0), (1, .int p1)]) hx hb dX11_seasonAt_72 hl (k := 1) rfl (by decide) (by decide) rfl (fun ls hl => ?_)
                refine lv_goto (tgt := 47) hx hb dX11_seasonAt_75 (by decide) ?_
                refine lv_iload_n hx hb dX11_seasonAt_47 rfl (lv_at hl 5 rfl) ?_
                refine lv_iload hx hb dX11_seasonAt_48 (lv_at hl 0 rfl) ?_
                refine lv_ishr hx hb dX11_seasonAt_50 ?_
                refine lv_topi (fun z1198 ez1198 => ?_)
                obtain rfl : z1198 = 2 := ez1198.trans (by decide)
                refine lv_iconst (v := 1) hx hb dX11_seasonAt_51 (by decide) ?_
                refine lv_iand hx hb dX11_seasonAt_52 ?_
                refine lv_topi (fun z1199 ez1199 => ?_)
                obtain rfl : z1199 = 0 := ez1199.trans (by decide)
                refine lv_if_eq (tgt := 61) hx hb dX11_seasonAt_53 (by decide) (fun c1200 => ?_) (fun c1200 => ?_)
                rotate_left
                · exact absurd c1200 (by decide)
                refine lv_iload hx hb dX11_seasonAt_61 (lv_at hl 1 rfl) ?_
                refine lv_iload_n hx hb dX11_seasonAt_63 rfl (lv_at hl 5 rfl) ?_
                refine lv_iload hx hb dX11_seasonAt_64 (lv_at hl 0 rfl) ?_
                refine lv_ishr hx hb dX11_seasonAt_66 ?_
                refine lv_topi (fun z1201 ez1201 => ?_)
                obtain rfl : z1201 = 2 := ez1201.trans (by decide)
                refine lv_iconst (v := 1) hx hb dX11_seasonAt_67 (by decide) ?_
                refine lv_iand hx hb dX11_seasonAt_68 ?_
                refine lv_topi (fun z1202 ez1202 => ?_)
                obtain rfl : z1202 = 0 := ez1202.trans (by decide)
                refine lv_isub hx hb dX11_seasonAt_69 ?_
                refine lv_topi (fun z1203 ez1203 => ?_)
                obtain rfl : z1203 = 0 := ez1203.trans (by decide)
                refine lv_istore (lv' := [(7, .int 0), (5, .int 1), (4, .int 1), (2, .int v1190), (6, .int 3), (3, .int 4), (0, .int p0), (1, .int p1)]) hx hb dX11_seasonAt_70 hl (by decide) rfl (fun ls hl => ?_)
                refine lv_iinc (v := 2) (lv' := [(5, .int 2), (7, .int 0), (4, .int 1), (2, .int v1190), (6, .int 3), (3, .int 4), (0, .int p0), (1, .int p1)]) hx hb dX11_seasonAt_72 hl (k := 1) rfl (by decide) (by decide) rfl (fun ls hl => ?_)
                refine lv_goto (tgt := 47) hx hb dX11_seasonAt_75 (by decide) ?_
                refine lv_iload_n hx hb dX11_seasonAt_47 rfl (lv_at hl 5 rfl) ?_
                refine lv_iload hx hb dX11_seasonAt_48 (lv_at hl 0 rfl) ?_
                refine lv_ishr hx hb dX11_seasonAt_50 ?_
                refine lv_topi (fun z1204 ez1204 => ?_)
                obtain rfl : z1204 = 1 := ez1204.trans (by decide)
                refine lv_iconst (v := 1) hx hb dX11_seasonAt_51 (by decide) ?_
                refine lv_iand hx hb dX11_seasonAt_52 ?_
                refine lv_topi (fun z1205 ez1205 => ?_)
                obtain rfl : z1205 = 1 := ez1205.trans (by decide)
                refine lv_if_eq (tgt := 61) hx hb dX11_seasonAt_53 (by decide) (fun c1206 => ?_) (fun c1206 => ?_)
                · exact absurd c1206 (by decide)
                refine lv_iload hx hb dX11_seasonAt_56 (lv_at hl 1 rfl) ?_
                refine lv_if_le (tgt := 78) hx hb dX11_seasonAt_58 (by decide) (fun c1207 => ?_) (fun c1207 => ?_)
                rotate_left
                · exact absurd c1207 (by decide)
                refine lv_iload_n hx hb dX11_seasonAt_78 rfl (lv_at hl 5 rfl) ?_
                refine lv_iconst (v := 1) hx hb dX11_seasonAt_79 (by decide) ?_
                refine lv_iload hx hb dX11_seasonAt_80 (lv_at hl 0 rfl) ?_
                refine lv_ishl hx hb dX11_seasonAt_82 ?_
                refine lv_topi (fun z1208 ez1208 => ?_)
                obtain rfl : z1208 = 4 := ez1208.trans (by decide)
                refine lv_iconst (v := (-1)) hx hb dX11_seasonAt_83 (by decide) ?_
                refine lv_ixor hx hb dX11_seasonAt_84 ?_
                refine lv_topi (fun z1209 ez1209 => ?_)
                obtain rfl : z1209 = (-5) := ez1209.trans (by decide)
                refine lv_iand hx hb dX11_seasonAt_85 ?_
                refine lv_topi (fun z1210 ez1210 => ?_)
                obtain rfl : z1210 = 0 := ez1210.trans (by decide)
                refine lv_istore_n (lv' := [(3, .int 0), (5, .int 2), (7, .int 0), (4, .int 1), (2, .int v1190), (6, .int 3), (0, .int p0), (1, .int p1)]) hx hb dX11_seasonAt_86 rfl hl (by decide) rfl (fun ls hl => ?_)
                refine lv_iinc (v := 4) (lv' := [(6, .int 4), (3, .int 0), (5, .int 2), (7, .int 0), (4, .int 1), (2, .int v1190), (0, .int p0), (1, .int p1)]) hx hb dX11_seasonAt_87 hl (k := 5) rfl (by decide) (by decide) rfl (fun ls hl => ?_)
                refine lv_goto (tgt := 15) hx hb dX11_seasonAt_90 (by decide) ?_
                refine lv_iload hx hb dX11_seasonAt_15 (lv_at hl 0 rfl) ?_
                refine lv_iload_n hx hb dX11_seasonAt_17 rfl (lv_at hl 7 rfl) ?_
                refine lv_icmp_gt (tgt := 93) hx hb dX11_seasonAt_18 (by decide) (fun c1211 => ?_) (fun c1211 => ?_)
                rotate_left
                · have c1211 := i_nlt (Eq.refl p1.toInt) (show (4 : Int32).toInt = 4 by decide) c1211; exfalso; omega
                have c1211 := i_lt (Eq.refl p1.toInt) (show (4 : Int32).toInt = 4 by decide) c1211
                refine lv_iload hx hb dX11_seasonAt_93 (lv_at hl 2 rfl) ?_
                refine W.widen (k := 0) (n := 0) (Nat.le_of_ble_eq_true rfl) (Nat.le_of_ble_eq_true rfl) ?_
                exact W.iret (v := 2) hx hb hr (fun t ht hW => ⟨⟨2, rfl, ((show (0 ≤ (2 : Int32).toInt ∧ (2 : Int32).toInt ≤ 3) by omega)), CB.nil⟩, hS.F ht⟩) hS.2.2 dX11_seasonAt_95
          · obtain rfl : v1176 = 1 := i_is c1177 (by decide)
            refine lv_iload_n hx hb dX11_seasonAt_27 rfl (lv_at hl 5 rfl) ?_
            refine lv_iload hx hb dX11_seasonAt_28 (lv_at hl 4 rfl) ?_
            refine lv_irem hx hb dX11_seasonAt_30 (i_nz (show (1 : Int32).toInt = 1 by decide) (by omega)) ?_
            refine lv_topi (fun v1212 ev1212 => ?_)
            have hv1212 := i_rem (Eq.refl v1159.toInt) (show (1 : Int32).toInt = 1 by decide) ev1212 (by omega) (by omega)
            refine lv_istore_n (lv' := [(2, .int v1212), (7, .int 1), (6, .int 2), (3, .int 5), (5, .int 1), (4, .int 1), (0, .int p0), (1, .int p1)]) hx hb dX11_seasonAt_31 rfl hl (by decide) rfl (fun ls hl => ?_)
            refine lv_iload hx hb dX11_seasonAt_32 (lv_at hl 2 rfl) ?_
            refine lv_if_ne (tgt := 41) hx hb dX11_seasonAt_34 (by decide) (fun c1213 => ?_) (fun c1213 => ?_)
            rotate_left
            · exact absurd c1213 (by decide)
            refine lv_iconst (v := 1) hx hb dX11_seasonAt_41 (by decide) ?_
            refine lv_istore (lv' := [(4, .int 1), (2, .int v1212), (7, .int 1), (6, .int 2), (3, .int 5), (5, .int 1), (0, .int p0), (1, .int p1)]) hx hb dX11_seasonAt_42 hl (by decide) rfl (fun ls hl => ?_)
            refine lv_iconst (v := 0) hx hb dX11_seasonAt_44 (by decide) ?_
            refine lv_istore (lv' := [(5, .int 0), (4, .int 1), (2, .int v1212), (7, .int 1), (6, .int 2), (3, .int 5), (0, .int p0), (1, .int p1)]) hx hb dX11_seasonAt_45 hl (by decide) rfl (fun ls hl => ?_)
            refine lv_iload_n hx hb dX11_seasonAt_47 rfl (lv_at hl 5 rfl) ?_
            refine lv_iload hx hb dX11_seasonAt_48 (lv_at hl 0 rfl) ?_
            refine lv_ishr hx hb dX11_seasonAt_50 ?_
            refine lv_topi (fun z1214 ez1214 => ?_)
            obtain rfl : z1214 = 5 := ez1214.trans (by decide)
            refine lv_iconst (v := 1) hx hb dX11_seasonAt_51 (by decide) ?_
            refine lv_iand hx hb dX11_seasonAt_52 ?_
            refine lv_topi (fun z1215 ez1215 => ?_)
            obtain rfl : z1215 = 1 := ez1215.trans (by decide)
            refine lv_if_eq (tgt := 61) hx hb dX11_seasonAt_53 (by decide) (fun c1216 => ?_) (fun c1216 => ?_)
            · exact absurd c1216 (by decide)
            refine lv_iload hx hb dX11_seasonAt_56 (lv_at hl 3 rfl) ?_
            refine lv_if_le (tgt := 78) hx hb dX11_seasonAt_58 (by decide) (fun c1217 => ?_) (fun c1217 => ?_)
            · exact absurd c1217 (by decide)
            refine lv_iload hx hb dX11_seasonAt_61 (lv_at hl 3 rfl) ?_
            refine lv_iload_n hx hb dX11_seasonAt_63 rfl (lv_at hl 5 rfl) ?_
            refine lv_iload hx hb dX11_seasonAt_64 (lv_at hl 0 rfl) ?_
            refine lv_ishr hx hb dX11_seasonAt_66 ?_
            refine lv_topi (fun z1218 ez1218 => ?_)
            obtain rfl : z1218 = 5 := ez1218.trans (by decide)
            refine lv_iconst (v := 1) hx hb dX11_seasonAt_67 (by decide) ?_
            refine lv_iand hx hb dX11_seasonAt_68 ?_
            refine lv_topi (fun z1219 ez1219 => ?_)
            obtain rfl : z1219 = 1 := ez1219.trans (by decide)
            refine lv_isub hx hb dX11_seasonAt_69 ?_
            refine lv_topi (fun z1220 ez1220 => ?_)
            obtain rfl : z1220 = 0 := ez1220.trans (by decide)
            refine lv_istore (lv' := [(7, .int 0), (5, .int 0), (4, .int 1), (2, .int v1212), (6, .int 2), (3, .int 5), (0, .int p0), (1, .int p1)]) hx hb dX11_seasonAt_70 hl (by decide) rfl (fun ls hl => ?_)
            refine lv_iinc (v := 1) (lv' := [(5, .int 1), (7, .int 0), (4, .int 1), (2, .int v1212), (6, .int 2), (3, .int 5), (0, .int p0), (1, .int p1)]) hx hb dX11_seasonAt_72 hl (k := 1) rfl (by decide) (by decide) rfl (fun ls hl => ?_)
            refine lv_goto (tgt := 47) hx hb dX11_seasonAt_75 (by decide) ?_
            refine lv_iload_n hx hb dX11_seasonAt_47 rfl (lv_at hl 5 rfl) ?_
            refine lv_iload hx hb dX11_seasonAt_48 (lv_at hl 0 rfl) ?_
            refine lv_ishr hx hb dX11_seasonAt_50 ?_
            refine lv_topi (fun z1221 ez1221 => ?_)
            obtain rfl : z1221 = 2 := ez1221.trans (by decide)
            refine lv_iconst (v := 1) hx hb dX11_seasonAt_51 (by decide) ?_
            refine lv_iand hx hb dX11_seasonAt_52 ?_
            refine lv_topi (fun z1222 ez1222 => ?_)
            obtain rfl : z1222 = 0 := ez1222.trans (by decide)
            refine lv_if_eq (tgt := 61) hx hb dX11_seasonAt_53 (by decide) (fun c1223 => ?_) (fun c1223 => ?_)
            rotate_left
            · exact absurd c1223 (by decide)
            refine lv_iload hx hb dX11_seasonAt_61 (lv_at hl 1 rfl) ?_
            refine lv_iload_n hx hb dX11_seasonAt_63 rfl (lv_at hl 5 rfl) ?_
            refine lv_iload hx hb dX11_seasonAt_64 (lv_at hl 0 rfl) ?_
            refine lv_ishr hx hb dX11_seasonAt_66 ?_
            refine lv_topi (fun z1224 ez1224 => ?_)
            obtain rfl : z1224 = 2 := ez1224.trans (by decide)
            refine lv_iconst (v := 1) hx hb dX11_seasonAt_67 (by decide) ?_
            refine lv_iand hx hb dX11_seasonAt_68 ?_
            refine lv_topi (fun z1225 ez1225 => ?_)
            obtain rfl : z1225 = 0 := ez1225.trans (by decide)
            refine lv_isub hx hb dX11_seasonAt_69 ?_
            refine lv_topi (fun z1226 ez1226 => ?_)
            obtain rfl : z1226 = 0 := ez1226.trans (by decide)
            refine lv_istore (lv' := [(7, .int 0), (5, .int 1), (4, .int 1), (2, .int v1212), (6, .int 2), (3, .int 5), (0, .int p0), (1, .int p1)]) hx hb dX11_seasonAt_70 hl (by decide) rfl (fun ls hl => ?_)
            refine lv_iinc (v := 2) (lv' := [(5, .int 2), (7, .int 0), (4, .int 1), (2, .int v1212), (6, .int 2), (3, .int 5), (0, .int p0), (1, .int p1)]) hx hb dX11_seasonAt_72 hl (k := 1) rfl (by decide) (by decide) rfl (fun ls hl => ?_)
            refine lv_goto (tgt := 47) hx hb dX11_seasonAt_75 (by decide) ?_
            refine lv_iload_n hx hb dX11_seasonAt_47 rfl (lv_at hl 5 rfl) ?_
            refine lv_iload hx hb dX11_seasonAt_48 (lv_at hl 0 rfl) ?_
            refine lv_ishr hx hb dX11_seasonAt_50 ?_
            refine lv_topi (fun z1227 ez1227 => ?_)
            obtain rfl : z1227 = 1 := ez1227.trans (by decide)
            refine lv_iconst (v := 1) hx hb dX11_seasonAt_51 (by decide) ?_
            refine lv_iand hx hb dX11_seasonAt_52 ?_
            refine lv_topi (fun z1228 ez1228 => ?_)
            obtain rfl : z1228 = 1 := ez1228.trans (by decide)
            refine lv_if_eq (tgt := 61) hx hb dX11_seasonAt_53 (by decide) (fun c1229 => ?_) (fun c1229 => ?_)
            · exact absurd c1229 (by decide)
            refine lv_iload hx hb dX11_seasonAt_56 (lv_at hl 1 rfl) ?_
            refine lv_if_le (tgt := 78) hx hb dX11_seasonAt_58 (by decide) (fun c1230 => ?_) (fun c1230 => ?_)
            rotate_left
            · exact absurd c1230 (by decide)
            refine lv_iload_n hx hb dX11_seasonAt_78 rfl (lv_at hl 5 rfl) ?_
            refine lv_iconst (v := 1) hx hb dX11_seasonAt_79 (by decide) ?_
            refine lv_iload hx hb dX11_seasonAt_80 (lv_at hl 0 rfl) ?_
            refine lv_ishl hx hb dX11_seasonAt_82 ?_
            refine lv_topi (fun z1231 ez1231 => ?_)
            obtain rfl : z1231 = 4 := ez1231.trans (by decide)
            refine lv_iconst (v := (-1)) hx hb dX11_seasonAt_83 (by decide) ?_
            refine lv_ixor hx hb dX11_seasonAt_84 ?_
            refine lv_topi (fun z1232 ez1232 => ?_)
            obtain rfl : z1232 = (-5) := ez1232.trans (by decide)
            refine lv_iand hx hb dX11_seasonAt_85 ?_
            refine lv_topi (fun z1233 ez1233 => ?_)
            obtain rfl : z1233 = 1 := ez1233.trans (by decide)
            refine lv_istore_n (lv' := [(3, .int 1), (5, .int 2), (7, .int 0), (4, .int 1), (2, .int v1212), (6, .int 2), (0, .int p0), (1, .int p1)]) hx hb dX11_seasonAt_86 rfl hl (by decide) rfl (fun ls hl => ?_)
            refine lv_iinc (v := 3) (lv' := [(6, .int 3), (3, .int 1), (5, .int 2), (7, .int 0), (4, .int 1), (2, .int v1212), (0, .int p0), (1, .int p1)]) hx hb dX11_seasonAt_87 hl (k := 5) rfl (by decide) (by decide) rfl (fun ls hl => ?_)
            refine lv_goto (tgt := 15) hx hb dX11_seasonAt_90 (by decide) ?_
            refine lv_iload hx hb dX11_seasonAt_15 (lv_at hl 0 rfl) ?_
            refine lv_iload_n hx hb dX11_seasonAt_17 rfl (lv_at hl 7 rfl) ?_
            refine lv_icmp_gt (tgt := 93) hx hb dX11_seasonAt_18 (by decide) (fun c1234 => ?_) (fun c1234 => ?_)
            · skip
              have c1234 := i_lt (Eq.refl p1.toInt) (show (3 : Int32).toInt = 3 by decide) c1234
              refine lv_iload hx hb dX11_seasonAt_93 (lv_at hl 2 rfl) ?_
              refine W.widen (k := 0) (n := 0) (Nat.le_of_ble_eq_true rfl) (Nat.le_of_ble_eq_true rfl) ?_
              exact W.iret (v := 2) hx hb hr (fun t ht hW => ⟨⟨2, rfl, ((show (0 ≤ (2 : Int32).toInt ∧ (2 : Int32).toInt ≤ 3) by omega)), CB.nil⟩, hS.F ht⟩) hS.2.2 dX11_seasonAt_95
            · skip
              have c1234 := i_nlt (Eq.refl p1.toInt) (show (3 : Int32).toInt = 3 by decide) c1234
              refine lv_iload_n hx hb dX11_seasonAt_21 rfl (lv_at hl 5 rfl) ?_
              refine lv_iload hx hb dX11_seasonAt_22 (lv_at hl 4 rfl) ?_
              refine lv_idiv hx hb dX11_seasonAt_24 (i_nz (show (1 : Int32).toInt = 1 by decide) (by omega)) ?_
              refine lv_topi (fun v1235 ev1235 => ?_)
              have hv1235 := i_div (Eq.refl v1212.toInt) (show (1 : Int32).toInt = 1 by decide) ev1235 (by omega) (by omega)
              refine lv_istore (lv' := [(7, .int v1235), (6, .int 3), (3, .int 1), (5, .int 2), (4, .int 1), (2, .int v1212), (0, .int p0), (1, .int p1)]) hx hb dX11_seasonAt_25 hl (by decide) rfl (fun ls hl => ?_)
              rcases (show v1235.toInt = 0 by omega) with c1236
              · obtain rfl : v1235 = 0 := i_is c1236 (by decide)
                refine lv_iload_n hx hb dX11_seasonAt_27 rfl (lv_at hl 5 rfl) ?_
                refine lv_iload hx hb dX11_seasonAt_28 (lv_at hl 4 rfl) ?_
                refine lv_irem hx hb dX11_seasonAt_30 (i_nz (show (1 : Int32).toInt = 1 by decide) (by omega)) ?_
                refine lv_topi (fun v1237 ev1237 => ?_)
                have hv1237 := i_rem (Eq.refl v1212.toInt) (show (1 : Int32).toInt = 1 by decide) ev1237 (by omega) (by omega)
                refine lv_istore_n (lv' := [(2, .int v1237), (7, .int 0), (6, .int 3), (3, .int 1), (5, .int 2), (4, .int 1), (0, .int p0), (1, .int p1)]) hx hb dX11_seasonAt_31 rfl hl (by decide) rfl (fun ls hl => ?_)
                refine lv_iload hx hb dX11_seasonAt_32 (lv_at hl 2 rfl) ?_
                refine lv_if_ne (tgt := 41) hx hb dX11_seasonAt_34 (by decide) (fun c1238 => ?_) (fun c1238 => ?_)
                rotate_left
                · exact absurd c1238 (by decide)
                refine lv_iconst (v := 1) hx hb dX11_seasonAt_41 (by decide) ?_
                refine lv_istore (lv' := [(4, .int 1), (2, .int v1237), (7, .int 0), (6, .int 3), (3, .int 1), (5, .int 2), (0, .int p0), (1, .int p1)]) hx hb dX11_seasonAt_42 hl (by decide) rfl (fun ls hl => ?_)
                refine lv_iconst (v := 0) hx hb dX11_seasonAt_44 (by decide) ?_
                refine lv_istore (lv' := [(5, .int 0), (4, .int 1), (2, .int v1237), (7, .int 0), (6, .int 3), (3, .int 1), (0, .int p0), (1, .int p1)]) hx hb dX11_seasonAt_45 hl (by decide) rfl (fun ls hl => ?_)
                refine lv_iload_n hx hb dX11_seasonAt_47 rfl (lv_at hl 5 rfl) ?_
                refine lv_iload hx hb dX11_seasonAt_48 (lv_at hl 0 rfl) ?_
                refine lv_ishr hx hb dX11_seasonAt_50 ?_
                refine lv_topi (fun z1239 ez1239 => ?_)
                obtain rfl : z1239 = 1 := ez1239.trans (by decide)
                refine lv_iconst (v := 1) hx hb dX11_seasonAt_51 (by decide) ?_
                refine lv_iand hx hb dX11_seasonAt_52 ?_
                refine lv_topi (fun z1240 ez1240 => ?_)
                obtain rfl : z1240 = 1 := ez1240.trans (by decide)
                refine lv_if_eq (tgt := 61) hx hb dX11_seasonAt_53 (by decide) (fun c1241 => ?_) (fun c1241 => ?_)
                · exact absurd c1241 (by decide)
                refine lv_iload hx hb dX11_seasonAt_56 (lv_at hl 3 rfl) ?_
                refine lv_if_le (tgt := 78) hx hb dX11_seasonAt_58 (by decide) (fun c1242 => ?_) (fun c1242 => ?_)
                rotate_left
                · exact absurd c1242 (by decide)
                refine lv_iload_n hx hb dX11_seasonAt_78 rfl (lv_at hl 5 rfl) ?_
                refine lv_iconst (v := 1) hx hb dX11_seasonAt_79 (by decide) ?_
                refine lv_iload hx hb dX11_seasonAt_80 (lv_at hl 0 rfl) ?_
                refine lv_ishl hx hb dX11_seasonAt_82 ?_
                refine lv_topi (fun z1243 ez1243 => ?_)
                obtain rfl : z1243 = 1 := ez1243.trans (by decide)
                refine lv_iconst (v := (-1)) hx hb dX11_seasonAt_83 (by decide) ?_
                refine lv_ixor hx hb dX11_seasonAt_84 ?_
                refine lv_topi (fun z1244 ez1244 => ?_)
                obtain rfl : z1244 = (-2) := ez1244.trans (by decide)
                refine lv_iand hx hb dX11_seasonAt_85 ?_
                refine lv_topi (fun z1245 ez1245 => ?_)
                obtain rfl : z1245 = 0 := ez1245.trans (by decide)
                refine lv_istore_n (lv' := [(3, .int 0), (5, .int 0), (4, .int 1), (2, .int v1237), (7, .int 0), (6, .int 3), (0, .int p0), (1, .int p1)]) hx hb dX11_seasonAt_86 rfl hl (by decide) rfl (fun ls hl => ?_)
                refine lv_iinc (v := 4) (lv' := [(6, .int 4), (3, .int 0), (5, .int 0), (4, .int 1), (2, .int v1237), (7, .int 0), (0, .int p0), (1, .int p1)]) hx hb dX11_seasonAt_87 hl (k := 5) rfl (by decide) (by decide) rfl (fun ls hl => ?_)
                refine lv_goto (tgt := 15) hx hb dX11_seasonAt_90 (by decide) ?_
                refine lv_iload hx hb dX11_seasonAt_15 (lv_at hl 0 rfl) ?_
                refine lv_iload_n hx hb dX11_seasonAt_17 rfl (lv_at hl 7 rfl) ?_
                refine lv_icmp_gt (tgt := 93) hx hb dX11_seasonAt_18 (by decide) (fun c1246 => ?_) (fun c1246 => ?_)
                rotate_left
                · have c1246 := i_nlt (Eq.refl p1.toInt) (show (4 : Int32).toInt = 4 by decide) c1246; exfalso; omega
                have c1246 := i_lt (Eq.refl p1.toInt) (show (4 : Int32).toInt = 4 by decide) c1246
                refine lv_iload hx hb dX11_seasonAt_93 (lv_at hl 2 rfl) ?_
                refine W.widen (k := 0) (n := 0) (Nat.le_of_ble_eq_true rfl) (Nat.le_of_ble_eq_true rfl) ?_
                have zi0 : (0 : Int32).toInt = 0 := by decide
                exact W.iret (v := 0) hx hb hr (fun t ht hW => ⟨⟨0, rfl, ((show (0 ≤ (0 : Int32).toInt ∧ (0 : Int32).toInt ≤ 3) by omega)), CB.nil⟩, hS.F ht⟩) hS.2.2 dX11_seasonAt_95
      · obtain rfl : v1064 = 2 := i_is c1065 (by decide)
        refine lv_iload_n hx hb dX11_seasonAt_27 rfl (lv_at hl 5 rfl) ?_
        refine lv_iload hx hb dX11_seasonAt_28 (lv_at hl 4 rfl) ?_
        refine lv_irem hx hb dX11_seasonAt_30 (i_nz (show (2 : Int32).toInt = 2 by decide) (by omega)) ?_
        refine lv_topi (fun v1247 ev1247 => ?_)
        have hv1247 := i_rem (Eq.refl v1033.toInt) (show (2 : Int32).toInt = 2 by decide) ev1247 (by omega) (by omega)
        refine lv_istore_n (lv' := [(2, .int v1247), (7, .int 2), (6, .int 1), (3, .int 7), (5, .int 3), (4, .int 2), (0, .int p0), (1, .int p1)]) hx hb dX11_seasonAt_31 rfl hl (by decide) rfl (fun ls hl => ?_)
        refine lv_iload hx hb dX11_seasonAt_32 (lv_at hl 2 rfl) ?_
        refine lv_if_ne (tgt := 41) hx hb dX11_seasonAt_34 (by decide) (fun c1248 => ?_) (fun c1248 => ?_)
        rotate_left
        · exact absurd c1248 (by decide)
        refine lv_iconst (v := 1) hx hb dX11_seasonAt_41 (by decide) ?_
        refine lv_istore (lv' := [(4, .int 1), (2, .int v1247), (7, .int 2), (6, .int 1), (3, .int 7), (5, .int 3), (0, .int p0), (1, .int p1)]) hx hb dX11_seasonAt_42 hl (by decide) rfl (fun ls hl => ?_)
        refine lv_iconst (v := 0) hx hb dX11_seasonAt_44 (by decide) ?_
        refine lv_istore (lv' := [(5, .int 0), (4, .int 1), (2, .int v1247), (7, .int 2), (6, .int 1), (3, .int 7), (0, .int p0), (1, .int p1)]) hx hb dX11_seasonAt_45 hl (by decide) rfl (fun ls hl => ?_)
        refine lv_iload_n hx hb dX11_seasonAt_47 rfl (lv_at hl 5 rfl) ?_
        refine lv_iload hx hb dX11_seasonAt_48 (lv_at hl 0 rfl) ?_
        refine lv_ishr hx hb dX11_seasonAt_50 ?_
        refine lv_topi (fun z1249 ez1249 => ?_)
        obtain rfl : z1249 = 7 := ez1249.trans (by decide)
        refine lv_iconst (v := 1) hx hb dX11_seasonAt_51 (by decide) ?_
        refine lv_iand hx hb dX11_seasonAt_52 ?_
        refine lv_topi (fun z1250 ez1250 => ?_)
        obtain rfl : z1250 = 1 := ez1250.trans (by decide)
        refine lv_if_eq (tgt := 61) hx hb dX11_seasonAt_53 (by decide) (fun c1251 => ?_) (fun c1251 => ?_)
        · exact absurd c1251 (by decide)
        refine lv_iload hx hb dX11_seasonAt_56 (lv_at hl 3 rfl) ?_
        refine lv_if_le (tgt := 78) hx hb dX11_seasonAt_58 (by decide) (fun c1252 => ?_) (fun c1252 => ?_)
        · exact absurd c1252 (by decide)
        refine lv_iload hx hb dX11_seasonAt_61 (lv_at hl 3 rfl) ?_
        refine lv_iload_n hx hb dX11_seasonAt_63 rfl (lv_at hl 5 rfl) ?_
        refine lv_iload hx hb dX11_seasonAt_64 (lv_at hl 0 rfl) ?_
        refine lv_ishr hx hb dX11_seasonAt_66 ?_
        refine lv_topi (fun z1253 ez1253 => ?_)
        obtain rfl : z1253 = 7 := ez1253.trans (by decide)
        refine lv_iconst (v := 1) hx hb dX11_seasonAt_67 (by decide) ?_
        refine lv_iand hx hb dX11_seasonAt_68 ?_
        refine lv_topi (fun z1254 ez1254 => ?_)
        obtain rfl : z1254 = 1 := ez1254.trans (by decide)
        refine lv_isub hx hb dX11_seasonAt_69 ?_
        refine lv_topi (fun z1255 ez1255 => ?_)
        obtain rfl : z1255 = 1 := ez1255.trans (by decide)
        refine lv_istore (lv' := [(7, .int 1), (5, .int 0), (4, .int 1), (2, .int v1247), (6, .int 1), (3, .int 7), (0, .int p0), (1, .int p1)]) hx hb dX11_seasonAt_70 hl (by decide) rfl (fun ls hl => ?_)
        refine lv_iinc (v := 1) (lv' := [(5, .int 1), (7, .int 1), (4, .int 1), (2, .int v1247), (6, .int 1), (3, .int 7), (0, .int p0), (1, .int p1)]) hx hb dX11_seasonAt_72 hl (k := 1) rfl (by decide) (by decide) rfl (fun ls hl => ?_)
        refine lv_goto (tgt := 47) hx hb dX11_seasonAt_75 (by decide) ?_
        refine lv_iload_n hx hb dX11_seasonAt_47 rfl (lv_at hl 5 rfl) ?_
        refine lv_iload hx hb dX11_seasonAt_48 (lv_at hl 0 rfl) ?_
        refine lv_ishr hx hb dX11_seasonAt_50 ?_
        refine lv_topi (fun z1256 ez1256 => ?_)
        obtain rfl : z1256 = 3 := ez1256.trans (by decide)
        refine lv_iconst (v := 1) hx hb dX11_seasonAt_51 (by decide) ?_
        refine lv_iand hx hb dX11_seasonAt_52 ?_
        refine lv_topi (fun z1257 ez1257 => ?_)
        obtain rfl : z1257 = 1 := ez1257.trans (by decide)
        refine lv_if_eq (tgt := 61) hx hb dX11_seasonAt_53 (by decide) (fun c1258 => ?_) (fun c1258 => ?_)
        · exact absurd c1258 (by decide)
        refine lv_iload hx hb dX11_seasonAt_56 (lv_at hl 1 rfl) ?_
        refine lv_if_le (tgt := 78) hx hb dX11_seasonAt_58 (by decide) (fun c1259 => ?_) (fun c1259 => ?_)
        · exact absurd c1259 (by decide)
        refine lv_iload hx hb dX11_seasonAt_61 (lv_at hl 1 rfl) ?_
        refine lv_iload_n hx hb dX11_seasonAt_63 rfl (lv_at hl 5 rfl) ?_
        refine lv_iload hx hb dX11_seasonAt_64 (lv_at hl 0 rfl) ?_
        refine lv_ishr hx hb dX11_seasonAt_66 ?_
        refine lv_topi (fun z1260 ez1260 => ?_)
        obtain rfl : z1260 = 3 := ez1260.trans (by decide)
        refine lv_iconst (v := 1) hx hb dX11_seasonAt_67 (by decide) ?_
        refine lv_iand hx hb dX11_seasonAt_68 ?_
        refine lv_topi (fun z1261 ez1261 => ?_)
        obtain rfl : z1261 = 1 := ez1261.trans (by decide)
        refine lv_isub hx hb dX11_seasonAt_69 ?_
        refine lv_topi (fun z1262 ez1262 => ?_)
        obtain rfl : z1262 = 0 := ez1262.trans (by decide)
        refine lv_istore (lv' := [(7, .int 0), (5, .int 1), (4, .int 1), (2, .int v1247), (6, .int 1), (3, .int 7), (0, .int p0), (1, .int p1)]) hx hb dX11_seasonAt_70 hl (by decide) rfl (fun ls hl => ?_)
        refine lv_iinc (v := 2) (lv' := [(5, .int 2), (7, .int 0), (4, .int 1), (2, .int v1247), (6, .int 1), (3, .int 7), (0, .int p0), (1, .int p1)]) hx hb dX11_seasonAt_72 hl (k := 1) rfl (by decide) (by decide) rfl (fun ls hl => ?_)
        refine lv_goto (tgt := 47) hx hb dX11_seasonAt_75 (by decide) ?_
        refine lv_iload_n hx hb dX11_seasonAt_47 rfl (lv_at hl 5 rfl) ?_
        refine lv_iload hx hb dX11_seasonAt_48 (lv_at hl 0 rfl) ?_
        refine lv_ishr hx hb dX11_seasonAt_50 ?_
        refine lv_topi (fun z1263 ez1263 => ?_)
        obtain rfl : z1263 = 1 := ez1263.trans (by decide)
        refine lv_iconst (v := 1) hx hb dX11_seasonAt_51 (by decide) ?_
        refine lv_iand hx hb dX11_seasonAt_52 ?_
        refine lv_topi (fun z1264 ez1264 => ?_)
        obtain rfl : z1264 = 1 := ez1264.trans (by decide)
        refine lv_if_eq (tgt := 61) hx hb dX11_seasonAt_53 (by decide) (fun c1265 => ?_) (fun c1265 => ?_)
        · exact absurd c1265 (by decide)
        refine lv_iload hx hb dX11_seasonAt_56 (lv_at hl 1 rfl) ?_
        refine lv_if_le (tgt := 78) hx hb dX11_seasonAt_58 (by decide) (fun c1266 => ?_) (fun c1266 => ?_)
        rotate_left
        · exact absurd c1266 (by decide)
        refine lv_iload_n hx hb dX11_seasonAt_78 rfl (lv_at hl 5 rfl) ?_
        refine lv_iconst (v := 1) hx hb dX11_seasonAt_79 (by decide) ?_
        refine lv_iload hx hb dX11_seasonAt_80 (lv_at hl 0 rfl) ?_
        refine lv_ishl hx hb dX11_seasonAt_82 ?_
        refine lv_topi (fun z1267 ez1267 => ?_)
        obtain rfl : z1267 = 4 := ez1267.trans (by decide)
        refine lv_iconst (v := (-1)) hx hb dX11_seasonAt_83 (by decide) ?_
        refine lv_ixor hx hb dX11_seasonAt_84 ?_
        refine lv_topi (fun z1268 ez1268 => ?_)
        obtain rfl : z1268 = (-5) := ez1268.trans (by decide)
        refine lv_iand hx hb dX11_seasonAt_85 ?_
        refine lv_topi (fun z1269 ez1269 => ?_)
        obtain rfl : z1269 = 3 := ez1269.trans (by decide)
        refine lv_istore_n (lv' := [(3, .int 3), (5, .int 2), (7, .int 0), (4, .int 1), (2, .int v1247), (6, .int 1), (0, .int p0), (1, .int p1)]) hx hb dX11_seasonAt_86 rfl hl (by decide) rfl (fun ls hl => ?_)
        refine lv_iinc (v := 2) (lv' := [(6, .int 2), (3, .int 3), (5, .int 2), (7, .int 0), (4, .int 1), (2, .int v1247), (0, .int p0), (1, .int p1)]) hx hb dX11_seasonAt_87 hl (k := 5) rfl (by decide) (by decide) rfl (fun ls hl => ?_)
        refine lv_goto (tgt := 15) hx hb dX11_seasonAt_90 (by decide) ?_
        refine lv_iload hx hb dX11_seasonAt_15 (lv_at hl 0 rfl) ?_
        refine lv_iload_n hx hb dX11_seasonAt_17 rfl (lv_at hl 7 rfl) ?_
        refine lv_icmp_gt (tgt := 93) hx hb dX11_seasonAt_18 (by decide) (fun c1270 => ?_) (fun c1270 => ?_)
        · skip
          have c1270 := i_lt (Eq.refl p1.toInt) (show (2 : Int32).toInt = 2 by decide) c1270
          refine lv_iload hx hb dX11_seasonAt_93 (lv_at hl 2 rfl) ?_
          refine W.widen (k := 0) (n := 0) (Nat.le_of_ble_eq_true rfl) (Nat.le_of_ble_eq_true rfl) ?_
          exact W.iret (v := 2) hx hb hr (fun t ht hW => ⟨⟨2, rfl, ((show (0 ≤ (2 : Int32).toInt ∧ (2 : Int32).toInt ≤ 3) by omega)), CB.nil⟩, hS.F ht⟩) hS.2.2 dX11_seasonAt_95
        · skip
          have c1270 := i_nlt (Eq.refl p1.toInt) (show (2 : Int32).toInt = 2 by decide) c1270
          refine lv_iload_n hx hb dX11_seasonAt_21 rfl (lv_at hl 5 rfl) ?_
          refine lv_iload hx hb dX11_seasonAt_22 (lv_at hl 4 rfl) ?_
          have zi1 : (1 : Int32).toInt = 1 := by decide
          refine lv_idiv hx hb dX11_seasonAt_24 (i_nz (show (1 : Int32).toInt = 1 by decide) (by omega)) ?_
          refine lv_topi (fun v1271 ev1271 => ?_)
          have hv1271 := i_div (Eq.refl v1247.toInt) (show (1 : Int32).toInt = 1 by decide) ev1271 (by omega) (by omega)
          refine lv_istore (lv' := [(7, .int v1271), (6, .int 2), (3, .int 3), (5, .int 2), (4, .int 1), (2, .int v1247), (0, .int p0), (1, .int p1)]) hx hb dX11_seasonAt_25 hl (by decide) rfl (fun ls hl => ?_)
          rcases (show v1271.toInt = 0 ∨ v1271.toInt = 1 by omega) with c1272 | c1272
          · obtain rfl : v1271 = 0 := i_is c1272 (by decide)
            refine lv_iload_n hx hb dX11_seasonAt_27 rfl (lv_at hl 5 rfl) ?_
            refine lv_iload hx hb dX11_seasonAt_28 (lv_at hl 4 rfl) ?_
            refine lv_irem hx hb dX11_seasonAt_30 (i_nz (show (1 : Int32).toInt = 1 by decide) (by omega)) ?_
            refine lv_topi (fun v1273 ev1273 => ?_)
            have hv1273 := i_rem (Eq.refl v1247.toInt) (show (1 : Int32).toInt = 1 by decide) ev1273 (by omega) (by omega)
            refine lv_istore_n (lv' := [(2, .int v1273), (7, .int 0), (6, .int 2), (3, .int 3), (5, .int 2), (4, .int 1), (0, .int p0), (1, .int p1)]) hx hb dX11_seasonAt_31 rfl hl (by decide) rfl (fun ls hl => ?_)
            refine lv_iload hx hb dX11_seasonAt_32 (lv_at hl 2 rfl) ?_
            refine lv_if_ne (tgt := 41) hx hb dX11_seasonAt_34 (by decide) (fun c1274 => ?_) (fun c1274 => ?_)
            rotate_left
            · exact absurd c1274 (by decide)
            refine lv_iconst (v := 1) hx hb dX11_seasonAt_41 (by decide) ?_
            refine lv_istore (lv' := [(4, .int 1), (2, .int v1273), (7, .int 0), (6, .int 2), (3, .int 3), (5, .int 2), (0, .int p0), (1, .int p1)]) hx hb dX11_seasonAt_42 hl (by decide) rfl (fun ls hl => ?_)
            refine lv_iconst (v := 0) hx hb dX11_seasonAt_44 (by decide) ?_
            refine lv_istore (lv' := [(5, .int 0), (4, .int 1), (2, .int v1273), (7, .int 0), (6, .int 2), (3, .int 3), (0, .int p0), (1, .int p1)]) hx hb dX11_seasonAt_45 hl (by decide) rfl (fun ls hl => ?_)
            refine lv_iload_n hx hb dX11_seasonAt_47 rfl (lv_at hl 5 rfl) ?_
            refine lv_iload hx hb dX11_seasonAt_48 (lv_at hl 0 rfl) ?_
            refine lv_ishr hx hb dX11_seasonAt_50 ?_
            refine lv_topi (fun z1275 ez1275 => ?_)
            obtain rfl : z1275 = 3 := ez1275.trans (by decide)
            refine lv_iconst (v := 1) hx hb dX11_seasonAt_51 (by decide) ?_
            refine lv_iand hx hb dX11_seasonAt_52 ?_
            refine lv_topi (fun z1276 ez1276 => ?_)
            obtain rfl : z1276 = 1 := ez1276.trans (by decide)
            refine lv_if_eq (tgt := 61) hx hb dX11_seasonAt_53 (by decide) (fun c1277 => ?_) (fun c1277 => ?_)
            · exact absurd c1277 (by decide)
            refine lv_iload hx hb dX11_seasonAt_56 (lv_at hl 3 rfl) ?_
            refine lv_if_le (tgt := 78) hx hb dX11_seasonAt_58 (by decide) (fun c1278 => ?_) (fun c1278 => ?_)
            rotate_left
            · exact absurd c1278 (by decide)
            refine lv_iload_n hx hb dX11_seasonAt_78 rfl (lv_at hl 5 rfl) ?_
            refine lv_iconst (v := 1) hx hb dX11_seasonAt_79 (by decide) ?_
            refine lv_iload hx hb dX11_seasonAt_80 (lv_at hl 0 rfl) ?_
            refine lv_ishl hx hb dX11_seasonAt_82 ?_
            refine lv_topi (fun z1279 ez1279 => ?_)
            obtain rfl : z1279 = 1 := ez1279.trans (by decide)
            refine lv_iconst (v := (-1)) hx hb dX11_seasonAt_83 (by decide) ?_
            refine lv_ixor hx hb dX11_seasonAt_84 ?_
            refine lv_topi (fun z1280 ez1280 => ?_)
            obtain rfl : z1280 = (-2) := ez1280.trans (by decide)
            refine lv_iand hx hb dX11_seasonAt_85 ?_
            refine lv_topi (fun z1281 ez1281 => ?_)
            obtain rfl : z1281 = 2 := ez1281.trans (by decide)
            refine lv_istore_n (lv' := [(3, .int 2), (5, .int 0), (4, .int 1), (2, .int v1273), (7, .int 0), (6, .int 2), (0, .int p0), (1, .int p1)]) hx hb dX11_seasonAt_86 rfl hl (by decide) rfl (fun ls hl => ?_)
            refine lv_iinc (v := 3) (lv' := [(6, .int 3), (3, .int 2), (5, .int 0), (4, .int 1), (2, .int v1273), (7, .int 0), (0, .int p0), (1, .int p1)]) hx hb dX11_seasonAt_87 hl (k := 5) rfl (by decide) (by decide) rfl (fun ls hl => ?_)
            refine lv_goto (tgt := 15) hx hb dX11_seasonAt_90 (by decide) ?_
            refine lv_iload hx hb dX11_seasonAt_15 (lv_at hl 0 rfl) ?_
            refine lv_iload_n hx hb dX11_seasonAt_17 rfl (lv_at hl 7 rfl) ?_
            refine lv_icmp_gt (tgt := 93) hx hb dX11_seasonAt_18 (by decide) (fun c1282 => ?_) (fun c1282 => ?_)
            · skip
              have c1282 := i_lt (Eq.refl p1.toInt) (show (3 : Int32).toInt = 3 by decide) c1282
              refine lv_iload hx hb dX11_seasonAt_93 (lv_at hl 2 rfl) ?_
              refine W.widen (k := 0) (n := 0) (Nat.le_of_ble_eq_true rfl) (Nat.le_of_ble_eq_true rfl) ?_
              have zi0 : (0 : Int32).toInt = 0 := by decide
              exact W.iret (v := 0) hx hb hr (fun t ht hW => ⟨⟨0, rfl, ((show (0 ≤ (0 : Int32).toInt ∧ (0 : Int32).toInt ≤ 3) by omega)), CB.nil⟩, hS.F ht⟩) hS.2.2 dX11_seasonAt_95
            · skip
              have c1282 := i_nlt (Eq.refl p1.toInt) (show (3 : Int32).toInt = 3 by decide) c1282
              refine lv_iload_n hx hb dX11_seasonAt_21 rfl (lv_at hl 4 rfl) ?_
              refine lv_iload hx hb dX11_seasonAt_22 (lv_at hl 3 rfl) ?_
              refine lv_idiv hx hb dX11_seasonAt_24 (i_nz (show (1 : Int32).toInt = 1 by decide) (by omega)) ?_
              refine lv_topi (fun v1283 ev1283 => ?_)
              have hv1283 := i_div (Eq.refl v1273.toInt) (show (1 : Int32).toInt = 1 by decide) ev1283 (by omega) (by omega)
              refine lv_istore (lv' := [(7, .int v1283), (6, .int 3), (3, .int 2), (5, .int 0), (4, .int 1), (2, .int v1273), (0, .int p0), (1, .int p1)]) hx hb dX11_seasonAt_25 hl (by decide) rfl (fun ls hl => ?_)
              rcases (show v1283.toInt = 0 by omega) with c1284
              · obtain rfl : v1283 = 0 := i_is c1284 (by decide)
                refine lv_iload_n hx hb dX11_seasonAt_27 rfl (lv_at hl 5 rfl) ?_
                refine lv_iload hx hb dX11_seasonAt_28 (lv_at hl 4 rfl) ?_
                refine lv_irem hx hb dX11_seasonAt_30 (i_nz (show (1 : Int32).toInt = 1 by decide) (by omega)) ?_
                refine lv_topi (fun v1285 ev1285 => ?_)
                have hv1285 := i_rem (Eq.refl v1273.toInt) (show (1 : Int32).toInt = 1 by decide) ev1285 (by omega) (by omega)
                refine lv_istore_n (lv' := [(2, .int v1285), (7, .int 0), (6, .int 3), (3, .int 2), (5, .int 0), (4, .int 1), (0, .int p0), (1, .int p1)]) hx hb dX11_seasonAt_31 rfl hl (by decide) rfl (fun ls hl => ?_)
                refine lv_iload hx hb dX11_seasonAt_32 (lv_at hl 2 rfl) ?_
                refine lv_if_ne (tgt := 41) hx hb dX11_seasonAt_34 (by decide) (fun c1286 => ?_) (fun c1286 => ?_)
                rotate_left
                · exact absurd c1286 (by decide)
                refine lv_iconst (v := 1) hx hb dX11_seasonAt_41 (by decide) ?_
                refine lv_istore (lv' := [(4, .int 1), (2, .int v1285), (7, .int 0), (6, .int 3), (3, .int 2), (5, .int 0), (0, .int p0), (1, .int p1)]) hx hb dX11_seasonAt_42 hl (by decide) rfl (fun ls hl => ?_)
                refine lv_iconst (v := 0) hx hb dX11_seasonAt_44 (by decide) ?_
                refine lv_istore (lv' := [(5, .int 0), (4, .int 1), (2, .int v1285), (7, .int 0), (6, .int 3), (3, .int 2), (0, .int p0), (1, .int p1)]) hx hb dX11_seasonAt_45 hl (by decide) rfl (fun ls hl => ?_)
                refine lv_iload_n hx hb dX11_seasonAt_47 rfl (lv_at hl 5 rfl) ?_
                refine lv_iload hx hb dX11_seasonAt_48 (lv_at hl 0 rfl) ?_
                refine lv_ishr hx hb dX11_seasonAt_50 ?_
                refine lv_topi (fun z1287 ez1287 => ?_)
                obtain rfl : z1287 = 2 := ez1287.trans (by decide)
                refine lv_iconst (v := 1) hx hb dX11_seasonAt_51 (by decide) ?_
                refine lv_iand hx hb dX11_seasonAt_52 ?_
                refine lv_topi (fun z1288 ez1288 => ?_)
                obtain rfl : z1288 = 0 := ez1288.trans (by decide)
                refine lv_if_eq (tgt := 61) hx hb dX11_seasonAt_53 (by decide) (fun c1289 => ?_) (fun c1289 => ?_)
                rotate_left
                · exact absurd c1289 (by decide)
                refine lv_iload hx hb dX11_seasonAt_61 (lv_at hl 3 rfl) ?_
                refine lv_iload_n hx hb dX11_seasonAt_63 rfl (lv_at hl 5 rfl) ?_
                refine lv_iload hx hb dX11_seasonAt_64 (lv_at hl 0 rfl) ?_
                refine lv_ishr hx hb dX11_seasonAt_66 ?_
                refine lv_topi (fun z1290 ez1290 => ?_)
                obtain rfl : z1290 = 2 := ez1290.trans (by decide)
                refine lv_iconst (v := 1) hx hb dX11_seasonAt_67 (by decide) ?_
                refine lv_iand hx hb dX11_seasonAt_68 ?_
                refine lv_topi (fun z1291 ez1291 => ?_)
                obtain rfl : z1291 = 0 := ez1291.trans (by decide)
                refine lv_isub hx hb dX11_seasonAt_69 ?_
                refine lv_topi (fun z1292 ez1292 => ?_)
                obtain rfl : z1292 = 0 := ez1292.trans (by decide)
                refine lv_istore (lv' := [(7, .int 0), (5, .int 0), (4, .int 1), (2, .int v1285), (6, .int 3), (3, .int 2), (0, .int p0), (1, .int p1)]) hx hb dX11_seasonAt_70 hl (by decide) rfl (fun ls hl => ?_)
                refine lv_iinc (v := 1) (lv' := [(5, .int 1), (7, .int 0), (4, .int 1), (2, .int v1285), (6, .int 3), (3, .int 2), (0, .int p0), (1, .int p1)]) hx hb dX11_seasonAt_72 hl (k := 1) rfl (by decide) (by decide) rfl (fun ls hl => ?_)
                refine lv_goto (tgt := 47) hx hb dX11_seasonAt_75 (by decide) ?_
                refine lv_iload_n hx hb dX11_seasonAt_47 rfl (lv_at hl 5 rfl) ?_
                refine lv_iload hx hb dX11_seasonAt_48 (lv_at hl 0 rfl) ?_
                refine lv_ishr hx hb dX11_seasonAt_50 ?_
                refine lv_topi (fun z1293 ez1293 => ?_)
                obtain rfl : z1293 = 1 := ez1293.trans (by decide)
                refine lv_iconst (v := 1) hx hb dX11_seasonAt_51 (by decide) ?_
                refine lv_iand hx hb dX11_seasonAt_52 ?_
                refine lv_topi (fun z1294 ez1294 => ?_)
                obtain rfl : z1294 = 1 := ez1294.trans (by decide)
                refine lv_if_eq (tgt := 61) hx hb dX11_seasonAt_53 (by decide) (fun c1295 => ?_) (fun c1295 => ?_)
                · exact absurd c1295 (by decide)
                refine lv_iload hx hb dX11_seasonAt_56 (lv_at hl 1 rfl) ?_
                refine lv_if_le (tgt := 78) hx hb dX11_seasonAt_58 (by decide) (fun c1296 => ?_) (fun c1296 => ?_)
                rotate_left
                · exact absurd c1296 (by decide)
                refine lv_iload_n hx hb dX11_seasonAt_78 rfl (lv_at hl 5 rfl) ?_
                refine lv_iconst (v := 1) hx hb dX11_seasonAt_79 (by decide) ?_
                refine lv_iload hx hb dX11_seasonAt_80 (lv_at hl 0 rfl) ?_
                refine lv_ishl hx hb dX11_seasonAt_82 ?_
                refine lv_topi (fun z1297 ez1297 => ?_)
                obtain rfl : z1297 = 2 := ez1297.trans (by decide)
                refine lv_iconst (v := (-1)) hx hb dX11_seasonAt_83 (by decide) ?_
                refine lv_ixor hx hb dX11_seasonAt_84 ?_
                refine lv_topi (fun z1298 ez1298 => ?_)
                obtain rfl : z1298 = (-3) := ez1298.trans (by decide)
                refine lv_iand hx hb dX11_seasonAt_85 ?_
                refine lv_topi (fun z1299 ez1299 => ?_)
                obtain rfl : z1299 = 0 := ez1299.trans (by decide)
                refine lv_istore_n (lv' := [(3, .int 0), (5, .int 1), (7, .int 0), (4, .int 1), (2, .int v1285), (6, .int 3), (0, .int p0), (1, .int p1)]) hx hb dX11_seasonAt_86 rfl hl (by decide) rfl (fun ls hl => ?_)
                refine lv_iinc (v := 4) (lv' := [(6, .int 4), (3, .int 0), (5, .int 1), (7, .int 0), (4, .int 1), (2, .int v1285), (0, .int p0), (1, .int p1)]) hx hb dX11_seasonAt_87 hl (k := 5) rfl (by decide) (by decide) rfl (fun ls hl => ?_)
                refine lv_goto (tgt := 15) hx hb dX11_seasonAt_90 (by decide) ?_
                refine lv_iload hx hb dX11_seasonAt_15 (lv_at hl 0 rfl) ?_
                refine lv_iload_n hx hb dX11_seasonAt_17 rfl (lv_at hl 7 rfl) ?_
                refine lv_icmp_gt (tgt := 93) hx hb dX11_seasonAt_18 (by decide) (fun c1300 => ?_) (fun c1300 => ?_)
                rotate_left
                · have c1300 := i_nlt (Eq.refl p1.toInt) (show (4 : Int32).toInt = 4 by decide) c1300; exfalso; omega
                have c1300 := i_lt (Eq.refl p1.toInt) (show (4 : Int32).toInt = 4 by decide) c1300
                refine lv_iload hx hb dX11_seasonAt_93 (lv_at hl 2 rfl) ?_
                refine W.widen (k := 0) (n := 0) (Nat.le_of_ble_eq_true rfl) (Nat.le_of_ble_eq_true rfl) ?_
                exact W.iret (v := 1) hx hb hr (fun t ht hW => ⟨⟨1, rfl, ((show (0 ≤ (1 : Int32).toInt ∧ (1 : Int32).toInt ≤ 3) by omega)), CB.nil⟩, hS.F ht⟩) hS.2.2 dX11_seasonAt_95
          · obtain rfl : v1271 = 1 := i_is c1272 (by decide)
            refine lv_iload_n hx hb dX11_seasonAt_27 rfl (lv_at hl 5 rfl) ?_
            refine lv_iload hx hb dX11_seasonAt_28 (lv_at hl 4 rfl) ?_
            refine lv_irem hx hb dX11_seasonAt_30 (i_nz (show (1 : Int32).toInt = 1 by decide) (by omega)) ?_
            refine lv_topi (fun v1301 ev1301 => ?_)
            have hv1301 := i_rem (Eq.refl v1247.toInt) (show (1 : Int32).toInt = 1 by decide) ev1301 (by omega) (by omega)
            refine lv_istore_n (lv' := [(2, .int v1301), (7, .int 1), (6, .int 2), (3, .int 3), (5, .int 2), (4, .int 1), (0, .int p0), (1, .int p1)]) hx hb dX11_seasonAt_31 rfl hl (by decide) rfl (fun ls hl => ?_)
            refine lv_iload hx hb dX11_seasonAt_32 (lv_at hl 2 rfl) ?_
            refine lv_if_ne (tgt := 41) hx hb dX11_seasonAt_34 (by decide) (fun c1302 => ?_) (fun c1302 => ?_)
            rotate_left
            · exact absurd c1302 (by decide)
            refine lv_iconst (v := 1) hx hb dX11_seasonAt_41 (by decide) ?_
            refine lv_istore (lv' := [(4, .int 1), (2, .int v1301), (7, .int 1), (6, .int 2), (3, .int 3), (5, .int 2), (0, .int p0), (1, .int p1)]) hx hb dX11_seasonAt_42 hl (by decide) rfl (fun ls hl => ?_)
            refine lv_iconst (v := 0) hx hb dX11_seasonAt_44 (by decide) ?_
            refine lv_istore (lv' := [(5, .int 0), (4, .int 1), (2, .int v1301), (7, .int 1), (6, .int 2), (3, .int 3), (0, .int p0), (1, .int p1)]) hx hb dX11_seasonAt_45 hl (by decide) rfl (fun ls hl => ?_)
            refine lv_iload_n hx hb dX11_seasonAt_47 rfl (lv_at hl 5 rfl) ?_
            refine lv_iload hx hb dX11_seasonAt_48 (lv_at hl 0 rfl) ?_
            refine lv_ishr hx hb dX11_seasonAt_50 ?_
            refine lv_topi (fun z1303 ez1303 => ?_)
            obtain rfl : z1303 = 3 := ez1303.trans (by decide)
            refine lv_iconst (v := 1) hx hb dX11_seasonAt_51 (by decide) ?_
            refine lv_iand hx hb dX11_seasonAt_52 ?_
            refine lv_topi (fun z1304 ez1304 => ?_)
            obtain rfl : z1304 = 1 := ez1304.trans (by decide)
            refine lv_if_eq (tgt := 61) hx hb dX11_seasonAt_53 (by decide) (fun c1305 => ?_) (fun c1305 => ?_)
            · exact absurd c1305 (by decide)
            refine lv_iload hx hb dX11_seasonAt_56 (lv_at hl 3 rfl) ?_
            refine lv_if_le (tgt := 78) hx hb dX11_seasonAt_58 (by decide) (fun c1306 => ?_) (fun c1306 => ?_)
            · exact absurd c1306 (by decide)
            refine lv_iload hx hb dX11_seasonAt_61 (lv_at hl 3 rfl) ?_
            refine lv_iload_n hx hb dX11_seasonAt_63 rfl (lv_at hl 5 rfl) ?_
            refine lv_iload hx hb dX11_seasonAt_64 (lv_at hl 0 rfl) ?_
            refine lv_ishr hx hb dX11_seasonAt_66 ?_
            refine lv_topi (fun z1307 ez1307 => ?_)
            obtain rfl : z1307 = 3 := ez1307.trans (by decide)
            refine lv_iconst (v := 1) hx hb dX11_seasonAt_67 (by decide) ?_
            refine lv_iand hx hb dX11_seasonAt_68 ?_
            refine lv_topi (fun z1308 ez1308 => ?_)
            obtain rfl : z1308 = 1 := ez1308.trans (by decide)
            refine lv_isub hx hb dX11_seasonAt_69 ?_
            refine lv_topi (fun z1309 ez1309 => ?_)
            obtain rfl : z1309 = 0 := ez1309.trans (by decide)
            refine lv_istore (lv' := [(7, .int 0), (5, .int 0), (4, .int 1), (2, .int v1301), (6, .int 2), (3, .int 3), (0, .int p0), (1, .int p1)]) hx hb dX11_seasonAt_70 hl (by decide) rfl (fun ls hl => ?_)
            refine lv_iinc (v := 1) (lv' := [(5, .int 1), (7, .int 0), (4, .int 1), (2, .int v1301), (6, .int 2), (3, .int 3), (0, .int p0), (1, .int p1)]) hx hb dX11_seasonAt_72 hl (k := 1) rfl (by decide) (by decide) rfl (fun ls hl => ?_)
            refine lv_goto (tgt := 47) hx hb dX11_seasonAt_75 (by decide) ?_
            refine lv_iload_n hx hb dX11_seasonAt_47 rfl (lv_at hl 5 rfl) ?_
            refine lv_iload hx hb dX11_seasonAt_48 (lv_at hl 0 rfl) ?_
            refine lv_ishr hx hb dX11_seasonAt_50 ?_
            refine lv_topi (fun z1310 ez1310 => ?_)
            obtain rfl : z1310 = 1 := ez1310.trans (by decide)
            refine lv_iconst (v := 1) hx hb dX11_seasonAt_51 (by decide) ?_
            refine lv_iand hx hb dX11_seasonAt_52 ?_
            refine lv_topi (fun z1311 ez1311 => ?_)
            obtain rfl : z1311 = 1 := ez1311.trans (by decide)
            refine lv_if_eq (tgt := 61) hx hb dX11_seasonAt_53 (by decide) (fun c1312 => ?_) (fun c1312 => ?_)
            · exact absurd c1312 (by decide)
            refine lv_iload hx hb dX11_seasonAt_56 (lv_at hl 1 rfl) ?_
            refine lv_if_le (tgt := 78) hx hb dX11_seasonAt_58 (by decide) (fun c1313 => ?_) (fun c1313 => ?_)
            rotate_left
            · exact absurd c1313 (by decide)
            refine lv_iload_n hx hb dX11_seasonAt_78 rfl (lv_at hl 5 rfl) ?_
            refine lv_iconst (v := 1) hx hb dX11_seasonAt_79 (by decide) ?_
            refine lv_iload hx hb dX11_seasonAt_80 (lv_at hl 0 rfl) ?_
            refine lv_ishl hx hb dX11_seasonAt_82 ?_
            refine lv_topi (fun z1314 ez1314 => ?_)
            obtain rfl : z1314 = 2 := ez1314.trans (by decide)
            refine lv_iconst (v := (-1)) hx hb dX11_seasonAt_83 (by decide) ?_
            refine lv_ixor hx hb dX11_seasonAt_84 ?_
            refine lv_topi (fun z1315 ez1315 => ?_)
            obtain rfl : z1315 = (-3) := ez1315.trans (by decide)
            refine lv_iand hx hb dX11_seasonAt_85 ?_
            refine lv_topi (fun z1316 ez1316 => ?_)
            obtain rfl : z1316 = 1 := ez1316.trans (by decide)
            refine lv_istore_n (lv' := [(3, .int 1), (5, .int 1), (7, .int 0), (4, .int 1), (2, .int v1301), (6, .int 2), (0, .int p0), (1, .int p1)]) hx hb dX11_seasonAt_86 rfl hl (by decide) rfl (fun ls hl => ?_)
            refine lv_iinc (v := 3) (lv' := [(6, .int 3), (3, .int 1), (5, .int 1), (7, .int 0), (4, .int 1), (2, .int v1301), (0, .int p0), (1, .int p1)]) hx hb dX11_seasonAt_87 hl (k := 5) rfl (by decide) (by decide) rfl (fun ls hl => ?_)
            refine lv_goto (tgt := 15) hx hb dX11_seasonAt_90 (by decide) ?_
            refine lv_iload hx hb dX11_seasonAt_15 (lv_at hl 0 rfl) ?_
            refine lv_iload_n hx hb dX11_seasonAt_17 rfl (lv_at hl 7 rfl) ?_
            refine lv_icmp_gt (tgt := 93) hx hb dX11_seasonAt_18 (by decide) (fun c1317 => ?_) (fun c1317 => ?_)
            · skip
              have c1317 := i_lt (Eq.refl p1.toInt) (show (3 : Int32).toInt = 3 by decide) c1317
              refine lv_iload hx hb dX11_seasonAt_93 (lv_at hl 2 rfl) ?_
              refine W.widen (k := 0) (n := 0) (Nat.le_of_ble_eq_true rfl) (Nat.le_of_ble_eq_true rfl) ?_
              exact W.iret (v := 1) hx hb hr (fun t ht hW => ⟨⟨1, rfl, ((show (0 ≤ (1 : Int32).toInt ∧ (1 : Int32).toInt ≤ 3) by omega)), CB.nil⟩, hS.F ht⟩) hS.2.2 dX11_seasonAt_95
            · skip
              have c1317 := i_nlt (Eq.refl p1.toInt) (show (3 : Int32).toInt = 3 by decide) c1317
              refine lv_iload_n hx hb dX11_seasonAt_21 rfl (lv_at hl 5 rfl) ?_
              refine lv_iload hx hb dX11_seasonAt_22 (lv_at hl 4 rfl) ?_
              refine lv_idiv hx hb dX11_seasonAt_24 (i_nz (show (1 : Int32).toInt = 1 by decide) (by omega)) ?_
              refine lv_topi (fun v1318 ev1318 => ?_)
              have hv1318 := i_div (Eq.refl v1301.toInt) (show (1 : Int32).toInt = 1 by decide) ev1318 (by omega) (by omega)
              refine lv_istore (lv' := [(7, .int v1318), (6, .int 3), (3, .int 1), (5, .int 1), (4, .int 1), (2, .int v1301), (0, .int p0), (1, .int p1)]) hx hb dX11_seasonAt_25 hl (by decide) rfl (fun ls hl => ?_)
              rcases (show v1318.toInt = 0 by omega) with c1319
              · obtain rfl : v1318 = 0 := i_is c1319 (by decide)
                refine lv_iload_n hx hb dX11_seasonAt_27 rfl (lv_at hl 5 rfl) ?_
                refine lv_iload hx hb dX11_seasonAt_28 (lv_at hl 4 rfl) ?_
                refine lv_irem hx hb dX11_seasonAt_30 (i_nz (show (1 : Int32).toInt = 1 by decide) (by omega)) ?_
                refine lv_topi (fun v1320 ev1320 => ?_)
                have hv1320 := i_rem (Eq.refl v1301.toInt) (show (1 : Int32).toInt = 1 by decide) ev1320 (by omega) (by omega)
                refine lv_istore_n (lv' := [(2, .int v1320), (7, .int 0), (6, .int 3), (3, .int 1), (5, .int 1), (4, .int 1), (0, .int p0), (1, .int p1)]) hx hb dX11_seasonAt_31 rfl hl (by decide) rfl (fun ls hl => ?_)
                refine lv_iload hx hb dX11_seasonAt_32 (lv_at hl 2 rfl) ?_
                refine lv_if_ne (tgt := 41) hx hb dX11_seasonAt_34 (by decide) (fun c1321 => ?_) (fun c1321 => ?_)
                rotate_left
                · exact absurd c1321 (by decide)
                refine lv_iconst (v := 1) hx hb dX11_seasonAt_41 (by decide) ?_
                refine lv_istore (lv' := [(4, .int 1), (2, .int v1320), (7, .int 0), (6, .int 3), (3, .int 1), (5, .int 1), (0, .int p0), (1, .int p1)]) hx hb dX11_seasonAt_42 hl (by decide) rfl (fun ls hl => ?_)
                refine lv_iconst (v := 0) hx hb dX11_seasonAt_44 (by decide) ?_
                refine lv_istore (lv' := [(5, .int 0), (4, .int 1), (2, .int v1320), (7, .int 0), (6, .int 3), (3, .int 1), (0, .int p0), (1, .int p1)]) hx hb dX11_seasonAt_45 hl (by decide) rfl (fun ls hl => ?_)
                refine lv_iload_n hx hb dX11_seasonAt_47 rfl (lv_at hl 5 rfl) ?_
                refine lv_iload hx hb dX11_seasonAt_48 (lv_at hl 0 rfl) ?_
                refine lv_ishr hx hb dX11_seasonAt_50 ?_
                refine lv_topi (fun z1322 ez1322 => ?_)
                obtain rfl : z1322 = 1 := ez1322.trans (by decide)
                refine lv_iconst (v := 1) hx hb dX11_seasonAt_51 (by decide) ?_
                refine lv_iand hx hb dX11_seasonAt_52 ?_
                refine lv_topi (fun z1323 ez1323 => ?_)
                obtain rfl : z1323 = 1 := ez1323.trans (by decide)
                refine lv_if_eq (tgt := 61) hx hb dX11_seasonAt_53 (by decide) (fun c1324 => ?_) (fun c1324 => ?_)
                · exact absurd c1324 (by decide)
                refine lv_iload hx hb dX11_seasonAt_56 (lv_at hl 3 rfl) ?_
                refine lv_if_le (tgt := 78) hx hb dX11_seasonAt_58 (by decide) (fun c1325 => ?_) (fun c1325 => ?_)
                rotate_left
                · exact absurd c1325 (by decide)
                refine lv_iload_n hx hb dX11_seasonAt_78 rfl (lv_at hl 5 rfl) ?_
                refine lv_iconst (v := 1) hx hb dX11_seasonAt_79 (by decide) ?_
                refine lv_iload hx hb dX11_seasonAt_80 (lv_at hl 0 rfl) ?_
                refine lv_ishl hx hb dX11_seasonAt_82 ?_
                refine lv_topi (fun z1326 ez1326 => ?_)
                obtain rfl : z1326 = 1 := ez1326.trans (by decide)
                refine lv_iconst (v := (-1)) hx hb dX11_seasonAt_83 (by decide) ?_
                refine lv_ixor hx hb dX11_seasonAt_84 ?_
                refine lv_topi (fun z1327 ez1327 => ?_)
                obtain rfl : z1327 = (-2) := ez1327.trans (by decide)
                refine lv_iand hx hb dX11_seasonAt_85 ?_
                refine lv_topi (fun z1328 ez1328 => ?_)
                obtain rfl : z1328 = 0 := ez1328.trans (by decide)
                refine lv_istore_n (lv' := [(3, .int 0), (5, .int 0), (4, .int 1), (2, .int v1320), (7, .int 0), (6, .int 3), (0, .int p0), (1, .int p1)]) hx hb dX11_seasonAt_86 rfl hl (by decide) rfl (fun ls hl => ?_)
                refine lv_iinc (v := 4) (lv' := [(6, .int 4), (3, .int 0), (5, .int 0), (4, .int 1), (2, .int v1320), (7, .int 0), (0, .int p0), (1, .int p1)]) hx hb dX11_seasonAt_87 hl (k := 5) rfl (by decide) (by decide) rfl (fun ls hl => ?_)
                refine lv_goto (tgt := 15) hx hb dX11_seasonAt_90 (by decide) ?_
                refine lv_iload hx hb dX11_seasonAt_15 (lv_at hl 0 rfl) ?_
                refine lv_iload_n hx hb dX11_seasonAt_17 rfl (lv_at hl 7 rfl) ?_
                refine lv_icmp_gt (tgt := 93) hx hb dX11_seasonAt_18 (by decide) (fun c1329 => ?_) (fun c1329 => ?_)
                rotate_left
                · have c1329 := i_nlt (Eq.refl p1.toInt) (show (4 : Int32).toInt = 4 by decide) c1329; exfalso; omega
                have c1329 := i_lt (Eq.refl p1.toInt) (show (4 : Int32).toInt = 4 by decide) c1329
                refine lv_iload hx hb dX11_seasonAt_93 (lv_at hl 2 rfl) ?_
                refine W.widen (k := 0) (n := 0) (Nat.le_of_ble_eq_true rfl) (Nat.le_of_ble_eq_true rfl) ?_
                have zi0 : (0 : Int32).toInt = 0 := by decide
                exact W.iret (v := 0) hx hb hr (fun t ht hW => ⟨⟨0, rfl, ((show (0 ≤ (0 : Int32).toInt ∧ (0 : Int32).toInt ≤ 3) by omega)), CB.nil⟩, hS.F ht⟩) hS.2.2 dX11_seasonAt_95
