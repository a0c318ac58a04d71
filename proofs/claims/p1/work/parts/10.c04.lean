set_option maxHeartbeats 4000000 in
set_option maxRecDepth 100000 in
theorem c_addBytes4 (l : Launch) (D : va_G) (Y : Nat → ClassId) (Z : Nat → Nat) (sz : Nat) (b : Nat → Nat) (x : Int32) (f : Nat → Int32) : Met l yX6_addBytes (.code yX6_addBytes cX6_addBytes 3 none :: GW) ({ frames := 0, cells := 0, slots := 0, locals := 0 }) (va_Pc [.ref (b 0), .int x] (CP D Y Z [((b 0), .inr (6, (.int 0 :: .ref (b 16) :: .int 0 :: .ref (b 17) :: .int 0 :: .ref (b 18) :: .ref (b 19) :: .int 20 :: .ref (b 20) :: .ref (b 21) :: .int 0 :: .ref (b 22) :: .int 4 :: []))), ((b 22), .inl (Y 2, 400, .inl f))] sz)) (QG (S := (Nat → Int32)) (fun _ => none) (fun _ => True) (fun u => CB D ((fun u => [((b 0), .inr (6, (.int 0 :: .ref (b 16) :: .int 0 :: .ref (b 17) :: .int 0 :: .ref (b 18) :: .ref (b 19) :: .int 20 :: .ref (b 20) :: .ref (b 21) :: .int 0 :: .ref (b 22) :: .int 8 :: []))), ((b 22), .inl (Y 2, 400, .inl u))]) u) (va_A [((b 0), .inr (6, (.int 0 :: .ref (b 16) :: .int 0 :: .ref (b 17) :: .int 0 :: .ref (b 18) :: .ref (b 19) :: .int 20 :: .ref (b 20) :: .ref (b 21) :: .int 0 :: .ref (b 22) :: .int 4 :: []))), ((b 22), .inl (Y 2, 400, .inl f))] sz)) (va_A [((b 0), .inr (6, (.int 0 :: .ref (b 16) :: .int 0 :: .ref (b 17) :: .int 0 :: .ref (b 18) :: .ref (b 19) :: .int 20 :: .ref (b 20) :: .ref (b 21) :: .int 0 :: .ref (b 22) :: .int 4 :: []))), ((b 22), .inl (Y 2, 400, .inl f))] sz)) 0 0 (va_A [((b 0), .inr (6, (.int 0 :: .ref (b 16) :: .int 0 :: .ref (b 17) :: .int 0 :: .ref (b 18) :: .ref (b 19) :: .int 20 :: .ref (b 20) :: .ref (b 21) :: .int 0 :: .ref (b 22) :: .int 4 :: []))), ((b 22), .inl (Y 2, 400, .inl f))] sz) := by
  refine Met.ofW (cc := cX6_addBytes) (maxL := 3) (ret := none) (by decide) rfl ?_
  intro p e s m args below meth c s₁ B hml hv
  obtain ⟨rfl, hsz, hP, hKN, hD0⟩ := hv
  have hx := B.exec
  have hb := B.bytes
  have hr := B.returns
  have hts := atoms_spec (ws := .code yX6_addBytes cX6_addBytes 3 none :: GW) B.pre
  have hg : ∀ w ∈ GW, w.before _ s = true := fun w h => hts w (List.mem_cons_of_mem _ h)
  have hown : s.vm.findClass RX6 = some m.cls := findClass_of_methodNamed B.named
  have hlocks := B.notSynchronized
  subst hsz
  have hD := hD0.self (sz := s.heap.size)
  generalize hAe : va_A [((b 0), .inr (6, (.int 0 :: .ref (b 16) :: .int 0 :: .ref (b 17) :: .int 0 :: .ref (b 18) :: .ref (b 19) :: .int 20 :: .ref (b 20) :: .ref (b 21) :: .int 0 :: .ref (b 22) :: .int 4 :: []))), ((b 22), .inl (Y 2, 400, .inl f))] s.heap.size = A at hD ⊢
  have hA : ∀ q : Nat, s.heap.size ≤ q → A q := fun q h => by rw [← hAe]; exact Or.inr h
  have hl := lv_entry ([.ref (b 0), .int x]) (n := 3) (Nat.le_of_ble_eq_true rfl)
  rw [lg_entry_eq]
  generalize (lg_sl ([.ref (b 0), .int x]) ++ List.replicate (3 - (lg_sl ([.ref (b 0), .int x])).length) Slot.unset).toArray = ls at hl ⊢
  have hl : lv_has ls 3 [(0, .ref (b 0)), (1, .int x)] := hl
  refine w_start (A0 := A) hP (fun H locs hP hS => ?_)
  refine lv_bipush (v := 24) hx hb dX6_addBytes_0 (by decide) ?_
  refine lv_istore_n (lv' := [(2, .int 24), (0, .ref (b 0)), (1, .int x)]) hx hb dX6_addBytes_2 rfl hl (by decide) rfl (fun ls hl => ?_)
  refine lv_iload_n hx hb dX6_addBytes_3 rfl (lv_at hl 0 rfl) ?_
  refine lv_if_lt (tgt := 46) hx hb dX6_addBytes_4 (by decide) (fun c1 => ?_) (fun c1 => ?_)
  · exact absurd c1 (by decide)
  refine lv_aload_n hx hb dX6_addBytes_7 rfl (lv_at hl 1 rfl) ?_
  refine va_get (D := D) (ci := 6) (v := .int 4) (C := RX6) (T := TX6) (N := 13) hx hb hg inGX6 hown hKN.1 hP 0 rfl rfl 12 (by decide) (hg _ kw_67) (fun _ h9 => h9) rfl dX6_addBytes_8 ?_
  refine lv_sipush (v := 400) hx hb dX6_addBytes_11 (by decide) ?_
  refine lv_icmp_ge (tgt := 46) hx hb dX6_addBytes_14 (by decide) (fun c2 => ?_) (fun c2 => ?_)
  · exact absurd c2 (by decide)
  refine lv_aload_n hx hb dX6_addBytes_17 rfl (lv_at hl 1 rfl) ?_
  refine va_get (D := D) (ci := 6) (v := .ref (b 22)) (C := RX6) (T := TX6) (N := 13) hx hb hg inGX6 hown hKN.1 hP 0 rfl rfl 11 (by decide) (hg _ kw_65) (fun _ h9 => h9) rfl dX6_addBytes_18 ?_
  refine lv_aload_n hx hb dX6_addBytes_21 rfl (lv_at hl 1 rfl) ?_
  refine va_get (D := D) (ci := 6) (v := .int 4) (C := RX6) (T := TX6) (N := 13) hx hb hg inGX6 hown hKN.1 hP 0 rfl rfl 12 (by decide) (hg _ kw_67) (fun _ h9 => h9) rfl dX6_addBytes_22 ?_
  refine lv_iload_n hx hb dX6_addBytes_25 rfl (lv_at hl 2 rfl) ?_
  refine lv_iload_n hx hb dX6_addBytes_26 rfl (lv_at hl 0 rfl) ?_
  refine lv_iushr hx hb dX6_addBytes_27 rfl ?_
  refine lv_topi (fun v3 ev3 => ?_)
  refine lv_i2b (v := v3.toInt8.toInt32) hx hb dX6_addBytes_28 rfl ?_
  refine lv_topi (fun v5 ev5 => ?_)
  refine va_bast hx hb hKN.1 hP hD hS 1 2 rfl rfl (show ¬ ((4 : Int32) < 0 ∨ 400 ≤ (4 : Int32).toNatClampNeg) by decide) dX6_addBytes_29 (fun H locs hP hD hS => ?_)
  obtain ⟨f6, hP, hD⟩ : ∃ f6 : Nat → Int32, va_P D vwCl [((b 0), .inr (6, (.int 0 :: .ref (b 16) :: .int 0 :: .ref (b 17) :: .int 0 :: .ref (b 18) :: .ref (b 19) :: .int 20 :: .ref (b 20) :: .ref (b 21) :: .int 0 :: .ref (b 22) :: .int 4 :: []))), ((b 22), .inl (Y 2, 400, .inl f6))] H ∧ va_D A [((b 0), .inr (6, (.int 0 :: .ref (b 16) :: .int 0 :: .ref (b 17) :: .int 0 :: .ref (b 18) :: .ref (b 19) :: .int 20 :: .ref (b 20) :: .ref (b 21) :: .int 0 :: .ref (b 22) :: .int 4 :: []))), ((b 22), .inl (Y 2, 400, .inl f6))] := ⟨_, hP, hD⟩
  refine lv_aload_n hx hb dX6_addBytes_30 rfl (lv_at hl 1 rfl) ?_
  refine lv_dup hx hb dX6_addBytes_31 rfl ?_
  refine va_get (D := D) (ci := 6) (v := .int 4) (C := RX6) (T := TX6) (N := 13) hx hb hg inGX6 hown hKN.1 hP 0 rfl rfl 12 (by decide) (hg _ kw_67) (fun _ h9 => h9) rfl dX6_addBytes_32 ?_
  refine lv_iconst (v := 1) hx hb dX6_addBytes_35 (by decide) ?_
  refine lv_iadd hx hb dX6_addBytes_36 ?_
  refine lv_topi (fun z7 ez7 => ?_)
  obtain rfl : z7 = 5 := ez7.trans (by decide)
  refine va_put (D := D) (ci := 6) (v := .int 5) (ty := .int) (C := RX6) (T := TX6) (N := 13) hx hb hg inGX6 tyX6 tyX6_ok nmX6 hown hKN.1 hP hD hS 0 rfl rfl 12 (by decide) (hg _ kw_67) (fun _ h9 => h9) rfl (by decide +kernel) rfl rfl (Nat.le_of_ble_eq_true rfl) dX6_addBytes_37 (fun H locs hP hD hS => ?_)
  have hP : va_P D vwCl [((b 0), .inr (6, (.int 0 :: .ref (b 16) :: .int 0 :: .ref (b 17) :: .int 0 :: .ref (b 18) :: .ref (b 19) :: .int 20 :: .ref (b 20) :: .ref (b 21) :: .int 0 :: .ref (b 22) :: .int 5 :: []))), ((b 22), .inl (Y 2, 400, .inl f6))] H := hP
  have hD : va_D A [((b 0), .inr (6, (.int 0 :: .ref (b 16) :: .int 0 :: .ref (b 17) :: .int 0 :: .ref (b 18) :: .ref (b 19) :: .int 20 :: .ref (b 20) :: .ref (b 21) :: .int 0 :: .ref (b 22) :: .int 5 :: []))), ((b 22), .inl (Y 2, 400, .inl f6))] := hD
  refine lv_iinc (v := 16) (lv' := [(2, .int 16), (0, .ref (b 0)), (1, .int x)]) hx hb dX6_addBytes_40 hl (k := 0) rfl (by decide) (by decide) rfl (fun ls hl => ?_)
  refine lv_goto (tgt := 3) hx hb dX6_addBytes_43 (by decide) ?_
  refine lv_iload_n hx hb dX6_addBytes_3 rfl (lv_at hl 0 rfl) ?_
  refine lv_if_lt (tgt := 46) hx hb dX6_addBytes_4 (by decide) (fun c8 => ?_) (fun c8 => ?_)
  · exact absurd c8 (by decide)
  refine lv_aload_n hx hb dX6_addBytes_7 rfl (lv_at hl 1 rfl) ?_
  refine va_get (D := D) (ci := 6) (v := .int 5) (C := RX6) (T := TX6) (N := 13) hx hb hg inGX6 hown hKN.1 hP 0 rfl rfl 12 (by decide) (hg _ kw_67) (fun _ h9 => h9) rfl dX6_addBytes_8 ?_
  refine lv_sipush (v := 400) hx hb dX6_addBytes_11 (by decide) ?_
  refine lv_icmp_ge (tgt := 46) hx hb dX6_addBytes_14 (by decide) (fun c9 => ?_) (fun c9 => ?_)
  · exact absurd c9 (by decide)
  refine lv_aload_n hx hb dX6_addBytes_17 rfl (lv_at hl 1 rfl) ?_
  refine va_get (D := D) (ci := 6) (v := .ref (b 22)) (C := RX6) (T := TX6) (N := 13) hx hb hg inGX6 hown hKN.1 hP 0 rfl rfl 11 (by decide) (hg _ kw_65) (fun _ h9 => h9) rfl dX6_addBytes_18 ?_
  refine lv_aload_n hx hb dX6_addBytes_21 rfl (lv_at hl 1 rfl) ?_
  refine va_get (D := D) (ci := 6) (v := .int 5) (C := RX6) (T := TX6) (N := 13) hx hb hg inGX6 hown hKN.1 hP 0 rfl rfl 12 (by decide) (hg _ kw_67) (fun _ h9 => h9) rfl dX6_addBytes_22 ?_
  refine lv_iload_n hx hb dX6_addBytes_25 rfl (lv_at hl 2 rfl) ?_
  refine lv_iload_n hx hb dX6_addBytes_26 rfl (lv_at hl 0 rfl) ?_
  refine lv_iushr hx hb dX6_addBytes_27 rfl ?_
  refine lv_topi (fun v10 ev10 => ?_)
  refine lv_i2b (v := v10.toInt8.toInt32) hx hb dX6_addBytes_28 rfl ?_
  refine lv_topi (fun v12 ev12 => ?_)
  refine va_bast hx hb hKN.1 hP hD hS 1 2 rfl rfl (show ¬ ((5 : Int32) < 0 ∨ 400 ≤ (5 : Int32).toNatClampNeg) by decide) dX6_addBytes_29 (fun H locs hP hD hS => ?_)
  obtain ⟨f13, hP, hD⟩ : ∃ f13 : Nat → Int32, va_P D vwCl [((b 0), .inr (6, (.int 0 :: .ref (b 16) :: .int 0 :: .ref (b 17) :: .int 0 :: .ref (b 18) :: .ref (b 19) :: .int 20 :: .ref (b 20) :: .ref (b 21) :: .int 0 :: .ref (b 22) :: .int 5 :: []))), ((b 22), .inl (Y 2, 400, .inl f13))] H ∧ va_D A [((b 0), .inr (6, (.int 0 :: .ref (b 16) :: .int 0 :: .ref (b 17) :: .int 0 :: .ref (b 18) :: .ref (b 19) :: .int 20 :: .ref (b 20) :: .ref (b 21) :: .int 0 :: .ref (b 22) :: .int 5 :: []))), ((b 22), .inl (Y 2, 400, .inl f13))] := ⟨_, hP, hD⟩
  refine lv_aload_n hx hb dX6_addBytes_30 rfl (lv_at hl 1 rfl) ?_
  refine lv_dup hx hb dX6_addBytes_31 rfl ?_
  refine va_get (D := D) (ci := 6) (v := .int 5) (C := RX6) (T := TX6) (N := 13) hx hb hg inGX6 hown hKN.1 hP 0 rfl rfl 12 (by decide) (hg _ kw_67) (fun _ h9 => h9) rfl dX6_addBytes_32 ?_
  refine lv_iconst (v := 1) hx hb dX6_addBytes_35 (by decide) ?_
  refine lv_iadd hx hb dX6_addBytes_36 ?_
  refine lv_topi (fun z14 ez14 => ?_)
  obtain rfl : z14 = 6 := ez14.trans (by decide)
  refine va_put (D := D) (ci := 6) (v := .int 6) (ty := .int) (C := RX6) (T := TX6) (N := 13) hx hb hg inGX6 tyX6 tyX6_ok nmX6 hown hKN.1 hP hD hS 0 rfl rfl 12 (by decide) (hg _ kw_67) (fun _ h9 => h9) rfl (by decide +kernel) rfl rfl (Nat.le_of_ble_eq_true rfl) dX6_addBytes_37 (fun H locs hP hD hS => ?_)
  have hP : va_P D vwCl [((b 0), .inr (6, (.int 0 :: .ref (b 16) :: .int 0 :: .ref (b 17) :: .int 0 :: .ref (b 18) :: .ref (b 19) :: .int 20 :: .ref (b 20) :: .ref (b 21) :: .int 0 :: .ref (b 22) :: .int 6 :: []))), ((b 22), .inl (Y 2, 400, .inl f13))] H := hP
  have hD : va_D A [((b 0), .inr (6, (.int 0 :: .ref (b 16) :: .int 0 :: .ref (b 17) :: .int 0 :: .ref (b 18) :: .ref (b 19) :: .int 20 :: .ref (b 20) :: .ref (b 21) :: .int 0 :: .ref (b 22) :: .int 6 :: []))), ((b 22), .inl (Y 2, 400, .inl f13))] := hD
  refine lv_iinc (v := 8) (lv' := [(2, .int 8), (0, .ref (b 0)), (1, .int x)]) hx hb dX6_addBytes_40 hl (k := 0) rfl (by decide) (by decide) rfl (fun ls hl => ?_)
  refine lv_goto (tgt := 3) hx hb dX6_addBytes_43 (by decide) ?_
  refine lv_iload_n hx hb dX6_addBytes_3 rfl (lv_at hl 0 rfl) ?_
  refine lv_if_lt (tgt := 46) hx hb dX6_addBytes_4 (by decide) (fun c15 => ?_) (fun c15 => ?_)
  · exact absurd c15 (by decide)
  refine lv_aload_n hx hb dX6_addBytes_7 rfl (lv_at hl 1 rfl) ?_
  refine va_get (D := D) (ci := 6) (v := .int 6) (C := RX6) (T := TX6) (N := 13) hx hb hg inGX6 hown hKN.1 hP 0 rfl rfl 12 (by decide) (hg _ kw_67) (fun _ h9 => h9) rfl dX6_addBytes_8 ?_
  refine lv_sipush (v := 400) hx hb dX6_addBytes_11 (by decide) ?_
  refine lv_icmp_ge (tgt := 46) hx hb dX6_addBytes_14 (by decide) (fun c16 => ?_) (fun c16 => ?_)
  · exact absurd c16 (by decide)
  refine lv_aload_n hx hb dX6_addBytes_17 rfl (lv_at hl 1 rfl) ?_
  refine va_get (D := D) (ci := 6) (v := .ref (b 22)) (C := RX6) (T := TX6) (N := 13) hx hb hg inGX6 hown hKN.1 hP 0 rfl rfl 11 (by decide) (hg _ kw_65) (fun _ h9 => h9) rfl dX6_addBytes_18 ?_
  refine lv_aload_n hx hb dX6_addBytes_21 rfl (lv_at hl 1 rfl) ?_
  refine va_get (D := D) (ci := 6) (v := .int 6) (C := RX6) (T := TX6) (N := 13) hx hb hg inGX6 hown hKN.1 hP 0 rfl rfl 12 (by decide) (hg _ kw_67) (fun _ h9 => h9) rfl dX6_addBytes_22 ?_
  refine lv_iload_n hx hb dX6_addBytes_25 rfl (lv_at hl 2 rfl) ?_
  refine lv_iload_n hx hb dX6_addBytes_26 rfl (lv_at hl 0 rfl) ?_
  refine lv_iushr hx hb dX6_addBytes_27 rfl ?_
  refine lv_topi (fun v17 ev17 => ?_)
  refine lv_i2b (v := v17.toInt8.toInt32) hx hb dX6_addBytes_28 rfl ?_
  refine lv_topi (fun v19 ev19 => ?_)
  refine va_bast hx hb hKN.1 hP hD hS 1 2 rfl rfl (show ¬ ((6 : Int32) < 0 ∨ 400 ≤ (6 : Int32).toNatClampNeg) by decide) dX6_addBytes_29 (fun H locs hP hD hS => ?_)
  obtain ⟨f20, hP, hD⟩ : ∃ f20 : Nat → Int32, va_P D vwCl [((b 0), .inr (6, (.int 0 :: .ref (b 16) :: .int 0 :: .ref (b 17) :: .int 0 :: .ref (b 18) :: .ref (b 19) :: .int 20 :: .ref (b 20) :: .ref (b 21) :: .int 0 :: .ref (b 22) :: .int 6 :: []))), ((b 22), .inl (Y 2, 400, .inl f20))] H ∧ va_D A [((b 0), .inr (6, (.int 0 :: .ref (b 16) :: .int 0 :: .ref (b 17) :: .int 0 :: .ref (b 18) :: .ref (b 19) :: .int 20 :: .ref (b 20) :: .ref (b 21) :: .int 0 :: .ref (b 22) :: .int 6 :: []))), ((b 22), .inl (Y 2, 400, .inl f20))] := ⟨_, hP, hD⟩
  refine lv_aload_n hx hb dX6_addBytes_30 rfl (lv_at hl 1 rfl) ?_
  refine lv_dup hx hb dX6_addBytes_31 rfl ?_
  refine va_get (D := D) (ci := 6) (v := .int 6) (C := RX6) (T := TX6) (N := 13) hx hb hg inGX6 hown hKN.1 hP 0 rfl rfl 12 (by decide) (hg _ kw_67) (fun _ h9 => h9) rfl dX6_addBytes_32 ?_
  refine lv_iconst (v := 1) hx hb dX6_addBytes_35 (by decide) ?_
  refine lv_iadd hx hb dX6_addBytes_36 ?_
  refine lv_topi (fun z21 ez21 => ?_)
  obtain rfl : z21 = 7 := ez21.trans (by decide)
  refine va_put (D := D) (ci := 6) (v := .int 7) (ty := .int) (C := RX6) (T := TX6) (N := 13) hx hb hg inGX6 tyX6 tyX6_ok nmX6 hown hKN.1 hP hD hS 0 rfl rfl 12 (by decide) (hg _ kw_67) (fun _ h9 => h9) rfl (by decide +kernel) rfl rfl (Nat.le_of_ble_eq_true rfl) dX6_addBytes_37 (fun H locs hP hD hS => ?_)
  have hP : va_P D vwCl [((b 0), .inr (6, (.int 0 :: .ref (b 16) :: .int 0 :: .ref (b 17) :: .int 0 :: .ref (b 18) :: .ref (b 19) :: .int 20 :: .ref (b 20) :: .ref (b 21) :: .int 0 :: .ref (b 22) :: .int 7 :: []))), ((b 22), .inl (Y 2, 400, .inl f20))] H := hP
  have hD : va_D A [((b 0), .inr (6, (.int 0 :: .ref (b 16) :: .int 0 :: .ref (b 17) :: .int 0 :: .ref (b 18) :: .ref (b 19) :: .int 20 :: .ref (b 20) :: .ref (b 21) :: .int 0 :: .ref (b 22) :: .int 7 :: []))), ((b 22), .inl (Y 2, 400, .inl f20))] := hD
  refine lv_iinc (v := 0) (lv' := [(2, .int 0), (0, .ref (b 0)), (1, .int x)]) hx hb dX6_addBytes_40 hl (k := 0) rfl (by decide) (by decide) rfl (fun ls hl => ?_)
  refine lv_goto (tgt := 3) hx hb dX6_addBytes_43 (by decide) ?_
  refine lv_iload_n hx hb dX6_addBytes_3 rfl (lv_at hl 0 rfl) ?_
  refine lv_if_lt (tgt := 46) hx hb dX6_addBytes_4 (by decide) (fun c22 => ?_) (fun c22 => ?_)
  · exact absurd c22 (by decide)
  refine lv_aload_n hx hb dX6_addBytes_7 rfl (lv_at hl 1 rfl) ?_
  refine va_get (D := D) (ci := 6) (v := .int 7) (C := RX6) (T := TX6) (N := 13) hx hb hg inGX6 hown hKN.1 hP 0 rfl rfl 12 (by decide) (hg _ kw_67) (fun _ h9 => h9) rfl dX6_addBytes_8 ?_
  refine lv_sipush (v := 400) hx hb dX6_addBytes_11 (by decide) ?_
  refine lv_icmp_ge (tgt := 46) hx hb dX6_addBytes_14 (by decide) (fun c23 => ?_) (fun c23 => ?_)
  · exact absurd c23 (by decide)
  refine lv_aload_n hx hb dX6_addBytes_17 rfl (lv_at hl 1 rfl) ?_
  refine va_get (D := D) (ci := 6) (v := .ref (b 22)) (C := RX6) (T := TX6) (N := 13) hx hb hg inGX6 hown hKN.1 hP 0 rfl rfl 11 (by decide) (hg _ kw_65) (fun _ h9 => h9) rfl dX6_addBytes_18 ?_
  refine lv_aload_n hx hb dX6_addBytes_21 rfl (lv_at hl 1 rfl) ?_
  refine va_get (D := D) (ci := 6) (v := .int 7) (C := RX6) (T := TX6) (N := 13) hx hb hg inGX6 hown hKN.1 hP 0 rfl rfl 12 (by decide) (hg _ kw_67) (fun _ h9 => h9) rfl dX6_addBytes_22 ?_
  refine lv_iload_n hx hb dX6_addBytes_25 rfl (lv_at hl 2 rfl) ?_
  refine lv_iload_n hx hb dX6_addBytes_26 rfl (lv_at hl 0 rfl) ?_
  refine lv_iushr hx hb dX6_addBytes_27 rfl ?_
  refine lv_topi (fun v24 ev24 => ?_)
  refine lv_i2b (v := v24.toInt8.toInt32) hx hb dX6_addBytes_28 rfl ?_
  refine lv_topi (fun v26 ev26 => ?_)
  refine va_bast hx hb hKN.1 hP hD hS 1 2 rfl rfl (show ¬ ((7 : Int32) < 0 ∨ 400 ≤ (7 : Int32).toNatClampNeg) by decide) dX6_addBytes_29 (fun H locs hP hD hS => ?_)
  obtain ⟨f27, hP, hD⟩ : ∃ f27 : Nat → Int32, va_P D vwCl [((b 0), .inr (6, (.int 0 :: .ref (b 16) :: .int 0 :: .ref (b 17) :: .int 0 :: .ref (b 18) :: .ref (b 19) :: .int 20 :: .ref (b 20) :: .ref (b 21) :: .int 0 :: .ref (b 22) :: .int 7 :: []))), ((b 22), .inl (Y 2, 400, .inl f27))] H ∧ va_D A [((b 0), .inr (6, (.int 0 :: .ref (b 16) :: .int 0 :: .ref (b 17) :: .int 0 :: .ref (b 18) :: .ref (b 19) :: .int 20 :: .ref (b 20) :: .ref (b 21) :: .int 0 :: .ref (b 22) :: .int 7 :: []))), ((b 22), .inl (Y 2, 400, .inl f27))] := ⟨_, hP, hD⟩
  refine lv_aload_n hx hb dX6_addBytes_30 rfl (lv_at hl 1 rfl) ?_
  refine lv_dup hx hb dX6_addBytes_31 rfl ?_
  refine va_get (D := D) (ci := 6) (v := .int 7) (C := RX6) (T := TX6) (N := 13) hx hb hg inGX6 hown hKN.1 hP 0 rfl rfl 12 (by decide) (hg _ kw_67) (fun _ h9 => h9) rfl dX6_addBytes_32 ?_
  refine lv_iconst (v := 1) hx hb dX6_addBytes_35 (by decide) ?_
  refine lv_iadd hx hb dX6_addBytes_36 ?_
  refine lv_topi (fun z28 ez28 => ?_)
  obtain rfl : z28 = 8 := ez28.trans (by decide)
  refine va_put (D := D) (ci := 6) (v := .int 8) (ty := .int) (C := RX6) (T := TX6) (N := 13) hx hb hg inGX6 tyX6 tyX6_ok nmX6 hown hKN.1 hP hD hS 0 rfl rfl 12 (by decide) (hg _ kw_67) (fun _ h9 => h9) rfl (by decide +kernel) rfl rfl (Nat.le_of_ble_eq_true rfl) dX6_addBytes_37 (fun H locs hP hD hS => ?_)
  have hP : va_P D vwCl [((b 0), .inr (6, (.int 0 :: .ref (b 16) :: .int 0 :: .ref (b 17) :: .int 0 :: .ref (b 18) :: .ref (b 19) :: .int 20 :: .ref (b 20) :: .ref (b 21) :: .int 0 :: .ref (b 22) :: .int 8 :: []))), ((b 22), .inl (Y 2, 400, .inl f27))] H := hP
  have hD : va_D A [((b 0), .inr (6, (.int 0 :: .ref (b 16) :: .int 0 :: .ref (b 17) :: .int 0 :: .ref (b 18) :: .ref (b 19) :: .int 20 :: .ref (b 20) :: .ref (b 21) :: .int 0 :: .ref (b 22) :: .int 8 :: []))), ((b 22), .inl (Y 2, 400, .inl f27))] := hD
  refine lv_iinc (v := (-8)) (lv' := [(2, .int (-8)), (0, .ref (b 0)), (1, .int x)]) hx hb dX6_addBytes_40 hl (k := 0) rfl (by decide) (by decide) rfl (fun ls hl => ?_)
  refine lv_goto (tgt := 3) hx hb dX6_addBytes_43 (by decide) ?_
  refine lv_iload_n hx hb dX6_addBytes_3 rfl (lv_at hl 0 rfl) ?_
  refine lv_if_lt (tgt := 46) hx hb dX6_addBytes_4 (by decide) (fun c29 => ?_) (fun c29 => ?_)
  rotate_left
  · exact absurd c29 (by decide)
  refine W.widen (k := 0) (n := 0) (Nat.le_of_ble_eq_true rfl) (Nat.le_of_ble_eq_true rfl) ?_
  exact W.vret hx hb hr (fun t ht hW => ⟨⟨f27, rfl, trivial, CB.mk ht (hP.sub [0, 1] rfl) (hD.sub [0, 1] (by decide) rfl)⟩, hS.F ht⟩) hS.2.2 dX6_addBytes_46
set_option maxHeartbeats 4000000 in
set_option maxRecDepth 100000 in
theorem c_addBytes8 (l : Launch) (D : va_G) (Y : Nat → ClassId) (Z : Nat → Nat) (sz : Nat) (b : Nat → Nat) (x : Int32) (f : Nat → Int32) : Met l yX6_addBytes (.code yX6_addBytes cX6_addBytes 3 none :: GW) ({ frames := 0, cells := 0, slots := 0, locals := 0 }) (va_Pc [.ref (b 0), .int x] (CP D Y Z [((b 0), .inr (6, (.int 0 :: .ref (b 16) :: .int 0 :: .ref (b 17) :: .int 0 :: .ref (b 18) :: .ref (b 19) :: .int 20 :: .ref (b 20) :: .ref (b 21) :: .int 0 :: .ref (b 22) :: .int 8 :: []))), ((b 22), .inl (Y 2, 400, .inl f))] sz)) (QG (S := (Nat → Int32)) (fun _ => none) (fun _ => True) (fun u => CB D ((fun u => [((b 0), .inr (6, (.int 0 :: .ref (b 16) :: .int 0 :: .ref (b 17) :: .int 0 :: .ref (b 18) :: .ref (b 19) :: .int 20 :: .ref (b 20) :: .ref (b 21) :: .int 0 :: .ref (b 22) :: .int 12 :: []))), ((b 22), .inl (Y 2, 400, .inl u))]) u) (va_A [((b 0), .inr (6, (.int 0 :: .ref (b 16) :: .int 0 :: .ref (b 17) :: .int 0 :: .ref (b 18) :: .ref (b 19) :: .int 20 :: .ref (b 20) :: .ref (b 21) :: .int 0 :: .ref (b 22) :: .int 8 :: []))), ((b 22), .inl (Y 2, 400, .inl f))] sz)) (va_A [((b 0), .inr (6, (.int 0 :: .ref (b 16) :: .int 0 :: .ref (b 17) :: .int 0 :: .ref (b 18) :: .ref (b 19) :: .int 20 :: .ref (b 20) :: .ref (b 21) :: .int 0 :: .ref (b 22) :: .int 8 :: []))), ((b 22), .inl (Y 2, 400, .inl f))] sz)) 0 0 (va_A [((b 0), .inr (6, (.int 0 :: .ref (b 16) :: .int 0 :: .ref (b 17) :: .int 0 :: .ref (b 18) :: .ref (b 19) :: .int 20 :: .ref (b 20) :: .ref (b 21) :: .int 0 :: .ref (b 22) :: .int 8 :: []))), ((b 22), .inl (Y 2, 400, .inl f))] sz) := by
  refine Met.ofW (cc := cX6_addBytes) (maxL := 3) (ret := none) (by decide) rfl ?_
  intro p e s m args below meth c s₁ B hml hv
  obtain ⟨rfl, hsz, hP, hKN, hD0⟩ := hv
  have hx := B.exec
  have hb := B.bytes
  have hr := B.returns
  have hts := atoms_spec (ws := .code yX6_addBytes cX6_addBytes 3 none :: GW) B.pre
  have hg : ∀ w ∈ GW, w.before _ s = true := fun w h => hts w (List.mem_cons_of_mem _ h)
  have hown : s.vm.findClass RX6 = some m.cls := findClass_of_methodNamed B.named
  have hlocks := B.notSynchronized
  subst hsz
  have hD := hD0.self (sz := s.heap.size)
  generalize hAe : va_A [((b 0), .inr (6, (.int 0 :: .ref (b 16) :: .int 0 :: .ref (b 17) :: .int 0 :: .ref (b 18) :: .ref (b 19) :: .int 20 :: .ref (b 20) :: .ref (b 21) :: .int 0 :: .ref (b 22) :: .int 8 :: []))), ((b 22), .inl (Y 2, 400, .inl f))] s.heap.size = A at hD ⊢
  have hA : ∀ q : Nat, s.heap.size ≤ q → A q := fun q h => by rw [← hAe]; exact Or.inr h
  have hl := lv_entry ([.ref (b 0), .int x]) (n := 3) (Nat.le_of_ble_eq_true rfl)
  rw [lg_entry_eq]
  generalize (lg_sl ([.ref (b 0), .int x]) ++ List.replicate (3 - (lg_sl ([.ref (b 0), .int x])).length) Slot.unset).toArray = ls at hl ⊢
  have hl : lv_has ls 3 [(0, .ref (b 0)), (1, .int x)] := hl
  refine w_start (A0 := A) hP (fun H locs hP hS => ?_)
  refine lv_bipush (v := 24) hx hb dX6_addBytes_0 (by decide) ?_
  refine lv_istore_n (lv' := [(2, .int 24), (0, .ref (b 0)), (1, .int x)]) hx hb dX6_addBytes_2 rfl hl (by decide) rfl (fun ls hl => ?_)
  refine lv_iload_n hx hb dX6_addBytes_3 rfl (lv_at hl 0 rfl) ?_
  refine lv_if_lt (tgt := 46) hx hb dX6_addBytes_4 (by decide) (fun c1 => ?_) (fun c1 => ?_)
  · exact absurd c1 (by decide)
  refine lv_aload_n hx hb dX6_addBytes_7 rfl (lv_at hl 1 rfl) ?_
  refine va_get (D := D) (ci := 6) (v := .int 8) (C := RX6) (T := TX6) (N := 13) hx hb hg inGX6 hown hKN.1 hP 0 rfl rfl 12 (by decide) (hg _ kw_67) (fun _ h9 => h9) rfl dX6_addBytes_8 ?_
  refine lv_sipush (v := 400) hx hb dX6_addBytes_11 (by decide) ?_
  refine lv_icmp_ge (tgt := 46) hx hb dX6_addBytes_14 (by decide) (fun c2 => ?_) (fun c2 => ?_)
  · exact absurd c2 (by decide)
  refine lv_aload_n hx hb dX6_addBytes_17 rfl (lv_at hl 1 rfl) ?_
  refine va_get (D := D) (ci := 6) (v := .ref (b 22)) (C := RX6) (T := TX6) (N := 13) hx hb hg inGX6 hown hKN.1 hP 0 rfl rfl 11 (by decide) (hg _ kw_65) (fun _ h9 => h9) rfl dX6_addBytes_18 ?_
  refine lv_aload_n hx hb dX6_addBytes_21 rfl (lv_at hl 1 rfl) ?_
  refine va_get (D := D) (ci := 6) (v := .int 8) (C := RX6) (T := TX6) (N := 13) hx hb hg inGX6 hown hKN.1 hP 0 rfl rfl 12 (by decide) (hg _ kw_67) (fun _ h9 => h9) rfl dX6_addBytes_22 ?_
  refine lv_iload_n hx hb dX6_addBytes_25 rfl (lv_at hl 2 rfl) ?_
  refine lv_iload_n hx hb dX6_addBytes_26 rfl (lv_at hl 0 rfl) ?_
  refine lv_iushr hx hb dX6_addBytes_27 rfl ?_
  refine lv_topi (fun v3 ev3 => ?_)
  refine lv_i2b (v := v3.toInt8.toInt32) hx hb dX6_addBytes_28 rfl ?_
  refine lv_topi (fun v5 ev5 => ?_)
  refine va_bast hx hb hKN.1 hP hD hS 1 2 rfl rfl (show ¬ ((8 : Int32) < 0 ∨ 400 ≤ (8 : Int32).toNatClampNeg) by decide) dX6_addBytes_29 (fun H locs hP hD hS => ?_)
  obtain ⟨f6, hP, hD⟩ : ∃ f6 : Nat → Int32, va_P D vwCl [((b 0), .inr (6, (.int 0 :: .ref (b 16) :: .int 0 :: .ref (b 17) :: .int 0 :: .ref (b 18) :: .ref (b 19) :: .int 20 :: .ref (b 20) :: .ref (b 21) :: .int 0 :: .ref (b 22) :: .int 8 :: []))), ((b 22), .inl (Y 2, 400, .inl f6))] H ∧ va_D A [((b 0), .inr (6, (.int 0 :: .ref (b 16) :: .int 0 :: .ref (b 17) :: .int 0 :: .ref (b 18) :: .ref (b 19) :: .int 20 :: .ref (b 20) :: .ref (b 21) :: .int 0 :: .ref (b 22) :: .int 8 :: []))), ((b 22), .inl (Y 2, 400, .inl f6))] := ⟨_, hP, hD⟩
  refine lv_aload_n hx hb dX6_addBytes_30 rfl (lv_at hl 1 rfl) ?_
  refine lv_dup hx hb dX6_addBytes_31 rfl ?_
  refine va_get (D := D) (ci := 6) (v := .int 8) (C := RX6) (T := TX6) (N := 13) hx hb hg inGX6 hown hKN.1 hP 0 rfl rfl 12 (by decide) (hg _ kw_67) (fun _ h9 => h9) rfl dX6_addBytes_32 ?_
  refine lv_iconst (v := 1) hx hb dX6_addBytes_35 (by decide) ?_
  refine lv_iadd hx hb dX6_addBytes_36 ?_
  refine lv_topi (fun z7 ez7 => ?_)
  obtain rfl : z7 = 9 := ez7.trans (by decide)
  refine va_put (D := D) (ci := 6) (v := .int 9) (ty := .int) (C := RX6) (T := TX6) (N := 13) hx hb hg inGX6 tyX6 tyX6_ok nmX6 hown hKN.1 hP hD hS 0 rfl rfl 12 (by decide) (hg _ kw_67) (fun _ h9 => h9) rfl (by decide +kernel) rfl rfl (Nat.le_of_ble_eq_true rfl) dX6_addBytes_37 (fun H locs hP hD hS => ?_)
  have hP : va_P D vwCl [((b 0), .inr (6, (.int 0 :: .ref (b 16) :: .int 0 :: .ref (b 17) :: .int 0 :: .ref (b 18) :: .ref (b 19) :: .int 20 :: .ref (b 20) :: .ref (b 21) :: .int 0 :: .ref (b 22) :: .int 9 :: []))), ((b 22), .inl (Y 2, 400, .inl f6))] H := hP
  have hD : va_D A [((b 0), .inr (6, (.int 0 :: .ref (b 16) :: .int 0 :: .ref (b 17) :: .int 0 :: .ref (b 18) :: .ref (b 19) :: .int 20 :: .ref (b 20) :: .ref (b 21) :: .int 0 :: .ref (b 22) :: .int 9 :: []))), ((b 22), .inl (Y 2, 400, .inl f6))] := hD
  refine lv_iinc (v := 16) (lv' := [(2, .int 16), (0, .ref (b 0)), (1, .int x)]) hx hb dX6_addBytes_40 hl (k := 0) rfl (by decide) (by decide) rfl (fun ls hl => ?_)
  refine lv_goto (tgt := 3) hx hb dX6_addBytes_43 (by decide) ?_
  refine lv_iload_n hx hb dX6_addBytes_3 rfl (lv_at hl 0 rfl) ?_
  refine lv_if_lt (tgt := 46) hx hb dX6_addBytes_4 (by decide) (fun c8 => ?_) (fun c8 => ?_)
  · exact absurd c8 (by decide)
  refine lv_aload_n hx hb dX6_addBytes_7 rfl (lv_at hl 1 rfl) ?_
  refine va_get (D := D) (ci := 6) (v := .int 9) (C := RX6) (T := TX6) (N := 13) hx hb hg inGX6 hown hKN.1 hP 0 rfl rfl 12 (by decide) (hg _ kw_67) (fun _ h9 => h9) rfl dX6_addBytes_8 ?_
  refine lv_sipush (v := 400) hx hb dX6_addBytes_11 (by decide) ?_
  refine lv_icmp_ge (tgt := 46) hx hb dX6_addBytes_14 (by decide) (fun c9 => ?_) (fun c9 => ?_)
  · exact absurd c9 (by decide)
  refine lv_aload_n hx hb dX6_addBytes_17 rfl (lv_at hl 1 rfl) ?_
  refine va_get (D := D) (ci := 6) (v := .ref (b 22)) (C := RX6) (T := TX6) (N := 13) hx hb hg inGX6 hown hKN.1 hP 0 rfl rfl 11 (by decide) (hg _ kw_65) (fun _ h9 => h9) rfl dX6_addBytes_18 ?_
  refine lv_aload_n hx hb dX6_addBytes_21 rfl (lv_at hl 1 rfl) ?_
  refine va_get (D := D) (ci := 6) (v := .int 9) (C := RX6) (T := TX6) (N := 13) hx hb hg inGX6 hown hKN.1 hP 0 rfl rfl 12 (by decide) (hg _ kw_67) (fun _ h9 => h9) rfl dX6_addBytes_22 ?_
  refine lv_iload_n hx hb dX6_addBytes_25 rfl (lv_at hl 2 rfl) ?_
  refine lv_iload_n hx hb dX6_addBytes_26 rfl (lv_at hl 0 rfl) ?_
  refine lv_iushr hx hb dX6_addBytes_27 rfl ?_
  refine lv_topi (fun v10 ev10 => ?_)
  refine lv_i2b (v := v10.toInt8.toInt32) hx hb dX6_addBytes_28 rfl ?_
  refine lv_topi (fun v12 ev12 => ?_)
  refine va_bast hx hb hKN.1 hP hD hS 1 2 rfl rfl (show ¬ ((9 : Int32) < 0 ∨ 400 ≤ (9 : Int32).toNatClampNeg) by decide) dX6_addBytes_29 (fun H locs hP hD hS => ?_)
  obtain ⟨f13, hP, hD⟩ : ∃ f13 : Nat → Int32, va_P D vwCl [((b 0), .inr (6, (.int 0 :: .ref (b 16) :: .int 0 :: .ref (b 17) :: .int 0 :: .ref (b 18) :: .ref (b 19) :: .int 20 :: .ref (b 20) :: .ref (b 21) :: .int 0 :: .ref (b 22) :: .int 9 :: []))), ((b 22), .inl (Y 2, 400, .inl f13))] H ∧ va_D A [((b 0), .inr (6, (.int 0 :: .ref (b 16) :: .int 0 :: .ref (b 17) :: .int 0 :: .ref (b 18) :: .ref (b 19) :: .int 20 :: .ref (b 20) :: .ref (b 21) :: .int 0 :: .ref (b 22) :: .int 9 :: []))), ((b 22), .inl (Y 2, 400, .inl f13))] := ⟨_, hP, hD⟩
  refine lv_aload_n hx hb dX6_addBytes_30 rfl (lv_at hl 1 rfl) ?_
  refine lv_dup hx hb dX6_addBytes_31 rfl ?_
  refine va_get (D := D) (ci := 6) (v := .int 9) (C := RX6) (T := TX6) (N := 13) hx hb hg inGX6 hown hKN.1 hP 0 rfl rfl 12 (by decide) (hg _ kw_67) (fun _ h9 => h9) rfl dX6_addBytes_32 ?_
  refine lv_iconst (v := 1) hx hb dX6_addBytes_35 (by decide) ?_
  refine lv_iadd hx hb dX6_addBytes_36 ?_
  refine lv_topi (fun z14 ez14 => ?_)
  obtain rfl : z14 = 10 := ez14.trans (by decide)
  refine va_put (D := D) (ci := 6) (v := .int 10) (ty := .int) (C := RX6) (T := TX6) (N := 13) hx hb hg inGX6 tyX6 tyX6_ok nmX6 hown hKN.1 hP hD hS 0 rfl rfl 12 (by decide) (hg _ kw_67) (fun _ h9 => h9) rfl (by decide +kernel) rfl rfl (Nat.le_of_ble_eq_true rfl) dX6_addBytes_37 (fun H locs hP hD hS => ?_)
  have hP : va_P D vwCl [((b 0), .inr (6, (.int 0 :: .ref (b 16) :: .int 0 :: .ref (b 17) :: .int 0 :: .ref (b 18) :: .ref (b 19) :: .int 20 :: .ref (b 20) :: .ref (b 21) :: .int 0 :: .ref (b 22) :: .int 10 :: []))), ((b 22), .inl (Y 2, 400, .inl f13))] H := hP
  have hD : va_D A [((b 0), .inr (6, (.int 0 :: .ref (b 16) :: .int 0 :: .ref (b 17) :: .int 0 :: .ref (b 18) :: .ref (b 19) :: .int 20 :: .ref (b 20) :: .ref (b 21) :: .int 0 :: .ref (b 22) :: .int 10 :: []))), ((b 22), .inl (Y 2, 400, .inl f13))] := hD
  refine lv_iinc (v := 8) (lv' := [(2, .int 8), (0, .ref (b 0)), (1, .int x)]) hx hb dX6_addBytes_40 hl (k := 0) rfl (by decide) (by decide) rfl (fun ls hl => ?_)
  refine lv_goto (tgt := 3) hx hb dX6_addBytes_43 (by decide) ?_
  refine lv_iload_n hx hb dX6_addBytes_3 rfl (lv_at hl 0 rfl) ?_
  refine lv_if_lt (tgt := 46) hx hb dX6_addBytes_4 (by decide) (fun c15 => ?_) (fun c15 => ?_)
  · exact absurd c15 (by decide)
  refine lv_aload_n hx hb dX6_addBytes_7 rfl (lv_at hl 1 rfl) ?_
  refine va_get (D := D) (ci := 6) (v := .int 10) (C := RX6) (T := TX6) (N := 13) hx hb hg inGX6 hown hKN.1 hP 0 rfl rfl 12 (by decide) (hg _ kw_67) (fun _ h9 => h9) rfl dX6_addBytes_8 ?_
  refine lv_sipush (v := 400) hx hb dX6_addBytes_11 (by decide) ?_
  refine lv_icmp_ge (tgt := 46) hx hb dX6_addBytes_14 (by decide) (fun c16 => ?_) (fun c16 => ?_)
  · exact absurd c16 (by decide)
  refine lv_aload_n hx hb dX6_addBytes_17 rfl (lv_at hl 1 rfl) ?_
  refine va_get (D := D) (ci := 6) (v := .ref (b 22)) (C := RX6) (T := TX6) (N := 13) hx hb hg inGX6 hown hKN.1 hP 0 rfl rfl 11 (by decide) (hg _ kw_65) (fun _ h9 => h9) rfl dX6_addBytes_18 ?_
  refine lv_aload_n hx hb dX6_addBytes_21 rfl (lv_at hl 1 rfl) ?_
  refine va_get (D := D) (ci := 6) (v := .int 10) (C := RX6) (T := TX6) (N := 13) hx hb hg inGX6 hown hKN.1 hP 0 rfl rfl 12 (by decide) (hg _ kw_67) (fun _ h9 => h9) rfl dX6_addBytes_22 ?_
  refine lv_iload_n hx hb dX6_addBytes_25 rfl (lv_at hl 2 rfl) ?_
  refine lv_iload_n hx hb dX6_addBytes_26 rfl (lv_at hl 0 rfl) ?_
  refine lv_iushr hx hb dX6_addBytes_27 rfl ?_
  refine lv_topi (fun v17 ev17 => ?_)
  refine lv_i2b (v := v17.toInt8.toInt32) hx hb dX6_addBytes_28 rfl ?_
  refine lv_topi (fun v19 ev19 => ?_)
  refine va_bast hx hb hKN.1 hP hD hS 1 2 rfl rfl (show ¬ ((10 : Int32) < 0 ∨ 400 ≤ (10 : Int32).toNatClampNeg) by decide) dX6_addBytes_29 (fun H locs hP hD hS => ?_)
  obtain ⟨f20, hP, hD⟩ : ∃ f20 : Nat → Int32, va_P D vwCl [((b 0), .inr (6, (.int 0 :: .ref (b 16) :: .int 0 :: .ref (b 17) :: .int 0 :: .ref (b 18) :: .ref (b 19) :: .int 20 :: .ref (b 20) :: .ref (b 21) :: .int 0 :: .ref (b 22) :: .int 10 :: []))), ((b 22), .inl (Y 2, 400, .inl f20))] H ∧ va_D A [((b 0), .inr (6, (.int 0 :: .ref (b 16) :: .int 0 :: .ref (b 17) :: .int 0 :: .ref (b 18) :: .ref (b 19) :: .int 20 :: .ref (b 20) :: .ref (b 21) :: .int 0 :: .ref (b 22) :: .int 10 :: []))), ((b 22), .inl (Y 2, 400, .inl f20))] := ⟨_, hP, hD⟩
  refine lv_aload_n hx hb dX6_addBytes_30 rfl (lv_at hl 1 rfl) ?_
  refine lv_dup hx hb dX6_addBytes_31 rfl ?_
  refine va_get (D := D) (ci := 6) (v := .int 10) (C := RX6) (T := TX6) (N := 13) hx hb hg inGX6 hown hKN.1 hP 0 rfl rfl 12 (by decide) (hg _ kw_67) (fun _ h9 => h9) rfl dX6_addBytes_32 ?_
  refine lv_iconst (v := 1) hx hb dX6_addBytes_35 (by decide) ?_
  refine lv_iadd hx hb dX6_addBytes_36 ?_
  refine lv_topi (fun z21 ez21 => ?_)
  obtain rfl : z21 = 11 := ez21.trans (by decide)
  refine va_put (D := D) (ci := 6) (v := .int 11) (ty := .int) (C := RX6) (T := TX6) (N := 13) hx hb hg inGX6 tyX6 tyX6_ok nmX6 hown hKN.1 hP hD hS 0 rfl rfl 12 (by decide) (hg _ kw_67) (fun _ h9 => h9) rfl (by decide +kernel) rfl rfl (Nat.le_of_ble_eq_true rfl) dX6_addBytes_37 (fun H locs hP hD hS => ?_)
  have hP : va_P D vwCl [((b 0), .inr (6, (.int 0 :: .ref (b 16) :: .int 0 :: .ref (b 17) :: .int 0 :: .ref (b 18) :: .ref (b 19) :: .int 20 :: .ref (b 20) :: .ref (b 21) :: .int 0 :: .ref (b 22) :: .int 11 :: []))), ((b 22), .inl (Y 2, 400, .inl f20))] H := hP
  have hD : va_D A [((b 0), .inr (6, (.int 0 :: .ref (b 16) :: .int 0 :: .ref (b 17) :: .int 0 :: .ref (b 18) :: .ref (b 19) :: .int 20 :: .ref (b 20) :: .ref (b 21) :: .int 0 :: .ref (b 22) :: .int 11 :: []))), ((b 22), .inl (Y 2, 400, .inl f20))] := hD
  refine lv_iinc (v := 0) (lv' := [(2, .int 0), (0, .ref (b 0)), (1, .int x)]) hx hb dX6_addBytes_40 hl (k := 0) rfl (by decide) (by decide) rfl (fun ls hl => ?_)
  refine lv_goto (tgt := 3) hx hb dX6_addBytes_43 (by decide) ?_
  refine lv_iload_n hx hb dX6_addBytes_3 rfl (lv_at hl 0 rfl) ?_
  refine lv_if_lt (tgt := 46) hx hb dX6_addBytes_4 (by decide) (fun c22 => ?_) (fun c22 => ?_)
  · exact absurd c22 (by decide)
  refine lv_aload_n hx hb dX6_addBytes_7 rfl (lv_at hl 1 rfl) ?_
  refine va_get (D := D) (ci := 6) (v := .int 11) (C := RX6) (T := TX6) (N := 13) hx hb hg inGX6 hown hKN.1 hP 0 rfl rfl 12 (by decide) (hg _ kw_67) (fun _ h9 => h9) rfl dX6_addBytes_8 ?_
  refine lv_sipush (v := 400) hx hb dX6_addBytes_11 (by decide) ?_
  refine lv_icmp_ge (tgt := 46) hx hb dX6_addBytes_14 (by decide) (fun c23 => ?_) (fun c23 => ?_)
  · exact absurd c23 (by decide)
  refine lv_aload_n hx hb dX6_addBytes_17 rfl (lv_at hl 1 rfl) ?_
  refine va_get (D := D) (ci := 6) (v := .ref (b 22)) (C := RX6) (T := TX6) (N := 13) hx hb hg inGX6 hown hKN.1 hP 0 rfl rfl 11 (by decide) (hg _ kw_65) (fun _ h9 => h9) rfl dX6_addBytes_18 ?_
  refine lv_aload_n hx hb dX6_addBytes_21 rfl (lv_at hl 1 rfl) ?_
  refine va_get (D := D) (ci := 6) (v := .int 11) (C := RX6) (T := TX6) (N := 13) hx hb hg inGX6 hown hKN.1 hP 0 rfl rfl 12 (by decide) (hg _ kw_67) (fun _ h9 => h9) rfl dX6_addBytes_22 ?_
  refine lv_iload_n hx hb dX6_addBytes_25 rfl (lv_at hl 2 rfl) ?_
  refine lv_iload_n hx hb dX6_addBytes_26 rfl (lv_at hl 0 rfl) ?_
  refine lv_iushr hx hb dX6_addBytes_27 rfl ?_
  refine lv_topi (fun v24 ev24 => ?_)
  refine lv_i2b (v := v24.toInt8.toInt32) hx hb dX6_addBytes_28 rfl ?_
  refine lv_topi (fun v26 ev26 => ?_)
  refine va_bast hx hb hKN.1 hP hD hS 1 2 rfl rfl (show ¬ ((11 : Int32) < 0 ∨ 400 ≤ (11 : Int32).toNatClampNeg) by decide) dX6_addBytes_29 (fun H locs hP hD hS => ?_)
  obtain ⟨f27, hP, hD⟩ : ∃ f27 : Nat → Int32, va_P D vwCl [((b 0), .inr (6, (.int 0 :: .ref (b 16) :: .int 0 :: .ref (b 17) :: .int 0 :: .ref (b 18) :: .ref (b 19) :: .int 20 :: .ref (b 20) :: .ref (b 21) :: .int 0 :: .ref (b 22) :: .int 11 :: []))), ((b 22), .inl (Y 2, 400, .inl f27))] H ∧ va_D A [((b 0), .inr (6, (.int 0 :: .ref (b 16) :: .int 0 :: .ref (b 17) :: .int 0 :: .ref (b 18) :: .ref (b 19) :: .int 20 :: .ref (b 20) :: .ref (b 21) :: .int 0 :: .ref (b 22) :: .int 11 :: []))), ((b 22), .inl (Y 2, 400, .inl f27))] := ⟨_, hP, hD⟩
  refine lv_aload_n hx hb dX6_addBytes_30 rfl (lv_at hl 1 rfl) ?_
  refine lv_dup hx hb dX6_addBytes_31 rfl ?_
  refine va_get (D := D) (ci := 6) (v := .int 11) (C := RX6) (T := TX6) (N := 13) hx hb hg inGX6 hown hKN.1 hP 0 rfl rfl 12 (by decide) (hg _ kw_67) (fun _ h9 => h9) rfl dX6_addBytes_32 ?_
  refine lv_iconst (v := 1) hx hb dX6_addBytes_35 (by decide) ?_
  refine lv_iadd hx hb dX6_addBytes_36 ?_
  refine lv_topi (fun z28 ez28 => ?_)
  obtain rfl : z28 = 12 := ez28.trans (by decide)
  refine va_put (D := D) (ci := 6) (v := .int 12) (ty := .int) (C := RX6) (T := TX6) (N := 13) hx hb hg inGX6 tyX6 tyX6_ok nmX6 hown hKN.1 hP hD hS 0 rfl rfl 12 (by decide) (hg _ kw_67) (fun _ h9 => h9) rfl (by decide +kernel) rfl rfl (Nat.le_of_ble_eq_true rfl) dX6_addBytes_37 (fun H locs hP hD hS => ?_)
  have hP : va_P D vwCl [((b 0), .inr (6, (.int 0 :: .ref (b 16) :: .int 0 :: .ref (b 17) :: .int 0 :: .ref (b 18) :: .ref (b 19) :: .int 20 :: .ref (b 20) :: .ref (b 21) :: .int 0 :: .ref (b 22) :: .int 12 :: []))), ((b 22), .inl (Y 2, 400, .inl f27))] H := hP
  have hD : va_D A [((b 0), .inr (6, (.int 0 :: .ref (b 16) :: .int 0 :: .ref (b 17) :: .int 0 :: .ref (b 18) :: .ref (b 19) :: .int 20 :: .ref (b 20) :: .ref (b 21) :: .int 0 :: .ref (b 22) :: .int 12 :: []))), ((b 22), .inl (Y 2, 400, .inl f27))] := hD
  refine lv_iinc (v := (-8)) (lv' := [(2, .int (-8)), (0, .ref (b 0)), (1, .int x)]) hx hb dX6_addBytes_40 hl (k := 0) rfl (by decide) (by decide) rfl (fun ls hl => ?_)
  refine lv_goto (tgt := 3) hx hb dX6_addBytes_43 (by decide) ?_
  refine lv_iload_n hx hb dX6_addBytes_3 rfl (lv_at hl 0 rfl) ?_
  refine lv_if_lt (tgt := 46) hx hb dX6_addBytes_4 (by decide) (fun c29 => ?_) (fun c29 => ?_)
  rotate_left
  · exact absurd c29 (by decide)
  refine W.widen (k := 0) (n := 0) (Nat.le_of_ble_eq_true rfl) (Nat.le_of_ble_eq_true rfl) ?_
  exact W.vret hx hb hr (fun t ht hW => ⟨⟨f27, rfl, trivial, CB.mk ht (hP.sub [0, 1] rfl) (hD.sub [0, 1] (by decide) rfl)⟩, hS.F ht⟩) hS.2.2 dX6_addBytes_46
set_option maxHeartbeats 4000000 in
set_option maxRecDepth 100000 in
theorem c_addBytes12 (l : Launch) (D : va_G) (Y : Nat → ClassId) (Z : Nat → Nat) (sz : Nat) (b : Nat → Nat) (x : Int32) (f : Nat → Int32) : Met l yX6_addBytes (.code yX6_addBytes cX6_addBytes 3 none :: GW) ({ frames := 0, cells := 0, slots := 0, locals := 0 }) (va_Pc [.ref (b 0), .int x] (CP D Y Z [((b 0), .inr (6, (.int 0 :: .ref (b 16) :: .int 0 :: .ref (b 17) :: .int 0 :: .ref (b 18) :: .ref (b 19) :: .int 20 :: .ref (b 20) :: .ref (b 21) :: .int 0 :: .ref (b 22) :: .int 12 :: []))), ((b 22), .inl (Y 2, 400, .inl f))] sz)) (QG (S := (Nat → Int32)) (fun _ => none) (fun _ => True) (fun u => CB D ((fun u => [((b 0), .inr (6, (.int 0 :: .ref (b 16) :: .int 0 :: .ref (b 17) :: .int 0 :: .ref (b 18) :: .ref (b 19) :: .int 20 :: .ref (b 20) :: .ref (b 21) :: .int 0 :: .ref (b 22) :: .int 16 :: []))), ((b 22), .inl (Y 2, 400, .inl u))]) u) (va_A [((b 0), .inr (6, (.int 0 :: .ref (b 16) :: .int 0 :: .ref (b 17) :: .int 0 :: .ref (b 18) :: .ref (b 19) :: .int 20 :: .ref (b 20) :: .ref (b 21) :: .int 0 :: .ref (b 22) :: .int 12 :: []))), ((b 22), .inl (Y 2, 400, .inl f))] sz)) (va_A [((b 0), .inr (6, (.int 0 :: .ref (b 16) :: .int 0 :: .ref (b 17) :: .int 0 :: .ref (b 18) :: .ref (b 19) :: .int 20 :: .ref (b 20) :: .ref (b 21) :: .int 0 :: .ref (b 22) :: .int 12 :: []))), ((b 22), .inl (Y 2, 400, .inl f))] sz)) 0 0 (va_A [((b 0), .inr (6, (.int 0 :: .ref (b 16) :: .int 0 :: .ref (b 17) :: .int 0 :: .ref (b 18) :: .ref (b 19) :: .int 20 :: .ref (b 20) :: .ref (b 21) :: .int 0 :: .ref (b 22) :: .int 12 :: []))), ((b 22), .inl (Y 2, 400, .inl f))] sz) := by
  refine Met.ofW (cc := cX6_addBytes) (maxL := 3) (ret := none) (by decide) rfl ?_
  intro p e s m args below meth c s₁ B hml hv
  obtain ⟨rfl, hsz, hP, hKN, hD0⟩ := hv
  have hx := B.exec
  have hb := B.bytes
  have hr := B.returns
  have hts := atoms_spec (ws := .code yX6_addBytes cX6_addBytes 3 none :: GW) B.pre
  have hg : ∀ w ∈ GW, w.before _ s = true := fun w h => hts w (List.mem_cons_of_mem _ h)
  have hown : s.vm.findClass RX6 = some m.cls := findClass_of_methodNamed B.named
  have hlocks := B.notSynchronized
  subst hsz
  have hD := hD0.self (sz := s.heap.size)
  generalize hAe : va_A [((b 0), .inr (6, (.int 0 :: .ref (b 16) :: .int 0 :: .ref (b 17) :: .int 0 :: .ref (b 18) :: .ref (b 19) :: .int 20 :: .ref (b 20) :: .ref (b 21) :: .int 0 :: .ref (b 22) :: .int 12 :: []))), ((b 22), .inl (Y 2, 400, .inl f))] s.heap.size = A at hD ⊢
  have hA : ∀ q : Nat, s.heap.size ≤ q → A q := fun q h => by rw [← hAe]; exact Or.inr h
  have hl := lv_entry ([.ref (b 0), .int x]) (n := 3) (Nat.le_of_ble_eq_true rfl)
  rw [lg_entry_eq]
  generalize (lg_sl ([.ref (b 0), .int x]) ++ List.replicate (3 - (lg_sl ([.ref (b 0), .int x])).length) Slot.unset).toArray = ls at hl ⊢
  have hl : lv_has ls 3 [(0, .ref (b 0)), (1, .int x)] := hl
  refine w_start (A0 := A) hP (fun H locs hP hS => ?_)
  refine lv_bipush (v := 24) hx hb dX6_addBytes_0 (by decide) ?_
  refine lv_istore_n (lv' := [(2, .int 24), (0, .ref (b 0)), (1, .int x)]) hx hb dX6_addBytes_2 rfl hl (by decide) rfl (fun ls hl => ?_)
  refine lv_iload_n hx hb dX6_addBytes_3 rfl (lv_at hl 0 rfl) ?_
  refine lv_if_lt (tgt := 46) hx hb dX6_addBytes_4 (by decide) (fun c1 => ?_) (fun c1 => ?_)
  · exact absurd c1 (by decide)
  refine lv_aload_n hx hb dX6_addBytes_7 rfl (lv_at hl 1 rfl) ?_
  refine va_get (D := D) (ci := 6) (v := .int 12) (C := RX6) (T := TX6) (N := 13) hx hb hg inGX6 hown hKN.1 hP 0 rfl rfl 12 (by decide) (hg _ kw_67) (fun _ h9 => h9) rfl dX6_addBytes_8 ?_
  refine lv_sipush (v := 400) hx hb dX6_addBytes_11 (by decide) ?_
  refine lv_icmp_ge (tgt := 46) hx hb dX6_addBytes_14 (by decide) (fun c2 => ?_) (fun c2 => ?_)
  · exact absurd c2 (by decide)
  refine lv_aload_n hx hb dX6_addBytes_17 rfl (lv_at hl 1 rfl) ?_
  refine va_get (D := D) (ci := 6) (v := .ref (b 22)) (C := RX6) (T := TX6) (N := 13) hx hb hg inGX6 hown hKN.1 hP 0 rfl rfl 11 (by decide) (hg _ kw_65) (fun _ h9 => h9) rfl dX6_addBytes_18 ?_
  refine lv_aload_n hx hb dX6_addBytes_21 rfl (lv_at hl 1 rfl) ?_
  refine va_get (D := D) (ci := 6) (v := .int 12) (C := RX6) (T := TX6) (N := 13) hx hb hg inGX6 hown hKN.1 hP 0 rfl rfl 12 (by decide) (hg _ kw_67) (fun _ h9 => h9) rfl dX6_addBytes_22 ?_
  refine lv_iload_n hx hb dX6_addBytes_25 rfl (lv_at hl 2 rfl) ?_
  refine lv_iload_n hx hb dX6_addBytes_26 rfl (lv_at hl 0 rfl) ?_
  refine lv_iushr hx hb dX6_addBytes_27 rfl ?_
  refine lv_topi (fun v3 ev3 => ?_)
  refine lv_i2b (v := v3.toInt8.toInt32) hx hb dX6_addBytes_28 rfl ?_
  refine lv_topi (fun v5 ev5 => ?_)
  refine va_bast hx hb hKN.1 hP hD hS 1 2 rfl rfl (show ¬ ((12 : Int32) < 0 ∨ 400 ≤ (12 : Int32).toNatClampNeg) by decide) dX6_addBytes_29 (fun H locs hP hD hS => ?_)
  obtain ⟨f6, hP, hD⟩ : ∃ f6 : Nat → Int32, va_P D vwCl [((b 0), .inr (6, (.int 0 :: .ref (b 16) :: .int 0 :: .ref (b 17) :: .int 0 :: .ref (b 18) :: .ref (b 19) :: .int 20 :: .ref (b 20) :: .ref (b 21) :: .int 0 :: .ref (b 22) :: .int 12 :: []))), ((b 22), .inl (Y 2, 400, .inl f6))] H ∧ va_D A [((b 0), .inr (6, (.int 0 :: .ref (b 16) :: .int 0 :: .ref (b 17) :: .int 0 :: .ref (b 18) :: .ref (b 19) :: .int 20 :: .ref (b 20) :: .ref (b 21) :: .int 0 :: .ref (b 22) :: .int 12 :: []))), ((b 22), .inl (Y 2, 400, .inl f6))] := ⟨_, hP, hD⟩
  refine lv_aload_n hx hb dX6_addBytes_30 rfl (lv_at hl 1 rfl) ?_
  refine lv_dup hx hb dX6_addBytes_31 rfl ?_
  refine va_get (D := D) (ci := 6) (v := .int 12) (C := RX6) (T := TX6) (N := 13) hx hb hg inGX6 hown hKN.1 hP 0 rfl rfl 12 (by decide) (hg _ kw_67) (fun _ h9 => h9) rfl dX6_addBytes_32 ?_
  refine lv_iconst (v := 1) hx hb dX6_addBytes_35 (by decide) ?_
  refine lv_iadd hx hb dX6_addBytes_36 ?_
  refine lv_topi (fun z7 ez7 => ?_)
  obtain rfl : z7 = 13 := ez7.trans (by decide)
  refine va_put (D := D) (ci := 6) (v := .int 13) (ty := .int) (C := RX6) (T := TX6) (N := 13) hx hb hg inGX6 tyX6 tyX6_ok nmX6 hown hKN.1 hP hD hS 0 rfl rfl 12 (by decide) (hg _ kw_67) (fun _ h9 => h9) rfl (by decide +kernel) rfl rfl (Nat.le_of_ble_eq_true rfl) dX6_addBytes_37 (fun H locs hP hD hS => ?_)
  have hP : va_P D vwCl [((b 0), .inr (6, (.int 0 :: .ref (b 16) :: .int 0 :: .ref (b 17) :: .int 0 :: .ref (b 18) :: .ref (b 19) :: .int 20 :: .ref (b 20) :: .ref (b 21) :: .int 0 :: .ref (b 22) :: .int 13 :: []))), ((b 22), .inl (Y 2, 400, .inl f6))] H := hP
  have hD : va_D A [((b 0), .inr (6, (.int 0 :: .ref (b 16) :: .int 0 :: .ref (b 17) :: .int 0 :: .ref (b 18) :: .ref (b 19) :: .int 20 :: .ref (b 20) :: .ref (b 21) :: .int 0 :: .ref (b 22) :: .int 13 :: []))), ((b 22), .inl (Y 2, 400, .inl f6))] := hD
  refine lv_iinc (v := 16) (lv' := [(2, .int 16), (0, .ref (b 0)), (1, .int x)]) hx hb dX6_addBytes_40 hl (k := 0) rfl (by decide) (by decide) rfl (fun ls hl => ?_)
  refine lv_goto (tgt := 3) hx hb dX6_addBytes_43 (by decide) ?_
  refine lv_iload_n hx hb dX6_addBytes_3 rfl (lv_at hl 0 rfl) ?_
  refine lv_if_lt (tgt := 46) hx hb dX6_addBytes_4 (by decide) (fun c8 => ?_) (fun c8 => ?_)
  · exact absurd c8 (by decide)
  refine lv_aload_n hx hb dX6_addBytes_7 rfl (lv_at hl 1 rfl) ?_
  refine va_get (D := D) (ci := 6) (v := .int 13) (C := RX6) (T := TX6) (N := 13) hx hb hg inGX6 hown hKN.1 hP 0 rfl rfl 12 (by decide) (hg _ kw_67) (fun _ h9 => h9) rfl dX6_addBytes_8 ?_
  refine lv_sipush (v := 400) hx hb dX6_addBytes_11 (by decide) ?_
  refine lv_icmp_ge (tgt := 46) hx hb dX6_addBytes_14 (by decide) (fun c9 => ?_) (fun c9 => ?_)
  · exact absurd c9 (by decide)
  refine lv_aload_n hx hb dX6_addBytes_17 rfl (lv_at hl 1 rfl) ?_
  refine va_get (D := D) (ci := 6) (v := .ref (b 22)) (C := RX6) (T := TX6) (N := 13) hx hb hg inGX6 hown hKN.1 hP 0 rfl rfl 11 (by decide) (hg _ kw_65) (fun _ h9 => h9) rfl dX6_addBytes_18 ?_
  refine lv_aload_n hx hb dX6_addBytes_21 rfl (lv_at hl 1 rfl) ?_
  refine va_get (D := D) (ci := 6) (v := .int 13) (C := RX6) (T := TX6) (N := 13) hx hb hg inGX6 hown hKN.1 hP 0 rfl rfl 12 (by decide) (hg _ kw_67) (fun _ h9 => h9) rfl dX6_addBytes_22 ?_
  refine lv_iload_n hx hb dX6_addBytes_25 rfl (lv_at hl 2 rfl) ?_
  refine lv_iload_n hx hb dX6_addBytes_26 rfl (lv_at hl 0 rfl) ?_
  refine lv_iushr hx hb dX6_addBytes_27 rfl ?_
  refine lv_topi (fun v10 ev10 => ?_)
  refine lv_i2b (v := v10.toInt8.toInt32) hx hb dX6_addBytes_28 rfl ?_
  refine lv_topi (fun v12 ev12 => ?_)
  refine va_bast hx hb hKN.1 hP hD hS 1 2 rfl rfl (show ¬ ((13 : Int32) < 0 ∨ 400 ≤ (13 : Int32).toNatClampNeg) by decide) dX6_addBytes_29 (fun H locs hP hD hS => ?_)
  obtain ⟨f13, hP, hD⟩ : ∃ f13 : Nat → Int32, va_P D vwCl [((b 0), .inr (6, (.int 0 :: .ref (b 16) :: .int 0 :: .ref (b 17) :: .int 0 :: .ref (b 18) :: .ref (b 19) :: .int 20 :: .ref (b 20) :: .ref (b 21) :: .int 0 :: .ref (b 22) :: .int 13 :: []))), ((b 22), .inl (Y 2, 400, .inl f13))] H ∧ va_D A [((b 0), .inr (6, (.int 0 :: .ref (b 16) :: .int 0 :: .ref (b 17) :: .int 0 :: .ref (b 18) :: .ref (b 19) :: .int 20 :: .ref (b 20) :: .ref (b 21) :: .int 0 :: .ref (b 22) :: .int 13 :: []))), ((b 22), .inl (Y 2, 400, .inl f13))] := ⟨_, hP, hD⟩
  refine lv_aload_n hx hb dX6_addBytes_30 rfl (lv_at hl 1 rfl) ?_
  refine lv_dup hx hb dX6_addBytes_31 rfl ?_
  refine va_get (D := D) (ci := 6) (v := .int 13) (C := RX6) (T := TX6) (N := 13) hx hb hg inGX6 hown hKN.1 hP 0 rfl rfl 12 (by decide) (hg _ kw_67) (fun _ h9 => h9) rfl dX6_addBytes_32 ?_
  refine lv_iconst (v := 1) hx hb dX6_addBytes_35 (by decide) ?_
  refine lv_iadd hx hb dX6_addBytes_36 ?_
  refine lv_topi (fun z14 ez14 => ?_)
  obtain rfl : z14 = 14 := ez14.trans (by decide)
  refine va_put (D := D) (ci := 6) (v := .int 14) (ty := .int) (C := RX6) (T := TX6) (N := 13) hx hb hg inGX6 tyX6 tyX6_ok nmX6 hown hKN.1 hP hD hS 0 rfl rfl 12 (by decide) (hg _ kw_67) (fun _ h9 => h9) rfl (by decide +kernel) rfl rfl (Nat.le_of_ble_eq_true rfl) dX6_addBytes_37 (fun H locs hP hD hS => ?_)
  have hP : va_P D vwCl [((b 0), .inr (6, (.int 0 :: .ref (b 16) :: .int 0 :: .ref (b 17) :: .int 0 :: .ref (b 18) :: .ref (b 19) :: .int 20 :: .ref (b 20) :: .ref (b 21) :: .int 0 :: .ref (b 22) :: .int 14 :: []))), ((b 22), .inl (Y 2, 400, .inl f13))] H := hP
  have hD : va_D A [((b 0), .inr (6, (.int 0 :: .ref (b 16) :: .int 0 :: .ref (b 17) :: .int 0 :: .ref (b 18) :: .ref (b 19) :: .int 20 :: .ref (b 20) :: .ref (b 21) :: .int 0 :: .ref (b 22) :: .int 14 :: []))), ((b 22), .inl (Y 2, 400, .inl f13))] := hD
  refine lv_iinc (v := 8) (lv' := [(2, .int 8), (0, .ref (b 0)), (1, .int x)]) hx hb dX6_addBytes_40 hl (k := 0) rfl (by decide) (by decide) rfl (fun ls hl => ?_)
  refine lv_goto (tgt := 3) hx hb dX6_addBytes_43 (by decide) ?_
  refine lv_iload_n hx hb dX6_addBytes_3 rfl (lv_at hl 0 rfl) ?_
  refine lv_if_lt (tgt := 46) hx hb dX6_addBytes_4 (by decide) (fun c15 => ?_) (fun c15 => ?_)
  · exact absurd c15 (by decide)
  refine lv_aload_n hx hb dX6_addBytes_7 rfl (lv_at hl 1 rfl) ?_
  refine va_get (D := D) (ci := 6) (v := .int 14) (C := RX6) (T := TX6) (N := 13) hx hb hg inGX6 hown hKN.1 hP 0 rfl rfl 12 (by decide) (hg _ kw_67) (fun _ h9 => h9) rfl dX6_addBytes_8 ?_
  refine lv_sipush (v := 400) hx hb dX6_addBytes_11 (by decide) ?_
  refine lv_icmp_ge (tgt := 46) hx hb dX6_addBytes_14 (by decide) (fun c16 => ?_) (fun c16 => ?_)
  · exact absurd c16 (by decide)
  refine lv_aload_n hx hb dX6_addBytes_17 rfl (lv_at hl 1 rfl) ?_
  refine va_get (D := D) (ci := 6) (v := .ref (b 22)) (C := RX6) (T := TX6) (N := 13) hx hb hg inGX6 hown hKN.1 hP 0 rfl rfl 11 (by decide) (hg _ kw_65) (fun _ h9 => h9) rfl dX6_addBytes_18 ?_
  refine lv_aload_n hx hb dX6_addBytes_21 rfl (lv_at hl 1 rfl) ?_
  refine va_get (D := D) (ci := 6) (v := .int 14) (C := RX6) (T := TX6) (N := 13) hx hb hg inGX6 hown hKN.1 hP 0 rfl rfl 12 (by decide) (hg _ kw_67) (fun _ h9 => h9) rfl dX6_addBytes_22 ?_
  refine lv_iload_n hx hb dX6_addBytes_25 rfl (lv_at hl 2 rfl) ?_
  refine lv_iload_n hx hb dX6_addBytes_26 rfl (lv_at hl 0 rfl) ?_
  refine lv_iushr hx hb dX6_addBytes_27 rfl ?_
  refine lv_topi (fun v17 ev17 => ?_)
  refine lv_i2b (v := v17.toInt8.toInt32) hx hb dX6_addBytes_28 rfl ?_
  refine lv_topi (fun v19 ev19 => ?_)
  refine va_bast hx hb hKN.1 hP hD hS 1 2 rfl rfl (show ¬ ((14 : Int32) < 0 ∨ 400 ≤ (14 : Int32).toNatClampNeg) by decide) dX6_addBytes_29 (fun H locs hP hD hS => ?_)
  obtain ⟨f20, hP, hD⟩ : ∃ f20 : Nat → Int32, va_P D vwCl [((b 0), .inr (6, (.int 0 :: .ref (b 16) :: .int 0 :: .ref (b 17) :: .int 0 :: .ref (b 18) :: .ref (b 19) :: .int 20 :: .ref (b 20) :: .ref (b 21) :: .int 0 :: .ref (b 22) :: .int 14 :: []))), ((b 22), .inl (Y 2, 400, .inl f20))] H ∧ va_D A [((b 0), .inr (6, (.int 0 :: .ref (b 16) :: .int 0 :: .ref (b 17) :: .int 0 :: .ref (b 18) :: .ref (b 19) :: .int 20 :: .ref (b 20) :: .ref (b 21) :: .int 0 :: .ref (b 22) :: .int 14 :: []))), ((b 22), .inl (Y 2, 400, .inl f20))] := ⟨_, hP, hD⟩
  refine lv_aload_n hx hb dX6_addBytes_30 rfl (lv_at hl 1 rfl) ?_
  refine lv_dup hx hb dX6_addBytes_31 rfl ?_
  refine va_get (D := D) (ci := 6) (v := .int 14) (C := RX6) (T := TX6) (N := 13) hx hb hg inGX6 hown hKN.1 hP 0 rfl rfl 12 (by decide) (hg _ kw_67) (fun _ h9 => h9) rfl dX6_addBytes_32 ?_
  refine lv_iconst (v := 1) hx hb dX6_addBytes_35 (by decide) ?_
  refine lv_iadd hx hb dX6_addBytes_36 ?_
  refine lv_topi (fun z21 ez21 => ?_)
  obtain rfl : z21 = 15 := ez21.trans (by decide)
  refine va_put (D := D) (ci := 6) (v := .int 15) (ty := .int) (C := RX6) (T := TX6) (N := 13) hx hb hg inGX6 tyX6 tyX6_ok nmX6 hown hKN.1 hP hD hS 0 rfl rfl 12 (by decide) (hg _ kw_67) (fun _ h9 => h9) rfl (by decide +kernel) rfl rfl (Nat.le_of_ble_eq_true rfl) dX6_addBytes_37 (fun H locs hP hD hS => ?_)
  have hP : va_P D vwCl [((b 0), .inr (6, (.int 0 :: .ref (b 16) :: .int 0 :: .ref (b 17) :: .int 0 :: .ref (b 18) :: .ref (b 19) :: .int 20 :: .ref (b 20) :: .ref (b 21) :: .int 0 :: .ref (b 22) :: .int 15 :: []))), ((b 22), .inl (Y 2, 400, .inl f20))] H := hP
  have hD : va_D A [((b 0), .inr (6, (.int 0 :: .ref (b 16) :: .int 0 :: .ref (b 17) :: .int 0 :: .ref (b 18) :: .ref (b 19) :: .int 20 :: .ref (b 20) :: .ref (b 21) :: .int 0 :: .ref (b 22) :: .int 15 :: []))), ((b 22), .inl (Y 2, 400, .inl f20))] := hD
  refine lv_iinc (v := 0) (lv' := [(2, .int 0), (0, .ref (b 0)), (1, .int x)]) hx hb dX6_addBytes_40 hl (k := 0) rfl (by decide) (by decide) rfl (fun ls hl => ?_)
  refine lv_goto (tgt := 3) hx hb dX6_addBytes_43 (by decide) ?_
  refine lv_iload_n hx hb dX6_addBytes_3 rfl (lv_at hl 0 rfl) ?_
  refine lv_if_lt (tgt := 46) hx hb dX6_addBytes_4 (by decide) (fun c22 => ?_) (fun c22 => ?_)
  · exact absurd c22 (by decide)
  refine lv_aload_n hx hb dX6_addBytes_7 rfl (lv_at hl 1 rfl) ?_
  refine va_get (D := D) (ci := 6) (v := .int 15) (C := RX6) (T := TX6) (N := 13) hx hb hg inGX6 hown hKN.1 hP 0 rfl rfl 12 (by decide) (hg _ kw_67) (fun _ h9 => h9) rfl dX6_addBytes_8 ?_
  refine lv_sipush (v := 400) hx hb dX6_addBytes_11 (by decide) ?_
  refine lv_icmp_ge (tgt := 46) hx hb dX6_addBytes_14 (by decide) (fun c23 => ?_) (fun c23 => ?_)
  · exact absurd c23 (by decide)
  refine lv_aload_n hx hb dX6_addBytes_17 rfl (lv_at hl 1 rfl) ?_
  refine va_get (D := D) (ci := 6) (v := .ref (b 22)) (C := RX6) (T := TX6) (N := 13) hx hb hg inGX6 hown hKN.1 hP 0 rfl rfl 11 (by decide) (hg _ kw_65) (fun _ h9 => h9) rfl dX6_addBytes_18 ?_
  refine lv_aload_n hx hb dX6_addBytes_21 rfl (lv_at hl 1 rfl) ?_
  refine va_get (D := D) (ci := 6) (v := .int 15) (C := RX6) (T := TX6) (N := 13) hx hb hg inGX6 hown hKN.1 hP 0 rfl rfl 12 (by decide) (hg _ kw_67) (fun _ h9 => h9) rfl dX6_addBytes_22 ?_
  refine lv_iload_n hx hb dX6_addBytes_25 rfl (lv_at hl 2 rfl) ?_
  refine lv_iload_n hx hb dX6_addBytes_26 rfl (lv_at hl 0 rfl) ?_
  refine lv_iushr hx hb dX6_addBytes_27 rfl ?_
  refine lv_topi (fun v24 ev24 => ?_)
  refine lv_i2b (v := v24.toInt8.toInt32) hx hb dX6_addBytes_28 rfl ?_
  refine lv_topi (fun v26 ev26 => ?_)
  refine va_bast hx hb hKN.1 hP hD hS 1 2 rfl rfl (show ¬ ((15 : Int32) < 0 ∨ 400 ≤ (15 : Int32).toNatClampNeg) by decide) dX6_addBytes_29 (fun H locs hP hD hS => ?_)
  obtain ⟨f27, hP, hD⟩ : ∃ f27 : Nat → Int32, va_P D vwCl [((b 0), .inr (6, (.int 0 :: .ref (b 16) :: .int 0 :: .ref (b 17) :: .int 0 :: .ref (b 18) :: .ref (b 19) :: .int 20 :: .ref (b 20) :: .ref (b 21) :: .int 0 :: .ref (b 22) :: .int 15 :: []))), ((b 22), .inl (Y 2, 400, .inl f27))] H ∧ va_D A [((b 0), .inr (6, (.int 0 :: .ref (b 16) :: .int 0 :: .ref (b 17) :: .int 0 :: .ref (b 18) :: .ref (b 19) :: .int 20 :: .ref (b 20) :: .ref (b 21) :: .int 0 :: .ref (b 22) :: .int 15 :: []))), ((b 22), .inl (Y 2, 400, .inl f27))] := ⟨_, hP, hD⟩
  refine lv_aload_n hx hb dX6_addBytes_30 rfl (lv_at hl 1 rfl) ?_
  refine lv_dup hx hb dX6_addBytes_31 rfl ?_
  refine va_get (D := D) (ci := 6) (v := .int 15) (C := RX6) (T := TX6) (N := 13) hx hb hg inGX6 hown hKN.1 hP 0 rfl rfl 12 (by decide) (hg _ kw_67) (fun _ h9 => h9) rfl dX6_addBytes_32 ?_
  refine lv_iconst (v := 1) hx hb dX6_addBytes_35 (by decide) ?_
  refine lv_iadd hx hb dX6_addBytes_36 ?_
  refine lv_topi (fun z28 ez28 => ?_)
  obtain rfl : z28 = 16 := ez28.trans (by decide)
  refine va_put (D := D) (ci := 6) (v := .int 16) (ty := .int) (C := RX6) (T := TX6) (N := 13) hx hb hg inGX6 tyX6 tyX6_ok nmX6 hown hKN.1 hP hD hS 0 rfl rfl 12 (by decide) (hg _ kw_67) (fun _ h9 => h9) rfl (by decide +kernel) rfl rfl (Nat.le_of_ble_eq_true rfl) dX6_addBytes_37 (fun H locs hP hD hS => ?_)
  have hP : va_P D vwCl [((b 0), .inr (6, (.int 0 :: .ref (b 16) :: .int 0 :: .ref (b 17) :: .int 0 :: .ref (b 18) :: .ref (b 19) :: .int 20 :: .ref (b 20) :: .ref (b 21) :: .int 0 :: .ref (b 22) :: .int 16 :: []))), ((b 22), .inl (Y 2, 400, .inl f27))] H := hP
  have hD : va_D A [((b 0), .inr (6, (.int 0 :: .ref (b 16) :: .int 0 :: .ref (b 17) :: .int 0 :: .ref (b 18) :: .ref (b 19) :: .int 20 :: .ref (b 20) :: .ref (b 21) :: .int 0 :: .ref (b 22) :: .int 16 :: []))), ((b 22), .inl (Y 2, 400, .inl f27))] := hD
  refine lv_iinc (v := (-8)) (lv' := [(2, .int (-8)), (0, .ref (b 0)), (1, .int x)]) hx hb dX6_addBytes_40 hl (k := 0) rfl (by decide) (by decide) rfl (fun ls hl => ?_)
  refine lv_goto (tgt := 3) hx hb dX6_addBytes_43 (by decide) ?_
  refine lv_iload_n hx hb dX6_addBytes_3 rfl (lv_at hl 0 rfl) ?_
  refine lv_if_lt (tgt := 46) hx hb dX6_addBytes_4 (by decide) (fun c29 => ?_) (fun c29 => ?_)
  rotate_left
  · exact absurd c29 (by decide)
  refine W.widen (k := 0) (n := 0) (Nat.le_of_ble_eq_true rfl) (Nat.le_of_ble_eq_true rfl) ?_
  exact W.vret hx hb hr (fun t ht hW => ⟨⟨f27, rfl, trivial, CB.mk ht (hP.sub [0, 1] rfl) (hD.sub [0, 1] (by decide) rfl)⟩, hS.F ht⟩) hS.2.2 dX6_addBytes_46
set_option maxHeartbeats 4000000 in
set_option maxRecDepth 100000 in
theorem c_addBytes16 (l : Launch) (D : va_G) (Y : Nat → ClassId) (Z : Nat → Nat) (sz : Nat) (b : Nat → Nat) (x : Int32) (f : Nat → Int32) : Met l yX6_addBytes (.code yX6_addBytes cX6_addBytes 3 none :: GW) ({ frames := 0, cells := 0, slots := 0, locals := 0 }) (va_Pc [.ref (b 0), .int x] (CP D Y Z [((b 0), .inr (6, (.int 0 :: .ref (b 16) :: .int 0 :: .ref (b 17) :: .int 0 :: .ref (b 18) :: .ref (b 19) :: .int 20 :: .ref (b 20) :: .ref (b 21) :: .int 0 :: .ref (b 22) :: .int 16 :: []))), ((b 22), .inl (Y 2, 400, .inl f))] sz)) (QG (S := (Nat → Int32)) (fun _ => none) (fun _ => True) (fun u => CB D ((fun u => [((b 0), .inr (6, (.int 0 :: .ref (b 16) :: .int 0 :: .ref (b 17) :: .int 0 :: .ref (b 18) :: .ref (b 19) :: .int 20 :: .ref (b 20) :: .ref (b 21) :: .int 0 :: .ref (b 22) :: .int 20 :: []))), ((b 22), .inl (Y 2, 400, .inl u))]) u) (va_A [((b 0), .inr (6, (.int 0 :: .ref (b 16) :: .int 0 :: .ref (b 17) :: .int 0 :: .ref (b 18) :: .ref (b 19) :: .int 20 :: .ref (b 20) :: .ref (b 21) :: .int 0 :: .ref (b 22) :: .int 16 :: []))), ((b 22), .inl (Y 2, 400, .inl f))] sz)) (va_A [((b 0), .inr (6, (.int 0 :: .ref (b 16) :: .int 0 :: .ref (b 17) :: .int 0 :: .ref (b 18) :: .ref (b 19) :: .int 20 :: .ref (b 20) :: .ref (b 21) :: .int 0 :: .ref (b 22) :: .int 16 :: []))), ((b 22), .inl (Y 2, 400, .inl f))] sz)) 0 0 (va_A [((b 0), .inr (6, (.int 0 :: .ref (b 16) :: .int 0 :: .ref (b 17) :: .int 0 :: .ref (b 18) :: .ref (b 19) :: .int 20 :: .ref (b 20) :: .ref (b 21) :: .int 0 :: .ref (b 22) :: .int 16 :: []))), ((b 22), .inl (Y 2, 400, .inl f))] sz) := by
  refine Met.ofW (cc := cX6_addBytes) (maxL := 3) (ret := none) (by decide) rfl ?_
  intro p e s m args below meth c s₁ B hml hv
  obtain ⟨rfl, hsz, hP, hKN, hD0⟩ := hv
  have hx := B.exec
  have hb := B.bytes
  have hr := B.returns
  have hts := atoms_spec (ws := .code yX6_addBytes cX6_addBytes 3 none :: GW) B.pre
  have hg : ∀ w ∈ GW, w.before _ s = true := fun w h => hts w (List.mem_cons_of_mem _ h)
  have hown : s.vm.findClass RX6 = some m.cls := findClass_of_methodNamed B.named
  have hlocks := B.notSynchronized
  subst hsz
  have hD := hD0.self (sz := s.heap.size)
  generalize hAe : va_A [((b 0), .inr (6, (.int 0 :: .ref (b 16) :: .int 0 :: .ref (b 17) :: .int 0 :: .ref (b 18) :: .ref (b 19) :: .int 20 :: .ref (b 20) :: .ref (b 21) :: .int 0 :: .ref (b 22) :: .int 16 :: []))), ((b 22), .inl (Y 2, 400, .inl f))] s.heap.size = A at hD ⊢
  have hA : ∀ q : Nat, s.heap.size ≤ q → A q := fun q h => by rw [← hAe]; exact Or.inr h
  have hl := lv_entry ([.ref (b 0), .int x]) (n := 3) (Nat.le_of_ble_eq_true rfl)
  rw [lg_entry_eq]
  generalize (lg_sl ([.ref (b 0), .int x]) ++ List.replicate (3 - (lg_sl ([.ref (b 0), .int x])).length) Slot.unset).toArray = ls at hl ⊢
  have hl : lv_has ls 3 [(0, .ref (b 0)), (1, .int x)] := hl
  refine w_start (A0 := A) hP (fun H locs hP hS => ?_)
  refine lv_bipush (v := 24) hx hb dX6_addBytes_0 (by decide) ?_
  refine lv_istore_n (lv' := [(2, .int 24), (0, .ref (b 0)), (1, .int x)]) hx hb dX6_addBytes_2 rfl hl (by decide) rfl (fun ls hl => ?_)
  refine lv_iload_n hx hb dX6_addBytes_3 rfl (lv_at hl 0 rfl) ?_
  refine lv_if_lt (tgt := 46) hx hb dX6_addBytes_4 (by decide) (fun c1 => ?_) (fun c1 => ?_)
  · exact absurd c1 (by decide)
  refine lv_aload_n hx hb dX6_addBytes_7 rfl (lv_at hl 1 rfl) ?_
  refine va_get (D := D) (ci := 6) (v := .int 16) (C := RX6) (T := TX6) (N := 13) hx hb hg inGX6 hown hKN.1 hP 0 rfl rfl 12 (by decide) (hg _ kw_67) (fun _ h9 => h9) rfl dX6_addBytes_8 ?_
  refine lv_sipush (v := 400) hx hb dX6_addBytes_11 (by decide) ?_
  refine lv_icmp_ge (tgt := 46) hx hb dX6_addBytes_14 (by decide) (fun c2 => ?_) (fun c2 => ?_)
  · exact absurd c2 (by decide)
  refine lv_aload_n hx hb dX6_addBytes_17 rfl (lv_at hl 1 rfl) ?_
  refine va_get (D := D) (ci := 6) (v := .ref (b 22)) (C := RX6) (T := TX6) (N := 13) hx hb hg inGX6 hown hKN.1 hP 0 rfl rfl 11 (by decide) (hg _ kw_65) (fun _ h9 => h9) rfl dX6_addBytes_18 ?_
  refine lv_aload_n hx hb dX6_addBytes_21 rfl (lv_at hl 1 rfl) ?_
  refine va_get (D := D) (ci := 6) (v := .int 16) (C := RX6) (T := TX6) (N := 13) hx hb hg inGX6 hown hKN.1 hP 0 rfl rfl 12 (by decide) (hg _ kw_67) (fun _ h9 => h9) rfl dX6_addBytes_22 ?_
  refine lv_iload_n hx hb dX6_addBytes_25 rfl (lv_at hl 2 rfl) ?_
  refine lv_iload_n hx hb dX6_addBytes_26 rfl (lv_at hl 0 rfl) ?_
  refine lv_iushr hx hb dX6_addBytes_27 rfl ?_
  refine lv_topi (fun v3 ev3 => ?_)
  refine lv_i2b (v := v3.toInt8.toInt32) hx hb dX6_addBytes_28 rfl ?_
  refine lv_topi (fun v5 ev5 => ?_)
  refine va_bast hx hb hKN.1 hP hD hS 1 2 rfl rfl (show ¬ ((16 : Int32) < 0 ∨ 400 ≤ (16 : Int32).toNatClampNeg) by decide) dX6_addBytes_29 (fun H locs hP hD hS => ?_)
  obtain ⟨f6, hP, hD⟩ : ∃ f6 : Nat → Int32, va_P D vwCl [((b 0), .inr (6, (.int 0 :: .ref (b 16) :: .int 0 :: .ref (b 17) :: .int 0 :: .ref (b 18) :: .ref (b 19) :: .int 20 :: .ref (b 20) :: .ref (b 21) :: .int 0 :: .ref (b 22) :: .int 16 :: []))), ((b 22), .inl (Y 2, 400, .inl f6))] H ∧ va_D A [((b 0), .inr (6, (.int 0 :: .ref (b 16) :: .int 0 :: .ref (b 17) :: .int 0 :: .ref (b 18) :: .ref (b 19) :: .int 20 :: .ref (b 20) :: .ref (b 21) :: .int 0 :: .ref (b 22) :: .int 16 :: []))), ((b 22), .inl (Y 2, 400, .inl f6))] := ⟨_, hP, hD⟩
  refine lv_aload_n hx hb dX6_addBytes_30 rfl (lv_at hl 1 rfl) ?_
  refine lv_dup hx hb dX6_addBytes_31 rfl ?_
  refine va_get (D := D) (ci := 6) (v := .int 16) (C := RX6) (T := TX6) (N := 13) hx hb hg inGX6 hown hKN.1 hP 0 rfl rfl 12 (by decide) (hg _ kw_67) (fun _ h9 => h9) rfl dX6_addBytes_32 ?_
  refine lv_iconst (v := 1) hx hb dX6_addBytes_35 (by decide) ?_
  refine lv_iadd hx hb dX6_addBytes_36 ?_
  refine lv_topi (fun z7 ez7 => ?_)
  obtain rfl : z7 = 17 := ez7.trans (by decide)
  refine va_put (D := D) (ci := 6) (v := .int 17) (ty := .int) (C := RX6) (T := TX6) (N := 13) hx hb hg inGX6 tyX6 tyX6_ok nmX6 hown hKN.1 hP hD hS 0 rfl rfl 12 (by decide) (hg _ kw_67) (fun _ h9 => h9) rfl (by decide +kernel) rfl rfl (Nat.le_of_ble_eq_true rfl) dX6_addBytes_37 (fun H locs hP hD hS => ?_)
  have hP : va_P D vwCl [((b 0), .inr (6, (.int 0 :: .ref (b 16) :: .int 0 :: .ref (b 17) :: .int 0 :: .ref (b 18) :: .ref (b 19) :: .int 20 :: .ref (b 20) :: .ref (b 21) :: .int 0 :: .ref (b 22) :: .int 17 :: []))), ((b 22), .inl (Y 2, 400, .inl f6))] H := hP
  have hD : va_D A [((b 0), .inr (6, (.int 0 :: .ref (b 16) :: .int 0 :: .ref (b 17) :: .int 0 :: .ref (b 18) :: .ref (b 19) :: .int 20 :: .ref (b 20) :: .ref (b 21) :: .int 0 :: .ref (b 22) :: .int 17 :: []))), ((b 22), .inl (Y 2, 400, .inl f6))] := hD
  refine lv_iinc (v := 16) (lv' := [(2, .int 16), (0, .ref (b 0)), (1, .int x)]) hx hb dX6_addBytes_40 hl (k := 0) rfl (by decide) (by decide) rfl (fun ls hl => ?_)
  refine lv_goto (tgt := 3) hx hb dX6_addBytes_43 (by decide) ?_
  refine lv_iload_n hx hb dX6_addBytes_3 rfl (lv_at hl 0 rfl) ?_
  refine lv_if_lt (tgt := 46) hx hb dX6_addBytes_4 (by decide) (fun c8 => ?_) (fun c8 => ?_)
  · exact absurd c8 (by decide)
  refine lv_aload_n hx hb dX6_addBytes_7 rfl (lv_at hl 1 rfl) ?_
  refine va_get (D := D) (ci := 6) (v := .int 17) (C := RX6) (T := TX6) (N := 13) hx hb hg inGX6 hown hKN.1 hP 0 rfl rfl 12 (by decide) (hg _ kw_67) (fun _ h9 => h9) rfl dX6_addBytes_8 ?_
  refine lv_sipush (v := 400) hx hb dX6_addBytes_11 (by decide) ?_
  refine lv_icmp_ge (tgt := 46) hx hb dX6_addBytes_14 (by decide) (fun c9 => ?_) (fun c9 => ?_)
  · exact absurd c9 (by decide)
  refine lv_aload_n hx hb dX6_addBytes_17 rfl (lv_at hl 1 rfl) ?_
  refine va_get (D := D) (ci := 6) (v := .ref (b 22)) (C := RX6) (T := TX6) (N := 13) hx hb hg inGX6 hown hKN.1 hP 0 rfl rfl 11 (by decide) (hg _ kw_65) (fun _ h9 => h9) rfl dX6_addBytes_18 ?_
  refine lv_aload_n hx hb dX6_addBytes_21 rfl (lv_at hl 1 rfl) ?_
  refine va_get (D := D) (ci := 6) (v := .int 17) (C := RX6) (T := TX6) (N := 13) hx hb hg inGX6 hown hKN.1 hP 0 rfl rfl 12 (by decide) (hg _ kw_67) (fun _ h9 => h9) rfl dX6_addBytes_22 ?_
  refine lv_iload_n hx hb dX6_addBytes_25 rfl (lv_at hl 2 rfl) ?_
  refine lv_iload_n hx hb dX6_addBytes_26 rfl (lv_at hl 0 rfl) ?_
  refine lv_iushr hx hb dX6_addBytes_27 rfl ?_
  refine lv_topi (fun v10 ev10 => ?_)
  refine lv_i2b (v := v10.toInt8.toInt32) hx hb dX6_addBytes_28 rfl ?_
  refine lv_topi (fun v12 ev12 => ?_)
  refine va_bast hx hb hKN.1 hP hD hS 1 2 rfl rfl (show ¬ ((17 : Int32) < 0 ∨ 400 ≤ (17 : Int32).toNatClampNeg) by decide) dX6_addBytes_29 (fun H locs hP hD hS => ?_)
  obtain ⟨f13, hP, hD⟩ : ∃ f13 : Nat → Int32, va_P D vwCl [((b 0), .inr (6, (.int 0 :: .ref (b 16) :: .int 0 :: .ref (b 17) :: .int 0 :: .ref (b 18) :: .ref (b 19) :: .int 20 :: .ref (b 20) :: .ref (b 21) :: .int 0 :: .ref (b 22) :: .int 17 :: []))), ((b 22), .inl (Y 2, 400, .inl f13))] H ∧ va_D A [((b 0), .inr (6, (.int 0 :: .ref (b 16) :: .int 0 :: .ref (b 17) :: .int 0 :: .ref (b 18) :: .ref (b 19) :: .int 20 :: .ref (b 20) :: .ref (b 21) :: .int 0 :: .ref (b 22) :: .int 17 :: []))), ((b 22), .inl (Y 2, 400, .inl f13))] := ⟨_, hP, hD⟩
  refine lv_aload_n hx hb dX6_addBytes_30 rfl (lv_at hl 1 rfl) ?_
  refine lv_dup hx hb dX6_addBytes_31 rfl ?_
  refine va_get (D := D) (ci := 6) (v := .int 17) (C := RX6) (T := TX6) (N := 13) hx hb hg inGX6 hown hKN.1 hP 0 rfl rfl 12 (by decide) (hg _ kw_67) (fun _ h9 => h9) rfl dX6_addBytes_32 ?_
  refine lv_iconst (v := 1) hx hb dX6_addBytes_35 (by decide) ?_
  refine lv_iadd hx hb dX6_addBytes_36 ?_
  refine lv_topi (fun z14 ez14 => ?_)
  obtain rfl : z14 = 18 := ez14.trans (by decide)
  refine va_put (D := D) (ci := 6) (v := .int 18) (ty := .int) (C := RX6) (T := TX6) (N := 13) hx hb hg inGX6 tyX6 tyX6_ok nmX6 hown hKN.1 hP hD hS 0 rfl rfl 12 (by decide) (hg _ kw_67) (fun _ h9 => h9) rfl (by decide +kernel) rfl rfl (Nat.le_of_ble_eq_true rfl) dX6_addBytes_37 (fun H locs hP hD hS => ?_)
  have hP : va_P D vwCl [((b 0), .inr (6, (.int 0 :: .ref (b 16) :: .int 0 :: .ref (b 17) :: .int 0 :: .ref (b 18) :: .ref (b 19) :: .int 20 :: .ref (b 20) :: .ref (b 21) :: .int 0 :: .ref (b 22) :: .int 18 :: []))), ((b 22), .inl (Y 2, 400, .inl f13))] H := hP
  have hD : va_D A [((b 0), .inr (6, (.int 0 :: .ref (b 16) :: .int 0 :: .ref (b 17) :: .int 0 :: .ref (b 18) :: .ref (b 19) :: .int 20 :: .ref (b 20) :: .ref (b 21) :: .int 0 :: .ref (b 22) :: .int 18 :: []))), ((b 22), .inl (Y 2, 400, .inl f13))] := hD
  refine lv_iinc (v := 8) (lv' := [(2, .int 8), (0, .ref (b 0)), (1, .int x)]) hx hb dX6_addBytes_40 hl (k := 0) rfl (by decide) (by decide) rfl (fun ls hl => ?_)
  refine lv_goto (tgt := 3) hx hb dX6_addBytes_43 (by decide) ?_
  refine lv_iload_n hx hb dX6_addBytes_3 rfl (lv_at hl 0 rfl) ?_
  refine lv_if_lt (tgt := 46) hx hb dX6_addBytes_4 (by decide) (fun c15 => ?_) (fun c15 => ?_)
  · exact absurd c15 (by decide)
  refine lv_aload_n hx hb dX6_addBytes_7 rfl (lv_at hl 1 rfl) ?_
  refine va_get (D := D) (ci := 6) (v := .int 18) (C := RX6) (T := TX6) (N := 13) hx hb hg inGX6 hown hKN.1 hP 0 rfl rfl 12 (by decide) (hg _ kw_67) (fun _ h9 => h9) rfl dX6_addBytes_8 ?_
  refine lv_sipush (v := 400) hx hb dX6_addBytes_11 (by decide) ?_
  refine lv_icmp_ge (tgt := 46) hx hb dX6_addBytes_14 (by decide) (fun c16 => ?_) (fun c16 => ?_)
  · exact absurd c16 (by decide)
  refine lv_aload_n hx hb dX6_addBytes_17 rfl (lv_at hl 1 rfl) ?_
  refine va_get (D := D) (ci := 6) (v := .ref (b 22)) (C := RX6) (T := TX6) (N := 13) hx hb hg inGX6 hown hKN.1 hP 0 rfl rfl 11 (by decide) (hg _ kw_65) (fun _ h9 => h9) rfl dX6_addBytes_18 ?_
  refine lv_aload_n hx hb dX6_addBytes_21 rfl (lv_at hl 1 rfl) ?_
  refine va_get (D := D) (ci := 6) (v := .int 18) (C := RX6) (T := TX6) (N := 13) hx hb hg inGX6 hown hKN.1 hP 0 rfl rfl 12 (by decide) (hg _ kw_67) (fun _ h9 => h9) rfl dX6_addBytes_22 ?_
  refine lv_iload_n hx hb dX6_addBytes_25 rfl (lv_at hl 2 rfl) ?_
  refine lv_iload_n hx hb dX6_addBytes_26 rfl (lv_at hl 0 rfl) ?_
  refine lv_iushr hx hb dX6_addBytes_27 rfl ?_
  refine lv_topi (fun v17 ev17 => ?_)
  refine lv_i2b (v := v17.toInt8.toInt32) hx hb dX6_addBytes_28 rfl ?_
  refine lv_topi (fun v19 ev19 => ?_)
  refine va_bast hx hb hKN.1 hP hD hS 1 2 rfl rfl (show ¬ ((18 : Int32) < 0 ∨ 400 ≤ (18 : Int32).toNatClampNeg) by decide) dX6_addBytes_29 (fun H locs hP hD hS => ?_)
  obtain ⟨f20, hP, hD⟩ : ∃ f20 : Nat → Int32, va_P D vwCl [((b 0), .inr (6, (.int 0 :: .ref (b 16) :: .int 0 :: .ref (b 17) :: .int 0 :: .ref (b 18) :: .ref (b 19) :: .int 20 :: .ref (b 20) :: .ref (b 21) :: .int 0 :: .ref (b 22) :: .int 18 :: []))), ((b 22), .inl (Y 2, 400, .inl f20))] H ∧ va_D A [((b 0), .inr (6, (.int 0 :: .ref (b 16) :: .int 0 :: .ref (b 17) :: .int 0 :: .ref (b 18) :: .ref (b 19) :: .int 20 :: .ref (b 20) :: .ref (b 21) :: .int 0 :: .ref (b 22) :: .int 18 :: []))), ((b 22), .inl (Y 2, 400, .inl f20))] := ⟨_, hP, hD⟩
  refine lv_aload_n hx hb dX6_addBytes_30 rfl (lv_at hl 1 rfl) ?_
  refine lv_dup hx hb dX6_addBytes_31 rfl ?_
  refine va_get (D := D) (ci := 6) (v := .int 18) (C := RX6) (T := TX6) (N := 13) hx hb hg inGX6 hown hKN.1 hP 0 rfl rfl 12 (by decide) (hg _ kw_67) (fun _ h9 => h9) rfl dX6_addBytes_32 ?_
  refine lv_iconst (v := 1) hx hb dX6_addBytes_35 (by decide) ?_
  refine lv_iadd hx hb dX6_addBytes_36 ?_
  refine lv_topi (fun z21 ez21 => ?_)
  obtain rfl : z21 = 19 := ez21.trans (by decide)
  refine va_put (D := D) (ci := 6) (v := .int 19) (ty := .int) (C := RX6) (T := TX6) (N := 13) hx hb hg inGX6 tyX6 tyX6_ok nmX6 hown hKN.1 hP hD hS 0 rfl rfl 12 (by decide) (hg _ kw_67) (fun _ h9 => h9) rfl (by decide +kernel) rfl rfl (Nat.le_of_ble_eq_true rfl) dX6_addBytes_37 (fun H locs hP hD hS => ?_)
  have hP : va_P D vwCl [((b 0), .inr (6, (.int 0 :: .ref (b 16) :: .int 0 :: .ref (b 17) :: .int 0 :: .ref (b 18) :: .ref (b 19) :: .int 20 :: .ref (b 20) :: .ref (b 21) :: .int 0 :: .ref (b 22) :: .int 19 :: []))), ((b 22), .inl (Y 2, 400, .inl f20))] H := hP
  have hD : va_D A [((b 0), .inr (6, (.int 0 :: .ref (b 16) :: .int 0 :: .ref (b 17) :: .int 0 :: .ref (b 18) :: .ref (b 19) :: .int 20 :: .ref (b 20) :: .ref (b 21) :: .int 0 :: .ref (b 22) :: .int 19 :: []))), ((b 22), .inl (Y 2, 400, .inl f20))] := hD
  refine lv_iinc (v := 0) (lv' := [(2, .int 0), (0, .ref (b 0)), (1, .int x)]) hx hb dX6_addBytes_40 hl (k := 0) rfl (by decide) (by decide) rfl (fun ls hl => ?_)
  refine lv_goto (tgt := 3) hx hb dX6_addBytes_43 (by decide) ?_
  refine lv_iload_n hx hb dX6_addBytes_3 rfl (lv_at hl 0 rfl) ?_
  refine lv_if_lt (tgt := 46) hx hb dX6_addBytes_4 (by decide) (fun c22 => ?_) (fun c22 => ?_)
  · exact absurd c22 (by decide)
  refine lv_aload_n hx hb dX6_addBytes_7 rfl (lv_at hl 1 rfl) ?_
  refine va_get (D := D) (ci := 6) (v := .int 19) (C := RX6) (T := TX6) (N := 13) hx hb hg inGX6 hown hKN.1 hP 0 rfl rfl 12 (by decide) (hg _ kw_67) (fun _ h9 => h9) rfl dX6_addBytes_8 ?_
  refine lv_sipush (v := 400) hx hb dX6_addBytes_11 (by decide) ?_
  refine lv_icmp_ge (tgt := 46) hx hb dX6_addBytes_14 (by decide) (fun c23 => ?_) (fun c23 => ?_)
  · exact absurd c23 (by decide)
  refine lv_aload_n hx hb dX6_addBytes_17 rfl (lv_at hl 1 rfl) ?_
  refine va_get (D := D) (ci := 6) (v := .ref (b 22)) (C := RX6) (T := TX6) (N := 13) hx hb hg inGX6 hown hKN.1 hP 0 rfl rfl 11 (by decide) (hg _ kw_65) (fun _ h9 => h9) rfl dX6_addBytes_18 ?_
  refine lv_aload_n hx hb dX6_addBytes_21 rfl (lv_at hl 1 rfl) ?_
  refine va_get (D := D) (ci := 6) (v := .int 19) (C := RX6) (T := TX6) (N := 13) hx hb hg inGX6 hown hKN.1 hP 0 rfl rfl 12 (by decide) (hg _ kw_67) (fun _ h9 => h9) rfl dX6_addBytes_22 ?_
  refine lv_iload_n hx hb dX6_addBytes_25 rfl (lv_at hl 2 rfl) ?_
  refine lv_iload_n hx hb dX6_addBytes_26 rfl (lv_at hl 0 rfl) ?_
  refine lv_iushr hx hb dX6_addBytes_27 rfl ?_
  refine lv_topi (fun v24 ev24 => ?_)
  refine lv_i2b (v := v24.toInt8.toInt32) hx hb dX6_addBytes_28 rfl ?_
  refine lv_topi (fun v26 ev26 => ?_)
  refine va_bast hx hb hKN.1 hP hD hS 1 2 rfl rfl (show ¬ ((19 : Int32) < 0 ∨ 400 ≤ (19 : Int32).toNatClampNeg) by decide) dX6_addBytes_29 (fun H locs hP hD hS => ?_)
  obtain ⟨f27, hP, hD⟩ : ∃ f27 : Nat → Int32, va_P D vwCl [((b 0), .inr (6, (.int 0 :: .ref (b 16) :: .int 0 :: .ref (b 17) :: .int 0 :: .ref (b 18) :: .ref (b 19) :: .int 20 :: .ref (b 20) :: .ref (b 21) :: .int 0 :: .ref (b 22) :: .int 19 :: []))), ((b 22), .inl (Y 2, 400, .inl f27))] H ∧ va_D A [((b 0), .inr (6, (.int 0 :: .ref (b 16) :: .int 0 :: .ref (b 17) :: .int 0 :: .ref (b 18) :: .ref (b 19) :: .int 20 :: .ref (b 20) :: .ref (b 21) :: .int 0 :: .ref (b 22) :: .int 19 :: []))), ((b 22), .inl (Y 2, 400, .inl f27))] := ⟨_, hP, hD⟩
  refine lv_aload_n hx hb dX6_addBytes_30 rfl (lv_at hl 1 rfl) ?_
  refine lv_dup hx hb dX6_addBytes_31 rfl ?_
  refine va_get (D := D) (ci := 6) (v := .int 19) (C := RX6) (T := TX6) (N := 13) hx hb hg inGX6 hown hKN.1 hP 0 rfl rfl 12 (by decide) (hg _ kw_67) (fun _ h9 => h9) rfl dX6_addBytes_32 ?_
  refine lv_iconst (v := 1) hx hb dX6_addBytes_35 (by decide) ?_
  refine lv_iadd hx hb dX6_addBytes_36 ?_
  refine lv_topi (fun z28 ez28 => ?_)
  obtain rfl : z28 = 20 := ez28.trans (by decide)
  refine va_put (D := D) (ci := 6) (v := .int 20) (ty := .int) (C := RX6) (T := TX6) (N := 13) hx hb hg inGX6 tyX6 tyX6_ok nmX6 hown hKN.1 hP hD hS 0 rfl rfl 12 (by decide) (hg _ kw_67) (fun _ h9 => h9) rfl (by decide +kernel) rfl rfl (Nat.le_of_ble_eq_true rfl) dX6_addBytes_37 (fun H locs hP hD hS => ?_)
  have hP : va_P D vwCl [((b 0), .inr (6, (.int 0 :: .ref (b 16) :: .int 0 :: .ref (b 17) :: .int 0 :: .ref (b 18) :: .ref (b 19) :: .int 20 :: .ref (b 20) :: .ref (b 21) :: .int 0 :: .ref (b 22) :: .int 20 :: []))), ((b 22), .inl (Y 2, 400, .inl f27))] H := hP
  have hD : va_D A [((b 0), .inr (6, (.int 0 :: .ref (b 16) :: .int 0 :: .ref (b 17) :: .int 0 :: .ref (b 18) :: .ref (b 19) :: .int 20 :: .ref (b 20) :: .ref (b 21) :: .int 0 :: .ref (b 22) :: .int 20 :: []))), ((b 22), .inl (Y 2, 400, .inl f27))] := hD
  refine lv_iinc (v := (-8)) (lv' := [(2, .int (-8)), (0, .ref (b 0)), (1, .int x)]) hx hb dX6_addBytes_40 hl (k := 0) rfl (by decide) (by decide) rfl (fun ls hl => ?_)
  refine lv_goto (tgt := 3) hx hb dX6_addBytes_43 (by decide) ?_
  refine lv_iload_n hx hb dX6_addBytes_3 rfl (lv_at hl 0 rfl) ?_
  refine lv_if_lt (tgt := 46) hx hb dX6_addBytes_4 (by decide) (fun c29 => ?_) (fun c29 => ?_)
  rotate_left
  · exact absurd c29 (by decide)
  refine W.widen (k := 0) (n := 0) (Nat.le_of_ble_eq_true rfl) (Nat.le_of_ble_eq_true rfl) ?_
  exact W.vret hx hb hr (fun t ht hW => ⟨⟨f27, rfl, trivial, CB.mk ht (hP.sub [0, 1] rfl) (hD.sub [0, 1] (by decide) rfl)⟩, hS.F ht⟩) hS.2.2 dX6_addBytes_46
set_option maxHeartbeats 4000000 in
set_option maxRecDepth 100000 in
theorem m_four0 (l : Launch) (D : va_G) (Y : Nat → ClassId) (Z : Nat → Nat) (sz : Nat) (o : Nat) (a : Nat → Nat) (x : Int32) (f : Nat → Int32) : Met l yX11_four (.code yX11_four cX11_four 3 none :: GW) ({ frames := 0, cells := 0, slots := 0, locals := 0 }) (va_Pc [.ref o, .int x] (CP D Y Z [(o, .inr (11, (.ref (a 0) :: .ref (a 1) :: .ref (a 2) :: .int 0 :: .ref (a 3) :: .ref (a 4) :: .ref (a 5) :: .ref (a 6) :: .ref (a 7) :: .ref (a 8) :: .ref (a 9) :: .ref (a 10) :: .ref (a 11) :: .ref (a 12) :: .ref (a 13) :: .ref (a 14) :: .int 0 :: .int 0 :: .int 0 :: .int 0 :: .int 0 :: .int 0 :: .int 0 :: .ref (a 15) :: .int 0 :: .ref (a 16) :: .int 0 :: .ref (a 17) :: .ref (a 18) :: .int 0 :: .long 0 :: .long 0 :: .int 0 :: .long 0 :: .int 0 :: .int 0 :: .int 0 :: .long 0 :: .long 0 :: .int 0 :: .ref (a 19) :: .ref (a 20) :: .ref (a 21) :: .ref (a 22) :: .ref (a 23) :: .ref (a 24) :: .ref (a 25) :: .ref (a 26) :: .ref (a 27) :: []))), ((a 2), .inl (Y 2, 400, .inl f))] sz)) (QG (S := (Nat → Int32)) (fun _ => none) (fun _ => True) (fun u => CB D ((fun u => [(o, .inr (11, (.ref (a 0) :: .ref (a 1) :: .ref (a 2) :: .int 4 :: .ref (a 3) :: .ref (a 4) :: .ref (a 5) :: .ref (a 6) :: .ref (a 7) :: .ref (a 8) :: .ref (a 9) :: .ref (a 10) :: .ref (a 11) :: .ref (a 12) :: .ref (a 13) :: .ref (a 14) :: .int 0 :: .int 0 :: .int 0 :: .int 0 :: .int 0 :: .int 0 :: .int 0 :: .ref (a 15) :: .int 0 :: .ref (a 16) :: .int 0 :: .ref (a 17) :: .ref (a 18) :: .int 0 :: .long 0 :: .long 0 :: .int 0 :: .long 0 :: .int 0 :: .int 0 :: .int 0 :: .long 0 :: .long 0 :: .int 0 :: .ref (a 19) :: .ref (a 20) :: .ref (a 21) :: .ref (a 22) :: .ref (a 23) :: .ref (a 24) :: .ref (a 25) :: .ref (a 26) :: .ref (a 27) :: []))), ((a 2), .inl (Y 2, 400, .inl u))]) u) (va_A [(o, .inr (11, (.ref (a 0) :: .ref (a 1) :: .ref (a 2) :: .int 0 :: .ref (a 3) :: .ref (a 4) :: .ref (a 5) :: .ref (a 6) :: .ref (a 7) :: .ref (a 8) :: .ref (a 9) :: .ref (a 10) :: .ref (a 11) :: .ref (a 12) :: .ref (a 13) :: .ref (a 14) :: .int 0 :: .int 0 :: .int 0 :: .int 0 :: .int 0 :: .int 0 :: .int 0 :: .ref (a 15) :: .int 0 :: .ref (a 16) :: .int 0 :: .ref (a 17) :: .ref (a 18) :: .int 0 :: .long 0 :: .long 0 :: .int 0 :: .long 0 :: .int 0 :: .int 0 :: .int 0 :: .long 0 :: .long 0 :: .int 0 :: .ref (a 19) :: .ref (a 20) :: .ref (a 21) :: .ref (a 22) :: .ref (a 23) :: .ref (a 24) :: .ref (a 25) :: .ref (a 26) :: .ref (a 27) :: []))), ((a 2), .inl (Y 2, 400, .inl f))] sz)) (va_A [(o, .inr (11, (.ref (a 0) :: .ref (a 1) :: .ref (a 2) :: .int 0 :: .ref (a 3) :: .ref (a 4) :: .ref (a 5) :: .ref (a 6) :: .ref (a 7) :: .ref (a 8) :: .ref (a 9) :: .ref (a 10) :: .ref (a 11) :: .ref (a 12) :: .ref (a 13) :: .ref (a 14) :: .int 0 :: .int 0 :: .int 0 :: .int 0 :: .int 0 :: .int 0 :: .int 0 :: .ref (a 15) :: .int 0 :: .ref (a 16) :: .int 0 :: .ref (a 17) :: .ref (a 18) :: .int 0 :: .long 0 :: .long 0 :: .int 0 :: .long 0 :: .int 0 :: .int 0 :: .int 0 :: .long 0 :: .long 0 :: .int 0 :: .ref (a 19) :: .ref (a 20) :: .ref (a 21) :: .ref (a 22) :: .ref (a 23) :: .ref (a 24) :: .ref (a 25) :: .ref (a 26) :: .ref (a 27) :: []))), ((a 2), .inl (Y 2, 400, .inl f))] sz)) 0 0 (va_A [(o, .inr (11, (.ref (a 0) :: .ref (a 1) :: .ref (a 2) :: .int 0 :: .ref (a 3) :: .ref (a 4) :: .ref (a 5) :: .ref (a 6) :: .ref (a 7) :: .ref (a 8) :: .ref (a 9) :: .ref (a 10) :: .ref (a 11) :: .ref (a 12) :: .ref (a 13) :: .ref (a 14) :: .int 0 :: .int 0 :: .int 0 :: .int 0 :: .int 0 :: .int 0 :: .int 0 :: .ref (a 15) :: .int 0 :: .ref (a 16) :: .int 0 :: .ref (a 17) :: .ref (a 18) :: .int 0 :: .long 0 :: .long 0 :: .int 0 :: .long 0 :: .int 0 :: .int 0 :: .int 0 :: .long 0 :: .long 0 :: .int 0 :: .ref (a 19) :: .ref (a 20) :: .ref (a 21) :: .ref (a 22) :: .ref (a 23) :: .ref (a 24) :: .ref (a 25) :: .ref (a 26) :: .ref (a 27) :: []))), ((a 2), .inl (Y 2, 400, .inl f))] sz) := by
  refine Met.ofW (cc := cX11_four) (maxL := 3) (ret := none) (by decide) rfl ?_
  intro p e s m args below meth c s₁ B hml hv
  obtain ⟨rfl, hsz, hP, hKN, hD0⟩ := hv
  have hx := B.exec
  have hb := B.bytes
  have hr := B.returns
  have hts := atoms_spec (ws := .code yX11_four cX11_four 3 none :: GW) B.pre
  have hg : ∀ w ∈ GW, w.before _ s = true := fun w h => hts w (List.mem_cons_of_mem _ h)
  have hown : s.vm.findClass RX11 = some m.cls := findClass_of_methodNamed B.named
  have hlocks := B.notSynchronized
  subst hsz
  have hD := hD0.self (sz := s.heap.size)
  generalize hAe : va_A [(o, .inr (11, (.ref (a 0) :: .ref (a 1) :: .ref (a 2) :: .int 0 :: .ref (a 3) :: .ref (a 4) :: .ref (a 5) :: .ref (a 6) :: .ref (a 7) :: .ref (a 8) :: .ref (a 9) :: .ref (a 10) :: .ref (a 11) :: .ref (a 12) :: .ref (a 13) :: .ref (a 14) :: .int 0 :: .int 0 :: .int 0 :: .int 0 :: .int 0 :: .int 0 :: .int 0 :: .ref (a 15) :: .int 0 :: .ref (a 16) :: .int 0 :: .ref (a 17) :: .ref (a 18) :: .int 0 :: .long 0 :: .long 0 :: .int 0 :: .long 0 :: .int 0 :: .int 0 :: .int 0 :: .long 0 :: .long 0 :: .int 0 :: .ref (a 19) :: .ref (a 20) :: .ref (a 21) :: .ref (a 22) :: .ref (a 23) :: .ref (a 24) :: .ref (a 25) :: .ref (a 26) :: .ref (a 27) :: []))), ((a 2), .inl (Y 2, 400, .inl f))] s.heap.size = A at hD ⊢
  have hA : ∀ q : Nat, s.heap.size ≤ q → A q := fun q h => by rw [← hAe]; exact Or.inr h
  have hl := lv_entry ([.ref o, .int x]) (n := 3) (Nat.le_of_ble_eq_true rfl)
  rw [lg_entry_eq]
  generalize (lg_sl ([.ref o, .int x]) ++ List.replicate (3 - (lg_sl ([.ref o, .int x])).length) Slot.unset).toArray = ls at hl ⊢
  have hl : lv_has ls 3 [(0, .ref o), (1, .int x)] := hl
  refine w_start (A0 := A) hP (fun H locs hP hS => ?_)
  refine lv_bipush (v := 24) hx hb dX11_four_0 (by decide) ?_
  refine lv_istore_n (lv' := [(2, .int 24), (0, .ref o), (1, .int x)]) hx hb dX11_four_2 rfl hl (by decide) rfl (fun ls hl => ?_)
  refine lv_iload_n hx hb dX11_four_3 rfl (lv_at hl 0 rfl) ?_
  refine lv_if_lt (tgt := 36) hx hb dX11_four_4 (by decide) (fun c1 => ?_) (fun c1 => ?_)
  · exact absurd c1 (by decide)
  refine lv_aload_n hx hb dX11_four_7 rfl (lv_at hl 1 rfl) ?_
  refine va_get (D := D) (ci := 11) (v := .ref (a 2)) (C := RX11) (T := TX11) (N := 49) hx hb hg inGX11 hown hKN.1 hP 0 rfl rfl 2 (by decide) (hg _ kw_1210) (fun _ h9 => h9) rfl dX11_four_8 ?_
  refine lv_aload_n hx hb dX11_four_11 rfl (lv_at hl 1 rfl) ?_
  refine va_get (D := D) (ci := 11) (v := .int 0) (C := RX11) (T := TX11) (N := 49) hx hb hg inGX11 hown hKN.1 hP 0 rfl rfl 3 (by decide) (hg _ kw_1211) (fun _ h9 => h9) rfl dX11_four_12 ?_
  refine lv_iload_n hx hb dX11_four_15 rfl (lv_at hl 2 rfl) ?_
  refine lv_iload_n hx hb dX11_four_16 rfl (lv_at hl 0 rfl) ?_
  refine lv_ishr hx hb dX11_four_17 ?_
  refine lv_topi (fun v2 ev2 => ?_)
  refine lv_i2b (v := v2.toInt8.toInt32) hx hb dX11_four_18 rfl ?_
  refine lv_topi (fun v4 ev4 => ?_)
  refine va_bast hx hb hKN.1 hP hD hS 1 2 rfl rfl (show ¬ ((0 : Int32) < 0 ∨ 400 ≤ (0 : Int32).toNatClampNeg) by decide) dX11_four_19 (fun H locs hP hD hS => ?_)
  obtain ⟨f5, hP, hD⟩ : ∃ f5 : Nat → Int32, va_P D vwCl [(o, .inr (11, (.ref (a 0) :: .ref (a 1) :: .ref (a 2) :: .int 0 :: .ref (a 3) :: .ref (a 4) :: .ref (a 5) :: .ref (a 6) :: .ref (a 7) :: .ref (a 8) :: .ref (a 9) :: .ref (a 10) :: .ref (a 11) :: .ref (a 12) :: .ref (a 13) :: .ref (a 14) :: .int 0 :: .int 0 :: .int 0 :: .int 0 :: .int 0 :: .int 0 :: .int 0 :: .ref (a 15) :: .int 0 :: .ref (a 16) :: .int 0 :: .ref (a 17) :: .ref (a 18) :: .int 0 :: .long 0 :: .long 0 :: .int 0 :: .long 0 :: .int 0 :: .int 0 :: .int 0 :: .long 0 :: .long 0 :: .int 0 :: .ref (a 19) :: .ref (a 20) :: .ref (a 21) :: .ref (a 22) :: .ref (a 23) :: .ref (a 24) :: .ref (a 25) :: .ref (a 26) :: .ref (a 27) :: []))), ((a 2), .inl (Y 2, 400, .inl f5))] H ∧ va_D A [(o, .inr (11, (.ref (a 0) :: .ref (a 1) :: .ref (a 2) :: .int 0 :: .ref (a 3) :: .ref (a 4) :: .ref (a 5) :: .ref (a 6) :: .ref (a 7) :: .ref (a 8) :: .ref (a 9) :: .ref (a 10) :: .ref (a 11) :: .ref (a 12) :: .ref (a 13) :: .ref (a 14) :: .int 0 :: .int 0 :: .int 0 :: .int 0 :: .int 0 :: .int 0 :: .int 0 :: .ref (a 15) :: .int 0 :: .ref (a 16) :: .int 0 :: .ref (a 17) :: .ref (a 18) :: .int 0 :: .long 0 :: .long 0 :: .int 0 :: .long 0 :: .int 0 :: .int 0 :: .int 0 :: .long 0 :: .long 0 :: .int 0 :: .ref (a 19) :: .ref (a 20) :: .ref (a 21) :: .ref (a 22) :: .ref (a 23) :: .ref (a 24) :: .ref (a 25) :: .ref (a 26) :: .ref (a 27) :: []))), ((a 2), .inl (Y 2, 400, .inl f5))] := ⟨_, hP, hD⟩
  refine lv_aload_n hx hb dX11_four_20 rfl (lv_at hl 1 rfl) ?_
  refine lv_dup hx hb dX11_four_21 rfl ?_
  refine va_get (D := D) (ci := 11) (v := .int 0) (C := RX11) (T := TX11) (N := 49) hx hb hg inGX11 hown hKN.1 hP 0 rfl rfl 3 (by decide) (hg _ kw_1211) (fun _ h9 => h9) rfl dX11_four_22 ?_
  refine lv_iconst (v := 1) hx hb dX11_four_25 (by decide) ?_
  refine lv_iadd hx hb dX11_four_26 ?_
  refine lv_topi (fun z6 ez6 => ?_)
  obtain rfl : z6 = 1 := ez6.trans (by decide)
  refine va_put (D := D) (ci := 11) (v := .int 1) (ty := .int) (C := RX11) (T := TX11) (N := 49) hx hb hg inGX11 tyX11 tyX11_ok nmX11 hown hKN.1 hP hD hS 0 rfl rfl 3 (by decide) (hg _ kw_1211) (fun _ h9 => h9) rfl (by decide +kernel) rfl rfl (Nat.le_of_ble_eq_true rfl) dX11_four_27 (fun H locs hP hD hS => ?_)
  have hP : va_P D vwCl [(o, .inr (11, (.ref (a 0) :: .ref (a 1) :: .ref (a 2) :: .int 1 :: .ref (a 3) :: .ref (a 4) :: .ref (a 5) :: .ref (a 6) :: .ref (a 7) :: .ref (a 8) :: .ref (a 9) :: .ref (a 10) :: .ref (a 11) :: .ref (a 12) :: .ref (a 13) :: .ref (a 14) :: .int 0 :: .int 0 :: .int 0 :: .int 0 :: .int 0 :: .int 0 :: .int 0 :: .ref (a 15) :: .int 0 :: .ref (a 16) :: .int 0 :: .ref (a 17) :: .ref (a 18) :: .int 0 :: .long 0 :: .long 0 :: .int 0 :: .long 0 :: .int 0 :: .int 0 :: .int 0 :: .long 0 :: .long 0 :: .int 0 :: .ref (a 19) :: .ref (a 20) :: .ref (a 21) :: .ref (a 22) :: .ref (a 23) :: .ref (a 24) :: .ref (a 25) :: .ref (a 26) :: .ref (a 27) :: []))), ((a 2), .inl (Y 2, 400, .inl f5))] H := hP
  have hD : va_D A [(o, .inr (11, (.ref (a 0) :: .ref (a 1) :: .ref (a 2) :: .int 1 :: .ref (a 3) :: .ref (a 4) :: .ref (a 5) :: .ref (a 6) :: .ref (a 7) :: .ref (a 8) :: .ref (a 9) :: .ref (a 10) :: .ref (a 11) :: .ref (a 12) :: .ref (a 13) :: .ref (a 14) :: .int 0 :: .int 0 :: .int 0 :: .int 0 :: .int 0 :: .int 0 :: .int 0 :: .ref (a 15) :: .int 0 :: .ref (a 16) :: .int 0 :: .ref (a 17) :: .ref (a 18) :: .int 0 :: .long 0 :: .long 0 :: .int 0 :: .long 0 :: .int 0 :: .int 0 :: .int 0 :: .long 0 :: .long 0 :: .int 0 :: .ref (a 19) :: .ref (a 20) :: .ref (a 21) :: .ref (a 22) :: .ref (a 23) :: .ref (a 24) :: .ref (a 25) :: .ref (a 26) :: .ref (a 27) :: []))), ((a 2), .inl (Y 2, 400, .inl f5))] := hD
  refine lv_iinc (v := 16) (lv' := [(2, .int 16), (0, .ref o), (1, .int x)]) hx hb dX11_four_30 hl (k := 0) rfl (by decide) (by decide) rfl (fun ls hl => ?_)
  refine lv_goto (tgt := 3) hx hb dX11_four_33 (by decide) ?_
  refine lv_iload_n hx hb dX11_four_3 rfl (lv_at hl 0 rfl) ?_
  refine lv_if_lt (tgt := 36) hx hb dX11_four_4 (by decide) (fun c7 => ?_) (fun c7 => ?_)
  · exact absurd c7 (by decide)
  refine lv_aload_n hx hb dX11_four_7 rfl (lv_at hl 1 rfl) ?_
  refine va_get (D := D) (ci := 11) (v := .ref (a 2)) (C := RX11) (T := TX11) (N := 49) hx hb hg inGX11 hown hKN.1 hP 0 rfl rfl 2 (by decide) (hg _ kw_1210) (fun _ h9 => h9) rfl dX11_four_8 ?_
  refine lv_aload_n hx hb dX11_four_11 rfl (lv_at hl 1 rfl) ?_
  refine va_get (D := D) (ci := 11) (v := .int 1) (C := RX11) (T := TX11) (N := 49) hx hb hg inGX11 hown hKN.1 hP 0 rfl rfl 3 (by decide) (hg _ kw_1211) (fun _ h9 => h9) rfl dX11_four_12 ?_
  refine lv_iload_n hx hb dX11_four_15 rfl (lv_at hl 2 rfl) ?_
  refine lv_iload_n hx hb dX11_four_16 rfl (lv_at hl 0 rfl) ?_
  refine lv_ishr hx hb dX11_four_17 ?_
  refine lv_topi (fun v8 ev8 => ?_)
  refine lv_i2b (v := v8.toInt8.toInt32) hx hb dX11_four_18 rfl ?_
  refine lv_topi (fun v10 ev10 => ?_)
  refine va_bast hx hb hKN.1 hP hD hS 1 2 rfl rfl (show ¬ ((1 : Int32) < 0 ∨ 400 ≤ (1 : Int32).toNatClampNeg) by decide) dX11_four_19 (fun H locs hP hD hS => ?_)
  obtain ⟨f11, hP, hD⟩ : ∃ f11 : Nat → Int32, va_P D vwCl [(o, .inr (11, (.ref (a 0) :: .ref (a 1) :: .ref (a 2) :: .int 1 :: .ref (a 3) :: .ref (a 4) :: .ref (a 5) :: .ref (a 6) :: .ref (a 7) :: .ref (a 8) :: .ref (a 9) :: .ref (a 10) :: .ref (a 11) :: .ref (a 12) :: .ref (a 13) :: .ref (a 14) :: .int 0 :: .int 0 :: .int 0 :: .int 0 :: .int 0 :: .int 0 :: .int 0 :: .ref (a 15) :: .int 0 :: .ref (a 16) :: .int 0 :: .ref (a 17) :: .ref (a 18) :: .int 0 :: .long 0 :: .long 0 :: .int 0 :: .long 0 :: .int 0 :: .int 0 :: .int 0 :: .long 0 :: .long 0 :: .int 0 :: .ref (a 19) :: .ref (a 20) :: .ref (a 21) :: .ref (a 22) :: .ref (a 23) :: .ref (a 24) :: .ref (a 25) :: .ref (a 26) :: .ref (a 27) :: []))), ((a 2), .inl (Y 2, 400, .inl f11))] H ∧ va_D A [(o, .inr (11, (.ref (a 0) :: .ref (a 1) :: .ref (a 2) :: .int 1 :: .ref (a 3) :: .ref (a 4) :: .ref (a 5) :: .ref (a 6) :: .ref (a 7) :: .ref (a 8) :: .ref (a 9) :: .ref (a 10) :: .ref (a 11) :: .ref (a 12) :: .ref (a 13) :: .ref (a 14) :: .int 0 :: .int 0 :: .int 0 :: .int 0 :: .int 0 :: .int 0 :: .int 0 :: .ref (a 15) :: .int 0 :: .ref (a 16) :: .int 0 :: .ref (a 17) :: .ref (a 18) :: .int 0 :: .long 0 :: .long 0 :: .int 0 :: .long 0 :: .int 0 :: .int 0 :: .int 0 :: .long 0 :: .long 0 :: .int 0 :: .ref (a 19) :: .ref (a 20) :: .ref (a 21) :: .ref (a 22) :: .ref (a 23) :: .ref (a 24) :: .ref (a 25) :: .ref (a 26) :: .ref (a 27) :: []))), ((a 2), .inl (Y 2, 400, .inl f11))] := ⟨_, hP, hD⟩
  refine lv_aload_n hx hb dX11_four_20 rfl (lv_at hl 1 rfl) ?_
  refine lv_dup hx hb dX11_four_21 rfl ?_
  refine va_get (D := D) (ci := 11) (v := .int 1) (C := RX11) (T := TX11) (N := 49) hx hb hg inGX11 hown hKN.1 hP 0 rfl rfl 3 (by decide) (hg _ kw_1211) (fun _ h9 => h9) rfl dX11_four_22 ?_
  refine lv_iconst (v := 1) hx hb dX11_four_25 (by decide) ?_
  refine lv_iadd hx hb dX11_four_26 ?_
  refine lv_topi (fun z12 ez12 => ?_)
  obtain rfl : z12 = 2 := ez12.trans (by decide)
  refine va_put (D := D) (ci := 11) (v := .int 2) (ty := .int) (C := RX11) (T := TX11) (N := 49) hx hb hg inGX11 tyX11 tyX11_ok nmX11 hown hKN.1 hP hD hS 0 rfl rfl 3 (by decide) (hg _ kw_1211) (fun _ h9 => h9) rfl (by decide +kernel) rfl rfl (Nat.le_of_ble_eq_true rfl) dX11_four_27 (fun H locs hP hD hS => ?_)
  have hP : va_P D vwCl [(o, .inr (11, (.ref (a 0) :: .ref (a 1) :: .ref (a 2) :: .int 2 :: .ref (a 3) :: .ref (a 4) :: .ref (a 5) :: .ref (a 6) :: .ref (a 7) :: .ref (a 8) :: .ref (a 9) :: .ref (a 10) :: .ref (a 11) :: .ref (a 12) :: .ref (a 13) :: .ref (a 14) :: .int 0 :: .int 0 :: .int 0 :: .int 0 :: .int 0 :: .int 0 :: .int 0 :: .ref (a 15) :: .int 0 :: .ref (a 16) :: .int 0 :: .ref (a 17) :: .ref (a 18) :: .int 0 :: .long 0 :: .long 0 :: .int 0 :: .long 0 :: .int 0 :: .int 0 :: .int 0 :: .long 0 :: .long 0 :: .int 0 :: .ref (a 19) :: .ref (a 20) :: .ref (a 21) :: .ref (a 22) :: .ref (a 23) :: .ref (a 24) :: .ref (a 25) :: .ref (a 26) :: .ref (a 27) :: []))), ((a 2), .inl (Y 2, 400, .inl f11))] H := hP
  have hD : va_D A [(o, .inr (11, (.ref (a 0) :: .ref (a 1) :: .ref (a 2) :: .int 2 :: .ref (a 3) :: .ref (a 4) :: .ref (a 5) :: .ref (a 6) :: .ref (a 7) :: .ref (a 8) :: .ref (a 9) :: .ref (a 10) :: .ref (a 11) :: .ref (a 12) :: .ref (a 13) :: .ref (a 14) :: .int 0 :: .int 0 :: .int 0 :: .int 0 :: .int 0 :: .int 0 :: .int 0 :: .ref (a 15) :: .int 0 :: .ref (a 16) :: .int 0 :: .ref (a 17) :: .ref (a 18) :: .int 0 :: .long 0 :: .long 0 :: .int 0 :: .long 0 :: .int 0 :: .int 0 :: .int 0 :: .long 0 :: .long 0 :: .int 0 :: .ref (a 19) :: .ref (a 20) :: .ref (a 21) :: .ref (a 22) :: .ref (a 23) :: .ref (a 24) :: .ref (a 25) :: .ref (a 26) :: .ref (a 27) :: []))), ((a 2), .inl (Y 2, 400, .inl f11))] := hD
  refine lv_iinc (v := 8) (lv' := [(2, .int 8), (0, .ref o), (1, .int x)]) hx hb dX11_four_30 hl (k := 0) rfl (by decide) (by decide) rfl (fun ls hl => ?_)
  refine lv_goto (tgt := 3) hx hb dX11_four_33 (by decide) ?_
  refine lv_iload_n hx hb dX11_four_3 rfl (lv_at hl 0 rfl) ?_
  refine lv_if_lt (tgt := 36) hx hb dX11_four_4 (by decide) (fun c13 => ?_) (fun c13 => ?_)
  · exact absurd c13 (by decide)
  refine lv_aload_n hx hb dX11_four_7 rfl (lv_at hl 1 rfl) ?_
  refine va_get (D := D) (ci := 11) (v := .ref (a 2)) (C := RX11) (T := TX11) (N := 49) hx hb hg inGX11 hown hKN.1 hP 0 rfl rfl 2 (by decide) (hg _ kw_1210) (fun _ h9 => h9) rfl dX11_four_8 ?_
  refine lv_aload_n hx hb dX11_four_11 rfl (lv_at hl 1 rfl) ?_
  refine va_get (D := D) (ci := 11) (v := .int 2) (C := RX11) (T := TX11) (N := 49) hx hb hg inGX11 hown hKN.1 hP 0 rfl rfl 3 (by decide) (hg _ kw_1211) (fun _ h9 => h9) rfl dX11_four_12 ?_
  refine lv_iload_n hx hb dX11_four_15 rfl (lv_at hl 2 rfl) ?_
  refine lv_iload_n hx hb dX11_four_16 rfl (lv_at hl 0 rfl) ?_
  refine lv_ishr hx hb dX11_four_17 ?_
  refine lv_topi (fun v14 ev14 => ?_)
  refine lv_i2b (v := v14.toInt8.toInt32) hx hb dX11_four_18 rfl ?_
  refine lv_topi (fun v16 ev16 => ?_)
  refine va_bast hx hb hKN.1 hP hD hS 1 2 rfl rfl (show ¬ ((2 : Int32) < 0 ∨ 400 ≤ (2 : Int32).toNatClampNeg) by decide) dX11_four_19 (fun H locs hP hD hS => ?_)
  obtain ⟨f17, hP, hD⟩ : ∃ f17 : Nat → Int32, va_P D vwCl [(o, .inr (11, (.ref (a 0) :: .ref (a 1) :: .ref (a 2) :: .int 2 :: .ref (a 3) :: .ref (a 4) :: .ref (a 5) :: .ref (a 6) :: .ref (a 7) :: .ref (a 8) :: .ref (a 9) :: .ref (a 10) :: .ref (a 11) :: .ref (a 12) :: .ref (a 13) :: .ref (a 14) :: .int 0 :: .int 0 :: .int 0 :: .int 0 :: .int 0 :: .int 0 :: .int 0 :: .ref (a 15) :: .int 0 :: .ref (a 16) :: .int 0 :: .ref (a 17) :: .ref (a 18) :: .int 0 :: .long 0 :: .long 0 :: .int 0 :: .long 0 :: .int 0 :: .int 0 :: .int 0 :: .long 0 :: .long 0 :: .int 0 :: .ref (a 19) :: .ref (a 20) :: .ref (a 21) :: .ref (a 22) :: .ref (a 23) :: .ref (a 24) :: .ref (a 25) :: .ref (a 26) :: .ref (a 27) :: []))), ((a 2), .inl (Y 2, 400, .inl f17))] H ∧ va_D A [(o, .inr (11, (.ref (a 0) :: .ref (a 1) :: .ref (a 2) :: .int 2 :: .ref (a 3) :: .ref (a 4) :: .ref (a 5) :: .ref (a 6) :: .ref (a 7) :: .ref (a 8) :: .ref (a 9) :: .ref (a 10) :: .ref (a 11) :: .ref (a 12) :: .ref (a 13) :: .ref (a 14) :: .int 0 :: .int 0 :: .int 0 :: .int 0 :: .int 0 :: .int 0 :: .int 0 :: .ref (a 15) :: .int 0 :: .ref (a 16) :: .int 0 :: .ref (a 17) :: .ref (a 18) :: .int 0 :: .long 0 :: .long 0 :: .int 0 :: .long 0 :: .int 0 :: .int 0 :: .int 0 :: .long 0 :: .long 0 :: .int 0 :: .ref (a 19) :: .ref (a 20) :: .ref (a 21) :: .ref (a 22) :: .ref (a 23) :: .ref (a 24) :: .ref (a 25) :: .ref (a 26) :: .ref (a 27) :: []))), ((a 2), .inl (Y 2, 400, .inl f17))] := ⟨_, hP, hD⟩
  refine lv_aload_n hx hb dX11_four_20 rfl (lv_at hl 1 rfl) ?_
  refine lv_dup hx hb dX11_four_21 rfl ?_
  refine va_get (D := D) (ci := 11) (v := .int 2) (C := RX11) (T := TX11) (N := 49) hx hb hg inGX11 hown hKN.1 hP 0 rfl rfl 3 (by decide) (hg _ kw_1211) (fun _ h9 => h9) rfl dX11_four_22 ?_
  refine lv_iconst (v := 1) hx hb dX11_four_25 (by decide) ?_
  refine lv_iadd hx hb dX11_four_26 ?_
  refine lv_topi (fun z18 ez18 => ?_)
  obtain rfl : z18 = 3 := ez18.trans (by decide)
  refine va_put (D := D) (ci := 11) (v := .int 3) (ty := .int) (C := RX11) (T := TX11) (N := 49) hx hb hg inGX11 tyX11 tyX11_ok nmX11 hown hKN.1 hP hD hS 0 rfl rfl 3 (by decide) (hg _ kw_1211) (fun _ h9 => h9) rfl (by decide +kernel) rfl rfl (Nat.le_of_ble_eq_true rfl) dX11_four_27 (fun H locs hP hD hS => ?_)
  have hP : va_P D vwCl [(o, .inr (11, (.ref (a 0) :: .ref (a 1) :: .ref (a 2) :: .int 3 :: .ref (a 3) :: .ref (a 4) :: .ref (a 5) :: .ref (a 6) :: .ref (a 7) :: .ref (a 8) :: .ref (a 9) :: .ref (a 10) :: .ref (a 11) :: .ref (a 12) :: .ref (a 13) :: .ref (a 14) :: .int 0 :: .int 0 :: .int 0 :: .int 0 :: .int 0 :: .int 0 :: .int 0 :: .ref (a 15) :: .int 0 :: .ref (a 16) :: .int 0 :: .ref (a 17) :: .ref (a 18) :: .int 0 :: .long 0 :: .long 0 :: .int 0 :: .long 0 :: .int 0 :: .int 0 :: .int 0 :: .long 0 :: .long 0 :: .int 0 :: .ref (a 19) :: .ref (a 20) :: .ref (a 21) :: .ref (a 22) :: .ref (a 23) :: .ref (a 24) :: .ref (a 25) :: .ref (a 26) :: .ref (a 27) :: []))), ((a 2), .inl (Y 2, 400, .inl f17))] H := hP
  have hD : va_D A [(o, .inr (11, (.ref (a 0) :: .ref (a 1) :: .ref (a 2) :: .int 3 :: .ref (a 3) :: .ref (a 4) :: .ref (a 5) :: .ref (a 6) :: .ref (a 7) :: .ref (a 8) :: .ref (a 9) :: .ref (a 10) :: .ref (a 11) :: .ref (a 12) :: .ref (a 13) :: .ref (a 14) :: .int 0 :: .int 0 :: .int 0 :: .int 0 :: .int 0 :: .int 0 :: .int 0 :: .ref (a 15) :: .int 0 :: .ref (a 16) :: .int 0 :: .ref (a 17) :: .ref (a 18) :: .int 0 :: .long 0 :: .long 0 :: .int 0 :: .long 0 :: .int 0 :: .int 0 :: .int 0 :: .long 0 :: .long 0 :: .int 0 :: .ref (a 19) :: .ref (a 20) :: .ref (a 21) :: .ref (a 22) :: .ref (a 23) :: .ref (a 24) :: .ref (a 25) :: .ref (a 26) :: .ref (a 27) :: []))), ((a 2), .inl (Y 2, 400, .inl f17))] := hD
  refine lv_iinc (v := 0) (lv' := [(2, .int 0), (0, .ref o), (1, .int x)]) hx hb dX11_four_30 hl (k := 0) rfl (by decide) (by decide) rfl (fun ls hl => ?_)
  refine lv_goto (tgt := 3) hx hb dX11_four_33 (by decide) ?_
  refine lv_iload_n hx hb dX11_four_3 rfl (lv_at hl 0 rfl) ?_
  refine lv_if_lt (tgt := 36) hx hb dX11_four_4 (by decide) (fun c19 => ?_) (fun c19 => ?_)
  · exact absurd c19 (by decide)
  refine lv_aload_n hx hb dX11_four_7 rfl (lv_at hl 1 rfl) ?_
  refine va_get (D := D) (ci := 11) (v := .ref (a 2)) (C := RX11) (T := TX11) (N := 49) hx hb hg inGX11 hown hKN.1 hP 0 rfl rfl 2 (by decide) (hg _ kw_1210) (fun _ h9 => h9) rfl dX11_four_8 ?_
  refine lv_aload_n hx hb dX11_four_11 rfl (lv_at hl 1 rfl) ?_
  refine va_get (D := D) (ci := 11) (v := .int 3) (C := RX11) (T := TX11) (N := 49) hx hb hg inGX11 hown hKN.1 hP 0 rfl rfl 3 (by decide) (hg _ kw_1211) (fun _ h9 => h9) rfl dX11_four_12 ?_
  refine lv_iload_n hx hb dX11_four_15 rfl (lv_at hl 2 rfl) ?_
  refine lv_iload_n hx hb dX11_four_16 rfl (lv_at hl 0 rfl) ?_
  refine lv_ishr hx hb dX11_four_17 ?_
  refine lv_topi (fun v20 ev20 => ?_)
  refine lv_i2b (v := v20.toInt8.toInt32) hx hb dX11_four_18 rfl ?_
  refine lv_topi (fun v22 ev22 => ?_)
  refine va_bast hx hb hKN.1 hP hD hS 1 2 rfl rfl (show ¬ ((3 : Int32) < 0 ∨ 400 ≤ (3 : Int32).toNatClampNeg) by decide) dX11_four_19 (fun H locs hP hD hS => ?_)
  obtain ⟨f23, hP, hD⟩ : ∃ f23 : Nat → Int32, va_P D vwCl [(o, .inr (11, (.ref (a 0) :: .ref (a 1) :: .ref (a 2) :: .int 3 :: .ref (a 3) :: .ref (a 4) :: .ref (a 5) :: .ref (a 6) :: .ref (a 7) :: .ref (a 8) :: .ref (a 9) :: .ref (a 10) :: .ref (a 11) :: .ref (a 12) :: .ref (a 13) :: .ref (a 14) :: .int 0 :: .int 0 :: .int 0 :: .int 0 :: .int 0 :: .int 0 :: .int 0 :: .ref (a 15) :: .int 0 :: .ref (a 16) :: .int 0 :: .ref (a 17) :: .ref (a 18) :: .int 0 :: .long 0 :: .long 0 :: .int 0 :: .long 0 :: .int 0 :: .int 0 :: .int 0 :: .long 0 :: .long 0 :: .int 0 :: .ref (a 19) :: .ref (a 20) :: .ref (a 21) :: .ref (a 22) :: .ref (a 23) :: .ref (a 24) :: .ref (a 25) :: .ref (a 26) :: .ref (a 27) :: []))), ((a 2), .inl (Y 2, 400, .inl f23))] H ∧ va_D A [(o, .inr (11, (.ref (a 0) :: .ref (a 1) :: .ref (a 2) :: .int 3 :: .ref (a 3) :: .ref (a 4) :: .ref (a 5) :: .ref (a 6) :: .ref (a 7) :: .ref (a 8) :: .ref (a 9) :: .ref (a 10) :: .ref (a 11) :: .ref (a 12) :: .ref (a 13) :: .ref (a 14) :: .int 0 :: .int 0 :: .int 0 :: .int 0 :: .int 0 :: .int 0 :: .int 0 :: .ref (a 15) :: .int 0 :: .ref (a 16) :: .int 0 :: .ref (a 17) :: .ref (a 18) :: .int 0 :: .long 0 :: .long 0 :: .int 0 :: .long 0 :: .int 0 :: .int 0 :: .int 0 :: .long 0 :: .long 0 :: .int 0 :: .ref (a 19) :: .ref (a 20) :: .ref (a 21) :: .ref (a 22) :: .ref (a 23) :: .ref (a 24) :: .ref (a 25) :: .ref (a 26) :: .ref (a 27) :: []))), ((a 2), .inl (Y 2, 400, .inl f23))] := ⟨_, hP, hD⟩
  refine lv_aload_n hx hb dX11_four_20 rfl (lv_at hl 1 rfl) ?_
  refine lv_dup hx hb dX11_four_21 rfl ?_
  refine va_get (D := D) (ci := 11) (v := .int 3) (C := RX11) (T := TX11) (N := 49) hx hb hg inGX11 hown hKN.1 hP 0 rfl rfl 3 (by decide) (hg _ kw_1211) (fun _ h9 => h9) rfl dX11_four_22 ?_
  refine lv_iconst (v := 1) hx hb dX11_four_25 (by decide) ?_
  refine lv_iadd hx hb dX11_four_26 ?_
  refine lv_topi (fun z24 ez24 => ?_)
  obtain rfl : z24 = 4 := ez24.trans (by decide)
  refine va_put (D := D) (ci := 11) (v := .int 4) (ty := .int) (C := RX11) (T := TX11) (N := 49) hx hb hg inGX11 tyX11 tyX11_ok nmX11 hown hKN.1 hP hD hS 0 rfl rfl 3 (by decide) (hg _ kw_1211) (fun _ h9 => h9) rfl (by decide +kernel) rfl rfl (Nat.le_of_ble_eq_true rfl) dX11_four_27 (fun H locs hP hD hS => ?_)
  have hP : va_P D vwCl [(o, .inr (11, (.ref (a 0) :: .ref (a 1) :: .ref (a 2) :: .int 4 :: .ref (a 3) :: .ref (a 4) :: .ref (a 5) :: .ref (a 6) :: .ref (a 7) :: .ref (a 8) :: .ref (a 9) :: .ref (a 10) :: .ref (a 11) :: .ref (a 12) :: .ref (a 13) :: .ref (a 14) :: .int 0 :: .int 0 :: .int 0 :: .int 0 :: .int 0 :: .int 0 :: .int 0 :: .ref (a 15) :: .int 0 :: .ref (a 16) :: .int 0 :: .ref (a 17) :: .ref (a 18) :: .int 0 :: .long 0 :: .long 0 :: .int 0 :: .long 0 :: .int 0 :: .int 0 :: .int 0 :: .long 0 :: .long 0 :: .int 0 :: .ref (a 19) :: .ref (a 20) :: .ref (a 21) :: .ref (a 22) :: .ref (a 23) :: .ref (a 24) :: .ref (a 25) :: .ref (a 26) :: .ref (a 27) :: []))), ((a 2), .inl (Y 2, 400, .inl f23))] H := hP
  have hD : va_D A [(o, .inr (11, (.ref (a 0) :: .ref (a 1) :: .ref (a 2) :: .int 4 :: .ref (a 3) :: .ref (a 4) :: .ref (a 5) :: .ref (a 6) :: .ref (a 7) :: .ref (a 8) :: .ref (a 9) :: .ref (a 10) :: .ref (a 11) :: .ref (a 12) :: .ref (a 13) :: .ref (a 14) :: .int 0 :: .int 0 :: .int 0 :: .int 0 :: .int 0 :: .int 0 :: .int 0 :: .ref (a 15) :: .int 0 :: .ref (a 16) :: .int 0 :: .ref (a 17) :: .ref (a 18) :: .int 0 :: .long 0 :: .long 0 :: .int 0 :: .long 0 :: .int 0 :: .int 0 :: .int 0 :: .long 0 :: .long 0 :: .int 0 :: .ref (a 19) :: .ref (a 20) :: .ref (a 21) :: .ref (a 22) :: .ref (a 23) :: .ref (a 24) :: .ref (a 25) :: .ref (a 26) :: .ref (a 27) :: []))), ((a 2), .inl (Y 2, 400, .inl f23))] := hD
  refine lv_iinc (v := (-8)) (lv' := [(2, .int (-8)), (0, .ref o), (1, .int x)]) hx hb dX11_four_30 hl (k := 0) rfl (by decide) (by decide) rfl (fun ls hl => ?_)
  refine lv_goto (tgt := 3) hx hb dX11_four_33 (by decide) ?_
  refine lv_iload_n hx hb dX11_four_3 rfl (lv_at hl 0 rfl) ?_
  refine lv_if_lt (tgt := 36) hx hb dX11_four_4 (by decide) (fun c25 => ?_) (fun c25 => ?_)
  rotate_left
  · exact absurd c25 (by decide)
  refine W.widen (k := 0) (n := 0) (Nat.le_of_ble_eq_true rfl) (Nat.le_of_ble_eq_true rfl) ?_
  exact W.vret hx hb hr (fun t ht hW => ⟨⟨f23, rfl, trivial, CB.mk ht (hP.sub [0, 1] rfl) (hD.sub [0, 1] (by decide) rfl)⟩, hS.F ht⟩) hS.2.2 dX11_four_36
set_option maxHeartbeats 4000000 in
set_option maxRecDepth 100000 in
theorem m_four4 (l : Launch) (D : va_G) (Y : Nat → ClassId) (Z : Nat → Nat) (sz : Nat) (o : Nat) (a : Nat → Nat) (x : Int32) (f : Nat → Int32) : Met l yX11_four (.code yX11_four cX11_four 3 none :: GW) ({ frames := 0, cells := 0, slots := 0, locals := 0 }) (va_Pc [.ref o, .int x] (CP D Y Z [(o, .inr (11, (.ref (a 0) :: .ref (a 1) :: .ref (a 2) :: .int 4 :: .ref (a 3) :: .ref (a 4) :: .ref (a 5) :: .ref (a 6) :: .ref (a 7) :: .ref (a 8) :: .ref (a 9) :: .ref (a 10) :: .ref (a 11) :: .ref (a 12) :: .ref (a 13) :: .ref (a 14) :: .int 0 :: .int 0 :: .int 0 :: .int 0 :: .int 0 :: .int 0 :: .int 0 :: .ref (a 15) :: .int 0 :: .ref (a 16) :: .int 0 :: .ref (a 17) :: .ref (a 18) :: .int 0 :: .long 0 :: .long 0 :: .int 0 :: .long 0 :: .int 0 :: .int 0 :: .int 0 :: .long 0 :: .long 0 :: .int 0 :: .ref (a 19) :: .ref (a 20) :: .ref (a 21) :: .ref (a 22) :: .ref (a 23) :: .ref (a 24) :: .ref (a 25) :: .ref (a 26) :: .ref (a 27) :: []))), ((a 2), .inl (Y 2, 400, .inl f))] sz)) (QG (S := (Nat → Int32)) (fun _ => none) (fun _ => True) (fun u => CB D ((fun u => [(o, .inr (11, (.ref (a 0) :: .ref (a 1) :: .ref (a 2) :: .int 8 :: .ref (a 3) :: .ref (a 4) :: .ref (a 5) :: .ref (a 6) :: .ref (a 7) :: .ref (a 8) :: .ref (a 9) :: .ref (a 10) :: .ref (a 11) :: .ref (a 12) :: .ref (a 13) :: .ref (a 14) :: .int 0 :: .int 0 :: .int 0 :: .int 0 :: .int 0 :: .int 0 :: .int 0 :: .ref (a 15) :: .int 0 :: .ref (a 16) :: .int 0 :: .ref (a 17) :: .ref (a 18) :: .int 0 :: .long 0 :: .long 0 :: .int 0 :: .long 0 :: .int 0 :: .int 0 :: .int 0 :: .long 0 :: .long 0 :: .int 0 :: .ref (a 19) :: .ref (a 20) :: .ref (a 21) :: .ref (a 22) :: .ref (a 23) :: .ref (a 24) :: .ref (a 25) :: .ref (a 26) :: .ref (a 27) :: []))), ((a 2), .inl (Y 2, 400, .inl u))]) u) (va_A [(o, .inr (11, (.ref (a 0) :: .ref (a 1) :: .ref (a 2) :: .int 4 :: .ref (a 3) :: .ref (a 4) :: .ref (a 5) :: .ref (a 6) :: .ref (a 7) :: .ref (a 8) :: .ref (a 9) :: .ref (a 10) :: .ref (a 11) :: .ref (a 12) :: .ref (a 13) :: .ref (a 14) :: .int 0 :: .int 0 :: .int 0 :: .int 0 :: .int 0 :: .int 0 :: .int 0 :: .ref (a 15) :: .int 0 :: .ref (a 16) :: .int 0 :: .ref (a 17) :: .ref (a 18) :: .int 0 :: .long 0 :: .long 0 :: .int 0 :: .long 0 :: .int 0 :: .int 0 :: .int 0 :: .long 0 :: .long 0 :: .int 0 :: .ref (a 19) :: .ref (a 20) :: .ref (a 21) :: .ref (a 22) :: .ref (a 23) :: .ref (a 24) :: .ref (a 25) :: .ref (a 26) :: .ref (a 27) :: []))), ((a 2), .inl (Y 2, 400, .inl f))] sz)) (va_A [(o, .inr (11, (.ref (a 0) :: .ref (a 1) :: .ref (a 2) :: .int 4 :: .ref (a 3) :: .ref (a 4) :: .ref (a 5) :: .ref (a 6) :: .ref (a 7) :: .ref (a 8) :: .ref (a 9) :: .ref (a 10) :: .ref (a 11) :: .ref (a 12) :: .ref (a 13) :: .ref (a 14) :: .int 0 :: .int 0 :: .int 0 :: .int 0 :: .int 0 :: .int 0 :: .int 0 :: .ref (a 15) :: .int 0 :: .ref (a 16) :: .int 0 :: .ref (a 17) :: .ref (a 18) :: .int 0 :: .long 0 :: .long 0 :: .int 0 :: .long 0 :: .int 0 :: .int 0 :: .int 0 :: .long 0 :: .long 0 :: .int 0 :: .ref (a 19) :: .ref (a 20) :: .ref (a 21) :: .ref (a 22) :: .ref (a 23) :: .ref (a 24) :: .ref (a 25) :: .ref (a 26) :: .ref (a 27) :: []))), ((a 2), .inl (Y 2, 400, .inl f))] sz)) 0 0 (va_A [(o, .inr (11, (.ref (a 0) :: .ref (a 1) :: .ref (a 2) :: .int 4 :: .ref (a 3) :: .ref (a 4) :: .ref (a 5) :: .ref (a 6) :: .ref (a 7) :: .ref (a 8) :: .ref (a 9) :: .ref (a 10) :: .ref (a 11) :: .ref (a 12) :: .ref (a 13) :: .ref (a 14) :: .int 0 :: .int 0 :: .int 0 :: .int 0 :: .int 0 :: .int 0 :: .int 0 :: .ref (a 15) :: .int 0 :: .ref (a 16) :: .int 0 :: .ref (a 17) :: .ref (a 18) :: .int 0 :: .long 0 :: .long 0 :: .int 0 :: .long 0 :: .int 0 :: .int 0 :: .int 0 :: .long 0 :: .long 0 :: .int 0 :: .ref (a 19) :: .ref (a 20) :: .ref (a 21) :: .ref (a 22) :: .ref (a 23) :: .ref (a 24) :: .ref (a 25) :: .ref (a 26) :: .ref (a 27) :: []))), ((a 2), .inl (Y 2, 400, .inl f))] sz) := by
  refine Met.ofW (cc := cX11_four) (maxL := 3) (ret := none) (by decide) rfl ?_
  intro p e s m args below meth c s₁ B hml hv
  obtain ⟨rfl, hsz, hP, hKN, hD0⟩ := hv
  have hx := B.exec
  have hb := B.bytes
  have hr := B.returns
  have hts := atoms_spec (ws := .code yX11_four cX11_four 3 none :: GW) B.pre
  have hg : ∀ w ∈ GW, w.before _ s = true := fun w h => hts w (List.mem_cons_of_mem _ h)
  have hown : s.vm.findClass RX11 = some m.cls := findClass_of_methodNamed B.named
  have hlocks := B.notSynchronized
  subst hsz
  have hD := hD0.self (sz := s.heap.size)
  generalize hAe : va_A [(o, .inr (11, (.ref (a 0) :: .ref (a 1) :: .ref (a 2) :: .int 4 :: .ref (a 3) :: .ref (a 4) :: .ref (a 5) :: .ref (a 6) :: .ref (a 7) :: .ref (a 8) :: .ref (a 9) :: .ref (a 10) :: .ref (a 11) :: .ref (a 12) :: .ref (a 13) :: .ref (a 14) :: .int 0 :: .int 0 :: .int 0 :: .int 0 :: .int 0 :: .int 0 :: .int 0 :: .ref (a 15) :: .int 0 :: .ref (a 16) :: .int 0 :: .ref (a 17) :: .ref (a 18) :: .int 0 :: .long 0 :: .long 0 :: .int 0 :: .long 0 :: .int 0 :: .int 0 :: .int 0 :: .long 0 :: .long 0 :: .int 0 :: .ref (a 19) :: .ref (a 20) :: .ref (a 21) :: .ref (a 22) :: .ref (a 23) :: .ref (a 24) :: .ref (a 25) :: .ref (a 26) :: .ref (a 27) :: []))), ((a 2), .inl (Y 2, 400, .inl f))] s.heap.size = A at hD ⊢
  have hA : ∀ q : Nat, s.heap.size ≤ q → A q := fun q h => by rw [← hAe]; exact Or.inr h
  have hl := lv_entry ([.ref o, .int x]) (n := 3) (Nat.le_of_ble_eq_true rfl)
  rw [lg_entry_eq]
  generalize (lg_sl ([.ref o, .int x]) ++ List.replicate (3 - (lg_sl ([.ref o, .int x])).length) Slot.unset).toArray = ls at hl ⊢
  have hl : lv_has ls 3 [(0, .ref o), (1, .int x)] := hl
  refine w_start (A0 := A) hP (fun H locs hP hS => ?_)
  refine lv_bipush (v := 24) hx hb dX11_four_0 (by decide) ?_
  refine lv_istore_n (lv' := [(2, .int 24), (0, .ref o), (1, .int x)]) hx hb dX11_four_2 rfl hl (by decide) rfl (fun ls hl => ?_)
  refine lv_iload_n hx hb dX11_four_3 rfl (lv_at hl 0 rfl) ?_
  refine lv_if_lt (tgt := 36) hx hb dX11_four_4 (by decide) (fun c1 => ?_) (fun c1 => ?_)
  · exact absurd c1 (by decide)
  refine lv_aload_n hx hb dX11_four_7 rfl (lv_at hl 1 rfl) ?_
  refine va_get (D := D) (ci := 11) (v := .ref (a 2)) (C := RX11) (T := TX11) (N := 49) hx hb hg inGX11 hown hKN.1 hP 0 rfl rfl 2 (by decide) (hg _ kw_1210) (fun _ h9 => h9) rfl dX11_four_8 ?_
  refine lv_aload_n hx hb dX11_four_11 rfl (lv_at hl 1 rfl) ?_
  refine va_get (D := D) (ci := 11) (v := .int 4) (C := RX11) (T := TX11) (N := 49) hx hb hg inGX11 hown hKN.1 hP 0 rfl rfl 3 (by decide) (hg _ kw_1211) (fun _ h9 => h9) rfl dX11_four_12 ?_
  refine lv_iload_n hx hb dX11_four_15 rfl (lv_at hl 2 rfl) ?_
  refine lv_iload_n hx hb dX11_four_16 rfl (lv_at hl 0 rfl) ?_
  refine lv_ishr hx hb dX11_four_17 ?_
  refine lv_topi (fun v2 ev2 => ?_)
  refine lv_i2b (v := v2.toInt8.toInt32) hx hb dX11_four_18 rfl ?_
  refine lv_topi (fun v4 ev4 => ?_)
  refine va_bast hx hb hKN.1 hP hD hS 1 2 rfl rfl (show ¬ ((4 : Int32) < 0 ∨ 400 ≤ (4 : Int32).toNatClampNeg) by decide) dX11_four_19 (fun H locs hP hD hS => ?_)
  obtain ⟨f5, hP, hD⟩ : ∃ f5 : Nat → Int32, va_P D vwCl [(o, .inr (11, (.ref (a 0) :: .ref (a 1) :: .ref (a 2) :: .int 4 :: .ref (a 3) :: .ref (a 4) :: .ref (a 5) :: .ref (a 6) :: .ref (a 7) :: .ref (a 8) :: .ref (a 9) :: .ref (a 10) :: .ref (a 11) :: .ref (a 12) :: .ref (a 13) :: .ref (a 14) :: .int 0 :: .int 0 :: .int 0 :: .int 0 :: .int 0 :: .int 0 :: .int 0 :: .ref (a 15) :: .int 0 :: .ref (a 16) :: .int 0 :: .ref (a 17) :: .ref (a 18) :: .int 0 :: .long 0 :: .long 0 :: .int 0 :: .long 0 :: .int 0 :: .int 0 :: .int 0 :: .long 0 :: .long 0 :: .int 0 :: .ref (a 19) :: .ref (a 20) :: .ref (a 21) :: .ref (a 22) :: .ref (a 23) :: .ref (a 24) :: .ref (a 25) :: .ref (a 26) :: .ref (a 27) :: []))), ((a 2), .inl (Y 2, 400, .inl f5))] H ∧ va_D A [(o, .inr (11, (.ref (a 0) :: .ref (a 1) :: .ref (a 2) :: .int 4 :: .ref (a 3) :: .ref (a 4) :: .ref (a 5) :: .ref (a 6) :: .ref (a 7) :: .ref (a 8) :: .ref (a 9) :: .ref (a 10) :: .ref (a 11) :: .ref (a 12) :: .ref (a 13) :: .ref (a 14) :: .int 0 :: .int 0 :: .int 0 :: .int 0 :: .int 0 :: .int 0 :: .int 0 :: .ref (a 15) :: .int 0 :: .ref (a 16) :: .int 0 :: .ref (a 17) :: .ref (a 18) :: .int 0 :: .long 0 :: .long 0 :: .int 0 :: .long 0 :: .int 0 :: .int 0 :: .int 0 :: .long 0 :: .long 0 :: .int 0 :: .ref (a 19) :: .ref (a 20) :: .ref (a 21) :: .ref (a 22) :: .ref (a 23) :: .ref (a 24) :: .ref (a 25) :: .ref (a 26) :: .ref (a 27) :: []))), ((a 2), .inl (Y 2, 400, .inl f5))] := ⟨_, hP, hD⟩
  refine lv_aload_n hx hb dX11_four_20 rfl (lv_at hl 1 rfl) ?_
  refine lv_dup hx hb dX11_four_21 rfl ?_
  refine va_get (D := D) (ci := 11) (v := .int 4) (C := RX11) (T := TX11) (N := 49) hx hb hg inGX11 hown hKN.1 hP 0 rfl rfl 3 (by decide) (hg _ kw_1211) (fun _ h9 => h9) rfl dX11_four_22 ?_
  refine lv_iconst (v := 1) hx hb dX11_four_25 (by decide) ?_
  refine lv_iadd hx hb dX11_four_26 ?_
  refine lv_topi (fun z6 ez6 => ?_)
  obtain rfl : z6 = 5 := ez6.trans (by decide)
  refine va_put (D := D) (ci := 11) (v := .int 5) (ty := .int) (C := RX11) (T := TX11) (N := 49) hx hb hg inGX11 tyX11 tyX11_ok nmX11 hown hKN.1 hP hD hS 0 rfl rfl 3 (by decide) (hg _ kw_1211) (fun _ h9 => h9) rfl (by decide +kernel) rfl rfl (Nat.le_of_ble_eq_true rfl) dX11_four_27 (fun H locs hP hD hS => ?_)
  have hP : va_P D vwCl [(o, .inr (11, (.ref (a 0) :: .ref (a 1) :: .ref (a 2) :: .int 5 :: .ref (a 3) :: .ref (a 4) :: .ref (a 5) :: .ref (a 6) :: .ref (a 7) :: .ref (a 8) :: .ref (a 9) :: .ref (a 10) :: .ref (a 11) :: .ref (a 12) :: .ref (a 13) :: .ref (a 14) :: .int 0 :: .int 0 :: .int 0 :: .int 0 :: .int 0 :: .int 0 :: .int 0 :: .ref (a 15) :: .int 0 :: .ref (a 16) :: .int 0 :: .ref (a 17) :: .ref (a 18) :: .int 0 :: .long 0 :: .long 0 :: .int 0 :: .long 0 :: .int 0 :: .int 0 :: .int 0 :: .long 0 :: .long 0 :: .int 0 :: .ref (a 19) :: .ref (a 20) :: .ref (a 21) :: .ref (a 22) :: .ref (a 23) :: .ref (a 24) :: .ref (a 25) :: .ref (a 26) :: .ref (a 27) :: []))), ((a 2), .inl (Y 2, 400, .inl f5))] H := hP
  have hD : va_D A [(o, .inr (11, (.ref (a 0) :: .ref (a 1) :: .ref (a 2) :: .int 5 :: .ref (a 3) :: .ref (a 4) :: .ref (a 5) :: .ref (a 6) :: .ref (a 7) :: .ref (a 8) :: .ref (a 9) :: .ref (a 10) :: .ref (a 11) :: .ref (a 12) :: .ref (a 13) :: .ref (a 14) :: .int 0 :: .int 0 :: .int 0 :: .int 0 :: .int 0 :: .int 0 :: .int 0 :: .ref (a 15) :: .int 0 :: .ref (a 16) :: .int 0 :: .ref (a 17) :: .ref (a 18) :: .int 0 :: .long 0 :: .long 0 :: .int 0 :: .long 0 :: .int 0 :: .int 0 :: .int 0 :: .long 0 :: .long 0 :: .int 0 :: .ref (a 19) :: .ref (a 20) :: .ref (a 21) :: .ref (a 22) :: .ref (a 23) :: .ref (a 24) :: .ref (a 25) :: .ref (a 26) :: .ref (a 27) :: []))), ((a 2), .inl (Y 2, 400, .inl f5))] := hD
  refine lv_iinc (v := 16) (lv' := [(2, .int 16), (0, .ref o), (1, .int x)]) hx hb dX11_four_30 hl (k := 0) rfl (by decide) (by decide) rfl (fun ls hl => ?_)
  refine lv_goto (tgt := 3) hx hb dX11_four_33 (by decide) ?_
  refine lv_iload_n hx hb dX11_four_3 rfl (lv_at hl 0 rfl) ?_
  refine lv_if_lt (tgt := 36) hx hb dX11_four_4 (by decide) (fun c7 => ?_) (fun c7 => ?_)
  · exact absurd c7 (by decide)
  refine lv_aload_n hx hb dX11_four_7 rfl (lv_at hl 1 rfl) ?_
  refine va_get (D := D) (ci := 11) (v := .ref (a 2)) (C := RX11) (T := TX11) (N := 49) hx hb hg inGX11 hown hKN.1 hP 0 rfl rfl 2 (by decide) (hg _ kw_1210) (fun _ h9 => h9) rfl dX11_four_8 ?_
  refine lv_aload_n hx hb dX11_four_11 rfl (lv_at hl 1 rfl) ?_
  refine va_get (D := D) (ci := 11) (v := .int 5) (C := RX11) (T := TX11) (N := 49) hx hb hg inGX11 hown hKN.1 hP 0 rfl rfl 3 (by decide) (hg _ kw_1211) (fun _ h9 => h9) rfl dX11_four_12 ?_
  refine lv_iload_n hx hb dX11_four_15 rfl (lv_at hl 2 rfl) ?_
  refine lv_iload_n hx hb dX11_four_16 rfl (lv_at hl 0 rfl) ?_
  refine lv_ishr hx hb dX11_four_17 ?_
  refine lv_topi (fun v8 ev8 => ?_)
  refine lv_i2b (v := v8.toInt8.toInt32) hx hb dX11_four_18 rfl ?_
  refine lv_topi (fun v10 ev10 => ?_)
  refine va_bast hx hb hKN.1 hP hD hS 1 2 rfl rfl (show ¬ ((5 : Int32) < 0 ∨ 400 ≤ (5 : Int32).toNatClampNeg) by decide) dX11_four_19 (fun H locs hP hD hS => ?_)
  obtain ⟨f11, hP, hD⟩ : ∃ f11 : Nat → Int32, va_P D vwCl [(o, .inr (11, (.ref (a 0) :: .ref (a 1) :: .ref (a 2) :: .int 5 :: .ref (a 3) :: .ref (a 4) :: .ref (a 5) :: .ref (a 6) :: .ref (a 7) :: .ref (a 8) :: .ref (a 9) :: .ref (a 10) :: .ref (a 11) :: .ref (a 12) :: .ref (a 13) :: .ref (a 14) :: .int 0 :: .int 0 :: .int 0 :: .int 0 :: .int 0 :: .int 0 :: .int 0 :: .ref (a 15) :: .int 0 :: .ref (a 16) :: .int 0 :: .ref (a 17) :: .ref (a 18) :: .int 0 :: .long 0 :: .long 0 :: .int 0 :: .long 0 :: .int 0 :: .int 0 :: .int 0 :: .long 0 :: .long 0 :: .int 0 :: .ref (a 19) :: .ref (a 20) :: .ref (a 21) :: .ref (a 22) :: .ref (a 23) :: .ref (a 24) :: .ref (a 25) :: .ref (a 26) :: .ref (a 27) :: []))), ((a 2), .inl (Y 2, 400, .inl f11))] H ∧ va_D A [(o, .inr (11, (.ref (a 0) :: .ref (a 1) :: .ref (a 2) :: .int 5 :: .ref (a 3) :: .ref (a 4) :: .ref (a 5) :: .ref (a 6) :: .ref (a 7) :: .ref (a 8) :: .ref (a 9) :: .ref (a 10) :: .ref (a 11) :: .ref (a 12) :: .ref (a 13) :: .ref (a 14) :: .int 0 :: .int 0 :: .int 0 :: .int 0 :: .int 0 :: .int 0 :: .int 0 :: .ref (a 15) :: .int 0 :: .ref (a 16) :: .int 0 :: .ref (a 17) :: .ref (a 18) :: .int 0 :: .long 0 :: .long 0 :: .int 0 :: .long 0 :: .int 0 :: .int 0 :: .int 0 :: .long 0 :: .long 0 :: .int 0 :: .ref (a 19) :: .ref (a 20) :: .ref (a 21) :: .ref (a 22) :: .ref (a 23) :: .ref (a 24) :: .ref (a 25) :: .ref (a 26) :: .ref (a 27) :: []))), ((a 2), .inl (Y 2, 400, .inl f11))] := ⟨_, hP, hD⟩
  refine lv_aload_n hx hb dX11_four_20 rfl (lv_at hl 1 rfl) ?_
  refine lv_dup hx hb dX11_four_21 rfl ?_
  refine va_get (D := D) (ci := 11) (v := .int 5) (C := RX11) (T := TX11) (N := 49) hx hb hg inGX11 hown hKN.1 hP 0 rfl rfl 3 (by decide) (hg _ kw_1211) (fun _ h9 => h9) rfl dX11_four_22 ?_
  refine lv_iconst (v := 1) hx hb dX11_four_25 (by decide) ?_
  refine lv_iadd hx hb dX11_four_26 ?_
  refine lv_topi (fun z12 ez12 => ?_)
  obtain rfl : z12 = 6 := ez12.trans (by decide)
  refine va_put (D := D) (ci := 11) (v := .int 6) (ty := .int) (C := RX11) (T := TX11) (N := 49) hx hb hg inGX11 tyX11 tyX11_ok nmX11 hown hKN.1 hP hD hS 0 rfl rfl 3 (by decide) (hg _ kw_1211) (fun _ h9 => h9) rfl (by decide +kernel) rfl rfl (Nat.le_of_ble_eq_true rfl) dX11_four_27 (fun H locs hP hD hS => ?_)
  have hP : va_P D vwCl [(o, .inr (11, (.ref (a 0) :: .ref (a 1) :: .ref (a 2) :: .int 6 :: .ref (a 3) :: .ref (a 4) :: .ref (a 5) :: .ref (a 6) :: .ref (a 7) :: .ref (a 8) :: .ref (a 9) :: .ref (a 10) :: .ref (a 11) :: .ref (a 12) :: .ref (a 13) :: .ref (a 14) :: .int 0 :: .int 0 :: .int 0 :: .int 0 :: .int 0 :: .int 0 :: .int 0 :: .ref (a 15) :: .int 0 :: .ref (a 16) :: .int 0 :: .ref (a 17) :: .ref (a 18) :: .int 0 :: .long 0 :: .long 0 :: .int 0 :: .long 0 :: .int 0 :: .int 0 :: .int 0 :: .long 0 :: .long 0 :: .int 0 :: .ref (a 19) :: .ref (a 20) :: .ref (a 21) :: .ref (a 22) :: .ref (a 23) :: .ref (a 24) :: .ref (a 25) :: .ref (a 26) :: .ref (a 27) :: []))), ((a 2), .inl (Y 2, 400, .inl f11))] H := hP
  have hD : va_D A [(o, .inr (11, (.ref (a 0) :: .ref (a 1) :: .ref (a 2) :: .int 6 :: .ref (a 3) :: .ref (a 4) :: .ref (a 5) :: .ref (a 6) :: .ref (a 7) :: .ref (a 8) :: .ref (a 9) :: .ref (a 10) :: .ref (a 11) :: .ref (a 12) :: .ref (a 13) :: .ref (a 14) :: .int 0 :: .int 0 :: .int 0 :: .int 0 :: .int 0 :: .int 0 :: .int 0 :: .ref (a 15) :: .int 0 :: .ref (a 16) :: .int 0 :: .ref (a 17) :: .ref (a 18) :: .int 0 :: .long 0 :: .long 0 :: .int 0 :: .long 0 :: .int 0 :: .int 0 :: .int 0 :: .long 0 :: .long 0 :: .int 0 :: .ref (a 19) :: .ref (a 20) :: .ref (a 21) :: .ref (a 22) :: .ref (a 23) :: .ref (a 24) :: .ref (a 25) :: .ref (a 26) :: .ref (a 27) :: []))), ((a 2), .inl (Y 2, 400, .inl f11))] := hD
  refine lv_iinc (v := 8) (lv' := [(2, .int 8), (0, .ref o), (1, .int x)]) hx hb dX11_four_30 hl (k := 0) rfl (by decide) (by decide) rfl (fun ls hl => ?_)
  refine lv_goto (tgt := 3) hx hb dX11_four_33 (by decide) ?_
  refine lv_iload_n hx hb dX11_four_3 rfl (lv_at hl 0 rfl) ?_
  refine lv_if_lt (tgt := 36) hx hb dX11_four_4 (by decide) (fun c13 => ?_) (fun c13 => ?_)
  · exact absurd c13 (by decide)
  refine lv_aload_n hx hb dX11_four_7 rfl (lv_at hl 1 rfl) ?_
  refine va_get (D := D) (ci := 11) (v := .ref (a 2)) (C := RX11) (T := TX11) (N := 49) hx hb hg inGX11 hown hKN.1 hP 0 rfl rfl 2 (by decide) (hg _ kw_1210) (fun _ h9 => h9) rfl dX11_four_8 ?_
  refine lv_aload_n hx hb dX11_four_11 rfl (lv_at hl 1 rfl) ?_
  refine va_get (D := D) (ci := 11) (v := .int 6) (C := RX11) (T := TX11) (N := 49) hx hb hg inGX11 hown hKN.1 hP 0 rfl rfl 3 (by decide) (hg _ kw_1211) (fun _ h9 => h9) rfl dX11_four_12 ?_
  refine lv_iload_n hx hb dX11_four_15 rfl (lv_at hl 2 rfl) ?_
  refine lv_iload_n hx hb dX11_four_16 rfl (lv_at hl 0 rfl) ?_
  refine lv_ishr hx hb dX11_four_17 ?_
  refine lv_topi (fun v14 ev14 => ?_)
  refine lv_i2b (v := v14.toInt8.toInt32) hx hb dX11_four_18 rfl ?_
  refine lv_topi (fun v16 ev16 => ?_)
  refine va_bast hx hb hKN.1 hP hD hS 1 2 rfl rfl (show ¬ ((6 : Int32) < 0 ∨ 400 ≤ (6 : Int32).toNatClampNeg) by decide) dX11_four_19 (fun H locs hP hD hS => ?_)
  obtain ⟨f17, hP, hD⟩ : ∃ f17 : Nat → Int32, va_P D vwCl [(o, .inr (11, (.ref (a 0) :: .ref (a 1) :: .ref (a 2) :: .int 6 :: .ref (a 3) :: .ref (a 4) :: .ref (a 5) :: .ref (a 6) :: .ref (a 7) :: .ref (a 8) :: .ref (a 9) :: .ref (a 10) :: .ref (a 11) :: .ref (a 12) :: .ref (a 13) :: .ref (a 14) :: .int 0 :: .int 0 :: .int 0 :: .int 0 :: .int 0 :: .int 0 :: .int 0 :: .ref (a 15) :: .int 0 :: .ref (a 16) :: .int 0 :: .ref (a 17) :: .ref (a 18) :: .int 0 :: .long 0 :: .long 0 :: .int 0 :: .long 0 :: .int 0 :: .int 0 :: .int 0 :: .long 0 :: .long 0 :: .int 0 :: .ref (a 19) :: .ref (a 20) :: .ref (a 21) :: .ref (a 22) :: .ref (a 23) :: .ref (a 24) :: .ref (a 25) :: .ref (a 26) :: .ref (a 27) :: []))), ((a 2), .inl (Y 2, 400, .inl f17))] H ∧ va_D A [(o, .inr (11, (.ref (a 0) :: .ref (a 1) :: .ref (a 2) :: .int 6 :: .ref (a 3) :: .ref (a 4) :: .ref (a 5) :: .ref (a 6) :: .ref (a 7) :: .ref (a 8) :: .ref (a 9) :: .ref (a 10) :: .ref (a 11) :: .ref (a 12) :: .ref (a 13) :: .ref (a 14) :: .int 0 :: .int 0 :: .int 0 :: .int 0 :: .int 0 :: .int 0 :: .int 0 :: .ref (a 15) :: .int 0 :: .ref (a 16) :: .int 0 :: .ref (a 17) :: .ref (a 18) :: .int 0 :: .long 0 :: .long 0 :: .int 0 :: .long 0 :: .int 0 :: .int 0 :: .int 0 :: .long 0 :: .long 0 :: .int 0 :: .ref (a 19) :: .ref (a 20) :: .ref (a 21) :: .ref (a 22) :: .ref (a 23) :: .ref (a 24) :: .ref (a 25) :: .ref (a 26) :: .ref (a 27) :: []))), ((a 2), .inl (Y 2, 400, .inl f17))] := ⟨_, hP, hD⟩
  refine lv_aload_n hx hb dX11_four_20 rfl (lv_at hl 1 rfl) ?_
  refine lv_dup hx hb dX11_four_21 rfl ?_
  refine va_get (D := D) (ci := 11) (v := .int 6) (C := RX11) (T := TX11) (N := 49) hx hb hg inGX11 hown hKN.1 hP 0 rfl rfl 3 (by decide) (hg _ kw_1211) (fun _ h9 => h9) rfl dX11_four_22 ?_
  refine lv_iconst (v := 1) hx hb dX11_four_25 (by decide) ?_
  refine lv_iadd hx hb dX11_four_26 ?_
  refine lv_topi (fun z18 ez18 => ?_)
  obtain rfl : z18 = 7 := ez18.trans (by decide)
  refine va_put (D := D) (ci := 11) (v := .int 7) (ty := .int) (C := RX11) (T := TX11) (N := 49) hx hb hg inGX11 tyX11 tyX11_ok nmX11 hown hKN.1 hP hD hS 0 rfl rfl 3 (by decide) (hg _ kw_1211) (fun _ h9 => h9) rfl (by decide +kernel) rfl rfl (Nat.le_of_ble_eq_true rfl) dX11_four_27 (fun H locs hP hD hS => ?_)
  have hP : va_P D vwCl [(o, .inr (11, (.ref (a 0) :: .ref (a 1) :: .ref (a 2) :: .int 7 :: .ref (a 3) :: .ref (a 4) :: .ref (a 5) :: .ref (a 6) :: .ref (a 7) :: .ref (a 8) :: .ref (a 9) :: .ref (a 10) :: .ref (a 11) :: .ref (a 12) :: .ref (a 13) :: .ref (a 14) :: .int 0 :: .int 0 :: .int 0 :: .int 0 :: .int 0 :: .int 0 :: .int 0 :: .ref (a 15) :: .int 0 :: .ref (a 16) :: .int 0 :: .ref (a 17) :: .ref (a 18) :: .int 0 :: .long 0 :: .long 0 :: .int 0 :: .long 0 :: .int 0 :: .int 0 :: .int 0 :: .long 0 :: .long 0 :: .int 0 :: .ref (a 19) :: .ref (a 20) :: .ref (a 21) :: .ref (a 22) :: .ref (a 23) :: .ref (a 24) :: .ref (a 25) :: .ref (a 26) :: .ref (a 27) :: []))), ((a 2), .inl (Y 2, 400, .inl f17))] H := hP
  have hD : va_D A [(o, .inr (11, (.ref (a 0) :: .ref (a 1) :: .ref (a 2) :: .int 7 :: .ref (a 3) :: .ref (a 4) :: .ref (a 5) :: .ref (a 6) :: .ref (a 7) :: .ref (a 8) :: .ref (a 9) :: .ref (a 10) :: .ref (a 11) :: .ref (a 12) :: .ref (a 13) :: .ref (a 14) :: .int 0 :: .int 0 :: .int 0 :: .int 0 :: .int 0 :: .int 0 :: .int 0 :: .ref (a 15) :: .int 0 :: .ref (a 16) :: .int 0 :: .ref (a 17) :: .ref (a 18) :: .int 0 :: .long 0 :: .long 0 :: .int 0 :: .long 0 :: .int 0 :: .int 0 :: .int 0 :: .long 0 :: .long 0 :: .int 0 :: .ref (a 19) :: .ref (a 20) :: .ref (a 21) :: .ref (a 22) :: .ref (a 23) :: .ref (a 24) :: .ref (a 25) :: .ref (a 26) :: .ref (a 27) :: []))), ((a 2), .inl (Y 2, 400, .inl f17))] := hD
  refine lv_iinc (v := 0) (lv' := [(2, .int 0), (0, .ref o), (1, .int x)]) hx hb dX11_four_30 hl (k := 0) rfl (by decide) (by decide) rfl (fun ls hl => ?_)
  refine lv_goto (tgt := 3) hx hb dX11_four_33 (by decide) ?_
  refine lv_iload_n hx hb dX11_four_3 rfl (lv_at hl 0 rfl) ?_
  refine lv_if_lt (tgt := 36) hx hb dX11_four_4 (by decide) (fun c19 => ?_) (fun c19 => ?_)
  · exact absurd c19 (by decide)
  refine lv_aload_n hx hb dX11_four_7 rfl (lv_at hl 1 rfl) ?_
  refine va_get (D := D) (ci := 11) (v := .ref (a 2)) (C := RX11) (T := TX11) (N := 49) hx hb hg inGX11 hown hKN.1 hP 0 rfl rfl 2 (by decide) (hg _ kw_1210) (fun _ h9 => h9) rfl dX11_four_8 ?_
  refine lv_aload_n hx hb dX11_four_11 rfl (lv_at hl 1 rfl) ?_
  refine va_get (D := D) (ci := 11) (v := .int 7) (C := RX11) (T := TX11) (N := 49) hx hb hg inGX11 hown hKN.1 hP 0 rfl rfl 3 (by decide) (hg _ kw_1211) (fun _ h9 => h9) rfl dX11_four_12 ?_
  refine lv_iload_n hx hb dX11_four_15 rfl (lv_at hl 2 rfl) ?_
  refine lv_iload_n hx hb dX11_four_16 rfl (lv_at hl 0 rfl) ?_
  refine lv_ishr hx hb dX11_four_17 ?_
  refine lv_topi (fun v20 ev20 => ?_)
  refine lv_i2b (v := v20.toInt8.toInt32) hx hb dX11_four_18 rfl ?_
  refine lv_topi (fun v22 ev22 => ?_)
  refine va_bast hx hb hKN.1 hP hD hS 1 2 rfl rfl (show ¬ ((7 : Int32) < 0 ∨ 400 ≤ (7 : Int32).toNatClampNeg) by decide) dX11_four_19 (fun H locs hP hD hS => ?_)
  obtain ⟨f23, hP, hD⟩ : ∃ f23 : Nat → Int32, va_P D vwCl [(o, .inr (11, (.ref (a 0) :: .ref (a 1) :: .ref (a 2) :: .int 7 :: .ref (a 3) :: .ref (a 4) :: .ref (a 5) :: .ref (a 6) :: .ref (a 7) :: .ref (a 8) :: .ref (a 9) :: .ref (a 10) :: .ref (a 11) :: .ref (a 12) :: .ref (a 13) :: .ref (a 14) :: .int 0 :: .int 0 :: .int 0 :: .int 0 :: .int 0 :: .int 0 :: .int 0 :: .ref (a 15) :: .int 0 :: .ref (a 16) :: .int 0 :: .ref (a 17) :: .ref (a 18) :: .int 0 :: .long 0 :: .long 0 :: .int 0 :: .long 0 :: .int 0 :: .int 0 :: .int 0 :: .long 0 :: .long 0 :: .int 0 :: .ref (a 19) :: .ref (a 20) :: .ref (a 21) :: .ref (a 22) :: .ref (a 23) :: .ref (a 24) :: .ref (a 25) :: .ref (a 26) :: .ref (a 27) :: []))), ((a 2), .inl (Y 2, 400, .inl f23))] H ∧ va_D A [(o, .inr (11, (.ref (a 0) :: .ref (a 1) :: .ref (a 2) :: .int 7 :: .ref (a 3) :: .ref (a 4) :: .ref (a 5) :: .ref (a 6) :: .ref (a 7) :: .ref (a 8) :: .ref (a 9) :: .ref (a 10) :: .ref (a 11) :: .ref (a 12) :: .ref (a 13) :: .ref (a 14) :: .int 0 :: .int 0 :: .int 0 :: .int 0 :: .int 0 :: .int 0 :: .int 0 :: .ref (a 15) :: .int 0 :: .ref (a 16) :: .int 0 :: .ref (a 17) :: .ref (a 18) :: .int 0 :: .long 0 :: .long 0 :: .int 0 :: .long 0 :: .int 0 :: .int 0 :: .int 0 :: .long 0 :: .long 0 :: .int 0 :: .ref (a 19) :: .ref (a 20) :: .ref (a 21) :: .ref (a 22) :: .ref (a 23) :: .ref (a 24) :: .ref (a 25) :: .ref (a 26) :: .ref (a 27) :: []))), ((a 2), .inl (Y 2, 400, .inl f23))] := ⟨_, hP, hD⟩
  refine lv_aload_n hx hb dX11_four_20 rfl (lv_at hl 1 rfl) ?_
  refine lv_dup hx hb dX11_four_21 rfl ?_
  refine va_get (D := D) (ci := 11) (v := .int 7) (C := RX11) (T := TX11) (N := 49) hx hb hg inGX11 hown hKN.1 hP 0 rfl rfl 3 (by decide) (hg _ kw_1211) (fun _ h9 => h9) rfl dX11_four_22 ?_
  refine lv_iconst (v := 1) hx hb dX11_four_25 (by decide) ?_
  refine lv_iadd hx hb dX11_four_26 ?_
  refine lv_topi (fun z24 ez24 => ?_)
  obtain rfl : z24 = 8 := ez24.trans (by decide)
  refine va_put (D := D) (ci := 11) (v := .int 8) (ty := .int) (C := RX11) (T := TX11) (N := 49) hx hb hg inGX11 tyX11 tyX11_ok nmX11 hown hKN.1 hP hD hS 0 rfl rfl 3 (by decide) (hg _ kw_1211) (fun _ h9 => h9) rfl (by decide +kernel) rfl rfl (Nat.le_of_ble_eq_true rfl) dX11_four_27 (fun H locs hP hD hS => ?_)
  have hP : va_P D vwCl [(o, .inr (11, (.ref (a 0) :: .ref (a 1) :: .ref (a 2) :: .int 8 :: .ref (a 3) :: .ref (a 4) :: .ref (a 5) :: .ref (a 6) :: .ref (a 7) :: .ref (a 8) :: .ref (a 9) :: .ref (a 10) :: .ref (a 11) :: .ref (a 12) :: .ref (a 13) :: .ref (a 14) :: .int 0 :: .int 0 :: .int 0 :: .int 0 :: .int 0 :: .int 0 :: .int 0 :: .ref (a 15) :: .int 0 :: .ref (a 16) :: .int 0 :: .ref (a 17) :: .ref (a 18) :: .int 0 :: .long 0 :: .long 0 :: .int 0 :: .long 0 :: .int 0 :: .int 0 :: .int 0 :: .long 0 :: .long 0 :: .int 0 :: .ref (a 19) :: .ref (a 20) :: .ref (a 21) :: .ref (a 22) :: .ref (a 23) :: .ref (a 24) :: .ref (a 25) :: .ref (a 26) :: .ref (a 27) :: []))), ((a 2), .inl (Y 2, 400, .inl f23))] H := hP
  have hD : va_D A [(o, .inr (11, (.ref (a 0) :: .ref (a 1) :: .ref (a 2) :: .int 8 :: .ref (a 3) :: .ref (a 4) :: .ref (a 5) :: .ref (a 6) :: .ref (a 7) :: .ref (a 8) :: .ref (a 9) :: .ref (a 10) :: .ref (a 11) :: .ref (a 12) :: .ref (a 13) :: .ref (a 14) :: .int 0 :: .int 0 :: .int 0 :: .int 0 :: .int 0 :: .int 0 :: .int 0 :: .ref (a 15) :: .int 0 :: .ref (a 16) :: .int 0 :: .ref (a 17) :: .ref (a 18) :: .int 0 :: .long 0 :: .long 0 :: .int 0 :: .long 0 :: .int 0 :: .int 0 :: .int 0 :: .long 0 :: .long 0 :: .int 0 :: .ref (a 19) :: .ref (a 20) :: .ref (a 21) :: .ref (a 22) :: .ref (a 23) :: .ref (a 24) :: .ref (a 25) :: .ref (a 26) :: .ref (a 27) :: []))), ((a 2), .inl (Y 2, 400, .inl f23))] := hD
  refine lv_iinc (v := (-8)) (lv' := [(2, .int (-8)), (0, .ref o), (1, .int x)]) hx hb dX11_four_30 hl (k := 0) rfl (by decide) (by decide) rfl (fun ls hl => ?_)
  refine lv_goto (tgt := 3) hx hb dX11_four_33 (by decide) ?_
  refine lv_iload_n hx hb dX11_four_3 rfl (lv_at hl 0 rfl) ?_
  refine lv_if_lt (tgt := 36) hx hb dX11_four_4 (by decide) (fun c25 => ?_) (fun c25 => ?_)
  rotate_left
  · exact absurd c25 (by decide)
  refine W.widen (k := 0) (n := 0) (Nat.le_of_ble_eq_true rfl) (Nat.le_of_ble_eq_true rfl) ?_
  exact W.vret hx hb hr (fun t ht hW => ⟨⟨f23, rfl, trivial, CB.mk ht (hP.sub [0, 1] rfl) (hD.sub [0, 1] (by decide) rfl)⟩, hS.F ht⟩) hS.2.2 dX11_four_36
set_option maxHeartbeats 4000000 in
set_option maxRecDepth 100000 in
theorem m_four8 (l : Launch) (D : va_G) (Y : Nat → ClassId) (Z : Nat → Nat) (sz : Nat) (o : Nat) (a : Nat → Nat) (x : Int32) (f : Nat → Int32) : Met l yX11_four (.code yX11_four cX11_four 3 none :: GW) ({ frames := 0, cells := 0, slots := 0, locals := 0 }) (va_Pc [.ref o, .int x] (CP D Y Z [(o, .inr (11, (.ref (a 0) :: .ref (a 1) :: .ref (a 2) :: .int 8 :: .ref (a 3) :: .ref (a 4) :: .ref (a 5) :: .ref (a 6) :: .ref (a 7) :: .ref (a 8) :: .ref (a 9) :: .ref (a 10) :: .ref (a 11) :: .ref (a 12) :: .ref (a 13) :: .ref (a 14) :: .int 0 :: .int 0 :: .int 0 :: .int 0 :: .int 0 :: .int 0 :: .int 0 :: .ref (a 15) :: .int 0 :: .ref (a 16) :: .int 0 :: .ref (a 17) :: .ref (a 18) :: .int 0 :: .long 0 :: .long 0 :: .int 0 :: .long 0 :: .int 0 :: .int 0 :: .int 0 :: .long 0 :: .long 0 :: .int 0 :: .ref (a 19) :: .ref (a 20) :: .ref (a 21) :: .ref (a 22) :: .ref (a 23) :: .ref (a 24) :: .ref (a 25) :: .ref (a 26) :: .ref (a 27) :: []))), ((a 2), .inl (Y 2, 400, .inl f))] sz)) (QG (S := (Nat → Int32)) (fun _ => none) (fun _ => True) (fun u => CB D ((fun u => [(o, .inr (11, (.ref (a 0) :: .ref (a 1) :: .ref (a 2) :: .int 12 :: .ref (a 3) :: .ref (a 4) :: .ref (a 5) :: .ref (a 6) :: .ref (a 7) :: .ref (a 8) :: .ref (a 9) :: .ref (a 10) :: .ref (a 11) :: .ref (a 12) :: .ref (a 13) :: .ref (a 14) :: .int 0 :: .int 0 :: .int 0 :: .int 0 :: .int 0 :: .int 0 :: .int 0 :: .ref (a 15) :: .int 0 :: .ref (a 16) :: .int 0 :: .ref (a 17) :: .ref (a 18) :: .int 0 :: .long 0 :: .long 0 :: .int 0 :: .long 0 :: .int 0 :: .int 0 :: .int 0 :: .long 0 :: .long 0 :: .int 0 :: .ref (a 19) :: .ref (a 20) :: .ref (a 21) :: .ref (a 22) :: .ref (a 23) :: .ref (a 24) :: .ref (a 25) :: .ref (a 26) :: .ref (a 27) :: []))), ((a 2), .inl (Y 2, 400, .inl u))]) u) (va_A [(o, .inr (11, (.ref (a 0) :: .ref (a 1) :: .ref (a 2) :: .int 8 :: .ref (a 3) :: .ref (a 4) :: .ref (a 5) :: .ref (a 6) :: .ref (a 7) :: .ref (a 8) :: .ref (a 9) :: .ref (a 10) :: .ref (a 11) :: .ref (a 12) :: .ref (a 13) :: .ref (a 14) :: .int 0 :: .int 0 :: .int 0 :: .int 0 :: .int 0 :: .int 0 :: .int 0 :: .ref (a 15) :: .int 0 :: .ref (a 16) :: .int 0 :: .ref (a 17) :: .ref (a 18) :: .int 0 :: .long 0 :: .long 0 :: .int 0 :: .long 0 :: .int 0 :: .int 0 :: .int 0 :: .long 0 :: .long 0 :: .int 0 :: .ref (a 19) :: .ref (a 20) :: .ref (a 21) :: .ref (a 22) :: .ref (a 23) :: .ref (a 24) :: .ref (a 25) :: .ref (a 26) :: .ref (a 27) :: []))), ((a 2), .inl (Y 2, 400, .inl f))] sz)) (va_A [(o, .inr (11, (.ref (a 0) :: .ref (a 1) :: .ref (a 2) :: .int 8 :: .ref (a 3) :: .ref (a 4) :: .ref (a 5) :: .ref (a 6) :: .ref (a 7) :: .ref (a 8) :: .ref (a 9) :: .ref (a 10) :: .ref (a 11) :: .ref (a 12) :: .ref (a 13) :: .ref (a 14) :: .int 0 :: .int 0 :: .int 0 :: .int 0 :: .int 0 :: .int 0 :: .int 0 :: .ref (a 15) :: .int 0 :: .ref (a 16) :: .int 0 :: .ref (a 17) :: .ref (a 18) :: .int 0 :: .long 0 :: .long 0 :: .int 0 :: .long 0 :: .int 0 :: .int 0 :: .int 0 :: .long 0 :: .long 0 :: .int 0 :: .ref (a 19) :: .ref (a 20) :: .ref (a 21) :: .ref (a 22) :: .ref (a 23) :: .ref (a 24) :: .ref (a 25) :: .ref (a 26) :: .ref (a 27) :: []))), ((a 2), .inl (Y 2, 400, .inl f))] sz)) 0 0 (va_A [(o, .inr (11, (.ref (a 0) :: .ref (a 1) :: .ref (a 2) :: .int 8 :: .ref (a 3) :: .ref (a 4) :: .ref (a 5) :: .ref (a 6) :: .ref (a 7) :: .ref (a 8) :: .ref (a 9) :: .ref (a 10) :: .ref (a 11) :: .ref (a 12) :: .ref (a 13) :: .ref (a 14) :: .int 0 :: .int 0 :: .int 0 :: .int 0 :: .int 0 :: .int 0 :: .int 0 :: .ref (a 15) :: .int 0 :: .ref (a 16) :: .int 0 :: .ref (a 17) :: .ref (a 18) :: .int 0 :: .long 0 :: .long 0 :: .int 0 :: .long 0 :: .int 0 :: .int 0 :: .int 0 :: .long 0 :: .long 0 :: .int 0 :: .ref (a 19) :: .ref (a 20) :: .ref (a 21) :: .ref (a 22) :: .ref (a 23) :: .ref (a 24) :: .ref (a 25) :: .ref (a 26) :: .ref (a 27) :: []))), ((a 2), .inl (Y 2, 400, .inl f))] sz) := by
  refine Met.ofW (cc := cX11_four) (maxL := 3) (ret := none) (by decide) rfl ?_
  intro p e s m args below meth c s₁ B hml hv
  obtain ⟨rfl, hsz, hP, hKN, hD0⟩ := hv
  have hx := B.exec
  have hb := B.bytes
  have hr := B.returns
  have hts := atoms_spec (ws := .code yX11_four cX11_four 3 none :: GW) B.pre
  have hg : ∀ w ∈ GW, w.before _ s = true := fun w h => hts w (List.mem_cons_of_mem _ h)
  have hown : s.vm.findClass RX11 = some m.cls := findClass_of_methodNamed B.named
  have hlocks := B.notSynchronized
  subst hsz
  have hD := hD0.self (sz := s.heap.size)
  generalize hAe : va_A [(o, .inr (11, (.ref (a 0) :: .ref (a 1) :: .ref (a 2) :: .int 8 :: .ref (a 3) :: .ref (a 4) :: .ref (a 5) :: .ref (a 6) :: .ref (a 7) :: .ref (a 8) :: .ref (a 9) :: .ref (a 10) :: .ref (a 11) :: .ref (a 12) :: .ref (a 13) :: .ref (a 14) :: .int 0 :: .int 0 :: .int 0 :: .int 0 :: .int 0 :: .int 0 :: .int 0 :: .ref (a 15) :: .int 0 :: .ref (a 16) :: .int 0 :: .ref (a 17) :: .ref (a 18) :: .int 0 :: .long 0 :: .long 0 :: .int 0 :: .long 0 :: .int 0 :: .int 0 :: .int 0 :: .long 0 :: .long 0 :: .int 0 :: .ref (a 19) :: .ref (a 20) :: .ref (a 21) :: .ref (a 22) :: .ref (a 23) :: .ref (a 24) :: .ref (a 25) :: .ref (a 26) :: .ref (a 27) :: []))), ((a 2), .inl (Y 2, 400, .inl f))] s.heap.size = A at hD ⊢
  have hA : ∀ q : Nat, s.heap.size ≤ q → A q := fun q h => by rw [← hAe]; exact Or.inr h
  have hl := lv_entry ([.ref o, .int x]) (n := 3) (Nat.le_of_ble_eq_true rfl)
  rw [lg_entry_eq]
  generalize (lg_sl ([.ref o, .int x]) ++ List.replicate (3 - (lg_sl ([.ref o, .int x])).length) Slot.unset).toArray = ls at hl ⊢
  have hl : lv_has ls 3 [(0, .ref o), (1, .int x)] := hl
  refine w_start (A0 := A) hP (fun H locs hP hS => ?_)
  refine lv_bipush (v := 24) hx hb dX11_four_0 (by decide) ?_
  refine lv_istore_n (lv' := [(2, .int 24), (0, .ref o), (1, .int x)]) hx hb dX11_four_2 rfl hl (by decide) rfl (fun ls hl => ?_)
  refine lv_iload_n hx hb dX11_four_3 rfl (lv_at hl 0 rfl) ?_
  refine lv_if_lt (tgt := 36) hx hb dX11_four_4 (by decide) (fun c1 => ?_) (fun c1 => ?_)
  · exact absurd c1 (by decide)
  refine lv_aload_n hx hb dX11_four_7 rfl (lv_at hl 1 rfl) ?_
  refine va_get (D := D) (ci := 11) (v := .ref (a 2)) (C := RX11) (T := TX11) (N := 49) hx hb hg inGX11 hown hKN.1 hP 0 rfl rfl 2 (by decide) (hg _ kw_1210) (fun _ h9 => h9) rfl dX11_four_8 ?_
  refine lv_aload_n hx hb dX11_four_11 rfl (lv_at hl 1 rfl) ?_
  refine va_get (D := D) (ci := 11) (v := .int 8) (C := RX11) (T := TX11) (N := 49) hx hb hg inGX11 hown hKN.1 hP 0 rfl rfl 3 (by decide) (hg _ kw_1211) (fun _ h9 => h9) rfl dX11_four_12 ?_
  refine lv_iload_n hx hb dX11_four_15 rfl (lv_at hl 2 rfl) ?_
  refine lv_iload_n hx hb dX11_four_16 rfl (lv_at hl 0 rfl) ?_
  refine lv_ishr hx hb dX11_four_17 ?_
  refine lv_topi (fun v2 ev2 => ?_)
  refine lv_i2b (v := v2.toInt8.toInt32) hx hb dX11_four_18 rfl ?_
  refine lv_topi (fun v4 ev4 => ?_)
  refine va_bast hx hb hKN.1 hP hD hS 1 2 rfl rfl (show ¬ ((8 : Int32) < 0 ∨ 400 ≤ (8 : Int32).toNatClampNeg) by decide) dX11_four_19 (fun H locs hP hD hS => ?_)
  obtain ⟨f5, hP, hD⟩ : ∃ f5 : Nat → Int32, va_P D vwCl [(o, .inr (11, (.ref (a 0) :: .ref (a 1) :: .ref (a 2) :: .int 8 :: .ref (a 3) :: .ref (a 4) :: .ref (a 5) :: .ref (a 6) :: .ref (a 7) :: .ref (a 8) :: .ref (a 9) :: .ref (a 10) :: .ref (a 11) :: .ref (a 12) :: .ref (a 13) :: .ref (a 14) :: .int 0 :: .int 0 :: .int 0 :: .int 0 :: .int 0 :: .int 0 :: .int 0 :: .ref (a 15) :: .int 0 :: .ref (a 16) :: .int 0 :: .ref (a 17) :: .ref (a 18) :: .int 0 :: .long 0 :: .long 0 :: .int 0 :: .long 0 :: .int 0 :: .int 0 :: .int 0 :: .long 0 :: .long 0 :: .int 0 :: .ref (a 19) :: .ref (a 20) :: .ref (a 21) :: .ref (a 22) :: .ref (a 23) :: .ref (a 24) :: .ref (a 25) :: .ref (a 26) :: .ref (a 27) :: []))), ((a 2), .inl (Y 2, 400, .inl f5))] H ∧ va_D A [(o, .inr (11, (.ref (a 0) :: .ref (a 1) :: .ref (a 2) :: .int 8 :: .ref (a 3) :: .ref (a 4) :: .ref (a 5) :: .ref (a 6) :: .ref (a 7) :: .ref (a 8) :: .ref (a 9) :: .ref (a 10) :: .ref (a 11) :: .ref (a 12) :: .ref (a 13) :: .ref (a 14) :: .int 0 :: .int 0 :: .int 0 :: .int 0 :: .int 0 :: .int 0 :: .int 0 :: .ref (a 15) :: .int 0 :: .ref (a 16) :: .int 0 :: .ref (a 17) :: .ref (a 18) :: .int 0 :: .long 0 :: .long 0 :: .int 0 :: .long 0 :: .int 0 :: .int 0 :: .int 0 :: .long 0 :: .long 0 :: .int 0 :: .ref (a 19) :: .ref (a 20) :: .ref (a 21) :: .ref (a 22) :: .ref (a 23) :: .ref (a 24) :: .ref (a 25) :: .ref (a 26) :: .ref (a 27) :: []))), ((a 2), .inl (Y 2, 400, .inl f5))] := ⟨_, hP, hD⟩
  refine lv_aload_n hx hb dX11_four_20 rfl (lv_at hl 1 rfl) ?_
  refine lv_dup hx hb dX11_four_21 rfl ?_
  refine va_get (D := D) (ci := 11) (v := .int 8) (C := RX11) (T := TX11) (N := 49) hx hb hg inGX11 hown hKN.1 hP 0 rfl rfl 3 (by decide) (hg _ kw_1211) (fun _ h9 => h9) rfl dX11_four_22 ?_
  refine lv_iconst (v := 1) hx hb dX11_four_25 (by decide) ?_
  refine lv_iadd hx hb dX11_four_26 ?_
  refine lv_topi (fun z6 ez6 => ?_)
  obtain rfl : z6 = 9 := ez6.trans (by decide)
  refine va_put (D := D) (ci := 11) (v := .int 9) (ty := .int) (C := RX11) (T := TX11) (N := 49) hx hb hg inGX11 tyX11 tyX11_ok nmX11 hown hKN.1 hP hD hS 0 rfl rfl 3 (by decide) (hg _ kw_1211) (fun _ h9 => h9) rfl (by decide +kernel) rfl rfl (Nat.le_of_ble_eq_true rfl) dX11_four_27 (fun H locs hP hD hS => ?_)
  have hP : va_P D vwCl [(o, .inr (11, (.ref (a 0) :: .ref (a 1) :: .ref (a 2) :: .int 9 :: .ref (a 3) :: .ref (a 4) :: .ref (a 5) :: .ref (a 6) :: .ref (a 7) :: .ref (a 8) :: .ref (a 9) :: .ref (a 10) :: .ref (a 11) :: .ref (a 12) :: .ref (a 13) :: .ref (a 14) :: .int 0 :: .int 0 :: .int 0 :: .int 0 :: .int 0 :: .int 0 :: .int 0 :: .ref (a 15) :: .int 0 :: .ref (a 16) :: .int 0 :: .ref (a 17) :: .ref (a 18) :: .int 0 :: .long 0 :: .long 0 :: .int 0 :: .long 0 :: .int 0 :: .int 0 :: .int 0 :: .long 0 :: .long 0 :: .int 0 :: .ref (a 19) :: .ref (a 20) :: .ref (a 21) :: .ref (a 22) :: .ref (a 23) :: .ref (a 24) :: .ref (a 25) :: .ref (a 26) :: .ref (a 27) :: []))), ((a 2), .inl (Y 2, 400, .inl f5))] H := hP
  have hD : va_D A [(o, .inr (11, (.ref (a 0) :: .ref (a 1) :: .ref (a 2) :: .int 9 :: .ref (a 3) :: .ref (a 4) :: .ref (a 5) :: .ref (a 6) :: .ref (a 7) :: .ref (a 8) :: .ref (a 9) :: .ref (a 10) :: .ref (a 11) :: .ref (a 12) :: .ref (a 13) :: .ref (a 14) :: .int 0 :: .int 0 :: .int 0 :: .int 0 :: .int 0 :: .int 0 :: .int 0 :: .ref (a 15) :: .int 0 :: .ref (a 16) :: .int 0 :: .ref (a 17) :: .ref (a 18) :: .int 0 :: .long 0 :: .long 0 :: .int 0 :: .long 0 :: .int 0 :: .int 0 :: .int 0 :: .long 0 :: .long 0 :: .int 0 :: .ref (a 19) :: .ref (a 20) :: .ref (a 21) :: .ref (a 22) :: .ref (a 23) :: .ref (a 24) :: .ref (a 25) :: .ref (a 26) :: .ref (a 27) :: []))), ((a 2), .inl (Y 2, 400, .inl f5))] := hD
  refine lv_iinc (v := 16) (lv' := [(2, .int 16), (0, .ref o), (1, .int x)]) hx hb dX11_four_30 hl (k := 0) rfl (by decide) (by decide) rfl (fun ls hl => ?_)
  refine lv_goto (tgt := 3) hx hb dX11_four_33 (by decide) ?_
  refine lv_iload_n hx hb dX11_four_3 rfl (lv_at hl 0 rfl) ?_
  refine lv_if_lt (tgt := 36) hx hb dX11_four_4 (by decide) (fun c7 => ?_) (fun c7 => ?_)
  · exact absurd c7 (by decide)
  refine lv_aload_n hx hb dX11_four_7 rfl (lv_at hl 1 rfl) ?_
  refine va_get (D := D) (ci := 11) (v := .ref (a 2)) (C := RX11) (T := TX11) (N := 49) hx hb hg inGX11 hown hKN.1 hP 0 rfl rfl 2 (by decide) (hg _ kw_1210) (fun _ h9 => h9) rfl dX11_four_8 ?_
  refine lv_aload_n hx hb dX11_four_11 rfl (lv_at hl 1 rfl) ?_
  refine va_get (D := D) (ci := 11) (v := .int 9) (C := RX11) (T := TX11) (N := 49) hx hb hg inGX11 hown hKN.1 hP 0 rfl rfl 3 (by decide) (hg _ kw_1211) (fun _ h9 => h9) rfl dX11_four_12 ?_
  refine lv_iload_n hx hb dX11_four_15 rfl (lv_at hl 2 rfl) ?_
  refine lv_iload_n hx hb dX11_four_16 rfl (lv_at hl 0 rfl) ?_
  refine lv_ishr hx hb dX11_four_17 ?_
  refine lv_topi (fun v8 ev8 => ?_)
  refine lv_i2b (v := v8.toInt8.toInt32) hx hb dX11_four_18 rfl ?_
  refine lv_topi (fun v10 ev10 => ?_)
  refine va_bast hx hb hKN.1 hP hD hS 1 2 rfl rfl (show ¬ ((9 : Int32) < 0 ∨ 400 ≤ (9 : Int32).toNatClampNeg) by decide) dX11_four_19 (fun H locs hP hD hS => ?_)
  obtain ⟨f11, hP, hD⟩ : ∃ f11 : Nat → Int32, va_P D vwCl [(o, .inr (11, (.ref (a 0) :: .ref (a 1) :: .ref (a 2) :: .int 9 :: .ref (a 3) :: .ref (a 4) :: .ref (a 5) :: .ref (a 6) :: .ref (a 7) :: .ref (a 8) :: .ref (a 9) :: .ref (a 10) :: .ref (a 11) :: .ref (a 12) :: .ref (a 13) :: .ref (a 14) :: .int 0 :: .int 0 :: .int 0 :: .int 0 :: .int 0 :: .int 0 :: .int 0 :: .ref (a 15) :: .int 0 :: .ref (a 16) :: .int 0 :: .ref (a 17) :: .ref (a 18) :: .int 0 :: .long 0 :: .long 0 :: .int 0 :: .long 0 :: .int 0 :: .int 0 :: .int 0 :: .long 0 :: .long 0 :: .int 0 :: .ref (a 19) :: .ref (a 20) :: .ref (a 21) :: .ref (a 22) :: .ref (a 23) :: .ref (a 24) :: .ref (a 25) :: .ref (a 26) :: .ref (a 27) :: []))), ((a 2), .inl (Y 2, 400, .inl f11))] H ∧ va_D A [(o, .inr (11, (.ref (a 0) :: .ref (a 1) :: .ref (a 2) :: .int 9 :: .ref (a 3) :: .ref (a 4) :: .ref (a 5) :: .ref (a 6) :: .ref (a 7) :: .ref (a 8) :: .ref (a 9) :: .ref (a 10) :: .ref (a 11) :: .ref (a 12) :: .ref (a 13) :: .ref (a 14) :: .int 0 :: .int 0 :: .int 0 :: .int 0 :: .int 0 :: .int 0 :: .int 0 :: .ref (a 15) :: .int 0 :: .ref (a 16) :: .int 0 :: .ref (a 17) :: .ref (a 18) :: .int 0 :: .long 0 :: .long 0 :: .int 0 :: .long 0 :: .int 0 :: .int 0 :: .int 0 :: .long 0 :: .long 0 :: .int 0 :: .ref (a 19) :: .ref (a 20) :: .ref (a 21) :: .ref (a 22) :: .ref (a 23) :: .ref (a 24) :: .ref (a 25) :: .ref (a 26) :: .ref (a 27) :: []))), ((a 2), .inl (Y 2, 400, .inl f11))] := ⟨_, hP, hD⟩
  refine lv_aload_n hx hb dX11_four_20 rfl (lv_at hl 1 rfl) ?_
  refine lv_dup hx hb dX11_four_21 rfl ?_
  refine va_get (D := D) (ci := 11) (v := .int 9) (C := RX11) (T := TX11) (N := 49) hx hb hg inGX11 hown hKN.1 hP 0 rfl rfl 3 (by decide) (hg _ kw_1211) (fun _ h9 => h9) rfl dX11_four_22 ?_
  refine lv_iconst (v := 1) hx hb dX11_four_25 (by decide) ?_
  refine lv_iadd hx hb dX11_four_26 ?_
  refine lv_topi (fun z12 ez12 => ?_)
  obtain rfl : z12 = 10 := ez12.trans (by decide)
  refine va_put (D := D) (ci := 11) (v := .int 10) (ty := .int) (C := RX11) (T := TX11) (N := 49) hx hb hg inGX11 tyX11 tyX11_ok nmX11 hown hKN.1 hP hD hS 0 rfl rfl 3 (by decide) (hg _ kw_1211) (fun _ h9 => h9) rfl (by decide +kernel) rfl rfl (Nat.le_of_ble_eq_true rfl) dX11_four_27 (fun H locs hP hD hS => ?_)
  have hP : va_P D vwCl [(o, .inr (11, (.ref (a 0) :: .ref (a 1) :: .ref (a 2) :: .int 10 :: .ref (a 3) :: .ref (a 4) :: .ref (a 5) :: .ref (a 6) :: .ref (a 7) :: .ref (a 8) :: .ref (a 9) :: .ref (a 10) :: .ref (a 11) :: .ref (a 12) :: .ref (a 13) :: .ref (a 14) :: .int 0 :: .int 0 :: .int 0 :: .int 0 :: .int 0 :: .int 0 :: .int 0 :: .ref (a 15) :: .int 0 :: .ref (a 16) :: .int 0 :: .ref (a 17) :: .ref (a 18) :: .int 0 :: .long 0 :: .long 0 :: .int 0 :: .long 0 :: .int 0 :: .int 0 :: .int 0 :: .long 0 :: .long 0 :: .int 0 :: .ref (a 19) :: .ref (a 20) :: .ref (a 21) :: .ref (a 22) :: .ref (a 23) :: .ref (a 24) :: .ref (a 25) :: .ref (a 26) :: .ref (a 27) :: []))), ((a 2), .inl (Y 2, 400, .inl f11))] H := hP
  have hD : va_D A [(o, .inr (11, (.ref (a 0) :: .ref (a 1) :: .ref (a 2) :: .int 10 :: .ref (a 3) :: .ref (a 4) :: .ref (a 5) :: .ref (a 6) :: .ref (a 7) :: .ref (a 8) :: .ref (a 9) :: .ref (a 10) :: .ref (a 11) :: .ref (a 12) :: .ref (a 13) :: .ref (a 14) :: .int 0 :: .int 0 :: .int 0 :: .int 0 :: .int 0 :: .int 0 :: .int 0 :: .ref (a 15) :: .int 0 :: .ref (a 16) :: .int 0 :: .ref (a 17) :: .ref (a 18) :: .int 0 :: .long 0 :: .long 0 :: .int 0 :: .long 0 :: .int 0 :: .int 0 :: .int 0 :: .long 0 :: .long 0 :: .int 0 :: .ref (a 19) :: .ref (a 20) :: .ref (a 21) :: .ref (a 22) :: .ref (a 23) :: .ref (a 24) :: .ref (a 25) :: .ref (a 26) :: .ref (a 27) :: []))), ((a 2), .inl (Y 2, 400, .inl f11))] := hD
  refine lv_iinc (v := 8) (lv' := [(2, .int 8), (0, .ref o), (1, .int x)]) hx hb dX11_four_30 hl (k := 0) rfl (by decide) (by decide) rfl (fun ls hl => ?_)
  refine lv_goto (tgt := 3) hx hb dX11_four_33 (by decide) ?_
  refine lv_iload_n hx hb dX11_four_3 rfl (lv_at hl 0 rfl) ?_
  refine lv_if_lt (tgt := 36) hx hb dX11_four_4 (by decide) (fun c13 => ?_) (fun c13 => ?_)
  · exact absurd c13 (by decide)
  refine lv_aload_n hx hb dX11_four_7 rfl (lv_at hl 1 rfl) ?_
  refine va_get (D := D) (ci := 11) (v := .ref (a 2)) (C := RX11) (T := TX11) (N := 49) hx hb hg inGX11 hown hKN.1 hP 0 rfl rfl 2 (by decide) (hg _ kw_1210) (fun _ h9 => h9) rfl dX11_four_8 ?_
  refine lv_aload_n hx hb dX11_four_11 rfl (lv_at hl 1 rfl) ?_
  refine va_get (D := D) (ci := 11) (v := .int 10) (C := RX11) (T := TX11) (N := 49) hx hb hg inGX11 hown hKN.1 hP 0 rfl rfl 3 (by decide) (hg _ kw_1211) (fun _ h9 => h9) rfl dX11_four_12 ?_
  refine lv_iload_n hx hb dX11_four_15 rfl (lv_at hl 2 rfl) ?_
  refine lv_iload_n hx hb dX11_four_16 rfl (lv_at hl 0 rfl) ?_
  refine lv_ishr hx hb dX11_four_17 ?_
  refine lv_topi (fun v14 ev14 => ?_)
  refine lv_i2b (v := v14.toInt8.toInt32) hx hb dX11_four_18 rfl ?_
  refine lv_topi (fun v16 ev16 => ?_)
  refine va_bast hx hb hKN.1 hP hD hS 1 2 rfl rfl (show ¬ ((10 : Int32) < 0 ∨ 400 ≤ (10 : Int32).toNatClampNeg) by decide) dX11_four_19 (fun H locs hP hD hS => ?_)
  obtain ⟨f17, hP, hD⟩ : ∃ f17 : Nat → Int32, va_P D vwCl [(o, .inr (11, (.ref (a 0) :: .ref (a 1) :: .ref (a 2) :: .int 10 :: .ref (a 3) :: .ref (a 4) :: .ref (a 5) :: .ref (a 6) :: .ref (a 7) :: .ref (a 8) :: .ref (a 9) :: .ref (a 10) :: .ref (a 11) :: .ref (a 12) :: .ref (a 13) :: .ref (a 14) :: .int 0 :: .int 0 :: .int 0 :: .int 0 :: .int 0 :: .int 0 :: .int 0 :: .ref (a 15) :: .int 0 :: .ref (a 16) :: .int 0 :: .ref (a 17) :: .ref (a 18) :: .int 0 :: .long 0 :: .long 0 :: .int 0 :: .long 0 :: .int 0 :: .int 0 :: .int 0 :: .long 0 :: .long 0 :: .int 0 :: .ref (a 19) :: .ref (a 20) :: .ref (a 21) :: .ref (a 22) :: .ref (a 23) :: .ref (a 24) :: .ref (a 25) :: .ref (a 26) :: .ref (a 27) :: []))), ((a 2), .inl (Y 2, 400, .inl f17))] H ∧ va_D A [(o, .inr (11, (.ref (a 0) :: .ref (a 1) :: .ref (a 2) :: .int 10 :: .ref (a 3) :: .ref (a 4) :: .ref (a 5) :: .ref (a 6) :: .ref (a 7) :: .ref (a 8) :: .ref (a 9) :: .ref (a 10) :: .ref (a 11) :: .ref (a 12) :: .ref (a 13) :: .ref (a 14) :: .int 0 :: .int 0 :: .int 0 :: .int 0 :: .int 0 :: .int 0 :: .int 0 :: .ref (a 15) :: .int 0 :: .ref (a 16) :: .int 0 :: .ref (a 17) :: .ref (a 18) :: .int 0 :: .long 0 :: .long 0 :: .int 0 :: .long 0 :: .int 0 :: .int 0 :: .int 0 :: .long 0 :: .long 0 :: .int 0 :: .ref (a 19) :: .ref (a 20) :: .ref (a 21) :: .ref (a 22) :: .ref (a 23) :: .ref (a 24) :: .ref (a 25) :: .ref (a 26) :: .ref (a 27) :: []))), ((a 2), .inl (Y 2, 400, .inl f17))] := ⟨_, hP, hD⟩
  refine lv_aload_n hx hb dX11_four_20 rfl (lv_at hl 1 rfl) ?_
  refine lv_dup hx hb dX11_four_21 rfl ?_
  refine va_get (D := D) (ci := 11) (v := .int 10) (C := RX11) (T := TX11) (N := 49) hx hb hg inGX11 hown hKN.1 hP 0 rfl rfl 3 (by decide) (hg _ kw_1211) (fun _ h9 => h9) rfl dX11_four_22 ?_
  refine lv_iconst (v := 1) hx hb dX11_four_25 (by decide) ?_
  refine lv_iadd hx hb dX11_four_26 ?_
  refine lv_topi (fun z18 ez18 => ?_)
  obtain rfl : z18 = 11 := ez18.trans (by decide)
  refine va_put (D := D) (ci := 11) (v := .int 11) (ty := .int) (C := RX11) (T := TX11) (N := 49) hx hb hg inGX11 tyX11 tyX11_ok nmX11 hown hKN.1 hP hD hS 0 rfl rfl 3 (by decide) (hg _ kw_1211) (fun _ h9 => h9) rfl (by decide +kernel) rfl rfl (Nat.le_of_ble_eq_true rfl) dX11_four_27 (fun H locs hP hD hS => ?_)
  have hP : va_P D vwCl [(o, .inr (11, (.ref (a 0) :: .ref (a 1) :: .ref (a 2) :: .int 11 :: .ref (a 3) :: .ref (a 4) :: .ref (a 5) :: .ref (a 6) :: .ref (a 7) :: .ref (a 8) :: .ref (a 9) :: .ref (a 10) :: .ref (a 11) :: .ref (a 12) :: .ref (a 13) :: .ref (a 14) :: .int 0 :: .int 0 :: .int 0 :: .int 0 :: .int 0 :: .int 0 :: .int 0 :: .ref (a 15) :: .int 0 :: .ref (a 16) :: .int 0 :: .ref (a 17) :: .ref (a 18) :: .int 0 :: .long 0 :: .long 0 :: .int 0 :: .long 0 :: .int 0 :: .int 0 :: .int 0 :: .long 0 :: .long 0 :: .int 0 :: .ref (a 19) :: .ref (a 20) :: .ref (a 21) :: .ref (a 22) :: .ref (a 23) :: .ref (a 24) :: .ref (a 25) :: .ref (a 26) :: .ref (a 27) :: []))), ((a 2), .inl (Y 2, 400, .inl f17))] H := hP
  have hD : va_D A [(o, .inr (11, (.ref (a 0) :: .ref (a 1) :: .ref (a 2) :: .int 11 :: .ref (a 3) :: .ref (a 4) :: .ref (a 5) :: .ref (a 6) :: .ref (a 7) :: .ref (a 8) :: .ref (a 9) :: .ref (a 10) :: .ref (a 11) :: .ref (a 12) :: .ref (a 13) :: .ref (a 14) :: .int 0 :: .int 0 :: .int 0 :: .int 0 :: .int 0 :: .int 0 :: .int 0 :: .ref (a 15) :: .int 0 :: .ref (a 16) :: .int 0 :: .ref (a 17) :: .ref (a 18) :: .int 0 :: .long 0 :: .long 0 :: .int 0 :: .long 0 :: .int 0 :: .int 0 :: .int 0 :: .long 0 :: .long 0 :: .int 0 :: .ref (a 19) :: .ref (a 20) :: .ref (a 21) :: .ref (a 22) :: .ref (a 23) :: .ref (a 24) :: .ref (a 25) :: .ref (a 26) :: .ref (a 27) :: []))), ((a 2), .inl (Y 2, 400, .inl f17))] := hD
  refine lv_iinc (v := 0) (lv' := [(2, .int 0), (0, .ref o), (1, .int x)]) hx hb dX11_four_30 hl (k := 0) rfl (by decide) (by decide) rfl (fun ls hl => ?_)
  refine lv_goto (tgt := 3) hx hb dX11_four_33 (by decide) ?_
  refine lv_iload_n hx hb dX11_four_3 rfl (lv_at hl 0 rfl) ?_
  refine lv_if_lt (tgt := 36) hx hb dX11_four_4 (by decide) (fun c19 => ?_) (fun c19 => ?_)
  · exact absurd c19 (by decide)
  refine lv_aload_n hx hb dX11_four_7 rfl (lv_at hl 1 rfl) ?_
  refine va_get (D := D) (ci := 11) (v := .ref (a 2)) (C := RX11) (T := TX11) (N := 49) hx hb hg inGX11 hown hKN.1 hP 0 rfl rfl 2 (by decide) (hg _ kw_1210) (fun _ h9 => h9) rfl dX11_four_8 ?_
  refine lv_aload_n hx hb dX11_four_11 rfl (lv_at hl 1 rfl) ?_
  refine va_get (D := D) (ci := 11) (v := .int 11) (C := RX11) (T := TX11) (N := 49) hx hb hg inGX11 hown hKN.1 hP 0 rfl rfl 3 (by decide) (hg _ kw_1211) (fun _ h9 => h9) rfl dX11_four_12 ?_
  refine lv_iload_n hx hb dX11_four_15 rfl (lv_at hl 2 rfl) ?_
  refine lv_iload_n hx hb dX11_four_16 rfl (lv_at hl 0 rfl) ?_
  refine lv_ishr hx hb dX11_four_17 ?_
  refine lv_topi (fun v20 ev20 => ?_)
  refine lv_i2b (v := v20.toInt8.toInt32) hx hb dX11_four_18 rfl ?_
  refine lv_topi (fun v22 ev22 => ?_)
  refine va_bast hx hb hKN.1 hP hD hS 1 2 rfl rfl (show ¬ ((11 : Int32) < 0 ∨ 400 ≤ (11 : Int32).toNatClampNeg) by decide) dX11_four_19 (fun H locs hP hD hS => ?_)
  obtain ⟨f23, hP, hD⟩ : ∃ f23 : Nat → Int32, va_P D vwCl [(o, .inr (11, (.ref (a 0) :: .ref (a 1) :: .ref (a 2) :: .int 11 :: .ref (a 3) :: .ref (a 4) :: .ref (a 5) :: .ref (a 6) :: .ref (a 7) :: .ref (a 8) :: .ref (a 9) :: .ref (a 10) :: .ref (a 11) :: .ref (a 12) :: .ref (a 13) :: .ref (a 14) :: .int 0 :: .int 0 :: .int 0 :: .int 0 :: .int 0 :: .int 0 :: .int 0 :: .ref (a 15) :: .int 0 :: .ref (a 16) :: .int 0 :: .ref (a 17) :: .ref (a 18) :: .int 0 :: .long 0 :: .long 0 :: .int 0 :: .long 0 :: .int 0 :: .int 0 :: .int 0 :: .long 0 :: .long 0 :: .int 0 :: .ref (a 19) :: .ref (a 20) :: .ref (a 21) :: .ref (a 22) :: .ref (a 23) :: .ref (a 24) :: .ref (a 25) :: .ref (a 26) :: .ref (a 27) :: []))), ((a 2), .inl (Y 2, 400, .inl f23))] H ∧ va_D A [(o, .inr (11, (.ref (a 0) :: .ref (a 1) :: .ref (a 2) :: .int 11 :: .ref (a 3) :: .ref (a 4) :: .ref (a 5) :: .ref (a 6) :: .ref (a 7) :: .ref (a 8) :: .ref (a 9) :: .ref (a 10) :: .ref (a 11) :: .ref (a 12) :: .ref (a 13) :: .ref (a 14) :: .int 0 :: .int 0 :: .int 0 :: .int 0 :: .int 0 :: .int 0 :: .int 0 :: .ref (a 15) :: .int 0 :: .ref (a 16) :: .int 0 :: .ref (a 17) :: .ref (a 18) :: .int 0 :: .long 0 :: .long 0 :: .int 0 :: .long 0 :: .int 0 :: .int 0 :: .int 0 :: .long 0 :: .long 0 :: .int 0 :: .ref (a 19) :: .ref (a 20) :: .ref (a 21) :: .ref (a 22) :: .ref (a 23) :: .ref (a 24) :: .ref (a 25) :: .ref (a 26) :: .ref (a 27) :: []))), ((a 2), .inl (Y 2, 400, .inl f23))] := ⟨_, hP, hD⟩
  refine lv_aload_n hx hb dX11_four_20 rfl (lv_at hl 1 rfl) ?_
  refine lv_dup hx hb dX11_four_21 rfl ?_
  refine va_get (D := D) (ci := 11) (v := .int 11) (C := RX11) (T := TX11) (N := 49) hx hb hg inGX11 hown hKN.1 hP 0 rfl rfl 3 (by decide) (hg _ kw_1211) (fun _ h9 => h9) rfl dX11_four_22 ?_
  refine lv_iconst (v := 1) hx hb dX11_four_25 (by decide) ?_
  refine lv_iadd hx hb dX11_four_26 ?_
  refine lv_topi (fun z24 ez24 => ?_)
  obtain rfl : z24 = 12 := ez24.trans (by decide)
  refine va_put (D := D) (ci := 11) (v := .int 12) (ty := .int) (C := RX11) (T := TX11) (N := 49) hx hb hg inGX11 tyX11 tyX11_ok nmX11 hown hKN.1 hP hD hS 0 rfl rfl 3 (by decide) (hg _ kw_1211) (fun _ h9 => h9) rfl (by decide +kernel) rfl rfl (Nat.le_of_ble_eq_true rfl) dX11_four_27 (fun H locs hP hD hS => ?_)
  have hP : va_P D vwCl [(o, .inr (11, (.ref (a 0) :: .ref (a 1) :: .ref (a 2) :: .int 12 :: .ref (a 3) :: .ref (a 4) :: .ref (a 5) :: .ref (a 6) :: .ref (a 7) :: .ref (a 8) :: .ref (a 9) :: .ref (a 10) :: .ref (a 11) :: .ref (a 12) :: .ref (a 13) :: .ref (a 14) :: .int 0 :: .int 0 :: .int 0 :: .int 0 :: .int 0 :: .int 0 :: .int 0 :: .ref (a 15) :: .int 0 :: .ref (a 16) :: .int 0 :: .ref (a 17) :: .ref (a 18) :: .int 0 :: .long 0 :: .long 0 :: .int 0 :: .long 0 :: .int 0 :: .int 0 :: .int 0 :: .long 0 :: .long 0 :: .int 0 :: .ref (a 19) :: .ref (a 20) :: .ref (a 21) :: .ref (a 22) :: .ref (a 23) :: .ref (a 24) :: .ref (a 25) :: .ref (a 26) :: .ref (a 27) :: []))), ((a 2), .inl (Y 2, 400, .inl f23))] H := hP
  have hD : va_D A [(o, .inr (11, (.ref (a 0) :: .ref (a 1) :: .ref (a 2) :: .int 12 :: .ref (a 3) :: .ref (a 4) :: .ref (a 5) :: .ref (a 6) :: .ref (a 7) :: .ref (a 8) :: .ref (a 9) :: .ref (a 10) :: .ref (a 11) :: .ref (a 12) :: .ref (a 13) :: .ref (a 14) :: .int 0 :: .int 0 :: .int 0 :: .int 0 :: .int 0 :: .int 0 :: .int 0 :: .ref (a 15) :: .int 0 :: .ref (a 16) :: .int 0 :: .ref (a 17) :: .ref (a 18) :: .int 0 :: .long 0 :: .long 0 :: .int 0 :: .long 0 :: .int 0 :: .int 0 :: .int 0 :: .long 0 :: .long 0 :: .int 0 :: .ref (a 19) :: .ref (a 20) :: .ref (a 21) :: .ref (a 22) :: .ref (a 23) :: .ref (a 24) :: .ref (a 25) :: .ref (a 26) :: .ref (a 27) :: []))), ((a 2), .inl (Y 2, 400, .inl f23))] := hD
  refine lv_iinc (v := (-8)) (lv' := [(2, .int (-8)), (0, .ref o), (1, .int x)]) hx hb dX11_four_30 hl (k := 0) rfl (by decide) (by decide) rfl (fun ls hl => ?_)
  refine lv_goto (tgt := 3) hx hb dX11_four_33 (by decide) ?_
  refine lv_iload_n hx hb dX11_four_3 rfl (lv_at hl 0 rfl) ?_
  refine lv_if_lt (tgt := 36) hx hb dX11_four_4 (by decide) (fun c25 => ?_) (fun c25 => ?_)
  rotate_left
  · exact absurd c25 (by decide)
  refine W.widen (k := 0) (n := 0) (Nat.le_of_ble_eq_true rfl) (Nat.le_of_ble_eq_true rfl) ?_
  exact W.vret hx hb hr (fun t ht hW => ⟨⟨f23, rfl, trivial, CB.mk ht (hP.sub [0, 1] rfl) (hD.sub [0, 1] (by decide) rfl)⟩, hS.F ht⟩) hS.2.2 dX11_four_36
set_option maxHeartbeats 4000000 in
set_option maxRecDepth 100000 in
theorem m_four12 (l : Launch) (D : va_G) (Y : Nat → ClassId) (Z : Nat → Nat) (sz : Nat) (o : Nat) (a : Nat → Nat) (x : Int32) (f : Nat → Int32) : Met l yX11_four (.code yX11_four cX11_four 3 none :: GW) ({ frames := 0, cells := 0, slots := 0, locals := 0 }) (va_Pc [.ref o, .int x] (CP D Y Z [(o, .inr (11, (.ref (a 0) :: .ref (a 1) :: .ref (a 2) :: .int 12 :: .ref (a 3) :: .ref (a 4) :: .ref (a 5) :: .ref (a 6) :: .ref (a 7) :: .ref (a 8) :: .ref (a 9) :: .ref (a 10) :: .ref (a 11) :: .ref (a 12) :: .ref (a 13) :: .ref (a 14) :: .int 0 :: .int 0 :: .int 0 :: .int 0 :: .int 0 :: .int 0 :: .int 0 :: .ref (a 15) :: .int 0 :: .ref (a 16) :: .int 0 :: .ref (a 17) :: .ref (a 18) :: .int 0 :: .long 0 :: .long 0 :: .int 0 :: .long 0 :: .int 0 :: .int 0 :: .int 0 :: .long 0 :: .long 0 :: .int 0 :: .ref (a 19) :: .ref (a 20) :: .ref (a 21) :: .ref (a 22) :: .ref (a 23) :: .ref (a 24) :: .ref (a 25) :: .ref (a 26) :: .ref (a 27) :: []))), ((a 2), .inl (Y 2, 400, .inl f))] sz)) (QG (S := (Nat → Int32)) (fun _ => none) (fun _ => True) (fun u => CB D ((fun u => [(o, .inr (11, (.ref (a 0) :: .ref (a 1) :: .ref (a 2) :: .int 16 :: .ref (a 3) :: .ref (a 4) :: .ref (a 5) :: .ref (a 6) :: .ref (a 7) :: .ref (a 8) :: .ref (a 9) :: .ref (a 10) :: .ref (a 11) :: .ref (a 12) :: .ref (a 13) :: .ref (a 14) :: .int 0 :: .int 0 :: .int 0 :: .int 0 :: .int 0 :: .int 0 :: .int 0 :: .ref (a 15) :: .int 0 :: .ref (a 16) :: .int 0 :: .ref (a 17) :: .ref (a 18) :: .int 0 :: .long 0 :: .long 0 :: .int 0 :: .long 0 :: .int 0 :: .int 0 :: .int 0 :: .long 0 :: .long 0 :: .int 0 :: .ref (a 19) :: .ref (a 20) :: .ref (a 21) :: .ref (a 22) :: .ref (a 23) :: .ref (a 24) :: .ref (a 25) :: .ref (a 26) :: .ref (a 27) :: []))), ((a 2), .inl (Y 2, 400, .inl u))]) u) (va_A [(o, .inr (11, (.ref (a 0) :: .ref (a 1) :: .ref (a 2) :: .int 12 :: .ref (a 3) :: .ref (a 4) :: .ref (a 5) :: .ref (a 6) :: .ref (a 7) :: .ref (a 8) :: .ref (a 9) :: .ref (a 10) :: .ref (a 11) :: .ref (a 12) :: .ref (a 13) :: .ref (a 14) :: .int 0 :: .int 0 :: .int 0 :: .int 0 :: .int 0 :: .int 0 :: .int 0 :: .ref (a 15) :: .int 0 :: .ref (a 16) :: .int 0 :: .ref (a 17) :: .ref (a 18) :: .int 0 :: .long 0 :: .long 0 :: .int 0 :: .long 0 :: .int 0 :: .int 0 :: .int 0 :: .long 0 :: .long 0 :: .int 0 :: .ref (a 19) :: .ref (a 20) :: .ref (a 21) :: .ref (a 22) :: .ref (a 23) :: .ref (a 24) :: .ref (a 25) :: .ref (a 26) :: .ref (a 27) :: []))), ((a 2), .inl (Y 2, 400, .inl f))] sz)) (va_A [(o, .inr (11, (.ref (a 0) :: .ref (a 1) :: .ref (a 2) :: .int 12 :: .ref (a 3) :: .ref (a 4) :: .ref (a 5) :: .ref (a 6) :: .ref (a 7) :: .ref (a 8) :: .ref (a 9) :: .ref (a 10) :: .ref (a 11) :: .ref (a 12) :: .ref (a 13) :: .ref (a 14) :: .int 0 :: .int 0 :: .int 0 :: .int 0 :: .int 0 :: .int 0 :: .int 0 :: .ref (a 15) :: .int 0 :: .ref (a 16) :: .int 0 :: .ref (a 17) :: .ref (a 18) :: .int 0 :: .long 0 :: .long 0 :: .int 0 :: .long 0 :: .int 0 :: .int 0 :: .int 0 :: .long 0 :: .long 0 :: .int 0 :: .ref (a 19) :: .ref (a 20) :: .ref (a 21) :: .ref (a 22) :: .ref (a 23) :: .ref (a 24) :: .ref (a 25) :: .ref (a 26) :: .ref (a 27) :: []))), ((a 2), .inl (Y 2, 400, .inl f))] sz)) 0 0 (va_A [(o, .inr (11, (.ref (a 0) :: .ref (a 1) :: .ref (a 2) :: .int 12 :: .ref (a 3) :: .ref (a 4) :: .ref (a 5) :: .ref (a 6) :: .ref (a 7) :: .ref (a 8) :: .ref (a 9) :: .ref (a 10) :: .ref (a 11) :: .ref (a 12) :: .ref (a 13) :: .ref (a 14) :: .int 0 :: .int 0 :: .int 0 :: .int 0 :: .int 0 :: .int 0 :: .int 0 :: .ref (a 15) :: .int 0 :: .ref (a 16) :: .int 0 :: .ref (a 17) :: .ref (a 18) :: .int 0 :: .long 0 :: .long 0 :: .int 0 :: .long 0 :: .int 0 :: .int 0 :: .int 0 :: .long 0 :: .long 0 :: .int 0 :: .ref (a 19) :: .ref (a 20) :: .ref (a 21) :: .ref (a 22) :: .ref (a 23) :: .ref (a 24) :: .ref (a 25) :: .ref (a 26) :: .ref (a 27) :: []))), ((a 2), .inl (Y 2, 400, .inl f))] sz) := by
  refine Met.ofW (cc := cX11_four) (maxL := 3) (ret := none) (by decide) rfl ?_
  intro p e s m args below meth c s₁ B hml hv
  obtain ⟨rfl, hsz, hP, hKN, hD0⟩ := hv
  have hx := B.exec
  have hb := B.bytes
  have hr := B.returns
  have hts := atoms_spec (ws := .code yX11_four cX11_four 3 none :: GW) B.pre
  have hg : ∀ w ∈ GW, w.before _ s = true := fun w h => hts w (List.mem_cons_of_mem _ h)
  have hown : s.vm.findClass RX11 = some m.cls := findClass_of_methodNamed B.named
  have hlocks := B.notSynchronized
  subst hsz
  have hD := hD0.self (sz := s.heap.size)
  generalize hAe : va_A [(o, .inr (11, (.ref (a 0) :: .ref (a 1) :: .ref (a 2) :: .int 12 :: .ref (a 3) :: .ref (a 4) :: .ref (a 5) :: .ref (a 6) :: .ref (a 7) :: .ref (a 8) :: .ref (a 9) :: .ref (a 10) :: .ref (a 11) :: .ref (a 12) :: .ref (a 13) :: .ref (a 14) :: .int 0 :: .int 0 :: .int 0 :: .int 0 :: .int 0 :: .int 0 :: .int 0 :: .ref (a 15) :: .int 0 :: .ref (a 16) :: .int 0 :: .ref (a 17) :: .ref (a 18) :: .int 0 :: .long 0 :: .long 0 :: .int 0 :: .long 0 :: .int 0 :: .int 0 :: .int 0 :: .long 0 :: .long 0 :: .int 0 :: .ref (a 19) :: .ref (a 20) :: .ref (a 21) :: .ref (a 22) :: .ref (a 23) :: .ref (a 24) :: .ref (a 25) :: .ref (a 26) :: .ref (a 27) :: []))), ((a 2), .inl (Y 2, 400, .inl f))] s.heap.size = A at hD ⊢
  have hA : ∀ q : Nat, s.heap.size ≤ q → A q := fun q h => by rw [← hAe]; exact Or.inr h
  have hl := lv_entry ([.ref o, .int x]) (n := 3) (Nat.le_of_ble_eq_true rfl)
  rw [lg_entry_eq]
  generalize (lg_sl ([.ref o, .int x]) ++ List.replicate (3 - (lg_sl ([.ref o, .int x])).length) Slot.unset).toArray = ls at hl ⊢
  have hl : lv_has ls 3 [(0, .ref o), (1, .int x)] := hl
  refine w_start (A0 := A) hP (fun H locs hP hS => ?_)
  refine lv_bipush (v := 24) hx hb dX11_four_0 (by decide) ?_
  refine lv_istore_n (lv' := [(2, .int 24), (0, .ref o), (1, .int x)]) hx hb dX11_four_2 rfl hl (by decide) rfl (fun ls hl => ?_)
  refine lv_iload_n hx hb dX11_four_3 rfl (lv_at hl 0 rfl) ?_
  refine lv_if_lt (tgt := 36) hx hb dX11_four_4 (by decide) (fun c1 => ?_) (fun c1 => ?_)
  · exact absurd c1 (by decide)
  refine lv_aload_n hx hb dX11_four_7 rfl (lv_at hl 1 rfl) ?_
  refine va_get (D := D) (ci := 11) (v := .ref (a 2)) (C := RX11) (T := TX11) (N := 49) hx hb hg inGX11 hown hKN.1 hP 0 rfl rfl 2 (by decide) (hg _ kw_1210) (fun _ h9 => h9) rfl dX11_four_8 ?_
  refine lv_aload_n hx hb dX11_four_11 rfl (lv_at hl 1 rfl) ?_
  refine va_get (D := D) (ci := 11) (v := .int 12) (C := RX11) (T := TX11) (N := 49) hx hb hg inGX11 hown hKN.1 hP 0 rfl rfl 3 (by decide) (hg _ kw_1211) (fun _ h9 => h9) rfl dX11_four_12 ?_
  refine lv_iload_n hx hb dX11_four_15 rfl (lv_at hl 2 rfl) ?_
  refine lv_iload_n hx hb dX11_four_16 rfl (lv_at hl 0 rfl) ?_
  refine lv_ishr hx hb dX11_four_17 ?_
  refine lv_topi (fun v2 ev2 => ?_)
  refine lv_i2b (v := v2.toInt8.toInt32) hx hb dX11_four_18 rfl ?_
  refine lv_topi (fun v4 ev4 => ?_)
  refine va_bast hx hb hKN.1 hP hD hS 1 2 rfl rfl (show ¬ ((12 : Int32) < 0 ∨ 400 ≤ (12 : Int32).toNatClampNeg) by decide) dX11_four_19 (fun H locs hP hD hS => ?_)
  obtain ⟨f5, hP, hD⟩ : ∃ f5 : Nat → Int32, va_P D vwCl [(o, .inr (11, (.ref (a 0) :: .ref (a 1) :: .ref (a 2) :: .int 12 :: .ref (a 3) :: .ref (a 4) :: .ref (a 5) :: .ref (a 6) :: .ref (a 7) :: .ref (a 8) :: .ref (a 9) :: .ref (a 10) :: .ref (a 11) :: .ref (a 12) :: .ref (a 13) :: .ref (a 14) :: .int 0 :: .int 0 :: .int 0 :: .int 0 :: .int 0 :: .int 0 :: .int 0 :: .ref (a 15) :: .int 0 :: .ref (a 16) :: .int 0 :: .ref (a 17) :: .ref (a 18) :: .int 0 :: .long 0 :: .long 0 :: .int 0 :: .long 0 :: .int 0 :: .int 0 :: .int 0 :: .long 0 :: .long 0 :: .int 0 :: .ref (a 19) :: .ref (a 20) :: .ref (a 21) :: .ref (a 22) :: .ref (a 23) :: .ref (a 24) :: .ref (a 25) :: .ref (a 26) :: .ref (a 27) :: []))), ((a 2), .inl (Y 2, 400, .inl f5))] H ∧ va_D A [(o, .inr (11, (.ref (a 0) :: .ref (a 1) :: .ref (a 2) :: .int 12 :: .ref (a 3) :: .ref (a 4) :: .ref (a 5) :: .ref (a 6) :: .ref (a 7) :: .ref (a 8) :: .ref (a 9) :: .ref (a 10) :: .ref (a 11) :: .ref (a 12) :: .ref (a 13) :: .ref (a 14) :: .int 0 :: .int 0 :: .int 0 :: .int 0 :: .int 0 :: .int 0 :: .int 0 :: .ref (a 15) :: .int 0 :: .ref (a 16) :: .int 0 :: .ref (a 17) :: .ref (a 18) :: .int 0 :: .long 0 :: .long 0 :: .int 0 :: .long 0 :: .int 0 :: .int 0 :: .int 0 :: .long 0 :: .long 0 :: .int 0 :: .ref (a 19) :: .ref (a 20) :: .ref (a 21) :: .ref (a 22) :: .ref (a 23) :: .ref (a 24) :: .ref (a 25) :: .ref (a 26) :: .ref (a 27) :: []))), ((a 2), .inl (Y 2, 400, .inl f5))] := ⟨_, hP, hD⟩
  refine lv_aload_n hx hb dX11_four_20 rfl (lv_at hl 1 rfl) ?_
  refine lv_dup hx hb dX11_four_21 rfl ?_
  refine va_get (D := D) (ci := 11) (v := .int 12) (C := RX11) (T := TX11) (N := 49) hx hb hg inGX11 hown hKN.1 hP 0 rfl rfl 3 (by decide) (hg _ kw_1211) (fun _ h9 => h9) rfl dX11_four_22 ?_
  refine lv_iconst (v := 1) hx hb dX11_four_25 (by decide) ?_
  refine lv_iadd hx hb dX11_four_26 ?_
  refine lv_topi (fun z6 ez6 => ?_)
  obtain rfl : z6 = 13 := ez6.trans (by decide)
  refine va_put (D := D) (ci := 11) (v := .int 13) (ty := .int) (C := RX11) (T := TX11) (N := 49) hx hb hg inGX11 tyX11 tyX11_ok nmX11 hown hKN.1 hP hD hS 0 rfl rfl 3 (by decide) (hg _ kw_1211) (fun _ h9 => h9) rfl (by decide +kernel) rfl rfl (Nat.le_of_ble_eq_true rfl) dX11_four_27 (fun H locs hP hD hS => ?_)
  have hP : va_P D vwCl [(o, .inr (11, (.ref (a 0) :: .ref (a 1) :: .ref (a 2) :: .int 13 :: .ref (a 3) :: .ref (a 4) :: .ref (a 5) :: .ref (a 6) :: .ref (a 7) :: .ref (a 8) :: .ref (a 9) :: .ref (a 10) :: .ref (a 11) :: .ref (a 12) :: .ref (a 13) :: .ref (a 14) :: .int 0 :: .int 0 :: .int 0 :: .int 0 :: .int 0 :: .int 0 :: .int 0 :: .ref (a 15) :: .int 0 :: .ref (a 16) :: .int 0 :: .ref (a 17) :: .ref (a 18) :: .int 0 :: .long 0 :: .long 0 :: .int 0 :: .long 0 :: .int 0 :: .int 0 :: .int 0 :: .long 0 :: .long 0 :: .int 0 :: .ref (a 19) :: .ref (a 20) :: .ref (a 21) :: .ref (a 22) :: .ref (a 23) :: .ref (a 24) :: .ref (a 25) :: .ref (a 26) :: .ref (a 27) :: []))), ((a 2), .inl (Y 2, 400, .inl f5))] H := hP
  have hD : va_D A [(o, .inr (11, (.ref (a 0) :: .ref (a 1) :: .ref (a 2) :: .int 13 :: .ref (a 3) :: .ref (a 4) :: .ref (a 5) :: .ref (a 6) :: .ref (a 7) :: .ref (a 8) :: .ref (a 9) :: .ref (a 10) :: .ref (a 11) :: .ref (a 12) :: .ref (a 13) :: .ref (a 14) :: .int 0 :: .int 0 :: .int 0 :: .int 0 :: .int 0 :: .int 0 :: .int 0 :: .ref (a 15) :: .int 0 :: .ref (a 16) :: .int 0 :: .ref (a 17) :: .ref (a 18) :: .int 0 :: .long 0 :: .long 0 :: .int 0 :: .long 0 :: .int 0 :: .int 0 :: .int 0 :: .long 0 :: .long 0 :: .int 0 :: .ref (a 19) :: .ref (a 20) :: .ref (a 21) :: .ref (a 22) :: .ref (a 23) :: .ref (a 24) :: .ref (a 25) :: .ref (a 26) :: .ref (a 27) :: []))), ((a 2), .inl (Y 2, 400, .inl f5))] := hD
  refine lv_iinc (v := 16) (lv' := [(2, .int 16), (0, .ref o), (1, .int x)]) hx hb dX11_four_30 hl (k := 0) rfl (by decide) (by decide) rfl (fun ls hl => ?_)
  refine lv_goto (tgt := 3) hx hb dX11_four_33 (by decide) ?_
  refine lv_iload_n hx hb dX11_four_3 rfl (lv_at hl 0 rfl) ?_
  refine lv_if_lt (tgt := 36) hx hb dX11_four_4 (by decide) (fun c7 => ?_) (fun c7 => ?_)
  · exact absurd c7 (by decide)
  refine lv_aload_n hx hb dX11_four_7 rfl (lv_at hl 1 rfl) ?_
  refine va_get (D := D) (ci := 11) (v := .ref (a 2)) (C := RX11) (T := TX11) (N := 49) hx hb hg inGX11 hown hKN.1 hP 0 rfl rfl 2 (by decide) (hg _ kw_1210) (fun _ h9 => h9) rfl dX11_four_8 ?_
  refine lv_aload_n hx hb dX11_four_11 rfl (lv_at hl 1 rfl) ?_
  refine va_get (D := D) (ci := 11) (v := .int 13) (C := RX11) (T := TX11) (N := 49) hx hb hg inGX11 hown hKN.1 hP 0 rfl rfl 3 (by decide) (hg _ kw_1211) (fun _ h9 => h9) rfl dX11_four_12 ?_
  refine lv_iload_n hx hb dX11_four_15 rfl (lv_at hl 2 rfl) ?_
  refine lv_iload_n hx hb dX11_four_16 rfl (lv_at hl 0 rfl) ?_
  refine lv_ishr hx hb dX11_four_17 ?_
  refine lv_topi (fun v8 ev8 => ?_)
  refine lv_i2b (v := v8.toInt8.toInt32) hx hb dX11_four_18 rfl ?_
  refine lv_topi (fun v10 ev10 => ?_)
  refine va_bast hx hb hKN.1 hP hD hS 1 2 rfl rfl (show ¬ ((13 : Int32) < 0 ∨ 400 ≤ (13 : Int32).toNatClampNeg) by decide) dX11_four_19 (fun H locs hP hD hS => ?_)
  obtain ⟨f11, hP, hD⟩ : ∃ f11 : Nat → Int32, va_P D vwCl [(o, .inr (11, (.ref (a 0) :: .ref (a 1) :: .ref (a 2) :: .int 13 :: .ref (a 3) :: .ref (a 4) :: .ref (a 5) :: .ref (a 6) :: .ref (a 7) :: .ref (a 8) :: .ref (a 9) :: .ref (a 10) :: .ref (a 11) :: .ref (a 12) :: .ref (a 13) :: .ref (a 14) :: .int 0 :: .int 0 :: .int 0 :: .int 0 :: .int 0 :: .int 0 :: .int 0 :: .ref (a 15) :: .int 0 :: .ref (a 16) :: .int 0 :: .ref (a 17) :: .ref (a 18) :: .int 0 :: .long 0 :: .long 0 :: .int 0 :: .long 0 :: .int 0 :: .int 0 :: .int 0 :: .long 0 :: .long 0 :: .int 0 :: .ref (a 19) :: .ref (a 20) :: .ref (a 21) :: .ref (a 22) :: .ref (a 23) :: .ref (a 24) :: .ref (a 25) :: .ref (a 26) :: .ref (a 27) :: []))), ((a 2), .inl (Y 2, 400, .inl f11))] H ∧ va_D A [(o, .inr (11, (.ref (a 0) :: .ref (a 1) :: .ref (a 2) :: .int 13 :: .ref (a 3) :: .ref (a 4) :: .ref (a 5) :: .ref (a 6) :: .ref (a 7) :: .ref (a 8) :: .ref (a 9) :: .ref (a 10) :: .ref (a 11) :: .ref (a 12) :: .ref (a 13) :: .ref (a 14) :: .int 0 :: .int 0 :: .int 0 :: .int 0 :: .int 0 :: .int 0 :: .int 0 :: .ref (a 15) :: .int 0 :: .ref (a 16) :: .int 0 :: .ref (a 17) :: .ref (a 18) :: .int 0 :: .long 0 :: .long 0 :: .int 0 :: .long 0 :: .int 0 :: .int 0 :: .int 0 :: .long 0 :: .long 0 :: .int 0 :: .ref (a 19) :: .ref (a 20) :: .ref (a 21) :: .ref (a 22) :: .ref (a 23) :: .ref (a 24) :: .ref (a 25) :: .ref (a 26) :: .ref (a 27) :: []))), ((a 2), .inl (Y 2, 400, .inl f11))] := ⟨_, hP, hD⟩
  refine lv_aload_n hx hb dX11_four_20 rfl (lv_at hl 1 rfl) ?_
  refine lv_dup hx hb dX11_four_21 rfl ?_
  refine va_get (D := D) (ci := 11) (v := .int 13) (C := RX11) (T := TX11) (N := 49) hx hb hg inGX11 hown hKN.1 hP 0 rfl rfl 3 (by decide) (hg _ kw_1211) (fun _ h9 => h9) rfl dX11_four_22 ?_
  refine lv_iconst (v := 1) hx hb dX11_four_25 (by decide) ?_
  refine lv_iadd hx hb dX11_four_26 ?_
  refine lv_topi (fun z12 ez12 => ?_)
  obtain rfl : z12 = 14 := ez12.trans (by decide)
  refine va_put (D := D) (ci := 11) (v := .int 14) (ty := .int) (C := RX11) (T := TX11) (N := 49) hx hb hg inGX11 tyX11 tyX11_ok nmX11 hown hKN.1 hP hD hS 0 rfl rfl 3 (by decide) (hg _ kw_1211) (fun _ h9 => h9) rfl (by decide +kernel) rfl rfl (Nat.le_of_ble_eq_true rfl) dX11_four_27 (fun H locs hP hD hS => ?_)
  have hP : va_P D vwCl [(o, .inr (11, (.ref (a 0) :: .ref (a 1) :: .ref (a 2) :: .int 14 :: .ref (a 3) :: .ref (a 4) :: .ref (a 5) :: .ref (a 6) :: .ref (a 7) :: .ref (a 8) :: .ref (a 9) :: .ref (a 10) :: .ref (a 11) :: .ref (a 12) :: .ref (a 13) :: .ref (a 14) :: .int 0 :: .int 0 :: .int 0 :: .int 0 :: .int 0 :: .int 0 :: .int 0 :: .ref (a 15) :: .int 0 :: .ref (a 16) :: .int 0 :: .ref (a 17) :: .ref (a 18) :: .int 0 :: .long 0 :: .long 0 :: .int 0 :: .long 0 :: .int 0 :: .int 0 :: .int 0 :: .long 0 :: .long 0 :: .int 0 :: .ref (a 19) :: .ref (a 20) :: .ref (a 21) :: .ref (a 22) :: .ref (a 23) :: .ref (a 24) :: .ref (a 25) :: .ref (a 26) :: .ref (a 27) :: []))), ((a 2), .inl (Y 2, 400, .inl f11))] H := hP
  have hD : va_D A [(o, .inr (11, (.ref (a 0) :: .ref (a 1) :: .ref (a 2) :: .int 14 :: .ref (a 3) :: .ref (a 4) :: .ref (a 5) :: .ref (a 6) :: .ref (a 7) :: .ref (a 8) :: .ref (a 9) :: .ref (a 10) :: .ref (a 11) :: .ref (a 12) :: .ref (a 13) :: .ref (a 14) :: .int 0 :: .int 0 :: .int 0 :: .int 0 :: .int 0 :: .int 0 :: .int 0 :: .ref (a 15) :: .int 0 :: .ref (a 16) :: .int 0 :: .ref (a 17) :: .ref (a 18) :: .int 0 :: .long 0 :: .long 0 :: .int 0 :: .long 0 :: .int 0 :: .int 0 :: .int 0 :: .long 0 :: .long 0 :: .int 0 :: .ref (a 19) :: .ref (a 20) :: .ref (a 21) :: .ref (a 22) :: .ref (a 23) :: .ref (a 24) :: .ref (a 25) :: .ref (a 26) :: .ref (a 27) :: []))), ((a 2), .inl (Y 2, 400, .inl f11))] := hD
  refine lv_iinc (v := 8) (lv' := [(2, .int 8), (0, .ref o), (1, .int x)]) hx hb dX11_four_30 hl (k := 0) rfl (by decide) (by decide) rfl (fun ls hl => ?_)
  refine lv_goto (tgt := 3) hx hb dX11_four_33 (by decide) ?_
  refine lv_iload_n hx hb dX11_four_3 rfl (lv_at hl 0 rfl) ?_
  refine lv_if_lt (tgt := 36) hx hb dX11_four_4 (by decide) (fun c13 => ?_) (fun c13 => ?_)
  · exact absurd c13 (by decide)
  refine lv_aload_n hx hb dX11_four_7 rfl (lv_at hl 1 rfl) ?_
  refine va_get (D := D) (ci := 11) (v := .ref (a 2)) (C := RX11) (T := TX11) (N := 49) hx hb hg inGX11 hown hKN.1 hP 0 rfl rfl 2 (by decide) (hg _ kw_1210) (fun _ h9 => h9) rfl dX11_four_8 ?_
  refine lv_aload_n hx hb dX11_four_11 rfl (lv_at hl 1 rfl) ?_
  refine va_get (D := D) (ci := 11) (v := .int 14) (C := RX11) (T := TX11) (N := 49) hx hb hg inGX11 hown hKN.1 hP 0 rfl rfl 3 (by decide) (hg _ kw_1211) (fun _ h9 => h9) rfl dX11_four_12 ?_
  refine lv_iload_n hx hb dX11_four_15 rfl (lv_at hl 2 rfl) ?_
  refine lv_iload_n hx hb dX11_four_16 rfl (lv_at hl 0 rfl) ?_
  refine lv_ishr hx hb dX11_four_17 ?_
  refine lv_topi (fun v14 ev14 => ?_)
  refine lv_i2b (v := v14.toInt8.toInt32) hx hb dX11_four_18 rfl ?_
  refine lv_topi (fun v16 ev16 => ?_)
  refine va_bast hx hb hKN.1 hP hD hS 1 2 rfl rfl (show ¬ ((14 : Int32) < 0 ∨ 400 ≤ (14 : Int32).toNatClampNeg) by decide) dX11_four_19 (fun H locs hP hD hS => ?_)
  obtain ⟨f17, hP, hD⟩ : ∃ f17 : Nat → Int32, va_P D vwCl [(o, .inr (11, (.ref (a 0) :: .ref (a 1) :: .ref (a 2) :: .int 14 :: .ref (a 3) :: .ref (a 4) :: .ref (a 5) :: .ref (a 6) :: .ref (a 7) :: .ref (a 8) :: .ref (a 9) :: .ref (a 10) :: .ref (a 11) :: .ref (a 12) :: .ref (a 13) :: .ref (a 14) :: .int 0 :: .int 0 :: .int 0 :: .int 0 :: .int 0 :: .int 0 :: .int 0 :: .ref (a 15) :: .int 0 :: .ref (a 16) :: .int 0 :: .ref (a 17) :: .ref (a 18) :: .int 0 :: .long 0 :: .long 0 :: .int 0 :: .long 0 :: .int 0 :: .int 0 :: .int 0 :: .long 0 :: .long 0 :: .int 0 :: .ref (a 19) :: .ref (a 20) :: .ref (a 21) :: .ref (a 22) :: .ref (a 23) :: .ref (a 24) :: .ref (a 25) :: .ref (a 26) :: .ref (a 27) :: []))), ((a 2), .inl (Y 2, 400, .inl f17))] H ∧ va_D A [(o, .inr (11, (.ref (a 0) :: .ref (a 1) :: .ref (a 2) :: .int 14 :: .ref (a 3) :: .ref (a 4) :: .ref (a 5) :: .ref (a 6) :: .ref (a 7) :: .ref (a 8) :: .ref (a 9) :: .ref (a 10) :: .ref (a 11) :: .ref (a 12) :: .ref (a 13) :: .ref (a 14) :: .int 0 :: .int 0 :: .int 0 :: .int 0 :: .int 0 :: .int 0 :: .int 0 :: .ref (a 15) :: .int 0 :: .ref (a 16) :: .int 0 :: .ref (a 17) :: .ref (a 18) :: .int 0 :: .long 0 :: .long 0 :: .int 0 :: .long 0 :: .int 0 :: .int 0 :: .int 0 :: .long 0 :: .long 0 :: .int 0 :: .ref (a 19) :: .ref (a 20) :: .ref (a 21) :: .ref (a 22) :: .ref (a 23) :: .ref (a 24) :: .ref (a 25) :: .ref (a 26) :: .ref (a 27) :: []))), ((a 2), .inl (Y 2, 400, .inl f17))] := ⟨_, hP, hD⟩
  refine lv_aload_n hx hb dX11_four_20 rfl (lv_at hl 1 rfl) ?_
  refine lv_dup hx hb dX11_four_21 rfl ?_
  refine va_get (D := D) (ci := 11) (v := .int 14) (C := RX11) (T := TX11) (N := 49) hx hb hg inGX11 hown hKN.1 hP 0 rfl rfl 3 (by decide) (hg _ kw_1211) (fun _ h9 => h9) rfl dX11_four_22 ?_
  refine lv_iconst (v := 1) hx hb dX11_four_25 (by decide) ?_
  refine lv_iadd hx hb dX11_four_26 ?_
  refine lv_topi (fun z18 ez18 => ?_)
  obtain rfl : z18 = 15 := ez18.trans (by decide)
  refine va_put (D := D) (ci := 11) (v := .int 15) (ty := .int) (C := RX11) (T := TX11) (N := 49) hx hb hg inGX11 tyX11 tyX11_ok nmX11 hown hKN.1 hP hD hS 0 rfl rfl 3 (by decide) (hg _ kw_1211) (fun _ h9 => h9) rfl (by decide +kernel) rfl rfl (Nat.le_of_ble_eq_true rfl) dX11_four_27 (fun H locs hP hD hS => ?_)
  have hP : va_P D vwCl [(o, .inr (11, (.ref (a 0) :: .ref (a 1) :: .ref (a 2) :: .int 15 :: .ref (a 3) :: .ref (a 4) :: .ref (a 5) :: .ref (a 6) :: .ref (a 7) :: .ref (a 8) :: .ref (a 9) :: .ref (a 10) :: .ref (a 11) :: .ref (a 12) :: .ref (a 13) :: .ref (a 14) :: .int 0 :: .int 0 :: .int 0 :: .int 0 :: .int 0 :: .int 0 :: .int 0 :: .ref (a 15) :: .int 0 :: .ref (a 16) :: .int 0 :: .ref (a 17) :: .ref (a 18) :: .int 0 :: .long 0 :: .long 0 :: .int 0 :: .long 0 :: .int 0 :: .int 0 :: .int 0 :: .long 0 :: .long 0 :: .int 0 :: .ref (a 19) :: .ref (a 20) :: .ref (a 21) :: .ref (a 22) :: .ref (a 23) :: .ref (a 24) :: .ref (a 25) :: .ref (a 26) :: .ref (a 27) :: []))), ((a 2), .inl (Y 2, 400, .inl f17))] H := hP
  have hD : va_D A [(o, .inr (11, (.ref (a 0) :: .ref (a 1) :: .ref (a 2) :: .int 15 :: .ref (a 3) :: .ref (a 4) :: .ref (a 5) :: .ref (a 6) :: .ref (a 7) :: .ref (a 8) :: .ref (a 9) :: .ref (a 10) :: .ref (a 11) :: .ref (a 12) :: .ref (a 13) :: .ref (a 14) :: .int 0 :: .int 0 :: .int 0 :: .int 0 :: .int 0 :: .int 0 :: .int 0 :: .ref (a 15) :: .int 0 :: .ref (a 16) :: .int 0 :: .ref (a 17) :: .ref (a 18) :: .int 0 :: .long 0 :: .long 0 :: .int 0 :: .long 0 :: .int 0 :: .int 0 :: .int 0 :: .long 0 :: .long 0 :: .int 0 :: .ref (a 19) :: .ref (a 20) :: .ref (a 21) :: .ref (a 22) :: .ref (a 23) :: .ref (a 24) :: .ref (a 25) :: .ref (a 26) :: .ref (a 27) :: []))), ((a 2), .inl (Y 2, 400, .inl f17))] := hD
  refine lv_iinc (v := 0) (lv' := [(2, .int 0), (0, .ref o), (1, .int x)]) hx hb dX11_four_30 hl (k := 0) rfl (by decide) (by decide) rfl (fun ls hl => ?_)
  refine lv_goto (tgt := 3) hx hb dX11_four_33 (by decide) ?_
  refine lv_iload_n hx hb dX11_four_3 rfl (lv_at hl 0 rfl) ?_
  refine lv_if_lt (tgt := 36) hx hb dX11_four_4 (by decide) (fun c19 => ?_) (fun c19 => ?_)
  · exact absurd c19 (by decide)
  refine lv_aload_n hx hb dX11_four_7 rfl (lv_at hl 1 rfl) ?_
  refine va_get (D := D) (ci := 11) (v := .ref (a 2)) (C := RX11) (T := TX11) (N := 49) hx hb hg inGX11 hown hKN.1 hP 0 rfl rfl 2 (by decide) (hg _ kw_1210) (fun _ h9 => h9) rfl dX11_four_8 ?_
  refine lv_aload_n hx hb dX11_four_11 rfl (lv_at hl 1 rfl) ?_
  refine va_get (D := D) (ci := 11) (v := .int 15) (C := RX11) (T := TX11) (N := 49) hx hb hg inGX11 hown hKN.1 hP 0 rfl rfl 3 (by decide) (hg _ kw_1211) (fun _ h9 => h9) rfl dX11_four_12 ?_
  refine lv_iload_n hx hb dX11_four_15 rfl (lv_at hl 2 rfl) ?_
  refine lv_iload_n hx hb dX11_four_16 rfl (lv_at hl 0 rfl) ?_
  refine lv_ishr hx hb dX11_four_17 ?_
  refine lv_topi (fun v20 ev20 => ?_)
  refine lv_i2b (v := v20.toInt8.toInt32) hx hb dX11_four_18 rfl ?_
  refine lv_topi (fun v22 ev22 => ?_)
  refine va_bast hx hb hKN.1 hP hD hS 1 2 rfl rfl (show ¬ ((15 : Int32) < 0 ∨ 400 ≤ (15 : Int32).toNatClampNeg) by decide) dX11_four_19 (fun H locs hP hD hS => ?_)
  obtain ⟨f23, hP, hD⟩ : ∃ f23 : Nat → Int32, va_P D vwCl [(o, .inr (11, (.ref (a 0) :: .ref (a 1) :: .ref (a 2) :: .int 15 :: .ref (a 3) :: .ref (a 4) :: .ref (a 5) :: .ref (a 6) :: .ref (a 7) :: .ref (a 8) :: .ref (a 9) :: .ref (a 10) :: .ref (a 11) :: .ref (a 12) :: .ref (a 13) :: .ref (a 14) :: .int 0 :: .int 0 :: .int 0 :: .int 0 :: .int 0 :: .int 0 :: .int 0 :: .ref (a 15) :: .int 0 :: .ref (a 16) :: .int 0 :: .ref (a 17) :: .ref (a 18) :: .int 0 :: .long 0 :: .long 0 :: .int 0 :: .long 0 :: .int 0 :: .int 0 :: .int 0 :: .long 0 :: .long 0 :: .int 0 :: .ref (a 19) :: .ref (a 20) :: .ref (a 21) :: .ref (a 22) :: .ref (a 23) :: .ref (a 24) :: .ref (a 25) :: .ref (a 26) :: .ref (a 27) :: []))), ((a 2), .inl (Y 2, 400, .inl f23))] H ∧ va_D A [(o, .inr (11, (.ref (a 0) :: .ref (a 1) :: .ref (a 2) :: .int 15 :: .ref (a 3) :: .ref (a 4) :: .ref (a 5) :: .ref (a 6) :: .ref (a 7) :: .ref (a 8) :: .ref (a 9) :: .ref (a 10) :: .ref (a 11) :: .ref (a 12) :: .ref (a 13) :: .ref (a 14) :: .int 0 :: .int 0 :: .int 0 :: .int 0 :: .int 0 :: .int 0 :: .int 0 :: .ref (a 15) :: .int 0 :: .ref (a 16) :: .int 0 :: .ref (a 17) :: .ref (a 18) :: .int 0 :: .long 0 :: .long 0 :: .int 0 :: .long 0 :: .int 0 :: .int 0 :: .int 0 :: .long 0 :: .long 0 :: .int 0 :: .ref (a 19) :: .ref (a 20) :: .ref (a 21) :: .ref (a 22) :: .ref (a 23) :: .ref (a 24) :: .ref (a 25) :: .ref (a 26) :: .ref (a 27) :: []))), ((a 2), .inl (Y 2, 400, .inl f23))] := ⟨_, hP, hD⟩
  refine lv_aload_n hx hb dX11_four_20 rfl (lv_at hl 1 rfl) ?_
  refine lv_dup hx hb dX11_four_21 rfl ?_
  refine va_get (D := D) (ci := 11) (v := .int 15) (C := RX11) (T := TX11) (N := 49) hx hb hg inGX11 hown hKN.1 hP 0 rfl rfl 3 (by decide) (hg _ kw_1211) (fun _ h9 => h9) rfl dX11_four_22 ?_
  refine lv_iconst (v := 1) hx hb dX11_four_25 (by decide) ?_
  refine lv_iadd hx hb dX11_four_26 ?_
  refine lv_topi (fun z24 ez24 => ?_)
  obtain rfl : z24 = 16 := ez24.trans (by decide)
  refine va_put (D := D) (ci := 11) (v := .int 16) (ty := .int) (C := RX11) (T := TX11) (N := 49) hx hb hg inGX11 tyX11 tyX11_ok nmX11 hown hKN.1 hP hD hS 0 rfl rfl 3 (by decide) (hg _ kw_1211) (fun _ h9 => h9) rfl (by decide +kernel) rfl rfl (Nat.le_of_ble_eq_true rfl) dX11_four_27 (fun H locs hP hD hS => ?_)
  have hP : va_P D vwCl [(o, .inr (11, (.ref (a 0) :: .ref (a 1) :: .ref (a 2) :: .int 16 :: .ref (a 3) :: .ref (a 4) :: .ref (a 5) :: .ref (a 6) :: .ref (a 7) :: .ref (a 8) :: .ref (a 9) :: .ref (a 10) :: .ref (a 11) :: .ref (a 12) :: .ref (a 13) :: .ref (a 14) :: .int 0 :: .int 0 :: .int 0 :: .int 0 :: .int 0 :: .int 0 :: .int 0 :: .ref (a 15) :: .int 0 :: .ref (a 16) :: .int 0 :: .ref (a 17) :: .ref (a 18) :: .int 0 :: .long 0 :: .long 0 :: .int 0 :: .long 0 :: .int 0 :: .int 0 :: .int 0 :: .long 0 :: .long 0 :: .int 0 :: .ref (a 19) :: .ref (a 20) :: .ref (a 21) :: .ref (a 22) :: .ref (a 23) :: .ref (a 24) :: .ref (a 25) :: .ref (a 26) :: .ref (a 27) :: []))), ((a 2), .inl (Y 2, 400, .inl f23))] H := hP
  have hD : va_D A [(o, .inr (11, (.ref (a 0) :: .ref (a 1) :: .ref (a 2) :: .int 16 :: .ref (a 3) :: .ref (a 4) :: .ref (a 5) :: .ref (a 6) :: .ref (a 7) :: .ref (a 8) :: .ref (a 9) :: .ref (a 10) :: .ref (a 11) :: .ref (a 12) :: .ref (a 13) :: .ref (a 14) :: .int 0 :: .int 0 :: .int 0 :: .int 0 :: .int 0 :: .int 0 :: .int 0 :: .ref (a 15) :: .int 0 :: .ref (a 16) :: .int 0 :: .ref (a 17) :: .ref (a 18) :: .int 0 :: .long 0 :: .long 0 :: .int 0 :: .long 0 :: .int 0 :: .int 0 :: .int 0 :: .long 0 :: .long 0 :: .int 0 :: .ref (a 19) :: .ref (a 20) :: .ref (a 21) :: .ref (a 22) :: .ref (a 23) :: .ref (a 24) :: .ref (a 25) :: .ref (a 26) :: .ref (a 27) :: []))), ((a 2), .inl (Y 2, 400, .inl f23))] := hD
  refine lv_iinc (v := (-8)) (lv' := [(2, .int (-8)), (0, .ref o), (1, .int x)]) hx hb dX11_four_30 hl (k := 0) rfl (by decide) (by decide) rfl (fun ls hl => ?_)
  refine lv_goto (tgt := 3) hx hb dX11_four_33 (by decide) ?_
  refine lv_iload_n hx hb dX11_four_3 rfl (lv_at hl 0 rfl) ?_
  refine lv_if_lt (tgt := 36) hx hb dX11_four_4 (by decide) (fun c25 => ?_) (fun c25 => ?_)
  rotate_left
  · exact absurd c25 (by decide)
  refine W.widen (k := 0) (n := 0) (Nat.le_of_ble_eq_true rfl) (Nat.le_of_ble_eq_true rfl) ?_
  exact W.vret hx hb hr (fun t ht hW => ⟨⟨f23, rfl, trivial, CB.mk ht (hP.sub [0, 1] rfl) (hD.sub [0, 1] (by decide) rfl)⟩, hS.F ht⟩) hS.2.2 dX11_four_36
set_option maxHeartbeats 4000000 in
set_option maxRecDepth 100000 in
theorem m_four16 (l : Launch) (D : va_G) (Y : Nat → ClassId) (Z : Nat → Nat) (sz : Nat) (o : Nat) (a : Nat → Nat) (x : Int32) (f : Nat → Int32) : Met l yX11_four (.code yX11_four cX11_four 3 none :: GW) ({ frames := 0, cells := 0, slots := 0, locals := 0 }) (va_Pc [.ref o, .int x] (CP D Y Z [(o, .inr (11, (.ref (a 0) :: .ref (a 1) :: .ref (a 2) :: .int 16 :: .ref (a 3) :: .ref (a 4) :: .ref (a 5) :: .ref (a 6) :: .ref (a 7) :: .ref (a 8) :: .ref (a 9) :: .ref (a 10) :: .ref (a 11) :: .ref (a 12) :: .ref (a 13) :: .ref (a 14) :: .int 0 :: .int 0 :: .int 0 :: .int 0 :: .int 0 :: .int 0 :: .int 0 :: .ref (a 15) :: .int 0 :: .ref (a 16) :: .int 0 :: .ref (a 17) :: .ref (a 18) :: .int 0 :: .long 0 :: .long 0 :: .int 0 :: .long 0 :: .int 0 :: .int 0 :: .int 0 :: .long 0 :: .long 0 :: .int 0 :: .ref (a 19) :: .ref (a 20) :: .ref (a 21) :: .ref (a 22) :: .ref (a 23) :: .ref (a 24) :: .ref (a 25) :: .ref (a 26) :: .ref (a 27) :: []))), ((a 2), .inl (Y 2, 400, .inl f))] sz)) (QG (S := (Nat → Int32)) (fun _ => none) (fun _ => True) (fun u => CB D ((fun u => [(o, .inr (11, (.ref (a 0) :: .ref (a 1) :: .ref (a 2) :: .int 20 :: .ref (a 3) :: .ref (a 4) :: .ref (a 5) :: .ref (a 6) :: .ref (a 7) :: .ref (a 8) :: .ref (a 9) :: .ref (a 10) :: .ref (a 11) :: .ref (a 12) :: .ref (a 13) :: .ref (a 14) :: .int 0 :: .int 0 :: .int 0 :: .int 0 :: .int 0 :: .int 0 :: .int 0 :: .ref (a 15) :: .int 0 :: .ref (a 16) :: .int 0 :: .ref (a 17) :: .ref (a 18) :: .int 0 :: .long 0 :: .long 0 :: .int 0 :: .long 0 :: .int 0 :: .int 0 :: .int 0 :: .long 0 :: .long 0 :: .int 0 :: .ref (a 19) :: .ref (a 20) :: .ref (a 21) :: .ref (a 22) :: .ref (a 23) :: .ref (a 24) :: .ref (a 25) :: .ref (a 26) :: .ref (a 27) :: []))), ((a 2), .inl (Y 2, 400, .inl u))]) u) (va_A [(o, .inr (11, (.ref (a 0) :: .ref (a 1) :: .ref (a 2) :: .int 16 :: .ref (a 3) :: .ref (a 4) :: .ref (a 5) :: .ref (a 6) :: .ref (a 7) :: .ref (a 8) :: .ref (a 9) :: .ref (a 10) :: .ref (a 11) :: .ref (a 12) :: .ref (a 13) :: .ref (a 14) :: .int 0 :: .int 0 :: .int 0 :: .int 0 :: .int 0 :: .int 0 :: .int 0 :: .ref (a 15) :: .int 0 :: .ref (a 16) :: .int 0 :: .ref (a 17) :: .ref (a 18) :: .int 0 :: .long 0 :: .long 0 :: .int 0 :: .long 0 :: .int 0 :: .int 0 :: .int 0 :: .long 0 :: .long 0 :: .int 0 :: .ref (a 19) :: .ref (a 20) :: .ref (a 21) :: .ref (a 22) :: .ref (a 23) :: .ref (a 24) :: .ref (a 25) :: .ref (a 26) :: .ref (a 27) :: []))), ((a 2), .inl (Y 2, 400, .inl f))] sz)) (va_A [(o, .inr (11, (.ref (a 0) :: .ref (a 1) :: .ref (a 2) :: .int 16 :: .ref (a 3) :: .ref (a 4) :: .ref (a 5) :: .ref (a 6) :: .ref (a 7) :: .ref (a 8) :: .ref (a 9) :: .ref (a 10) :: .ref (a 11) :: .ref (a 12) :: .ref (a 13) :: .ref (a 14) :: .int 0 :: .int 0 :: .int 0 :: .int 0 :: .int 0 :: .int 0 :: .int 0 :: .ref (a 15) :: .int 0 :: .ref (a 16) :: .int 0 :: .ref (a 17) :: .ref (a 18) :: .int 0 :: .long 0 :: .long 0 :: .int 0 :: .long 0 :: .int 0 :: .int 0 :: .int 0 :: .long 0 :: .long 0 :: .int 0 :: .ref (a 19) :: .ref (a 20) :: .ref (a 21) :: .ref (a 22) :: .ref (a 23) :: .ref (a 24) :: .ref (a 25) :: .ref (a 26) :: .ref (a 27) :: []))), ((a 2), .inl (Y 2, 400, .inl f))] sz)) 0 0 (va_A [(o, .inr (11, (.ref (a 0) :: .ref (a 1) :: .ref (a 2) :: .int 16 :: .ref (a 3) :: .ref (a 4) :: .ref (a 5) :: .ref (a 6) :: .ref (a 7) :: .ref (a 8) :: .ref (a 9) :: .ref (a 10) :: .ref (a 11) :: .ref (a 12) :: .ref (a 13) :: .ref (a 14) :: .int 0 :: .int 0 :: .int 0 :: .int 0 :: .int 0 :: .int 0 :: .int 0 :: .ref (a 15) :: .int 0 :: .ref (a 16) :: .int 0 :: .ref (a 17) :: .ref (a 18) :: .int 0 :: .long 0 :: .long 0 :: .int 0 :: .long 0 :: .int 0 :: .int 0 :: .int 0 :: .long 0 :: .long 0 :: .int 0 :: .ref (a 19) :: .ref (a 20) :: .ref (a 21) :: .ref (a 22) :: .ref (a 23) :: .ref (a 24) :: .ref (a 25) :: .ref (a 26) :: .ref (a 27) :: []))), ((a 2), .inl (Y 2, 400, .inl f))] sz) := by
  refine Met.ofW (cc := cX11_four) (maxL := 3) (ret := none) (by decide) rfl ?_
  intro p e s m args below meth c s₁ B hml hv
  obtain ⟨rfl, hsz, hP, hKN, hD0⟩ := hv
  have hx := B.exec
  have hb := B.bytes
  have hr := B.returns
  have hts := atoms_spec (ws := .code yX11_four cX11_four 3 none :: GW) B.pre
  have hg : ∀ w ∈ GW, w.before _ s = true := fun w h => hts w (List.mem_cons_of_mem _ h)
  have hown : s.vm.findClass RX11 = some m.cls := findClass_of_methodNamed B.named
  have hlocks := B.notSynchronized
  subst hsz
  have hD := hD0.self (sz := s.heap.size)
  generalize hAe : va_A [(o, .inr (11, (.ref (a 0) :: .ref (a 1) :: .ref (a 2) :: .int 16 :: .ref (a 3) :: .ref (a 4) :: .ref (a 5) :: .ref (a 6) :: .ref (a 7) :: .ref (a 8) :: .ref (a 9) :: .ref (a 10) :: .ref (a 11) :: .ref (a 12) :: .ref (a 13) :: .ref (a 14) :: .int 0 :: .int 0 :: .int 0 :: .int 0 :: .int 0 :: .int 0 :: .int 0 :: .ref (a 15) :: .int 0 :: .ref (a 16) :: .int 0 :: .ref (a 17) :: .ref (a 18) :: .int 0 :: .long 0 :: .long 0 :: .int 0 :: .long 0 :: .int 0 :: .int 0 :: .int 0 :: .long 0 :: .long 0 :: .int 0 :: .ref (a 19) :: .ref (a 20) :: .ref (a 21) :: .ref (a 22) :: .ref (a 23) :: .ref (a 24) :: .ref (a 25) :: .ref (a 26) :: .ref (a 27) :: []))), ((a 2), .inl (Y 2, 400, .inl f))] s.heap.size = A at hD ⊢
  have hA : ∀ q : Nat, s.heap.size ≤ q → A q := fun q h => by rw [← hAe]; exact Or.inr h
  have hl := lv_entry ([.ref o, .int x]) (n := 3) (Nat.le_of_ble_eq_true rfl)
  rw [lg_entry_eq]
  generalize (lg_sl ([.ref o, .int x]) ++ List.replicate (3 - (lg_sl ([.ref o, .int x])).length) Slot.unset).toArray = ls at hl ⊢
  have hl : lv_has ls 3 [(0, .ref o), (1, .int x)] := hl
  refine w_start (A0 := A) hP (fun H locs hP hS => ?_)
  refine lv_bipush (v := 24) hx hb dX11_four_0 (by decide) ?_
  refine lv_istore_n (lv' := [(2, .int 24), (0, .ref o), (1, .int x)]) hx hb dX11_four_2 rfl hl (by decide) rfl (fun ls hl => ?_)
  refine lv_iload_n hx hb dX11_four_3 rfl (lv_at hl 0 rfl) ?_
  refine lv_if_lt (tgt := 36) hx hb dX11_four_4 (by decide) (fun c1 => ?_) (fun c1 => ?_)
  · exact absurd c1 (by decide)
  refine lv_aload_n hx hb dX11_four_7 rfl (lv_at hl 1 rfl) ?_
  refine va_get (D := D) (ci := 11) (v := .ref (a 2)) (C := RX11) (T := TX11) (N := 49) hx hb hg inGX11 hown hKN.1 hP 0 rfl rfl 2 (by decide) (hg _ kw_1210) (fun _ h9 => h9) rfl dX11_four_8 ?_
  refine lv_aload_n hx hb dX11_four_11 rfl (lv_at hl 1 rfl) ?_
  refine va_get (D := D) (ci := 11) (v := .int 16) (C := RX11) (T := TX11) (N := 49) hx hb hg inGX11 hown hKN.1 hP 0 rfl rfl 3 (by decide) (hg _ kw_1211) (fun _ h9 => h9) rfl dX11_four_12 ?_
  refine lv_iload_n hx hb dX11_four_15 rfl (lv_at hl 2 rfl) ?_
  refine lv_iload_n hx hb dX11_four_16 rfl (lv_at hl 0 rfl) ?_
  refine lv_ishr hx hb dX11_four_17 ?_
  refine lv_topi (fun v2 ev2 => ?_)
  refine lv_i2b (v := v2.toInt8.toInt32) hx hb dX11_four_18 rfl ?_
  refine lv_topi (fun v4 ev4 => ?_)
  refine va_bast hx hb hKN.1 hP hD hS 1 2 rfl rfl (show ¬ ((16 : Int32) < 0 ∨ 400 ≤ (16 : Int32).toNatClampNeg) by decide) dX11_four_19 (fun H locs hP hD hS => ?_)
  obtain ⟨f5, hP, hD⟩ : ∃ f5 : Nat → Int32, va_P D vwCl [(o, .inr (11, (.ref (a 0) :: .ref (a 1) :: .ref (a 2) :: .int 16 :: .ref (a 3) :: .ref (a 4) :: .ref (a 5) :: .ref (a 6) :: .ref (a 7) :: .ref (a 8) :: .ref (a 9) :: .ref (a 10) :: .ref (a 11) :: .ref (a 12) :: .ref (a 13) :: .ref (a 14) :: .int 0 :: .int 0 :: .int 0 :: .int 0 :: .int 0 :: .int 0 :: .int 0 :: .ref (a 15) :: .int 0 :: .ref (a 16) :: .int 0 :: .ref (a 17) :: .ref (a 18) :: .int 0 :: .long 0 :: .long 0 :: .int 0 :: .long 0 :: .int 0 :: .int 0 :: .int 0 :: .long 0 :: .long 0 :: .int 0 :: .ref (a 19) :: .ref (a 20) :: .ref (a 21) :: .ref (a 22) :: .ref (a 23) :: .ref (a 24) :: .ref (a 25) :: .ref (a 26) :: .ref (a 27) :: []))), ((a 2), .inl (Y 2, 400, .inl f5))] H ∧ va_D A [(o, .inr (11, (.ref (a 0) :: .ref (a 1) :: .ref (a 2) :: .int 16 :: .ref (a 3) :: .ref (a 4) :: .ref (a 5) :: .ref (a 6) :: .ref (a 7) :: .ref (a 8) :: .ref (a 9) :: .ref (a 10) :: .ref (a 11) :: .ref (a 12) :: .ref (a 13) :: .ref (a 14) :: .int 0 :: .int 0 :: .int 0 :: .int 0 :: .int 0 :: .int 0 :: .int 0 :: .ref (a 15) :: .int 0 :: .ref (a 16) :: .int 0 :: .ref (a 17) :: .ref (a 18) :: .int 0 :: .long 0 :: .long 0 :: .int 0 :: .long 0 :: .int 0 :: .int 0 :: .int 0 :: .long 0 :: .long 0 :: .int 0 :: .ref (a 19) :: .ref (a 20) :: .ref (a 21) :: .ref (a 22) :: .ref (a 23) :: .ref (a 24) :: .ref (a 25) :: .ref (a 26) :: .ref (a 27) :: []))), ((a 2), .inl (Y 2, 400, .inl f5))] := ⟨_, hP, hD⟩
  refine lv_aload_n hx hb dX11_four_20 rfl (lv_at hl 1 rfl) ?_
  refine lv_dup hx hb dX11_four_21 rfl ?_
  refine va_get (D := D) (ci := 11) (v := .int 16) (C := RX11) (T := TX11) (N := 49) hx hb hg inGX11 hown hKN.1 hP 0 rfl rfl 3 (by decide) (hg _ kw_1211) (fun _ h9 => h9) rfl dX11_four_22 ?_
  refine lv_iconst (v := 1) hx hb dX11_four_25 (by decide) ?_
  refine lv_iadd hx hb dX11_four_26 ?_
  refine lv_topi (fun z6 ez6 => ?_)
  obtain rfl : z6 = 17 := ez6.trans (by decide)
  refine va_put (D := D) (ci := 11) (v := .int 17) (ty := .int) (C := RX11) (T := TX11) (N := 49) hx hb hg inGX11 tyX11 tyX11_ok nmX11 hown hKN.1 hP hD hS 0 rfl rfl 3 (by decide) (hg _ kw_1211) (fun _ h9 => h9) rfl (by decide +kernel) rfl rfl (Nat.le_of_ble_eq_true rfl) dX11_four_27 (fun H locs hP hD hS => ?_)
  have hP : va_P D vwCl [(o, .inr (11, (.ref (a 0) :: .ref (a 1) :: .ref (a 2) :: .int 17 :: .ref (a 3) :: .ref (a 4) :: .ref (a 5) :: .ref (a 6) :: .ref (a 7) :: .ref (a 8) :: .ref (a 9) :: .ref (a 10) :: .ref (a 11) :: .ref (a 12) :: .ref (a 13) :: .ref (a 14) :: .int 0 :: .int 0 :: .int 0 :: .int 0 :: .int 0 :: .int 0 :: .int 0 :: .ref (a 15) :: .int 0 :: .ref (a 16) :: .int 0 :: .ref (a 17) :: .ref (a 18) :: .int 0 :: .long 0 :: .long 0 :: .int 0 :: .long 0 :: .int 0 :: .int 0 :: .int 0 :: .long 0 :: .long 0 :: .int 0 :: .ref (a 19) :: .ref (a 20) :: .ref (a 21) :: .ref (a 22) :: .ref (a 23) :: .ref (a 24) :: .ref (a 25) :: .ref (a 26) :: .ref (a 27) :: []))), ((a 2), .inl (Y 2, 400, .inl f5))] H := hP
  have hD : va_D A [(o, .inr (11, (.ref (a 0) :: .ref (a 1) :: .ref (a 2) :: .int 17 :: .ref (a 3) :: .ref (a 4) :: .ref (a 5) :: .ref (a 6) :: .ref (a 7) :: .ref (a 8) :: .ref (a 9) :: .ref (a 10) :: .ref (a 11) :: .ref (a 12) :: .ref (a 13) :: .ref (a 14) :: .int 0 :: .int 0 :: .int 0 :: .int 0 :: .int 0 :: .int 0 :: .int 0 :: .ref (a 15) :: .int 0 :: .ref (a 16) :: .int 0 :: .ref (a 17) :: .ref (a 18) :: .int 0 :: .long 0 :: .long 0 :: .int 0 :: .long 0 :: .int 0 :: .int 0 :: .int 0 :: .long 0 :: .long 0 :: .int 0 :: .ref (a 19) :: .ref (a 20) :: .ref (a 21) :: .ref (a 22) :: .ref (a 23) :: .ref (a 24) :: .ref (a 25) :: .ref (a 26) :: .ref (a 27) :: []))), ((a 2), .inl (Y 2, 400, .inl f5))] := hD
  refine lv_iinc (v := 16) (lv' := [(2, .int 16), (0, .ref o), (1, .int x)]) hx hb dX11_four_30 hl (k := 0) rfl (by decide) (by decide) rfl (fun ls hl => ?_)
  refine lv_goto (tgt := 3) hx hb dX11_four_33 (by decide) ?_
  refine lv_iload_n hx hb dX11_four_3 rfl (lv_at hl 0 rfl) ?_
  refine lv_if_lt (tgt := 36) hx hb dX11_four_4 (by decide) (fun c7 => ?_) (fun c7 => ?_)
  · exact absurd c7 (by decide)
  refine lv_aload_n hx hb dX11_four_7 rfl (lv_at hl 1 rfl) ?_
  refine va_get (D := D) (ci := 11) (v := .ref (a 2)) (C := RX11) (T := TX11) (N := 49) hx hb hg inGX11 hown hKN.1 hP 0 rfl rfl 2 (by decide) (hg _ kw_1210) (fun _ h9 => h9) rfl dX11_four_8 ?_
  refine lv_aload_n hx hb dX11_four_11 rfl (lv_at hl 1 rfl) ?_
  refine va_get (D := D) (ci := 11) (v := .int 17) (C := RX11) (T := TX11) (N := 49) hx hb hg inGX11 hown hKN.1 hP 0 rfl rfl 3 (by decide) (hg _ kw_1211) (fun _ h9 => h9) rfl dX11_four_12 ?_
  refine lv_iload_n hx hb dX11_four_15 rfl (lv_at hl 2 rfl) ?_
  refine lv_iload_n hx hb dX11_four_16 rfl (lv_at hl 0 rfl) ?_
  refine lv_ishr hx hb dX11_four_17 ?_
  refine lv_topi (fun v8 ev8 => ?_)
  refine lv_i2b (v := v8.toInt8.toInt32) hx hb dX11_four_18 rfl ?_
  refine lv_topi (fun v10 ev10 => ?_)
  refine va_bast hx hb hKN.1 hP hD hS 1 2 rfl rfl (show ¬ ((17 : Int32) < 0 ∨ 400 ≤ (17 : Int32).toNatClampNeg) by decide) dX11_four_19 (fun H locs hP hD hS => ?_)
  obtain ⟨f11, hP, hD⟩ : ∃ f11 : Nat → Int32, va_P D vwCl [(o, .inr (11, (.ref (a 0) :: .ref (a 1) :: .ref (a 2) :: .int 17 :: .ref (a 3) :: .ref (a 4) :: .ref (a 5) :: .ref (a 6) :: .ref (a 7) :: .ref (a 8) :: .ref (a 9) :: .ref (a 10) :: .ref (a 11) :: .ref (a 12) :: .ref (a 13) :: .ref (a 14) :: .int 0 :: .int 0 :: .int 0 :: .int 0 :: .int 0 :: .int 0 :: .int 0 :: .ref (a 15) :: .int 0 :: .ref (a 16) :: .int 0 :: .ref (a 17) :: .ref (a 18) :: .int 0 :: .long 0 :: .long 0 :: .int 0 :: .long 0 :: .int 0 :: .int 0 :: .int 0 :: .long 0 :: .long 0 :: .int 0 :: .ref (a 19) :: .ref (a 20) :: .ref (a 21) :: .ref (a 22) :: .ref (a 23) :: .ref (a 24) :: .ref (a 25) :: .ref (a 26) :: .ref (a 27) :: []))), ((a 2), .inl (Y 2, 400, .inl f11))] H ∧ va_D A [(o, .inr (11, (.ref (a 0) :: .ref (a 1) :: .ref (a 2) :: .int 17 :: .ref (a 3) :: .ref (a 4) :: .ref (a 5) :: .ref (a 6) :: .ref (a 7) :: .ref (a 8) :: .ref (a 9) :: .ref (a 10) :: .ref (a 11) :: .ref (a 12) :: .ref (a 13) :: .ref (a 14) :: .int 0 :: .int 0 :: .int 0 :: .int 0 :: .int 0 :: .int 0 :: .int 0 :: .ref (a 15) :: .int 0 :: .ref (a 16) :: .int 0 :: .ref (a 17) :: .ref (a 18) :: .int 0 :: .long 0 :: .long 0 :: .int 0 :: .long 0 :: .int 0 :: .int 0 :: .int 0 :: .long 0 :: .long 0 :: .int 0 :: .ref (a 19) :: .ref (a 20) :: .ref (a 21) :: .ref (a 22) :: .ref (a 23) :: .ref (a 24) :: .ref (a 25) :: .ref (a 26) :: .ref (a 27) :: []))), ((a 2), .inl (Y 2, 400, .inl f11))] := ⟨_, hP, hD⟩
  refine lv_aload_n hx hb dX11_four_20 rfl (lv_at hl 1 rfl) ?_
  refine lv_dup hx hb dX11_four_21 rfl ?_
  refine va_get (D := D) (ci := 11) (v := .int 17) (C := RX11) (T := TX11) (N := 49) hx hb hg inGX11 hown hKN.1 hP 0 rfl rfl 3 (by decide) (hg _ kw_1211) (fun _ h9 => h9) rfl dX11_four_22 ?_
  refine lv_iconst (v := 1) hx hb dX11_four_25 (by decide) ?_
  refine lv_iadd hx hb dX11_four_26 ?_
  refine lv_topi (fun z12 ez12 => ?_)
  obtain rfl : z12 = 18 := ez12.trans (by decide)
  refine va_put (D := D) (ci := 11) (v := .int 18) (ty := .int) (C := RX11) (T := TX11) (N := 49) hx hb hg inGX11 tyX11 tyX11_ok nmX11 hown hKN.1 hP hD hS 0 rfl rfl 3 (by decide) (hg _ kw_1211) (fun _ h9 => h9) rfl (by decide +kernel) rfl rfl (Nat.le_of_ble_eq_true rfl) dX11_four_27 (fun H locs hP hD hS => ?_)
  have hP : va_P D vwCl [(o, .inr (11, (.ref (a 0) :: .ref (a 1) :: .ref (a 2) :: .int 18 :: .ref (a 3) :: .ref (a 4) :: .ref (a 5) :: .ref (a 6) :: .ref (a 7) :: .ref (a 8) :: .ref (a 9) :: .ref (a 10) :: .ref (a 11) :: .ref (a 12) :: .ref (a 13) :: .ref (a 14) :: .int 0 :: .int 0 :: .int 0 :: .int 0 :: .int 0 :: .int 0 :: .int 0 :: .ref (a 15) :: .int 0 :: .ref (a 16) :: .int 0 :: .ref (a 17) :: .ref (a 18) :: .int 0 :: .long 0 :: .long 0 :: .int 0 :: .long 0 :: .int 0 :: .int 0 :: .int 0 :: .long 0 :: .long 0 :: .int 0 :: .ref (a 19) :: .ref (a 20) :: .ref (a 21) :: .ref (a 22) :: .ref (a 23) :: .ref (a 24) :: .ref (a 25) :: .ref (a 26) :: .ref (a 27) :: []))), ((a 2), .inl (Y 2, 400, .inl f11))] H := hP
  have hD : va_D A [(o, .inr (11, (.ref (a 0) :: .ref (a 1) :: .ref (a 2) :: .int 18 :: .ref (a 3) :: .ref (a 4) :: .ref (a 5) :: .ref (a 6) :: .ref (a 7) :: .ref (a 8) :: .ref (a 9) :: .ref (a 10) :: .ref (a 11) :: .ref (a 12) :: .ref (a 13) :: .ref (a 14) :: .int 0 :: .int 0 :: .int 0 :: .int 0 :: .int 0 :: .int 0 :: .int 0 :: .ref (a 15) :: .int 0 :: .ref (a 16) :: .int 0 :: .ref (a 17) :: .ref (a 18) :: .int 0 :: .long 0 :: .long 0 :: .int 0 :: .long 0 :: .int 0 :: .int 0 :: .int 0 :: .long 0 :: .long 0 :: .int 0 :: .ref (a 19) :: .ref (a 20) :: .ref (a 21) :: .ref (a 22) :: .ref (a 23) :: .ref (a 24) :: .ref (a 25) :: .ref (a 26) :: .ref (a 27) :: []))), ((a 2), .inl (Y 2, 400, .inl f11))] := hD
  refine lv_iinc (v := 8) (lv' := [(2, .int 8), (0, .ref o), (1, .int x)]) hx hb dX11_four_30 hl (k := 0) rfl (by decide) (by decide) rfl (fun ls hl => ?_)
  refine lv_goto (tgt := 3) hx hb dX11_four_33 (by decide) ?_
  refine lv_iload_n hx hb dX11_four_3 rfl (lv_at hl 0 rfl) ?_
  refine lv_if_lt (tgt := 36) hx hb dX11_four_4 (by decide) (fun c13 => ?_) (fun c13 => ?_)
  · exact absurd c13 (by decide)
  refine lv_aload_n hx hb dX11_four_7 rfl (lv_at hl 1 rfl) ?_
  refine va_get (D := D) (ci := 11) (v := .ref (a 2)) (C := RX11) (T := TX11) (N := 49) hx hb hg inGX11 hown hKN.1 hP 0 rfl rfl 2 (by decide) (hg _ kw_1210) (fun _ h9 => h9) rfl dX11_four_8 ?_
  refine lv_aload_n hx hb dX11_four_11 rfl (lv_at hl 1 rfl) ?_
  refine va_get (D := D) (ci := 11) (v := .int 18) (C := RX11) (T := TX11) (N := 49) hx hb hg inGX11 hown hKN.1 hP 0 rfl rfl 3 (by decide) (hg _ kw_1211) (fun _ h9 => h9) rfl dX11_four_12 ?_
  refine lv_iload_n hx hb dX11_four_15 rfl (lv_at hl 2 rfl) ?_
  refine lv_iload_n hx hb dX11_four_16 rfl (lv_at hl 0 rfl) ?_
  refine lv_ishr hx hb dX11_four_17 ?_
  refine lv_topi (fun v14 ev14 => ?_)
  refine lv_i2b (v := v14.toInt8.toInt32) hx hb dX11_four_18 rfl ?_
  refine lv_topi (fun v16 ev16 => ?_)
  refine va_bast hx hb hKN.1 hP hD hS 1 2 rfl rfl (show ¬ ((18 : Int32) < 0 ∨ 400 ≤ (18 : Int32).toNatClampNeg) by decide) dX11_four_19 (fun H locs hP hD hS => ?_)
  obtain ⟨f17, hP, hD⟩ : ∃ f17 : Nat → Int32, va_P D vwCl [(o, .inr (11, (.ref (a 0) :: .ref (a 1) :: .ref (a 2) :: .int 18 :: .ref (a 3) :: .ref (a 4) :: .ref (a 5) :: .ref (a 6) :: .ref (a 7) :: .ref (a 8) :: .ref (a 9) :: .ref (a 10) :: .ref (a 11) :: .ref (a 12) :: .ref (a 13) :: .ref (a 14) :: .int 0 :: .int 0 :: .int 0 :: .int 0 :: .int 0 :: .int 0 :: .int 0 :: .ref (a 15) :: .int 0 :: .ref (a 16) :: .int 0 :: .ref (a 17) :: .ref (a 18) :: .int 0 :: .long 0 :: .long 0 :: .int 0 :: .long 0 :: .int 0 :: .int 0 :: .int 0 :: .long 0 :: .long 0 :: .int 0 :: .ref (a 19) :: .ref (a 20) :: .ref (a 21) :: .ref (a 22) :: .ref (a 23) :: .ref (a 24) :: .ref (a 25) :: .ref (a 26) :: .ref (a 27) :: []))), ((a 2), .inl (Y 2, 400, .inl f17))] H ∧ va_D A [(o, .inr (11, (.ref (a 0) :: .ref (a 1) :: .ref (a 2) :: .int 18 :: .ref (a 3) :: .ref (a 4) :: .ref (a 5) :: .ref (a 6) :: .ref (a 7) :: .ref (a 8) :: .ref (a 9) :: .ref (a 10) :: .ref (a 11) :: .ref (a 12) :: .ref (a 13) :: .ref (a 14) :: .int 0 :: .int 0 :: .int 0 :: .int 0 :: .int 0 :: .int 0 :: .int 0 :: .ref (a 15) :: .int 0 :: .ref (a 16) :: .int 0 :: .ref (a 17) :: .ref (a 18) :: .int 0 :: .long 0 :: .long 0 :: .int 0 :: .long 0 :: .int 0 :: .int 0 :: .int 0 :: .long 0 :: .long 0 :: .int 0 :: .ref (a 19) :: .ref (a 20) :: .ref (a 21) :: .ref (a 22) :: .ref (a 23) :: .ref (a 24) :: .ref (a 25) :: .ref (a 26) :: .ref (a 27) :: []))), ((a 2), .inl (Y 2, 400, .inl f17))] := ⟨_, hP, hD⟩
  refine lv_aload_n hx hb dX11_four_20 rfl (lv_at hl 1 rfl) ?_
  refine lv_dup hx hb dX11_four_21 rfl ?_
  refine va_get (D := D) (ci := 11) (v := .int 18) (C := RX11) (T := TX11) (N := 49) hx hb hg inGX11 hown hKN.1 hP 0 rfl rfl 3 (by decide) (hg _ kw_1211) (fun _ h9 => h9) rfl dX11_four_22 ?_
  refine lv_iconst (v := 1) hx hb dX11_four_25 (by decide) ?_
  refine lv_iadd hx hb dX11_four_26 ?_
  refine lv_topi (fun z18 ez18 => ?_)
  obtain rfl : z18 = 19 := ez18.trans (by decide)
  refine va_put (D := D) (ci := 11) (v := .int 19) (ty := .int) (C := RX11) (T := TX11) (N := 49) hx hb hg inGX11 tyX11 tyX11_ok nmX11 hown hKN.1 hP hD hS 0 rfl rfl 3 (by decide) (hg _ kw_1211) (fun _ h9 => h9) rfl (by decide +kernel) rfl rfl (Nat.le_of_ble_eq_true rfl) dX11_four_27 (fun H locs hP hD hS => ?_)
  have hP : va_P D vwCl [(o, .inr (11, (.ref (a 0) :: .ref (a 1) :: .ref (a 2) :: .int 19 :: .ref (a 3) :: .ref (a 4) :: .ref (a 5) :: .ref (a 6) :: .ref (a 7) :: .ref (a 8) :: .ref (a 9) :: .ref (a 10) :: .ref (a 11) :: .ref (a 12) :: .ref (a 13) :: .ref (a 14) :: .int 0 :: .int 0 :: .int 0 :: .int 0 :: .int 0 :: .int 0 :: .int 0 :: .ref (a 15) :: .int 0 :: .ref (a 16) :: .int 0 :: .ref (a 17) :: .ref (a 18) :: .int 0 :: .long 0 :: .long 0 :: .int 0 :: .long 0 :: .int 0 :: .int 0 :: .int 0 :: .long 0 :: .long 0 :: .int 0 :: .ref (a 19) :: .ref (a 20) :: .ref (a 21) :: .ref (a 22) :: .ref (a 23) :: .ref (a 24) :: .ref (a 25) :: .ref (a 26) :: .ref (a 27) :: []))), ((a 2), .inl (Y 2, 400, .inl f17))] H := hP
  have hD : va_D A [(o, .inr (11, (.ref (a 0) :: .ref (a 1) :: .ref (a 2) :: .int 19 :: .ref (a 3) :: .ref (a 4) :: .ref (a 5) :: .ref (a 6) :: .ref (a 7) :: .ref (a 8) :: .ref (a 9) :: .ref (a 10) :: .ref (a 11) :: .ref (a 12) :: .ref (a 13) :: .ref (a 14) :: .int 0 :: .int 0 :: .int 0 :: .int 0 :: .int 0 :: .int 0 :: .int 0 :: .ref (a 15) :: .int 0 :: .ref (a 16) :: .int 0 :: .ref (a 17) :: .ref (a 18) :: .int 0 :: .long 0 :: .long 0 :: .int 0 :: .long 0 :: .int 0 :: .int 0 :: .int 0 :: .long 0 :: .long 0 :: .int 0 :: .ref (a 19) :: .ref (a 20) :: .ref (a 21) :: .ref (a 22) :: .ref (a 23) :: .ref (a 24) :: .ref (a 25) :: .ref (a 26) :: .ref (a 27) :: []))), ((a 2), .inl (Y 2, 400, .inl f17))] := hD
  refine lv_iinc (v := 0) (lv' := [(2, .int 0), (0, .ref o), (1, .int x)]) hx hb dX11_four_30 hl (k := 0) rfl (by decide) (by decide) rfl (fun ls hl => ?_)
  refine lv_goto (tgt := 3) hx hb dX11_four_33 (by decide) ?_
  refine lv_iload_n hx hb dX11_four_3 rfl (lv_at hl 0 rfl) ?_
  refine lv_if_lt (tgt := 36) hx hb dX11_four_4 (by decide) (fun c19 => ?_) (fun c19 => ?_)
  · exact absurd c19 (by decide)
  refine lv_aload_n hx hb dX11_four_7 rfl (lv_at hl 1 rfl) ?_
  refine va_get (D := D) (ci := 11) (v := .ref (a 2)) (C := RX11) (T := TX11) (N := 49) hx hb hg inGX11 hown hKN.1 hP 0 rfl rfl 2 (by decide) (hg _ kw_1210) (fun _ h9 => h9) rfl dX11_four_8 ?_
  refine lv_aload_n hx hb dX11_four_11 rfl (lv_at hl 1 rfl) ?_
  refine va_get (D := D) (ci := 11) (v := .int 19) (C := RX11) (T := TX11) (N := 49) hx hb hg inGX11 hown hKN.1 hP 0 rfl rfl 3 (by decide) (hg _ kw_1211) (fun _ h9 => h9) rfl dX11_four_12 ?_
  refine lv_iload_n hx hb dX11_four_15 rfl (lv_at hl 2 rfl) ?_
  refine lv_iload_n hx hb dX11_four_16 rfl (lv_at hl 0 rfl) ?_
  refine lv_ishr hx hb dX11_four_17 ?_
  refine lv_topi (fun v20 ev20 => ?_)
  refine lv_i2b (v := v20.toInt8.toInt32) hx hb dX11_four_18 rfl ?_
  refine lv_topi (fun v22 ev22 => ?_)
  refine va_bast hx hb hKN.1 hP hD hS 1 2 rfl rfl (show ¬ ((19 : Int32) < 0 ∨ 400 ≤ (19 : Int32).toNatClampNeg) by decide) dX11_four_19 (fun H locs hP hD hS => ?_)
  obtain ⟨f23, hP, hD⟩ : ∃ f23 : Nat → Int32, va_P D vwCl [(o, .inr (11, (.ref (a 0) :: .ref (a 1) :: .ref (a 2) :: .int 19 :: .ref (a 3) :: .ref (a 4) :: .ref (a 5) :: .ref (a 6) :: .ref (a 7) :: .ref (a 8) :: .ref (a 9) :: .ref (a 10) :: .ref (a 11) :: .ref (a 12) :: .ref (a 13) :: .ref (a 14) :: .int 0 :: .int 0 :: .int 0 :: .int 0 :: .int 0 :: .int 0 :: .int 0 :: .ref (a 15) :: .int 0 :: .ref (a 16) :: .int 0 :: .ref (a 17) :: .ref (a 18) :: .int 0 :: .long 0 :: .long 0 :: .int 0 :: .long 0 :: .int 0 :: .int 0 :: .int 0 :: .long 0 :: .long 0 :: .int 0 :: .ref (a 19) :: .ref (a 20) :: .ref (a 21) :: .ref (a 22) :: .ref (a 23) :: .ref (a 24) :: .ref (a 25) :: .ref (a 26) :: .ref (a 27) :: []))), ((a 2), .inl (Y 2, 400, .inl f23))] H ∧ va_D A [(o, .inr (11, (.ref (a 0) :: .ref (a 1) :: .ref (a 2) :: .int 19 :: .ref (a 3) :: .ref (a 4) :: .ref (a 5) :: .ref (a 6) :: .ref (a 7) :: .ref (a 8) :: .ref (a 9) :: .ref (a 10) :: .ref (a 11) :: .ref (a 12) :: .ref (a 13) :: .ref (a 14) :: .int 0 :: .int 0 :: .int 0 :: .int 0 :: .int 0 :: .int 0 :: .int 0 :: .ref (a 15) :: .int 0 :: .ref (a 16) :: .int 0 :: .ref (a 17) :: .ref (a 18) :: .int 0 :: .long 0 :: .long 0 :: .int 0 :: .long 0 :: .int 0 :: .int 0 :: .int 0 :: .long 0 :: .long 0 :: .int 0 :: .ref (a 19) :: .ref (a 20) :: .ref (a 21) :: .ref (a 22) :: .ref (a 23) :: .ref (a 24) :: .ref (a 25) :: .ref (a 26) :: .ref (a 27) :: []))), ((a 2), .inl (Y 2, 400, .inl f23))] := ⟨_, hP, hD⟩
  refine lv_aload_n hx hb dX11_four_20 rfl (lv_at hl 1 rfl) ?_
  refine lv_dup hx hb dX11_four_21 rfl ?_
  refine va_get (D := D) (ci := 11) (v := .int 19) (C := RX11) (T := TX11) (N := 49) hx hb hg inGX11 hown hKN.1 hP 0 rfl rfl 3 (by decide) (hg _ kw_1211) (fun _ h9 => h9) rfl dX11_four_22 ?_
  refine lv_iconst (v := 1) hx hb dX11_four_25 (by decide) ?_
  refine lv_iadd hx hb dX11_four_26 ?_
  refine lv_topi (fun z24 ez24 => ?_)
  obtain rfl : z24 = 20 := ez24.trans (by decide)
  refine va_put (D := D) (ci := 11) (v := .int 20) (ty := .int) (C := RX11) (T := TX11) (N := 49) hx hb hg inGX11 tyX11 tyX11_ok nmX11 hown hKN.1 hP hD hS 0 rfl rfl 3 (by decide) (hg _ kw_1211) (fun _ h9 => h9) rfl (by decide +kernel) rfl rfl (Nat.le_of_ble_eq_true rfl) dX11_four_27 (fun H locs hP hD hS => ?_)
  have hP : va_P D vwCl [(o, .inr (11, (.ref (a 0) :: .ref (a 1) :: .ref (a 2) :: .int 20 :: .ref (a 3) :: .ref (a 4) :: .ref (a 5) :: .ref (a 6) :: .ref (a 7) :: .ref (a 8) :: .ref (a 9) :: .ref (a 10) :: .ref (a 11) :: .ref (a 12) :: .ref (a 13) :: .ref (a 14) :: .int 0 :: .int 0 :: .int 0 :: .int 0 :: .int 0 :: .int 0 :: .int 0 :: .ref (a 15) :: .int 0 :: .ref (a 16) :: .int 0 :: .ref (a 17) :: .ref (a 18) :: .int 0 :: .long 0 :: .long 0 :: .int 0 :: .long 0 :: .int 0 :: .int 0 :: .int 0 :: .long 0 :: .long 0 :: .int 0 :: .ref (a 19) :: .ref (a 20) :: .ref (a 21) :: .ref (a 22) :: .ref (a 23) :: .ref (a 24) :: .ref (a 25) :: .ref (a 26) :: .ref (a 27) :: []))), ((a 2), .inl (Y 2, 400, .inl f23))] H := hP
  have hD : va_D A [(o, .inr (11, (.ref (a 0) :: .ref (a 1) :: .ref (a 2) :: .int 20 :: .ref (a 3) :: .ref (a 4) :: .ref (a 5) :: .ref (a 6) :: .ref (a 7) :: .ref (a 8) :: .ref (a 9) :: .ref (a 10) :: .ref (a 11) :: .ref (a 12) :: .ref (a 13) :: .ref (a 14) :: .int 0 :: .int 0 :: .int 0 :: .int 0 :: .int 0 :: .int 0 :: .int 0 :: .ref (a 15) :: .int 0 :: .ref (a 16) :: .int 0 :: .ref (a 17) :: .ref (a 18) :: .int 0 :: .long 0 :: .long 0 :: .int 0 :: .long 0 :: .int 0 :: .int 0 :: .int 0 :: .long 0 :: .long 0 :: .int 0 :: .ref (a 19) :: .ref (a 20) :: .ref (a 21) :: .ref (a 22) :: .ref (a 23) :: .ref (a 24) :: .ref (a 25) :: .ref (a 26) :: .ref (a 27) :: []))), ((a 2), .inl (Y 2, 400, .inl f23))] := hD
  refine lv_iinc (v := (-8)) (lv' := [(2, .int (-8)), (0, .ref o), (1, .int x)]) hx hb dX11_four_30 hl (k := 0) rfl (by decide) (by decide) rfl (fun ls hl => ?_)
  refine lv_goto (tgt := 3) hx hb dX11_four_33 (by decide) ?_
  refine lv_iload_n hx hb dX11_four_3 rfl (lv_at hl 0 rfl) ?_
  refine lv_if_lt (tgt := 36) hx hb dX11_four_4 (by decide) (fun c25 => ?_) (fun c25 => ?_)
  rotate_left
  · exact absurd c25 (by decide)
  refine W.widen (k := 0) (n := 0) (Nat.le_of_ble_eq_true rfl) (Nat.le_of_ble_eq_true rfl) ?_
  exact W.vret hx hb hr (fun t ht hW => ⟨⟨f23, rfl, trivial, CB.mk ht (hP.sub [0, 1] rfl) (hD.sub [0, 1] (by decide) rfl)⟩, hS.F ht⟩) hS.2.2 dX11_four_36
set_option maxHeartbeats 4000000 in
set_option maxRecDepth 100000 in
theorem x_feed (l : Launch) (D : va_G) (Y : Nat → ClassId) (Z : Nat → Nat) (sz : Nat) (o : Nat) (b : Nat → Nat) (p0 p1 p2 p3 p4 : Int32) : Met l yX10_feed (.code yX10_feed cX10_feed 6 (some .int) :: GW) ({ frames := 1, cells := 0, slots := 0, locals := 22 }) (va_Pc [.ref o, .int p0, .int p1, .int p2, .int p3, .int p4] (CP D Y Z [(o, .inr (10, (dsF b))), ((b 0), .inr (6, (skF b))), ((b 22), .inl (Y 2, 400, .inl (fun _ => 0)))] sz)) (QG (S := Unit) (fun _ => some (.int 20)) (fun _ => True) (fun u => CB D ((fun _ => []) u) (va_A [(o, .inr (10, (dsF b))), ((b 0), .inr (6, (skF b))), ((b 22), .inl (Y 2, 400, .inl (fun _ => 0)))] sz)) (va_A [(o, .inr (10, (dsF b))), ((b 0), .inr (6, (skF b))), ((b 22), .inl (Y 2, 400, .inl (fun _ => 0)))] sz)) 0 0 (va_A [(o, .inr (10, (dsF b))), ((b 0), .inr (6, (skF b))), ((b 22), .inl (Y 2, 400, .inl (fun _ => 0)))] sz) := by
  refine Met.ofW (cc := cX10_feed) (maxL := 6) (ret := (some .int)) (by decide) rfl ?_
  intro p e s m args below meth c s₁ B hml hv
  obtain ⟨rfl, hsz, hP, hKN, hD0⟩ := hv
  have hx := B.exec
  have hb := B.bytes
  have hr := B.returns
  have hts := atoms_spec (ws := .code yX10_feed cX10_feed 6 (some .int) :: GW) B.pre
  have hg : ∀ w ∈ GW, w.before _ s = true := fun w h => hts w (List.mem_cons_of_mem _ h)
  have hown : s.vm.findClass RX10 = some m.cls := findClass_of_methodNamed B.named
  have hlocks := B.notSynchronized
  subst hsz
  have hD := hD0.self (sz := s.heap.size)
  generalize hAe : va_A [(o, .inr (10, (dsF b))), ((b 0), .inr (6, (skF b))), ((b 22), .inl (Y 2, 400, .inl (fun _ => 0)))] s.heap.size = A at hD ⊢
  have hA : ∀ q : Nat, s.heap.size ≤ q → A q := fun q h => by rw [← hAe]; exact Or.inr h
  have hl := lv_entry ([.ref o, .int p0, .int p1, .int p2, .int p3, .int p4]) (n := 6) (Nat.le_of_ble_eq_true rfl)
  rw [lg_entry_eq]
  generalize (lg_sl ([.ref o, .int p0, .int p1, .int p2, .int p3, .int p4]) ++ List.replicate (6 - (lg_sl ([.ref o, .int p0, .int p1, .int p2, .int p3, .int p4])).length) Slot.unset).toArray = ls at hl ⊢
  have hl : lv_has ls 6 [(0, .ref o), (1, .int p0), (2, .int p1), (3, .int p2), (4, .int p3), (5, .int p4)] := hl
  refine w_start (A0 := A) hP (fun H locs hP hS => ?_)
  refine lv_aload_n hx hb dX10_feed_0 rfl (lv_at hl 0 rfl) ?_
  refine va_get (D := D) (ci := 10) (v := .ref (b 0)) (C := RX10) (T := TX10) (N := 20) hx hb hg inGX10 hown hKN.1 hP 0 rfl rfl 0 (by decide) (hg _ kw_349) (fun _ h9 => h9) rfl dX10_feed_1 ?_
  refine va_getN (D := D) (ci := 6) (v := .int 0) (C := RX6) (T := TX6) (N := 13) hx hb hg inGX6 hown hKN.1 hP 1 rfl rfl 12 (by decide) (va_Nw.use rfl (hKN.2.1 _ kn_68 rfl)) (fun _ h9 => h9) rfl dX10_feed_4 ?_
  refine lv_bipush (v := 20) hx hb dX10_feed_7 (by decide) ?_
  refine lv_iadd hx hb dX10_feed_9 ?_
  refine lv_topi (fun z1 ez1 => ?_)
  obtain rfl : z1 = 20 := ez1.trans (by decide)
  refine lv_sipush (v := 400) hx hb dX10_feed_10 (by decide) ?_
  refine lv_icmp_le (tgt := 18) hx hb dX10_feed_13 (by decide) (fun c2 => ?_) (fun c2 => ?_)
  rotate_left
  · exact absurd c2 (by decide)
  refine lv_aload_n hx hb dX10_feed_18 rfl (lv_at hl 0 rfl) ?_
  refine va_get (D := D) (ci := 10) (v := .ref (b 0)) (C := RX10) (T := TX10) (N := 20) hx hb hg inGX10 hown hKN.1 hP 0 rfl rfl 0 (by decide) (hg _ kw_349) (fun _ h9 => h9) rfl dX10_feed_19 ?_
  refine lv_iload_n hx hb dX10_feed_22 rfl (lv_at hl 1 rfl) ?_
  refine cg (wc := [((b 0), .inr (6, (skF b))), ((b 22), .inl (Y 2, 400, .inl (fun _ => 0)))]) (wr := [(o, .inr (10, (dsF b)))]) [1, 2] [0] (rn_NV (As := [.int p0]) (rest := []) (b := (b 0)) (c_addBytes0 l D Y Z H.size b p0 (fun _ => 0)) ⟨hx, hb, hml, hown, hg⟩ hKN lk_X10_165 ⟨CP.blind, va_recv hKN.1 hP (ci := 6) (q0 := 1) rfl rfl, CP.at (hP.sub [1, 2] rfl) hKN (hD.sub [1, 2] (by decide) rfl)⟩ ⟨⟨rfl, rfl⟩, ⟨Nat.le_of_ble_eq_true rfl, Nat.le_of_ble_eq_true rfl⟩, ⟨Nat.le_of_ble_eq_true rfl, Nat.le_of_ble_eq_true rfl⟩⟩ hl.1 rfl (Nat.le_of_ble_eq_true rfl) dX10_feed_23) hP hD hS hA rfl rfl (by decide) (by decide) (fun u3 H locs w4 hP hD hS => ?_)
  refine W.eq (g2 := F0 m 26 ls []) rfl ?_
  have hP : va_P D vwCl [(o, .inr (10, (dsF b))), ((b 0), .inr (6, (.int 0 :: .ref (b 16) :: .int 0 :: .ref (b 17) :: .int 0 :: .ref (b 18) :: .ref (b 19) :: .int 20 :: .ref (b 20) :: .ref (b 21) :: .int 0 :: .ref (b 22) :: .int 4 :: []))), ((b 22), .inl (Y 2, 400, .inl u3))] H := hP
  have hD : va_D A [(o, .inr (10, (dsF b))), ((b 0), .inr (6, (.int 0 :: .ref (b 16) :: .int 0 :: .ref (b 17) :: .int 0 :: .ref (b 18) :: .ref (b 19) :: .int 20 :: .ref (b 20) :: .ref (b 21) :: .int 0 :: .ref (b 22) :: .int 4 :: []))), ((b 22), .inl (Y 2, 400, .inl u3))] := hD
  refine lv_aload_n hx hb dX10_feed_26 rfl (lv_at hl 0 rfl) ?_
  refine va_get (D := D) (ci := 10) (v := .ref (b 0)) (C := RX10) (T := TX10) (N := 20) hx hb hg inGX10 hown hKN.1 hP 0 rfl rfl 0 (by decide) (hg _ kw_349) (fun _ h9 => h9) rfl dX10_feed_27 ?_
  refine lv_iload_n hx hb dX10_feed_30 rfl (lv_at hl 2 rfl) ?_
  refine cg (wc := [((b 0), .inr (6, (.int 0 :: .ref (b 16) :: .int 0 :: .ref (b 17) :: .int 0 :: .ref (b 18) :: .ref (b 19) :: .int 20 :: .ref (b 20) :: .ref (b 21) :: .int 0 :: .ref (b 22) :: .int 4 :: []))), ((b 22), .inl (Y 2, 400, .inl u3))]) (wr := [(o, .inr (10, (dsF b)))]) [1, 2] [0] (rn_NV (As := [.int p1]) (rest := []) (b := (b 0)) (c_addBytes4 l D Y Z H.size b p1 u3) ⟨hx, hb, hml, hown, hg⟩ hKN lk_X10_165 ⟨CP.blind, va_recv hKN.1 hP (ci := 6) (q0 := 1) rfl rfl, CP.at (hP.sub [1, 2] rfl) hKN (hD.sub [1, 2] (by decide) rfl)⟩ ⟨⟨rfl, rfl⟩, ⟨Nat.le_of_ble_eq_true rfl, Nat.le_of_ble_eq_true rfl⟩, ⟨Nat.le_of_ble_eq_true rfl, Nat.le_of_ble_eq_true rfl⟩⟩ hl.1 rfl (Nat.le_of_ble_eq_true rfl) dX10_feed_31) hP hD hS hA rfl rfl (by decide) (by decide) (fun u5 H locs w6 hP hD hS => ?_)
  refine W.eq (g2 := F0 m 34 ls []) rfl ?_
  have hP : va_P D vwCl [(o, .inr (10, (dsF b))), ((b 0), .inr (6, (.int 0 :: .ref (b 16) :: .int 0 :: .ref (b 17) :: .int 0 :: .ref (b 18) :: .ref (b 19) :: .int 20 :: .ref (b 20) :: .ref (b 21) :: .int 0 :: .ref (b 22) :: .int 8 :: []))), ((b 22), .inl (Y 2, 400, .inl u5))] H := hP
  have hD : va_D A [(o, .inr (10, (dsF b))), ((b 0), .inr (6, (.int 0 :: .ref (b 16) :: .int 0 :: .ref (b 17) :: .int 0 :: .ref (b 18) :: .ref (b 19) :: .int 20 :: .ref (b 20) :: .ref (b 21) :: .int 0 :: .ref (b 22) :: .int 8 :: []))), ((b 22), .inl (Y 2, 400, .inl u5))] := hD
  refine lv_aload_n hx hb dX10_feed_34 rfl (lv_at hl 0 rfl) ?_
  refine va_get (D := D) (ci := 10) (v := .ref (b 0)) (C := RX10) (T := TX10) (N := 20) hx hb hg inGX10 hown hKN.1 hP 0 rfl rfl 0 (by decide) (hg _ kw_349) (fun _ h9 => h9) rfl dX10_feed_35 ?_
  refine lv_iload_n hx hb dX10_feed_38 rfl (lv_at hl 3 rfl) ?_
  refine cg (wc := [((b 0), .inr (6, (.int 0 :: .ref (b 16) :: .int 0 :: .ref (b 17) :: .int 0 :: .ref (b 18) :: .ref (b 19) :: .int 20 :: .ref (b 20) :: .ref (b 21) :: .int 0 :: .ref (b 22) :: .int 8 :: []))), ((b 22), .inl (Y 2, 400, .inl u5))]) (wr := [(o, .inr (10, (dsF b)))]) [1, 2] [0] (rn_NV (As := [.int p2]) (rest := []) (b := (b 0)) (c_addBytes8 l D Y Z H.size b p2 u5) ⟨hx, hb, hml, hown, hg⟩ hKN lk_X10_165 ⟨CP.blind, va_recv hKN.1 hP (ci := 6) (q0 := 1) rfl rfl, CP.at (hP.sub [1, 2] rfl) hKN (hD.sub [1, 2] (by decide) rfl)⟩ ⟨⟨rfl, rfl⟩, ⟨Nat.le_of_ble_eq_true rfl, Nat.le_of_ble_eq_true rfl⟩, ⟨Nat.le_of_ble_eq_true rfl, Nat.le_of_ble_eq_true rfl⟩⟩ hl.1 rfl (Nat.le_of_ble_eq_true rfl) dX10_feed_39) hP hD hS hA rfl rfl (by decide) (by decide) (fun u7 H locs w8 hP hD hS => ?_)
  refine W.eq (g2 := F0 m 42 ls []) rfl ?_
  have hP : va_P D vwCl [(o, .inr (10, (dsF b))), ((b 0), .inr (6, (.int 0 :: .ref (b 16) :: .int 0 :: .ref (b 17) :: .int 0 :: .ref (b 18) :: .ref (b 19) :: .int 20 :: .ref (b 20) :: .ref (b 21) :: .int 0 :: .ref (b 22) :: .int 12 :: []))), ((b 22), .inl (Y 2, 400, .inl u7))] H := hP
  have hD : va_D A [(o, .inr (10, (dsF b))), ((b 0), .inr (6, (.int 0 :: .ref (b 16) :: .int 0 :: .ref (b 17) :: .int 0 :: .ref (b 18) :: .ref (b 19) :: .int 20 :: .ref (b 20) :: .ref (b 21) :: .int 0 :: .ref (b 22) :: .int 12 :: []))), ((b 22), .inl (Y 2, 400, .inl u7))] := hD
  refine lv_aload_n hx hb dX10_feed_42 rfl (lv_at hl 0 rfl) ?_
  refine va_get (D := D) (ci := 10) (v := .ref (b 0)) (C := RX10) (T := TX10) (N := 20) hx hb hg inGX10 hown hKN.1 hP 0 rfl rfl 0 (by decide) (hg _ kw_349) (fun _ h9 => h9) rfl dX10_feed_43 ?_
  refine lv_iload hx hb dX10_feed_46 (lv_at hl 4 rfl) ?_
  refine cg (wc := [((b 0), .inr (6, (.int 0 :: .ref (b 16) :: .int 0 :: .ref (b 17) :: .int 0 :: .ref (b 18) :: .ref (b 19) :: .int 20 :: .ref (b 20) :: .ref (b 21) :: .int 0 :: .ref (b 22) :: .int 12 :: []))), ((b 22), .inl (Y 2, 400, .inl u7))]) (wr := [(o, .inr (10, (dsF b)))]) [1, 2] [0] (rn_NV (As := [.int p3]) (rest := []) (b := (b 0)) (c_addBytes12 l D Y Z H.size b p3 u7) ⟨hx, hb, hml, hown, hg⟩ hKN lk_X10_165 ⟨CP.blind, va_recv hKN.1 hP (ci := 6) (q0 := 1) rfl rfl, CP.at (hP.sub [1, 2] rfl) hKN (hD.sub [1, 2] (by decide) rfl)⟩ ⟨⟨rfl, rfl⟩, ⟨Nat.le_of_ble_eq_true rfl, Nat.le_of_ble_eq_true rfl⟩, ⟨Nat.le_of_ble_eq_true rfl, Nat.le_of_ble_eq_true rfl⟩⟩ hl.1 rfl (Nat.le_of_ble_eq_true rfl) dX10_feed_48) hP hD hS hA rfl rfl (by decide) (by decide) (fun u9 H locs w10 hP hD hS => ?_)
  refine W.eq (g2 := F0 m 51 ls []) rfl ?_
  have hP : va_P D vwCl [(o, .inr (10, (dsF b))), ((b 0), .inr (6, (.int 0 :: .ref (b 16) :: .int 0 :: .ref (b 17) :: .int 0 :: .ref (b 18) :: .ref (b 19) :: .int 20 :: .ref (b 20) :: .ref (b 21) :: .int 0 :: .ref (b 22) :: .int 16 :: []))), ((b 22), .inl (Y 2, 400, .inl u9))] H := hP
  have hD : va_D A [(o, .inr (10, (dsF b))), ((b 0), .inr (6, (.int 0 :: .ref (b 16) :: .int 0 :: .ref (b 17) :: .int 0 :: .ref (b 18) :: .ref (b 19) :: .int 20 :: .ref (b 20) :: .ref (b 21) :: .int 0 :: .ref (b 22) :: .int 16 :: []))), ((b 22), .inl (Y 2, 400, .inl u9))] := hD
  refine lv_aload_n hx hb dX10_feed_51 rfl (lv_at hl 0 rfl) ?_
  refine va_get (D := D) (ci := 10) (v := .ref (b 0)) (C := RX10) (T := TX10) (N := 20) hx hb hg inGX10 hown hKN.1 hP 0 rfl rfl 0 (by decide) (hg _ kw_349) (fun _ h9 => h9) rfl dX10_feed_52 ?_
  refine lv_iload hx hb dX10_feed_55 (lv_at hl 5 rfl) ?_
  refine cg (wc := [((b 0), .inr (6, (.int 0 :: .ref (b 16) :: .int 0 :: .ref (b 17) :: .int 0 :: .ref (b 18) :: .ref (b 19) :: .int 20 :: .ref (b 20) :: .ref (b 21) :: .int 0 :: .ref (b 22) :: .int 16 :: []))), ((b 22), .inl (Y 2, 400, .inl u9))]) (wr := [(o, .inr (10, (dsF b)))]) [1, 2] [0] (rn_NV (As := [.int p4]) (rest := []) (b := (b 0)) (c_addBytes16 l D Y Z H.size b p4 u9) ⟨hx, hb, hml, hown, hg⟩ hKN lk_X10_165 ⟨CP.blind, va_recv hKN.1 hP (ci := 6) (q0 := 1) rfl rfl, CP.at (hP.sub [1, 2] rfl) hKN (hD.sub [1, 2] (by decide) rfl)⟩ ⟨⟨rfl, rfl⟩, ⟨Nat.le_of_ble_eq_true rfl, Nat.le_of_ble_eq_true rfl⟩, ⟨Nat.le_of_ble_eq_true rfl, Nat.le_of_ble_eq_true rfl⟩⟩ hl.1 rfl (Nat.le_of_ble_eq_true rfl) dX10_feed_57) hP hD hS hA rfl rfl (by decide) (by decide) (fun u11 H locs w12 hP hD hS => ?_)
  refine W.eq (g2 := F0 m 60 ls []) rfl ?_
  have hP : va_P D vwCl [(o, .inr (10, (dsF b))), ((b 0), .inr (6, (.int 0 :: .ref (b 16) :: .int 0 :: .ref (b 17) :: .int 0 :: .ref (b 18) :: .ref (b 19) :: .int 20 :: .ref (b 20) :: .ref (b 21) :: .int 0 :: .ref (b 22) :: .int 20 :: []))), ((b 22), .inl (Y 2, 400, .inl u11))] H := hP
  have hD : va_D A [(o, .inr (10, (dsF b))), ((b 0), .inr (6, (.int 0 :: .ref (b 16) :: .int 0 :: .ref (b 17) :: .int 0 :: .ref (b 18) :: .ref (b 19) :: .int 20 :: .ref (b 20) :: .ref (b 21) :: .int 0 :: .ref (b 22) :: .int 20 :: []))), ((b 22), .inl (Y 2, 400, .inl u11))] := hD
  refine lv_aload_n hx hb dX10_feed_60 rfl (lv_at hl 0 rfl) ?_
  refine va_get (D := D) (ci := 10) (v := .ref (b 0)) (C := RX10) (T := TX10) (N := 20) hx hb hg inGX10 hown hKN.1 hP 0 rfl rfl 0 (by decide) (hg _ kw_349) (fun _ h9 => h9) rfl dX10_feed_61 ?_
  refine va_getN (D := D) (ci := 6) (v := .int 20) (C := RX6) (T := TX6) (N := 13) hx hb hg inGX6 hown hKN.1 hP 1 rfl rfl 12 (by decide) (va_Nw.use rfl (hKN.2.1 _ kn_68 rfl)) (fun _ h9 => h9) rfl dX10_feed_64 ?_
  refine W.widen (k := 0) (n := 0) (Nat.le_of_ble_eq_true rfl) (Nat.le_of_ble_eq_true rfl) ?_
  exact W.iret (v := 20) hx hb hr (fun t ht hW => ⟨⟨(), rfl, trivial, CB.nil⟩, hS.F ht⟩) hS.2.2 dX10_feed_67
set_option maxHeartbeats 4000000 in
set_option maxRecDepth 100000 in
theorem y_feed (l : Launch) (D : va_G) (Y : Nat → ClassId) (Z : Nat → Nat) (sz : Nat) (o : Nat) (a : Nat → Nat) (p0 p1 p2 p3 p4 : Int32) : Met l yX11_feed (.code yX11_feed cX11_feed 6 (some .int) :: GW) ({ frames := 1, cells := 0, slots := 0, locals := 22 }) (va_Pc [.ref o, .int p0, .int p1, .int p2, .int p3, .int p4] (CP D Y Z [(o, .inr (11, (moF a))), ((a 2), .inl (Y 2, 400, .inl (fun _ => 0)))] sz)) (QG (S := Unit) (fun _ => some (.int 20)) (fun _ => True) (fun u => CB D ((fun _ => []) u) (va_A [(o, .inr (11, (moF a))), ((a 2), .inl (Y 2, 400, .inl (fun _ => 0)))] sz)) (va_A [(o, .inr (11, (moF a))), ((a 2), .inl (Y 2, 400, .inl (fun _ => 0)))] sz)) 0 0 (va_A [(o, .inr (11, (moF a))), ((a 2), .inl (Y 2, 400, .inl (fun _ => 0)))] sz) := by
  refine Met.ofW (cc := cX11_feed) (maxL := 6) (ret := (some .int)) (by decide) rfl ?_
  intro p e s m args below meth c s₁ B hml hv
  obtain ⟨rfl, hsz, hP, hKN, hD0⟩ := hv
  have hx := B.exec
  have hb := B.bytes
  have hr := B.returns
  have hts := atoms_spec (ws := .code yX11_feed cX11_feed 6 (some .int) :: GW) B.pre
  have hg : ∀ w ∈ GW, w.before _ s = true := fun w h => hts w (List.mem_cons_of_mem _ h)
  have hown : s.vm.findClass RX11 = some m.cls := findClass_of_methodNamed B.named
  have hlocks := B.notSynchronized
  subst hsz
  have hD := hD0.self (sz := s.heap.size)
  generalize hAe : va_A [(o, .inr (11, (moF a))), ((a 2), .inl (Y 2, 400, .inl (fun _ => 0)))] s.heap.size = A at hD ⊢
  have hA : ∀ q : Nat, s.heap.size ≤ q → A q := fun q h => by rw [← hAe]; exact Or.inr h
  have hl := lv_entry ([.ref o, .int p0, .int p1, .int p2, .int p3, .int p4]) (n := 6) (Nat.le_of_ble_eq_true rfl)
  rw [lg_entry_eq]
  generalize (lg_sl ([.ref o, .int p0, .int p1, .int p2, .int p3, .int p4]) ++ List.replicate (6 - (lg_sl ([.ref o, .int p0, .int p1, .int p2, .int p3, .int p4])).length) Slot.unset).toArray = ls at hl ⊢
  have hl : lv_has ls 6 [(0, .ref o), (1, .int p0), (2, .int p1), (3, .int p2), (4, .int p3), (5, .int p4)] := hl
  refine w_start (A0 := A) hP (fun H locs hP hS => ?_)
  refine lv_aload_n hx hb dX11_feed_0 rfl (lv_at hl 0 rfl) ?_
  refine va_get (D := D) (ci := 11) (v := .int 0) (C := RX11) (T := TX11) (N := 49) hx hb hg inGX11 hown hKN.1 hP 0 rfl rfl 3 (by decide) (hg _ kw_1211) (fun _ h9 => h9) rfl dX11_feed_1 ?_
  refine lv_bipush (v := 20) hx hb dX11_feed_4 (by decide) ?_
  refine lv_iadd hx hb dX11_feed_6 ?_
  refine lv_topi (fun z1 ez1 => ?_)
  obtain rfl : z1 = 20 := ez1.trans (by decide)
  refine lv_sipush (v := 400) hx hb dX11_feed_7 (by decide) ?_
  refine lv_icmp_le (tgt := 15) hx hb dX11_feed_10 (by decide) (fun c2 => ?_) (fun c2 => ?_)
  rotate_left
  · exact absurd c2 (by decide)
  refine lv_aload_n hx hb dX11_feed_15 rfl (lv_at hl 0 rfl) ?_
  refine lv_iload_n hx hb dX11_feed_16 rfl (lv_at hl 1 rfl) ?_
  refine cg (wc := [(o, .inr (11, (moF a))), ((a 2), .inl (Y 2, 400, .inl (fun _ => 0)))]) (wr := []) [0, 1] [] (rn_V (As := [.int p0]) (rest := []) (b := o) (m_four0 l D Y Z H.size o a p0 (fun _ => 0)) ⟨hx, hb, hml, hown, hg⟩ lk_X11_173 ⟨CP.blind, va_recv hKN.1 hP (ci := 11) (q0 := 0) rfl rfl, CP.at (hP.sub [0, 1] rfl) hKN (hD.sub [0, 1] (by decide) rfl)⟩ ⟨⟨rfl, rfl⟩, ⟨Nat.le_of_ble_eq_true rfl, Nat.le_of_ble_eq_true rfl⟩, ⟨Nat.le_of_ble_eq_true rfl, Nat.le_of_ble_eq_true rfl⟩⟩ hl.1 rfl (Nat.le_of_ble_eq_true rfl) dX11_feed_17) hP hD hS hA rfl rfl (by decide) (by decide) (fun u3 H locs w4 hP hD hS => ?_)
  refine W.eq (g2 := F0 m 20 ls []) rfl ?_
  have hP : va_P D vwCl [(o, .inr (11, (.ref (a 0) :: .ref (a 1) :: .ref (a 2) :: .int 4 :: .ref (a 3) :: .ref (a 4) :: .ref (a 5) :: .ref (a 6) :: .ref (a 7) :: .ref (a 8) :: .ref (a 9) :: .ref (a 10) :: .ref (a 11) :: .ref (a 12) :: .ref (a 13) :: .ref (a 14) :: .int 0 :: .int 0 :: .int 0 :: .int 0 :: .int 0 :: .int 0 :: .int 0 :: .ref (a 15) :: .int 0 :: .ref (a 16) :: .int 0 :: .ref (a 17) :: .ref (a 18) :: .int 0 :: .long 0 :: .long 0 :: .int 0 :: .long 0 :: .int 0 :: .int 0 :: .int 0 :: .long 0 :: .long 0 :: .int 0 :: .ref (a 19) :: .ref (a 20) :: .ref (a 21) :: .ref (a 22) :: .ref (a 23) :: .ref (a 24) :: .ref (a 25) :: .ref (a 26) :: .ref (a 27) :: []))), ((a 2), .inl (Y 2, 400, .inl u3))] H := hP
  have hD : va_D A [(o, .inr (11, (.ref (a 0) :: .ref (a 1) :: .ref (a 2) :: .int 4 :: .ref (a 3) :: .ref (a 4) :: .ref (a 5) :: .ref (a 6) :: .ref (a 7) :: .ref (a 8) :: .ref (a 9) :: .ref (a 10) :: .ref (a 11) :: .ref (a 12) :: .ref (a 13) :: .ref (a 14) :: .int 0 :: .int 0 :: .int 0 :: .int 0 :: .int 0 :: .int 0 :: .int 0 :: .ref (a 15) :: .int 0 :: .ref (a 16) :: .int 0 :: .ref (a 17) :: .ref (a 18) :: .int 0 :: .long 0 :: .long 0 :: .int 0 :: .long 0 :: .int 0 :: .int 0 :: .int 0 :: .long 0 :: .long 0 :: .int 0 :: .ref (a 19) :: .ref (a 20) :: .ref (a 21) :: .ref (a 22) :: .ref (a 23) :: .ref (a 24) :: .ref (a 25) :: .ref (a 26) :: .ref (a 27) :: []))), ((a 2), .inl (Y 2, 400, .inl u3))] := hD
  refine lv_aload_n hx hb dX11_feed_20 rfl (lv_at hl 0 rfl) ?_
  refine lv_iload_n hx hb dX11_feed_21 rfl (lv_at hl 2 rfl) ?_
  refine cg (wc := [(o, .inr (11, (.ref (a 0) :: .ref (a 1) :: .ref (a 2) :: .int 4 :: .ref (a 3) :: .ref (a 4) :: .ref (a 5) :: .ref (a 6) :: .ref (a 7) :: .ref (a 8) :: .ref (a 9) :: .ref (a 10) :: .ref (a 11) :: .ref (a 12) :: .ref (a 13) :: .ref (a 14) :: .int 0 :: .int 0 :: .int 0 :: .int 0 :: .int 0 :: .int 0 :: .int 0 :: .ref (a 15) :: .int 0 :: .ref (a 16) :: .int 0 :: .ref (a 17) :: .ref (a 18) :: .int 0 :: .long 0 :: .long 0 :: .int 0 :: .long 0 :: .int 0 :: .int 0 :: .int 0 :: .long 0 :: .long 0 :: .int 0 :: .ref (a 19) :: .ref (a 20) :: .ref (a 21) :: .ref (a 22) :: .ref (a 23) :: .ref (a 24) :: .ref (a 25) :: .ref (a 26) :: .ref (a 27) :: []))), ((a 2), .inl (Y 2, 400, .inl u3))]) (wr := []) [0, 1] [] (rn_V (As := [.int p1]) (rest := []) (b := o) (m_four4 l D Y Z H.size o a p1 u3) ⟨hx, hb, hml, hown, hg⟩ lk_X11_173 ⟨CP.blind, va_recv hKN.1 hP (ci := 11) (q0 := 0) rfl rfl, CP.at (hP.sub [0, 1] rfl) hKN (hD.sub [0, 1] (by decide) rfl)⟩ ⟨⟨rfl, rfl⟩, ⟨Nat.le_of_ble_eq_true rfl, Nat.le_of_ble_eq_true rfl⟩, ⟨Nat.le_of_ble_eq_true rfl, Nat.le_of_ble_eq_true rfl⟩⟩ hl.1 rfl (Nat.le_of_ble_eq_true rfl) dX11_feed_22) hP hD hS hA rfl rfl (by decide) (by decide) (fun u5 H locs w6 hP hD hS => ?_)
  refine W.eq (g2 := F0 m 25 ls []) rfl ?_
  have hP : va_P D vwCl [(o, .inr (11, (.ref (a 0) :: .ref (a 1) :: .ref (a 2) :: .int 8 :: .ref (a 3) :: .ref (a 4) :: .ref (a 5) :: .ref (a 6) :: .ref (a 7) :: .ref (a 8) :: .ref (a 9) :: .ref (a 10) :: .ref (a 11) :: .ref (a 12) :: .ref (a 13) :: .ref (a 14) :: .int 0 :: .int 0 :: .int 0 :: .int 0 :: .int 0 :: .int 0 :: .int 0 :: .ref (a 15) :: .int 0 :: .ref (a 16) :: .int 0 :: .ref (a 17) :: .ref (a 18) :: .int 0 :: .long 0 :: .long 0 :: .int 0 :: .long 0 :: .int 0 :: .int 0 :: .int 0 :: .long 0 :: .long 0 :: .int 0 :: .ref (a 19) :: .ref (a 20) :: .ref (a 21) :: .ref (a 22) :: .ref (a 23) :: .ref (a 24) :: .ref (a 25) :: .ref (a 26) :: .ref (a 27) :: []))), ((a 2), .inl (Y 2, 400, .inl u5))] H := hP
  have hD : va_D A [(o, .inr (11, (.ref (a 0) :: .ref (a 1) :: .ref (a 2) :: .int 8 :: .ref (a 3) :: .ref (a 4) :: .ref (a 5) :: .ref (a 6) :: .ref (a 7) :: .ref (a 8) :: .ref (a 9) :: .ref (a 10) :: .ref (a 11) :: .ref (a 12) :: .ref (a 13) :: .ref (a 14) :: .int 0 :: .int 0 :: .int 0 :: .int 0 :: .int 0 :: .int 0 :: .int 0 :: .ref (a 15) :: .int 0 :: .ref (a 16) :: .int 0 :: .ref (a 17) :: .ref (a 18) :: .int 0 :: .long 0 :: .long 0 :: .int 0 :: .long 0 :: .int 0 :: .int 0 :: .int 0 :: .long 0 :: .long 0 :: .int 0 :: .ref (a 19) :: .ref (a 20) :: .ref (a 21) :: .ref (a 22) :: .ref (a 23) :: .ref (a 24) :: .ref (a 25) :: .ref (a 26) :: .ref (a 27) :: []))), ((a 2), .inl (Y 2, 400, .inl u5))] := hD
  refine lv_aload_n hx hb dX11_feed_25 rfl (lv_at hl 0 rfl) ?_
  refine lv_iload_n hx hb dX11_feed_26 rfl (lv_at hl 3 rfl) ?_
  refine cg (wc := [(o, .inr (11, (.ref (a 0) :: .ref (a 1) :: .ref (a 2) :: .int 8 :: .ref (a 3) :: .ref (a 4) :: .ref (a 5) :: .ref (a 6) :: .ref (a 7) :: .ref (a 8) :: .ref (a 9) :: .ref (a 10) :: .ref (a 11) :: .ref (a 12) :: .ref (a 13) :: .ref (a 14) :: .int 0 :: .int 0 :: .int 0 :: .int 0 :: .int 0 :: .int 0 :: .int 0 :: .ref (a 15) :: .int 0 :: .ref (a 16) :: .int 0 :: .ref (a 17) :: .ref (a 18) :: .int 0 :: .long 0 :: .long 0 :: .int 0 :: .long 0 :: .int 0 :: .int 0 :: .int 0 :: .long 0 :: .long 0 :: .int 0 :: .ref (a 19) :: .ref (a 20) :: .ref (a 21) :: .ref (a 22) :: .ref (a 23) :: .ref (a 24) :: .ref (a 25) :: .ref (a 26) :: .ref (a 27) :: []))), ((a 2), .inl (Y 2, 400, .inl u5))]) (wr := []) [0, 1] [] (rn_V (As := [.int p2]) (rest := []) (b := o) (m_four8 l D Y Z H.size o a p2 u5) ⟨hx, hb, hml, hown, hg⟩ lk_X11_173 ⟨CP.blind, va_recv hKN.1 hP (ci := 11) (q0 := 0) rfl rfl, CP.at (hP.sub [0, 1] rfl) hKN (hD.sub [0, 1] (by decide) rfl)⟩ ⟨⟨rfl, rfl⟩, ⟨Nat.le_of_ble_eq_true rfl, Nat.le_of_ble_eq_true rfl⟩, ⟨Nat.le_of_ble_eq_true rfl, Nat.le_of_ble_eq_true rfl⟩⟩ hl.1 rfl (Nat.le_of_ble_eq_true rfl) dX11_feed_27) hP hD hS hA rfl rfl (by decide) (by decide) (fun u7 H locs w8 hP hD hS => ?_)
  refine W.eq (g2 := F0 m 30 ls []) rfl ?_
  have hP : va_P D vwCl [(o, .inr (11, (.ref (a 0) :: .ref (a 1) :: .ref (a 2) :: .int 12 :: .ref (a 3) :: .ref (a 4) :: .ref (a 5) :: .ref (a 6) :: .ref (a 7) :: .ref (a 8) :: .ref (a 9) :: .ref (a 10) :: .ref (a 11) :: .ref (a 12) :: .ref (a 13) :: .ref (a 14) :: .int 0 :: .int 0 :: .int 0 :: .int 0 :: .int 0 :: .int 0 :: .int 0 :: .ref (a 15) :: .int 0 :: .ref (a 16) :: .int 0 :: .ref (a 17) :: .ref (a 18) :: .int 0 :: .long 0 :: .long 0 :: .int 0 :: .long 0 :: .int 0 :: .int 0 :: .int 0 :: .long 0 :: .long 0 :: .int 0 :: .ref (a 19) :: .ref (a 20) :: .ref (a 21) :: .ref (a 22) :: .ref (a 23) :: .ref (a 24) :: .ref (a 25) :: .ref (a 26) :: .ref (a 27) :: []))), ((a 2), .inl (Y 2, 400, .inl u7))] H := hP
  have hD : va_D A [(o, .inr (11, (.ref (a 0) :: .ref (a 1) :: .ref (a 2) :: .int 12 :: .ref (a 3) :: .ref (a 4) :: .ref (a 5) :: .ref (a 6) :: .ref (a 7) :: .ref (a 8) :: .ref (a 9) :: .ref (a 10) :: .ref (a 11) :: .ref (a 12) :: .ref (a 13) :: .ref (a 14) :: .int 0 :: .int 0 :: .int 0 :: .int 0 :: .int 0 :: .int 0 :: .int 0 :: .ref (a 15) :: .int 0 :: .ref (a 16) :: .int 0 :: .ref (a 17) :: .ref (a 18) :: .int 0 :: .long 0 :: .long 0 :: .int 0 :: .long 0 :: .int 0 :: .int 0 :: .int 0 :: .long 0 :: .long 0 :: .int 0 :: .ref (a 19) :: .ref (a 20) :: .ref (a 21) :: .ref (a 22) :: .ref (a 23) :: .ref (a 24) :: .ref (a 25) :: .ref (a 26) :: .ref (a 27) :: []))), ((a 2), .inl (Y 2, 400, .inl u7))] := hD
  refine lv_aload_n hx hb dX11_feed_30 rfl (lv_at hl 0 rfl) ?_
  refine lv_iload hx hb dX11_feed_31 (lv_at hl 4 rfl) ?_
  refine cg (wc := [(o, .inr (11, (.ref (a 0) :: .ref (a 1) :: .ref (a 2) :: .int 12 :: .ref (a 3) :: .ref (a 4) :: .ref (a 5) :: .ref (a 6) :: .ref (a 7) :: .ref (a 8) :: .ref (a 9) :: .ref (a 10) :: .ref (a 11) :: .ref (a 12) :: .ref (a 13) :: .ref (a 14) :: .int 0 :: .int 0 :: .int 0 :: .int 0 :: .int 0 :: .int 0 :: .int 0 :: .ref (a 15) :: .int 0 :: .ref (a 16) :: .int 0 :: .ref (a 17) :: .ref (a 18) :: .int 0 :: .long 0 :: .long 0 :: .int 0 :: .long 0 :: .int 0 :: .int 0 :: .int 0 :: .long 0 :: .long 0 :: .int 0 :: .ref (a 19) :: .ref (a 20) :: .ref (a 21) :: .ref (a 22) :: .ref (a 23) :: .ref (a 24) :: .ref (a 25) :: .ref (a 26) :: .ref (a 27) :: []))), ((a 2), .inl (Y 2, 400, .inl u7))]) (wr := []) [0, 1] [] (rn_V (As := [.int p3]) (rest := []) (b := o) (m_four12 l D Y Z H.size o a p3 u7) ⟨hx, hb, hml, hown, hg⟩ lk_X11_173 ⟨CP.blind, va_recv hKN.1 hP (ci := 11) (q0 := 0) rfl rfl, CP.at (hP.sub [0, 1] rfl) hKN (hD.sub [0, 1] (by decide) rfl)⟩ ⟨⟨rfl, rfl⟩, ⟨Nat.le_of_ble_eq_true rfl, Nat.le_of_ble_eq_true rfl⟩, ⟨Nat.le_of_ble_eq_true rfl, Nat.le_of_ble_eq_true rfl⟩⟩ hl.1 rfl (Nat.le_of_ble_eq_true rfl) dX11_feed_33) hP hD hS hA rfl rfl (by decide) (by decide) (fun u9 H locs w10 hP hD hS => ?_)
  refine W.eq (g2 := F0 m 36 ls []) rfl ?_
  have hP : va_P D vwCl [(o, .inr (11, (.ref (a 0) :: .ref (a 1) :: .ref (a 2) :: .int 16 :: .ref (a 3) :: .ref (a 4) :: .ref (a 5) :: .ref (a 6) :: .ref (a 7) :: .ref (a 8) :: .ref (a 9) :: .ref (a 10) :: .ref (a 11) :: .ref (a 12) :: .ref (a 13) :: .ref (a 14) :: .int 0 :: .int 0 :: .int 0 :: .int 0 :: .int 0 :: .int 0 :: .int 0 :: .ref (a 15) :: .int 0 :: .ref (a 16) :: .int 0 :: .ref (a 17) :: .ref (a 18) :: .int 0 :: .long 0 :: .long 0 :: .int 0 :: .long 0 :: .int 0 :: .int 0 :: .int 0 :: .long 0 :: .long 0 :: .int 0 :: .ref (a 19) :: .ref (a 20) :: .ref (a 21) :: .ref (a 22) :: .ref (a 23) :: .ref (a 24) :: .ref (a 25) :: .ref (a 26) :: .ref (a 27) :: []))), ((a 2), .inl (Y 2, 400, .inl u9))] H := hP
  have hD : va_D A [(o, .inr (11, (.ref (a 0) :: .ref (a 1) :: .ref (a 2) :: .int 16 :: .ref (a 3) :: .ref (a 4) :: .ref (a 5) :: .ref (a 6) :: .ref (a 7) :: .ref (a 8) :: .ref (a 9) :: .ref (a 10) :: .ref (a 11) :: .ref (a 12) :: .ref (a 13) :: .ref (a 14) :: .int 0 :: .int 0 :: .int 0 :: .int 0 :: .int 0 :: .int 0 :: .int 0 :: .ref (a 15) :: .int 0 :: .ref (a 16) :: .int 0 :: .ref (a 17) :: .ref (a 18) :: .int 0 :: .long 0 :: .long 0 :: .int 0 :: .long 0 :: .int 0 :: .int 0 :: .int 0 :: .long 0 :: .long 0 :: .int 0 :: .ref (a 19) :: .ref (a 20) :: .ref (a 21) :: .ref (a 22) :: .ref (a 23) :: .ref (a 24) :: .ref (a 25) :: .ref (a 26) :: .ref (a 27) :: []))), ((a 2), .inl (Y 2, 400, .inl u9))] := hD
  refine lv_aload_n hx hb dX11_feed_36 rfl (lv_at hl 0 rfl) ?_
  refine lv_iload hx hb dX11_feed_37 (lv_at hl 5 rfl) ?_
  refine cg (wc := [(o, .inr (11, (.ref (a 0) :: .ref (a 1) :: .ref (a 2) :: .int 16 :: .ref (a 3) :: .ref (a 4) :: .ref (a 5) :: .ref (a 6) :: .ref (a 7) :: .ref (a 8) :: .ref (a 9) :: .ref (a 10) :: .ref (a 11) :: .ref (a 12) :: .ref (a 13) :: .ref (a 14) :: .int 0 :: .int 0 :: .int 0 :: .int 0 :: .int 0 :: .int 0 :: .int 0 :: .ref (a 15) :: .int 0 :: .ref (a 16) :: .int 0 :: .ref (a 17) :: .ref (a 18) :: .int 0 :: .long 0 :: .long 0 :: .int 0 :: .long 0 :: .int 0 :: .int 0 :: .int 0 :: .long 0 :: .long 0 :: .int 0 :: .ref (a 19) :: .ref (a 20) :: .ref (a 21) :: .ref (a 22) :: .ref (a 23) :: .ref (a 24) :: .ref (a 25) :: .ref (a 26) :: .ref (a 27) :: []))), ((a 2), .inl (Y 2, 400, .inl u9))]) (wr := []) [0, 1] [] (rn_V (As := [.int p4]) (rest := []) (b := o) (m_four16 l D Y Z H.size o a p4 u9) ⟨hx, hb, hml, hown, hg⟩ lk_X11_173 ⟨CP.blind, va_recv hKN.1 hP (ci := 11) (q0 := 0) rfl rfl, CP.at (hP.sub [0, 1] rfl) hKN (hD.sub [0, 1] (by decide) rfl)⟩ ⟨⟨rfl, rfl⟩, ⟨Nat.le_of_ble_eq_true rfl, Nat.le_of_ble_eq_true rfl⟩, ⟨Nat.le_of_ble_eq_true rfl, Nat.le_of_ble_eq_true rfl⟩⟩ hl.1 rfl (Nat.le_of_ble_eq_true rfl) dX11_feed_39) hP hD hS hA rfl rfl (by decide) (by decide) (fun u11 H locs w12 hP hD hS => ?_)
  refine W.eq (g2 := F0 m 42 ls []) rfl ?_
  have hP : va_P D vwCl [(o, .inr (11, (.ref (a 0) :: .ref (a 1) :: .ref (a 2) :: .int 20 :: .ref (a 3) :: .ref (a 4) :: .ref (a 5) :: .ref (a 6) :: .ref (a 7) :: .ref (a 8) :: .ref (a 9) :: .ref (a 10) :: .ref (a 11) :: .ref (a 12) :: .ref (a 13) :: .ref (a 14) :: .int 0 :: .int 0 :: .int 0 :: .int 0 :: .int 0 :: .int 0 :: .int 0 :: .ref (a 15) :: .int 0 :: .ref (a 16) :: .int 0 :: .ref (a 17) :: .ref (a 18) :: .int 0 :: .long 0 :: .long 0 :: .int 0 :: .long 0 :: .int 0 :: .int 0 :: .int 0 :: .long 0 :: .long 0 :: .int 0 :: .ref (a 19) :: .ref (a 20) :: .ref (a 21) :: .ref (a 22) :: .ref (a 23) :: .ref (a 24) :: .ref (a 25) :: .ref (a 26) :: .ref (a 27) :: []))), ((a 2), .inl (Y 2, 400, .inl u11))] H := hP
  have hD : va_D A [(o, .inr (11, (.ref (a 0) :: .ref (a 1) :: .ref (a 2) :: .int 20 :: .ref (a 3) :: .ref (a 4) :: .ref (a 5) :: .ref (a 6) :: .ref (a 7) :: .ref (a 8) :: .ref (a 9) :: .ref (a 10) :: .ref (a 11) :: .ref (a 12) :: .ref (a 13) :: .ref (a 14) :: .int 0 :: .int 0 :: .int 0 :: .int 0 :: .int 0 :: .int 0 :: .int 0 :: .ref (a 15) :: .int 0 :: .ref (a 16) :: .int 0 :: .ref (a 17) :: .ref (a 18) :: .int 0 :: .long 0 :: .long 0 :: .int 0 :: .long 0 :: .int 0 :: .int 0 :: .int 0 :: .long 0 :: .long 0 :: .int 0 :: .ref (a 19) :: .ref (a 20) :: .ref (a 21) :: .ref (a 22) :: .ref (a 23) :: .ref (a 24) :: .ref (a 25) :: .ref (a 26) :: .ref (a 27) :: []))), ((a 2), .inl (Y 2, 400, .inl u11))] := hD
  refine lv_aload_n hx hb dX11_feed_42 rfl (lv_at hl 0 rfl) ?_
  refine va_get (D := D) (ci := 11) (v := .int 20) (C := RX11) (T := TX11) (N := 49) hx hb hg inGX11 hown hKN.1 hP 0 rfl rfl 3 (by decide) (hg _ kw_1211) (fun _ h9 => h9) rfl dX11_feed_43 ?_
  refine W.widen (k := 0) (n := 0) (Nat.le_of_ble_eq_true rfl) (Nat.le_of_ble_eq_true rfl) ?_
  exact W.iret (v := 20) hx hb hr (fun t ht hW => ⟨⟨(), rfl, trivial, CB.nil⟩, hS.F ht⟩) hS.2.2 dX11_feed_46
set_option maxHeartbeats 4000000 in
set_option maxRecDepth 100000 in
theorem c_step (l : Launch) (D : va_G) (Y : Nat → ClassId) (Z : Nat → Nat) (sz : Nat) (b : Nat → Nat) (kq : Nat) : Met l yX3_step (.code yX3_step cX3_step 3 none :: GW) ({ frames := 0, cells := 0, slots := 0, locals := 0 }) (va_Pc [.ref (b 5)] (CP D Y Z [((b 5), .inr (3, [.ref (b 22), .int 0, .int 0, .int 0, .int 0, .int 0, .int 0, .int 0, .int 0, .ref kq, .ref (b 24), .int 0]))] sz)) (QG (S := Unit) (fun _ => none) (fun _ => True) (fun u => CB D ((fun _ => [((b 5), .inr (3, [.ref (b 22), .int 0, .int 0, .int 256, .int 0, .int 0, .int 0, .int 0, .int 0, .ref kq, .ref (b 24), .int 0]))]) u) (va_A [((b 5), .inr (3, [.ref (b 22), .int 0, .int 0, .int 0, .int 0, .int 0, .int 0, .int 0, .int 0, .ref kq, .ref (b 24), .int 0]))] sz)) (va_A [((b 5), .inr (3, [.ref (b 22), .int 0, .int 0, .int 0, .int 0, .int 0, .int 0, .int 0, .int 0, .ref kq, .ref (b 24), .int 0]))] sz)) 0 0 (va_A [((b 5), .inr (3, [.ref (b 22), .int 0, .int 0, .int 0, .int 0, .int 0, .int 0, .int 0, .int 0, .ref kq, .ref (b 24), .int 0]))] sz) := by
  refine Met.ofW (cc := cX3_step) (maxL := 3) (ret := none) (by decide) rfl ?_
  intro p e s m args below meth c s₁ B hml hv
  obtain ⟨rfl, hsz, hP, hKN, hD0⟩ := hv
  have hx := B.exec
  have hb := B.bytes
  have hr := B.returns
  have hts := atoms_spec (ws := .code yX3_step cX3_step 3 none :: GW) B.pre
  have hg : ∀ w ∈ GW, w.before _ s = true := fun w h => hts w (List.mem_cons_of_mem _ h)
  have hown : s.vm.findClass RX3 = some m.cls := findClass_of_methodNamed B.named
  have hlocks := B.notSynchronized
  subst hsz
  have hD := hD0.self (sz := s.heap.size)
  generalize hAe : va_A [((b 5), .inr (3, [.ref (b 22), .int 0, .int 0, .int 0, .int 0, .int 0, .int 0, .int 0, .int 0, .ref kq, .ref (b 24), .int 0]))] s.heap.size = A at hD ⊢
  have hA : ∀ q : Nat, s.heap.size ≤ q → A q := fun q h => by rw [← hAe]; exact Or.inr h
  have hl := lv_entry ([.ref (b 5)]) (n := 3) (Nat.le_of_ble_eq_true rfl)
  rw [lg_entry_eq]
  generalize (lg_sl ([.ref (b 5)]) ++ List.replicate (3 - (lg_sl ([.ref (b 5)])).length) Slot.unset).toArray = ls at hl ⊢
  have hl : lv_has ls 3 [(0, .ref (b 5))] := hl
  refine w_start (A0 := A) hP (fun H locs hP hS => ?_)
  refine lv_aload_n hx hb dX3_step_0 rfl (lv_at hl 0 rfl) ?_
  refine va_get (D := D) (ci := 3) (v := .int 0) (C := RX3) (T := TX3) (N := 12) hx hb hg inGX3 hown hKN.1 hP 0 rfl rfl 2 (by decide) (hg _ kw_180) (fun _ h9 => h9) rfl dX3_step_1 ?_
  refine lv_aload_n hx hb dX3_step_4 rfl (lv_at hl 0 rfl) ?_
  refine va_get (D := D) (ci := 3) (v := .int 0) (C := RX3) (T := TX3) (N := 12) hx hb hg inGX3 hown hKN.1 hP 0 rfl rfl 1 (by decide) (hg _ kw_179) (fun _ h9 => h9) rfl dX3_step_5 ?_
  refine lv_icmp_ge (tgt := 38) hx hb dX3_step_8 (by decide) (fun c1 => ?_) (fun c1 => ?_)
  rotate_left
  · exact absurd c1 (by decide)
  refine lv_aload_n hx hb dX3_step_38 rfl (lv_at hl 0 rfl) ?_
  refine lv_aload_n hx hb dX3_step_39 rfl (lv_at hl 0 rfl) ?_
  refine va_get (D := D) (ci := 3) (v := .int 0) (C := RX3) (T := TX3) (N := 12) hx hb hg inGX3 hown hKN.1 hP 0 rfl rfl 2 (by decide) (hg _ kw_180) (fun _ h9 => h9) rfl dX3_step_40 ?_
  refine va_put (D := D) (ci := 3) (v := .int 0) (ty := .int) (C := RX3) (T := TX3) (N := 12) hx hb hg inGX3 tyX3 tyX3_ok nmX3 hown hKN.1 hP hD hS 0 rfl rfl 4 (by decide) (hg _ kw_182) (fun _ h9 => h9) rfl (by decide +kernel) rfl rfl (Nat.le_of_ble_eq_true rfl) dX3_step_43 (fun H locs hP hD hS => ?_)
  have hP : va_P D vwCl [((b 5), .inr (3, [.ref (b 22), .int 0, .int 0, .int 0, .int 0, .int 0, .int 0, .int 0, .int 0, .ref kq, .ref (b 24), .int 0]))] H := hP
  have hD : va_D A [((b 5), .inr (3, [.ref (b 22), .int 0, .int 0, .int 0, .int 0, .int 0, .int 0, .int 0, .int 0, .ref kq, .ref (b 24), .int 0]))] := hD
  refine lv_aload_n hx hb dX3_step_46 rfl (lv_at hl 0 rfl) ?_
  refine va_get (D := D) (ci := 3) (v := .int 0) (C := RX3) (T := TX3) (N := 12) hx hb hg inGX3 hown hKN.1 hP 0 rfl rfl 2 (by decide) (hg _ kw_180) (fun _ h9 => h9) rfl dX3_step_47 ?_
  refine lv_aload_n hx hb dX3_step_50 rfl (lv_at hl 0 rfl) ?_
  refine va_get (D := D) (ci := 3) (v := .int 0) (C := RX3) (T := TX3) (N := 12) hx hb hg inGX3 hown hKN.1 hP 0 rfl rfl 1 (by decide) (hg _ kw_179) (fun _ h9 => h9) rfl dX3_step_51 ?_
  refine lv_icmp_ge (tgt := 73) hx hb dX3_step_54 (by decide) (fun c2 => ?_) (fun c2 => ?_)
  rotate_left
  · exact absurd c2 (by decide)
  refine lv_sipush (v := 256) hx hb dX3_step_73 (by decide) ?_
  refine lv_istore_n (lv' := [(1, .int 256), (0, .ref (b 5))]) hx hb dX3_step_76 rfl hl (by decide) rfl (fun ls hl => ?_)
  refine lv_iload_n hx hb dX3_step_77 rfl (lv_at hl 0 rfl) ?_
  refine lv_bipush (v := 48) hx hb dX3_step_78 (by decide) ?_
  refine lv_icmp_lt (tgt := 204) hx hb dX3_step_80 (by decide) (fun c3 => ?_) (fun c3 => ?_)
  · exact absurd c3 (by decide)
  refine lv_iload_n hx hb dX3_step_83 rfl (lv_at hl 0 rfl) ?_
  refine lv_bipush (v := 57) hx hb dX3_step_84 (by decide) ?_
  refine lv_icmp_gt (tgt := 204) hx hb dX3_step_86 (by decide) (fun c4 => ?_) (fun c4 => ?_)
  rotate_left
  · exact absurd c4 (by decide)
  refine lv_iload_n hx hb dX3_step_204 rfl (lv_at hl 0 rfl) ?_
  refine lv_bipush (v := 97) hx hb dX3_step_205 (by decide) ?_
  refine lv_icmp_lt (tgt := 275) hx hb dX3_step_207 (by decide) (fun c5 => ?_) (fun c5 => ?_)
  · exact absurd c5 (by decide)
  refine lv_iload_n hx hb dX3_step_210 rfl (lv_at hl 0 rfl) ?_
  refine lv_bipush (v := 122) hx hb dX3_step_211 (by decide) ?_
  refine lv_icmp_gt (tgt := 275) hx hb dX3_step_213 (by decide) (fun c6 => ?_) (fun c6 => ?_)
  rotate_left
  · exact absurd c6 (by decide)
  refine lv_aload_n hx hb dX3_step_275 rfl (lv_at hl 1 rfl) ?_
  refine lv_iload_n hx hb dX3_step_276 rfl (lv_at hl 0 rfl) ?_
  refine va_put (D := D) (ci := 3) (v := .int 256) (ty := .int) (C := RX3) (T := TX3) (N := 12) hx hb hg inGX3 tyX3 tyX3_ok nmX3 hown hKN.1 hP hD hS 0 rfl rfl 3 (by decide) (hg _ kw_181) (fun _ h9 => h9) rfl (by decide +kernel) rfl rfl (Nat.le_of_ble_eq_true rfl) dX3_step_277 (fun H locs hP hD hS => ?_)
  have hP : va_P D vwCl [((b 5), .inr (3, [.ref (b 22), .int 0, .int 0, .int 256, .int 0, .int 0, .int 0, .int 0, .int 0, .ref kq, .ref (b 24), .int 0]))] H := hP
  have hD : va_D A [((b 5), .inr (3, [.ref (b 22), .int 0, .int 0, .int 256, .int 0, .int 0, .int 0, .int 0, .int 0, .ref kq, .ref (b 24), .int 0]))] := hD
  refine lv_aload_n hx hb dX3_step_280 rfl (lv_at hl 1 rfl) ?_
  refine lv_dup hx hb dX3_step_281 rfl ?_
  refine va_get (D := D) (ci := 3) (v := .int 0) (C := RX3) (T := TX3) (N := 12) hx hb hg inGX3 hown hKN.1 hP 0 rfl rfl 2 (by decide) (hg _ kw_180) (fun _ h9 => h9) rfl dX3_step_282 ?_
  refine lv_iload_n hx hb dX3_step_285 rfl (lv_at hl 0 rfl) ?_
  refine lv_sipush (v := 256) hx hb dX3_step_286 (by decide) ?_
  refine lv_icmp_ne (tgt := 296) hx hb dX3_step_289 (by decide) (fun c7 => ?_) (fun c7 => ?_)
  · exact absurd c7 (by decide)
  refine lv_iconst (v := 0) hx hb dX3_step_292 (by decide) ?_
  refine lv_goto (tgt := 297) hx hb dX3_step_293 (by decide) ?_
  refine lv_iadd hx hb dX3_step_297 ?_
  refine lv_topi (fun z8 ez8 => ?_)
  obtain rfl : z8 = 0 := ez8.trans (by decide)
  refine va_put (D := D) (ci := 3) (v := .int 0) (ty := .int) (C := RX3) (T := TX3) (N := 12) hx hb hg inGX3 tyX3 tyX3_ok nmX3 hown hKN.1 hP hD hS 0 rfl rfl 2 (by decide) (hg _ kw_180) (fun _ h9 => h9) rfl (by decide +kernel) rfl rfl (Nat.le_of_ble_eq_true rfl) dX3_step_298 (fun H locs hP hD hS => ?_)
  have hP : va_P D vwCl [((b 5), .inr (3, [.ref (b 22), .int 0, .int 0, .int 256, .int 0, .int 0, .int 0, .int 0, .int 0, .ref kq, .ref (b 24), .int 0]))] H := hP
  have hD : va_D A [((b 5), .inr (3, [.ref (b 22), .int 0, .int 0, .int 256, .int 0, .int 0, .int 0, .int 0, .int 0, .ref kq, .ref (b 24), .int 0]))] := hD
  refine lv_aload_n hx hb dX3_step_301 rfl (lv_at hl 1 rfl) ?_
  refine va_get (D := D) (ci := 3) (v := .int 0) (C := RX3) (T := TX3) (N := 12) hx hb hg inGX3 hown hKN.1 hP 0 rfl rfl 2 (by decide) (hg _ kw_180) (fun _ h9 => h9) rfl dX3_step_302 ?_
  refine lv_aload_n hx hb dX3_step_305 rfl (lv_at hl 1 rfl) ?_
  refine va_get (D := D) (ci := 3) (v := .int 0) (C := RX3) (T := TX3) (N := 12) hx hb hg inGX3 hown hKN.1 hP 0 rfl rfl 1 (by decide) (hg _ kw_179) (fun _ h9 => h9) rfl dX3_step_306 ?_
  refine lv_icmp_ge (tgt := 330) hx hb dX3_step_309 (by decide) (fun c9 => ?_) (fun c9 => ?_)
  rotate_left
  · exact absurd c9 (by decide)
  refine lv_iconst (v := 0) hx hb dX3_step_330 (by decide) ?_
  refine lv_istore_n (lv' := [(2, .int 0), (1, .int 256), (0, .ref (b 5))]) hx hb dX3_step_331 rfl hl (by decide) rfl (fun ls hl => ?_)
  refine lv_iload_n hx hb dX3_step_332 rfl (lv_at hl 0 rfl) ?_
  refine lv_if_eq (tgt := 377) hx hb dX3_step_333 (by decide) (fun c10 => ?_) (fun c10 => ?_)
  rotate_left
  · exact absurd c10 (by decide)
  refine W.widen (k := 0) (n := 0) (Nat.le_of_ble_eq_true rfl) (Nat.le_of_ble_eq_true rfl) ?_
  exact W.vret hx hb hr (fun t ht hW => ⟨⟨(), rfl, trivial, CB.mk ht (hP.sub [0] rfl) (hD.sub [0] (by decide) rfl)⟩, hS.F ht⟩) hS.2.2 dX3_step_377
set_option maxHeartbeats 4000000 in
set_option maxRecDepth 100000 in
theorem c_whichOf (l : Launch) (D : va_G) (Y : Nat → ClassId) (Z : Nat → Nat) (sz : Nat) (b : Nat → Nat) (kq tq : Nat) : Met l yX3_whichOf (.code yX3_whichOf cX3_whichOf 7 (some .int) :: GW) ({ frames := 0, cells := 0, slots := 0, locals := 0 }) (va_Pc [.ref (b 5), .ref tq] (CP D Y Z [((b 5), .inr (3, [.ref (b 22), .int 0, .int 0, .int 256, .int 0, .int 0, .int 0, .int 0, .int 0, .ref kq, .ref (b 24), .int 0]))] sz)) (QG (S := Unit) (fun _ => some (.int (-1))) (fun _ => True) (fun u => CB D ((fun _ => [((b 5), .inr (3, [.ref (b 22), .int 0, .int 0, .int 256, .int 0, .int 0, .int 0, .int 0, .int 0, .ref kq, .ref (b 24), .int 0]))]) u) (va_A [((b 5), .inr (3, [.ref (b 22), .int 0, .int 0, .int 256, .int 0, .int 0, .int 0, .int 0, .int 0, .ref kq, .ref (b 24), .int 0]))] sz)) (va_A [((b 5), .inr (3, [.ref (b 22), .int 0, .int 0, .int 256, .int 0, .int 0, .int 0, .int 0, .int 0, .ref kq, .ref (b 24), .int 0]))] sz)) 0 0 (va_A [((b 5), .inr (3, [.ref (b 22), .int 0, .int 0, .int 256, .int 0, .int 0, .int 0, .int 0, .int 0, .ref kq, .ref (b 24), .int 0]))] sz) := by
  refine Met.ofW (cc := cX3_whichOf) (maxL := 7) (ret := (some .int)) (by decide) rfl ?_
  intro p e s m args below meth c s₁ B hml hv
  obtain ⟨rfl, hsz, hP, hKN, hD0⟩ := hv
  have hx := B.exec
  have hb := B.bytes
  have hr := B.returns
  have hts := atoms_spec (ws := .code yX3_whichOf cX3_whichOf 7 (some .int) :: GW) B.pre
  have hg : ∀ w ∈ GW, w.before _ s = true := fun w h => hts w (List.mem_cons_of_mem _ h)
  have hown : s.vm.findClass RX3 = some m.cls := findClass_of_methodNamed B.named
  have hlocks := B.notSynchronized
  subst hsz
  have hD := hD0.self (sz := s.heap.size)
  generalize hAe : va_A [((b 5), .inr (3, [.ref (b 22), .int 0, .int 0, .int 256, .int 0, .int 0, .int 0, .int 0, .int 0, .ref kq, .ref (b 24), .int 0]))] s.heap.size = A at hD ⊢
  have hA : ∀ q : Nat, s.heap.size ≤ q → A q := fun q h => by rw [← hAe]; exact Or.inr h
  have hl := lv_entry ([.ref (b 5), .ref tq]) (n := 7) (Nat.le_of_ble_eq_true rfl)
  rw [lg_entry_eq]
  generalize (lg_sl ([.ref (b 5), .ref tq]) ++ List.replicate (7 - (lg_sl ([.ref (b 5), .ref tq])).length) Slot.unset).toArray = ls at hl ⊢
  have hl : lv_has ls 7 [(0, .ref (b 5)), (1, .ref tq)] := hl
  refine w_start (A0 := A) hP (fun H locs hP hS => ?_)
  refine lv_aload_n hx hb dX3_whichOf_0 rfl (lv_at hl 0 rfl) ?_
  refine va_get (D := D) (ci := 3) (v := .int 256) (C := RX3) (T := TX3) (N := 12) hx hb hg inGX3 hown hKN.1 hP 0 rfl rfl 3 (by decide) (hg _ kw_181) (fun _ h9 => h9) rfl dX3_whichOf_1 ?_
  refine lv_sipush (v := 258) hx hb dX3_whichOf_4 (by decide) ?_
  refine lv_icmp_eq (tgt := 12) hx hb dX3_whichOf_7 (by decide) (fun c1 => ?_) (fun c1 => ?_)
  · exact absurd c1 (by decide)
  refine lv_iconst (v := (-1)) hx hb dX3_whichOf_10 (by decide) ?_
  refine W.widen (k := 0) (n := 0) (Nat.le_of_ble_eq_true rfl) (Nat.le_of_ble_eq_true rfl) ?_
  exact W.iret (v := (-1)) hx hb hr (fun t ht hW => ⟨⟨(), rfl, trivial, CB.mk ht (hP.sub [0] rfl) (hD.sub [0] (by decide) rfl)⟩, hS.F ht⟩) hS.2.2 dX3_whichOf_11
set_option maxHeartbeats 4000000 in
set_option maxRecDepth 100000 in
theorem c_setFault (l : Launch) (D : va_G) (Y : Nat → ClassId) (Z : Nat → Nat) (sz : Nat) (b : Nat → Nat) (kq : Nat) : Met l yX3_setFault (.code yX3_setFault cX3_setFault 2 none :: GW) ({ frames := 0, cells := 0, slots := 0, locals := 0 }) (va_Pc [.ref (b 5), .int 0] (CP D Y Z [((b 5), .inr (3, [.ref (b 22), .int 0, .int 0, .int 256, .int 0, .int 0, .int 0, .int 0, .int 0, .ref kq, .ref (b 24), .int 0]))] sz)) (QG (S := Unit) (fun _ => none) (fun _ => True) (fun u => CB D ((fun _ => [((b 5), .inr (3, [.ref (b 22), .int 0, .int 0, .int 256, .int 0, .int 0, .int 1, .int 0, .int 0, .ref kq, .ref (b 24), .int 0]))]) u) (va_A [((b 5), .inr (3, [.ref (b 22), .int 0, .int 0, .int 256, .int 0, .int 0, .int 0, .int 0, .int 0, .ref kq, .ref (b 24), .int 0]))] sz)) (va_A [((b 5), .inr (3, [.ref (b 22), .int 0, .int 0, .int 256, .int 0, .int 0, .int 0, .int 0, .int 0, .ref kq, .ref (b 24), .int 0]))] sz)) 0 0 (va_A [((b 5), .inr (3, [.ref (b 22), .int 0, .int 0, .int 256, .int 0, .int 0, .int 0, .int 0, .int 0, .ref kq, .ref (b 24), .int 0]))] sz) := by
  refine Met.ofW (cc := cX3_setFault) (maxL := 2) (ret := none) (by decide) rfl ?_
  intro p e s m args below meth c s₁ B hml hv
  obtain ⟨rfl, hsz, hP, hKN, hD0⟩ := hv
  have hx := B.exec
  have hb := B.bytes
  have hr := B.returns
  have hts := atoms_spec (ws := .code yX3_setFault cX3_setFault 2 none :: GW) B.pre
  have hg : ∀ w ∈ GW, w.before _ s = true := fun w h => hts w (List.mem_cons_of_mem _ h)
  have hown : s.vm.findClass RX3 = some m.cls := findClass_of_methodNamed B.named
  have hlocks := B.notSynchronized
  subst hsz
  have hD := hD0.self (sz := s.heap.size)
  generalize hAe : va_A [((b 5), .inr (3, [.ref (b 22), .int 0, .int 0, .int 256, .int 0, .int 0, .int 0, .int 0, .int 0, .ref kq, .ref (b 24), .int 0]))] s.heap.size = A at hD ⊢
  have hA : ∀ q : Nat, s.heap.size ≤ q → A q := fun q h => by rw [← hAe]; exact Or.inr h
  have hl := lv_entry ([.ref (b 5), .int 0]) (n := 2) (Nat.le_of_ble_eq_true rfl)
  rw [lg_entry_eq]
  generalize (lg_sl ([.ref (b 5), .int 0]) ++ List.replicate (2 - (lg_sl ([.ref (b 5), .int 0])).length) Slot.unset).toArray = ls at hl ⊢
  have hl : lv_has ls 2 [(0, .ref (b 5)), (1, .int 0)] := hl
  refine w_start (A0 := A) hP (fun H locs hP hS => ?_)
  refine lv_aload_n hx hb dX3_setFault_0 rfl (lv_at hl 0 rfl) ?_
  refine va_get (D := D) (ci := 3) (v := .int 0) (C := RX3) (T := TX3) (N := 12) hx hb hg inGX3 hown hKN.1 hP 0 rfl rfl 6 (by decide) (hg _ kw_184) (fun _ h9 => h9) rfl dX3_setFault_1 ?_
  refine lv_if_ne (tgt := 22) hx hb dX3_setFault_4 (by decide) (fun c1 => ?_) (fun c1 => ?_)
  · exact absurd c1 (by decide)
  refine lv_aload_n hx hb dX3_setFault_7 rfl (lv_at hl 0 rfl) ?_
  refine lv_iconst (v := 1) hx hb dX3_setFault_8 (by decide) ?_
  refine lv_bipush (v := 8) hx hb dX3_setFault_9 (by decide) ?_
  refine lv_aload_n hx hb dX3_setFault_11 rfl (lv_at hl 0 rfl) ?_
  refine va_get (D := D) (ci := 3) (v := .int 0) (C := RX3) (T := TX3) (N := 12) hx hb hg inGX3 hown hKN.1 hP 0 rfl rfl 4 (by decide) (hg _ kw_182) (fun _ h9 => h9) rfl dX3_setFault_12 ?_
  refine lv_imul hx hb dX3_setFault_15 ?_
  refine lv_topi (fun z2 ez2 => ?_)
  obtain rfl : z2 = 0 := ez2.trans (by decide)
  refine lv_iadd hx hb dX3_setFault_16 ?_
  refine lv_topi (fun z3 ez3 => ?_)
  obtain rfl : z3 = 1 := ez3.trans (by decide)
  refine lv_iload_n hx hb dX3_setFault_17 rfl (lv_at hl 1 rfl) ?_
  refine lv_iadd hx hb dX3_setFault_18 ?_
  refine lv_topi (fun z4 ez4 => ?_)
  obtain rfl : z4 = 1 := ez4.trans (by decide)
  refine va_put (D := D) (ci := 3) (v := .int 1) (ty := .int) (C := RX3) (T := TX3) (N := 12) hx hb hg inGX3 tyX3 tyX3_ok nmX3 hown hKN.1 hP hD hS 0 rfl rfl 6 (by decide) (hg _ kw_184) (fun _ h9 => h9) rfl (by decide +kernel) rfl rfl (Nat.le_of_ble_eq_true rfl) dX3_setFault_19 (fun H locs hP hD hS => ?_)
  have hP : va_P D vwCl [((b 5), .inr (3, [.ref (b 22), .int 0, .int 0, .int 256, .int 0, .int 0, .int 1, .int 0, .int 0, .ref kq, .ref (b 24), .int 0]))] H := hP
  have hD : va_D A [((b 5), .inr (3, [.ref (b 22), .int 0, .int 0, .int 256, .int 0, .int 0, .int 1, .int 0, .int 0, .ref kq, .ref (b 24), .int 0]))] := hD
  refine W.widen (k := 0) (n := 0) (Nat.le_of_ble_eq_true rfl) (Nat.le_of_ble_eq_true rfl) ?_
  exact W.vret hx hb hr (fun t ht hW => ⟨⟨(), rfl, trivial, CB.mk ht (hP.sub [0] rfl) (hD.sub [0] (by decide) rfl)⟩, hS.F ht⟩) hS.2.2 dX3_setFault_22
set_option maxHeartbeats 4000000 in
set_option maxRecDepth 100000 in
theorem c_readClause (l : Launch) (D : va_G) (Y : Nat → ClassId) (Z : Nat → Nat) (sz : Nat) (b : Nat → Nat) (kq : Nat) (n : Int32) : Met l yX3_readClause (.code yX3_readClause cX3_readClause 7 none :: GW) ({ frames := 1, cells := 0, slots := 0, locals := 26 }) (va_Pc [.ref (b 5), .int n, .int 0] (CP D Y Z [((b 5), .inr (3, [.ref (b 22), .int 0, .int 0, .int 256, .int 0, .int 0, .int 0, .int 0, .int 0, .ref kq, .ref (b 24), .int 0]))] sz)) (QG (S := Unit) (fun _ => none) (fun _ => True) (fun u => CB D ((fun _ => [((b 5), .inr (3, [.ref (b 22), .int 0, .int 0, .int 256, .int 0, .int 0, .int 1, .int 0, .int 0, .ref kq, .ref (b 24), .int 0]))]) u) (va_A [((b 5), .inr (3, [.ref (b 22), .int 0, .int 0, .int 256, .int 0, .int 0, .int 0, .int 0, .int 0, .ref kq, .ref (b 24), .int 0]))] sz)) (va_A [((b 5), .inr (3, [.ref (b 22), .int 0, .int 0, .int 256, .int 0, .int 0, .int 0, .int 0, .int 0, .ref kq, .ref (b 24), .int 0]))] sz)) 0 0 (va_A [((b 5), .inr (3, [.ref (b 22), .int 0, .int 0, .int 256, .int 0, .int 0, .int 0, .int 0, .int 0, .ref kq, .ref (b 24), .int 0]))] sz) := by
  refine Met.ofW (cc := cX3_readClause) (maxL := 7) (ret := none) (by decide) rfl ?_
  intro p e s m args below meth c s₁ B hml hv
  obtain ⟨rfl, hsz, hP, hKN, hD0⟩ := hv
  have hx := B.exec
  have hb := B.bytes
  have hr := B.returns
  have hts := atoms_spec (ws := .code yX3_readClause cX3_readClause 7 none :: GW) B.pre
  have hg : ∀ w ∈ GW, w.before _ s = true := fun w h => hts w (List.mem_cons_of_mem _ h)
  have hown : s.vm.findClass RX3 = some m.cls := findClass_of_methodNamed B.named
  have hlocks := B.notSynchronized
  subst hsz
  have hD := hD0.self (sz := s.heap.size)
  generalize hAe : va_A [((b 5), .inr (3, [.ref (b 22), .int 0, .int 0, .int 256, .int 0, .int 0, .int 0, .int 0, .int 0, .ref kq, .ref (b 24), .int 0]))] s.heap.size = A at hD ⊢
  have hA : ∀ q : Nat, s.heap.size ≤ q → A q := fun q h => by rw [← hAe]; exact Or.inr h
  have hl := lv_entry ([.ref (b 5), .int n, .int 0]) (n := 7) (Nat.le_of_ble_eq_true rfl)
  rw [lg_entry_eq]
  generalize (lg_sl ([.ref (b 5), .int n, .int 0]) ++ List.replicate (7 - (lg_sl ([.ref (b 5), .int n, .int 0])).length) Slot.unset).toArray = ls at hl ⊢
  have hl : lv_has ls 7 [(0, .ref (b 5)), (1, .int n), (2, .int 0)] := hl
  refine w_start (A0 := A) hP (fun H locs hP hS => ?_)
  refine lv_iload_n hx hb dX3_readClause_0 rfl (lv_at hl 1 rfl) ?_
  refine lv_if_ne (tgt := 9) hx hb dX3_readClause_1 (by decide) (fun c1 => ?_) (fun c1 => ?_)
  · skip
    have c1 := i_ne (Eq.refl (n).toInt) (show (0 : Int32).toInt = 0 by decide) c1
    refine lv_iload_n hx hb dX3_readClause_9 rfl (lv_at hl 1 rfl) ?_
    refine lv_iconst (v := 1) hx hb dX3_readClause_10 (by decide) ?_
    refine lv_icmp_ne (tgt := 19) hx hb dX3_readClause_11 (by decide) (fun c2 => ?_) (fun c2 => ?_)
    · skip
      have c2 := i_ne (Eq.refl (n).toInt) (show (1 : Int32).toInt = 1 by decide) c2
      refine va_ldcS (q := Z 5) hx hb hown (hKN.2.2.2 5 (RX3, 97, "world pair spot glass chance") rfl) dX3_readClause_19 ?_
      refine lv_astore_n (lv' := [(3, .ref (Z 5)), (0, .ref (b 5)), (1, .int n), (2, .int 0)]) hx hb dX3_readClause_21 rfl hl (by decide) rfl (fun ls hl => ?_)
      refine lv_aload_n hx hb dX3_readClause_22 rfl (lv_at hl 1 rfl) ?_
      refine lv_aload_n hx hb dX3_readClause_23 rfl (lv_at hl 0 rfl) ?_
      refine cg (wc := [((b 5), .inr (3, [.ref (b 22), .int 0, .int 0, .int 256, .int 0, .int 0, .int 0, .int 0, .int 0, .ref kq, .ref (b 24), .int 0]))]) (wr := []) [0] [] (rn_V (As := [.ref (Z 5)]) (rest := []) (b := (b 5)) (c_whichOf l D Y Z H.size b kq (Z 5)) ⟨hx, hb, hml, hown, hg⟩ lk_X3_99 ⟨CP.blind, va_recv hKN.1 hP (ci := 3) (q0 := 0) rfl rfl, CP.at (hP.sub [0] rfl) hKN (hD.sub [0] (by decide) rfl)⟩ ⟨⟨rfl, rfl⟩, ⟨Nat.le_of_ble_eq_true rfl, Nat.le_of_ble_eq_true rfl⟩, ⟨Nat.le_of_ble_eq_true rfl, Nat.le_of_ble_eq_true rfl⟩⟩ hl.1 rfl (Nat.le_of_ble_eq_true rfl) dX3_readClause_24) hP hD hS hA rfl rfl (by decide) (by decide) (fun u3 H locs w4 hP hD hS => ?_)
      refine W.eq (g2 := F0 m 27 ls [.int (-1)]) rfl ?_
      have hP : va_P D vwCl [((b 5), .inr (3, [.ref (b 22), .int 0, .int 0, .int 256, .int 0, .int 0, .int 0, .int 0, .int 0, .ref kq, .ref (b 24), .int 0]))] H := hP
      have hD : va_D A [((b 5), .inr (3, [.ref (b 22), .int 0, .int 0, .int 256, .int 0, .int 0, .int 0, .int 0, .int 0, .ref kq, .ref (b 24), .int 0]))] := hD
      refine lv_istore (lv' := [(4, .int (-1)), (3, .ref (Z 5)), (0, .ref (b 5)), (1, .int n), (2, .int 0)]) hx hb dX3_readClause_27 hl (by decide) rfl (fun ls hl => ?_)
      refine lv_iload_n hx hb dX3_readClause_29 rfl (lv_at hl 3 rfl) ?_
      refine lv_if_ne (tgt := 43) hx hb dX3_readClause_30 (by decide) (fun c5 => ?_) (fun c5 => ?_)
      · skip
        have c5 := i_ne (Eq.refl (n).toInt) (show (0 : Int32).toInt = 0 by decide) c5
        refine lv_iconst (v := 0) hx hb dX3_readClause_43 (by decide) ?_
        refine lv_istore (lv' := [(5, .int 0), (4, .int (-1)), (3, .ref (Z 5)), (0, .ref (b 5)), (1, .int n), (2, .int 0)]) hx hb dX3_readClause_44 hl (by decide) rfl (fun ls hl => ?_)
        refine lv_iload_n hx hb dX3_readClause_46 rfl (lv_at hl 4 rfl) ?_
        refine lv_iconst (v := 1) hx hb dX3_readClause_47 (by decide) ?_
        refine lv_icmp_eq (tgt := 56) hx hb dX3_readClause_48 (by decide) (fun c6 => ?_) (fun c6 => ?_)
        · skip
          have c6 := i_eq (Eq.refl (n).toInt) (show (1 : Int32).toInt = 1 by decide) c6
          refine lv_iconst (v := 1) hx hb dX3_readClause_56 (by decide) ?_
          refine lv_goto (tgt := 61) hx hb dX3_readClause_57 (by decide) ?_
          refine lv_istore (lv' := [(6, .int 1), (5, .int 0), (4, .int (-1)), (3, .ref (Z 5)), (0, .ref (b 5)), (1, .int n), (2, .int 0)]) hx hb dX3_readClause_61 hl (by decide) rfl (fun ls hl => ?_)
          refine lv_iload hx hb dX3_readClause_63 (lv_at hl 2 rfl) ?_
          refine lv_iconst (v := (-1)) hx hb dX3_readClause_65 (by decide) ?_
          refine lv_icmp_ne (tgt := 75) hx hb dX3_readClause_66 (by decide) (fun c7 => ?_) (fun c7 => ?_)
          · exact absurd c7 (by decide)
          refine lv_aload_n hx hb dX3_readClause_69 rfl (lv_at hl 4 rfl) ?_
          refine lv_iconst (v := 0) hx hb dX3_readClause_70 (by decide) ?_
          refine cg (wc := [((b 5), .inr (3, [.ref (b 22), .int 0, .int 0, .int 256, .int 0, .int 0, .int 0, .int 0, .int 0, .ref kq, .ref (b 24), .int 0]))]) (wr := []) [0] [] (rn_V (As := [.int 0]) (rest := []) (b := (b 5)) (c_setFault l D Y Z H.size b kq) ⟨hx, hb, hml, hown, hg⟩ lk_X3_78 ⟨CP.blind, va_recv hKN.1 hP (ci := 3) (q0 := 0) rfl rfl, CP.at (hP.sub [0] rfl) hKN (hD.sub [0] (by decide) rfl)⟩ ⟨⟨rfl, rfl⟩, ⟨Nat.le_of_ble_eq_true rfl, Nat.le_of_ble_eq_true rfl⟩, ⟨Nat.le_of_ble_eq_true rfl, Nat.le_of_ble_eq_true rfl⟩⟩ hl.1 rfl (Nat.le_of_ble_eq_true rfl) dX3_readClause_71) hP hD hS hA rfl rfl (by decide) (by decide) (fun u8 H locs w9 hP hD hS => ?_)
          refine W.eq (g2 := F0 m 74 ls []) rfl ?_
          have hP : va_P D vwCl [((b 5), .inr (3, [.ref (b 22), .int 0, .int 0, .int 256, .int 0, .int 0, .int 1, .int 0, .int 0, .ref kq, .ref (b 24), .int 0]))] H := hP
          have hD : va_D A [((b 5), .inr (3, [.ref (b 22), .int 0, .int 0, .int 256, .int 0, .int 0, .int 1, .int 0, .int 0, .ref kq, .ref (b 24), .int 0]))] := hD
          refine W.widen (k := 0) (n := 0) (Nat.le_of_ble_eq_true rfl) (Nat.le_of_ble_eq_true rfl) ?_
          exact W.vret hx hb hr (fun t ht hW => ⟨⟨(), rfl, trivial, CB.mk ht (hP.sub [0] rfl) (hD.sub [0] (by decide) rfl)⟩, hS.F ht⟩) hS.2.2 dX3_readClause_74
        · skip
          have c6 := i_ne (Eq.refl (n).toInt) (show (1 : Int32).toInt = 1 by decide) c6
          refine lv_iload hx hb dX3_readClause_51 (lv_at hl 0 rfl) ?_
          refine lv_if_eq (tgt := 60) hx hb dX3_readClause_53 (by decide) (fun c10 => ?_) (fun c10 => ?_)
          rotate_left
          · exact absurd c10 (by decide)
          refine lv_iconst (v := 0) hx hb dX3_readClause_60 (by decide) ?_
          refine lv_istore (lv' := [(6, .int 0), (5, .int 0), (4, .int (-1)), (3, .ref (Z 5)), (0, .ref (b 5)), (1, .int n), (2, .int 0)]) hx hb dX3_readClause_61 hl (by decide) rfl (fun ls hl => ?_)
          refine lv_iload hx hb dX3_readClause_63 (lv_at hl 2 rfl) ?_
          refine lv_iconst (v := (-1)) hx hb dX3_readClause_65 (by decide) ?_
          refine lv_icmp_ne (tgt := 75) hx hb dX3_readClause_66 (by decide) (fun c11 => ?_) (fun c11 => ?_)
          · exact absurd c11 (by decide)
          refine lv_aload_n hx hb dX3_readClause_69 rfl (lv_at hl 4 rfl) ?_
          refine lv_iconst (v := 0) hx hb dX3_readClause_70 (by decide) ?_
          refine cg (wc := [((b 5), .inr (3, [.ref (b 22), .int 0, .int 0, .int 256, .int 0, .int 0, .int 0, .int 0, .int 0, .ref kq, .ref (b 24), .int 0]))]) (wr := []) [0] [] (rn_V (As := [.int 0]) (rest := []) (b := (b 5)) (c_setFault l D Y Z H.size b kq) ⟨hx, hb, hml, hown, hg⟩ lk_X3_78 ⟨CP.blind, va_recv hKN.1 hP (ci := 3) (q0 := 0) rfl rfl, CP.at (hP.sub [0] rfl) hKN (hD.sub [0] (by decide) rfl)⟩ ⟨⟨rfl, rfl⟩, ⟨Nat.le_of_ble_eq_true rfl, Nat.le_of_ble_eq_true rfl⟩, ⟨Nat.le_of_ble_eq_true rfl, Nat.le_of_ble_eq_true rfl⟩⟩ hl.1 rfl (Nat.le_of_ble_eq_true rfl) dX3_readClause_71) hP hD hS hA rfl rfl (by decide) (by decide) (fun u12 H locs w13 hP hD hS => ?_)
          refine W.eq (g2 := F0 m 74 ls []) rfl ?_
          have hP : va_P D vwCl [((b 5), .inr (3, [.ref (b 22), .int 0, .int 0, .int 256, .int 0, .int 0, .int 1, .int 0, .int 0, .ref kq, .ref (b 24), .int 0]))] H := hP
          have hD : va_D A [((b 5), .inr (3, [.ref (b 22), .int 0, .int 0, .int 256, .int 0, .int 0, .int 1, .int 0, .int 0, .ref kq, .ref (b 24), .int 0]))] := hD
          refine W.widen (k := 0) (n := 0) (Nat.le_of_ble_eq_true rfl) (Nat.le_of_ble_eq_true rfl) ?_
          exact W.vret hx hb hr (fun t ht hW => ⟨⟨(), rfl, trivial, CB.mk ht (hP.sub [0] rfl) (hD.sub [0] (by decide) rfl)⟩, hS.F ht⟩) hS.2.2 dX3_readClause_74
      · skip
        have c5 := i_eq (Eq.refl (n).toInt) (show (0 : Int32).toInt = 0 by decide) c5
        refine lv_iload hx hb dX3_readClause_33 (lv_at hl 0 rfl) ?_
        refine lv_iconst (v := 1) hx hb dX3_readClause_35 (by decide) ?_
        refine lv_icmp_ne (tgt := 43) hx hb dX3_readClause_36 (by decide) (fun c14 => ?_) (fun c14 => ?_)
        rotate_left
        · exact absurd c14 (by decide)
        refine lv_iconst (v := 0) hx hb dX3_readClause_43 (by decide) ?_
        refine lv_istore (lv' := [(5, .int 0), (4, .int (-1)), (3, .ref (Z 5)), (0, .ref (b 5)), (1, .int n), (2, .int 0)]) hx hb dX3_readClause_44 hl (by decide) rfl (fun ls hl => ?_)
        refine lv_iload_n hx hb dX3_readClause_46 rfl (lv_at hl 4 rfl) ?_
        refine lv_iconst (v := 1) hx hb dX3_readClause_47 (by decide) ?_
        refine lv_icmp_eq (tgt := 56) hx hb dX3_readClause_48 (by decide) (fun c15 => ?_) (fun c15 => ?_)
        · skip
          have c15 := i_eq (Eq.refl (n).toInt) (show (1 : Int32).toInt = 1 by decide) c15
          exfalso; omega
        · skip
          have c15 := i_ne (Eq.refl (n).toInt) (show (1 : Int32).toInt = 1 by decide) c15
          refine lv_iload hx hb dX3_readClause_51 (lv_at hl 0 rfl) ?_
          refine lv_if_eq (tgt := 60) hx hb dX3_readClause_53 (by decide) (fun c16 => ?_) (fun c16 => ?_)
          rotate_left
          · exact absurd c16 (by decide)
          refine lv_iconst (v := 0) hx hb dX3_readClause_60 (by decide) ?_
          refine lv_istore (lv' := [(6, .int 0), (5, .int 0), (4, .int (-1)), (3, .ref (Z 5)), (0, .ref (b 5)), (1, .int n), (2, .int 0)]) hx hb dX3_readClause_61 hl (by decide) rfl (fun ls hl => ?_)
          refine lv_iload hx hb dX3_readClause_63 (lv_at hl 2 rfl) ?_
          refine lv_iconst (v := (-1)) hx hb dX3_readClause_65 (by decide) ?_
          refine lv_icmp_ne (tgt := 75) hx hb dX3_readClause_66 (by decide) (fun c17 => ?_) (fun c17 => ?_)
          · exact absurd c17 (by decide)
          refine lv_aload_n hx hb dX3_readClause_69 rfl (lv_at hl 4 rfl) ?_
          refine lv_iconst (v := 0) hx hb dX3_readClause_70 (by decide) ?_
          refine cg (wc := [((b 5), .inr (3, [.ref (b 22), .int 0, .int 0, .int 256, .int 0, .int 0, .int 0, .int 0, .int 0, .ref kq, .ref (b 24), .int 0]))]) (wr := []) [0] [] (rn_V (As := [.int 0]) (rest := []) (b := (b 5)) (c_setFault l D Y Z H.size b kq) ⟨hx, hb, hml, hown, hg⟩ lk_X3_78 ⟨CP.blind, va_recv hKN.1 hP (ci := 3) (q0 := 0) rfl rfl, CP.at (hP.sub [0] rfl) hKN (hD.sub [0] (by decide) rfl)⟩ ⟨⟨rfl, rfl⟩, ⟨Nat.le_of_ble_eq_true rfl, Nat.le_of_ble_eq_true rfl⟩, ⟨Nat.le_of_ble_eq_true rfl, Nat.le_of_ble_eq_true rfl⟩⟩ hl.1 rfl (Nat.le_of_ble_eq_true rfl) dX3_readClause_71) hP hD hS hA rfl rfl (by decide) (by decide) (fun u18 H locs w19 hP hD hS => ?_)
          refine W.eq (g2 := F0 m 74 ls []) rfl ?_
          have hP : va_P D vwCl [((b 5), .inr (3, [.ref (b 22), .int 0, .int 0, .int 256, .int 0, .int 0, .int 1, .int 0, .int 0, .ref kq, .ref (b 24), .int 0]))] H := hP
          have hD : va_D A [((b 5), .inr (3, [.ref (b 22), .int 0, .int 0, .int 256, .int 0, .int 0, .int 1, .int 0, .int 0, .ref kq, .ref (b 24), .int 0]))] := hD
          refine W.widen (k := 0) (n := 0) (Nat.le_of_ble_eq_true rfl) (Nat.le_of_ble_eq_true rfl) ?_
          exact W.vret hx hb hr (fun t ht hW => ⟨⟨(), rfl, trivial, CB.mk ht (hP.sub [0] rfl) (hD.sub [0] (by decide) rfl)⟩, hS.F ht⟩) hS.2.2 dX3_readClause_74
    · skip
      have c2 := i_eq (Eq.refl (n).toInt) (show (1 : Int32).toInt = 1 by decide) c2
      refine va_ldcS (q := Z 4) hx hb hown (hKN.2.2.2 4 (RX3, 95, "beat long least line") rfl) dX3_readClause_14 ?_
      refine lv_goto (tgt := 21) hx hb dX3_readClause_16 (by decide) ?_
      refine lv_astore_n (lv' := [(3, .ref (Z 4)), (0, .ref (b 5)), (1, .int n), (2, .int 0)]) hx hb dX3_readClause_21 rfl hl (by decide) rfl (fun ls hl => ?_)
      refine lv_aload_n hx hb dX3_readClause_22 rfl (lv_at hl 1 rfl) ?_
      refine lv_aload_n hx hb dX3_readClause_23 rfl (lv_at hl 0 rfl) ?_
      refine cg (wc := [((b 5), .inr (3, [.ref (b 22), .int 0, .int 0, .int 256, .int 0, .int 0, .int 0, .int 0, .int 0, .ref kq, .ref (b 24), .int 0]))]) (wr := []) [0] [] (rn_V (As := [.ref (Z 4)]) (rest := []) (b := (b 5)) (c_whichOf l D Y Z H.size b kq (Z 4)) ⟨hx, hb, hml, hown, hg⟩ lk_X3_99 ⟨CP.blind, va_recv hKN.1 hP (ci := 3) (q0 := 0) rfl rfl, CP.at (hP.sub [0] rfl) hKN (hD.sub [0] (by decide) rfl)⟩ ⟨⟨rfl, rfl⟩, ⟨Nat.le_of_ble_eq_true rfl, Nat.le_of_ble_eq_true rfl⟩, ⟨Nat.le_of_ble_eq_true rfl, Nat.le_of_ble_eq_true rfl⟩⟩ hl.1 rfl (Nat.le_of_ble_eq_true rfl) dX3_readClause_24) hP hD hS hA rfl rfl (by decide) (by decide) (fun u20 H locs w21 hP hD hS => ?_)
      refine W.eq (g2 := F0 m 27 ls [.int (-1)]) rfl ?_
      have hP : va_P D vwCl [((b 5), .inr (3, [.ref (b 22), .int 0, .int 0, .int 256, .int 0, .int 0, .int 0, .int 0, .int 0, .ref kq, .ref (b 24), .int 0]))] H := hP
      have hD : va_D A [((b 5), .inr (3, [.ref (b 22), .int 0, .int 0, .int 256, .int 0, .int 0, .int 0, .int 0, .int 0, .ref kq, .ref (b 24), .int 0]))] := hD
      refine lv_istore (lv' := [(4, .int (-1)), (3, .ref (Z 4)), (0, .ref (b 5)), (1, .int n), (2, .int 0)]) hx hb dX3_readClause_27 hl (by decide) rfl (fun ls hl => ?_)
      refine lv_iload_n hx hb dX3_readClause_29 rfl (lv_at hl 3 rfl) ?_
      refine lv_if_ne (tgt := 43) hx hb dX3_readClause_30 (by decide) (fun c22 => ?_) (fun c22 => ?_)
      · skip
        have c22 := i_ne (Eq.refl (n).toInt) (show (0 : Int32).toInt = 0 by decide) c22
        refine lv_iconst (v := 0) hx hb dX3_readClause_43 (by decide) ?_
        refine lv_istore (lv' := [(5, .int 0), (4, .int (-1)), (3, .ref (Z 4)), (0, .ref (b 5)), (1, .int n), (2, .int 0)]) hx hb dX3_readClause_44 hl (by decide) rfl (fun ls hl => ?_)
        refine lv_iload_n hx hb dX3_readClause_46 rfl (lv_at hl 4 rfl) ?_
        refine lv_iconst (v := 1) hx hb dX3_readClause_47 (by decide) ?_
        refine lv_icmp_eq (tgt := 56) hx hb dX3_readClause_48 (by decide) (fun c23 => ?_) (fun c23 => ?_)
        · skip
          have c23 := i_eq (Eq.refl (n).toInt) (show (1 : Int32).toInt = 1 by decide) c23
          refine lv_iconst (v := 1) hx hb dX3_readClause_56 (by decide) ?_
          refine lv_goto (tgt := 61) hx hb dX3_readClause_57 (by decide) ?_
          refine lv_istore (lv' := [(6, .int 1), (5, .int 0), (4, .int (-1)), (3, .ref (Z 4)), (0, .ref (b 5)), (1, .int n), (2, .int 0)]) hx hb dX3_readClause_61 hl (by decide) rfl (fun ls hl => ?_)
          refine lv_iload hx hb dX3_readClause_63 (lv_at hl 2 rfl) ?_
          refine lv_iconst (v := (-1)) hx hb dX3_readClause_65 (by decide) ?_
          refine lv_icmp_ne (tgt := 75) hx hb dX3_readClause_66 (by decide) (fun c24 => ?_) (fun c24 => ?_)
          · exact absurd c24 (by decide)
          refine lv_aload_n hx hb dX3_readClause_69 rfl (lv_at hl 4 rfl) ?_
          refine lv_iconst (v := 0) hx hb dX3_readClause_70 (by decide) ?_
          refine cg (wc := [((b 5), .inr (3, [.ref (b 22), .int 0, .int 0, .int 256, .int 0, .int 0, .int 0, .int 0, .int 0, .ref kq, .ref (b 24), .int 0]))]) (wr := []) [0] [] (rn_V (As := [.int 0]) (rest := []) (b := (b 5)) (c_setFault l D Y Z H.size b kq) ⟨hx, hb, hml, hown, hg⟩ lk_X3_78 ⟨CP.blind, va_recv hKN.1 hP (ci := 3) (q0 := 0) rfl rfl, CP.at (hP.sub [0] rfl) hKN (hD.sub [0] (by decide) rfl)⟩ ⟨⟨rfl, rfl⟩, ⟨Nat.le_of_ble_eq_true rfl, Nat.le_of_ble_eq_true rfl⟩, ⟨Nat.le_of_ble_eq_true rfl, Nat.le_of_ble_eq_true rfl⟩⟩ hl.1 rfl (Nat.le_of_ble_eq_true rfl) dX3_readClause_71) hP hD hS hA rfl rfl (by decide) (by decide) (fun u25 H locs w26 hP hD hS => ?_)
          refine W.eq (g2 := F0 m 74 ls []) rfl ?_
          have hP : va_P D vwCl [((b 5), .inr (3, [.ref (b 22), .int 0, .int 0, .int 256, .int 0, .int 0, .int 1, .int 0, .int 0, .ref kq, .ref (b 24), .int 0]))] H := hP
          have hD : va_D A [((b 5), .inr (3, [.ref (b 22), .int 0, .int 0, .int 256, .int 0, .int 0, .int 1, .int 0, .int 0, .ref kq, .ref (b 24), .int 0]))] := hD
          refine W.widen (k := 0) (n := 0) (Nat.le_of_ble_eq_true rfl) (Nat.le_of_ble_eq_true rfl) ?_
          exact W.vret hx hb hr (fun t ht hW => ⟨⟨(), rfl, trivial, CB.mk ht (hP.sub [0] rfl) (hD.sub [0] (by decide) rfl)⟩, hS.F ht⟩) hS.2.2 dX3_readClause_74
        · skip
          have c23 := i_ne (Eq.refl (n).toInt) (show (1 : Int32).toInt = 1 by decide) c23
          exfalso; omega
      · skip
        have c22 := i_eq (Eq.refl (n).toInt) (show (0 : Int32).toInt = 0 by decide) c22
        exfalso; omega
  · skip
    have c1 := i_eq (Eq.refl (n).toInt) (show (0 : Int32).toInt = 0 by decide) c1
    refine va_ldcS (q := Z 3) hx hb hown (hKN.2.2.2 3 (RX3, 93, "bright noise") rfl) dX3_readClause_4 ?_
    refine lv_goto (tgt := 21) hx hb dX3_readClause_6 (by decide) ?_
    refine lv_astore_n (lv' := [(3, .ref (Z 3)), (0, .ref (b 5)), (1, .int n), (2, .int 0)]) hx hb dX3_readClause_21 rfl hl (by decide) rfl (fun ls hl => ?_)
    refine lv_aload_n hx hb dX3_readClause_22 rfl (lv_at hl 1 rfl) ?_
    refine lv_aload_n hx hb dX3_readClause_23 rfl (lv_at hl 0 rfl) ?_
    refine cg (wc := [((b 5), .inr (3, [.ref (b 22), .int 0, .int 0, .int 256, .int 0, .int 0, .int 0, .int 0, .int 0, .ref kq, .ref (b 24), .int 0]))]) (wr := []) [0] [] (rn_V (As := [.ref (Z 3)]) (rest := []) (b := (b 5)) (c_whichOf l D Y Z H.size b kq (Z 3)) ⟨hx, hb, hml, hown, hg⟩ lk_X3_99 ⟨CP.blind, va_recv hKN.1 hP (ci := 3) (q0 := 0) rfl rfl, CP.at (hP.sub [0] rfl) hKN (hD.sub [0] (by decide) rfl)⟩ ⟨⟨rfl, rfl⟩, ⟨Nat.le_of_ble_eq_true rfl, Nat.le_of_ble_eq_true rfl⟩, ⟨Nat.le_of_ble_eq_true rfl, Nat.le_of_ble_eq_true rfl⟩⟩ hl.1 rfl (Nat.le_of_ble_eq_true rfl) dX3_readClause_24) hP hD hS hA rfl rfl (by decide) (by decide) (fun u27 H locs w28 hP hD hS => ?_)
    refine W.eq (g2 := F0 m 27 ls [.int (-1)]) rfl ?_
    have hP : va_P D vwCl [((b 5), .inr (3, [.ref (b 22), .int 0, .int 0, .int 256, .int 0, .int 0, .int 0, .int 0, .int 0, .ref kq, .ref (b 24), .int 0]))] H := hP
    have hD : va_D A [((b 5), .inr (3, [.ref (b 22), .int 0, .int 0, .int 256, .int 0, .int 0, .int 0, .int 0, .int 0, .ref kq, .ref (b 24), .int 0]))] := hD
    refine lv_istore (lv' := [(4, .int (-1)), (3, .ref (Z 3)), (0, .ref (b 5)), (1, .int n), (2, .int 0)]) hx hb dX3_readClause_27 hl (by decide) rfl (fun ls hl => ?_)
    refine lv_iload_n hx hb dX3_readClause_29 rfl (lv_at hl 3 rfl) ?_
    refine lv_if_ne (tgt := 43) hx hb dX3_readClause_30 (by decide) (fun c29 => ?_) (fun c29 => ?_)
    · skip
      have c29 := i_ne (Eq.refl (n).toInt) (show (0 : Int32).toInt = 0 by decide) c29
      exfalso; omega
    · skip
      have c29 := i_eq (Eq.refl (n).toInt) (show (0 : Int32).toInt = 0 by decide) c29
      refine lv_iload hx hb dX3_readClause_33 (lv_at hl 0 rfl) ?_
      refine lv_iconst (v := 1) hx hb dX3_readClause_35 (by decide) ?_
      refine lv_icmp_ne (tgt := 43) hx hb dX3_readClause_36 (by decide) (fun c30 => ?_) (fun c30 => ?_)
      rotate_left
      · exact absurd c30 (by decide)
      refine lv_iconst (v := 0) hx hb dX3_readClause_43 (by decide) ?_
      refine lv_istore (lv' := [(5, .int 0), (4, .int (-1)), (3, .ref (Z 3)), (0, .ref (b 5)), (1, .int n), (2, .int 0)]) hx hb dX3_readClause_44 hl (by decide) rfl (fun ls hl => ?_)
      refine lv_iload_n hx hb dX3_readClause_46 rfl (lv_at hl 4 rfl) ?_
      refine lv_iconst (v := 1) hx hb dX3_readClause_47 (by decide) ?_
      refine lv_icmp_eq (tgt := 56) hx hb dX3_readClause_48 (by decide) (fun c31 => ?_) (fun c31 => ?_)
      · skip
        have c31 := i_eq (Eq.refl (n).toInt) (show (1 : Int32).toInt = 1 by decide) c31
        exfalso; omega
      · skip
        have c31 := i_ne (Eq.refl (n).toInt) (show (1 : Int32).toInt = 1 by decide) c31
        refine lv_iload hx hb dX3_readClause_51 (lv_at hl 0 rfl) ?_
        refine lv_if_eq (tgt := 60) hx hb dX3_readClause_53 (by decide) (fun c32 => ?_) (fun c32 => ?_)
        rotate_left
        · exact absurd c32 (by decide)
        refine lv_iconst (v := 0) hx hb dX3_readClause_60 (by decide) ?_
        refine lv_istore (lv' := [(6, .int 0), (5, .int 0), (4, .int (-1)), (3, .ref (Z 3)), (0, .ref (b 5)), (1, .int n), (2, .int 0)]) hx hb dX3_readClause_61 hl (by decide) rfl (fun ls hl => ?_)
        refine lv_iload hx hb dX3_readClause_63 (lv_at hl 2 rfl) ?_
        refine lv_iconst (v := (-1)) hx hb dX3_readClause_65 (by decide) ?_
        refine lv_icmp_ne (tgt := 75) hx hb dX3_readClause_66 (by decide) (fun c33 => ?_) (fun c33 => ?_)
        · exact absurd c33 (by decide)
        refine lv_aload_n hx hb dX3_readClause_69 rfl (lv_at hl 4 rfl) ?_
        refine lv_iconst (v := 0) hx hb dX3_readClause_70 (by decide) ?_
        refine cg (wc := [((b 5), .inr (3, [.ref (b 22), .int 0, .int 0, .int 256, .int 0, .int 0, .int 0, .int 0, .int 0, .ref kq, .ref (b 24), .int 0]))]) (wr := []) [0] [] (rn_V (As := [.int 0]) (rest := []) (b := (b 5)) (c_setFault l D Y Z H.size b kq) ⟨hx, hb, hml, hown, hg⟩ lk_X3_78 ⟨CP.blind, va_recv hKN.1 hP (ci := 3) (q0 := 0) rfl rfl, CP.at (hP.sub [0] rfl) hKN (hD.sub [0] (by decide) rfl)⟩ ⟨⟨rfl, rfl⟩, ⟨Nat.le_of_ble_eq_true rfl, Nat.le_of_ble_eq_true rfl⟩, ⟨Nat.le_of_ble_eq_true rfl, Nat.le_of_ble_eq_true rfl⟩⟩ hl.1 rfl (Nat.le_of_ble_eq_true rfl) dX3_readClause_71) hP hD hS hA rfl rfl (by decide) (by decide) (fun u34 H locs w35 hP hD hS => ?_)
        refine W.eq (g2 := F0 m 74 ls []) rfl ?_
        have hP : va_P D vwCl [((b 5), .inr (3, [.ref (b 22), .int 0, .int 0, .int 256, .int 0, .int 0, .int 1, .int 0, .int 0, .ref kq, .ref (b 24), .int 0]))] H := hP
        have hD : va_D A [((b 5), .inr (3, [.ref (b 22), .int 0, .int 0, .int 256, .int 0, .int 0, .int 1, .int 0, .int 0, .ref kq, .ref (b 24), .int 0]))] := hD
        refine W.widen (k := 0) (n := 0) (Nat.le_of_ble_eq_true rfl) (Nat.le_of_ble_eq_true rfl) ?_
        exact W.vret hx hb hr (fun t ht hW => ⟨⟨(), rfl, trivial, CB.mk ht (hP.sub [0] rfl) (hD.sub [0] (by decide) rfl)⟩, hS.F ht⟩) hS.2.2 dX3_readClause_74
set_option maxHeartbeats 4000000 in
set_option maxRecDepth 100000 in
theorem c_tbegin (l : Launch) (D : va_G) (Y : Nat → ClassId) (Z : Nat → Nat) (sz : Nat) (b : Nat → Nat) : Met l yX8_begin (.code yX8_begin cX8_begin 1 none :: GW) ({ frames := 0, cells := 0, slots := 0, locals := 0 }) (va_Pc [.ref (b 24)] (CP D Y Z [((b 24), .inr (8, (txF b)))] sz)) (QG (S := Unit) (fun _ => none) (fun _ => True) (fun u => CB D ((fun _ => []) u) (va_A [((b 24), .inr (8, (txF b)))] sz)) (va_A [((b 24), .inr (8, (txF b)))] sz)) 0 0 (va_A [((b 24), .inr (8, (txF b)))] sz) := by
  refine Met.ofW (cc := cX8_begin) (maxL := 1) (ret := none) (by decide) rfl ?_
  intro p e s m args below meth c s₁ B hml hv
  obtain ⟨rfl, hsz, hP, hKN, hD0⟩ := hv
  have hx := B.exec
  have hb := B.bytes
  have hr := B.returns
  have hts := atoms_spec (ws := .code yX8_begin cX8_begin 1 none :: GW) B.pre
  have hg : ∀ w ∈ GW, w.before _ s = true := fun w h => hts w (List.mem_cons_of_mem _ h)
  have hown : s.vm.findClass RX8 = some m.cls := findClass_of_methodNamed B.named
  have hlocks := B.notSynchronized
  subst hsz
  have hD := hD0.self (sz := s.heap.size)
  generalize hAe : va_A [((b 24), .inr (8, (txF b)))] s.heap.size = A at hD ⊢
  have hA : ∀ q : Nat, s.heap.size ≤ q → A q := fun q h => by rw [← hAe]; exact Or.inr h
  have hl := lv_entry ([.ref (b 24)]) (n := 1) (Nat.le_of_ble_eq_true rfl)
  rw [lg_entry_eq]
  generalize (lg_sl ([.ref (b 24)]) ++ List.replicate (1 - (lg_sl ([.ref (b 24)])).length) Slot.unset).toArray = ls at hl ⊢
  have hl : lv_has ls 1 [(0, .ref (b 24))] := hl
  refine w_start (A0 := A) hP (fun H locs hP hS => ?_)
  refine lv_aload_n hx hb dX8_begin_0 rfl (lv_at hl 0 rfl) ?_
  refine lv_iconst (v := 0) hx hb dX8_begin_1 (by decide) ?_
  refine va_put (D := D) (ci := 8) (v := .int 0) (ty := .int) (C := RX8) (T := TX8) (N := 14) hx hb hg inGX8 tyX8 tyX8_ok nmX8 hown hKN.1 hP hD hS 0 rfl rfl 0 (by decide) (hg _ kw_114) (fun _ h9 => h9) rfl (by decide +kernel) rfl rfl (Nat.le_of_ble_eq_true rfl) dX8_begin_2 (fun H locs hP hD hS => ?_)
  have hP : va_P D vwCl [((b 24), .inr (8, (.int 0 :: .int 0 :: .int 0 :: .int 0 :: .int 0 :: .int 0 :: .int 0 :: .int 0 :: .ref (b 25) :: .ref (b 26) :: .ref (b 27) :: .ref (b 28) :: .ref (b 29) :: .int 0 :: [])))] H := hP
  have hD : va_D A [((b 24), .inr (8, (.int 0 :: .int 0 :: .int 0 :: .int 0 :: .int 0 :: .int 0 :: .int 0 :: .int 0 :: .ref (b 25) :: .ref (b 26) :: .ref (b 27) :: .ref (b 28) :: .ref (b 29) :: .int 0 :: [])))] := hD
  refine lv_aload_n hx hb dX8_begin_5 rfl (lv_at hl 0 rfl) ?_
  refine lv_iconst (v := 2) hx hb dX8_begin_6 (by decide) ?_
  refine va_put (D := D) (ci := 8) (v := .int 2) (ty := .int) (C := RX8) (T := TX8) (N := 14) hx hb hg inGX8 tyX8 tyX8_ok nmX8 hown hKN.1 hP hD hS 0 rfl rfl 1 (by decide) (hg _ kw_117) (fun _ h9 => h9) rfl (by decide +kernel) rfl rfl (Nat.le_of_ble_eq_true rfl) dX8_begin_7 (fun H locs hP hD hS => ?_)
  have hP : va_P D vwCl [((b 24), .inr (8, (.int 0 :: .int 2 :: .int 0 :: .int 0 :: .int 0 :: .int 0 :: .int 0 :: .int 0 :: .ref (b 25) :: .ref (b 26) :: .ref (b 27) :: .ref (b 28) :: .ref (b 29) :: .int 0 :: [])))] H := hP
  have hD : va_D A [((b 24), .inr (8, (.int 0 :: .int 2 :: .int 0 :: .int 0 :: .int 0 :: .int 0 :: .int 0 :: .int 0 :: .ref (b 25) :: .ref (b 26) :: .ref (b 27) :: .ref (b 28) :: .ref (b 29) :: .int 0 :: [])))] := hD
  refine lv_aload_n hx hb dX8_begin_10 rfl (lv_at hl 0 rfl) ?_
  refine lv_bipush (v := 100) hx hb dX8_begin_11 (by decide) ?_
  refine va_put (D := D) (ci := 8) (v := .int 100) (ty := .int) (C := RX8) (T := TX8) (N := 14) hx hb hg inGX8 tyX8 tyX8_ok nmX8 hown hKN.1 hP hD hS 0 rfl rfl 2 (by decide) (hg _ kw_120) (fun _ h9 => h9) rfl (by decide +kernel) rfl rfl (Nat.le_of_ble_eq_true rfl) dX8_begin_13 (fun H locs hP hD hS => ?_)
  have hP : va_P D vwCl [((b 24), .inr (8, (.int 0 :: .int 2 :: .int 100 :: .int 0 :: .int 0 :: .int 0 :: .int 0 :: .int 0 :: .ref (b 25) :: .ref (b 26) :: .ref (b 27) :: .ref (b 28) :: .ref (b 29) :: .int 0 :: [])))] H := hP
  have hD : va_D A [((b 24), .inr (8, (.int 0 :: .int 2 :: .int 100 :: .int 0 :: .int 0 :: .int 0 :: .int 0 :: .int 0 :: .ref (b 25) :: .ref (b 26) :: .ref (b 27) :: .ref (b 28) :: .ref (b 29) :: .int 0 :: [])))] := hD
  refine lv_aload_n hx hb dX8_begin_16 rfl (lv_at hl 0 rfl) ?_
  refine lv_iconst (v := 1) hx hb dX8_begin_17 (by decide) ?_
  refine va_put (D := D) (ci := 8) (v := .int 1) (ty := .int) (C := RX8) (T := TX8) (N := 14) hx hb hg inGX8 tyX8 tyX8_ok nmX8 hown hKN.1 hP hD hS 0 rfl rfl 3 (by decide) (hg _ kw_123) (fun _ h9 => h9) rfl (by decide +kernel) rfl rfl (Nat.le_of_ble_eq_true rfl) dX8_begin_18 (fun H locs hP hD hS => ?_)
  have hP : va_P D vwCl [((b 24), .inr (8, (.int 0 :: .int 2 :: .int 100 :: .int 1 :: .int 0 :: .int 0 :: .int 0 :: .int 0 :: .ref (b 25) :: .ref (b 26) :: .ref (b 27) :: .ref (b 28) :: .ref (b 29) :: .int 0 :: [])))] H := hP
  have hD : va_D A [((b 24), .inr (8, (.int 0 :: .int 2 :: .int 100 :: .int 1 :: .int 0 :: .int 0 :: .int 0 :: .int 0 :: .ref (b 25) :: .ref (b 26) :: .ref (b 27) :: .ref (b 28) :: .ref (b 29) :: .int 0 :: [])))] := hD
  refine lv_aload_n hx hb dX8_begin_21 rfl (lv_at hl 0 rfl) ?_
  refine lv_iconst (v := 5) hx hb dX8_begin_22 (by decide) ?_
  refine va_put (D := D) (ci := 8) (v := .int 5) (ty := .int) (C := RX8) (T := TX8) (N := 14) hx hb hg inGX8 tyX8 tyX8_ok nmX8 hown hKN.1 hP hD hS 0 rfl rfl 4 (by decide) (hg _ kw_126) (fun _ h9 => h9) rfl (by decide +kernel) rfl rfl (Nat.le_of_ble_eq_true rfl) dX8_begin_23 (fun H locs hP hD hS => ?_)
  have hP : va_P D vwCl [((b 24), .inr (8, (.int 0 :: .int 2 :: .int 100 :: .int 1 :: .int 5 :: .int 0 :: .int 0 :: .int 0 :: .ref (b 25) :: .ref (b 26) :: .ref (b 27) :: .ref (b 28) :: .ref (b 29) :: .int 0 :: [])))] H := hP
  have hD : va_D A [((b 24), .inr (8, (.int 0 :: .int 2 :: .int 100 :: .int 1 :: .int 5 :: .int 0 :: .int 0 :: .int 0 :: .ref (b 25) :: .ref (b 26) :: .ref (b 27) :: .ref (b 28) :: .ref (b 29) :: .int 0 :: [])))] := hD
  refine lv_aload_n hx hb dX8_begin_26 rfl (lv_at hl 0 rfl) ?_
  refine lv_iconst (v := 1) hx hb dX8_begin_27 (by decide) ?_
  refine va_put (D := D) (ci := 8) (v := .int 1) (ty := .int) (C := RX8) (T := TX8) (N := 14) hx hb hg inGX8 tyX8 tyX8_ok nmX8 hown hKN.1 hP hD hS 0 rfl rfl 5 (by decide) (hg _ kw_129) (fun _ h9 => h9) rfl (by decide +kernel) rfl rfl (Nat.le_of_ble_eq_true rfl) dX8_begin_28 (fun H locs hP hD hS => ?_)
  have hP : va_P D vwCl [((b 24), .inr (8, (.int 0 :: .int 2 :: .int 100 :: .int 1 :: .int 5 :: .int 1 :: .int 0 :: .int 0 :: .ref (b 25) :: .ref (b 26) :: .ref (b 27) :: .ref (b 28) :: .ref (b 29) :: .int 0 :: [])))] H := hP
  have hD : va_D A [((b 24), .inr (8, (.int 0 :: .int 2 :: .int 100 :: .int 1 :: .int 5 :: .int 1 :: .int 0 :: .int 0 :: .ref (b 25) :: .ref (b 26) :: .ref (b 27) :: .ref (b 28) :: .ref (b 29) :: .int 0 :: [])))] := hD
  refine lv_aload_n hx hb dX8_begin_31 rfl (lv_at hl 0 rfl) ?_
  refine lv_iconst (v := 0) hx hb dX8_begin_32 (by decide) ?_
  refine va_put (D := D) (ci := 8) (v := .int 0) (ty := .int) (C := RX8) (T := TX8) (N := 14) hx hb hg inGX8 tyX8 tyX8_ok nmX8 hown hKN.1 hP hD hS 0 rfl rfl 6 (by decide) (hg _ kw_133) (fun _ h9 => h9) rfl (by decide +kernel) rfl rfl (Nat.le_of_ble_eq_true rfl) dX8_begin_33 (fun H locs hP hD hS => ?_)
  have hP : va_P D vwCl [((b 24), .inr (8, (.int 0 :: .int 2 :: .int 100 :: .int 1 :: .int 5 :: .int 1 :: .int 0 :: .int 0 :: .ref (b 25) :: .ref (b 26) :: .ref (b 27) :: .ref (b 28) :: .ref (b 29) :: .int 0 :: [])))] H := hP
  have hD : va_D A [((b 24), .inr (8, (.int 0 :: .int 2 :: .int 100 :: .int 1 :: .int 5 :: .int 1 :: .int 0 :: .int 0 :: .ref (b 25) :: .ref (b 26) :: .ref (b 27) :: .ref (b 28) :: .ref (b 29) :: .int 0 :: [])))] := hD
  refine lv_aload_n hx hb dX8_begin_36 rfl (lv_at hl 0 rfl) ?_
  refine lv_iconst (v := 0) hx hb dX8_begin_37 (by decide) ?_
  refine va_put (D := D) (ci := 8) (v := .int 0) (ty := .int) (C := RX8) (T := TX8) (N := 14) hx hb hg inGX8 tyX8 tyX8_ok nmX8 hown hKN.1 hP hD hS 0 rfl rfl 7 (by decide) (hg _ kw_137) (fun _ h9 => h9) rfl (by decide +kernel) rfl rfl (Nat.le_of_ble_eq_true rfl) dX8_begin_38 (fun H locs hP hD hS => ?_)
  have hP : va_P D vwCl [((b 24), .inr (8, (.int 0 :: .int 2 :: .int 100 :: .int 1 :: .int 5 :: .int 1 :: .int 0 :: .int 0 :: .ref (b 25) :: .ref (b 26) :: .ref (b 27) :: .ref (b 28) :: .ref (b 29) :: .int 0 :: [])))] H := hP
  have hD : va_D A [((b 24), .inr (8, (.int 0 :: .int 2 :: .int 100 :: .int 1 :: .int 5 :: .int 1 :: .int 0 :: .int 0 :: .ref (b 25) :: .ref (b 26) :: .ref (b 27) :: .ref (b 28) :: .ref (b 29) :: .int 0 :: [])))] := hD
  refine lv_aload_n hx hb dX8_begin_41 rfl (lv_at hl 0 rfl) ?_
  refine lv_iconst (v := 0) hx hb dX8_begin_42 (by decide) ?_
  refine va_put (D := D) (ci := 8) (v := .int 0) (ty := .int) (C := RX8) (T := TX8) (N := 14) hx hb hg inGX8 tyX8 tyX8_ok nmX8 hown hKN.1 hP hD hS 0 rfl rfl 13 (by decide) (hg _ kw_148) (fun _ h9 => h9) rfl (by decide +kernel) rfl rfl (Nat.le_of_ble_eq_true rfl) dX8_begin_43 (fun H locs hP hD hS => ?_)
  have hP : va_P D vwCl [((b 24), .inr (8, (.int 0 :: .int 2 :: .int 100 :: .int 1 :: .int 5 :: .int 1 :: .int 0 :: .int 0 :: .ref (b 25) :: .ref (b 26) :: .ref (b 27) :: .ref (b 28) :: .ref (b 29) :: .int 0 :: [])))] H := hP
  have hD : va_D A [((b 24), .inr (8, (.int 0 :: .int 2 :: .int 100 :: .int 1 :: .int 5 :: .int 1 :: .int 0 :: .int 0 :: .ref (b 25) :: .ref (b 26) :: .ref (b 27) :: .ref (b 28) :: .ref (b 29) :: .int 0 :: [])))] := hD
  refine W.widen (k := 0) (n := 0) (Nat.le_of_ble_eq_true rfl) (Nat.le_of_ble_eq_true rfl) ?_
  exact W.vret hx hb hr (fun t ht hW => ⟨⟨(), rfl, trivial, CB.nil⟩, hS.F ht⟩) hS.2.2 dX8_begin_46
set_option maxHeartbeats 4000000 in
set_option maxRecDepth 100000 in
theorem c_read (l : Launch) (D : va_G) (Y : Nat → ClassId) (Z : Nat → Nat) (sz : Nat) (b : Nat → Nat) (n : Int32) : Met l yX3_read (.code yX3_read cX3_read 5 (some .int) :: GW) ({ frames := 2, cells := 0, slots := 0, locals := 52 }) (va_Pc [.ref (b 5), .ref (b 22), .int 0, .int n] (CP D Y Z [((b 5), .inr (3, (paF Z b))), ((b 24), .inr (8, (txF b))), ((b 22), .inl (Y 2, 400, .inl (fun _ => 0)))] sz)) (QG (S := Unit) (fun _ => some (.int 1)) (fun _ => True) (fun u => CB D ((fun _ => []) u) (va_A [((b 5), .inr (3, (paF Z b))), ((b 24), .inr (8, (txF b))), ((b 22), .inl (Y 2, 400, .inl (fun _ => 0)))] sz)) (va_A [((b 5), .inr (3, (paF Z b))), ((b 24), .inr (8, (txF b))), ((b 22), .inl (Y 2, 400, .inl (fun _ => 0)))] sz)) 0 0 (va_A [((b 5), .inr (3, (paF Z b))), ((b 24), .inr (8, (txF b))), ((b 22), .inl (Y 2, 400, .inl (fun _ => 0)))] sz) := by
  refine Met.ofW (cc := cX3_read) (maxL := 5) (ret := (some .int)) (by decide) rfl ?_
  intro p e s m args below meth c s₁ B hml hv
  obtain ⟨rfl, hsz, hP, hKN, hD0⟩ := hv
  have hx := B.exec
  have hb := B.bytes
  have hr := B.returns
  have hts := atoms_spec (ws := .code yX3_read cX3_read 5 (some .int) :: GW) B.pre
  have hg : ∀ w ∈ GW, w.before _ s = true := fun w h => hts w (List.mem_cons_of_mem _ h)
  have hown : s.vm.findClass RX3 = some m.cls := findClass_of_methodNamed B.named
  have hlocks := B.notSynchronized
  subst hsz
  have hD := hD0.self (sz := s.heap.size)
  generalize hAe : va_A [((b 5), .inr (3, (paF Z b))), ((b 24), .inr (8, (txF b))), ((b 22), .inl (Y 2, 400, .inl (fun _ => 0)))] s.heap.size = A at hD ⊢
  have hA : ∀ q : Nat, s.heap.size ≤ q → A q := fun q h => by rw [← hAe]; exact Or.inr h
  have hl := lv_entry ([.ref (b 5), .ref (b 22), .int 0, .int n]) (n := 5) (Nat.le_of_ble_eq_true rfl)
  rw [lg_entry_eq]
  generalize (lg_sl ([.ref (b 5), .ref (b 22), .int 0, .int n]) ++ List.replicate (5 - (lg_sl ([.ref (b 5), .ref (b 22), .int 0, .int n])).length) Slot.unset).toArray = ls at hl ⊢
  have hl : lv_has ls 5 [(0, .ref (b 5)), (1, .ref (b 22)), (2, .int 0), (3, .int n)] := hl
  refine w_start (A0 := A) hP (fun H locs hP hS => ?_)
  refine lv_aload_n hx hb dX3_read_0 rfl (lv_at hl 0 rfl) ?_
  refine lv_aload_n hx hb dX3_read_1 rfl (lv_at hl 1 rfl) ?_
  refine va_put (D := D) (ci := 3) (v := .ref (b 22)) (ty := .array .byte) (C := RX3) (T := TX3) (N := 12) hx hb hg inGX3 tyX3 tyX3_ok nmX3 hown hKN.1 hP hD hS 0 rfl rfl 0 (by decide) (hg _ kw_178) (fun _ h9 => h9) rfl (by decide +kernel) rfl rfl (Nat.le_of_ble_eq_true rfl) dX3_read_2 (fun H locs hP hD hS => ?_)
  have hP : va_P D vwCl [((b 5), .inr (3, [.ref (b 22), .int 0, .int 0, .int 0, .int 0, .int 0, .int 0, .int 0, .int 0, .ref (Z 0), .ref (b 24), .int 0])), ((b 24), .inr (8, (txF b))), ((b 22), .inl (Y 2, 400, .inl (fun _ => 0)))] H := hP
  have hD : va_D A [((b 5), .inr (3, [.ref (b 22), .int 0, .int 0, .int 0, .int 0, .int 0, .int 0, .int 0, .int 0, .ref (Z 0), .ref (b 24), .int 0])), ((b 24), .inr (8, (txF b))), ((b 22), .inl (Y 2, 400, .inl (fun _ => 0)))] := hD
  refine lv_aload_n hx hb dX3_read_5 rfl (lv_at hl 0 rfl) ?_
  refine lv_iload_n hx hb dX3_read_6 rfl (lv_at hl 2 rfl) ?_
  refine lv_aload_n hx hb dX3_read_7 rfl (lv_at hl 1 rfl) ?_
  refine va_alen (v := 400) hx hb hKN.1 hP 2 2 rfl rfl rfl dX3_read_8 ?_
  refine va_mmin hx hb (hml.trans hl.1.symm) hown (hg _ kw_615) (hg _ kw_616) (hg _ kw_14) (hg _ kw_617) (Nat.le_of_ble_eq_true rfl) (Nat.le_of_ble_eq_true rfl) (Nat.le_of_ble_eq_true rfl) (Nat.le_of_ble_eq_true rfl) dX3_read_9 ?_
  refine lv_topi (fun z1 ez1 => ?_)
  obtain rfl : z1 = 0 := ez1.trans (by decide)
  refine va_put (D := D) (ci := 3) (v := .int 0) (ty := .int) (C := RX3) (T := TX3) (N := 12) hx hb hg inGX3 tyX3 tyX3_ok nmX3 hown hKN.1 hP hD hS 0 rfl rfl 1 (by decide) (hg _ kw_179) (fun _ h9 => h9) rfl (by decide +kernel) rfl rfl (Nat.le_of_ble_eq_true rfl) dX3_read_12 (fun H locs hP hD hS => ?_)
  have hP : va_P D vwCl [((b 5), .inr (3, [.ref (b 22), .int 0, .int 0, .int 0, .int 0, .int 0, .int 0, .int 0, .int 0, .ref (Z 0), .ref (b 24), .int 0])), ((b 24), .inr (8, (txF b))), ((b 22), .inl (Y 2, 400, .inl (fun _ => 0)))] H := hP
  have hD : va_D A [((b 5), .inr (3, [.ref (b 22), .int 0, .int 0, .int 0, .int 0, .int 0, .int 0, .int 0, .int 0, .ref (Z 0), .ref (b 24), .int 0])), ((b 24), .inr (8, (txF b))), ((b 22), .inl (Y 2, 400, .inl (fun _ => 0)))] := hD
  refine lv_aload_n hx hb dX3_read_15 rfl (lv_at hl 0 rfl) ?_
  refine lv_iconst (v := 0) hx hb dX3_read_16 (by decide) ?_
  refine va_put (D := D) (ci := 3) (v := .int 0) (ty := .int) (C := RX3) (T := TX3) (N := 12) hx hb hg inGX3 tyX3 tyX3_ok nmX3 hown hKN.1 hP hD hS 0 rfl rfl 2 (by decide) (hg _ kw_180) (fun _ h9 => h9) rfl (by decide +kernel) rfl rfl (Nat.le_of_ble_eq_true rfl) dX3_read_17 (fun H locs hP hD hS => ?_)
  have hP : va_P D vwCl [((b 5), .inr (3, [.ref (b 22), .int 0, .int 0, .int 0, .int 0, .int 0, .int 0, .int 0, .int 0, .ref (Z 0), .ref (b 24), .int 0])), ((b 24), .inr (8, (txF b))), ((b 22), .inl (Y 2, 400, .inl (fun _ => 0)))] H := hP
  have hD : va_D A [((b 5), .inr (3, [.ref (b 22), .int 0, .int 0, .int 0, .int 0, .int 0, .int 0, .int 0, .int 0, .ref (Z 0), .ref (b 24), .int 0])), ((b 24), .inr (8, (txF b))), ((b 22), .inl (Y 2, 400, .inl (fun _ => 0)))] := hD
  refine lv_aload_n hx hb dX3_read_20 rfl (lv_at hl 0 rfl) ?_
  refine lv_iconst (v := 0) hx hb dX3_read_21 (by decide) ?_
  refine va_put (D := D) (ci := 3) (v := .int 0) (ty := .int) (C := RX3) (T := TX3) (N := 12) hx hb hg inGX3 tyX3 tyX3_ok nmX3 hown hKN.1 hP hD hS 0 rfl rfl 6 (by decide) (hg _ kw_184) (fun _ h9 => h9) rfl (by decide +kernel) rfl rfl (Nat.le_of_ble_eq_true rfl) dX3_read_22 (fun H locs hP hD hS => ?_)
  have hP : va_P D vwCl [((b 5), .inr (3, [.ref (b 22), .int 0, .int 0, .int 0, .int 0, .int 0, .int 0, .int 0, .int 0, .ref (Z 0), .ref (b 24), .int 0])), ((b 24), .inr (8, (txF b))), ((b 22), .inl (Y 2, 400, .inl (fun _ => 0)))] H := hP
  have hD : va_D A [((b 5), .inr (3, [.ref (b 22), .int 0, .int 0, .int 0, .int 0, .int 0, .int 0, .int 0, .int 0, .ref (Z 0), .ref (b 24), .int 0])), ((b 24), .inr (8, (txF b))), ((b 22), .inl (Y 2, 400, .inl (fun _ => 0)))] := hD
  refine lv_aload_n hx hb dX3_read_25 rfl (lv_at hl 0 rfl) ?_
  refine lv_iconst (v := 0) hx hb dX3_read_26 (by decide) ?_
  refine va_put (D := D) (ci := 3) (v := .int 0) (ty := .int) (C := RX3) (T := TX3) (N := 12) hx hb hg inGX3 tyX3 tyX3_ok nmX3 hown hKN.1 hP hD hS 0 rfl rfl 7 (by decide) (hg _ kw_185) (fun _ h9 => h9) rfl (by decide +kernel) rfl rfl (Nat.le_of_ble_eq_true rfl) dX3_read_27 (fun H locs hP hD hS => ?_)
  have hP : va_P D vwCl [((b 5), .inr (3, [.ref (b 22), .int 0, .int 0, .int 0, .int 0, .int 0, .int 0, .int 0, .int 0, .ref (Z 0), .ref (b 24), .int 0])), ((b 24), .inr (8, (txF b))), ((b 22), .inl (Y 2, 400, .inl (fun _ => 0)))] H := hP
  have hD : va_D A [((b 5), .inr (3, [.ref (b 22), .int 0, .int 0, .int 0, .int 0, .int 0, .int 0, .int 0, .int 0, .ref (Z 0), .ref (b 24), .int 0])), ((b 24), .inr (8, (txF b))), ((b 22), .inl (Y 2, 400, .inl (fun _ => 0)))] := hD
  refine lv_aload_n hx hb dX3_read_30 rfl (lv_at hl 0 rfl) ?_
  refine lv_iconst (v := 0) hx hb dX3_read_31 (by decide) ?_
  refine va_put (D := D) (ci := 3) (v := .int 0) (ty := .int) (C := RX3) (T := TX3) (N := 12) hx hb hg inGX3 tyX3 tyX3_ok nmX3 hown hKN.1 hP hD hS 0 rfl rfl 8 (by decide) (hg _ kw_186) (fun _ h9 => h9) rfl (by decide +kernel) rfl rfl (Nat.le_of_ble_eq_true rfl) dX3_read_32 (fun H locs hP hD hS => ?_)
  have hP : va_P D vwCl [((b 5), .inr (3, [.ref (b 22), .int 0, .int 0, .int 0, .int 0, .int 0, .int 0, .int 0, .int 0, .ref (Z 0), .ref (b 24), .int 0])), ((b 24), .inr (8, (txF b))), ((b 22), .inl (Y 2, 400, .inl (fun _ => 0)))] H := hP
  have hD : va_D A [((b 5), .inr (3, [.ref (b 22), .int 0, .int 0, .int 0, .int 0, .int 0, .int 0, .int 0, .int 0, .ref (Z 0), .ref (b 24), .int 0])), ((b 24), .inr (8, (txF b))), ((b 22), .inl (Y 2, 400, .inl (fun _ => 0)))] := hD
  refine lv_aload_n hx hb dX3_read_35 rfl (lv_at hl 0 rfl) ?_
  refine lv_iload_n hx hb dX3_read_36 rfl (lv_at hl 3 rfl) ?_
  refine lv_if_ne (tgt := 45) hx hb dX3_read_37 (by decide) (fun c2 => ?_) (fun c2 => ?_)
  · skip
    have c2 := i_ne (Eq.refl (n).toInt) (show (0 : Int32).toInt = 0 by decide) c2
    refine va_ldcS (q := Z 2) hx hb hown (hKN.2.2.2 2 (RX3, 52, "beat long deep score dips odd shape same late size") rfl) dX3_read_45 ?_
    refine va_put (D := D) (ci := 3) (v := .ref (Z 2)) (ty := .object "java/lang/String") (C := RX3) (T := TX3) (N := 12) hx hb hg inGX3 tyX3 tyX3_ok nmX3 hown hKN.1 hP hD hS 0 rfl rfl 9 (by decide) (hg _ kw_187) (fun _ h9 => h9) rfl (by decide +kernel) rfl rfl (Nat.le_of_ble_eq_true rfl) dX3_read_47 (fun H locs hP hD hS => ?_)
    have hP : va_P D vwCl [((b 5), .inr (3, [.ref (b 22), .int 0, .int 0, .int 0, .int 0, .int 0, .int 0, .int 0, .int 0, .ref (Z 2), .ref (b 24), .int 0])), ((b 24), .inr (8, (txF b))), ((b 22), .inl (Y 2, 400, .inl (fun _ => 0)))] H := hP
    have hD : va_D A [((b 5), .inr (3, [.ref (b 22), .int 0, .int 0, .int 0, .int 0, .int 0, .int 0, .int 0, .int 0, .ref (Z 2), .ref (b 24), .int 0])), ((b 24), .inr (8, (txF b))), ((b 22), .inl (Y 2, 400, .inl (fun _ => 0)))] := hD
    refine lv_aload_n hx hb dX3_read_50 rfl (lv_at hl 0 rfl) ?_
    refine va_get (D := D) (ci := 3) (v := .int 0) (C := RX3) (T := TX3) (N := 12) hx hb hg inGX3 hown hKN.1 hP 0 rfl rfl 11 (by decide) (hg _ kw_189) (fun _ h9 => h9) rfl dX3_read_51 ?_
    refine lv_if_eq (tgt := 73) hx hb dX3_read_54 (by decide) (fun c3 => ?_) (fun c3 => ?_)
    rotate_left
    · exact absurd c3 (by decide)
    refine lv_aload_n hx hb dX3_read_73 rfl (lv_at hl 0 rfl) ?_
    refine va_get (D := D) (ci := 3) (v := .ref (b 24)) (C := RX3) (T := TX3) (N := 12) hx hb hg inGX3 hown hKN.1 hP 0 rfl rfl 10 (by decide) (hg _ kw_188) (fun _ h9 => h9) rfl dX3_read_74 ?_
    refine cg (wc := [((b 24), .inr (8, (txF b)))]) (wr := [((b 5), .inr (3, [.ref (b 22), .int 0, .int 0, .int 0, .int 0, .int 0, .int 0, .int 0, .int 0, .ref (Z 2), .ref (b 24), .int 0])), ((b 22), .inl (Y 2, 400, .inl (fun _ => 0)))]) [1] [0, 2] (rn_NV (As := []) (rest := []) (b := (b 24)) (c_tbegin l D Y Z H.size b) ⟨hx, hb, hml, hown, hg⟩ hKN lk_X3_58 ⟨CP.blind, va_recv hKN.1 hP (ci := 8) (q0 := 1) rfl rfl, CP.at (hP.sub [1] rfl) hKN (hD.sub [1] (by decide) rfl)⟩ ⟨⟨rfl, rfl⟩, ⟨Nat.le_of_ble_eq_true rfl, Nat.le_of_ble_eq_true rfl⟩, ⟨Nat.le_of_ble_eq_true rfl, Nat.le_of_ble_eq_true rfl⟩⟩ hl.1 rfl (Nat.le_of_ble_eq_true rfl) dX3_read_77) hP hD hS hA rfl rfl (by decide) (by decide) (fun u4 H locs w5 hP hD hS => ?_)
    refine W.eq (g2 := F0 m 80 ls []) rfl ?_
    refine lv_aload_n hx hb dX3_read_80 rfl (lv_at hl 0 rfl) ?_
    refine cg (wc := [((b 5), .inr (3, [.ref (b 22), .int 0, .int 0, .int 0, .int 0, .int 0, .int 0, .int 0, .int 0, .ref (Z 2), .ref (b 24), .int 0]))]) (wr := [((b 22), .inl (Y 2, 400, .inl (fun _ => 0)))]) [0] [1] (rn_V (As := []) (rest := []) (b := (b 5)) (c_step l D Y Z H.size b (Z 2)) ⟨hx, hb, hml, hown, hg⟩ lk_X3_61 ⟨CP.blind, va_recv hKN.1 hP (ci := 3) (q0 := 0) rfl rfl, CP.at (hP.sub [0] rfl) hKN (hD.sub [0] (by decide) rfl)⟩ ⟨⟨rfl, rfl⟩, ⟨Nat.le_of_ble_eq_true rfl, Nat.le_of_ble_eq_true rfl⟩, ⟨Nat.le_of_ble_eq_true rfl, Nat.le_of_ble_eq_true rfl⟩⟩ hl.1 rfl (Nat.le_of_ble_eq_true rfl) dX3_read_81) hP hD hS hA rfl rfl (by decide) (by decide) (fun u6 H locs w7 hP hD hS => ?_)
    refine W.eq (g2 := F0 m 84 ls []) rfl ?_
    have hP : va_P D vwCl [((b 22), .inl (Y 2, 400, .inl (fun _ => 0))), ((b 5), .inr (3, [.ref (b 22), .int 0, .int 0, .int 256, .int 0, .int 0, .int 0, .int 0, .int 0, .ref (Z 2), .ref (b 24), .int 0]))] H := hP
    have hD : va_D A [((b 22), .inl (Y 2, 400, .inl (fun _ => 0))), ((b 5), .inr (3, [.ref (b 22), .int 0, .int 0, .int 256, .int 0, .int 0, .int 0, .int 0, .int 0, .ref (Z 2), .ref (b 24), .int 0]))] := hD
    refine lv_iconst (v := 0) hx hb dX3_read_84 (by decide) ?_
    refine lv_istore (lv' := [(4, .int 0), (0, .ref (b 5)), (1, .ref (b 22)), (2, .int 0), (3, .int n)]) hx hb dX3_read_85 hl (by decide) rfl (fun ls hl => ?_)
    refine lv_iload hx hb dX3_read_87 (lv_at hl 0 rfl) ?_
    refine lv_sipush (v := 400) hx hb dX3_read_89 (by decide) ?_
    refine lv_icmp_gt (tgt := 141) hx hb dX3_read_92 (by decide) (fun c8 => ?_) (fun c8 => ?_)
    · exact absurd c8 (by decide)
    refine lv_aload_n hx hb dX3_read_95 rfl (lv_at hl 1 rfl) ?_
    refine va_get (D := D) (ci := 3) (v := .int 0) (C := RX3) (T := TX3) (N := 12) hx hb hg inGX3 hown hKN.1 hP 1 rfl rfl 6 (by decide) (hg _ kw_184) (fun _ h9 => h9) rfl dX3_read_96 ?_
    refine lv_if_ne (tgt := 141) hx hb dX3_read_99 (by decide) (fun c9 => ?_) (fun c9 => ?_)
    · exact absurd c9 (by decide)
    refine lv_aload_n hx hb dX3_read_102 rfl (lv_at hl 1 rfl) ?_
    refine lv_iload_n hx hb dX3_read_103 rfl (lv_at hl 4 rfl) ?_
    refine lv_iload hx hb dX3_read_104 (lv_at hl 0 rfl) ?_
    refine cg (wc := [((b 5), .inr (3, [.ref (b 22), .int 0, .int 0, .int 256, .int 0, .int 0, .int 0, .int 0, .int 0, .ref (Z 2), .ref (b 24), .int 0]))]) (wr := [((b 22), .inl (Y 2, 400, .inl (fun _ => 0)))]) [1] [0] (rn_V (As := [.int n, .int 0]) (rest := []) (b := (b 5)) (c_readClause l D Y Z H.size b (Z 2) n) ⟨hx, hb, hml, hown, hg⟩ lk_X3_64 ⟨CP.blind, va_recv hKN.1 hP (ci := 3) (q0 := 1) rfl rfl, CP.at (hP.sub [1] rfl) hKN (hD.sub [1] (by decide) rfl)⟩ ⟨⟨rfl, rfl⟩, ⟨Nat.le_of_ble_eq_true rfl, Nat.le_of_ble_eq_true rfl⟩, ⟨Nat.le_of_ble_eq_true rfl, Nat.le_of_ble_eq_true rfl⟩⟩ hl.1 rfl (Nat.le_of_ble_eq_true rfl) dX3_read_106) hP hD hS hA rfl rfl (by decide) (by decide) (fun u10 H locs w11 hP hD hS => ?_)
    refine W.eq (g2 := F0 m 109 ls []) rfl ?_
    have hP : va_P D vwCl [((b 22), .inl (Y 2, 400, .inl (fun _ => 0))), ((b 5), .inr (3, [.ref (b 22), .int 0, .int 0, .int 256, .int 0, .int 0, .int 1, .int 0, .int 0, .ref (Z 2), .ref (b 24), .int 0]))] H := hP
    have hD : va_D A [((b 22), .inl (Y 2, 400, .inl (fun _ => 0))), ((b 5), .inr (3, [.ref (b 22), .int 0, .int 0, .int 256, .int 0, .int 0, .int 1, .int 0, .int 0, .ref (Z 2), .ref (b 24), .int 0]))] := hD
    refine lv_aload_n hx hb dX3_read_109 rfl (lv_at hl 1 rfl) ?_
    refine va_get (D := D) (ci := 3) (v := .int 1) (C := RX3) (T := TX3) (N := 12) hx hb hg inGX3 hown hKN.1 hP 1 rfl rfl 6 (by decide) (hg _ kw_184) (fun _ h9 => h9) rfl dX3_read_110 ?_
    refine lv_if_ne (tgt := 141) hx hb dX3_read_113 (by decide) (fun c12 => ?_) (fun c12 => ?_)
    rotate_left
    · exact absurd c12 (by decide)
    refine lv_aload_n hx hb dX3_read_141 rfl (lv_at hl 1 rfl) ?_
    refine va_get (D := D) (ci := 3) (v := .int 1) (C := RX3) (T := TX3) (N := 12) hx hb hg inGX3 hown hKN.1 hP 1 rfl rfl 6 (by decide) (hg _ kw_184) (fun _ h9 => h9) rfl dX3_read_142 ?_
    refine W.widen (k := 0) (n := 0) (Nat.le_of_ble_eq_true rfl) (Nat.le_of_ble_eq_true rfl) ?_
    exact W.iret (v := 1) hx hb hr (fun t ht hW => ⟨⟨(), rfl, trivial, CB.nil⟩, hS.F ht⟩) hS.2.2 dX3_read_145
  · skip
    have c2 := i_eq (Eq.refl (n).toInt) (show (0 : Int32).toInt = 0 by decide) c2
    refine va_ldcS (q := Z 1) hx hb hown (hKN.2.2.2 1 (RX3, 50, "hour season star cell size") rfl) dX3_read_40 ?_
    refine lv_goto (tgt := 47) hx hb dX3_read_42 (by decide) ?_
    refine va_put (D := D) (ci := 3) (v := .ref (Z 1)) (ty := .object "java/lang/String") (C := RX3) (T := TX3) (N := 12) hx hb hg inGX3 tyX3 tyX3_ok nmX3 hown hKN.1 hP hD hS 0 rfl rfl 9 (by decide) (hg _ kw_187) (fun _ h9 => h9) rfl (by decide +kernel) rfl rfl (Nat.le_of_ble_eq_true rfl) dX3_read_47 (fun H locs hP hD hS => ?_)
    have hP : va_P D vwCl [((b 5), .inr (3, [.ref (b 22), .int 0, .int 0, .int 0, .int 0, .int 0, .int 0, .int 0, .int 0, .ref (Z 1), .ref (b 24), .int 0])), ((b 24), .inr (8, (txF b))), ((b 22), .inl (Y 2, 400, .inl (fun _ => 0)))] H := hP
    have hD : va_D A [((b 5), .inr (3, [.ref (b 22), .int 0, .int 0, .int 0, .int 0, .int 0, .int 0, .int 0, .int 0, .ref (Z 1), .ref (b 24), .int 0])), ((b 24), .inr (8, (txF b))), ((b 22), .inl (Y 2, 400, .inl (fun _ => 0)))] := hD
    refine lv_aload_n hx hb dX3_read_50 rfl (lv_at hl 0 rfl) ?_
    refine va_get (D := D) (ci := 3) (v := .int 0) (C := RX3) (T := TX3) (N := 12) hx hb hg inGX3 hown hKN.1 hP 0 rfl rfl 11 (by decide) (hg _ kw_189) (fun _ h9 => h9) rfl dX3_read_51 ?_
    refine lv_if_eq (tgt := 73) hx hb dX3_read_54 (by decide) (fun c13 => ?_) (fun c13 => ?_)
    rotate_left
    · exact absurd c13 (by decide)
    refine lv_aload_n hx hb dX3_read_73 rfl (lv_at hl 0 rfl) ?_
    refine va_get (D := D) (ci := 3) (v := .ref (b 24)) (C := RX3) (T := TX3) (N := 12) hx hb hg inGX3 hown hKN.1 hP 0 rfl rfl 10 (by decide) (hg _ kw_188) (fun _ h9 => h9) rfl dX3_read_74 ?_
    refine cg (wc := [((b 24), .inr (8, (txF b)))]) (wr := [((b 5), .inr (3, [.ref (b 22), .int 0, .int 0, .int 0, .int 0, .int 0, .int 0, .int 0, .int 0, .ref (Z 1), .ref (b 24), .int 0])), ((b 22), .inl (Y 2, 400, .inl (fun _ => 0)))]) [1] [0, 2] (rn_NV (As := []) (rest := []) (b := (b 24)) (c_tbegin l D Y Z H.size b) ⟨hx, hb, hml, hown, hg⟩ hKN lk_X3_58 ⟨CP.blind, va_recv hKN.1 hP (ci := 8) (q0 := 1) rfl rfl, CP.at (hP.sub [1] rfl) hKN (hD.sub [1] (by decide) rfl)⟩ ⟨⟨rfl, rfl⟩, ⟨Nat.le_of_ble_eq_true rfl, Nat.le_of_ble_eq_true rfl⟩, ⟨Nat.le_of_ble_eq_true rfl, Nat.le_of_ble_eq_true rfl⟩⟩ hl.1 rfl (Nat.le_of_ble_eq_true rfl) dX3_read_77) hP hD hS hA rfl rfl (by decide) (by decide) (fun u14 H locs w15 hP hD hS => ?_)
    refine W.eq (g2 := F0 m 80 ls []) rfl ?_
    refine lv_aload_n hx hb dX3_read_80 rfl (lv_at hl 0 rfl) ?_
    refine cg (wc := [((b 5), .inr (3, [.ref (b 22), .int 0, .int 0, .int 0, .int 0, .int 0, .int 0, .int 0, .int 0, .ref (Z 1), .ref (b 24), .int 0]))]) (wr := [((b 22), .inl (Y 2, 400, .inl (fun _ => 0)))]) [0] [1] (rn_V (As := []) (rest := []) (b := (b 5)) (c_step l D Y Z H.size b (Z 1)) ⟨hx, hb, hml, hown, hg⟩ lk_X3_61 ⟨CP.blind, va_recv hKN.1 hP (ci := 3) (q0 := 0) rfl rfl, CP.at (hP.sub [0] rfl) hKN (hD.sub [0] (by decide) rfl)⟩ ⟨⟨rfl, rfl⟩, ⟨Nat.le_of_ble_eq_true rfl, Nat.le_of_ble_eq_true rfl⟩, ⟨Nat.le_of_ble_eq_true rfl, Nat.le_of_ble_eq_true rfl⟩⟩ hl.1 rfl (Nat.le_of_ble_eq_true rfl) dX3_read_81) hP hD hS hA rfl rfl (by decide) (by decide) (fun u16 H locs w17 hP hD hS => ?_)
    refine W.eq (g2 := F0 m 84 ls []) rfl ?_
    have hP : va_P D vwCl [((b 22), .inl (Y 2, 400, .inl (fun _ => 0))), ((b 5), .inr (3, [.ref (b 22), .int 0, .int 0, .int 256, .int 0, .int 0, .int 0, .int 0, .int 0, .ref (Z 1), .ref (b 24), .int 0]))] H := hP
    have hD : va_D A [((b 22), .inl (Y 2, 400, .inl (fun _ => 0))), ((b 5), .inr (3, [.ref (b 22), .int 0, .int 0, .int 256, .int 0, .int 0, .int 0, .int 0, .int 0, .ref (Z 1), .ref (b 24), .int 0]))] := hD
    refine lv_iconst (v := 0) hx hb dX3_read_84 (by decide) ?_
    refine lv_istore (lv' := [(4, .int 0), (0, .ref (b 5)), (1, .ref (b 22)), (2, .int 0), (3, .int n)]) hx hb dX3_read_85 hl (by decide) rfl (fun ls hl => ?_)
    refine lv_iload hx hb dX3_read_87 (lv_at hl 0 rfl) ?_
    refine lv_sipush (v := 400) hx hb dX3_read_89 (by decide) ?_
    refine lv_icmp_gt (tgt := 141) hx hb dX3_read_92 (by decide) (fun c18 => ?_) (fun c18 => ?_)
    · exact absurd c18 (by decide)
    refine lv_aload_n hx hb dX3_read_95 rfl (lv_at hl 1 rfl) ?_
    refine va_get (D := D) (ci := 3) (v := .int 0) (C := RX3) (T := TX3) (N := 12) hx hb hg inGX3 hown hKN.1 hP 1 rfl rfl 6 (by decide) (hg _ kw_184) (fun _ h9 => h9) rfl dX3_read_96 ?_
    refine lv_if_ne (tgt := 141) hx hb dX3_read_99 (by decide) (fun c19 => ?_) (fun c19 => ?_)
    · exact absurd c19 (by decide)
    refine lv_aload_n hx hb dX3_read_102 rfl (lv_at hl 1 rfl) ?_
    refine lv_iload_n hx hb dX3_read_103 rfl (lv_at hl 4 rfl) ?_
    refine lv_iload hx hb dX3_read_104 (lv_at hl 0 rfl) ?_
    refine cg (wc := [((b 5), .inr (3, [.ref (b 22), .int 0, .int 0, .int 256, .int 0, .int 0, .int 0, .int 0, .int 0, .ref (Z 1), .ref (b 24), .int 0]))]) (wr := [((b 22), .inl (Y 2, 400, .inl (fun _ => 0)))]) [1] [0] (rn_V (As := [.int n, .int 0]) (rest := []) (b := (b 5)) (c_readClause l D Y Z H.size b (Z 1) n) ⟨hx, hb, hml, hown, hg⟩ lk_X3_64 ⟨CP.blind, va_recv hKN.1 hP (ci := 3) (q0 := 1) rfl rfl, CP.at (hP.sub [1] rfl) hKN (hD.sub [1] (by decide) rfl)⟩ ⟨⟨rfl, rfl⟩, ⟨Nat.le_of_ble_eq_true rfl, Nat.le_of_ble_eq_true rfl⟩, ⟨Nat.le_of_ble_eq_true rfl, Nat.le_of_ble_eq_true rfl⟩⟩ hl.1 rfl (Nat.le_of_ble_eq_true rfl) dX3_read_106) hP hD hS hA rfl rfl (by decide) (by decide) (fun u20 H locs w21 hP hD hS => ?_)
    refine W.eq (g2 := F0 m 109 ls []) rfl ?_
    have hP : va_P D vwCl [((b 22), .inl (Y 2, 400, .inl (fun _ => 0))), ((b 5), .inr (3, [.ref (b 22), .int 0, .int 0, .int 256, .int 0, .int 0, .int 1, .int 0, .int 0, .ref (Z 1), .ref (b 24), .int 0]))] H := hP
    have hD : va_D A [((b 22), .inl (Y 2, 400, .inl (fun _ => 0))), ((b 5), .inr (3, [.ref (b 22), .int 0, .int 0, .int 256, .int 0, .int 0, .int 1, .int 0, .int 0, .ref (Z 1), .ref (b 24), .int 0]))] := hD
    refine lv_aload_n hx hb dX3_read_109 rfl (lv_at hl 1 rfl) ?_
    refine va_get (D := D) (ci := 3) (v := .int 1) (C := RX3) (T := TX3) (N := 12) hx hb hg inGX3 hown hKN.1 hP 1 rfl rfl 6 (by decide) (hg _ kw_184) (fun _ h9 => h9) rfl dX3_read_110 ?_
    refine lv_if_ne (tgt := 141) hx hb dX3_read_113 (by decide) (fun c22 => ?_) (fun c22 => ?_)
    rotate_left
    · exact absurd c22 (by decide)
    refine lv_aload_n hx hb dX3_read_141 rfl (lv_at hl 1 rfl) ?_
    refine va_get (D := D) (ci := 3) (v := .int 1) (C := RX3) (T := TX3) (N := 12) hx hb hg inGX3 hown hKN.1 hP 1 rfl rfl 6 (by decide) (hg _ kw_184) (fun _ h9 => h9) rfl dX3_read_142 ?_
    refine W.widen (k := 0) (n := 0) (Nat.le_of_ble_eq_true rfl) (Nat.le_of_ble_eq_true rfl) ?_
    exact W.iret (v := 1) hx hb hr (fun t ht hW => ⟨⟨(), rfl, trivial, CB.nil⟩, hS.F ht⟩) hS.2.2 dX3_read_145
set_option maxHeartbeats 4000000 in
set_option maxRecDepth 100000 in
theorem m_see (l : Launch) (D : va_G) (Y : Nat → ClassId) (Z : Nat → Nat) (sz : Nat) (o : Nat) (a : Nat → Nat) (tt : Int32) : Met l yX11_see (.code yX11_see cX11_see 1 (some .int) :: GW) ({ frames := 0, cells := 0, slots := 0, locals := 0 }) (va_Pc [.ref o] (CP D Y Z [(o, .inr (11, (.ref (a 0) :: .ref (a 1) :: .ref (a 2) :: .int 0 :: .ref (a 3) :: .ref (a 4) :: .ref (a 5) :: .ref (a 6) :: .ref (a 7) :: .ref (a 8) :: .ref (a 9) :: .ref (a 10) :: .ref (a 11) :: .ref (a 12) :: .ref (a 13) :: .ref (a 14) :: .int 0 :: .int 0 :: .int 0 :: .int tt :: .int 0 :: .int 0 :: .int 0 :: .ref (a 15) :: .int 0 :: .ref (a 16) :: .int 0 :: .ref (a 17) :: .ref (a 18) :: .int 0 :: .long 0 :: .long 0 :: .int 0 :: .long 0 :: .int 0 :: .int 0 :: .int 0 :: .long 0 :: .long 0 :: .int 0 :: .ref (a 19) :: .ref (a 20) :: .ref (a 21) :: .ref (a 22) :: .ref (a 23) :: .ref (a 24) :: .ref (a 25) :: .ref (a 26) :: .ref (a 27) :: [])))] sz)) (QG (S := Unit) (fun _ => some (.int (-1))) (fun _ => True) (fun u => CB D ((fun _ => [(o, .inr (11, (.ref (a 0) :: .ref (a 1) :: .ref (a 2) :: .int 0 :: .ref (a 3) :: .ref (a 4) :: .ref (a 5) :: .ref (a 6) :: .ref (a 7) :: .ref (a 8) :: .ref (a 9) :: .ref (a 10) :: .ref (a 11) :: .ref (a 12) :: .ref (a 13) :: .ref (a 14) :: .int 0 :: .int 0 :: .int 0 :: .int tt :: .int 0 :: .int 0 :: .int 0 :: .ref (a 15) :: .int 0 :: .ref (a 16) :: .int 0 :: .ref (a 17) :: .ref (a 18) :: .int 0 :: .long 0 :: .long 0 :: .int 0 :: .long 0 :: .int 0 :: .int 0 :: .int 0 :: .long 0 :: .long 0 :: .int 0 :: .ref (a 19) :: .ref (a 20) :: .ref (a 21) :: .ref (a 22) :: .ref (a 23) :: .ref (a 24) :: .ref (a 25) :: .ref (a 26) :: .ref (a 27) :: [])))]) u) (va_A [(o, .inr (11, (.ref (a 0) :: .ref (a 1) :: .ref (a 2) :: .int 0 :: .ref (a 3) :: .ref (a 4) :: .ref (a 5) :: .ref (a 6) :: .ref (a 7) :: .ref (a 8) :: .ref (a 9) :: .ref (a 10) :: .ref (a 11) :: .ref (a 12) :: .ref (a 13) :: .ref (a 14) :: .int 0 :: .int 0 :: .int 0 :: .int tt :: .int 0 :: .int 0 :: .int 0 :: .ref (a 15) :: .int 0 :: .ref (a 16) :: .int 0 :: .ref (a 17) :: .ref (a 18) :: .int 0 :: .long 0 :: .long 0 :: .int 0 :: .long 0 :: .int 0 :: .int 0 :: .int 0 :: .long 0 :: .long 0 :: .int 0 :: .ref (a 19) :: .ref (a 20) :: .ref (a 21) :: .ref (a 22) :: .ref (a 23) :: .ref (a 24) :: .ref (a 25) :: .ref (a 26) :: .ref (a 27) :: [])))] sz)) (va_A [(o, .inr (11, (.ref (a 0) :: .ref (a 1) :: .ref (a 2) :: .int 0 :: .ref (a 3) :: .ref (a 4) :: .ref (a 5) :: .ref (a 6) :: .ref (a 7) :: .ref (a 8) :: .ref (a 9) :: .ref (a 10) :: .ref (a 11) :: .ref (a 12) :: .ref (a 13) :: .ref (a 14) :: .int 0 :: .int 0 :: .int 0 :: .int tt :: .int 0 :: .int 0 :: .int 0 :: .ref (a 15) :: .int 0 :: .ref (a 16) :: .int 0 :: .ref (a 17) :: .ref (a 18) :: .int 0 :: .long 0 :: .long 0 :: .int 0 :: .long 0 :: .int 0 :: .int 0 :: .int 0 :: .long 0 :: .long 0 :: .int 0 :: .ref (a 19) :: .ref (a 20) :: .ref (a 21) :: .ref (a 22) :: .ref (a 23) :: .ref (a 24) :: .ref (a 25) :: .ref (a 26) :: .ref (a 27) :: [])))] sz)) 0 0 (va_A [(o, .inr (11, (.ref (a 0) :: .ref (a 1) :: .ref (a 2) :: .int 0 :: .ref (a 3) :: .ref (a 4) :: .ref (a 5) :: .ref (a 6) :: .ref (a 7) :: .ref (a 8) :: .ref (a 9) :: .ref (a 10) :: .ref (a 11) :: .ref (a 12) :: .ref (a 13) :: .ref (a 14) :: .int 0 :: .int 0 :: .int 0 :: .int tt :: .int 0 :: .int 0 :: .int 0 :: .ref (a 15) :: .int 0 :: .ref (a 16) :: .int 0 :: .ref (a 17) :: .ref (a 18) :: .int 0 :: .long 0 :: .long 0 :: .int 0 :: .long 0 :: .int 0 :: .int 0 :: .int 0 :: .long 0 :: .long 0 :: .int 0 :: .ref (a 19) :: .ref (a 20) :: .ref (a 21) :: .ref (a 22) :: .ref (a 23) :: .ref (a 24) :: .ref (a 25) :: .ref (a 26) :: .ref (a 27) :: [])))] sz) := by
  refine Met.ofW (cc := cX11_see) (maxL := 1) (ret := (some .int)) (by decide) rfl ?_
  intro p e s m args below meth c s₁ B hml hv
  obtain ⟨rfl, hsz, hP, hKN, hD0⟩ := hv
  have hx := B.exec
  have hb := B.bytes
  have hr := B.returns
  have hts := atoms_spec (ws := .code yX11_see cX11_see 1 (some .int) :: GW) B.pre
  have hg : ∀ w ∈ GW, w.before _ s = true := fun w h => hts w (List.mem_cons_of_mem _ h)
  have hown : s.vm.findClass RX11 = some m.cls := findClass_of_methodNamed B.named
  have hlocks := B.notSynchronized
  subst hsz
  have hD := hD0.self (sz := s.heap.size)
  generalize hAe : va_A [(o, .inr (11, (.ref (a 0) :: .ref (a 1) :: .ref (a 2) :: .int 0 :: .ref (a 3) :: .ref (a 4) :: .ref (a 5) :: .ref (a 6) :: .ref (a 7) :: .ref (a 8) :: .ref (a 9) :: .ref (a 10) :: .ref (a 11) :: .ref (a 12) :: .ref (a 13) :: .ref (a 14) :: .int 0 :: .int 0 :: .int 0 :: .int tt :: .int 0 :: .int 0 :: .int 0 :: .ref (a 15) :: .int 0 :: .ref (a 16) :: .int 0 :: .ref (a 17) :: .ref (a 18) :: .int 0 :: .long 0 :: .long 0 :: .int 0 :: .long 0 :: .int 0 :: .int 0 :: .int 0 :: .long 0 :: .long 0 :: .int 0 :: .ref (a 19) :: .ref (a 20) :: .ref (a 21) :: .ref (a 22) :: .ref (a 23) :: .ref (a 24) :: .ref (a 25) :: .ref (a 26) :: .ref (a 27) :: [])))] s.heap.size = A at hD ⊢
  have hA : ∀ q : Nat, s.heap.size ≤ q → A q := fun q h => by rw [← hAe]; exact Or.inr h
  have hl := lv_entry ([.ref o]) (n := 1) (Nat.le_of_ble_eq_true rfl)
  rw [lg_entry_eq]
  generalize (lg_sl ([.ref o]) ++ List.replicate (1 - (lg_sl ([.ref o])).length) Slot.unset).toArray = ls at hl ⊢
  have hl : lv_has ls 1 [(0, .ref o)] := hl
  refine w_start (A0 := A) hP (fun H locs hP hS => ?_)
  refine lv_aload_n hx hb dX11_see_0 rfl (lv_at hl 0 rfl) ?_
  refine va_get (D := D) (ci := 11) (v := .int 0) (C := RX11) (T := TX11) (N := 49) hx hb hg inGX11 hown hKN.1 hP 0 rfl rfl 16 (by decide) (hg _ kw_1224) (fun _ h9 => h9) rfl dX11_see_1 ?_
  refine lv_aload_n hx hb dX11_see_4 rfl (lv_at hl 0 rfl) ?_
  refine va_get (D := D) (ci := 11) (v := .int 0) (C := RX11) (T := TX11) (N := 49) hx hb hg inGX11 hown hKN.1 hP 0 rfl rfl 3 (by decide) (hg _ kw_1211) (fun _ h9 => h9) rfl dX11_see_5 ?_
  refine lv_icmp_ge (tgt := 38) hx hb dX11_see_8 (by decide) (fun c1 => ?_) (fun c1 => ?_)
  rotate_left
  · exact absurd c1 (by decide)
  refine lv_aload_n hx hb dX11_see_38 rfl (lv_at hl 0 rfl) ?_
  refine va_get (D := D) (ci := 11) (v := .int 0) (C := RX11) (T := TX11) (N := 49) hx hb hg inGX11 hown hKN.1 hP 0 rfl rfl 16 (by decide) (hg _ kw_1224) (fun _ h9 => h9) rfl dX11_see_39 ?_
  refine lv_aload_n hx hb dX11_see_42 rfl (lv_at hl 0 rfl) ?_
  refine va_get (D := D) (ci := 11) (v := .int 0) (C := RX11) (T := TX11) (N := 49) hx hb hg inGX11 hown hKN.1 hP 0 rfl rfl 3 (by decide) (hg _ kw_1211) (fun _ h9 => h9) rfl dX11_see_43 ?_
  refine lv_icmp_ge (tgt := 65) hx hb dX11_see_46 (by decide) (fun c2 => ?_) (fun c2 => ?_)
  rotate_left
  · exact absurd c2 (by decide)
  refine lv_iconst (v := (-1)) hx hb dX11_see_65 (by decide) ?_
  refine W.widen (k := 0) (n := 0) (Nat.le_of_ble_eq_true rfl) (Nat.le_of_ble_eq_true rfl) ?_
  exact W.iret (v := (-1)) hx hb hr (fun t ht hW => ⟨⟨(), rfl, trivial, CB.mk ht (hP.sub [0] rfl) (hD.sub [0] (by decide) rfl)⟩, hS.F ht⟩) hS.2.2 dX11_see_66
set_option maxHeartbeats 4000000 in
set_option maxRecDepth 100000 in
theorem m_isLetter (l : Launch) (D : va_G) (Y : Nat → ClassId) (Z : Nat → Nat) (sz : Nat) (o : Nat) (a : Nat → Nat) (tt : Int32) : Met l yX11_isLetter (.code yX11_isLetter cX11_isLetter 2 (some .boolean) :: GW) ({ frames := 0, cells := 0, slots := 0, locals := 0 }) (va_Pc [.ref o, .int 0] (CP D Y Z [(o, .inr (11, (.ref (a 0) :: .ref (a 1) :: .ref (a 2) :: .int 0 :: .ref (a 3) :: .ref (a 4) :: .ref (a 5) :: .ref (a 6) :: .ref (a 7) :: .ref (a 8) :: .ref (a 9) :: .ref (a 10) :: .ref (a 11) :: .ref (a 12) :: .ref (a 13) :: .ref (a 14) :: .int 0 :: .int 0 :: .int 0 :: .int tt :: .int 0 :: .int 0 :: .int 0 :: .ref (a 15) :: .int 0 :: .ref (a 16) :: .int 0 :: .ref (a 17) :: .ref (a 18) :: .int 0 :: .long 0 :: .long 0 :: .int 0 :: .long 0 :: .int 0 :: .int 0 :: .int 0 :: .long 0 :: .long 0 :: .int 0 :: .ref (a 19) :: .ref (a 20) :: .ref (a 21) :: .ref (a 22) :: .ref (a 23) :: .ref (a 24) :: .ref (a 25) :: .ref (a 26) :: .ref (a 27) :: [])))] sz)) (QG (S := Unit) (fun _ => some (.int 0)) (fun _ => True) (fun u => CB D ((fun _ => [(o, .inr (11, (.ref (a 0) :: .ref (a 1) :: .ref (a 2) :: .int 0 :: .ref (a 3) :: .ref (a 4) :: .ref (a 5) :: .ref (a 6) :: .ref (a 7) :: .ref (a 8) :: .ref (a 9) :: .ref (a 10) :: .ref (a 11) :: .ref (a 12) :: .ref (a 13) :: .ref (a 14) :: .int 0 :: .int 0 :: .int 0 :: .int tt :: .int 0 :: .int 0 :: .int 0 :: .ref (a 15) :: .int 0 :: .ref (a 16) :: .int 0 :: .ref (a 17) :: .ref (a 18) :: .int 0 :: .long 0 :: .long 0 :: .int 0 :: .long 0 :: .int 0 :: .int 0 :: .int 0 :: .long 0 :: .long 0 :: .int 0 :: .ref (a 19) :: .ref (a 20) :: .ref (a 21) :: .ref (a 22) :: .ref (a 23) :: .ref (a 24) :: .ref (a 25) :: .ref (a 26) :: .ref (a 27) :: [])))]) u) (va_A [(o, .inr (11, (.ref (a 0) :: .ref (a 1) :: .ref (a 2) :: .int 0 :: .ref (a 3) :: .ref (a 4) :: .ref (a 5) :: .ref (a 6) :: .ref (a 7) :: .ref (a 8) :: .ref (a 9) :: .ref (a 10) :: .ref (a 11) :: .ref (a 12) :: .ref (a 13) :: .ref (a 14) :: .int 0 :: .int 0 :: .int 0 :: .int tt :: .int 0 :: .int 0 :: .int 0 :: .ref (a 15) :: .int 0 :: .ref (a 16) :: .int 0 :: .ref (a 17) :: .ref (a 18) :: .int 0 :: .long 0 :: .long 0 :: .int 0 :: .long 0 :: .int 0 :: .int 0 :: .int 0 :: .long 0 :: .long 0 :: .int 0 :: .ref (a 19) :: .ref (a 20) :: .ref (a 21) :: .ref (a 22) :: .ref (a 23) :: .ref (a 24) :: .ref (a 25) :: .ref (a 26) :: .ref (a 27) :: [])))] sz)) (va_A [(o, .inr (11, (.ref (a 0) :: .ref (a 1) :: .ref (a 2) :: .int 0 :: .ref (a 3) :: .ref (a 4) :: .ref (a 5) :: .ref (a 6) :: .ref (a 7) :: .ref (a 8) :: .ref (a 9) :: .ref (a 10) :: .ref (a 11) :: .ref (a 12) :: .ref (a 13) :: .ref (a 14) :: .int 0 :: .int 0 :: .int 0 :: .int tt :: .int 0 :: .int 0 :: .int 0 :: .ref (a 15) :: .int 0 :: .ref (a 16) :: .int 0 :: .ref (a 17) :: .ref (a 18) :: .int 0 :: .long 0 :: .long 0 :: .int 0 :: .long 0 :: .int 0 :: .int 0 :: .int 0 :: .long 0 :: .long 0 :: .int 0 :: .ref (a 19) :: .ref (a 20) :: .ref (a 21) :: .ref (a 22) :: .ref (a 23) :: .ref (a 24) :: .ref (a 25) :: .ref (a 26) :: .ref (a 27) :: [])))] sz)) 0 0 (va_A [(o, .inr (11, (.ref (a 0) :: .ref (a 1) :: .ref (a 2) :: .int 0 :: .ref (a 3) :: .ref (a 4) :: .ref (a 5) :: .ref (a 6) :: .ref (a 7) :: .ref (a 8) :: .ref (a 9) :: .ref (a 10) :: .ref (a 11) :: .ref (a 12) :: .ref (a 13) :: .ref (a 14) :: .int 0 :: .int 0 :: .int 0 :: .int tt :: .int 0 :: .int 0 :: .int 0 :: .ref (a 15) :: .int 0 :: .ref (a 16) :: .int 0 :: .ref (a 17) :: .ref (a 18) :: .int 0 :: .long 0 :: .long 0 :: .int 0 :: .long 0 :: .int 0 :: .int 0 :: .int 0 :: .long 0 :: .long 0 :: .int 0 :: .ref (a 19) :: .ref (a 20) :: .ref (a 21) :: .ref (a 22) :: .ref (a 23) :: .ref (a 24) :: .ref (a 25) :: .ref (a 26) :: .ref (a 27) :: [])))] sz) := by
  refine Met.ofW (cc := cX11_isLetter) (maxL := 2) (ret := (some .boolean)) (by decide) rfl ?_
  intro p e s m args below meth c s₁ B hml hv
  obtain ⟨rfl, hsz, hP, hKN, hD0⟩ := hv
  have hx := B.exec
  have hb := B.bytes
  have hr := B.returns
  have hts := atoms_spec (ws := .code yX11_isLetter cX11_isLetter 2 (some .boolean) :: GW) B.pre
  have hg : ∀ w ∈ GW, w.before _ s = true := fun w h => hts w (List.mem_cons_of_mem _ h)
  have hown : s.vm.findClass RX11 = some m.cls := findClass_of_methodNamed B.named
  have hlocks := B.notSynchronized
  subst hsz
  have hD := hD0.self (sz := s.heap.size)
  generalize hAe : va_A [(o, .inr (11, (.ref (a 0) :: .ref (a 1) :: .ref (a 2) :: .int 0 :: .ref (a 3) :: .ref (a 4) :: .ref (a 5) :: .ref (a 6) :: .ref (a 7) :: .ref (a 8) :: .ref (a 9) :: .ref (a 10) :: .ref (a 11) :: .ref (a 12) :: .ref (a 13) :: .ref (a 14) :: .int 0 :: .int 0 :: .int 0 :: .int tt :: .int 0 :: .int 0 :: .int 0 :: .ref (a 15) :: .int 0 :: .ref (a 16) :: .int 0 :: .ref (a 17) :: .ref (a 18) :: .int 0 :: .long 0 :: .long 0 :: .int 0 :: .long 0 :: .int 0 :: .int 0 :: .int 0 :: .long 0 :: .long 0 :: .int 0 :: .ref (a 19) :: .ref (a 20) :: .ref (a 21) :: .ref (a 22) :: .ref (a 23) :: .ref (a 24) :: .ref (a 25) :: .ref (a 26) :: .ref (a 27) :: [])))] s.heap.size = A at hD ⊢
  have hA : ∀ q : Nat, s.heap.size ≤ q → A q := fun q h => by rw [← hAe]; exact Or.inr h
  have hl := lv_entry ([.ref o, .int 0]) (n := 2) (Nat.le_of_ble_eq_true rfl)
  rw [lg_entry_eq]
  generalize (lg_sl ([.ref o, .int 0]) ++ List.replicate (2 - (lg_sl ([.ref o, .int 0])).length) Slot.unset).toArray = ls at hl ⊢
  have hl : lv_has ls 2 [(0, .ref o), (1, .int 0)] := hl
  refine w_start (A0 := A) hP (fun H locs hP hS => ?_)
  refine lv_iload_n hx hb dX11_isLetter_0 rfl (lv_at hl 1 rfl) ?_
  refine lv_aload_n hx hb dX11_isLetter_1 rfl (lv_at hl 0 rfl) ?_
  refine va_get (D := D) (ci := 11) (v := .int 0) (C := RX11) (T := TX11) (N := 49) hx hb hg inGX11 hown hKN.1 hP 0 rfl rfl 3 (by decide) (hg _ kw_1211) (fun _ h9 => h9) rfl dX11_isLetter_2 ?_
  refine lv_icmp_ge (tgt := 34) hx hb dX11_isLetter_5 (by decide) (fun c1 => ?_) (fun c1 => ?_)
  rotate_left
  · exact absurd c1 (by decide)
  refine lv_iconst (v := 0) hx hb dX11_isLetter_34 (by decide) ?_
  refine W.widen (k := 0) (n := 0) (Nat.le_of_ble_eq_true rfl) (Nat.le_of_ble_eq_true rfl) ?_
  exact W.zret (v := 0) hx hb hr (by decide) (fun t ht hW => ⟨⟨(), rfl, trivial, CB.mk ht (hP.sub [0] rfl) (hD.sub [0] (by decide) rfl)⟩, hS.F ht⟩) hS.2.2 dX11_isLetter_35
set_option maxHeartbeats 4000000 in
set_option maxRecDepth 100000 in
theorem m_isWord (l : Launch) (D : va_G) (Y : Nat → ClassId) (Z : Nat → Nat) (sz : Nat) (o : Nat) (a : Nat → Nat) (tt : Int32) (wd : Int64) : Met l yX11_isWord (.code yX11_isWord cX11_isWord 6 (some .boolean) :: GW) ({ frames := 1, cells := 0, slots := 0, locals := 21 }) (va_Pc [.ref o, .long wd] (CP D Y Z [(o, .inr (11, (.ref (a 0) :: .ref (a 1) :: .ref (a 2) :: .int 0 :: .ref (a 3) :: .ref (a 4) :: .ref (a 5) :: .ref (a 6) :: .ref (a 7) :: .ref (a 8) :: .ref (a 9) :: .ref (a 10) :: .ref (a 11) :: .ref (a 12) :: .ref (a 13) :: .ref (a 14) :: .int 0 :: .int 0 :: .int 0 :: .int tt :: .int 0 :: .int 0 :: .int 0 :: .ref (a 15) :: .int 0 :: .ref (a 16) :: .int 0 :: .ref (a 17) :: .ref (a 18) :: .int 0 :: .long 0 :: .long 0 :: .int 0 :: .long 0 :: .int 0 :: .int 0 :: .int 0 :: .long 0 :: .long 0 :: .int 0 :: .ref (a 19) :: .ref (a 20) :: .ref (a 21) :: .ref (a 22) :: .ref (a 23) :: .ref (a 24) :: .ref (a 25) :: .ref (a 26) :: .ref (a 27) :: [])))] sz)) (QG (S := Unit) (fun _ => some (.int 0)) (fun _ => True) (fun u => CB D ((fun _ => [(o, .inr (11, (.ref (a 0) :: .ref (a 1) :: .ref (a 2) :: .int 0 :: .ref (a 3) :: .ref (a 4) :: .ref (a 5) :: .ref (a 6) :: .ref (a 7) :: .ref (a 8) :: .ref (a 9) :: .ref (a 10) :: .ref (a 11) :: .ref (a 12) :: .ref (a 13) :: .ref (a 14) :: .int 0 :: .int 0 :: .int 0 :: .int tt :: .int 0 :: .int 0 :: .int 0 :: .ref (a 15) :: .int 0 :: .ref (a 16) :: .int 0 :: .ref (a 17) :: .ref (a 18) :: .int 0 :: .long 0 :: .long 0 :: .int 0 :: .long 0 :: .int 0 :: .int 0 :: .int 0 :: .long 0 :: .long 0 :: .int 0 :: .ref (a 19) :: .ref (a 20) :: .ref (a 21) :: .ref (a 22) :: .ref (a 23) :: .ref (a 24) :: .ref (a 25) :: .ref (a 26) :: .ref (a 27) :: [])))]) u) (va_A [(o, .inr (11, (.ref (a 0) :: .ref (a 1) :: .ref (a 2) :: .int 0 :: .ref (a 3) :: .ref (a 4) :: .ref (a 5) :: .ref (a 6) :: .ref (a 7) :: .ref (a 8) :: .ref (a 9) :: .ref (a 10) :: .ref (a 11) :: .ref (a 12) :: .ref (a 13) :: .ref (a 14) :: .int 0 :: .int 0 :: .int 0 :: .int tt :: .int 0 :: .int 0 :: .int 0 :: .ref (a 15) :: .int 0 :: .ref (a 16) :: .int 0 :: .ref (a 17) :: .ref (a 18) :: .int 0 :: .long 0 :: .long 0 :: .int 0 :: .long 0 :: .int 0 :: .int 0 :: .int 0 :: .long 0 :: .long 0 :: .int 0 :: .ref (a 19) :: .ref (a 20) :: .ref (a 21) :: .ref (a 22) :: .ref (a 23) :: .ref (a 24) :: .ref (a 25) :: .ref (a 26) :: .ref (a 27) :: [])))] sz)) (va_A [(o, .inr (11, (.ref (a 0) :: .ref (a 1) :: .ref (a 2) :: .int 0 :: .ref (a 3) :: .ref (a 4) :: .ref (a 5) :: .ref (a 6) :: .ref (a 7) :: .ref (a 8) :: .ref (a 9) :: .ref (a 10) :: .ref (a 11) :: .ref (a 12) :: .ref (a 13) :: .ref (a 14) :: .int 0 :: .int 0 :: .int 0 :: .int tt :: .int 0 :: .int 0 :: .int 0 :: .ref (a 15) :: .int 0 :: .ref (a 16) :: .int 0 :: .ref (a 17) :: .ref (a 18) :: .int 0 :: .long 0 :: .long 0 :: .int 0 :: .long 0 :: .int 0 :: .int 0 :: .int 0 :: .long 0 :: .long 0 :: .int 0 :: .ref (a 19) :: .ref (a 20) :: .ref (a 21) :: .ref (a 22) :: .ref (a 23) :: .ref (a 24) :: .ref (a 25) :: .ref (a 26) :: .ref (a 27) :: [])))] sz)) 0 0 (va_A [(o, .inr (11, (.ref (a 0) :: .ref (a 1) :: .ref (a 2) :: .int 0 :: .ref (a 3) :: .ref (a 4) :: .ref (a 5) :: .ref (a 6) :: .ref (a 7) :: .ref (a 8) :: .ref (a 9) :: .ref (a 10) :: .ref (a 11) :: .ref (a 12) :: .ref (a 13) :: .ref (a 14) :: .int 0 :: .int 0 :: .int 0 :: .int tt :: .int 0 :: .int 0 :: .int 0 :: .ref (a 15) :: .int 0 :: .ref (a 16) :: .int 0 :: .ref (a 17) :: .ref (a 18) :: .int 0 :: .long 0 :: .long 0 :: .int 0 :: .long 0 :: .int 0 :: .int 0 :: .int 0 :: .long 0 :: .long 0 :: .int 0 :: .ref (a 19) :: .ref (a 20) :: .ref (a 21) :: .ref (a 22) :: .ref (a 23) :: .ref (a 24) :: .ref (a 25) :: .ref (a 26) :: .ref (a 27) :: [])))] sz) := by
  refine Met.ofW (cc := cX11_isWord) (maxL := 6) (ret := (some .boolean)) (by decide) rfl ?_
  intro p e s m args below meth c s₁ B hml hv
  obtain ⟨rfl, hsz, hP, hKN, hD0⟩ := hv
  have hx := B.exec
  have hb := B.bytes
  have hr := B.returns
  have hts := atoms_spec (ws := .code yX11_isWord cX11_isWord 6 (some .boolean) :: GW) B.pre
  have hg : ∀ w ∈ GW, w.before _ s = true := fun w h => hts w (List.mem_cons_of_mem _ h)
  have hown : s.vm.findClass RX11 = some m.cls := findClass_of_methodNamed B.named
  have hlocks := B.notSynchronized
  subst hsz
  have hD := hD0.self (sz := s.heap.size)
  generalize hAe : va_A [(o, .inr (11, (.ref (a 0) :: .ref (a 1) :: .ref (a 2) :: .int 0 :: .ref (a 3) :: .ref (a 4) :: .ref (a 5) :: .ref (a 6) :: .ref (a 7) :: .ref (a 8) :: .ref (a 9) :: .ref (a 10) :: .ref (a 11) :: .ref (a 12) :: .ref (a 13) :: .ref (a 14) :: .int 0 :: .int 0 :: .int 0 :: .int tt :: .int 0 :: .int 0 :: .int 0 :: .ref (a 15) :: .int 0 :: .ref (a 16) :: .int 0 :: .ref (a 17) :: .ref (a 18) :: .int 0 :: .long 0 :: .long 0 :: .int 0 :: .long 0 :: .int 0 :: .int 0 :: .int 0 :: .long 0 :: .long 0 :: .int 0 :: .ref (a 19) :: .ref (a 20) :: .ref (a 21) :: .ref (a 22) :: .ref (a 23) :: .ref (a 24) :: .ref (a 25) :: .ref (a 26) :: .ref (a 27) :: [])))] s.heap.size = A at hD ⊢
  have hA : ∀ q : Nat, s.heap.size ≤ q → A q := fun q h => by rw [← hAe]; exact Or.inr h
  have hl := lv_entry ([.ref o, .long wd]) (n := 6) (Nat.le_of_ble_eq_true rfl)
  rw [lg_entry_eq]
  generalize (lg_sl ([.ref o, .long wd]) ++ List.replicate (6 - (lg_sl ([.ref o, .long wd])).length) Slot.unset).toArray = ls at hl ⊢
  have hl : lv_has ls 6 [(0, .ref o), (1, .long wd)] := hl
  refine w_start (A0 := A) hP (fun H locs hP hS => ?_)
  refine lv_aload_n hx hb dX11_isWord_0 rfl (lv_at hl 0 rfl) ?_
  refine cg (wc := [(o, .inr (11, (.ref (a 0) :: .ref (a 1) :: .ref (a 2) :: .int 0 :: .ref (a 3) :: .ref (a 4) :: .ref (a 5) :: .ref (a 6) :: .ref (a 7) :: .ref (a 8) :: .ref (a 9) :: .ref (a 10) :: .ref (a 11) :: .ref (a 12) :: .ref (a 13) :: .ref (a 14) :: .int 0 :: .int 0 :: .int 0 :: .int tt :: .int 0 :: .int 0 :: .int 0 :: .ref (a 15) :: .int 0 :: .ref (a 16) :: .int 0 :: .ref (a 17) :: .ref (a 18) :: .int 0 :: .long 0 :: .long 0 :: .int 0 :: .long 0 :: .int 0 :: .int 0 :: .int 0 :: .long 0 :: .long 0 :: .int 0 :: .ref (a 19) :: .ref (a 20) :: .ref (a 21) :: .ref (a 22) :: .ref (a 23) :: .ref (a 24) :: .ref (a 25) :: .ref (a 26) :: .ref (a 27) :: [])))]) (wr := []) [0] [] (rn_V (As := []) (rest := []) (b := o) (m_see l D Y Z H.size o a tt) ⟨hx, hb, hml, hown, hg⟩ lk_X11_183 ⟨CP.blind, va_recv hKN.1 hP (ci := 11) (q0 := 0) rfl rfl, CP.at (hP.sub [0] rfl) hKN (hD.sub [0] (by decide) rfl)⟩ ⟨⟨rfl, rfl⟩, ⟨Nat.le_of_ble_eq_true rfl, Nat.le_of_ble_eq_true rfl⟩, ⟨Nat.le_of_ble_eq_true rfl, Nat.le_of_ble_eq_true rfl⟩⟩ hl.1 rfl (Nat.le_of_ble_eq_true rfl) dX11_isWord_1) hP hD hS hA rfl rfl (by decide) (by decide) (fun u1 H locs w2 hP hD hS => ?_)
  refine W.eq (g2 := F0 m 4 ls [.int (-1)]) rfl ?_
  have hP : va_P D vwCl [(o, .inr (11, (.ref (a 0) :: .ref (a 1) :: .ref (a 2) :: .int 0 :: .ref (a 3) :: .ref (a 4) :: .ref (a 5) :: .ref (a 6) :: .ref (a 7) :: .ref (a 8) :: .ref (a 9) :: .ref (a 10) :: .ref (a 11) :: .ref (a 12) :: .ref (a 13) :: .ref (a 14) :: .int 0 :: .int 0 :: .int 0 :: .int tt :: .int 0 :: .int 0 :: .int 0 :: .ref (a 15) :: .int 0 :: .ref (a 16) :: .int 0 :: .ref (a 17) :: .ref (a 18) :: .int 0 :: .long 0 :: .long 0 :: .int 0 :: .long 0 :: .int 0 :: .int 0 :: .int 0 :: .long 0 :: .long 0 :: .int 0 :: .ref (a 19) :: .ref (a 20) :: .ref (a 21) :: .ref (a 22) :: .ref (a 23) :: .ref (a 24) :: .ref (a 25) :: .ref (a 26) :: .ref (a 27) :: [])))] H := hP
  have hD : va_D A [(o, .inr (11, (.ref (a 0) :: .ref (a 1) :: .ref (a 2) :: .int 0 :: .ref (a 3) :: .ref (a 4) :: .ref (a 5) :: .ref (a 6) :: .ref (a 7) :: .ref (a 8) :: .ref (a 9) :: .ref (a 10) :: .ref (a 11) :: .ref (a 12) :: .ref (a 13) :: .ref (a 14) :: .int 0 :: .int 0 :: .int 0 :: .int tt :: .int 0 :: .int 0 :: .int 0 :: .ref (a 15) :: .int 0 :: .ref (a 16) :: .int 0 :: .ref (a 17) :: .ref (a 18) :: .int 0 :: .long 0 :: .long 0 :: .int 0 :: .long 0 :: .int 0 :: .int 0 :: .int 0 :: .long 0 :: .long 0 :: .int 0 :: .ref (a 19) :: .ref (a 20) :: .ref (a 21) :: .ref (a 22) :: .ref (a 23) :: .ref (a 24) :: .ref (a 25) :: .ref (a 26) :: .ref (a 27) :: [])))] := hD
  refine lv_pop hx hb dX11_isWord_4 rfl ?_
  refine lv_lconst (v := 0) hx hb dX11_isWord_5 (by decide) ?_
  refine lv_lstore_n (lv' := [(3, .long 0), (0, .ref o), (1, .long wd)]) hx hb dX11_isWord_6 rfl hl (by decide) rfl (fun ls hl => ?_)
  refine lv_iconst (v := 0) hx hb dX11_isWord_7 (by decide) ?_
  refine lv_istore (lv' := [(5, .int 0), (3, .long 0), (0, .ref o), (1, .long wd)]) hx hb dX11_isWord_8 hl (by decide) rfl (fun ls hl => ?_)
  refine lv_aload_n hx hb dX11_isWord_10 rfl (lv_at hl 2 rfl) ?_
  refine lv_aload_n hx hb dX11_isWord_11 rfl (lv_at hl 2 rfl) ?_
  refine va_get (D := D) (ci := 11) (v := .int 0) (C := RX11) (T := TX11) (N := 49) hx hb hg inGX11 hown hKN.1 hP 0 rfl rfl 16 (by decide) (hg _ kw_1224) (fun _ h9 => h9) rfl dX11_isWord_12 ?_
  refine lv_iload hx hb dX11_isWord_15 (lv_at hl 0 rfl) ?_
  refine lv_iadd hx hb dX11_isWord_17 ?_
  refine lv_topi (fun z3 ez3 => ?_)
  obtain rfl : z3 = 0 := ez3.trans (by decide)
  refine cg (wc := [(o, .inr (11, (.ref (a 0) :: .ref (a 1) :: .ref (a 2) :: .int 0 :: .ref (a 3) :: .ref (a 4) :: .ref (a 5) :: .ref (a 6) :: .ref (a 7) :: .ref (a 8) :: .ref (a 9) :: .ref (a 10) :: .ref (a 11) :: .ref (a 12) :: .ref (a 13) :: .ref (a 14) :: .int 0 :: .int 0 :: .int 0 :: .int tt :: .int 0 :: .int 0 :: .int 0 :: .ref (a 15) :: .int 0 :: .ref (a 16) :: .int 0 :: .ref (a 17) :: .ref (a 18) :: .int 0 :: .long 0 :: .long 0 :: .int 0 :: .long 0 :: .int 0 :: .int 0 :: .int 0 :: .long 0 :: .long 0 :: .int 0 :: .ref (a 19) :: .ref (a 20) :: .ref (a 21) :: .ref (a 22) :: .ref (a 23) :: .ref (a 24) :: .ref (a 25) :: .ref (a 26) :: .ref (a 27) :: [])))]) (wr := []) [0] [] (rn_V (As := [.int 0]) (rest := []) (b := o) (m_isLetter l D Y Z H.size o a tt) ⟨hx, hb, hml, hown, hg⟩ lk_X11_187 ⟨CP.blind, va_recv hKN.1 hP (ci := 11) (q0 := 0) rfl rfl, CP.at (hP.sub [0] rfl) hKN (hD.sub [0] (by decide) rfl)⟩ ⟨⟨rfl, rfl⟩, ⟨Nat.le_of_ble_eq_true rfl, Nat.le_of_ble_eq_true rfl⟩, ⟨Nat.le_of_ble_eq_true rfl, Nat.le_of_ble_eq_true rfl⟩⟩ hl.1 rfl (Nat.le_of_ble_eq_true rfl) dX11_isWord_18) hP hD hS hA rfl rfl (by decide) (by decide) (fun u4 H locs w5 hP hD hS => ?_)
  refine W.eq (g2 := F0 m 21 ls [.int 0]) rfl ?_
  have hP : va_P D vwCl [(o, .inr (11, (.ref (a 0) :: .ref (a 1) :: .ref (a 2) :: .int 0 :: .ref (a 3) :: .ref (a 4) :: .ref (a 5) :: .ref (a 6) :: .ref (a 7) :: .ref (a 8) :: .ref (a 9) :: .ref (a 10) :: .ref (a 11) :: .ref (a 12) :: .ref (a 13) :: .ref (a 14) :: .int 0 :: .int 0 :: .int 0 :: .int tt :: .int 0 :: .int 0 :: .int 0 :: .ref (a 15) :: .int 0 :: .ref (a 16) :: .int 0 :: .ref (a 17) :: .ref (a 18) :: .int 0 :: .long 0 :: .long 0 :: .int 0 :: .long 0 :: .int 0 :: .int 0 :: .int 0 :: .long 0 :: .long 0 :: .int 0 :: .ref (a 19) :: .ref (a 20) :: .ref (a 21) :: .ref (a 22) :: .ref (a 23) :: .ref (a 24) :: .ref (a 25) :: .ref (a 26) :: .ref (a 27) :: [])))] H := hP
  have hD : va_D A [(o, .inr (11, (.ref (a 0) :: .ref (a 1) :: .ref (a 2) :: .int 0 :: .ref (a 3) :: .ref (a 4) :: .ref (a 5) :: .ref (a 6) :: .ref (a 7) :: .ref (a 8) :: .ref (a 9) :: .ref (a 10) :: .ref (a 11) :: .ref (a 12) :: .ref (a 13) :: .ref (a 14) :: .int 0 :: .int 0 :: .int 0 :: .int tt :: .int 0 :: .int 0 :: .int 0 :: .ref (a 15) :: .int 0 :: .ref (a 16) :: .int 0 :: .ref (a 17) :: .ref (a 18) :: .int 0 :: .long 0 :: .long 0 :: .int 0 :: .long 0 :: .int 0 :: .int 0 :: .int 0 :: .long 0 :: .long 0 :: .int 0 :: .ref (a 19) :: .ref (a 20) :: .ref (a 21) :: .ref (a 22) :: .ref (a 23) :: .ref (a 24) :: .ref (a 25) :: .ref (a 26) :: .ref (a 27) :: [])))] := hD
  refine lv_if_eq (tgt := 56) hx hb dX11_isWord_21 (by decide) (fun c6 => ?_) (fun c6 => ?_)
  rotate_left
  · exact absurd c6 (by decide)
  refine lv_iload hx hb dX11_isWord_56 (lv_at hl 0 rfl) ?_
  refine lv_if_le (tgt := 78) hx hb dX11_isWord_58 (by decide) (fun c7 => ?_) (fun c7 => ?_)
  rotate_left
  · exact absurd c7 (by decide)
  refine lv_iconst (v := 0) hx hb dX11_isWord_78 (by decide) ?_
  refine W.widen (k := 0) (n := 0) (Nat.le_of_ble_eq_true rfl) (Nat.le_of_ble_eq_true rfl) ?_
  exact W.zret (v := 0) hx hb hr (by decide) (fun t ht hW => ⟨⟨(), rfl, trivial, CB.mk ht (hP.sub [0] rfl) (hD.sub [0] (by decide) rfl)⟩, hS.F ht⟩) hS.2.2 dX11_isWord_79
set_option maxHeartbeats 4000000 in
set_option maxRecDepth 100000 in
theorem m_fails (l : Launch) (D : va_G) (Y : Nat → ClassId) (Z : Nat → Nat) (sz : Nat) (o : Nat) (a : Nat → Nat) (tt : Int32) : Met l yX11_fails (.code yX11_fails cX11_fails 3 (some .boolean) :: GW) ({ frames := 0, cells := 0, slots := 0, locals := 0 }) (va_Pc [.ref o, .int 0, .int 0] (CP D Y Z [(o, .inr (11, (.ref (a 0) :: .ref (a 1) :: .ref (a 2) :: .int 0 :: .ref (a 3) :: .ref (a 4) :: .ref (a 5) :: .ref (a 6) :: .ref (a 7) :: .ref (a 8) :: .ref (a 9) :: .ref (a 10) :: .ref (a 11) :: .ref (a 12) :: .ref (a 13) :: .ref (a 14) :: .int 0 :: .int 0 :: .int 0 :: .int tt :: .int 0 :: .int 0 :: .int 0 :: .ref (a 15) :: .int 0 :: .ref (a 16) :: .int 0 :: .ref (a 17) :: .ref (a 18) :: .int 0 :: .long 0 :: .long 0 :: .int 0 :: .long 0 :: .int 0 :: .int 0 :: .int 0 :: .long 0 :: .long 0 :: .int 0 :: .ref (a 19) :: .ref (a 20) :: .ref (a 21) :: .ref (a 22) :: .ref (a 23) :: .ref (a 24) :: .ref (a 25) :: .ref (a 26) :: .ref (a 27) :: [])))] sz)) (QG (S := Unit) (fun _ => some (.int 0)) (fun _ => True) (fun u => CB D ((fun _ => [(o, .inr (11, (.ref (a 0) :: .ref (a 1) :: .ref (a 2) :: .int 0 :: .ref (a 3) :: .ref (a 4) :: .ref (a 5) :: .ref (a 6) :: .ref (a 7) :: .ref (a 8) :: .ref (a 9) :: .ref (a 10) :: .ref (a 11) :: .ref (a 12) :: .ref (a 13) :: .ref (a 14) :: .int 0 :: .int 1 :: .int 0 :: .int tt :: .int 0 :: .int 0 :: .int 0 :: .ref (a 15) :: .int 0 :: .ref (a 16) :: .int 0 :: .ref (a 17) :: .ref (a 18) :: .int 0 :: .long 0 :: .long 0 :: .int 0 :: .long 0 :: .int 0 :: .int 0 :: .int 0 :: .long 0 :: .long 0 :: .int 0 :: .ref (a 19) :: .ref (a 20) :: .ref (a 21) :: .ref (a 22) :: .ref (a 23) :: .ref (a 24) :: .ref (a 25) :: .ref (a 26) :: .ref (a 27) :: [])))]) u) (va_A [(o, .inr (11, (.ref (a 0) :: .ref (a 1) :: .ref (a 2) :: .int 0 :: .ref (a 3) :: .ref (a 4) :: .ref (a 5) :: .ref (a 6) :: .ref (a 7) :: .ref (a 8) :: .ref (a 9) :: .ref (a 10) :: .ref (a 11) :: .ref (a 12) :: .ref (a 13) :: .ref (a 14) :: .int 0 :: .int 0 :: .int 0 :: .int tt :: .int 0 :: .int 0 :: .int 0 :: .ref (a 15) :: .int 0 :: .ref (a 16) :: .int 0 :: .ref (a 17) :: .ref (a 18) :: .int 0 :: .long 0 :: .long 0 :: .int 0 :: .long 0 :: .int 0 :: .int 0 :: .int 0 :: .long 0 :: .long 0 :: .int 0 :: .ref (a 19) :: .ref (a 20) :: .ref (a 21) :: .ref (a 22) :: .ref (a 23) :: .ref (a 24) :: .ref (a 25) :: .ref (a 26) :: .ref (a 27) :: [])))] sz)) (va_A [(o, .inr (11, (.ref (a 0) :: .ref (a 1) :: .ref (a 2) :: .int 0 :: .ref (a 3) :: .ref (a 4) :: .ref (a 5) :: .ref (a 6) :: .ref (a 7) :: .ref (a 8) :: .ref (a 9) :: .ref (a 10) :: .ref (a 11) :: .ref (a 12) :: .ref (a 13) :: .ref (a 14) :: .int 0 :: .int 0 :: .int 0 :: .int tt :: .int 0 :: .int 0 :: .int 0 :: .ref (a 15) :: .int 0 :: .ref (a 16) :: .int 0 :: .ref (a 17) :: .ref (a 18) :: .int 0 :: .long 0 :: .long 0 :: .int 0 :: .long 0 :: .int 0 :: .int 0 :: .int 0 :: .long 0 :: .long 0 :: .int 0 :: .ref (a 19) :: .ref (a 20) :: .ref (a 21) :: .ref (a 22) :: .ref (a 23) :: .ref (a 24) :: .ref (a 25) :: .ref (a 26) :: .ref (a 27) :: [])))] sz)) 0 0 (va_A [(o, .inr (11, (.ref (a 0) :: .ref (a 1) :: .ref (a 2) :: .int 0 :: .ref (a 3) :: .ref (a 4) :: .ref (a 5) :: .ref (a 6) :: .ref (a 7) :: .ref (a 8) :: .ref (a 9) :: .ref (a 10) :: .ref (a 11) :: .ref (a 12) :: .ref (a 13) :: .ref (a 14) :: .int 0 :: .int 0 :: .int 0 :: .int tt :: .int 0 :: .int 0 :: .int 0 :: .ref (a 15) :: .int 0 :: .ref (a 16) :: .int 0 :: .ref (a 17) :: .ref (a 18) :: .int 0 :: .long 0 :: .long 0 :: .int 0 :: .long 0 :: .int 0 :: .int 0 :: .int 0 :: .long 0 :: .long 0 :: .int 0 :: .ref (a 19) :: .ref (a 20) :: .ref (a 21) :: .ref (a 22) :: .ref (a 23) :: .ref (a 24) :: .ref (a 25) :: .ref (a 26) :: .ref (a 27) :: [])))] sz) := by
  refine Met.ofW (cc := cX11_fails) (maxL := 3) (ret := (some .boolean)) (by decide) rfl ?_
  intro p e s m args below meth c s₁ B hml hv
  obtain ⟨rfl, hsz, hP, hKN, hD0⟩ := hv
  have hx := B.exec
  have hb := B.bytes
  have hr := B.returns
  have hts := atoms_spec (ws := .code yX11_fails cX11_fails 3 (some .boolean) :: GW) B.pre
  have hg : ∀ w ∈ GW, w.before _ s = true := fun w h => hts w (List.mem_cons_of_mem _ h)
  have hown : s.vm.findClass RX11 = some m.cls := findClass_of_methodNamed B.named
  have hlocks := B.notSynchronized
  subst hsz
  have hD := hD0.self (sz := s.heap.size)
  generalize hAe : va_A [(o, .inr (11, (.ref (a 0) :: .ref (a 1) :: .ref (a 2) :: .int 0 :: .ref (a 3) :: .ref (a 4) :: .ref (a 5) :: .ref (a 6) :: .ref (a 7) :: .ref (a 8) :: .ref (a 9) :: .ref (a 10) :: .ref (a 11) :: .ref (a 12) :: .ref (a 13) :: .ref (a 14) :: .int 0 :: .int 0 :: .int 0 :: .int tt :: .int 0 :: .int 0 :: .int 0 :: .ref (a 15) :: .int 0 :: .ref (a 16) :: .int 0 :: .ref (a 17) :: .ref (a 18) :: .int 0 :: .long 0 :: .long 0 :: .int 0 :: .long 0 :: .int 0 :: .int 0 :: .int 0 :: .long 0 :: .long 0 :: .int 0 :: .ref (a 19) :: .ref (a 20) :: .ref (a 21) :: .ref (a 22) :: .ref (a 23) :: .ref (a 24) :: .ref (a 25) :: .ref (a 26) :: .ref (a 27) :: [])))] s.heap.size = A at hD ⊢
  have hA : ∀ q : Nat, s.heap.size ≤ q → A q := fun q h => by rw [← hAe]; exact Or.inr h
  have hl := lv_entry ([.ref o, .int 0, .int 0]) (n := 3) (Nat.le_of_ble_eq_true rfl)
  rw [lg_entry_eq]
  generalize (lg_sl ([.ref o, .int 0, .int 0]) ++ List.replicate (3 - (lg_sl ([.ref o, .int 0, .int 0])).length) Slot.unset).toArray = ls at hl ⊢
  have hl : lv_has ls 3 [(0, .ref o), (1, .int 0), (2, .int 0)] := hl
  refine w_start (A0 := A) hP (fun H locs hP hS => ?_)
  refine lv_aload_n hx hb dX11_fails_0 rfl (lv_at hl 0 rfl) ?_
  refine va_get (D := D) (ci := 11) (v := .int 0) (C := RX11) (T := TX11) (N := 49) hx hb hg inGX11 hown hKN.1 hP 0 rfl rfl 17 (by decide) (hg _ kw_1225) (fun _ h9 => h9) rfl dX11_fails_1 ?_
  refine lv_if_ne (tgt := 19) hx hb dX11_fails_4 (by decide) (fun c1 => ?_) (fun c1 => ?_)
  · exact absurd c1 (by decide)
  refine lv_aload_n hx hb dX11_fails_7 rfl (lv_at hl 0 rfl) ?_
  refine lv_iconst (v := 1) hx hb dX11_fails_8 (by decide) ?_
  refine lv_bipush (v := 8) hx hb dX11_fails_9 (by decide) ?_
  refine lv_iload_n hx hb dX11_fails_11 rfl (lv_at hl 2 rfl) ?_
  refine lv_imul hx hb dX11_fails_12 ?_
  refine lv_topi (fun z2 ez2 => ?_)
  obtain rfl : z2 = 0 := ez2.trans (by decide)
  refine lv_iadd hx hb dX11_fails_13 ?_
  refine lv_topi (fun z3 ez3 => ?_)
  obtain rfl : z3 = 1 := ez3.trans (by decide)
  refine lv_iload_n hx hb dX11_fails_14 rfl (lv_at hl 1 rfl) ?_
  refine lv_iadd hx hb dX11_fails_15 ?_
  refine lv_topi (fun z4 ez4 => ?_)
  obtain rfl : z4 = 1 := ez4.trans (by decide)
  refine va_put (D := D) (ci := 11) (v := .int 1) (ty := .int) (C := RX11) (T := TX11) (N := 49) hx hb hg inGX11 tyX11 tyX11_ok nmX11 hown hKN.1 hP hD hS 0 rfl rfl 17 (by decide) (hg _ kw_1225) (fun _ h9 => h9) rfl (by decide +kernel) rfl rfl (Nat.le_of_ble_eq_true rfl) dX11_fails_16 (fun H locs hP hD hS => ?_)
  have hP : va_P D vwCl [(o, .inr (11, (.ref (a 0) :: .ref (a 1) :: .ref (a 2) :: .int 0 :: .ref (a 3) :: .ref (a 4) :: .ref (a 5) :: .ref (a 6) :: .ref (a 7) :: .ref (a 8) :: .ref (a 9) :: .ref (a 10) :: .ref (a 11) :: .ref (a 12) :: .ref (a 13) :: .ref (a 14) :: .int 0 :: .int 1 :: .int 0 :: .int tt :: .int 0 :: .int 0 :: .int 0 :: .ref (a 15) :: .int 0 :: .ref (a 16) :: .int 0 :: .ref (a 17) :: .ref (a 18) :: .int 0 :: .long 0 :: .long 0 :: .int 0 :: .long 0 :: .int 0 :: .int 0 :: .int 0 :: .long 0 :: .long 0 :: .int 0 :: .ref (a 19) :: .ref (a 20) :: .ref (a 21) :: .ref (a 22) :: .ref (a 23) :: .ref (a 24) :: .ref (a 25) :: .ref (a 26) :: .ref (a 27) :: [])))] H := hP
  have hD : va_D A [(o, .inr (11, (.ref (a 0) :: .ref (a 1) :: .ref (a 2) :: .int 0 :: .ref (a 3) :: .ref (a 4) :: .ref (a 5) :: .ref (a 6) :: .ref (a 7) :: .ref (a 8) :: .ref (a 9) :: .ref (a 10) :: .ref (a 11) :: .ref (a 12) :: .ref (a 13) :: .ref (a 14) :: .int 0 :: .int 1 :: .int 0 :: .int tt :: .int 0 :: .int 0 :: .int 0 :: .ref (a 15) :: .int 0 :: .ref (a 16) :: .int 0 :: .ref (a 17) :: .ref (a 18) :: .int 0 :: .long 0 :: .long 0 :: .int 0 :: .long 0 :: .int 0 :: .int 0 :: .int 0 :: .long 0 :: .long 0 :: .int 0 :: .ref (a 19) :: .ref (a 20) :: .ref (a 21) :: .ref (a 22) :: .ref (a 23) :: .ref (a 24) :: .ref (a 25) :: .ref (a 26) :: .ref (a 27) :: [])))] := hD
  refine lv_iconst (v := 0) hx hb dX11_fails_19 (by decide) ?_
  refine W.widen (k := 0) (n := 0) (Nat.le_of_ble_eq_true rfl) (Nat.le_of_ble_eq_true rfl) ?_
  exact W.zret (v := 0) hx hb hr (by decide) (fun t ht hW => ⟨⟨(), rfl, trivial, CB.mk ht (hP.sub [0] rfl) (hD.sub [0] (by decide) rfl)⟩, hS.F ht⟩) hS.2.2 dX11_fails_20
set_option maxHeartbeats 4000000 in
set_option maxRecDepth 100000 in
theorem m_clauseHere0 (l : Launch) (D : va_G) (Y : Nat → ClassId) (Z : Nat → Nat) (sz : Nat) (o : Nat) (a : Nat → Nat) : Met l yX11_clauseHere (.code yX11_clauseHere cX11_clauseHere 5 (some .boolean) :: GW) ({ frames := 2, cells := 0, slots := 0, locals := 46 }) (va_Pc [.ref o] (CP D Y Z [(o, .inr (11, (.ref (a 0) :: .ref (a 1) :: .ref (a 2) :: .int 0 :: .ref (a 3) :: .ref (a 4) :: .ref (a 5) :: .ref (a 6) :: .ref (a 7) :: .ref (a 8) :: .ref (a 9) :: .ref (a 10) :: .ref (a 11) :: .ref (a 12) :: .ref (a 13) :: .ref (a 14) :: .int 0 :: .int 0 :: .int 0 :: .int 0 :: .int 0 :: .int 0 :: .int 0 :: .ref (a 15) :: .int 0 :: .ref (a 16) :: .int 0 :: .ref (a 17) :: .ref (a 18) :: .int 0 :: .long 0 :: .long 0 :: .int 0 :: .long 0 :: .int 0 :: .int 0 :: .int 0 :: .long 0 :: .long 0 :: .int 0 :: .ref (a 19) :: .ref (a 20) :: .ref (a 21) :: .ref (a 22) :: .ref (a 23) :: .ref (a 24) :: .ref (a 25) :: .ref (a 26) :: .ref (a 27) :: [])))] sz)) (QG (S := Unit) (fun _ => some (.int 0)) (fun _ => True) (fun u => CB D ((fun _ => [(o, .inr (11, (.ref (a 0) :: .ref (a 1) :: .ref (a 2) :: .int 0 :: .ref (a 3) :: .ref (a 4) :: .ref (a 5) :: .ref (a 6) :: .ref (a 7) :: .ref (a 8) :: .ref (a 9) :: .ref (a 10) :: .ref (a 11) :: .ref (a 12) :: .ref (a 13) :: .ref (a 14) :: .int 0 :: .int 1 :: .int 0 :: .int 0 :: .int 0 :: .int 0 :: .int 0 :: .ref (a 15) :: .int 0 :: .ref (a 16) :: .int 0 :: .ref (a 17) :: .ref (a 18) :: .int 0 :: .long 0 :: .long 0 :: .int 0 :: .long 0 :: .int 0 :: .int 0 :: .int 0 :: .long 0 :: .long 0 :: .int 0 :: .ref (a 19) :: .ref (a 20) :: .ref (a 21) :: .ref (a 22) :: .ref (a 23) :: .ref (a 24) :: .ref (a 25) :: .ref (a 26) :: .ref (a 27) :: [])))]) u) (va_A [(o, .inr (11, (.ref (a 0) :: .ref (a 1) :: .ref (a 2) :: .int 0 :: .ref (a 3) :: .ref (a 4) :: .ref (a 5) :: .ref (a 6) :: .ref (a 7) :: .ref (a 8) :: .ref (a 9) :: .ref (a 10) :: .ref (a 11) :: .ref (a 12) :: .ref (a 13) :: .ref (a 14) :: .int 0 :: .int 0 :: .int 0 :: .int 0 :: .int 0 :: .int 0 :: .int 0 :: .ref (a 15) :: .int 0 :: .ref (a 16) :: .int 0 :: .ref (a 17) :: .ref (a 18) :: .int 0 :: .long 0 :: .long 0 :: .int 0 :: .long 0 :: .int 0 :: .int 0 :: .int 0 :: .long 0 :: .long 0 :: .int 0 :: .ref (a 19) :: .ref (a 20) :: .ref (a 21) :: .ref (a 22) :: .ref (a 23) :: .ref (a 24) :: .ref (a 25) :: .ref (a 26) :: .ref (a 27) :: [])))] sz)) (va_A [(o, .inr (11, (.ref (a 0) :: .ref (a 1) :: .ref (a 2) :: .int 0 :: .ref (a 3) :: .ref (a 4) :: .ref (a 5) :: .ref (a 6) :: .ref (a 7) :: .ref (a 8) :: .ref (a 9) :: .ref (a 10) :: .ref (a 11) :: .ref (a 12) :: .ref (a 13) :: .ref (a 14) :: .int 0 :: .int 0 :: .int 0 :: .int 0 :: .int 0 :: .int 0 :: .int 0 :: .ref (a 15) :: .int 0 :: .ref (a 16) :: .int 0 :: .ref (a 17) :: .ref (a 18) :: .int 0 :: .long 0 :: .long 0 :: .int 0 :: .long 0 :: .int 0 :: .int 0 :: .int 0 :: .long 0 :: .long 0 :: .int 0 :: .ref (a 19) :: .ref (a 20) :: .ref (a 21) :: .ref (a 22) :: .ref (a 23) :: .ref (a 24) :: .ref (a 25) :: .ref (a 26) :: .ref (a 27) :: [])))] sz)) 0 0 (va_A [(o, .inr (11, (.ref (a 0) :: .ref (a 1) :: .ref (a 2) :: .int 0 :: .ref (a 3) :: .ref (a 4) :: .ref (a 5) :: .ref (a 6) :: .ref (a 7) :: .ref (a 8) :: .ref (a 9) :: .ref (a 10) :: .ref (a 11) :: .ref (a 12) :: .ref (a 13) :: .ref (a 14) :: .int 0 :: .int 0 :: .int 0 :: .int 0 :: .int 0 :: .int 0 :: .int 0 :: .ref (a 15) :: .int 0 :: .ref (a 16) :: .int 0 :: .ref (a 17) :: .ref (a 18) :: .int 0 :: .long 0 :: .long 0 :: .int 0 :: .long 0 :: .int 0 :: .int 0 :: .int 0 :: .long 0 :: .long 0 :: .int 0 :: .ref (a 19) :: .ref (a 20) :: .ref (a 21) :: .ref (a 22) :: .ref (a 23) :: .ref (a 24) :: .ref (a 25) :: .ref (a 26) :: .ref (a 27) :: [])))] sz) := by
  refine Met.ofW (cc := cX11_clauseHere) (maxL := 5) (ret := (some .boolean)) (by decide) rfl ?_
  intro p e s m args below meth c s₁ B hml hv
  obtain ⟨rfl, hsz, hP, hKN, hD0⟩ := hv
  have hx := B.exec
  have hb := B.bytes
  have hr := B.returns
  have hts := atoms_spec (ws := .code yX11_clauseHere cX11_clauseHere 5 (some .boolean) :: GW) B.pre
  have hg : ∀ w ∈ GW, w.before _ s = true := fun w h => hts w (List.mem_cons_of_mem _ h)
  have hown : s.vm.findClass RX11 = some m.cls := findClass_of_methodNamed B.named
  have hlocks := B.notSynchronized
  subst hsz
  have hD := hD0.self (sz := s.heap.size)
  generalize hAe : va_A [(o, .inr (11, (.ref (a 0) :: .ref (a 1) :: .ref (a 2) :: .int 0 :: .ref (a 3) :: .ref (a 4) :: .ref (a 5) :: .ref (a 6) :: .ref (a 7) :: .ref (a 8) :: .ref (a 9) :: .ref (a 10) :: .ref (a 11) :: .ref (a 12) :: .ref (a 13) :: .ref (a 14) :: .int 0 :: .int 0 :: .int 0 :: .int 0 :: .int 0 :: .int 0 :: .int 0 :: .ref (a 15) :: .int 0 :: .ref (a 16) :: .int 0 :: .ref (a 17) :: .ref (a 18) :: .int 0 :: .long 0 :: .long 0 :: .int 0 :: .long 0 :: .int 0 :: .int 0 :: .int 0 :: .long 0 :: .long 0 :: .int 0 :: .ref (a 19) :: .ref (a 20) :: .ref (a 21) :: .ref (a 22) :: .ref (a 23) :: .ref (a 24) :: .ref (a 25) :: .ref (a 26) :: .ref (a 27) :: [])))] s.heap.size = A at hD ⊢
  have hA : ∀ q : Nat, s.heap.size ≤ q → A q := fun q h => by rw [← hAe]; exact Or.inr h
  have hl := lv_entry ([.ref o]) (n := 5) (Nat.le_of_ble_eq_true rfl)
  rw [lg_entry_eq]
  generalize (lg_sl ([.ref o]) ++ List.replicate (5 - (lg_sl ([.ref o])).length) Slot.unset).toArray = ls at hl ⊢
  have hl : lv_has ls 5 [(0, .ref o)] := hl
  refine w_start (A0 := A) hP (fun H locs hP hS => ?_)
  refine lv_aload_n hx hb dX11_clauseHere_0 rfl (lv_at hl 0 rfl) ?_
  refine cg (wc := [(o, .inr (11, (.ref (a 0) :: .ref (a 1) :: .ref (a 2) :: .int 0 :: .ref (a 3) :: .ref (a 4) :: .ref (a 5) :: .ref (a 6) :: .ref (a 7) :: .ref (a 8) :: .ref (a 9) :: .ref (a 10) :: .ref (a 11) :: .ref (a 12) :: .ref (a 13) :: .ref (a 14) :: .int 0 :: .int 0 :: .int 0 :: .int 0 :: .int 0 :: .int 0 :: .int 0 :: .ref (a 15) :: .int 0 :: .ref (a 16) :: .int 0 :: .ref (a 17) :: .ref (a 18) :: .int 0 :: .long 0 :: .long 0 :: .int 0 :: .long 0 :: .int 0 :: .int 0 :: .int 0 :: .long 0 :: .long 0 :: .int 0 :: .ref (a 19) :: .ref (a 20) :: .ref (a 21) :: .ref (a 22) :: .ref (a 23) :: .ref (a 24) :: .ref (a 25) :: .ref (a 26) :: .ref (a 27) :: [])))]) (wr := []) [0] [] (rn_V (As := []) (rest := []) (b := o) (m_see l D Y Z H.size o a 0) ⟨hx, hb, hml, hown, hg⟩ lk_X11_183 ⟨CP.blind, va_recv hKN.1 hP (ci := 11) (q0 := 0) rfl rfl, CP.at (hP.sub [0] rfl) hKN (hD.sub [0] (by decide) rfl)⟩ ⟨⟨rfl, rfl⟩, ⟨Nat.le_of_ble_eq_true rfl, Nat.le_of_ble_eq_true rfl⟩, ⟨Nat.le_of_ble_eq_true rfl, Nat.le_of_ble_eq_true rfl⟩⟩ hl.1 rfl (Nat.le_of_ble_eq_true rfl) dX11_clauseHere_1) hP hD hS hA rfl rfl (by decide) (by decide) (fun u1 H locs w2 hP hD hS => ?_)
  refine W.eq (g2 := F0 m 4 ls [.int (-1)]) rfl ?_
  have hP : va_P D vwCl [(o, .inr (11, (.ref (a 0) :: .ref (a 1) :: .ref (a 2) :: .int 0 :: .ref (a 3) :: .ref (a 4) :: .ref (a 5) :: .ref (a 6) :: .ref (a 7) :: .ref (a 8) :: .ref (a 9) :: .ref (a 10) :: .ref (a 11) :: .ref (a 12) :: .ref (a 13) :: .ref (a 14) :: .int 0 :: .int 0 :: .int 0 :: .int 0 :: .int 0 :: .int 0 :: .int 0 :: .ref (a 15) :: .int 0 :: .ref (a 16) :: .int 0 :: .ref (a 17) :: .ref (a 18) :: .int 0 :: .long 0 :: .long 0 :: .int 0 :: .long 0 :: .int 0 :: .int 0 :: .int 0 :: .long 0 :: .long 0 :: .int 0 :: .ref (a 19) :: .ref (a 20) :: .ref (a 21) :: .ref (a 22) :: .ref (a 23) :: .ref (a 24) :: .ref (a 25) :: .ref (a 26) :: .ref (a 27) :: [])))] H := hP
  have hD : va_D A [(o, .inr (11, (.ref (a 0) :: .ref (a 1) :: .ref (a 2) :: .int 0 :: .ref (a 3) :: .ref (a 4) :: .ref (a 5) :: .ref (a 6) :: .ref (a 7) :: .ref (a 8) :: .ref (a 9) :: .ref (a 10) :: .ref (a 11) :: .ref (a 12) :: .ref (a 13) :: .ref (a 14) :: .int 0 :: .int 0 :: .int 0 :: .int 0 :: .int 0 :: .int 0 :: .int 0 :: .ref (a 15) :: .int 0 :: .ref (a 16) :: .int 0 :: .ref (a 17) :: .ref (a 18) :: .int 0 :: .long 0 :: .long 0 :: .int 0 :: .long 0 :: .int 0 :: .int 0 :: .int 0 :: .long 0 :: .long 0 :: .int 0 :: .ref (a 19) :: .ref (a 20) :: .ref (a 21) :: .ref (a 22) :: .ref (a 23) :: .ref (a 24) :: .ref (a 25) :: .ref (a 26) :: .ref (a 27) :: [])))] := hD
  refine lv_pop hx hb dX11_clauseHere_4 rfl ?_
  refine lv_aload_n hx hb dX11_clauseHere_5 rfl (lv_at hl 0 rfl) ?_
  refine va_get (D := D) (ci := 11) (v := .int 0) (C := RX11) (T := TX11) (N := 49) hx hb hg inGX11 hown hKN.1 hP 0 rfl rfl 16 (by decide) (hg _ kw_1224) (fun _ h9 => h9) rfl dX11_clauseHere_6 ?_
  refine lv_istore_n (lv' := [(1, .int 0), (0, .ref o)]) hx hb dX11_clauseHere_9 rfl hl (by decide) rfl (fun ls hl => ?_)
  refine lv_aload_n hx hb dX11_clauseHere_10 rfl (lv_at hl 1 rfl) ?_
  refine va_get (D := D) (ci := 11) (v := .int 0) (C := RX11) (T := TX11) (N := 49) hx hb hg inGX11 hown hKN.1 hP 0 rfl rfl 19 (by decide) (hg _ kw_1227) (fun _ h9 => h9) rfl dX11_clauseHere_11 ?_
  refine lv_bipush (v := 6) hx hb dX11_clauseHere_14 (by decide) ?_
  refine lv_idiv hx hb dX11_clauseHere_16 (by decide) ?_
  refine lv_topi (fun z3 ez3 => ?_)
  obtain rfl : z3 = 0 := ez3.trans (by decide)
  refine lv_istore_n (lv' := [(2, .int 0), (1, .int 0), (0, .ref o)]) hx hb dX11_clauseHere_17 rfl hl (by decide) rfl (fun ls hl => ?_)
  refine lv_aload_n hx hb dX11_clauseHere_18 rfl (lv_at hl 2 rfl) ?_
  refine lv_ldc2 (v := 512970878052) hx hb hown (hg _ kw_1470) dX11_clauseHere_19 ?_
  refine cg (wc := [(o, .inr (11, (.ref (a 0) :: .ref (a 1) :: .ref (a 2) :: .int 0 :: .ref (a 3) :: .ref (a 4) :: .ref (a 5) :: .ref (a 6) :: .ref (a 7) :: .ref (a 8) :: .ref (a 9) :: .ref (a 10) :: .ref (a 11) :: .ref (a 12) :: .ref (a 13) :: .ref (a 14) :: .int 0 :: .int 0 :: .int 0 :: .int 0 :: .int 0 :: .int 0 :: .int 0 :: .ref (a 15) :: .int 0 :: .ref (a 16) :: .int 0 :: .ref (a 17) :: .ref (a 18) :: .int 0 :: .long 0 :: .long 0 :: .int 0 :: .long 0 :: .int 0 :: .int 0 :: .int 0 :: .long 0 :: .long 0 :: .int 0 :: .ref (a 19) :: .ref (a 20) :: .ref (a 21) :: .ref (a 22) :: .ref (a 23) :: .ref (a 24) :: .ref (a 25) :: .ref (a 26) :: .ref (a 27) :: [])))]) (wr := []) [0] [] (rn_V (As := [.long 512970878052]) (rest := []) (b := o) (m_isWord l D Y Z H.size o a 0 512970878052) ⟨hx, hb, hml, hown, hg⟩ lk_X11_190 ⟨CP.blind, va_recv hKN.1 hP (ci := 11) (q0 := 0) rfl rfl, CP.at (hP.sub [0] rfl) hKN (hD.sub [0] (by decide) rfl)⟩ ⟨⟨rfl, rfl⟩, ⟨Nat.le_of_ble_eq_true rfl, Nat.le_of_ble_eq_true rfl⟩, ⟨Nat.le_of_ble_eq_true rfl, Nat.le_of_ble_eq_true rfl⟩⟩ hl.1 rfl (Nat.le_of_ble_eq_true rfl) dX11_clauseHere_22) hP hD hS hA rfl rfl (by decide) (by decide) (fun u4 H locs w5 hP hD hS => ?_)
  refine W.eq (g2 := F0 m 25 ls [.int 0]) rfl ?_
  have hP : va_P D vwCl [(o, .inr (11, (.ref (a 0) :: .ref (a 1) :: .ref (a 2) :: .int 0 :: .ref (a 3) :: .ref (a 4) :: .ref (a 5) :: .ref (a 6) :: .ref (a 7) :: .ref (a 8) :: .ref (a 9) :: .ref (a 10) :: .ref (a 11) :: .ref (a 12) :: .ref (a 13) :: .ref (a 14) :: .int 0 :: .int 0 :: .int 0 :: .int 0 :: .int 0 :: .int 0 :: .int 0 :: .ref (a 15) :: .int 0 :: .ref (a 16) :: .int 0 :: .ref (a 17) :: .ref (a 18) :: .int 0 :: .long 0 :: .long 0 :: .int 0 :: .long 0 :: .int 0 :: .int 0 :: .int 0 :: .long 0 :: .long 0 :: .int 0 :: .ref (a 19) :: .ref (a 20) :: .ref (a 21) :: .ref (a 22) :: .ref (a 23) :: .ref (a 24) :: .ref (a 25) :: .ref (a 26) :: .ref (a 27) :: [])))] H := hP
  have hD : va_D A [(o, .inr (11, (.ref (a 0) :: .ref (a 1) :: .ref (a 2) :: .int 0 :: .ref (a 3) :: .ref (a 4) :: .ref (a 5) :: .ref (a 6) :: .ref (a 7) :: .ref (a 8) :: .ref (a 9) :: .ref (a 10) :: .ref (a 11) :: .ref (a 12) :: .ref (a 13) :: .ref (a 14) :: .int 0 :: .int 0 :: .int 0 :: .int 0 :: .int 0 :: .int 0 :: .int 0 :: .ref (a 15) :: .int 0 :: .ref (a 16) :: .int 0 :: .ref (a 17) :: .ref (a 18) :: .int 0 :: .long 0 :: .long 0 :: .int 0 :: .long 0 :: .int 0 :: .int 0 :: .int 0 :: .long 0 :: .long 0 :: .int 0 :: .ref (a 19) :: .ref (a 20) :: .ref (a 21) :: .ref (a 22) :: .ref (a 23) :: .ref (a 24) :: .ref (a 25) :: .ref (a 26) :: .ref (a 27) :: [])))] := hD
  refine lv_if_eq (tgt := 32) hx hb dX11_clauseHere_25 (by decide) (fun c6 => ?_) (fun c6 => ?_)
  rotate_left
  · exact absurd c6 (by decide)
  refine lv_aload_n hx hb dX11_clauseHere_32 rfl (lv_at hl 2 rfl) ?_
  refine lv_ldc2 (v := 1885432178) hx hb hown (hg _ kw_1479) dX11_clauseHere_33 ?_
  refine cg (wc := [(o, .inr (11, (.ref (a 0) :: .ref (a 1) :: .ref (a 2) :: .int 0 :: .ref (a 3) :: .ref (a 4) :: .ref (a 5) :: .ref (a 6) :: .ref (a 7) :: .ref (a 8) :: .ref (a 9) :: .ref (a 10) :: .ref (a 11) :: .ref (a 12) :: .ref (a 13) :: .ref (a 14) :: .int 0 :: .int 0 :: .int 0 :: .int 0 :: .int 0 :: .int 0 :: .int 0 :: .ref (a 15) :: .int 0 :: .ref (a 16) :: .int 0 :: .ref (a 17) :: .ref (a 18) :: .int 0 :: .long 0 :: .long 0 :: .int 0 :: .long 0 :: .int 0 :: .int 0 :: .int 0 :: .long 0 :: .long 0 :: .int 0 :: .ref (a 19) :: .ref (a 20) :: .ref (a 21) :: .ref (a 22) :: .ref (a 23) :: .ref (a 24) :: .ref (a 25) :: .ref (a 26) :: .ref (a 27) :: [])))]) (wr := []) [0] [] (rn_V (As := [.long 1885432178]) (rest := []) (b := o) (m_isWord l D Y Z H.size o a 0 1885432178) ⟨hx, hb, hml, hown, hg⟩ lk_X11_190 ⟨CP.blind, va_recv hKN.1 hP (ci := 11) (q0 := 0) rfl rfl, CP.at (hP.sub [0] rfl) hKN (hD.sub [0] (by decide) rfl)⟩ ⟨⟨rfl, rfl⟩, ⟨Nat.le_of_ble_eq_true rfl, Nat.le_of_ble_eq_true rfl⟩, ⟨Nat.le_of_ble_eq_true rfl, Nat.le_of_ble_eq_true rfl⟩⟩ hl.1 rfl (Nat.le_of_ble_eq_true rfl) dX11_clauseHere_36) hP hD hS hA rfl rfl (by decide) (by decide) (fun u7 H locs w8 hP hD hS => ?_)
  refine W.eq (g2 := F0 m 39 ls [.int 0]) rfl ?_
  have hP : va_P D vwCl [(o, .inr (11, (.ref (a 0) :: .ref (a 1) :: .ref (a 2) :: .int 0 :: .ref (a 3) :: .ref (a 4) :: .ref (a 5) :: .ref (a 6) :: .ref (a 7) :: .ref (a 8) :: .ref (a 9) :: .ref (a 10) :: .ref (a 11) :: .ref (a 12) :: .ref (a 13) :: .ref (a 14) :: .int 0 :: .int 0 :: .int 0 :: .int 0 :: .int 0 :: .int 0 :: .int 0 :: .ref (a 15) :: .int 0 :: .ref (a 16) :: .int 0 :: .ref (a 17) :: .ref (a 18) :: .int 0 :: .long 0 :: .long 0 :: .int 0 :: .long 0 :: .int 0 :: .int 0 :: .int 0 :: .long 0 :: .long 0 :: .int 0 :: .ref (a 19) :: .ref (a 20) :: .ref (a 21) :: .ref (a 22) :: .ref (a 23) :: .ref (a 24) :: .ref (a 25) :: .ref (a 26) :: .ref (a 27) :: [])))] H := hP
  have hD : va_D A [(o, .inr (11, (.ref (a 0) :: .ref (a 1) :: .ref (a 2) :: .int 0 :: .ref (a 3) :: .ref (a 4) :: .ref (a 5) :: .ref (a 6) :: .ref (a 7) :: .ref (a 8) :: .ref (a 9) :: .ref (a 10) :: .ref (a 11) :: .ref (a 12) :: .ref (a 13) :: .ref (a 14) :: .int 0 :: .int 0 :: .int 0 :: .int 0 :: .int 0 :: .int 0 :: .int 0 :: .ref (a 15) :: .int 0 :: .ref (a 16) :: .int 0 :: .ref (a 17) :: .ref (a 18) :: .int 0 :: .long 0 :: .long 0 :: .int 0 :: .long 0 :: .int 0 :: .int 0 :: .int 0 :: .long 0 :: .long 0 :: .int 0 :: .ref (a 19) :: .ref (a 20) :: .ref (a 21) :: .ref (a 22) :: .ref (a 23) :: .ref (a 24) :: .ref (a 25) :: .ref (a 26) :: .ref (a 27) :: [])))] := hD
  refine lv_if_eq (tgt := 46) hx hb dX11_clauseHere_39 (by decide) (fun c9 => ?_) (fun c9 => ?_)
  rotate_left
  · exact absurd c9 (by decide)
  refine lv_aload_n hx hb dX11_clauseHere_46 rfl (lv_at hl 2 rfl) ?_
  refine lv_ldc2 (v := 1936748404) hx hb hown (hg _ kw_1480) dX11_clauseHere_47 ?_
  refine cg (wc := [(o, .inr (11, (.ref (a 0) :: .ref (a 1) :: .ref (a 2) :: .int 0 :: .ref (a 3) :: .ref (a 4) :: .ref (a 5) :: .ref (a 6) :: .ref (a 7) :: .ref (a 8) :: .ref (a 9) :: .ref (a 10) :: .ref (a 11) :: .ref (a 12) :: .ref (a 13) :: .ref (a 14) :: .int 0 :: .int 0 :: .int 0 :: .int 0 :: .int 0 :: .int 0 :: .int 0 :: .ref (a 15) :: .int 0 :: .ref (a 16) :: .int 0 :: .ref (a 17) :: .ref (a 18) :: .int 0 :: .long 0 :: .long 0 :: .int 0 :: .long 0 :: .int 0 :: .int 0 :: .int 0 :: .long 0 :: .long 0 :: .int 0 :: .ref (a 19) :: .ref (a 20) :: .ref (a 21) :: .ref (a 22) :: .ref (a 23) :: .ref (a 24) :: .ref (a 25) :: .ref (a 26) :: .ref (a 27) :: [])))]) (wr := []) [0] [] (rn_V (As := [.long 1936748404]) (rest := []) (b := o) (m_isWord l D Y Z H.size o a 0 1936748404) ⟨hx, hb, hml, hown, hg⟩ lk_X11_190 ⟨CP.blind, va_recv hKN.1 hP (ci := 11) (q0 := 0) rfl rfl, CP.at (hP.sub [0] rfl) hKN (hD.sub [0] (by decide) rfl)⟩ ⟨⟨rfl, rfl⟩, ⟨Nat.le_of_ble_eq_true rfl, Nat.le_of_ble_eq_true rfl⟩, ⟨Nat.le_of_ble_eq_true rfl, Nat.le_of_ble_eq_true rfl⟩⟩ hl.1 rfl (Nat.le_of_ble_eq_true rfl) dX11_clauseHere_50) hP hD hS hA rfl rfl (by decide) (by decide) (fun u10 H locs w11 hP hD hS => ?_)
  refine W.eq (g2 := F0 m 53 ls [.int 0]) rfl ?_
  have hP : va_P D vwCl [(o, .inr (11, (.ref (a 0) :: .ref (a 1) :: .ref (a 2) :: .int 0 :: .ref (a 3) :: .ref (a 4) :: .ref (a 5) :: .ref (a 6) :: .ref (a 7) :: .ref (a 8) :: .ref (a 9) :: .ref (a 10) :: .ref (a 11) :: .ref (a 12) :: .ref (a 13) :: .ref (a 14) :: .int 0 :: .int 0 :: .int 0 :: .int 0 :: .int 0 :: .int 0 :: .int 0 :: .ref (a 15) :: .int 0 :: .ref (a 16) :: .int 0 :: .ref (a 17) :: .ref (a 18) :: .int 0 :: .long 0 :: .long 0 :: .int 0 :: .long 0 :: .int 0 :: .int 0 :: .int 0 :: .long 0 :: .long 0 :: .int 0 :: .ref (a 19) :: .ref (a 20) :: .ref (a 21) :: .ref (a 22) :: .ref (a 23) :: .ref (a 24) :: .ref (a 25) :: .ref (a 26) :: .ref (a 27) :: [])))] H := hP
  have hD : va_D A [(o, .inr (11, (.ref (a 0) :: .ref (a 1) :: .ref (a 2) :: .int 0 :: .ref (a 3) :: .ref (a 4) :: .ref (a 5) :: .ref (a 6) :: .ref (a 7) :: .ref (a 8) :: .ref (a 9) :: .ref (a 10) :: .ref (a 11) :: .ref (a 12) :: .ref (a 13) :: .ref (a 14) :: .int 0 :: .int 0 :: .int 0 :: .int 0 :: .int 0 :: .int 0 :: .int 0 :: .ref (a 15) :: .int 0 :: .ref (a 16) :: .int 0 :: .ref (a 17) :: .ref (a 18) :: .int 0 :: .long 0 :: .long 0 :: .int 0 :: .long 0 :: .int 0 :: .int 0 :: .int 0 :: .long 0 :: .long 0 :: .int 0 :: .ref (a 19) :: .ref (a 20) :: .ref (a 21) :: .ref (a 22) :: .ref (a 23) :: .ref (a 24) :: .ref (a 25) :: .ref (a 26) :: .ref (a 27) :: [])))] := hD
  refine lv_if_eq (tgt := 60) hx hb dX11_clauseHere_53 (by decide) (fun c12 => ?_) (fun c12 => ?_)
  rotate_left
  · exact absurd c12 (by decide)
  refine lv_aload_n hx hb dX11_clauseHere_60 rfl (lv_at hl 2 rfl) ?_
  refine lv_ldc2 (v := 444199957363) hx hb hown (hg _ kw_1481) dX11_clauseHere_61 ?_
  refine cg (wc := [(o, .inr (11, (.ref (a 0) :: .ref (a 1) :: .ref (a 2) :: .int 0 :: .ref (a 3) :: .ref (a 4) :: .ref (a 5) :: .ref (a 6) :: .ref (a 7) :: .ref (a 8) :: .ref (a 9) :: .ref (a 10) :: .ref (a 11) :: .ref (a 12) :: .ref (a 13) :: .ref (a 14) :: .int 0 :: .int 0 :: .int 0 :: .int 0 :: .int 0 :: .int 0 :: .int 0 :: .ref (a 15) :: .int 0 :: .ref (a 16) :: .int 0 :: .ref (a 17) :: .ref (a 18) :: .int 0 :: .long 0 :: .long 0 :: .int 0 :: .long 0 :: .int 0 :: .int 0 :: .int 0 :: .long 0 :: .long 0 :: .int 0 :: .ref (a 19) :: .ref (a 20) :: .ref (a 21) :: .ref (a 22) :: .ref (a 23) :: .ref (a 24) :: .ref (a 25) :: .ref (a 26) :: .ref (a 27) :: [])))]) (wr := []) [0] [] (rn_V (As := [.long 444199957363]) (rest := []) (b := o) (m_isWord l D Y Z H.size o a 0 444199957363) ⟨hx, hb, hml, hown, hg⟩ lk_X11_190 ⟨CP.blind, va_recv hKN.1 hP (ci := 11) (q0 := 0) rfl rfl, CP.at (hP.sub [0] rfl) hKN (hD.sub [0] (by decide) rfl)⟩ ⟨⟨rfl, rfl⟩, ⟨Nat.le_of_ble_eq_true rfl, Nat.le_of_ble_eq_true rfl⟩, ⟨Nat.le_of_ble_eq_true rfl, Nat.le_of_ble_eq_true rfl⟩⟩ hl.1 rfl (Nat.le_of_ble_eq_true rfl) dX11_clauseHere_64) hP hD hS hA rfl rfl (by decide) (by decide) (fun u13 H locs w14 hP hD hS => ?_)
  refine W.eq (g2 := F0 m 67 ls [.int 0]) rfl ?_
  have hP : va_P D vwCl [(o, .inr (11, (.ref (a 0) :: .ref (a 1) :: .ref (a 2) :: .int 0 :: .ref (a 3) :: .ref (a 4) :: .ref (a 5) :: .ref (a 6) :: .ref (a 7) :: .ref (a 8) :: .ref (a 9) :: .ref (a 10) :: .ref (a 11) :: .ref (a 12) :: .ref (a 13) :: .ref (a 14) :: .int 0 :: .int 0 :: .int 0 :: .int 0 :: .int 0 :: .int 0 :: .int 0 :: .ref (a 15) :: .int 0 :: .ref (a 16) :: .int 0 :: .ref (a 17) :: .ref (a 18) :: .int 0 :: .long 0 :: .long 0 :: .int 0 :: .long 0 :: .int 0 :: .int 0 :: .int 0 :: .long 0 :: .long 0 :: .int 0 :: .ref (a 19) :: .ref (a 20) :: .ref (a 21) :: .ref (a 22) :: .ref (a 23) :: .ref (a 24) :: .ref (a 25) :: .ref (a 26) :: .ref (a 27) :: [])))] H := hP
  have hD : va_D A [(o, .inr (11, (.ref (a 0) :: .ref (a 1) :: .ref (a 2) :: .int 0 :: .ref (a 3) :: .ref (a 4) :: .ref (a 5) :: .ref (a 6) :: .ref (a 7) :: .ref (a 8) :: .ref (a 9) :: .ref (a 10) :: .ref (a 11) :: .ref (a 12) :: .ref (a 13) :: .ref (a 14) :: .int 0 :: .int 0 :: .int 0 :: .int 0 :: .int 0 :: .int 0 :: .int 0 :: .ref (a 15) :: .int 0 :: .ref (a 16) :: .int 0 :: .ref (a 17) :: .ref (a 18) :: .int 0 :: .long 0 :: .long 0 :: .int 0 :: .long 0 :: .int 0 :: .int 0 :: .int 0 :: .long 0 :: .long 0 :: .int 0 :: .ref (a 19) :: .ref (a 20) :: .ref (a 21) :: .ref (a 22) :: .ref (a 23) :: .ref (a 24) :: .ref (a 25) :: .ref (a 26) :: .ref (a 27) :: [])))] := hD
  refine lv_if_eq (tgt := 74) hx hb dX11_clauseHere_67 (by decide) (fun c15 => ?_) (fun c15 => ?_)
  rotate_left
  · exact absurd c15 (by decide)
  refine lv_aload_n hx hb dX11_clauseHere_74 rfl (lv_at hl 2 rfl) ?_
  refine lv_ldc2 (v := 109299962372965) hx hb hown (hg _ kw_1482) dX11_clauseHere_75 ?_
  refine cg (wc := [(o, .inr (11, (.ref (a 0) :: .ref (a 1) :: .ref (a 2) :: .int 0 :: .ref (a 3) :: .ref (a 4) :: .ref (a 5) :: .ref (a 6) :: .ref (a 7) :: .ref (a 8) :: .ref (a 9) :: .ref (a 10) :: .ref (a 11) :: .ref (a 12) :: .ref (a 13) :: .ref (a 14) :: .int 0 :: .int 0 :: .int 0 :: .int 0 :: .int 0 :: .int 0 :: .int 0 :: .ref (a 15) :: .int 0 :: .ref (a 16) :: .int 0 :: .ref (a 17) :: .ref (a 18) :: .int 0 :: .long 0 :: .long 0 :: .int 0 :: .long 0 :: .int 0 :: .int 0 :: .int 0 :: .long 0 :: .long 0 :: .int 0 :: .ref (a 19) :: .ref (a 20) :: .ref (a 21) :: .ref (a 22) :: .ref (a 23) :: .ref (a 24) :: .ref (a 25) :: .ref (a 26) :: .ref (a 27) :: [])))]) (wr := []) [0] [] (rn_V (As := [.long 109299962372965]) (rest := []) (b := o) (m_isWord l D Y Z H.size o a 0 109299962372965) ⟨hx, hb, hml, hown, hg⟩ lk_X11_190 ⟨CP.blind, va_recv hKN.1 hP (ci := 11) (q0 := 0) rfl rfl, CP.at (hP.sub [0] rfl) hKN (hD.sub [0] (by decide) rfl)⟩ ⟨⟨rfl, rfl⟩, ⟨Nat.le_of_ble_eq_true rfl, Nat.le_of_ble_eq_true rfl⟩, ⟨Nat.le_of_ble_eq_true rfl, Nat.le_of_ble_eq_true rfl⟩⟩ hl.1 rfl (Nat.le_of_ble_eq_true rfl) dX11_clauseHere_78) hP hD hS hA rfl rfl (by decide) (by decide) (fun u16 H locs w17 hP hD hS => ?_)
  refine W.eq (g2 := F0 m 81 ls [.int 0]) rfl ?_
  have hP : va_P D vwCl [(o, .inr (11, (.ref (a 0) :: .ref (a 1) :: .ref (a 2) :: .int 0 :: .ref (a 3) :: .ref (a 4) :: .ref (a 5) :: .ref (a 6) :: .ref (a 7) :: .ref (a 8) :: .ref (a 9) :: .ref (a 10) :: .ref (a 11) :: .ref (a 12) :: .ref (a 13) :: .ref (a 14) :: .int 0 :: .int 0 :: .int 0 :: .int 0 :: .int 0 :: .int 0 :: .int 0 :: .ref (a 15) :: .int 0 :: .ref (a 16) :: .int 0 :: .ref (a 17) :: .ref (a 18) :: .int 0 :: .long 0 :: .long 0 :: .int 0 :: .long 0 :: .int 0 :: .int 0 :: .int 0 :: .long 0 :: .long 0 :: .int 0 :: .ref (a 19) :: .ref (a 20) :: .ref (a 21) :: .ref (a 22) :: .ref (a 23) :: .ref (a 24) :: .ref (a 25) :: .ref (a 26) :: .ref (a 27) :: [])))] H := hP
  have hD : va_D A [(o, .inr (11, (.ref (a 0) :: .ref (a 1) :: .ref (a 2) :: .int 0 :: .ref (a 3) :: .ref (a 4) :: .ref (a 5) :: .ref (a 6) :: .ref (a 7) :: .ref (a 8) :: .ref (a 9) :: .ref (a 10) :: .ref (a 11) :: .ref (a 12) :: .ref (a 13) :: .ref (a 14) :: .int 0 :: .int 0 :: .int 0 :: .int 0 :: .int 0 :: .int 0 :: .int 0 :: .ref (a 15) :: .int 0 :: .ref (a 16) :: .int 0 :: .ref (a 17) :: .ref (a 18) :: .int 0 :: .long 0 :: .long 0 :: .int 0 :: .long 0 :: .int 0 :: .int 0 :: .int 0 :: .long 0 :: .long 0 :: .int 0 :: .ref (a 19) :: .ref (a 20) :: .ref (a 21) :: .ref (a 22) :: .ref (a 23) :: .ref (a 24) :: .ref (a 25) :: .ref (a 26) :: .ref (a 27) :: [])))] := hD
  refine lv_if_eq (tgt := 88) hx hb dX11_clauseHere_81 (by decide) (fun c18 => ?_) (fun c18 => ?_)
  rotate_left
  · exact absurd c18 (by decide)
  refine lv_iconst (v := (-1)) hx hb dX11_clauseHere_88 (by decide) ?_
  refine lv_istore_n (lv' := [(3, .int (-1)), (2, .int 0), (1, .int 0), (0, .ref o)]) hx hb dX11_clauseHere_89 rfl hl (by decide) rfl (fun ls hl => ?_)
  refine lv_iload_n hx hb dX11_clauseHere_90 rfl (lv_at hl 1 rfl) ?_
  refine lv_if_ne (tgt := 122) hx hb dX11_clauseHere_91 (by decide) (fun c19 => ?_) (fun c19 => ?_)
  · exact absurd c19 (by decide)
  refine lv_aload_n hx hb dX11_clauseHere_94 rfl (lv_at hl 3 rfl) ?_
  refine lv_ldc2 (v := 108243534178420) hx hb hown (hg _ kw_1483) dX11_clauseHere_95 ?_
  refine cg (wc := [(o, .inr (11, (.ref (a 0) :: .ref (a 1) :: .ref (a 2) :: .int 0 :: .ref (a 3) :: .ref (a 4) :: .ref (a 5) :: .ref (a 6) :: .ref (a 7) :: .ref (a 8) :: .ref (a 9) :: .ref (a 10) :: .ref (a 11) :: .ref (a 12) :: .ref (a 13) :: .ref (a 14) :: .int 0 :: .int 0 :: .int 0 :: .int 0 :: .int 0 :: .int 0 :: .int 0 :: .ref (a 15) :: .int 0 :: .ref (a 16) :: .int 0 :: .ref (a 17) :: .ref (a 18) :: .int 0 :: .long 0 :: .long 0 :: .int 0 :: .long 0 :: .int 0 :: .int 0 :: .int 0 :: .long 0 :: .long 0 :: .int 0 :: .ref (a 19) :: .ref (a 20) :: .ref (a 21) :: .ref (a 22) :: .ref (a 23) :: .ref (a 24) :: .ref (a 25) :: .ref (a 26) :: .ref (a 27) :: [])))]) (wr := []) [0] [] (rn_V (As := [.long 108243534178420]) (rest := []) (b := o) (m_isWord l D Y Z H.size o a 0 108243534178420) ⟨hx, hb, hml, hown, hg⟩ lk_X11_190 ⟨CP.blind, va_recv hKN.1 hP (ci := 11) (q0 := 0) rfl rfl, CP.at (hP.sub [0] rfl) hKN (hD.sub [0] (by decide) rfl)⟩ ⟨⟨rfl, rfl⟩, ⟨Nat.le_of_ble_eq_true rfl, Nat.le_of_ble_eq_true rfl⟩, ⟨Nat.le_of_ble_eq_true rfl, Nat.le_of_ble_eq_true rfl⟩⟩ hl.1 rfl (Nat.le_of_ble_eq_true rfl) dX11_clauseHere_98) hP hD hS hA rfl rfl (by decide) (by decide) (fun u20 H locs w21 hP hD hS => ?_)
  refine W.eq (g2 := F0 m 101 ls [.int 0]) rfl ?_
  have hP : va_P D vwCl [(o, .inr (11, (.ref (a 0) :: .ref (a 1) :: .ref (a 2) :: .int 0 :: .ref (a 3) :: .ref (a 4) :: .ref (a 5) :: .ref (a 6) :: .ref (a 7) :: .ref (a 8) :: .ref (a 9) :: .ref (a 10) :: .ref (a 11) :: .ref (a 12) :: .ref (a 13) :: .ref (a 14) :: .int 0 :: .int 0 :: .int 0 :: .int 0 :: .int 0 :: .int 0 :: .int 0 :: .ref (a 15) :: .int 0 :: .ref (a 16) :: .int 0 :: .ref (a 17) :: .ref (a 18) :: .int 0 :: .long 0 :: .long 0 :: .int 0 :: .long 0 :: .int 0 :: .int 0 :: .int 0 :: .long 0 :: .long 0 :: .int 0 :: .ref (a 19) :: .ref (a 20) :: .ref (a 21) :: .ref (a 22) :: .ref (a 23) :: .ref (a 24) :: .ref (a 25) :: .ref (a 26) :: .ref (a 27) :: [])))] H := hP
  have hD : va_D A [(o, .inr (11, (.ref (a 0) :: .ref (a 1) :: .ref (a 2) :: .int 0 :: .ref (a 3) :: .ref (a 4) :: .ref (a 5) :: .ref (a 6) :: .ref (a 7) :: .ref (a 8) :: .ref (a 9) :: .ref (a 10) :: .ref (a 11) :: .ref (a 12) :: .ref (a 13) :: .ref (a 14) :: .int 0 :: .int 0 :: .int 0 :: .int 0 :: .int 0 :: .int 0 :: .int 0 :: .ref (a 15) :: .int 0 :: .ref (a 16) :: .int 0 :: .ref (a 17) :: .ref (a 18) :: .int 0 :: .long 0 :: .long 0 :: .int 0 :: .long 0 :: .int 0 :: .int 0 :: .int 0 :: .long 0 :: .long 0 :: .int 0 :: .ref (a 19) :: .ref (a 20) :: .ref (a 21) :: .ref (a 22) :: .ref (a 23) :: .ref (a 24) :: .ref (a 25) :: .ref (a 26) :: .ref (a 27) :: [])))] := hD
  refine lv_if_ne (tgt := 114) hx hb dX11_clauseHere_101 (by decide) (fun c22 => ?_) (fun c22 => ?_)
  · exact absurd c22 (by decide)
  refine lv_aload_n hx hb dX11_clauseHere_104 rfl (lv_at hl 3 rfl) ?_
  refine lv_ldc2 (v := 474315584357) hx hb hown (hg _ kw_1484) dX11_clauseHere_105 ?_
  refine cg (wc := [(o, .inr (11, (.ref (a 0) :: .ref (a 1) :: .ref (a 2) :: .int 0 :: .ref (a 3) :: .ref (a 4) :: .ref (a 5) :: .ref (a 6) :: .ref (a 7) :: .ref (a 8) :: .ref (a 9) :: .ref (a 10) :: .ref (a 11) :: .ref (a 12) :: .ref (a 13) :: .ref (a 14) :: .int 0 :: .int 0 :: .int 0 :: .int 0 :: .int 0 :: .int 0 :: .int 0 :: .ref (a 15) :: .int 0 :: .ref (a 16) :: .int 0 :: .ref (a 17) :: .ref (a 18) :: .int 0 :: .long 0 :: .long 0 :: .int 0 :: .long 0 :: .int 0 :: .int 0 :: .int 0 :: .long 0 :: .long 0 :: .int 0 :: .ref (a 19) :: .ref (a 20) :: .ref (a 21) :: .ref (a 22) :: .ref (a 23) :: .ref (a 24) :: .ref (a 25) :: .ref (a 26) :: .ref (a 27) :: [])))]) (wr := []) [0] [] (rn_V (As := [.long 474315584357]) (rest := []) (b := o) (m_isWord l D Y Z H.size o a 0 474315584357) ⟨hx, hb, hml, hown, hg⟩ lk_X11_190 ⟨CP.blind, va_recv hKN.1 hP (ci := 11) (q0 := 0) rfl rfl, CP.at (hP.sub [0] rfl) hKN (hD.sub [0] (by decide) rfl)⟩ ⟨⟨rfl, rfl⟩, ⟨Nat.le_of_ble_eq_true rfl, Nat.le_of_ble_eq_true rfl⟩, ⟨Nat.le_of_ble_eq_true rfl, Nat.le_of_ble_eq_true rfl⟩⟩ hl.1 rfl (Nat.le_of_ble_eq_true rfl) dX11_clauseHere_108) hP hD hS hA rfl rfl (by decide) (by decide) (fun u23 H locs w24 hP hD hS => ?_)
  refine W.eq (g2 := F0 m 111 ls [.int 0]) rfl ?_
  have hP : va_P D vwCl [(o, .inr (11, (.ref (a 0) :: .ref (a 1) :: .ref (a 2) :: .int 0 :: .ref (a 3) :: .ref (a 4) :: .ref (a 5) :: .ref (a 6) :: .ref (a 7) :: .ref (a 8) :: .ref (a 9) :: .ref (a 10) :: .ref (a 11) :: .ref (a 12) :: .ref (a 13) :: .ref (a 14) :: .int 0 :: .int 0 :: .int 0 :: .int 0 :: .int 0 :: .int 0 :: .int 0 :: .ref (a 15) :: .int 0 :: .ref (a 16) :: .int 0 :: .ref (a 17) :: .ref (a 18) :: .int 0 :: .long 0 :: .long 0 :: .int 0 :: .long 0 :: .int 0 :: .int 0 :: .int 0 :: .long 0 :: .long 0 :: .int 0 :: .ref (a 19) :: .ref (a 20) :: .ref (a 21) :: .ref (a 22) :: .ref (a 23) :: .ref (a 24) :: .ref (a 25) :: .ref (a 26) :: .ref (a 27) :: [])))] H := hP
  have hD : va_D A [(o, .inr (11, (.ref (a 0) :: .ref (a 1) :: .ref (a 2) :: .int 0 :: .ref (a 3) :: .ref (a 4) :: .ref (a 5) :: .ref (a 6) :: .ref (a 7) :: .ref (a 8) :: .ref (a 9) :: .ref (a 10) :: .ref (a 11) :: .ref (a 12) :: .ref (a 13) :: .ref (a 14) :: .int 0 :: .int 0 :: .int 0 :: .int 0 :: .int 0 :: .int 0 :: .int 0 :: .ref (a 15) :: .int 0 :: .ref (a 16) :: .int 0 :: .ref (a 17) :: .ref (a 18) :: .int 0 :: .long 0 :: .long 0 :: .int 0 :: .long 0 :: .int 0 :: .int 0 :: .int 0 :: .long 0 :: .long 0 :: .int 0 :: .ref (a 19) :: .ref (a 20) :: .ref (a 21) :: .ref (a 22) :: .ref (a 23) :: .ref (a 24) :: .ref (a 25) :: .ref (a 26) :: .ref (a 27) :: [])))] := hD
  refine lv_if_eq (tgt := 118) hx hb dX11_clauseHere_111 (by decide) (fun c25 => ?_) (fun c25 => ?_)
  rotate_left
  · exact absurd c25 (by decide)
  refine lv_iconst (v := 0) hx hb dX11_clauseHere_118 (by decide) ?_
  refine lv_goto (tgt := 184) hx hb dX11_clauseHere_119 (by decide) ?_
  refine lv_istore (lv' := [(4, .int 0), (3, .int (-1)), (2, .int 0), (1, .int 0), (0, .ref o)]) hx hb dX11_clauseHere_184 hl (by decide) rfl (fun ls hl => ?_)
  refine lv_iload hx hb dX11_clauseHere_186 (lv_at hl 0 rfl) ?_
  refine lv_if_ne (tgt := 198) hx hb dX11_clauseHere_188 (by decide) (fun c26 => ?_) (fun c26 => ?_)
  · exact absurd c26 (by decide)
  refine lv_aload_n hx hb dX11_clauseHere_191 rfl (lv_at hl 4 rfl) ?_
  refine lv_iconst (v := 0) hx hb dX11_clauseHere_192 (by decide) ?_
  refine lv_iload_n hx hb dX11_clauseHere_193 rfl (lv_at hl 3 rfl) ?_
  refine cg (wc := [(o, .inr (11, (.ref (a 0) :: .ref (a 1) :: .ref (a 2) :: .int 0 :: .ref (a 3) :: .ref (a 4) :: .ref (a 5) :: .ref (a 6) :: .ref (a 7) :: .ref (a 8) :: .ref (a 9) :: .ref (a 10) :: .ref (a 11) :: .ref (a 12) :: .ref (a 13) :: .ref (a 14) :: .int 0 :: .int 0 :: .int 0 :: .int 0 :: .int 0 :: .int 0 :: .int 0 :: .ref (a 15) :: .int 0 :: .ref (a 16) :: .int 0 :: .ref (a 17) :: .ref (a 18) :: .int 0 :: .long 0 :: .long 0 :: .int 0 :: .long 0 :: .int 0 :: .int 0 :: .int 0 :: .long 0 :: .long 0 :: .int 0 :: .ref (a 19) :: .ref (a 20) :: .ref (a 21) :: .ref (a 22) :: .ref (a 23) :: .ref (a 24) :: .ref (a 25) :: .ref (a 26) :: .ref (a 27) :: [])))]) (wr := []) [0] [] (rn_V (As := [.int 0, .int 0]) (rest := []) (b := o) (m_fails l D Y Z H.size o a 0) ⟨hx, hb, hml, hown, hg⟩ lk_X11_200 ⟨CP.blind, va_recv hKN.1 hP (ci := 11) (q0 := 0) rfl rfl, CP.at (hP.sub [0] rfl) hKN (hD.sub [0] (by decide) rfl)⟩ ⟨⟨rfl, rfl⟩, ⟨Nat.le_of_ble_eq_true rfl, Nat.le_of_ble_eq_true rfl⟩, ⟨Nat.le_of_ble_eq_true rfl, Nat.le_of_ble_eq_true rfl⟩⟩ hl.1 rfl (Nat.le_of_ble_eq_true rfl) dX11_clauseHere_194) hP hD hS hA rfl rfl (by decide) (by decide) (fun u27 H locs w28 hP hD hS => ?_)
  refine W.eq (g2 := F0 m 197 ls [.int 0]) rfl ?_
  have hP : va_P D vwCl [(o, .inr (11, (.ref (a 0) :: .ref (a 1) :: .ref (a 2) :: .int 0 :: .ref (a 3) :: .ref (a 4) :: .ref (a 5) :: .ref (a 6) :: .ref (a 7) :: .ref (a 8) :: .ref (a 9) :: .ref (a 10) :: .ref (a 11) :: .ref (a 12) :: .ref (a 13) :: .ref (a 14) :: .int 0 :: .int 1 :: .int 0 :: .int 0 :: .int 0 :: .int 0 :: .int 0 :: .ref (a 15) :: .int 0 :: .ref (a 16) :: .int 0 :: .ref (a 17) :: .ref (a 18) :: .int 0 :: .long 0 :: .long 0 :: .int 0 :: .long 0 :: .int 0 :: .int 0 :: .int 0 :: .long 0 :: .long 0 :: .int 0 :: .ref (a 19) :: .ref (a 20) :: .ref (a 21) :: .ref (a 22) :: .ref (a 23) :: .ref (a 24) :: .ref (a 25) :: .ref (a 26) :: .ref (a 27) :: [])))] H := hP
  have hD : va_D A [(o, .inr (11, (.ref (a 0) :: .ref (a 1) :: .ref (a 2) :: .int 0 :: .ref (a 3) :: .ref (a 4) :: .ref (a 5) :: .ref (a 6) :: .ref (a 7) :: .ref (a 8) :: .ref (a 9) :: .ref (a 10) :: .ref (a 11) :: .ref (a 12) :: .ref (a 13) :: .ref (a 14) :: .int 0 :: .int 1 :: .int 0 :: .int 0 :: .int 0 :: .int 0 :: .int 0 :: .ref (a 15) :: .int 0 :: .ref (a 16) :: .int 0 :: .ref (a 17) :: .ref (a 18) :: .int 0 :: .long 0 :: .long 0 :: .int 0 :: .long 0 :: .int 0 :: .int 0 :: .int 0 :: .long 0 :: .long 0 :: .int 0 :: .ref (a 19) :: .ref (a 20) :: .ref (a 21) :: .ref (a 22) :: .ref (a 23) :: .ref (a 24) :: .ref (a 25) :: .ref (a 26) :: .ref (a 27) :: [])))] := hD
  refine W.widen (k := 0) (n := 0) (Nat.le_of_ble_eq_true rfl) (Nat.le_of_ble_eq_true rfl) ?_
  exact W.zret (v := 0) hx hb hr (by decide) (fun t ht hW => ⟨⟨(), rfl, trivial, CB.mk ht (hP.sub [0] rfl) (hD.sub [0] (by decide) rfl)⟩, hS.F ht⟩) hS.2.2 dX11_clauseHere_197
set_option maxHeartbeats 4000000 in
set_option maxRecDepth 100000 in
theorem m_clauseHere6 (l : Launch) (D : va_G) (Y : Nat → ClassId) (Z : Nat → Nat) (sz : Nat) (o : Nat) (a : Nat → Nat) : Met l yX11_clauseHere (.code yX11_clauseHere cX11_clauseHere 5 (some .boolean) :: GW) ({ frames := 2, cells := 0, slots := 0, locals := 46 }) (va_Pc [.ref o] (CP D Y Z [(o, .inr (11, (.ref (a 0) :: .ref (a 1) :: .ref (a 2) :: .int 0 :: .ref (a 3) :: .ref (a 4) :: .ref (a 5) :: .ref (a 6) :: .ref (a 7) :: .ref (a 8) :: .ref (a 9) :: .ref (a 10) :: .ref (a 11) :: .ref (a 12) :: .ref (a 13) :: .ref (a 14) :: .int 0 :: .int 0 :: .int 0 :: .int 6 :: .int 0 :: .int 0 :: .int 0 :: .ref (a 15) :: .int 0 :: .ref (a 16) :: .int 0 :: .ref (a 17) :: .ref (a 18) :: .int 0 :: .long 0 :: .long 0 :: .int 0 :: .long 0 :: .int 0 :: .int 0 :: .int 0 :: .long 0 :: .long 0 :: .int 0 :: .ref (a 19) :: .ref (a 20) :: .ref (a 21) :: .ref (a 22) :: .ref (a 23) :: .ref (a 24) :: .ref (a 25) :: .ref (a 26) :: .ref (a 27) :: [])))] sz)) (QG (S := Unit) (fun _ => some (.int 0)) (fun _ => True) (fun u => CB D ((fun _ => [(o, .inr (11, (.ref (a 0) :: .ref (a 1) :: .ref (a 2) :: .int 0 :: .ref (a 3) :: .ref (a 4) :: .ref (a 5) :: .ref (a 6) :: .ref (a 7) :: .ref (a 8) :: .ref (a 9) :: .ref (a 10) :: .ref (a 11) :: .ref (a 12) :: .ref (a 13) :: .ref (a 14) :: .int 0 :: .int 1 :: .int 0 :: .int 6 :: .int 0 :: .int 0 :: .int 0 :: .ref (a 15) :: .int 0 :: .ref (a 16) :: .int 0 :: .ref (a 17) :: .ref (a 18) :: .int 0 :: .long 0 :: .long 0 :: .int 0 :: .long 0 :: .int 0 :: .int 0 :: .int 0 :: .long 0 :: .long 0 :: .int 0 :: .ref (a 19) :: .ref (a 20) :: .ref (a 21) :: .ref (a 22) :: .ref (a 23) :: .ref (a 24) :: .ref (a 25) :: .ref (a 26) :: .ref (a 27) :: [])))]) u) (va_A [(o, .inr (11, (.ref (a 0) :: .ref (a 1) :: .ref (a 2) :: .int 0 :: .ref (a 3) :: .ref (a 4) :: .ref (a 5) :: .ref (a 6) :: .ref (a 7) :: .ref (a 8) :: .ref (a 9) :: .ref (a 10) :: .ref (a 11) :: .ref (a 12) :: .ref (a 13) :: .ref (a 14) :: .int 0 :: .int 0 :: .int 0 :: .int 6 :: .int 0 :: .int 0 :: .int 0 :: .ref (a 15) :: .int 0 :: .ref (a 16) :: .int 0 :: .ref (a 17) :: .ref (a 18) :: .int 0 :: .long 0 :: .long 0 :: .int 0 :: .long 0 :: .int 0 :: .int 0 :: .int 0 :: .long 0 :: .long 0 :: .int 0 :: .ref (a 19) :: .ref (a 20) :: .ref (a 21) :: .ref (a 22) :: .ref (a 23) :: .ref (a 24) :: .ref (a 25) :: .ref (a 26) :: .ref (a 27) :: [])))] sz)) (va_A [(o, .inr (11, (.ref (a 0) :: .ref (a 1) :: .ref (a 2) :: .int 0 :: .ref (a 3) :: .ref (a 4) :: .ref (a 5) :: .ref (a 6) :: .ref (a 7) :: .ref (a 8) :: .ref (a 9) :: .ref (a 10) :: .ref (a 11) :: .ref (a 12) :: .ref (a 13) :: .ref (a 14) :: .int 0 :: .int 0 :: .int 0 :: .int 6 :: .int 0 :: .int 0 :: .int 0 :: .ref (a 15) :: .int 0 :: .ref (a 16) :: .int 0 :: .ref (a 17) :: .ref (a 18) :: .int 0 :: .long 0 :: .long 0 :: .int 0 :: .long 0 :: .int 0 :: .int 0 :: .int 0 :: .long 0 :: .long 0 :: .int 0 :: .ref (a 19) :: .ref (a 20) :: .ref (a 21) :: .ref (a 22) :: .ref (a 23) :: .ref (a 24) :: .ref (a 25) :: .ref (a 26) :: .ref (a 27) :: [])))] sz)) 0 0 (va_A [(o, .inr (11, (.ref (a 0) :: .ref (a 1) :: .ref (a 2) :: .int 0 :: .ref (a 3) :: .ref (a 4) :: .ref (a 5) :: .ref (a 6) :: .ref (a 7) :: .ref (a 8) :: .ref (a 9) :: .ref (a 10) :: .ref (a 11) :: .ref (a 12) :: .ref (a 13) :: .ref (a 14) :: .int 0 :: .int 0 :: .int 0 :: .int 6 :: .int 0 :: .int 0 :: .int 0 :: .ref (a 15) :: .int 0 :: .ref (a 16) :: .int 0 :: .ref (a 17) :: .ref (a 18) :: .int 0 :: .long 0 :: .long 0 :: .int 0 :: .long 0 :: .int 0 :: .int 0 :: .int 0 :: .long 0 :: .long 0 :: .int 0 :: .ref (a 19) :: .ref (a 20) :: .ref (a 21) :: .ref (a 22) :: .ref (a 23) :: .ref (a 24) :: .ref (a 25) :: .ref (a 26) :: .ref (a 27) :: [])))] sz) := by
  refine Met.ofW (cc := cX11_clauseHere) (maxL := 5) (ret := (some .boolean)) (by decide) rfl ?_
  intro p e s m args below meth c s₁ B hml hv
  obtain ⟨rfl, hsz, hP, hKN, hD0⟩ := hv
  have hx := B.exec
  have hb := B.bytes
  have hr := B.returns
  have hts := atoms_spec (ws := .code yX11_clauseHere cX11_clauseHere 5 (some .boolean) :: GW) B.pre
  have hg : ∀ w ∈ GW, w.before _ s = true := fun w h => hts w (List.mem_cons_of_mem _ h)
  have hown : s.vm.findClass RX11 = some m.cls := findClass_of_methodNamed B.named
  have hlocks := B.notSynchronized
  subst hsz
  have hD := hD0.self (sz := s.heap.size)
  generalize hAe : va_A [(o, .inr (11, (.ref (a 0) :: .ref (a 1) :: .ref (a 2) :: .int 0 :: .ref (a 3) :: .ref (a 4) :: .ref (a 5) :: .ref (a 6) :: .ref (a 7) :: .ref (a 8) :: .ref (a 9) :: .ref (a 10) :: .ref (a 11) :: .ref (a 12) :: .ref (a 13) :: .ref (a 14) :: .int 0 :: .int 0 :: .int 0 :: .int 6 :: .int 0 :: .int 0 :: .int 0 :: .ref (a 15) :: .int 0 :: .ref (a 16) :: .int 0 :: .ref (a 17) :: .ref (a 18) :: .int 0 :: .long 0 :: .long 0 :: .int 0 :: .long 0 :: .int 0 :: .int 0 :: .int 0 :: .long 0 :: .long 0 :: .int 0 :: .ref (a 19) :: .ref (a 20) :: .ref (a 21) :: .ref (a 22) :: .ref (a 23) :: .ref (a 24) :: .ref (a 25) :: .ref (a 26) :: .ref (a 27) :: [])))] s.heap.size = A at hD ⊢
  have hA : ∀ q : Nat, s.heap.size ≤ q → A q := fun q h => by rw [← hAe]; exact Or.inr h
  have hl := lv_entry ([.ref o]) (n := 5) (Nat.le_of_ble_eq_true rfl)
  rw [lg_entry_eq]
  generalize (lg_sl ([.ref o]) ++ List.replicate (5 - (lg_sl ([.ref o])).length) Slot.unset).toArray = ls at hl ⊢
  have hl : lv_has ls 5 [(0, .ref o)] := hl
  refine w_start (A0 := A) hP (fun H locs hP hS => ?_)
  refine lv_aload_n hx hb dX11_clauseHere_0 rfl (lv_at hl 0 rfl) ?_
  refine cg (wc := [(o, .inr (11, (.ref (a 0) :: .ref (a 1) :: .ref (a 2) :: .int 0 :: .ref (a 3) :: .ref (a 4) :: .ref (a 5) :: .ref (a 6) :: .ref (a 7) :: .ref (a 8) :: .ref (a 9) :: .ref (a 10) :: .ref (a 11) :: .ref (a 12) :: .ref (a 13) :: .ref (a 14) :: .int 0 :: .int 0 :: .int 0 :: .int 6 :: .int 0 :: .int 0 :: .int 0 :: .ref (a 15) :: .int 0 :: .ref (a 16) :: .int 0 :: .ref (a 17) :: .ref (a 18) :: .int 0 :: .long 0 :: .long 0 :: .int 0 :: .long 0 :: .int 0 :: .int 0 :: .int 0 :: .long 0 :: .long 0 :: .int 0 :: .ref (a 19) :: .ref (a 20) :: .ref (a 21) :: .ref (a 22) :: .ref (a 23) :: .ref (a 24) :: .ref (a 25) :: .ref (a 26) :: .ref (a 27) :: [])))]) (wr := []) [0] [] (rn_V (As := []) (rest := []) (b := o) (m_see l D Y Z H.size o a 6) ⟨hx, hb, hml, hown, hg⟩ lk_X11_183 ⟨CP.blind, va_recv hKN.1 hP (ci := 11) (q0 := 0) rfl rfl, CP.at (hP.sub [0] rfl) hKN (hD.sub [0] (by decide) rfl)⟩ ⟨⟨rfl, rfl⟩, ⟨Nat.le_of_ble_eq_true rfl, Nat.le_of_ble_eq_true rfl⟩, ⟨Nat.le_of_ble_eq_true rfl, Nat.le_of_ble_eq_true rfl⟩⟩ hl.1 rfl (Nat.le_of_ble_eq_true rfl) dX11_clauseHere_1) hP hD hS hA rfl rfl (by decide) (by decide) (fun u1 H locs w2 hP hD hS => ?_)
  refine W.eq (g2 := F0 m 4 ls [.int (-1)]) rfl ?_
  have hP : va_P D vwCl [(o, .inr (11, (.ref (a 0) :: .ref (a 1) :: .ref (a 2) :: .int 0 :: .ref (a 3) :: .ref (a 4) :: .ref (a 5) :: .ref (a 6) :: .ref (a 7) :: .ref (a 8) :: .ref (a 9) :: .ref (a 10) :: .ref (a 11) :: .ref (a 12) :: .ref (a 13) :: .ref (a 14) :: .int 0 :: .int 0 :: .int 0 :: .int 6 :: .int 0 :: .int 0 :: .int 0 :: .ref (a 15) :: .int 0 :: .ref (a 16) :: .int 0 :: .ref (a 17) :: .ref (a 18) :: .int 0 :: .long 0 :: .long 0 :: .int 0 :: .long 0 :: .int 0 :: .int 0 :: .int 0 :: .long 0 :: .long 0 :: .int 0 :: .ref (a 19) :: .ref (a 20) :: .ref (a 21) :: .ref (a 22) :: .ref (a 23) :: .ref (a 24) :: .ref (a 25) :: .ref (a 26) :: .ref (a 27) :: [])))] H := hP
  have hD : va_D A [(o, .inr (11, (.ref (a 0) :: .ref (a 1) :: .ref (a 2) :: .int 0 :: .ref (a 3) :: .ref (a 4) :: .ref (a 5) :: .ref (a 6) :: .ref (a 7) :: .ref (a 8) :: .ref (a 9) :: .ref (a 10) :: .ref (a 11) :: .ref (a 12) :: .ref (a 13) :: .ref (a 14) :: .int 0 :: .int 0 :: .int 0 :: .int 6 :: .int 0 :: .int 0 :: .int 0 :: .ref (a 15) :: .int 0 :: .ref (a 16) :: .int 0 :: .ref (a 17) :: .ref (a 18) :: .int 0 :: .long 0 :: .long 0 :: .int 0 :: .long 0 :: .int 0 :: .int 0 :: .int 0 :: .long 0 :: .long 0 :: .int 0 :: .ref (a 19) :: .ref (a 20) :: .ref (a 21) :: .ref (a 22) :: .ref (a 23) :: .ref (a 24) :: .ref (a 25) :: .ref (a 26) :: .ref (a 27) :: [])))] := hD
  refine lv_pop hx hb dX11_clauseHere_4 rfl ?_
  refine lv_aload_n hx hb dX11_clauseHere_5 rfl (lv_at hl 0 rfl) ?_
  refine va_get (D := D) (ci := 11) (v := .int 0) (C := RX11) (T := TX11) (N := 49) hx hb hg inGX11 hown hKN.1 hP 0 rfl rfl 16 (by decide) (hg _ kw_1224) (fun _ h9 => h9) rfl dX11_clauseHere_6 ?_
  refine lv_istore_n (lv' := [(1, .int 0), (0, .ref o)]) hx hb dX11_clauseHere_9 rfl hl (by decide) rfl (fun ls hl => ?_)
  refine lv_aload_n hx hb dX11_clauseHere_10 rfl (lv_at hl 1 rfl) ?_
  refine va_get (D := D) (ci := 11) (v := .int 6) (C := RX11) (T := TX11) (N := 49) hx hb hg inGX11 hown hKN.1 hP 0 rfl rfl 19 (by decide) (hg _ kw_1227) (fun _ h9 => h9) rfl dX11_clauseHere_11 ?_
  refine lv_bipush (v := 6) hx hb dX11_clauseHere_14 (by decide) ?_
  refine lv_idiv hx hb dX11_clauseHere_16 (by decide) ?_
  refine lv_topi (fun z3 ez3 => ?_)
  obtain rfl : z3 = 1 := ez3.trans (by decide)
  refine lv_istore_n (lv' := [(2, .int 1), (1, .int 0), (0, .ref o)]) hx hb dX11_clauseHere_17 rfl hl (by decide) rfl (fun ls hl => ?_)
  refine lv_aload_n hx hb dX11_clauseHere_18 rfl (lv_at hl 2 rfl) ?_
  refine lv_ldc2 (v := 512970878052) hx hb hown (hg _ kw_1470) dX11_clauseHere_19 ?_
  refine cg (wc := [(o, .inr (11, (.ref (a 0) :: .ref (a 1) :: .ref (a 2) :: .int 0 :: .ref (a 3) :: .ref (a 4) :: .ref (a 5) :: .ref (a 6) :: .ref (a 7) :: .ref (a 8) :: .ref (a 9) :: .ref (a 10) :: .ref (a 11) :: .ref (a 12) :: .ref (a 13) :: .ref (a 14) :: .int 0 :: .int 0 :: .int 0 :: .int 6 :: .int 0 :: .int 0 :: .int 0 :: .ref (a 15) :: .int 0 :: .ref (a 16) :: .int 0 :: .ref (a 17) :: .ref (a 18) :: .int 0 :: .long 0 :: .long 0 :: .int 0 :: .long 0 :: .int 0 :: .int 0 :: .int 0 :: .long 0 :: .long 0 :: .int 0 :: .ref (a 19) :: .ref (a 20) :: .ref (a 21) :: .ref (a 22) :: .ref (a 23) :: .ref (a 24) :: .ref (a 25) :: .ref (a 26) :: .ref (a 27) :: [])))]) (wr := []) [0] [] (rn_V (As := [.long 512970878052]) (rest := []) (b := o) (m_isWord l D Y Z H.size o a 6 512970878052) ⟨hx, hb, hml, hown, hg⟩ lk_X11_190 ⟨CP.blind, va_recv hKN.1 hP (ci := 11) (q0 := 0) rfl rfl, CP.at (hP.sub [0] rfl) hKN (hD.sub [0] (by decide) rfl)⟩ ⟨⟨rfl, rfl⟩, ⟨Nat.le_of_ble_eq_true rfl, Nat.le_of_ble_eq_true rfl⟩, ⟨Nat.le_of_ble_eq_true rfl, Nat.le_of_ble_eq_true rfl⟩⟩ hl.1 rfl (Nat.le_of_ble_eq_true rfl) dX11_clauseHere_22) hP hD hS hA rfl rfl (by decide) (by decide) (fun u4 H locs w5 hP hD hS => ?_)
  refine W.eq (g2 := F0 m 25 ls [.int 0]) rfl ?_
  have hP : va_P D vwCl [(o, .inr (11, (.ref (a 0) :: .ref (a 1) :: .ref (a 2) :: .int 0 :: .ref (a 3) :: .ref (a 4) :: .ref (a 5) :: .ref (a 6) :: .ref (a 7) :: .ref (a 8) :: .ref (a 9) :: .ref (a 10) :: .ref (a 11) :: .ref (a 12) :: .ref (a 13) :: .ref (a 14) :: .int 0 :: .int 0 :: .int 0 :: .int 6 :: .int 0 :: .int 0 :: .int 0 :: .ref (a 15) :: .int 0 :: .ref (a 16) :: .int 0 :: .ref (a 17) :: .ref (a 18) :: .int 0 :: .long 0 :: .long 0 :: .int 0 :: .long 0 :: .int 0 :: .int 0 :: .int 0 :: .long 0 :: .long 0 :: .int 0 :: .ref (a 19) :: .ref (a 20) :: .ref (a 21) :: .ref (a 22) :: .ref (a 23) :: .ref (a 24) :: .ref (a 25) :: .ref (a 26) :: .ref (a 27) :: [])))] H := hP
  have hD : va_D A [(o, .inr (11, (.ref (a 0) :: .ref (a 1) :: .ref (a 2) :: .int 0 :: .ref (a 3) :: .ref (a 4) :: .ref (a 5) :: .ref (a 6) :: .ref (a 7) :: .ref (a 8) :: .ref (a 9) :: .ref (a 10) :: .ref (a 11) :: .ref (a 12) :: .ref (a 13) :: .ref (a 14) :: .int 0 :: .int 0 :: .int 0 :: .int 6 :: .int 0 :: .int 0 :: .int 0 :: .ref (a 15) :: .int 0 :: .ref (a 16) :: .int 0 :: .ref (a 17) :: .ref (a 18) :: .int 0 :: .long 0 :: .long 0 :: .int 0 :: .long 0 :: .int 0 :: .int 0 :: .int 0 :: .long 0 :: .long 0 :: .int 0 :: .ref (a 19) :: .ref (a 20) :: .ref (a 21) :: .ref (a 22) :: .ref (a 23) :: .ref (a 24) :: .ref (a 25) :: .ref (a 26) :: .ref (a 27) :: [])))] := hD
  refine lv_if_eq (tgt := 32) hx hb dX11_clauseHere_25 (by decide) (fun c6 => ?_) (fun c6 => ?_)
  rotate_left
  · exact absurd c6 (by decide)
  refine lv_aload_n hx hb dX11_clauseHere_32 rfl (lv_at hl 2 rfl) ?_
  refine lv_ldc2 (v := 1885432178) hx hb hown (hg _ kw_1479) dX11_clauseHere_33 ?_
  refine cg (wc := [(o, .inr (11, (.ref (a 0) :: .ref (a 1) :: .ref (a 2) :: .int 0 :: .ref (a 3) :: .ref (a 4) :: .ref (a 5) :: .ref (a 6) :: .ref (a 7) :: .ref (a 8) :: .ref (a 9) :: .ref (a 10) :: .ref (a 11) :: .ref (a 12) :: .ref (a 13) :: .ref (a 14) :: .int 0 :: .int 0 :: .int 0 :: .int 6 :: .int 0 :: .int 0 :: .int 0 :: .ref (a 15) :: .int 0 :: .ref (a 16) :: .int 0 :: .ref (a 17) :: .ref (a 18) :: .int 0 :: .long 0 :: .long 0 :: .int 0 :: .long 0 :: .int 0 :: .int 0 :: .int 0 :: .long 0 :: .long 0 :: .int 0 :: .ref (a 19) :: .ref (a 20) :: .ref (a 21) :: .ref (a 22) :: .ref (a 23) :: .ref (a 24) :: .ref (a 25) :: .ref (a 26) :: .ref (a 27) :: [])))]) (wr := []) [0] [] (rn_V (As := [.long 1885432178]) (rest := []) (b := o) (m_isWord l D Y Z H.size o a 6 1885432178) ⟨hx, hb, hml, hown, hg⟩ lk_X11_190 ⟨CP.blind, va_recv hKN.1 hP (ci := 11) (q0 := 0) rfl rfl, CP.at (hP.sub [0] rfl) hKN (hD.sub [0] (by decide) rfl)⟩ ⟨⟨rfl, rfl⟩, ⟨Nat.le_of_ble_eq_true rfl, Nat.le_of_ble_eq_true rfl⟩, ⟨Nat.le_of_ble_eq_true rfl, Nat.le_of_ble_eq_true rfl⟩⟩ hl.1 rfl (Nat.le_of_ble_eq_true rfl) dX11_clauseHere_36) hP hD hS hA rfl rfl (by decide) (by decide) (fun u7 H locs w8 hP hD hS => ?_)
  refine W.eq (g2 := F0 m 39 ls [.int 0]) rfl ?_
  have hP : va_P D vwCl [(o, .inr (11, (.ref (a 0) :: .ref (a 1) :: .ref (a 2) :: .int 0 :: .ref (a 3) :: .ref (a 4) :: .ref (a 5) :: .ref (a 6) :: .ref (a 7) :: .ref (a 8) :: .ref (a 9) :: .ref (a 10) :: .ref (a 11) :: .ref (a 12) :: .ref (a 13) :: .ref (a 14) :: .int 0 :: .int 0 :: .int 0 :: .int 6 :: .int 0 :: .int 0 :: .int 0 :: .ref (a 15) :: .int 0 :: .ref (a 16) :: .int 0 :: .ref (a 17) :: .ref (a 18) :: .int 0 :: .long 0 :: .long 0 :: .int 0 :: .long 0 :: .int 0 :: .int 0 :: .int 0 :: .long 0 :: .long 0 :: .int 0 :: .ref (a 19) :: .ref (a 20) :: .ref (a 21) :: .ref (a 22) :: .ref (a 23) :: .ref (a 24) :: .ref (a 25) :: .ref (a 26) :: .ref (a 27) :: [])))] H := hP
  have hD : va_D A [(o, .inr (11, (.ref (a 0) :: .ref (a 1) :: .ref (a 2) :: .int 0 :: .ref (a 3) :: .ref (a 4) :: .ref (a 5) :: .ref (a 6) :: .ref (a 7) :: .ref (a 8) :: .ref (a 9) :: .ref (a 10) :: .ref (a 11) :: .ref (a 12) :: .ref (a 13) :: .ref (a 14) :: .int 0 :: .int 0 :: .int 0 :: .int 6 :: .int 0 :: .int 0 :: .int 0 :: .ref (a 15) :: .int 0 :: .ref (a 16) :: .int 0 :: .ref (a 17) :: .ref (a 18) :: .int 0 :: .long 0 :: .long 0 :: .int 0 :: .long 0 :: .int 0 :: .int 0 :: .int 0 :: .long 0 :: .long 0 :: .int 0 :: .ref (a 19) :: .ref (a 20) :: .ref (a 21) :: .ref (a 22) :: .ref (a 23) :: .ref (a 24) :: .ref (a 25) :: .ref (a 26) :: .ref (a 27) :: [])))] := hD
  refine lv_if_eq (tgt := 46) hx hb dX11_clauseHere_39 (by decide) (fun c9 => ?_) (fun c9 => ?_)
  rotate_left
  · exact absurd c9 (by decide)
  refine lv_aload_n hx hb dX11_clauseHere_46 rfl (lv_at hl 2 rfl) ?_
  refine lv_ldc2 (v := 1936748404) hx hb hown (hg _ kw_1480) dX11_clauseHere_47 ?_
  refine cg (wc := [(o, .inr (11, (.ref (a 0) :: .ref (a 1) :: .ref (a 2) :: .int 0 :: .ref (a 3) :: .ref (a 4) :: .ref (a 5) :: .ref (a 6) :: .ref (a 7) :: .ref (a 8) :: .ref (a 9) :: .ref (a 10) :: .ref (a 11) :: .ref (a 12) :: .ref (a 13) :: .ref (a 14) :: .int 0 :: .int 0 :: .int 0 :: .int 6 :: .int 0 :: .int 0 :: .int 0 :: .ref (a 15) :: .int 0 :: .ref (a 16) :: .int 0 :: .ref (a 17) :: .ref (a 18) :: .int 0 :: .long 0 :: .long 0 :: .int 0 :: .long 0 :: .int 0 :: .int 0 :: .int 0 :: .long 0 :: .long 0 :: .int 0 :: .ref (a 19) :: .ref (a 20) :: .ref (a 21) :: .ref (a 22) :: .ref (a 23) :: .ref (a 24) :: .ref (a 25) :: .ref (a 26) :: .ref (a 27) :: [])))]) (wr := []) [0] [] (rn_V (As := [.long 1936748404]) (rest := []) (b := o) (m_isWord l D Y Z H.size o a 6 1936748404) ⟨hx, hb, hml, hown, hg⟩ lk_X11_190 ⟨CP.blind, va_recv hKN.1 hP (ci := 11) (q0 := 0) rfl rfl, CP.at (hP.sub [0] rfl) hKN (hD.sub [0] (by decide) rfl)⟩ ⟨⟨rfl, rfl⟩, ⟨Nat.le_of_ble_eq_true rfl, Nat.le_of_ble_eq_true rfl⟩, ⟨Nat.le_of_ble_eq_true rfl, Nat.le_of_ble_eq_true rfl⟩⟩ hl.1 rfl (Nat.le_of_ble_eq_true rfl) dX11_clauseHere_50) hP hD hS hA rfl rfl (by decide) (by decide) (fun u10 H locs w11 hP hD hS => ?_)
  refine W.eq (g2 := F0 m 53 ls [.int 0]) rfl ?_
  have hP : va_P D vwCl [(o, .inr (11, (.ref (a 0) :: .ref (a 1) :: .ref (a 2) :: .int 0 :: .ref (a 3) :: .ref (a 4) :: .ref (a 5) :: .ref (a 6) :: .ref (a 7) :: .ref (a 8) :: .ref (a 9) :: .ref (a 10) :: .ref (a 11) :: .ref (a 12) :: .ref (a 13) :: .ref (a 14) :: .int 0 :: .int 0 :: .int 0 :: .int 6 :: .int 0 :: .int 0 :: .int 0 :: .ref (a 15) :: .int 0 :: .ref (a 16) :: .int 0 :: .ref (a 17) :: .ref (a 18) :: .int 0 :: .long 0 :: .long 0 :: .int 0 :: .long 0 :: .int 0 :: .int 0 :: .int 0 :: .long 0 :: .long 0 :: .int 0 :: .ref (a 19) :: .ref (a 20) :: .ref (a 21) :: .ref (a 22) :: .ref (a 23) :: .ref (a 24) :: .ref (a 25) :: .ref (a 26) :: .ref (a 27) :: [])))] H := hP
  have hD : va_D A [(o, .inr (11, (.ref (a 0) :: .ref (a 1) :: .ref (a 2) :: .int 0 :: .ref (a 3) :: .ref (a 4) :: .ref (a 5) :: .ref (a 6) :: .ref (a 7) :: .ref (a 8) :: .ref (a 9) :: .ref (a 10) :: .ref (a 11) :: .ref (a 12) :: .ref (a 13) :: .ref (a 14) :: .int 0 :: .int 0 :: .int 0 :: .int 6 :: .int 0 :: .int 0 :: .int 0 :: .ref (a 15) :: .int 0 :: .ref (a 16) :: .int 0 :: .ref (a 17) :: .ref (a 18) :: .int 0 :: .long 0 :: .long 0 :: .int 0 :: .long 0 :: .int 0 :: .int 0 :: .int 0 :: .long 0 :: .long 0 :: .int 0 :: .ref (a 19) :: .ref (a 20) :: .ref (a 21) :: .ref (a 22) :: .ref (a 23) :: .ref (a 24) :: .ref (a 25) :: .ref (a 26) :: .ref (a 27) :: [])))] := hD
  refine lv_if_eq (tgt := 60) hx hb dX11_clauseHere_53 (by decide) (fun c12 => ?_) (fun c12 => ?_)
  rotate_left
  · exact absurd c12 (by decide)
  refine lv_aload_n hx hb dX11_clauseHere_60 rfl (lv_at hl 2 rfl) ?_
  refine lv_ldc2 (v := 444199957363) hx hb hown (hg _ kw_1481) dX11_clauseHere_61 ?_
  refine cg (wc := [(o, .inr (11, (.ref (a 0) :: .ref (a 1) :: .ref (a 2) :: .int 0 :: .ref (a 3) :: .ref (a 4) :: .ref (a 5) :: .ref (a 6) :: .ref (a 7) :: .ref (a 8) :: .ref (a 9) :: .ref (a 10) :: .ref (a 11) :: .ref (a 12) :: .ref (a 13) :: .ref (a 14) :: .int 0 :: .int 0 :: .int 0 :: .int 6 :: .int 0 :: .int 0 :: .int 0 :: .ref (a 15) :: .int 0 :: .ref (a 16) :: .int 0 :: .ref (a 17) :: .ref (a 18) :: .int 0 :: .long 0 :: .long 0 :: .int 0 :: .long 0 :: .int 0 :: .int 0 :: .int 0 :: .long 0 :: .long 0 :: .int 0 :: .ref (a 19) :: .ref (a 20) :: .ref (a 21) :: .ref (a 22) :: .ref (a 23) :: .ref (a 24) :: .ref (a 25) :: .ref (a 26) :: .ref (a 27) :: [])))]) (wr := []) [0] [] (rn_V (As := [.long 444199957363]) (rest := []) (b := o) (m_isWord l D Y Z H.size o a 6 444199957363) ⟨hx, hb, hml, hown, hg⟩ lk_X11_190 ⟨CP.blind, va_recv hKN.1 hP (ci := 11) (q0 := 0) rfl rfl, CP.at (hP.sub [0] rfl) hKN (hD.sub [0] (by decide) rfl)⟩ ⟨⟨rfl, rfl⟩, ⟨Nat.le_of_ble_eq_true rfl, Nat.le_of_ble_eq_true rfl⟩, ⟨Nat.le_of_ble_eq_true rfl, Nat.le_of_ble_eq_true rfl⟩⟩ hl.1 rfl (Nat.le_of_ble_eq_true rfl) dX11_clauseHere_64) hP hD hS hA rfl rfl (by decide) (by decide) (fun u13 H locs w14 hP hD hS => ?_)
  refine W.eq (g2 := F0 m 67 ls [.int 0]) rfl ?_
  have hP : va_P D vwCl [(o, .inr (11, (.ref (a 0) :: .ref (a 1) :: .ref (a 2) :: .int 0 :: .ref (a 3) :: .ref (a 4) :: .ref (a 5) :: .ref (a 6) :: .ref (a 7) :: .ref (a 8) :: .ref (a 9) :: .ref (a 10) :: .ref (a 11) :: .ref (a 12) :: .ref (a 13) :: .ref (a 14) :: .int 0 :: .int 0 :: .int 0 :: .int 6 :: .int 0 :: .int 0 :: .int 0 :: .ref (a 15) :: .int 0 :: .ref (a 16) :: .int 0 :: .ref (a 17) :: .ref (a 18) :: .int 0 :: .long 0 :: .long 0 :: .int 0 :: .long 0 :: .int 0 :: .int 0 :: .int 0 :: .long 0 :: .long 0 :: .int 0 :: .ref (a 19) :: .ref (a 20) :: .ref (a 21) :: .ref (a 22) :: .ref (a 23) :: .ref (a 24) :: .ref (a 25) :: .ref (a 26) :: .ref (a 27) :: [])))] H := hP
  have hD : va_D A [(o, .inr (11, (.ref (a 0) :: .ref (a 1) :: .ref (a 2) :: .int 0 :: .ref (a 3) :: .ref (a 4) :: .ref (a 5) :: .ref (a 6) :: .ref (a 7) :: .ref (a 8) :: .ref (a 9) :: .ref (a 10) :: .ref (a 11) :: .ref (a 12) :: .ref (a 13) :: .ref (a 14) :: .int 0 :: .int 0 :: .int 0 :: .int 6 :: .int 0 :: .int 0 :: .int 0 :: .ref (a 15) :: .int 0 :: .ref (a 16) :: .int 0 :: .ref (a 17) :: .ref (a 18) :: .int 0 :: .long 0 :: .long 0 :: .int 0 :: .long 0 :: .int 0 :: .int 0 :: .int 0 :: .long 0 :: .long 0 :: .int 0 :: .ref (a 19) :: .ref (a 20) :: .ref (a 21) :: .ref (a 22) :: .ref (a 23) :: .ref (a 24) :: .ref (a 25) :: .ref (a 26) :: .ref (a 27) :: [])))] := hD
  refine lv_if_eq (tgt := 74) hx hb dX11_clauseHere_67 (by decide) (fun c15 => ?_) (fun c15 => ?_)
  rotate_left
  · exact absurd c15 (by decide)
  refine lv_aload_n hx hb dX11_clauseHere_74 rfl (lv_at hl 2 rfl) ?_
  refine lv_ldc2 (v := 109299962372965) hx hb hown (hg _ kw_1482) dX11_clauseHere_75 ?_
  refine cg (wc := [(o, .inr (11, (.ref (a 0) :: .ref (a 1) :: .ref (a 2) :: .int 0 :: .ref (a 3) :: .ref (a 4) :: .ref (a 5) :: .ref (a 6) :: .ref (a 7) :: .ref (a 8) :: .ref (a 9) :: .ref (a 10) :: .ref (a 11) :: .ref (a 12) :: .ref (a 13) :: .ref (a 14) :: .int 0 :: .int 0 :: .int 0 :: .int 6 :: .int 0 :: .int 0 :: .int 0 :: .ref (a 15) :: .int 0 :: .ref (a 16) :: .int 0 :: .ref (a 17) :: .ref (a 18) :: .int 0 :: .long 0 :: .long 0 :: .int 0 :: .long 0 :: .int 0 :: .int 0 :: .int 0 :: .long 0 :: .long 0 :: .int 0 :: .ref (a 19) :: .ref (a 20) :: .ref (a 21) :: .ref (a 22) :: .ref (a 23) :: .ref (a 24) :: .ref (a 25) :: .ref (a 26) :: .ref (a 27) :: [])))]) (wr := []) [0] [] (rn_V (As := [.long 109299962372965]) (rest := []) (b := o) (m_isWord l D Y Z H.size o a 6 109299962372965) ⟨hx, hb, hml, hown, hg⟩ lk_X11_190 ⟨CP.blind, va_recv hKN.1 hP (ci := 11) (q0 := 0) rfl rfl, CP.at (hP.sub [0] rfl) hKN (hD.sub [0] (by decide) rfl)⟩ ⟨⟨rfl, rfl⟩, ⟨Nat.le_of_ble_eq_true rfl, Nat.le_of_ble_eq_true rfl⟩, ⟨Nat.le_of_ble_eq_true rfl, Nat.le_of_ble_eq_true rfl⟩⟩ hl.1 rfl (Nat.le_of_ble_eq_true rfl) dX11_clauseHere_78) hP hD hS hA rfl rfl (by decide) (by decide) (fun u16 H locs w17 hP hD hS => ?_)
  refine W.eq (g2 := F0 m 81 ls [.int 0]) rfl ?_
  have hP : va_P D vwCl [(o, .inr (11, (.ref (a 0) :: .ref (a 1) :: .ref (a 2) :: .int 0 :: .ref (a 3) :: .ref (a 4) :: .ref (a 5) :: .ref (a 6) :: .ref (a 7) :: .ref (a 8) :: .ref (a 9) :: .ref (a 10) :: .ref (a 11) :: .ref (a 12) :: .ref (a 13) :: .ref (a 14) :: .int 0 :: .int 0 :: .int 0 :: .int 6 :: .int 0 :: .int 0 :: .int 0 :: .ref (a 15) :: .int 0 :: .ref (a 16) :: .int 0 :: .ref (a 17) :: .ref (a 18) :: .int 0 :: .long 0 :: .long 0 :: .int 0 :: .long 0 :: .int 0 :: .int 0 :: .int 0 :: .long 0 :: .long 0 :: .int 0 :: .ref (a 19) :: .ref (a 20) :: .ref (a 21) :: .ref (a 22) :: .ref (a 23) :: .ref (a 24) :: .ref (a 25) :: .ref (a 26) :: .ref (a 27) :: [])))] H := hP
  have hD : va_D A [(o, .inr (11, (.ref (a 0) :: .ref (a 1) :: .ref (a 2) :: .int 0 :: .ref (a 3) :: .ref (a 4) :: .ref (a 5) :: .ref (a 6) :: .ref (a 7) :: .ref (a 8) :: .ref (a 9) :: .ref (a 10) :: .ref (a 11) :: .ref (a 12) :: .ref (a 13) :: .ref (a 14) :: .int 0 :: .int 0 :: .int 0 :: .int 6 :: .int 0 :: .int 0 :: .int 0 :: .ref (a 15) :: .int 0 :: .ref (a 16) :: .int 0 :: .ref (a 17) :: .ref (a 18) :: .int 0 :: .long 0 :: .long 0 :: .int 0 :: .long 0 :: .int 0 :: .int 0 :: .int 0 :: .long 0 :: .long 0 :: .int 0 :: .ref (a 19) :: .ref (a 20) :: .ref (a 21) :: .ref (a 22) :: .ref (a 23) :: .ref (a 24) :: .ref (a 25) :: .ref (a 26) :: .ref (a 27) :: [])))] := hD
  refine lv_if_eq (tgt := 88) hx hb dX11_clauseHere_81 (by decide) (fun c18 => ?_) (fun c18 => ?_)
  rotate_left
  · exact absurd c18 (by decide)
  refine lv_iconst (v := (-1)) hx hb dX11_clauseHere_88 (by decide) ?_
  refine lv_istore_n (lv' := [(3, .int (-1)), (2, .int 1), (1, .int 0), (0, .ref o)]) hx hb dX11_clauseHere_89 rfl hl (by decide) rfl (fun ls hl => ?_)
  refine lv_iload_n hx hb dX11_clauseHere_90 rfl (lv_at hl 1 rfl) ?_
  refine lv_if_ne (tgt := 122) hx hb dX11_clauseHere_91 (by decide) (fun c19 => ?_) (fun c19 => ?_)
  rotate_left
  · exact absurd c19 (by decide)
  refine lv_iload_n hx hb dX11_clauseHere_122 rfl (lv_at hl 1 rfl) ?_
  refine lv_iconst (v := 1) hx hb dX11_clauseHere_123 (by decide) ?_
  refine lv_icmp_ne (tgt := 175) hx hb dX11_clauseHere_124 (by decide) (fun c20 => ?_) (fun c20 => ?_)
  · exact absurd c20 (by decide)
  refine lv_aload_n hx hb dX11_clauseHere_127 rfl (lv_at hl 3 rfl) ?_
  refine lv_ldc2 (v := 1650811252) hx hb hown (hg _ kw_1485) dX11_clauseHere_128 ?_
  refine cg (wc := [(o, .inr (11, (.ref (a 0) :: .ref (a 1) :: .ref (a 2) :: .int 0 :: .ref (a 3) :: .ref (a 4) :: .ref (a 5) :: .ref (a 6) :: .ref (a 7) :: .ref (a 8) :: .ref (a 9) :: .ref (a 10) :: .ref (a 11) :: .ref (a 12) :: .ref (a 13) :: .ref (a 14) :: .int 0 :: .int 0 :: .int 0 :: .int 6 :: .int 0 :: .int 0 :: .int 0 :: .ref (a 15) :: .int 0 :: .ref (a 16) :: .int 0 :: .ref (a 17) :: .ref (a 18) :: .int 0 :: .long 0 :: .long 0 :: .int 0 :: .long 0 :: .int 0 :: .int 0 :: .int 0 :: .long 0 :: .long 0 :: .int 0 :: .ref (a 19) :: .ref (a 20) :: .ref (a 21) :: .ref (a 22) :: .ref (a 23) :: .ref (a 24) :: .ref (a 25) :: .ref (a 26) :: .ref (a 27) :: [])))]) (wr := []) [0] [] (rn_V (As := [.long 1650811252]) (rest := []) (b := o) (m_isWord l D Y Z H.size o a 6 1650811252) ⟨hx, hb, hml, hown, hg⟩ lk_X11_190 ⟨CP.blind, va_recv hKN.1 hP (ci := 11) (q0 := 0) rfl rfl, CP.at (hP.sub [0] rfl) hKN (hD.sub [0] (by decide) rfl)⟩ ⟨⟨rfl, rfl⟩, ⟨Nat.le_of_ble_eq_true rfl, Nat.le_of_ble_eq_true rfl⟩, ⟨Nat.le_of_ble_eq_true rfl, Nat.le_of_ble_eq_true rfl⟩⟩ hl.1 rfl (Nat.le_of_ble_eq_true rfl) dX11_clauseHere_131) hP hD hS hA rfl rfl (by decide) (by decide) (fun u21 H locs w22 hP hD hS => ?_)
  refine W.eq (g2 := F0 m 134 ls [.int 0]) rfl ?_
  have hP : va_P D vwCl [(o, .inr (11, (.ref (a 0) :: .ref (a 1) :: .ref (a 2) :: .int 0 :: .ref (a 3) :: .ref (a 4) :: .ref (a 5) :: .ref (a 6) :: .ref (a 7) :: .ref (a 8) :: .ref (a 9) :: .ref (a 10) :: .ref (a 11) :: .ref (a 12) :: .ref (a 13) :: .ref (a 14) :: .int 0 :: .int 0 :: .int 0 :: .int 6 :: .int 0 :: .int 0 :: .int 0 :: .ref (a 15) :: .int 0 :: .ref (a 16) :: .int 0 :: .ref (a 17) :: .ref (a 18) :: .int 0 :: .long 0 :: .long 0 :: .int 0 :: .long 0 :: .int 0 :: .int 0 :: .int 0 :: .long 0 :: .long 0 :: .int 0 :: .ref (a 19) :: .ref (a 20) :: .ref (a 21) :: .ref (a 22) :: .ref (a 23) :: .ref (a 24) :: .ref (a 25) :: .ref (a 26) :: .ref (a 27) :: [])))] H := hP
  have hD : va_D A [(o, .inr (11, (.ref (a 0) :: .ref (a 1) :: .ref (a 2) :: .int 0 :: .ref (a 3) :: .ref (a 4) :: .ref (a 5) :: .ref (a 6) :: .ref (a 7) :: .ref (a 8) :: .ref (a 9) :: .ref (a 10) :: .ref (a 11) :: .ref (a 12) :: .ref (a 13) :: .ref (a 14) :: .int 0 :: .int 0 :: .int 0 :: .int 6 :: .int 0 :: .int 0 :: .int 0 :: .ref (a 15) :: .int 0 :: .ref (a 16) :: .int 0 :: .ref (a 17) :: .ref (a 18) :: .int 0 :: .long 0 :: .long 0 :: .int 0 :: .long 0 :: .int 0 :: .int 0 :: .int 0 :: .long 0 :: .long 0 :: .int 0 :: .ref (a 19) :: .ref (a 20) :: .ref (a 21) :: .ref (a 22) :: .ref (a 23) :: .ref (a 24) :: .ref (a 25) :: .ref (a 26) :: .ref (a 27) :: [])))] := hD
  refine lv_if_ne (tgt := 167) hx hb dX11_clauseHere_134 (by decide) (fun c23 => ?_) (fun c23 => ?_)
  · exact absurd c23 (by decide)
  refine lv_aload_n hx hb dX11_clauseHere_137 rfl (lv_at hl 3 rfl) ?_
  refine lv_ldc2 (v := 1819242087) hx hb hown (hg _ kw_1486) dX11_clauseHere_138 ?_
  refine cg (wc := [(o, .inr (11, (.ref (a 0) :: .ref (a 1) :: .ref (a 2) :: .int 0 :: .ref (a 3) :: .ref (a 4) :: .ref (a 5) :: .ref (a 6) :: .ref (a 7) :: .ref (a 8) :: .ref (a 9) :: .ref (a 10) :: .ref (a 11) :: .ref (a 12) :: .ref (a 13) :: .ref (a 14) :: .int 0 :: .int 0 :: .int 0 :: .int 6 :: .int 0 :: .int 0 :: .int 0 :: .ref (a 15) :: .int 0 :: .ref (a 16) :: .int 0 :: .ref (a 17) :: .ref (a 18) :: .int 0 :: .long 0 :: .long 0 :: .int 0 :: .long 0 :: .int 0 :: .int 0 :: .int 0 :: .long 0 :: .long 0 :: .int 0 :: .ref (a 19) :: .ref (a 20) :: .ref (a 21) :: .ref (a 22) :: .ref (a 23) :: .ref (a 24) :: .ref (a 25) :: .ref (a 26) :: .ref (a 27) :: [])))]) (wr := []) [0] [] (rn_V (As := [.long 1819242087]) (rest := []) (b := o) (m_isWord l D Y Z H.size o a 6 1819242087) ⟨hx, hb, hml, hown, hg⟩ lk_X11_190 ⟨CP.blind, va_recv hKN.1 hP (ci := 11) (q0 := 0) rfl rfl, CP.at (hP.sub [0] rfl) hKN (hD.sub [0] (by decide) rfl)⟩ ⟨⟨rfl, rfl⟩, ⟨Nat.le_of_ble_eq_true rfl, Nat.le_of_ble_eq_true rfl⟩, ⟨Nat.le_of_ble_eq_true rfl, Nat.le_of_ble_eq_true rfl⟩⟩ hl.1 rfl (Nat.le_of_ble_eq_true rfl) dX11_clauseHere_141) hP hD hS hA rfl rfl (by decide) (by decide) (fun u24 H locs w25 hP hD hS => ?_)
  refine W.eq (g2 := F0 m 144 ls [.int 0]) rfl ?_
  have hP : va_P D vwCl [(o, .inr (11, (.ref (a 0) :: .ref (a 1) :: .ref (a 2) :: .int 0 :: .ref (a 3) :: .ref (a 4) :: .ref (a 5) :: .ref (a 6) :: .ref (a 7) :: .ref (a 8) :: .ref (a 9) :: .ref (a 10) :: .ref (a 11) :: .ref (a 12) :: .ref (a 13) :: .ref (a 14) :: .int 0 :: .int 0 :: .int 0 :: .int 6 :: .int 0 :: .int 0 :: .int 0 :: .ref (a 15) :: .int 0 :: .ref (a 16) :: .int 0 :: .ref (a 17) :: .ref (a 18) :: .int 0 :: .long 0 :: .long 0 :: .int 0 :: .long 0 :: .int 0 :: .int 0 :: .int 0 :: .long 0 :: .long 0 :: .int 0 :: .ref (a 19) :: .ref (a 20) :: .ref (a 21) :: .ref (a 22) :: .ref (a 23) :: .ref (a 24) :: .ref (a 25) :: .ref (a 26) :: .ref (a 27) :: [])))] H := hP
  have hD : va_D A [(o, .inr (11, (.ref (a 0) :: .ref (a 1) :: .ref (a 2) :: .int 0 :: .ref (a 3) :: .ref (a 4) :: .ref (a 5) :: .ref (a 6) :: .ref (a 7) :: .ref (a 8) :: .ref (a 9) :: .ref (a 10) :: .ref (a 11) :: .ref (a 12) :: .ref (a 13) :: .ref (a 14) :: .int 0 :: .int 0 :: .int 0 :: .int 6 :: .int 0 :: .int 0 :: .int 0 :: .ref (a 15) :: .int 0 :: .ref (a 16) :: .int 0 :: .ref (a 17) :: .ref (a 18) :: .int 0 :: .long 0 :: .long 0 :: .int 0 :: .long 0 :: .int 0 :: .int 0 :: .int 0 :: .long 0 :: .long 0 :: .int 0 :: .ref (a 19) :: .ref (a 20) :: .ref (a 21) :: .ref (a 22) :: .ref (a 23) :: .ref (a 24) :: .ref (a 25) :: .ref (a 26) :: .ref (a 27) :: [])))] := hD
  refine lv_if_ne (tgt := 167) hx hb dX11_clauseHere_144 (by decide) (fun c26 => ?_) (fun c26 => ?_)
  · exact absurd c26 (by decide)
  refine lv_aload_n hx hb dX11_clauseHere_147 rfl (lv_at hl 3 rfl) ?_
  refine lv_ldc2 (v := 465557353332) hx hb hown (hg _ kw_1487) dX11_clauseHere_148 ?_
  refine cg (wc := [(o, .inr (11, (.ref (a 0) :: .ref (a 1) :: .ref (a 2) :: .int 0 :: .ref (a 3) :: .ref (a 4) :: .ref (a 5) :: .ref (a 6) :: .ref (a 7) :: .ref (a 8) :: .ref (a 9) :: .ref (a 10) :: .ref (a 11) :: .ref (a 12) :: .ref (a 13) :: .ref (a 14) :: .int 0 :: .int 0 :: .int 0 :: .int 6 :: .int 0 :: .int 0 :: .int 0 :: .ref (a 15) :: .int 0 :: .ref (a 16) :: .int 0 :: .ref (a 17) :: .ref (a 18) :: .int 0 :: .long 0 :: .long 0 :: .int 0 :: .long 0 :: .int 0 :: .int 0 :: .int 0 :: .long 0 :: .long 0 :: .int 0 :: .ref (a 19) :: .ref (a 20) :: .ref (a 21) :: .ref (a 22) :: .ref (a 23) :: .ref (a 24) :: .ref (a 25) :: .ref (a 26) :: .ref (a 27) :: [])))]) (wr := []) [0] [] (rn_V (As := [.long 465557353332]) (rest := []) (b := o) (m_isWord l D Y Z H.size o a 6 465557353332) ⟨hx, hb, hml, hown, hg⟩ lk_X11_190 ⟨CP.blind, va_recv hKN.1 hP (ci := 11) (q0 := 0) rfl rfl, CP.at (hP.sub [0] rfl) hKN (hD.sub [0] (by decide) rfl)⟩ ⟨⟨rfl, rfl⟩, ⟨Nat.le_of_ble_eq_true rfl, Nat.le_of_ble_eq_true rfl⟩, ⟨Nat.le_of_ble_eq_true rfl, Nat.le_of_ble_eq_true rfl⟩⟩ hl.1 rfl (Nat.le_of_ble_eq_true rfl) dX11_clauseHere_151) hP hD hS hA rfl rfl (by decide) (by decide) (fun u27 H locs w28 hP hD hS => ?_)
  refine W.eq (g2 := F0 m 154 ls [.int 0]) rfl ?_
  have hP : va_P D vwCl [(o, .inr (11, (.ref (a 0) :: .ref (a 1) :: .ref (a 2) :: .int 0 :: .ref (a 3) :: .ref (a 4) :: .ref (a 5) :: .ref (a 6) :: .ref (a 7) :: .ref (a 8) :: .ref (a 9) :: .ref (a 10) :: .ref (a 11) :: .ref (a 12) :: .ref (a 13) :: .ref (a 14) :: .int 0 :: .int 0 :: .int 0 :: .int 6 :: .int 0 :: .int 0 :: .int 0 :: .ref (a 15) :: .int 0 :: .ref (a 16) :: .int 0 :: .ref (a 17) :: .ref (a 18) :: .int 0 :: .long 0 :: .long 0 :: .int 0 :: .long 0 :: .int 0 :: .int 0 :: .int 0 :: .long 0 :: .long 0 :: .int 0 :: .ref (a 19) :: .ref (a 20) :: .ref (a 21) :: .ref (a 22) :: .ref (a 23) :: .ref (a 24) :: .ref (a 25) :: .ref (a 26) :: .ref (a 27) :: [])))] H := hP
  have hD : va_D A [(o, .inr (11, (.ref (a 0) :: .ref (a 1) :: .ref (a 2) :: .int 0 :: .ref (a 3) :: .ref (a 4) :: .ref (a 5) :: .ref (a 6) :: .ref (a 7) :: .ref (a 8) :: .ref (a 9) :: .ref (a 10) :: .ref (a 11) :: .ref (a 12) :: .ref (a 13) :: .ref (a 14) :: .int 0 :: .int 0 :: .int 0 :: .int 6 :: .int 0 :: .int 0 :: .int 0 :: .ref (a 15) :: .int 0 :: .ref (a 16) :: .int 0 :: .ref (a 17) :: .ref (a 18) :: .int 0 :: .long 0 :: .long 0 :: .int 0 :: .long 0 :: .int 0 :: .int 0 :: .int 0 :: .long 0 :: .long 0 :: .int 0 :: .ref (a 19) :: .ref (a 20) :: .ref (a 21) :: .ref (a 22) :: .ref (a 23) :: .ref (a 24) :: .ref (a 25) :: .ref (a 26) :: .ref (a 27) :: [])))] := hD
  refine lv_if_ne (tgt := 167) hx hb dX11_clauseHere_154 (by decide) (fun c29 => ?_) (fun c29 => ?_)
  · exact absurd c29 (by decide)
  refine lv_aload_n hx hb dX11_clauseHere_157 rfl (lv_at hl 3 rfl) ?_
  refine lv_ldc2 (v := 1818848869) hx hb hown (hg _ kw_1488) dX11_clauseHere_158 ?_
  refine cg (wc := [(o, .inr (11, (.ref (a 0) :: .ref (a 1) :: .ref (a 2) :: .int 0 :: .ref (a 3) :: .ref (a 4) :: .ref (a 5) :: .ref (a 6) :: .ref (a 7) :: .ref (a 8) :: .ref (a 9) :: .ref (a 10) :: .ref (a 11) :: .ref (a 12) :: .ref (a 13) :: .ref (a 14) :: .int 0 :: .int 0 :: .int 0 :: .int 6 :: .int 0 :: .int 0 :: .int 0 :: .ref (a 15) :: .int 0 :: .ref (a 16) :: .int 0 :: .ref (a 17) :: .ref (a 18) :: .int 0 :: .long 0 :: .long 0 :: .int 0 :: .long 0 :: .int 0 :: .int 0 :: .int 0 :: .long 0 :: .long 0 :: .int 0 :: .ref (a 19) :: .ref (a 20) :: .ref (a 21) :: .ref (a 22) :: .ref (a 23) :: .ref (a 24) :: .ref (a 25) :: .ref (a 26) :: .ref (a 27) :: [])))]) (wr := []) [0] [] (rn_V (As := [.long 1818848869]) (rest := []) (b := o) (m_isWord l D Y Z H.size o a 6 1818848869) ⟨hx, hb, hml, hown, hg⟩ lk_X11_190 ⟨CP.blind, va_recv hKN.1 hP (ci := 11) (q0 := 0) rfl rfl, CP.at (hP.sub [0] rfl) hKN (hD.sub [0] (by decide) rfl)⟩ ⟨⟨rfl, rfl⟩, ⟨Nat.le_of_ble_eq_true rfl, Nat.le_of_ble_eq_true rfl⟩, ⟨Nat.le_of_ble_eq_true rfl, Nat.le_of_ble_eq_true rfl⟩⟩ hl.1 rfl (Nat.le_of_ble_eq_true rfl) dX11_clauseHere_161) hP hD hS hA rfl rfl (by decide) (by decide) (fun u30 H locs w31 hP hD hS => ?_)
  refine W.eq (g2 := F0 m 164 ls [.int 0]) rfl ?_
  have hP : va_P D vwCl [(o, .inr (11, (.ref (a 0) :: .ref (a 1) :: .ref (a 2) :: .int 0 :: .ref (a 3) :: .ref (a 4) :: .ref (a 5) :: .ref (a 6) :: .ref (a 7) :: .ref (a 8) :: .ref (a 9) :: .ref (a 10) :: .ref (a 11) :: .ref (a 12) :: .ref (a 13) :: .ref (a 14) :: .int 0 :: .int 0 :: .int 0 :: .int 6 :: .int 0 :: .int 0 :: .int 0 :: .ref (a 15) :: .int 0 :: .ref (a 16) :: .int 0 :: .ref (a 17) :: .ref (a 18) :: .int 0 :: .long 0 :: .long 0 :: .int 0 :: .long 0 :: .int 0 :: .int 0 :: .int 0 :: .long 0 :: .long 0 :: .int 0 :: .ref (a 19) :: .ref (a 20) :: .ref (a 21) :: .ref (a 22) :: .ref (a 23) :: .ref (a 24) :: .ref (a 25) :: .ref (a 26) :: .ref (a 27) :: [])))] H := hP
  have hD : va_D A [(o, .inr (11, (.ref (a 0) :: .ref (a 1) :: .ref (a 2) :: .int 0 :: .ref (a 3) :: .ref (a 4) :: .ref (a 5) :: .ref (a 6) :: .ref (a 7) :: .ref (a 8) :: .ref (a 9) :: .ref (a 10) :: .ref (a 11) :: .ref (a 12) :: .ref (a 13) :: .ref (a 14) :: .int 0 :: .int 0 :: .int 0 :: .int 6 :: .int 0 :: .int 0 :: .int 0 :: .ref (a 15) :: .int 0 :: .ref (a 16) :: .int 0 :: .ref (a 17) :: .ref (a 18) :: .int 0 :: .long 0 :: .long 0 :: .int 0 :: .long 0 :: .int 0 :: .int 0 :: .int 0 :: .long 0 :: .long 0 :: .int 0 :: .ref (a 19) :: .ref (a 20) :: .ref (a 21) :: .ref (a 22) :: .ref (a 23) :: .ref (a 24) :: .ref (a 25) :: .ref (a 26) :: .ref (a 27) :: [])))] := hD
  refine lv_if_eq (tgt := 171) hx hb dX11_clauseHere_164 (by decide) (fun c32 => ?_) (fun c32 => ?_)
  rotate_left
  · exact absurd c32 (by decide)
  refine lv_iconst (v := 0) hx hb dX11_clauseHere_171 (by decide) ?_
  refine lv_goto (tgt := 184) hx hb dX11_clauseHere_172 (by decide) ?_
  refine lv_istore (lv' := [(4, .int 0), (3, .int (-1)), (2, .int 1), (1, .int 0), (0, .ref o)]) hx hb dX11_clauseHere_184 hl (by decide) rfl (fun ls hl => ?_)
  refine lv_iload hx hb dX11_clauseHere_186 (lv_at hl 0 rfl) ?_
  refine lv_if_ne (tgt := 198) hx hb dX11_clauseHere_188 (by decide) (fun c33 => ?_) (fun c33 => ?_)
  · exact absurd c33 (by decide)
  refine lv_aload_n hx hb dX11_clauseHere_191 rfl (lv_at hl 4 rfl) ?_
  refine lv_iconst (v := 0) hx hb dX11_clauseHere_192 (by decide) ?_
  refine lv_iload_n hx hb dX11_clauseHere_193 rfl (lv_at hl 3 rfl) ?_
  refine cg (wc := [(o, .inr (11, (.ref (a 0) :: .ref (a 1) :: .ref (a 2) :: .int 0 :: .ref (a 3) :: .ref (a 4) :: .ref (a 5) :: .ref (a 6) :: .ref (a 7) :: .ref (a 8) :: .ref (a 9) :: .ref (a 10) :: .ref (a 11) :: .ref (a 12) :: .ref (a 13) :: .ref (a 14) :: .int 0 :: .int 0 :: .int 0 :: .int 6 :: .int 0 :: .int 0 :: .int 0 :: .ref (a 15) :: .int 0 :: .ref (a 16) :: .int 0 :: .ref (a 17) :: .ref (a 18) :: .int 0 :: .long 0 :: .long 0 :: .int 0 :: .long 0 :: .int 0 :: .int 0 :: .int 0 :: .long 0 :: .long 0 :: .int 0 :: .ref (a 19) :: .ref (a 20) :: .ref (a 21) :: .ref (a 22) :: .ref (a 23) :: .ref (a 24) :: .ref (a 25) :: .ref (a 26) :: .ref (a 27) :: [])))]) (wr := []) [0] [] (rn_V (As := [.int 0, .int 0]) (rest := []) (b := o) (m_fails l D Y Z H.size o a 6) ⟨hx, hb, hml, hown, hg⟩ lk_X11_200 ⟨CP.blind, va_recv hKN.1 hP (ci := 11) (q0 := 0) rfl rfl, CP.at (hP.sub [0] rfl) hKN (hD.sub [0] (by decide) rfl)⟩ ⟨⟨rfl, rfl⟩, ⟨Nat.le_of_ble_eq_true rfl, Nat.le_of_ble_eq_true rfl⟩, ⟨Nat.le_of_ble_eq_true rfl, Nat.le_of_ble_eq_true rfl⟩⟩ hl.1 rfl (Nat.le_of_ble_eq_true rfl) dX11_clauseHere_194) hP hD hS hA rfl rfl (by decide) (by decide) (fun u34 H locs w35 hP hD hS => ?_)
  refine W.eq (g2 := F0 m 197 ls [.int 0]) rfl ?_
  have hP : va_P D vwCl [(o, .inr (11, (.ref (a 0) :: .ref (a 1) :: .ref (a 2) :: .int 0 :: .ref (a 3) :: .ref (a 4) :: .ref (a 5) :: .ref (a 6) :: .ref (a 7) :: .ref (a 8) :: .ref (a 9) :: .ref (a 10) :: .ref (a 11) :: .ref (a 12) :: .ref (a 13) :: .ref (a 14) :: .int 0 :: .int 1 :: .int 0 :: .int 6 :: .int 0 :: .int 0 :: .int 0 :: .ref (a 15) :: .int 0 :: .ref (a 16) :: .int 0 :: .ref (a 17) :: .ref (a 18) :: .int 0 :: .long 0 :: .long 0 :: .int 0 :: .long 0 :: .int 0 :: .int 0 :: .int 0 :: .long 0 :: .long 0 :: .int 0 :: .ref (a 19) :: .ref (a 20) :: .ref (a 21) :: .ref (a 22) :: .ref (a 23) :: .ref (a 24) :: .ref (a 25) :: .ref (a 26) :: .ref (a 27) :: [])))] H := hP
  have hD : va_D A [(o, .inr (11, (.ref (a 0) :: .ref (a 1) :: .ref (a 2) :: .int 0 :: .ref (a 3) :: .ref (a 4) :: .ref (a 5) :: .ref (a 6) :: .ref (a 7) :: .ref (a 8) :: .ref (a 9) :: .ref (a 10) :: .ref (a 11) :: .ref (a 12) :: .ref (a 13) :: .ref (a 14) :: .int 0 :: .int 1 :: .int 0 :: .int 6 :: .int 0 :: .int 0 :: .int 0 :: .ref (a 15) :: .int 0 :: .ref (a 16) :: .int 0 :: .ref (a 17) :: .ref (a 18) :: .int 0 :: .long 0 :: .long 0 :: .int 0 :: .long 0 :: .int 0 :: .int 0 :: .int 0 :: .long 0 :: .long 0 :: .int 0 :: .ref (a 19) :: .ref (a 20) :: .ref (a 21) :: .ref (a 22) :: .ref (a 23) :: .ref (a 24) :: .ref (a 25) :: .ref (a 26) :: .ref (a 27) :: [])))] := hD
  refine W.widen (k := 0) (n := 0) (Nat.le_of_ble_eq_true rfl) (Nat.le_of_ble_eq_true rfl) ?_
  exact W.zret (v := 0) hx hb hr (by decide) (fun t ht hW => ⟨⟨(), rfl, trivial, CB.mk ht (hP.sub [0] rfl) (hD.sub [0] (by decide) rfl)⟩, hS.F ht⟩) hS.2.2 dX11_clauseHere_197
set_option maxHeartbeats 4000000 in
set_option maxRecDepth 100000 in
theorem m_clauseHere12 (l : Launch) (D : va_G) (Y : Nat → ClassId) (Z : Nat → Nat) (sz : Nat) (o : Nat) (a : Nat → Nat) : Met l yX11_clauseHere (.code yX11_clauseHere cX11_clauseHere 5 (some .boolean) :: GW) ({ frames := 2, cells := 0, slots := 0, locals := 46 }) (va_Pc [.ref o] (CP D Y Z [(o, .inr (11, (.ref (a 0) :: .ref (a 1) :: .ref (a 2) :: .int 0 :: .ref (a 3) :: .ref (a 4) :: .ref (a 5) :: .ref (a 6) :: .ref (a 7) :: .ref (a 8) :: .ref (a 9) :: .ref (a 10) :: .ref (a 11) :: .ref (a 12) :: .ref (a 13) :: .ref (a 14) :: .int 0 :: .int 0 :: .int 0 :: .int 12 :: .int 0 :: .int 0 :: .int 0 :: .ref (a 15) :: .int 0 :: .ref (a 16) :: .int 0 :: .ref (a 17) :: .ref (a 18) :: .int 0 :: .long 0 :: .long 0 :: .int 0 :: .long 0 :: .int 0 :: .int 0 :: .int 0 :: .long 0 :: .long 0 :: .int 0 :: .ref (a 19) :: .ref (a 20) :: .ref (a 21) :: .ref (a 22) :: .ref (a 23) :: .ref (a 24) :: .ref (a 25) :: .ref (a 26) :: .ref (a 27) :: [])))] sz)) (QG (S := Unit) (fun _ => some (.int 0)) (fun _ => True) (fun u => CB D ((fun _ => [(o, .inr (11, (.ref (a 0) :: .ref (a 1) :: .ref (a 2) :: .int 0 :: .ref (a 3) :: .ref (a 4) :: .ref (a 5) :: .ref (a 6) :: .ref (a 7) :: .ref (a 8) :: .ref (a 9) :: .ref (a 10) :: .ref (a 11) :: .ref (a 12) :: .ref (a 13) :: .ref (a 14) :: .int 0 :: .int 1 :: .int 0 :: .int 12 :: .int 0 :: .int 0 :: .int 0 :: .ref (a 15) :: .int 0 :: .ref (a 16) :: .int 0 :: .ref (a 17) :: .ref (a 18) :: .int 0 :: .long 0 :: .long 0 :: .int 0 :: .long 0 :: .int 0 :: .int 0 :: .int 0 :: .long 0 :: .long 0 :: .int 0 :: .ref (a 19) :: .ref (a 20) :: .ref (a 21) :: .ref (a 22) :: .ref (a 23) :: .ref (a 24) :: .ref (a 25) :: .ref (a 26) :: .ref (a 27) :: [])))]) u) (va_A [(o, .inr (11, (.ref (a 0) :: .ref (a 1) :: .ref (a 2) :: .int 0 :: .ref (a 3) :: .ref (a 4) :: .ref (a 5) :: .ref (a 6) :: .ref (a 7) :: .ref (a 8) :: .ref (a 9) :: .ref (a 10) :: .ref (a 11) :: .ref (a 12) :: .ref (a 13) :: .ref (a 14) :: .int 0 :: .int 0 :: .int 0 :: .int 12 :: .int 0 :: .int 0 :: .int 0 :: .ref (a 15) :: .int 0 :: .ref (a 16) :: .int 0 :: .ref (a 17) :: .ref (a 18) :: .int 0 :: .long 0 :: .long 0 :: .int 0 :: .long 0 :: .int 0 :: .int 0 :: .int 0 :: .long 0 :: .long 0 :: .int 0 :: .ref (a 19) :: .ref (a 20) :: .ref (a 21) :: .ref (a 22) :: .ref (a 23) :: .ref (a 24) :: .ref (a 25) :: .ref (a 26) :: .ref (a 27) :: [])))] sz)) (va_A [(o, .inr (11, (.ref (a 0) :: .ref (a 1) :: .ref (a 2) :: .int 0 :: .ref (a 3) :: .ref (a 4) :: .ref (a 5) :: .ref (a 6) :: .ref (a 7) :: .ref (a 8) :: .ref (a 9) :: .ref (a 10) :: .ref (a 11) :: .ref (a 12) :: .ref (a 13) :: .ref (a 14) :: .int 0 :: .int 0 :: .int 0 :: .int 12 :: .int 0 :: .int 0 :: .int 0 :: .ref (a 15) :: .int 0 :: .ref (a 16) :: .int 0 :: .ref (a 17) :: .ref (a 18) :: .int 0 :: .long 0 :: .long 0 :: .int 0 :: .long 0 :: .int 0 :: .int 0 :: .int 0 :: .long 0 :: .long 0 :: .int 0 :: .ref (a 19) :: .ref (a 20) :: .ref (a 21) :: .ref (a 22) :: .ref (a 23) :: .ref (a 24) :: .ref (a 25) :: .ref (a 26) :: .ref (a 27) :: [])))] sz)) 0 0 (va_A [(o, .inr (11, (.ref (a 0) :: .ref (a 1) :: .ref (a 2) :: .int 0 :: .ref (a 3) :: .ref (a 4) :: .ref (a 5) :: .ref (a 6) :: .ref (a 7) :: .ref (a 8) :: .ref (a 9) :: .ref (a 10) :: .ref (a 11) :: .ref (a 12) :: .ref (a 13) :: .ref (a 14) :: .int 0 :: .int 0 :: .int 0 :: .int 12 :: .int 0 :: .int 0 :: .int 0 :: .ref (a 15) :: .int 0 :: .ref (a 16) :: .int 0 :: .ref (a 17) :: .ref (a 18) :: .int 0 :: .long 0 :: .long 0 :: .int 0 :: .long 0 :: .int 0 :: .int 0 :: .int 0 :: .long 0 :: .long 0 :: .int 0 :: .ref (a 19) :: .ref (a 20) :: .ref (a 21) :: .ref (a 22) :: .ref (a 23) :: .ref (a 24) :: .ref (a 25) :: .ref (a 26) :: .ref (a 27) :: [])))] sz) := by
  refine Met.ofW (cc := cX11_clauseHere) (maxL := 5) (ret := (some .boolean)) (by decide) rfl ?_
  intro p e s m args below meth c s₁ B hml hv
  obtain ⟨rfl, hsz, hP, hKN, hD0⟩ := hv
  have hx := B.exec
  have hb := B.bytes
  have hr := B.returns
  have hts := atoms_spec (ws := .code yX11_clauseHere cX11_clauseHere 5 (some .boolean) :: GW) B.pre
  have hg : ∀ w ∈ GW, w.before _ s = true := fun w h => hts w (List.mem_cons_of_mem _ h)
  have hown : s.vm.findClass RX11 = some m.cls := findClass_of_methodNamed B.named
  have hlocks := B.notSynchronized
  subst hsz
  have hD := hD0.self (sz := s.heap.size)
  generalize hAe : va_A [(o, .inr (11, (.ref (a 0) :: .ref (a 1) :: .ref (a 2) :: .int 0 :: .ref (a 3) :: .ref (a 4) :: .ref (a 5) :: .ref (a 6) :: .ref (a 7) :: .ref (a 8) :: .ref (a 9) :: .ref (a 10) :: .ref (a 11) :: .ref (a 12) :: .ref (a 13) :: .ref (a 14) :: .int 0 :: .int 0 :: .int 0 :: .int 12 :: .int 0 :: .int 0 :: .int 0 :: .ref (a 15) :: .int 0 :: .ref (a 16) :: .int 0 :: .ref (a 17) :: .ref (a 18) :: .int 0 :: .long 0 :: .long 0 :: .int 0 :: .long 0 :: .int 0 :: .int 0 :: .int 0 :: .long 0 :: .long 0 :: .int 0 :: .ref (a 19) :: .ref (a 20) :: .ref (a 21) :: .ref (a 22) :: .ref (a 23) :: .ref (a 24) :: .ref (a 25) :: .ref (a 26) :: .ref (a 27) :: [])))] s.heap.size = A at hD ⊢
  have hA : ∀ q : Nat, s.heap.size ≤ q → A q := fun q h => by rw [← hAe]; exact Or.inr h
  have hl := lv_entry ([.ref o]) (n := 5) (Nat.le_of_ble_eq_true rfl)
  rw [lg_entry_eq]
  generalize (lg_sl ([.ref o]) ++ List.replicate (5 - (lg_sl ([.ref o])).length) Slot.unset).toArray = ls at hl ⊢
  have hl : lv_has ls 5 [(0, .ref o)] := hl
  refine w_start (A0 := A) hP (fun H locs hP hS => ?_)
  refine lv_aload_n hx hb dX11_clauseHere_0 rfl (lv_at hl 0 rfl) ?_
  refine cg (wc := [(o, .inr (11, (.ref (a 0) :: .ref (a 1) :: .ref (a 2) :: .int 0 :: .ref (a 3) :: .ref (a 4) :: .ref (a 5) :: .ref (a 6) :: .ref (a 7) :: .ref (a 8) :: .ref (a 9) :: .ref (a 10) :: .ref (a 11) :: .ref (a 12) :: .ref (a 13) :: .ref (a 14) :: .int 0 :: .int 0 :: .int 0 :: .int 12 :: .int 0 :: .int 0 :: .int 0 :: .ref (a 15) :: .int 0 :: .ref (a 16) :: .int 0 :: .ref (a 17) :: .ref (a 18) :: .int 0 :: .long 0 :: .long 0 :: .int 0 :: .long 0 :: .int 0 :: .int 0 :: .int 0 :: .long 0 :: .long 0 :: .int 0 :: .ref (a 19) :: .ref (a 20) :: .ref (a 21) :: .ref (a 22) :: .ref (a 23) :: .ref (a 24) :: .ref (a 25) :: .ref (a 26) :: .ref (a 27) :: [])))]) (wr := []) [0] [] (rn_V (As := []) (rest := []) (b := o) (m_see l D Y Z H.size o a 12) ⟨hx, hb, hml, hown, hg⟩ lk_X11_183 ⟨CP.blind, va_recv hKN.1 hP (ci := 11) (q0 := 0) rfl rfl, CP.at (hP.sub [0] rfl) hKN (hD.sub [0] (by decide) rfl)⟩ ⟨⟨rfl, rfl⟩, ⟨Nat.le_of_ble_eq_true rfl, Nat.le_of_ble_eq_true rfl⟩, ⟨Nat.le_of_ble_eq_true rfl, Nat.le_of_ble_eq_true rfl⟩⟩ hl.1 rfl (Nat.le_of_ble_eq_true rfl) dX11_clauseHere_1) hP hD hS hA rfl rfl (by decide) (by decide) (fun u1 H locs w2 hP hD hS => ?_)
  refine W.eq (g2 := F0 m 4 ls [.int (-1)]) rfl ?_
  have hP : va_P D vwCl [(o, .inr (11, (.ref (a 0) :: .ref (a 1) :: .ref (a 2) :: .int 0 :: .ref (a 3) :: .ref (a 4) :: .ref (a 5) :: .ref (a 6) :: .ref (a 7) :: .ref (a 8) :: .ref (a 9) :: .ref (a 10) :: .ref (a 11) :: .ref (a 12) :: .ref (a 13) :: .ref (a 14) :: .int 0 :: .int 0 :: .int 0 :: .int 12 :: .int 0 :: .int 0 :: .int 0 :: .ref (a 15) :: .int 0 :: .ref (a 16) :: .int 0 :: .ref (a 17) :: .ref (a 18) :: .int 0 :: .long 0 :: .long 0 :: .int 0 :: .long 0 :: .int 0 :: .int 0 :: .int 0 :: .long 0 :: .long 0 :: .int 0 :: .ref (a 19) :: .ref (a 20) :: .ref (a 21) :: .ref (a 22) :: .ref (a 23) :: .ref (a 24) :: .ref (a 25) :: .ref (a 26) :: .ref (a 27) :: [])))] H := hP
  have hD : va_D A [(o, .inr (11, (.ref (a 0) :: .ref (a 1) :: .ref (a 2) :: .int 0 :: .ref (a 3) :: .ref (a 4) :: .ref (a 5) :: .ref (a 6) :: .ref (a 7) :: .ref (a 8) :: .ref (a 9) :: .ref (a 10) :: .ref (a 11) :: .ref (a 12) :: .ref (a 13) :: .ref (a 14) :: .int 0 :: .int 0 :: .int 0 :: .int 12 :: .int 0 :: .int 0 :: .int 0 :: .ref (a 15) :: .int 0 :: .ref (a 16) :: .int 0 :: .ref (a 17) :: .ref (a 18) :: .int 0 :: .long 0 :: .long 0 :: .int 0 :: .long 0 :: .int 0 :: .int 0 :: .int 0 :: .long 0 :: .long 0 :: .int 0 :: .ref (a 19) :: .ref (a 20) :: .ref (a 21) :: .ref (a 22) :: .ref (a 23) :: .ref (a 24) :: .ref (a 25) :: .ref (a 26) :: .ref (a 27) :: [])))] := hD
  refine lv_pop hx hb dX11_clauseHere_4 rfl ?_
  refine lv_aload_n hx hb dX11_clauseHere_5 rfl (lv_at hl 0 rfl) ?_
  refine va_get (D := D) (ci := 11) (v := .int 0) (C := RX11) (T := TX11) (N := 49) hx hb hg inGX11 hown hKN.1 hP 0 rfl rfl 16 (by decide) (hg _ kw_1224) (fun _ h9 => h9) rfl dX11_clauseHere_6 ?_
  refine lv_istore_n (lv' := [(1, .int 0), (0, .ref o)]) hx hb dX11_clauseHere_9 rfl hl (by decide) rfl (fun ls hl => ?_)
  refine lv_aload_n hx hb dX11_clauseHere_10 rfl (lv_at hl 1 rfl) ?_
  refine va_get (D := D) (ci := 11) (v := .int 12) (C := RX11) (T := TX11) (N := 49) hx hb hg inGX11 hown hKN.1 hP 0 rfl rfl 19 (by decide) (hg _ kw_1227) (fun _ h9 => h9) rfl dX11_clauseHere_11 ?_
  refine lv_bipush (v := 6) hx hb dX11_clauseHere_14 (by decide) ?_
  refine lv_idiv hx hb dX11_clauseHere_16 (by decide) ?_
  refine lv_topi (fun z3 ez3 => ?_)
  obtain rfl : z3 = 2 := ez3.trans (by decide)
  refine lv_istore_n (lv' := [(2, .int 2), (1, .int 0), (0, .ref o)]) hx hb dX11_clauseHere_17 rfl hl (by decide) rfl (fun ls hl => ?_)
  refine lv_aload_n hx hb dX11_clauseHere_18 rfl (lv_at hl 2 rfl) ?_
  refine lv_ldc2 (v := 512970878052) hx hb hown (hg _ kw_1470) dX11_clauseHere_19 ?_
  refine cg (wc := [(o, .inr (11, (.ref (a 0) :: .ref (a 1) :: .ref (a 2) :: .int 0 :: .ref (a 3) :: .ref (a 4) :: .ref (a 5) :: .ref (a 6) :: .ref (a 7) :: .ref (a 8) :: .ref (a 9) :: .ref (a 10) :: .ref (a 11) :: .ref (a 12) :: .ref (a 13) :: .ref (a 14) :: .int 0 :: .int 0 :: .int 0 :: .int 12 :: .int 0 :: .int 0 :: .int 0 :: .ref (a 15) :: .int 0 :: .ref (a 16) :: .int 0 :: .ref (a 17) :: .ref (a 18) :: .int 0 :: .long 0 :: .long 0 :: .int 0 :: .long 0 :: .int 0 :: .int 0 :: .int 0 :: .long 0 :: .long 0 :: .int 0 :: .ref (a 19) :: .ref (a 20) :: .ref (a 21) :: .ref (a 22) :: .ref (a 23) :: .ref (a 24) :: .ref (a 25) :: .ref (a 26) :: .ref (a 27) :: [])))]) (wr := []) [0] [] (rn_V (As := [.long 512970878052]) (rest := []) (b := o) (m_isWord l D Y Z H.size o a 12 512970878052) ⟨hx, hb, hml, hown, hg⟩ lk_X11_190 ⟨CP.blind, va_recv hKN.1 hP (ci := 11) (q0 := 0) rfl rfl, CP.at (hP.sub [0] rfl) hKN (hD.sub [0] (by decide) rfl)⟩ ⟨⟨rfl, rfl⟩, ⟨Nat.le_of_ble_eq_true rfl, Nat.le_of_ble_eq_true rfl⟩, ⟨Nat.le_of_ble_eq_true rfl, Nat.le_of_ble_eq_true rfl⟩⟩ hl.1 rfl (Nat.le_of_ble_eq_true rfl) dX11_clauseHere_22) hP hD hS hA rfl rfl (by decide) (by decide) (fun u4 H locs w5 hP hD hS => ?_)
  refine W.eq (g2 := F0 m 25 ls [.int 0]) rfl ?_
  have hP : va_P D vwCl [(o, .inr (11, (.ref (a 0) :: .ref (a 1) :: .ref (a 2) :: .int 0 :: .ref (a 3) :: .ref (a 4) :: .ref (a 5) :: .ref (a 6) :: .ref (a 7) :: .ref (a 8) :: .ref (a 9) :: .ref (a 10) :: .ref (a 11) :: .ref (a 12) :: .ref (a 13) :: .ref (a 14) :: .int 0 :: .int 0 :: .int 0 :: .int 12 :: .int 0 :: .int 0 :: .int 0 :: .ref (a 15) :: .int 0 :: .ref (a 16) :: .int 0 :: .ref (a 17) :: .ref (a 18) :: .int 0 :: .long 0 :: .long 0 :: .int 0 :: .long 0 :: .int 0 :: .int 0 :: .int 0 :: .long 0 :: .long 0 :: .int 0 :: .ref (a 19) :: .ref (a 20) :: .ref (a 21) :: .ref (a 22) :: .ref (a 23) :: .ref (a 24) :: .ref (a 25) :: .ref (a 26) :: .ref (a 27) :: [])))] H := hP
  have hD : va_D A [(o, .inr (11, (.ref (a 0) :: .ref (a 1) :: .ref (a 2) :: .int 0 :: .ref (a 3) :: .ref (a 4) :: .ref (a 5) :: .ref (a 6) :: .ref (a 7) :: .ref (a 8) :: .ref (a 9) :: .ref (a 10) :: .ref (a 11) :: .ref (a 12) :: .ref (a 13) :: .ref (a 14) :: .int 0 :: .int 0 :: .int 0 :: .int 12 :: .int 0 :: .int 0 :: .int 0 :: .ref (a 15) :: .int 0 :: .ref (a 16) :: .int 0 :: .ref (a 17) :: .ref (a 18) :: .int 0 :: .long 0 :: .long 0 :: .int 0 :: .long 0 :: .int 0 :: .int 0 :: .int 0 :: .long 0 :: .long 0 :: .int 0 :: .ref (a 19) :: .ref (a 20) :: .ref (a 21) :: .ref (a 22) :: .ref (a 23) :: .ref (a 24) :: .ref (a 25) :: .ref (a 26) :: .ref (a 27) :: [])))] := hD
  refine lv_if_eq (tgt := 32) hx hb dX11_clauseHere_25 (by decide) (fun c6 => ?_) (fun c6 => ?_)
  rotate_left
  · exact absurd c6 (by decide)
  refine lv_aload_n hx hb dX11_clauseHere_32 rfl (lv_at hl 2 rfl) ?_
  refine lv_ldc2 (v := 1885432178) hx hb hown (hg _ kw_1479) dX11_clauseHere_33 ?_
  refine cg (wc := [(o, .inr (11, (.ref (a 0) :: .ref (a 1) :: .ref (a 2) :: .int 0 :: .ref (a 3) :: .ref (a 4) :: .ref (a 5) :: .ref (a 6) :: .ref (a 7) :: .ref (a 8) :: .ref (a 9) :: .ref (a 10) :: .ref (a 11) :: .ref (a 12) :: .ref (a 13) :: .ref (a 14) :: .int 0 :: .int 0 :: .int 0 :: .int 12 :: .int 0 :: .int 0 :: .int 0 :: .ref (a 15) :: .int 0 :: .ref (a 16) :: .int 0 :: .ref (a 17) :: .ref (a 18) :: .int 0 :: .long 0 :: .long 0 :: .int 0 :: .long 0 :: .int 0 :: .int 0 :: .int 0 :: .long 0 :: .long 0 :: .int 0 :: .ref (a 19) :: .ref (a 20) :: .ref (a 21) :: .ref (a 22) :: .ref (a 23) :: .ref (a 24) :: .ref (a 25) :: .ref (a 26) :: .ref (a 27) :: [])))]) (wr := []) [0] [] (rn_V (As := [.long 1885432178]) (rest := []) (b := o) (m_isWord l D Y Z H.size o a 12 1885432178) ⟨hx, hb, hml, hown, hg⟩ lk_X11_190 ⟨CP.blind, va_recv hKN.1 hP (ci := 11) (q0 := 0) rfl rfl, CP.at (hP.sub [0] rfl) hKN (hD.sub [0] (by decide) rfl)⟩ ⟨⟨rfl, rfl⟩, ⟨Nat.le_of_ble_eq_true rfl, Nat.le_of_ble_eq_true rfl⟩, ⟨Nat.le_of_ble_eq_true rfl, Nat.le_of_ble_eq_true rfl⟩⟩ hl.1 rfl (Nat.le_of_ble_eq_true rfl) dX11_clauseHere_36) hP hD hS hA rfl rfl (by decide) (by decide) (fun u7 H locs w8 hP hD hS => ?_)
  refine W.eq (g2 := F0 m 39 ls [.int 0]) rfl ?_
  have hP : va_P D vwCl [(o, .inr (11, (.ref (a 0) :: .ref (a 1) :: .ref (a 2) :: .int 0 :: .ref (a 3) :: .ref (a 4) :: .ref (a 5) :: .ref (a 6) :: .ref (a 7) :: .ref (a 8) :: .ref (a 9) :: .ref (a 10) :: .ref (a 11) :: .ref (a 12) :: .ref (a 13) :: .ref (a 14) :: .int 0 :: .int 0 :: .int 0 :: .int 12 :: .int 0 :: .int 0 :: .int 0 :: .ref (a 15) :: .int 0 :: .ref (a 16) :: .int 0 :: .ref (a 17) :: .ref (a 18) :: .int 0 :: .long 0 :: .long 0 :: .int 0 :: .long 0 :: .int 0 :: .int 0 :: .int 0 :: .long 0 :: .long 0 :: .int 0 :: .ref (a 19) :: .ref (a 20) :: .ref (a 21) :: .ref (a 22) :: .ref (a 23) :: .ref (a 24) :: .ref (a 25) :: .ref (a 26) :: .ref (a 27) :: [])))] H := hP
  have hD : va_D A [(o, .inr (11, (.ref (a 0) :: .ref (a 1) :: .ref (a 2) :: .int 0 :: .ref (a 3) :: .ref (a 4) :: .ref (a 5) :: .ref (a 6) :: .ref (a 7) :: .ref (a 8) :: .ref (a 9) :: .ref (a 10) :: .ref (a 11) :: .ref (a 12) :: .ref (a 13) :: .ref (a 14) :: .int 0 :: .int 0 :: .int 0 :: .int 12 :: .int 0 :: .int 0 :: .int 0 :: .ref (a 15) :: .int 0 :: .ref (a 16) :: .int 0 :: .ref (a 17) :: .ref (a 18) :: .int 0 :: .long 0 :: .long 0 :: .int 0 :: .long 0 :: .int 0 :: .int 0 :: .int 0 :: .long 0 :: .long 0 :: .int 0 :: .ref (a 19) :: .ref (a 20) :: .ref (a 21) :: .ref (a 22) :: .ref (a 23) :: .ref (a 24) :: .ref (a 25) :: .ref (a 26) :: .ref (a 27) :: [])))] := hD
  refine lv_if_eq (tgt := 46) hx hb dX11_clauseHere_39 (by decide) (fun c9 => ?_) (fun c9 => ?_)
  rotate_left
  · exact absurd c9 (by decide)
  refine lv_aload_n hx hb dX11_clauseHere_46 rfl (lv_at hl 2 rfl) ?_
  refine lv_ldc2 (v := 1936748404) hx hb hown (hg _ kw_1480) dX11_clauseHere_47 ?_
  refine cg (wc := [(o, .inr (11, (.ref (a 0) :: .ref (a 1) :: .ref (a 2) :: .int 0 :: .ref (a 3) :: .ref (a 4) :: .ref (a 5) :: .ref (a 6) :: .ref (a 7) :: .ref (a 8) :: .ref (a 9) :: .ref (a 10) :: .ref (a 11) :: .ref (a 12) :: .ref (a 13) :: .ref (a 14) :: .int 0 :: .int 0 :: .int 0 :: .int 12 :: .int 0 :: .int 0 :: .int 0 :: .ref (a 15) :: .int 0 :: .ref (a 16) :: .int 0 :: .ref (a 17) :: .ref (a 18) :: .int 0 :: .long 0 :: .long 0 :: .int 0 :: .long 0 :: .int 0 :: .int 0 :: .int 0 :: .long 0 :: .long 0 :: .int 0 :: .ref (a 19) :: .ref (a 20) :: .ref (a 21) :: .ref (a 22) :: .ref (a 23) :: .ref (a 24) :: .ref (a 25) :: .ref (a 26) :: .ref (a 27) :: [])))]) (wr := []) [0] [] (rn_V (As := [.long 1936748404]) (rest := []) (b := o) (m_isWord l D Y Z H.size o a 12 1936748404) ⟨hx, hb, hml, hown, hg⟩ lk_X11_190 ⟨CP.blind, va_recv hKN.1 hP (ci := 11) (q0 := 0) rfl rfl, CP.at (hP.sub [0] rfl) hKN (hD.sub [0] (by decide) rfl)⟩ ⟨⟨rfl, rfl⟩, ⟨Nat.le_of_ble_eq_true rfl, Nat.le_of_ble_eq_true rfl⟩, ⟨Nat.le_of_ble_eq_true rfl, Nat.le_of_ble_eq_true rfl⟩⟩ hl.1 rfl (Nat.le_of_ble_eq_true rfl) dX11_clauseHere_50) hP hD hS hA rfl rfl (by decide) (by decide) (fun u10 H locs w11 hP hD hS => ?_)
  refine W.eq (g2 := F0 m 53 ls [.int 0]) rfl ?_
  have hP : va_P D vwCl [(o, .inr (11, (.ref (a 0) :: .ref (a 1) :: .ref (a 2) :: .int 0 :: .ref (a 3) :: .ref (a 4) :: .ref (a 5) :: .ref (a 6) :: .ref (a 7) :: .ref (a 8) :: .ref (a 9) :: .ref (a 10) :: .ref (a 11) :: .ref (a 12) :: .ref (a 13) :: .ref (a 14) :: .int 0 :: .int 0 :: .int 0 :: .int 12 :: .int 0 :: .int 0 :: .int 0 :: .ref (a 15) :: .int 0 :: .ref (a 16) :: .int 0 :: .ref (a 17) :: .ref (a 18) :: .int 0 :: .long 0 :: .long 0 :: .int 0 :: .long 0 :: .int 0 :: .int 0 :: .int 0 :: .long 0 :: .long 0 :: .int 0 :: .ref (a 19) :: .ref (a 20) :: .ref (a 21) :: .ref (a 22) :: .ref (a 23) :: .ref (a 24) :: .ref (a 25) :: .ref (a 26) :: .ref (a 27) :: [])))] H := hP
  have hD : va_D A [(o, .inr (11, (.ref (a 0) :: .ref (a 1) :: .ref (a 2) :: .int 0 :: .ref (a 3) :: .ref (a 4) :: .ref (a 5) :: .ref (a 6) :: .ref (a 7) :: .ref (a 8) :: .ref (a 9) :: .ref (a 10) :: .ref (a 11) :: .ref (a 12) :: .ref (a 13) :: .ref (a 14) :: .int 0 :: .int 0 :: .int 0 :: .int 12 :: .int 0 :: .int 0 :: .int 0 :: .ref (a 15) :: .int 0 :: .ref (a 16) :: .int 0 :: .ref (a 17) :: .ref (a 18) :: .int 0 :: .long 0 :: .long 0 :: .int 0 :: .long 0 :: .int 0 :: .int 0 :: .int 0 :: .long 0 :: .long 0 :: .int 0 :: .ref (a 19) :: .ref (a 20) :: .ref (a 21) :: .ref (a 22) :: .ref (a 23) :: .ref (a 24) :: .ref (a 25) :: .ref (a 26) :: .ref (a 27) :: [])))] := hD
  refine lv_if_eq (tgt := 60) hx hb dX11_clauseHere_53 (by decide) (fun c12 => ?_) (fun c12 => ?_)
  rotate_left
  · exact absurd c12 (by decide)
  refine lv_aload_n hx hb dX11_clauseHere_60 rfl (lv_at hl 2 rfl) ?_
  refine lv_ldc2 (v := 444199957363) hx hb hown (hg _ kw_1481) dX11_clauseHere_61 ?_
  refine cg (wc := [(o, .inr (11, (.ref (a 0) :: .ref (a 1) :: .ref (a 2) :: .int 0 :: .ref (a 3) :: .ref (a 4) :: .ref (a 5) :: .ref (a 6) :: .ref (a 7) :: .ref (a 8) :: .ref (a 9) :: .ref (a 10) :: .ref (a 11) :: .ref (a 12) :: .ref (a 13) :: .ref (a 14) :: .int 0 :: .int 0 :: .int 0 :: .int 12 :: .int 0 :: .int 0 :: .int 0 :: .ref (a 15) :: .int 0 :: .ref (a 16) :: .int 0 :: .ref (a 17) :: .ref (a 18) :: .int 0 :: .long 0 :: .long 0 :: .int 0 :: .long 0 :: .int 0 :: .int 0 :: .int 0 :: .long 0 :: .long 0 :: .int 0 :: .ref (a 19) :: .ref (a 20) :: .ref (a 21) :: .ref (a 22) :: .ref (a 23) :: .ref (a 24) :: .ref (a 25) :: .ref (a 26) :: .ref (a 27) :: [])))]) (wr := []) [0] [] (rn_V (As := [.long 444199957363]) (rest := []) (b := o) (m_isWord l D Y Z H.size o a 12 444199957363) ⟨hx, hb, hml, hown, hg⟩ lk_X11_190 ⟨CP.blind, va_recv hKN.1 hP (ci := 11) (q0 := 0) rfl rfl, CP.at (hP.sub [0] rfl) hKN (hD.sub [0] (by decide) rfl)⟩ ⟨⟨rfl, rfl⟩, ⟨Nat.le_of_ble_eq_true rfl, Nat.le_of_ble_eq_true rfl⟩, ⟨Nat.le_of_ble_eq_true rfl, Nat.le_of_ble_eq_true rfl⟩⟩ hl.1 rfl (Nat.le_of_ble_eq_true rfl) dX11_clauseHere_64) hP hD hS hA rfl rfl (by decide) (by decide) (fun u13 H locs w14 hP hD hS => ?_)
  refine W.eq (g2 := F0 m 67 ls [.int 0]) rfl ?_
  have hP : va_P D vwCl [(o, .inr (11, (.ref (a 0) :: .ref (a 1) :: .ref (a 2) :: .int 0 :: .ref (a 3) :: .ref (a 4) :: .ref (a 5) :: .ref (a 6) :: .ref (a 7) :: .ref (a 8) :: .ref (a 9) :: .ref (a 10) :: .ref (a 11) :: .ref (a 12) :: .ref (a 13) :: .ref (a 14) :: .int 0 :: .int 0 :: .int 0 :: .int 12 :: .int 0 :: .int 0 :: .int 0 :: .ref (a 15) :: .int 0 :: .ref (a 16) :: .int 0 :: .ref (a 17) :: .ref (a 18) :: .int 0 :: .long 0 :: .long 0 :: .int 0 :: .long 0 :: .int 0 :: .int 0 :: .int 0 :: .long 0 :: .long 0 :: .int 0 :: .ref (a 19) :: .ref (a 20) :: .ref (a 21) :: .ref (a 22) :: .ref (a 23) :: .ref (a 24) :: .ref (a 25) :: .ref (a 26) :: .ref (a 27) :: [])))] H := hP
  have hD : va_D A [(o, .inr (11, (.ref (a 0) :: .ref (a 1) :: .ref (a 2) :: .int 0 :: .ref (a 3) :: .ref (a 4) :: .ref (a 5) :: .ref (a 6) :: .ref (a 7) :: .ref (a 8) :: .ref (a 9) :: .ref (a 10) :: .ref (a 11) :: .ref (a 12) :: .ref (a 13) :: .ref (a 14) :: .int 0 :: .int 0 :: .int 0 :: .int 12 :: .int 0 :: .int 0 :: .int 0 :: .ref (a 15) :: .int 0 :: .ref (a 16) :: .int 0 :: .ref (a 17) :: .ref (a 18) :: .int 0 :: .long 0 :: .long 0 :: .int 0 :: .long 0 :: .int 0 :: .int 0 :: .int 0 :: .long 0 :: .long 0 :: .int 0 :: .ref (a 19) :: .ref (a 20) :: .ref (a 21) :: .ref (a 22) :: .ref (a 23) :: .ref (a 24) :: .ref (a 25) :: .ref (a 26) :: .ref (a 27) :: [])))] := hD
  refine lv_if_eq (tgt := 74) hx hb dX11_clauseHere_67 (by decide) (fun c15 => ?_) (fun c15 => ?_)
  rotate_left
  · exact absurd c15 (by decide)
  refine lv_aload_n hx hb dX11_clauseHere_74 rfl (lv_at hl 2 rfl) ?_
  refine lv_ldc2 (v := 109299962372965) hx hb hown (hg _ kw_1482) dX11_clauseHere_75 ?_
  refine cg (wc := [(o, .inr (11, (.ref (a 0) :: .ref (a 1) :: .ref (a 2) :: .int 0 :: .ref (a 3) :: .ref (a 4) :: .ref (a 5) :: .ref (a 6) :: .ref (a 7) :: .ref (a 8) :: .ref (a 9) :: .ref (a 10) :: .ref (a 11) :: .ref (a 12) :: .ref (a 13) :: .ref (a 14) :: .int 0 :: .int 0 :: .int 0 :: .int 12 :: .int 0 :: .int 0 :: .int 0 :: .ref (a 15) :: .int 0 :: .ref (a 16) :: .int 0 :: .ref (a 17) :: .ref (a 18) :: .int 0 :: .long 0 :: .long 0 :: .int 0 :: .long 0 :: .int 0 :: .int 0 :: .int 0 :: .long 0 :: .long 0 :: .int 0 :: .ref (a 19) :: .ref (a 20) :: .ref (a 21) :: .ref (a 22) :: .ref (a 23) :: .ref (a 24) :: .ref (a 25) :: .ref (a 26) :: .ref (a 27) :: [])))]) (wr := []) [0] [] (rn_V (As := [.long 109299962372965]) (rest := []) (b := o) (m_isWord l D Y Z H.size o a 12 109299962372965) ⟨hx, hb, hml, hown, hg⟩ lk_X11_190 ⟨CP.blind, va_recv hKN.1 hP (ci := 11) (q0 := 0) rfl rfl, CP.at (hP.sub [0] rfl) hKN (hD.sub [0] (by decide) rfl)⟩ ⟨⟨rfl, rfl⟩, ⟨Nat.le_of_ble_eq_true rfl, Nat.le_of_ble_eq_true rfl⟩, ⟨Nat.le_of_ble_eq_true rfl, Nat.le_of_ble_eq_true rfl⟩⟩ hl.1 rfl (Nat.le_of_ble_eq_true rfl) dX11_clauseHere_78) hP hD hS hA rfl rfl (by decide) (by decide) (fun u16 H locs w17 hP hD hS => ?_)
  refine W.eq (g2 := F0 m 81 ls [.int 0]) rfl ?_
  have hP : va_P D vwCl [(o, .inr (11, (.ref (a 0) :: .ref (a 1) :: .ref (a 2) :: .int 0 :: .ref (a 3) :: .ref (a 4) :: .ref (a 5) :: .ref (a 6) :: .ref (a 7) :: .ref (a 8) :: .ref (a 9) :: .ref (a 10) :: .ref (a 11) :: .ref (a 12) :: .ref (a 13) :: .ref (a 14) :: .int 0 :: .int 0 :: .int 0 :: .int 12 :: .int 0 :: .int 0 :: .int 0 :: .ref (a 15) :: .int 0 :: .ref (a 16) :: .int 0 :: .ref (a 17) :: .ref (a 18) :: .int 0 :: .long 0 :: .long 0 :: .int 0 :: .long 0 :: .int 0 :: .int 0 :: .int 0 :: .long 0 :: .long 0 :: .int 0 :: .ref (a 19) :: .ref (a 20) :: .ref (a 21) :: .ref (a 22) :: .ref (a 23) :: .ref (a 24) :: .ref (a 25) :: .ref (a 26) :: .ref (a 27) :: [])))] H := hP
  have hD : va_D A [(o, .inr (11, (.ref (a 0) :: .ref (a 1) :: .ref (a 2) :: .int 0 :: .ref (a 3) :: .ref (a 4) :: .ref (a 5) :: .ref (a 6) :: .ref (a 7) :: .ref (a 8) :: .ref (a 9) :: .ref (a 10) :: .ref (a 11) :: .ref (a 12) :: .ref (a 13) :: .ref (a 14) :: .int 0 :: .int 0 :: .int 0 :: .int 12 :: .int 0 :: .int 0 :: .int 0 :: .ref (a 15) :: .int 0 :: .ref (a 16) :: .int 0 :: .ref (a 17) :: .ref (a 18) :: .int 0 :: .long 0 :: .long 0 :: .int 0 :: .long 0 :: .int 0 :: .int 0 :: .int 0 :: .long 0 :: .long 0 :: .int 0 :: .ref (a 19) :: .ref (a 20) :: .ref (a 21) :: .ref (a 22) :: .ref (a 23) :: .ref (a 24) :: .ref (a 25) :: .ref (a 26) :: .ref (a 27) :: [])))] := hD
  refine lv_if_eq (tgt := 88) hx hb dX11_clauseHere_81 (by decide) (fun c18 => ?_) (fun c18 => ?_)
  rotate_left
  · exact absurd c18 (by decide)
  refine lv_iconst (v := (-1)) hx hb dX11_clauseHere_88 (by decide) ?_
  refine lv_istore_n (lv' := [(3, .int (-1)), (2, .int 2), (1, .int 0), (0, .ref o)]) hx hb dX11_clauseHere_89 rfl hl (by decide) rfl (fun ls hl => ?_)
  refine lv_iload_n hx hb dX11_clauseHere_90 rfl (lv_at hl 1 rfl) ?_
  refine lv_if_ne (tgt := 122) hx hb dX11_clauseHere_91 (by decide) (fun c19 => ?_) (fun c19 => ?_)
  rotate_left
  · exact absurd c19 (by decide)
  refine lv_iload_n hx hb dX11_clauseHere_122 rfl (lv_at hl 1 rfl) ?_
  refine lv_iconst (v := 1) hx hb dX11_clauseHere_123 (by decide) ?_
  refine lv_icmp_ne (tgt := 175) hx hb dX11_clauseHere_124 (by decide) (fun c20 => ?_) (fun c20 => ?_)
  rotate_left
  · exact absurd c20 (by decide)
  refine lv_iload_n hx hb dX11_clauseHere_175 rfl (lv_at hl 0 rfl) ?_
  refine lv_if_lt (tgt := 183) hx hb dX11_clauseHere_176 (by decide) (fun c21 => ?_) (fun c21 => ?_)
  rotate_left
  · exact absurd c21 (by decide)
  refine lv_iconst (v := 0) hx hb dX11_clauseHere_183 (by decide) ?_
  refine lv_istore (lv' := [(4, .int 0), (3, .int (-1)), (2, .int 2), (1, .int 0), (0, .ref o)]) hx hb dX11_clauseHere_184 hl (by decide) rfl (fun ls hl => ?_)
  refine lv_iload hx hb dX11_clauseHere_186 (lv_at hl 0 rfl) ?_
  refine lv_if_ne (tgt := 198) hx hb dX11_clauseHere_188 (by decide) (fun c22 => ?_) (fun c22 => ?_)
  · exact absurd c22 (by decide)
  refine lv_aload_n hx hb dX11_clauseHere_191 rfl (lv_at hl 4 rfl) ?_
  refine lv_iconst (v := 0) hx hb dX11_clauseHere_192 (by decide) ?_
  refine lv_iload_n hx hb dX11_clauseHere_193 rfl (lv_at hl 3 rfl) ?_
  refine cg (wc := [(o, .inr (11, (.ref (a 0) :: .ref (a 1) :: .ref (a 2) :: .int 0 :: .ref (a 3) :: .ref (a 4) :: .ref (a 5) :: .ref (a 6) :: .ref (a 7) :: .ref (a 8) :: .ref (a 9) :: .ref (a 10) :: .ref (a 11) :: .ref (a 12) :: .ref (a 13) :: .ref (a 14) :: .int 0 :: .int 0 :: .int 0 :: .int 12 :: .int 0 :: .int 0 :: .int 0 :: .ref (a 15) :: .int 0 :: .ref (a 16) :: .int 0 :: .ref (a 17) :: .ref (a 18) :: .int 0 :: .long 0 :: .long 0 :: .int 0 :: .long 0 :: .int 0 :: .int 0 :: .int 0 :: .long 0 :: .long 0 :: .int 0 :: .ref (a 19) :: .ref (a 20) :: .ref (a 21) :: .ref (a 22) :: .ref (a 23) :: .ref (a 24) :: .ref (a 25) :: .ref (a 26) :: .ref (a 27) :: [])))]) (wr := []) [0] [] (rn_V (As := [.int 0, .int 0]) (rest := []) (b := o) (m_fails l D Y Z H.size o a 12) ⟨hx, hb, hml, hown, hg⟩ lk_X11_200 ⟨CP.blind, va_recv hKN.1 hP (ci := 11) (q0 := 0) rfl rfl, CP.at (hP.sub [0] rfl) hKN (hD.sub [0] (by decide) rfl)⟩ ⟨⟨rfl, rfl⟩, ⟨Nat.le_of_ble_eq_true rfl, Nat.le_of_ble_eq_true rfl⟩, ⟨Nat.le_of_ble_eq_true rfl, Nat.le_of_ble_eq_true rfl⟩⟩ hl.1 rfl (Nat.le_of_ble_eq_true rfl) dX11_clauseHere_194) hP hD hS hA rfl rfl (by decide) (by decide) (fun u23 H locs w24 hP hD hS => ?_)
  refine W.eq (g2 := F0 m 197 ls [.int 0]) rfl ?_
  have hP : va_P D vwCl [(o, .inr (11, (.ref (a 0) :: .ref (a 1) :: .ref (a 2) :: .int 0 :: .ref (a 3) :: .ref (a 4) :: .ref (a 5) :: .ref (a 6) :: .ref (a 7) :: .ref (a 8) :: .ref (a 9) :: .ref (a 10) :: .ref (a 11) :: .ref (a 12) :: .ref (a 13) :: .ref (a 14) :: .int 0 :: .int 1 :: .int 0 :: .int 12 :: .int 0 :: .int 0 :: .int 0 :: .ref (a 15) :: .int 0 :: .ref (a 16) :: .int 0 :: .ref (a 17) :: .ref (a 18) :: .int 0 :: .long 0 :: .long 0 :: .int 0 :: .long 0 :: .int 0 :: .int 0 :: .int 0 :: .long 0 :: .long 0 :: .int 0 :: .ref (a 19) :: .ref (a 20) :: .ref (a 21) :: .ref (a 22) :: .ref (a 23) :: .ref (a 24) :: .ref (a 25) :: .ref (a 26) :: .ref (a 27) :: [])))] H := hP
  have hD : va_D A [(o, .inr (11, (.ref (a 0) :: .ref (a 1) :: .ref (a 2) :: .int 0 :: .ref (a 3) :: .ref (a 4) :: .ref (a 5) :: .ref (a 6) :: .ref (a 7) :: .ref (a 8) :: .ref (a 9) :: .ref (a 10) :: .ref (a 11) :: .ref (a 12) :: .ref (a 13) :: .ref (a 14) :: .int 0 :: .int 1 :: .int 0 :: .int 12 :: .int 0 :: .int 0 :: .int 0 :: .ref (a 15) :: .int 0 :: .ref (a 16) :: .int 0 :: .ref (a 17) :: .ref (a 18) :: .int 0 :: .long 0 :: .long 0 :: .int 0 :: .long 0 :: .int 0 :: .int 0 :: .int 0 :: .long 0 :: .long 0 :: .int 0 :: .ref (a 19) :: .ref (a 20) :: .ref (a 21) :: .ref (a 22) :: .ref (a 23) :: .ref (a 24) :: .ref (a 25) :: .ref (a 26) :: .ref (a 27) :: [])))] := hD
  refine W.widen (k := 0) (n := 0) (Nat.le_of_ble_eq_true rfl) (Nat.le_of_ble_eq_true rfl) ?_
  exact W.zret (v := 0) hx hb hr (by decide) (fun t ht hW => ⟨⟨(), rfl, trivial, CB.mk ht (hP.sub [0] rfl) (hD.sub [0] (by decide) rfl)⟩, hS.F ht⟩) hS.2.2 dX11_clauseHere_197
set_option maxHeartbeats 4000000 in
set_option maxRecDepth 100000 in
theorem x_text (l : Launch) (D : va_G) (Y : Nat → ClassId) (Z : Nat → Nat) (sz : Nat) (o : Nat) (b : Nat → Nat) (p0 : Int32) : Met l yX10_text (.code yX10_text cX10_text 4 (some .int) :: GW) ({ frames := 3, cells := 0, slots := 0, locals := 76 }) (va_Pc [.ref o, .int p0] (CP D Y Z [(o, .inr (10, (dsF b))), ((b 0), .inr (6, (skF b))), ((b 5), .inr (3, (paF Z b))), ((b 24), .inr (8, (txF b))), ((b 22), .inl (Y 2, 400, .inl (fun _ => 0)))] sz)) (QG (S := Int32) (fun r => some (.int r)) (fun r => r = sp_text p0) (fun u => CB D ((fun _ => []) u) (va_A [(o, .inr (10, (dsF b))), ((b 0), .inr (6, (skF b))), ((b 5), .inr (3, (paF Z b))), ((b 24), .inr (8, (txF b))), ((b 22), .inl (Y 2, 400, .inl (fun _ => 0)))] sz)) (va_A [(o, .inr (10, (dsF b))), ((b 0), .inr (6, (skF b))), ((b 5), .inr (3, (paF Z b))), ((b 24), .inr (8, (txF b))), ((b 22), .inl (Y 2, 400, .inl (fun _ => 0)))] sz)) 0 0 (va_A [(o, .inr (10, (dsF b))), ((b 0), .inr (6, (skF b))), ((b 5), .inr (3, (paF Z b))), ((b 24), .inr (8, (txF b))), ((b 22), .inl (Y 2, 400, .inl (fun _ => 0)))] sz) := by
  refine Met.ofW (cc := cX10_text) (maxL := 4) (ret := (some .int)) (by decide) rfl ?_
  intro p e s m args below meth c s₁ B hml hv
  obtain ⟨rfl, hsz, hP, hKN, hD0⟩ := hv
  have hx := B.exec
  have hb := B.bytes
  have hr := B.returns
  have hts := atoms_spec (ws := .code yX10_text cX10_text 4 (some .int) :: GW) B.pre
  have hg : ∀ w ∈ GW, w.before _ s = true := fun w h => hts w (List.mem_cons_of_mem _ h)
  have hown : s.vm.findClass RX10 = some m.cls := findClass_of_methodNamed B.named
  have hlocks := B.notSynchronized
  subst hsz
  have hD := hD0.self (sz := s.heap.size)
  generalize hAe : va_A [(o, .inr (10, (dsF b))), ((b 0), .inr (6, (skF b))), ((b 5), .inr (3, (paF Z b))), ((b 24), .inr (8, (txF b))), ((b 22), .inl (Y 2, 400, .inl (fun _ => 0)))] s.heap.size = A at hD ⊢
  have hA : ∀ q : Nat, s.heap.size ≤ q → A q := fun q h => by rw [← hAe]; exact Or.inr h
  have hl := lv_entry ([.ref o, .int p0]) (n := 4) (Nat.le_of_ble_eq_true rfl)
  rw [lg_entry_eq]
  generalize (lg_sl ([.ref o, .int p0]) ++ List.replicate (4 - (lg_sl ([.ref o, .int p0])).length) Slot.unset).toArray = ls at hl ⊢
  have hl : lv_has ls 4 [(0, .ref o), (1, .int p0)] := hl
  refine w_start (A0 := A) hP (fun H locs hP hS => ?_)
  refine lv_iload_n hx hb dX10_text_0 rfl (lv_at hl 1 rfl) ?_
  refine lv_if_ne (tgt := 11) hx hb dX10_text_1 (by decide) (fun c1 => ?_) (fun c1 => ?_)
  · skip
    have c1 := i_ne (Eq.refl (p0).toInt) (show (0 : Int32).toInt = 0 by decide) c1
    refine lv_iload_n hx hb dX10_text_11 rfl (lv_at hl 1 rfl) ?_
    refine lv_iconst (v := 1) hx hb dX10_text_12 (by decide) ?_
    refine lv_icmp_ne (tgt := 23) hx hb dX10_text_13 (by decide) (fun c2 => ?_) (fun c2 => ?_)
    · skip
      have c2 := i_ne (Eq.refl (p0).toInt) (show (1 : Int32).toInt = 1 by decide) c2
      refine lv_aload_n hx hb dX10_text_23 rfl (lv_at hl 0 rfl) ?_
      refine va_get (D := D) (ci := 10) (v := .int 0) (C := RX10) (T := TX10) (N := 20) hx hb hg inGX10 hown hKN.1 hP 0 rfl rfl 7 (by decide) (hg _ kw_356) (fun _ h9 => h9) rfl dX10_text_24 ?_
      refine lv_istore_n (lv' := [(2, .int 0), (0, .ref o), (1, .int p0)]) hx hb dX10_text_27 rfl hl (by decide) rfl (fun ls hl => ?_)
      refine lv_iload_n hx hb dX10_text_28 rfl (lv_at hl 2 rfl) ?_
      refine lv_iconst (v := 0) hx hb dX10_text_29 (by decide) ?_
      refine lv_iconst (v := 2) hx hb dX10_text_30 (by decide) ?_
      refine cg0 (rn_S (As := [.int p0, .int 0, .int 2]) (rest := []) (c_isWithin l D Y Z H.size p0 0 2 (0) (2) (by decide) (by decide)) ⟨hx, hb, hml, hown, hg⟩ lk_X10_100 ⟨CP.blind, CP.at nilP hKN (nilD (A := fun _ => True))⟩ ⟨⟨rfl, rfl⟩, ⟨Nat.le_of_ble_eq_true rfl, Nat.le_of_ble_eq_true rfl⟩, ⟨Nat.le_of_ble_eq_true rfl, Nat.le_of_ble_eq_true rfl⟩⟩ hl.1 rfl (Nat.le_of_ble_eq_true rfl) dX10_text_31) hP hS hA (fun u3 H locs w4 hP hS => ?_)
      rcases w4 with ⟨w4, rfl⟩ | ⟨w4, rfl⟩
      · skip
        refine W.eq (g2 := F0 m 34 ls [.int 1]) rfl ?_
        refine lv_if_eq (tgt := 43) hx hb dX10_text_34 (by decide) (fun c5 => ?_) (fun c5 => ?_)
        · exact absurd c5 (by decide)
        refine lv_iload_n hx hb dX10_text_37 rfl (lv_at hl 0 rfl) ?_
        refine lv_bipush (v := 6) hx hb dX10_text_38 (by decide) ?_
        refine lv_icmp_lt (tgt := 45) hx hb dX10_text_40 (by decide) (fun c6 => ?_) (fun c6 => ?_)
        rotate_left
        · exact absurd c6 (by decide)
        refine lv_aload_n hx hb dX10_text_45 rfl (lv_at hl 1 rfl) ?_
        refine va_get (D := D) (ci := 10) (v := .ref (b 5)) (C := RX10) (T := TX10) (N := 20) hx hb hg inGX10 hown hKN.1 hP 0 rfl rfl 8 (by decide) (hg _ kw_357) (fun _ h9 => h9) rfl dX10_text_46 ?_
        refine lv_aload_n hx hb dX10_text_49 rfl (lv_at hl 1 rfl) ?_
        refine va_get (D := D) (ci := 10) (v := .ref (b 0)) (C := RX10) (T := TX10) (N := 20) hx hb hg inGX10 hown hKN.1 hP 0 rfl rfl 0 (by decide) (hg _ kw_349) (fun _ h9 => h9) rfl dX10_text_50 ?_
        refine va_getN (D := D) (ci := 6) (v := .ref (b 22)) (C := RX6) (T := TX6) (N := 13) hx hb hg inGX6 hown hKN.1 hP 1 rfl rfl 11 (by decide) (va_Nw.use rfl (hKN.2.1 _ kn_66 rfl)) (fun _ h9 => h9) rfl dX10_text_53 ?_
        refine lv_aload_n hx hb dX10_text_56 rfl (lv_at hl 1 rfl) ?_
        refine va_get (D := D) (ci := 10) (v := .ref (b 0)) (C := RX10) (T := TX10) (N := 20) hx hb hg inGX10 hown hKN.1 hP 0 rfl rfl 0 (by decide) (hg _ kw_349) (fun _ h9 => h9) rfl dX10_text_57 ?_
        refine va_getN (D := D) (ci := 6) (v := .int 0) (C := RX6) (T := TX6) (N := 13) hx hb hg inGX6 hown hKN.1 hP 1 rfl rfl 12 (by decide) (va_Nw.use rfl (hKN.2.1 _ kn_68 rfl)) (fun _ h9 => h9) rfl dX10_text_60 ?_
        refine lv_iload_n hx hb dX10_text_63 rfl (lv_at hl 2 rfl) ?_
        refine cg (wc := [((b 5), .inr (3, (paF Z b))), ((b 24), .inr (8, (txF b))), ((b 22), .inl (Y 2, 400, .inl (fun _ => 0)))]) (wr := [(o, .inr (10, (dsF b))), ((b 0), .inr (6, (skF b)))]) [2, 3, 4] [0, 1] (rn_NV (As := [.ref (b 22), .int 0, .int p0]) (rest := []) (b := (b 5)) (c_read l D Y Z H.size b p0) ⟨hx, hb, hml, hown, hg⟩ hKN lk_X10_182 ⟨CP.blind, va_recv hKN.1 hP (ci := 3) (q0 := 2) rfl rfl, CP.at (hP.sub [2, 3, 4] rfl) hKN (hD.sub [2, 3, 4] (by decide) rfl)⟩ ⟨⟨rfl, rfl⟩, ⟨Nat.le_of_ble_eq_true rfl, Nat.le_of_ble_eq_true rfl⟩, ⟨Nat.le_of_ble_eq_true rfl, Nat.le_of_ble_eq_true rfl⟩⟩ hl.1 rfl (Nat.le_of_ble_eq_true rfl) dX10_text_64) hP hD hS hA rfl rfl (by decide) (by decide) (fun u7 H locs w8 hP hD hS => ?_)
        refine W.eq (g2 := F0 m 67 ls [.int 1]) rfl ?_
        refine lv_istore_n (lv' := [(3, .int 1), (2, .int 0), (0, .ref o), (1, .int p0)]) hx hb dX10_text_67 rfl hl (by decide) rfl (fun ls hl => ?_)
        refine lv_aload_n hx hb dX10_text_68 rfl (lv_at hl 2 rfl) ?_
        refine va_get (D := D) (ci := 10) (v := .ref (b 0)) (C := RX10) (T := TX10) (N := 20) hx hb hg inGX10 hown hKN.1 hP 0 rfl rfl 0 (by decide) (hg _ kw_349) (fun _ h9 => h9) rfl dX10_text_69 ?_
        refine lv_iconst (v := 0) hx hb dX10_text_72 (by decide) ?_
        refine va_putN (D := D) (ci := 6) (v := .int 0) (ty := .int) (C := RX6) (T := TX6) (N := 13) hx hb hg inGX6 tyX6 tyX6_ok nmX6 hown hKN.1 hP hD hS 1 rfl rfl 12 (by decide) (va_Nw.use rfl (hKN.2.1 _ kn_68 rfl)) (fun _ h9 => h9) rfl (by decide +kernel) rfl rfl (Nat.le_of_ble_eq_true rfl) dX10_text_73 (fun H locs hP hD hS => ?_)
        have hP : va_P D vwCl [(o, .inr (10, (dsF b))), ((b 0), .inr (6, (.int 0 :: .ref (b 16) :: .int 0 :: .ref (b 17) :: .int 0 :: .ref (b 18) :: .ref (b 19) :: .int 20 :: .ref (b 20) :: .ref (b 21) :: .int 0 :: .ref (b 22) :: .int 0 :: [])))] H := hP
        have hD : va_D A [(o, .inr (10, (dsF b))), ((b 0), .inr (6, (.int 0 :: .ref (b 16) :: .int 0 :: .ref (b 17) :: .int 0 :: .ref (b 18) :: .ref (b 19) :: .int 20 :: .ref (b 20) :: .ref (b 21) :: .int 0 :: .ref (b 22) :: .int 0 :: [])))] := hD
        refine lv_iload_n hx hb dX10_text_76 rfl (lv_at hl 0 rfl) ?_
        refine lv_if_eq (tgt := 85) hx hb dX10_text_77 (by decide) (fun c9 => ?_) (fun c9 => ?_)
        · exact absurd c9 (by decide)
        refine lv_bipush (v := (-2)) hx hb dX10_text_80 (by decide) ?_
        refine lv_iload_n hx hb dX10_text_82 rfl (lv_at hl 0 rfl) ?_
        refine lv_isub hx hb dX10_text_83 ?_
        refine lv_topi (fun z10 ez10 => ?_)
        obtain rfl : z10 = (-3) := ez10.trans (by decide)
        refine W.widen (k := 0) (n := 0) (Nat.le_of_ble_eq_true rfl) (Nat.le_of_ble_eq_true rfl) ?_
        exact W.iret (v := (-3)) hx hb hr (fun t ht hW => ⟨⟨(-3), rfl, (by first | decide | (unfold sp_text; split <;> first | rfl | exact i_is (X := 0) (by omega) (by decide) | (exfalso; omega))), CB.nil⟩, hS.F ht⟩) hS.2.2 dX10_text_84
      · skip
        refine W.eq (g2 := F0 m 34 ls [.int 0]) rfl ?_
        refine lv_if_eq (tgt := 43) hx hb dX10_text_34 (by decide) (fun c11 => ?_) (fun c11 => ?_)
        rotate_left
        · exact absurd c11 (by decide)
        refine lv_iconst (v := (-1)) hx hb dX10_text_43 (by decide) ?_
        refine W.widen (k := 0) (n := 0) (Nat.le_of_ble_eq_true rfl) (Nat.le_of_ble_eq_true rfl) ?_
        exact W.iret (v := (-1)) hx hb hr (fun t ht hW => ⟨⟨(-1), rfl, (by first | decide | (unfold sp_text; split <;> first | rfl | exact i_is (X := 0) (by omega) (by decide) | (exfalso; omega))), CB.nil⟩, hS.F ht⟩) hS.2.2 dX10_text_44
    · skip
      have c2 := i_eq (Eq.refl (p0).toInt) (show (1 : Int32).toInt = 1 by decide) c2
      refine lv_aload_n hx hb dX10_text_16 rfl (lv_at hl 0 rfl) ?_
      refine va_get (D := D) (ci := 10) (v := .int 0) (C := RX10) (T := TX10) (N := 20) hx hb hg inGX10 hown hKN.1 hP 0 rfl rfl 6 (by decide) (hg _ kw_355) (fun _ h9 => h9) rfl dX10_text_17 ?_
      refine lv_goto (tgt := 27) hx hb dX10_text_20 (by decide) ?_
      refine lv_istore_n (lv' := [(2, .int 0), (0, .ref o), (1, .int p0)]) hx hb dX10_text_27 rfl hl (by decide) rfl (fun ls hl => ?_)
      refine lv_iload_n hx hb dX10_text_28 rfl (lv_at hl 2 rfl) ?_
      refine lv_iconst (v := 0) hx hb dX10_text_29 (by decide) ?_
      refine lv_iconst (v := 2) hx hb dX10_text_30 (by decide) ?_
      refine cg0 (rn_S (As := [.int p0, .int 0, .int 2]) (rest := []) (c_isWithin l D Y Z H.size p0 0 2 (0) (2) (by decide) (by decide)) ⟨hx, hb, hml, hown, hg⟩ lk_X10_100 ⟨CP.blind, CP.at nilP hKN (nilD (A := fun _ => True))⟩ ⟨⟨rfl, rfl⟩, ⟨Nat.le_of_ble_eq_true rfl, Nat.le_of_ble_eq_true rfl⟩, ⟨Nat.le_of_ble_eq_true rfl, Nat.le_of_ble_eq_true rfl⟩⟩ hl.1 rfl (Nat.le_of_ble_eq_true rfl) dX10_text_31) hP hS hA (fun u12 H locs w13 hP hS => ?_)
      rcases w13 with ⟨w13, rfl⟩ | ⟨w13, rfl⟩
      · skip
        refine W.eq (g2 := F0 m 34 ls [.int 1]) rfl ?_
        refine lv_if_eq (tgt := 43) hx hb dX10_text_34 (by decide) (fun c14 => ?_) (fun c14 => ?_)
        · exact absurd c14 (by decide)
        refine lv_iload_n hx hb dX10_text_37 rfl (lv_at hl 0 rfl) ?_
        refine lv_bipush (v := 6) hx hb dX10_text_38 (by decide) ?_
        refine lv_icmp_lt (tgt := 45) hx hb dX10_text_40 (by decide) (fun c15 => ?_) (fun c15 => ?_)
        rotate_left
        · exact absurd c15 (by decide)
        refine lv_aload_n hx hb dX10_text_45 rfl (lv_at hl 1 rfl) ?_
        refine va_get (D := D) (ci := 10) (v := .ref (b 5)) (C := RX10) (T := TX10) (N := 20) hx hb hg inGX10 hown hKN.1 hP 0 rfl rfl 8 (by decide) (hg _ kw_357) (fun _ h9 => h9) rfl dX10_text_46 ?_
        refine lv_aload_n hx hb dX10_text_49 rfl (lv_at hl 1 rfl) ?_
        refine va_get (D := D) (ci := 10) (v := .ref (b 0)) (C := RX10) (T := TX10) (N := 20) hx hb hg inGX10 hown hKN.1 hP 0 rfl rfl 0 (by decide) (hg _ kw_349) (fun _ h9 => h9) rfl dX10_text_50 ?_
        refine va_getN (D := D) (ci := 6) (v := .ref (b 22)) (C := RX6) (T := TX6) (N := 13) hx hb hg inGX6 hown hKN.1 hP 1 rfl rfl 11 (by decide) (va_Nw.use rfl (hKN.2.1 _ kn_66 rfl)) (fun _ h9 => h9) rfl dX10_text_53 ?_
        refine lv_aload_n hx hb dX10_text_56 rfl (lv_at hl 1 rfl) ?_
        refine va_get (D := D) (ci := 10) (v := .ref (b 0)) (C := RX10) (T := TX10) (N := 20) hx hb hg inGX10 hown hKN.1 hP 0 rfl rfl 0 (by decide) (hg _ kw_349) (fun _ h9 => h9) rfl dX10_text_57 ?_
        refine va_getN (D := D) (ci := 6) (v := .int 0) (C := RX6) (T := TX6) (N := 13) hx hb hg inGX6 hown hKN.1 hP 1 rfl rfl 12 (by decide) (va_Nw.use rfl (hKN.2.1 _ kn_68 rfl)) (fun _ h9 => h9) rfl dX10_text_60 ?_
        refine lv_iload_n hx hb dX10_text_63 rfl (lv_at hl 2 rfl) ?_
        refine cg (wc := [((b 5), .inr (3, (paF Z b))), ((b 24), .inr (8, (txF b))), ((b 22), .inl (Y 2, 400, .inl (fun _ => 0)))]) (wr := [(o, .inr (10, (dsF b))), ((b 0), .inr (6, (skF b)))]) [2, 3, 4] [0, 1] (rn_NV (As := [.ref (b 22), .int 0, .int p0]) (rest := []) (b := (b 5)) (c_read l D Y Z H.size b p0) ⟨hx, hb, hml, hown, hg⟩ hKN lk_X10_182 ⟨CP.blind, va_recv hKN.1 hP (ci := 3) (q0 := 2) rfl rfl, CP.at (hP.sub [2, 3, 4] rfl) hKN (hD.sub [2, 3, 4] (by decide) rfl)⟩ ⟨⟨rfl, rfl⟩, ⟨Nat.le_of_ble_eq_true rfl, Nat.le_of_ble_eq_true rfl⟩, ⟨Nat.le_of_ble_eq_true rfl, Nat.le_of_ble_eq_true rfl⟩⟩ hl.1 rfl (Nat.le_of_ble_eq_true rfl) dX10_text_64) hP hD hS hA rfl rfl (by decide) (by decide) (fun u16 H locs w17 hP hD hS => ?_)
        refine W.eq (g2 := F0 m 67 ls [.int 1]) rfl ?_
        refine lv_istore_n (lv' := [(3, .int 1), (2, .int 0), (0, .ref o), (1, .int p0)]) hx hb dX10_text_67 rfl hl (by decide) rfl (fun ls hl => ?_)
        refine lv_aload_n hx hb dX10_text_68 rfl (lv_at hl 2 rfl) ?_
        refine va_get (D := D) (ci := 10) (v := .ref (b 0)) (C := RX10) (T := TX10) (N := 20) hx hb hg inGX10 hown hKN.1 hP 0 rfl rfl 0 (by decide) (hg _ kw_349) (fun _ h9 => h9) rfl dX10_text_69 ?_
        refine lv_iconst (v := 0) hx hb dX10_text_72 (by decide) ?_
        refine va_putN (D := D) (ci := 6) (v := .int 0) (ty := .int) (C := RX6) (T := TX6) (N := 13) hx hb hg inGX6 tyX6 tyX6_ok nmX6 hown hKN.1 hP hD hS 1 rfl rfl 12 (by decide) (va_Nw.use rfl (hKN.2.1 _ kn_68 rfl)) (fun _ h9 => h9) rfl (by decide +kernel) rfl rfl (Nat.le_of_ble_eq_true rfl) dX10_text_73 (fun H locs hP hD hS => ?_)
        have hP : va_P D vwCl [(o, .inr (10, (dsF b))), ((b 0), .inr (6, (.int 0 :: .ref (b 16) :: .int 0 :: .ref (b 17) :: .int 0 :: .ref (b 18) :: .ref (b 19) :: .int 20 :: .ref (b 20) :: .ref (b 21) :: .int 0 :: .ref (b 22) :: .int 0 :: [])))] H := hP
        have hD : va_D A [(o, .inr (10, (dsF b))), ((b 0), .inr (6, (.int 0 :: .ref (b 16) :: .int 0 :: .ref (b 17) :: .int 0 :: .ref (b 18) :: .ref (b 19) :: .int 20 :: .ref (b 20) :: .ref (b 21) :: .int 0 :: .ref (b 22) :: .int 0 :: [])))] := hD
        refine lv_iload_n hx hb dX10_text_76 rfl (lv_at hl 0 rfl) ?_
        refine lv_if_eq (tgt := 85) hx hb dX10_text_77 (by decide) (fun c18 => ?_) (fun c18 => ?_)
        · exact absurd c18 (by decide)
        refine lv_bipush (v := (-2)) hx hb dX10_text_80 (by decide) ?_
        refine lv_iload_n hx hb dX10_text_82 rfl (lv_at hl 0 rfl) ?_
        refine lv_isub hx hb dX10_text_83 ?_
        refine lv_topi (fun z19 ez19 => ?_)
        obtain rfl : z19 = (-3) := ez19.trans (by decide)
        refine W.widen (k := 0) (n := 0) (Nat.le_of_ble_eq_true rfl) (Nat.le_of_ble_eq_true rfl) ?_
        exact W.iret (v := (-3)) hx hb hr (fun t ht hW => ⟨⟨(-3), rfl, (by first | decide | (unfold sp_text; split <;> first | rfl | exact i_is (X := 0) (by omega) (by decide) | (exfalso; omega))), CB.nil⟩, hS.F ht⟩) hS.2.2 dX10_text_84
      · skip
        exfalso; omega
  · skip
    have c1 := i_eq (Eq.refl (p0).toInt) (show (0 : Int32).toInt = 0 by decide) c1
    refine lv_aload_n hx hb dX10_text_4 rfl (lv_at hl 0 rfl) ?_
    refine va_get (D := D) (ci := 10) (v := .int 0) (C := RX10) (T := TX10) (N := 20) hx hb hg inGX10 hown hKN.1 hP 0 rfl rfl 5 (by decide) (hg _ kw_354) (fun _ h9 => h9) rfl dX10_text_5 ?_
    refine lv_goto (tgt := 27) hx hb dX10_text_8 (by decide) ?_
    refine lv_istore_n (lv' := [(2, .int 0), (0, .ref o), (1, .int p0)]) hx hb dX10_text_27 rfl hl (by decide) rfl (fun ls hl => ?_)
    refine lv_iload_n hx hb dX10_text_28 rfl (lv_at hl 2 rfl) ?_
    refine lv_iconst (v := 0) hx hb dX10_text_29 (by decide) ?_
    refine lv_iconst (v := 2) hx hb dX10_text_30 (by decide) ?_
    refine cg0 (rn_S (As := [.int p0, .int 0, .int 2]) (rest := []) (c_isWithin l D Y Z H.size p0 0 2 (0) (2) (by decide) (by decide)) ⟨hx, hb, hml, hown, hg⟩ lk_X10_100 ⟨CP.blind, CP.at nilP hKN (nilD (A := fun _ => True))⟩ ⟨⟨rfl, rfl⟩, ⟨Nat.le_of_ble_eq_true rfl, Nat.le_of_ble_eq_true rfl⟩, ⟨Nat.le_of_ble_eq_true rfl, Nat.le_of_ble_eq_true rfl⟩⟩ hl.1 rfl (Nat.le_of_ble_eq_true rfl) dX10_text_31) hP hS hA (fun u20 H locs w21 hP hS => ?_)
    rcases w21 with ⟨w21, rfl⟩ | ⟨w21, rfl⟩
    · skip
      refine W.eq (g2 := F0 m 34 ls [.int 1]) rfl ?_
      refine lv_if_eq (tgt := 43) hx hb dX10_text_34 (by decide) (fun c22 => ?_) (fun c22 => ?_)
      · exact absurd c22 (by decide)
      refine lv_iload_n hx hb dX10_text_37 rfl (lv_at hl 0 rfl) ?_
      refine lv_bipush (v := 6) hx hb dX10_text_38 (by decide) ?_
      refine lv_icmp_lt (tgt := 45) hx hb dX10_text_40 (by decide) (fun c23 => ?_) (fun c23 => ?_)
      rotate_left
      · exact absurd c23 (by decide)
      refine lv_aload_n hx hb dX10_text_45 rfl (lv_at hl 1 rfl) ?_
      refine va_get (D := D) (ci := 10) (v := .ref (b 5)) (C := RX10) (T := TX10) (N := 20) hx hb hg inGX10 hown hKN.1 hP 0 rfl rfl 8 (by decide) (hg _ kw_357) (fun _ h9 => h9) rfl dX10_text_46 ?_
      refine lv_aload_n hx hb dX10_text_49 rfl (lv_at hl 1 rfl) ?_
      refine va_get (D := D) (ci := 10) (v := .ref (b 0)) (C := RX10) (T := TX10) (N := 20) hx hb hg inGX10 hown hKN.1 hP 0 rfl rfl 0 (by decide) (hg _ kw_349) (fun _ h9 => h9) rfl dX10_text_50 ?_
      refine va_getN (D := D) (ci := 6) (v := .ref (b 22)) (C := RX6) (T := TX6) (N := 13) hx hb hg inGX6 hown hKN.1 hP 1 rfl rfl 11 (by decide) (va_Nw.use rfl (hKN.2.1 _ kn_66 rfl)) (fun _ h9 => h9) rfl dX10_text_53 ?_
      refine lv_aload_n hx hb dX10_text_56 rfl (lv_at hl 1 rfl) ?_
      refine va_get (D := D) (ci := 10) (v := .ref (b 0)) (C := RX10) (T := TX10) (N := 20) hx hb hg inGX10 hown hKN.1 hP 0 rfl rfl 0 (by decide) (hg _ kw_349) (fun _ h9 => h9) rfl dX10_text_57 ?_
      refine va_getN (D := D) (ci := 6) (v := .int 0) (C := RX6) (T := TX6) (N := 13) hx hb hg inGX6 hown hKN.1 hP 1 rfl rfl 12 (by decide) (va_Nw.use rfl (hKN.2.1 _ kn_68 rfl)) (fun _ h9 => h9) rfl dX10_text_60 ?_
      refine lv_iload_n hx hb dX10_text_63 rfl (lv_at hl 2 rfl) ?_
      refine cg (wc := [((b 5), .inr (3, (paF Z b))), ((b 24), .inr (8, (txF b))), ((b 22), .inl (Y 2, 400, .inl (fun _ => 0)))]) (wr := [(o, .inr (10, (dsF b))), ((b 0), .inr (6, (skF b)))]) [2, 3, 4] [0, 1] (rn_NV (As := [.ref (b 22), .int 0, .int p0]) (rest := []) (b := (b 5)) (c_read l D Y Z H.size b p0) ⟨hx, hb, hml, hown, hg⟩ hKN lk_X10_182 ⟨CP.blind, va_recv hKN.1 hP (ci := 3) (q0 := 2) rfl rfl, CP.at (hP.sub [2, 3, 4] rfl) hKN (hD.sub [2, 3, 4] (by decide) rfl)⟩ ⟨⟨rfl, rfl⟩, ⟨Nat.le_of_ble_eq_true rfl, Nat.le_of_ble_eq_true rfl⟩, ⟨Nat.le_of_ble_eq_true rfl, Nat.le_of_ble_eq_true rfl⟩⟩ hl.1 rfl (Nat.le_of_ble_eq_true rfl) dX10_text_64) hP hD hS hA rfl rfl (by decide) (by decide) (fun u24 H locs w25 hP hD hS => ?_)
      refine W.eq (g2 := F0 m 67 ls [.int 1]) rfl ?_
      refine lv_istore_n (lv' := [(3, .int 1), (2, .int 0), (0, .ref o), (1, .int p0)]) hx hb dX10_text_67 rfl hl (by decide) rfl (fun ls hl => ?_)
      refine lv_aload_n hx hb dX10_text_68 rfl (lv_at hl 2 rfl) ?_
      refine va_get (D := D) (ci := 10) (v := .ref (b 0)) (C := RX10) (T := TX10) (N := 20) hx hb hg inGX10 hown hKN.1 hP 0 rfl rfl 0 (by decide) (hg _ kw_349) (fun _ h9 => h9) rfl dX10_text_69 ?_
      refine lv_iconst (v := 0) hx hb dX10_text_72 (by decide) ?_
      refine va_putN (D := D) (ci := 6) (v := .int 0) (ty := .int) (C := RX6) (T := TX6) (N := 13) hx hb hg inGX6 tyX6 tyX6_ok nmX6 hown hKN.1 hP hD hS 1 rfl rfl 12 (by decide) (va_Nw.use rfl (hKN.2.1 _ kn_68 rfl)) (fun _ h9 => h9) rfl (by decide +kernel) rfl rfl (Nat.le_of_ble_eq_true rfl) dX10_text_73 (fun H locs hP hD hS => ?_)
      have hP : va_P D vwCl [(o, .inr (10, (dsF b))), ((b 0), .inr (6, (.int 0 :: .ref (b 16) :: .int 0 :: .ref (b 17) :: .int 0 :: .ref (b 18) :: .ref (b 19) :: .int 20 :: .ref (b 20) :: .ref (b 21) :: .int 0 :: .ref (b 22) :: .int 0 :: [])))] H := hP
      have hD : va_D A [(o, .inr (10, (dsF b))), ((b 0), .inr (6, (.int 0 :: .ref (b 16) :: .int 0 :: .ref (b 17) :: .int 0 :: .ref (b 18) :: .ref (b 19) :: .int 20 :: .ref (b 20) :: .ref (b 21) :: .int 0 :: .ref (b 22) :: .int 0 :: [])))] := hD
      refine lv_iload_n hx hb dX10_text_76 rfl (lv_at hl 0 rfl) ?_
      refine lv_if_eq (tgt := 85) hx hb dX10_text_77 (by decide) (fun c26 => ?_) (fun c26 => ?_)
      · exact absurd c26 (by decide)
      refine lv_bipush (v := (-2)) hx hb dX10_text_80 (by decide) ?_
      refine lv_iload_n hx hb dX10_text_82 rfl (lv_at hl 0 rfl) ?_
      refine lv_isub hx hb dX10_text_83 ?_
      refine lv_topi (fun z27 ez27 => ?_)
      obtain rfl : z27 = (-3) := ez27.trans (by decide)
      refine W.widen (k := 0) (n := 0) (Nat.le_of_ble_eq_true rfl) (Nat.le_of_ble_eq_true rfl) ?_
      exact W.iret (v := (-3)) hx hb hr (fun t ht hW => ⟨⟨(-3), rfl, (by first | decide | (unfold sp_text; split <;> first | rfl | exact i_is (X := 0) (by omega) (by decide) | (exfalso; omega))), CB.nil⟩, hS.F ht⟩) hS.2.2 dX10_text_84
    · skip
      exfalso; omega
