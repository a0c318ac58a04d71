set_option maxHeartbeats 4000000 in
set_option maxRecDepth 100000 in
theorem whole_start {p : Program} {e : Env} {s : State} {m : MethodId} {below : List Frame} {meth : Method} {c : Code} (l : Launch) {sb L : Nat} {xs : Nat → Int32} (hL : L ≤ 7) (C0 : lw_At p s m meth c sb L xs) : W p l e room_1 s m #[Value.ref sb] below meth c s.heap [] 0 0 (lw_Z below #[Value.ref sb] s) (entryFrame m ([Value.ref sb] : List Value).toArray 4) := by
  obtain ⟨A, hA, hA2⟩ : ∃ A : Nat → Prop, (∀ q, s.heap.size ≤ q → A q) ∧ (∀ q, A q → s.heap.size ≤ q) := ⟨fun q => s.heap.size ≤ q, fun _ h => h, fun _ h => h⟩
  obtain ⟨hx, hb, hr, hml, hown, hts, hX, hbl, hlocks, hgv⟩ := id C0
  have hb : c.code = cL_law := hb
  have hown : s.vm.findClass RL = some m.cls := hown
  have hg : ∀ w ∈ GW, w.before #[Value.ref sb] s = true := fun w h => hts w (gw_tbl h)
  have hbA : ¬ A sb := fun h => absurd (hA2 sb h) (Nat.not_le.mpr hbl)
  obtain ⟨D, Y, Z, hKN⟩ := kn_start hts hgv
  have hl := lv_entry ([.ref sb]) (n := 4) (Nat.le_of_ble_eq_true rfl)
  rw [lg_entry_eq]
  generalize (lg_sl ([.ref sb]) ++ List.replicate (4 - (lg_sl ([.ref sb])).length) Slot.unset).toArray = ls at hl ⊢
  have hl : lv_has ls 4 [(0, .ref sb)] := hl
  have hD : va_D A [] := nilD
  refine w_start (A0 := A) (D := D) (ws := []) nilP (fun H locs hP hS => ?_)
  refine va_new (ci := 10) (fs := (.null :: .null :: .null :: .null :: .null :: .int 0 :: .int 0 :: .int 0 :: .null :: .null :: .null :: .null :: .null :: .null :: .null :: .null :: .null :: .int 0 :: .null :: .null :: [])) (C := RX10) (T := TX10) (N := 20) hx hb hg inGX10 tyX10 tyX10_ok hown (hg _ kw_21) (hg _ kw_22) (hg _ kw_1) hKN.1 hP hD hS hA rfl (fun j hj => by rcases (show j = 0 ∨ j = 1 ∨ j = 2 ∨ j = 3 ∨ j = 4 ∨ j = 5 ∨ j = 6 ∨ j = 7 ∨ j = 8 ∨ j = 9 ∨ j = 10 ∨ j = 11 ∨ j = 12 ∨ j = 13 ∨ j = 14 ∨ j = 15 ∨ j = 16 ∨ j = 17 ∨ j = 18 ∨ j = 19 by omega) with rfl | rfl | rfl | rfl | rfl | rfl | rfl | rfl | rfl | rfl | rfl | rfl | rfl | rfl | rfl | rfl | rfl | rfl | rfl | rfl <;> rfl) (Nat.le_of_ble_eq_true rfl) (Nat.le_of_ble_eq_true rfl) dL_law_0 (fun q1 H hP hD hS => ?_)
  refine W.widen (k := 1) (n := 20) (Nat.le_of_ble_eq_true rfl) (Nat.le_of_ble_eq_true rfl) ?_
  have hP : va_P D vwCl [(q1, .inr (10, (.null :: .null :: .null :: .null :: .null :: .int 0 :: .int 0 :: .int 0 :: .null :: .null :: .null :: .null :: .null :: .null :: .null :: .null :: .null :: .int 0 :: .null :: .null :: [])))] H := hP
  have hD : va_D A [(q1, .inr (10, (.null :: .null :: .null :: .null :: .null :: .int 0 :: .int 0 :: .int 0 :: .null :: .null :: .null :: .null :: .null :: .null :: .null :: .null :: .null :: .int 0 :: .null :: .null :: [])))] := hD
  refine lv_dup hx hb dL_law_3 rfl ?_
  refine cg (wc := [(q1, .inr (10, (.null :: .null :: .null :: .null :: .null :: .int 0 :: .int 0 :: .int 0 :: .null :: .null :: .null :: .null :: .null :: .null :: .null :: .null :: .null :: .int 0 :: .null :: .null :: [])))]) (wr := []) [0] [] (rn_I (As := []) (rest := [.ref q1]) (b := q1) (c_DS l D Y Z H.size q1) ⟨hx, hb, hml, hown, hg⟩ lk_L_9 ⟨CP.blind, CP.at (hP.sub [0] rfl) hKN (hD.sub [0] (by decide) rfl)⟩ ⟨⟨rfl, rfl⟩, ⟨Nat.le_of_ble_eq_true rfl, Nat.le_of_ble_eq_true rfl⟩, ⟨Nat.le_of_ble_eq_true rfl, Nat.le_of_ble_eq_true rfl⟩⟩ hl.1 rfl (Nat.le_of_ble_eq_true rfl) dL_law_4) hP hD hS hA rfl rfl (by decide) (by decide) (fun u2 H locs w3 hP hD hS => ?_)
  refine W.widen (k := 41) (n := 4318) (Nat.le_of_ble_eq_true rfl) (Nat.le_of_ble_eq_true rfl) ?_
  refine W.eq (g2 := F0 m 7 ls [.ref q1]) rfl ?_
  have hP : va_P D vwCl [(q1, .inr (10, (dsF u2))), ((u2 0), .inr (6, (skF u2))), ((u2 16), .inl (Y 7, 12, .inr (.inr (.inr (.inr (fun _ => none)))))), ((u2 17), .inl (Y 8, 40, .inr (.inr (.inr (.inr (fun _ => none)))))), ((u2 18), .inl (Y 0, 12, .inl (fun _ => 0))), ((u2 19), .inl (Y 0, 12, .inl (fun _ => 0))), ((u2 20), .inl (Y 0, 8, .inl (fun _ => 0))), ((u2 21), .inl (Y 0, 8, .inl (fun _ => 0))), ((u2 22), .inl (Y 2, 400, .inl (fun _ => 0))), ((u2 1), .inl (Y 4, 4, .inr (.inr (.inr (.inr (fun _ => none)))))), ((u2 5), .inr (3, (paF Z u2))), ((u2 24), .inr (8, (txF u2)))] H := hP
  have hD : va_D A [(q1, .inr (10, (dsF u2))), ((u2 0), .inr (6, (skF u2))), ((u2 16), .inl (Y 7, 12, .inr (.inr (.inr (.inr (fun _ => none)))))), ((u2 17), .inl (Y 8, 40, .inr (.inr (.inr (.inr (fun _ => none)))))), ((u2 18), .inl (Y 0, 12, .inl (fun _ => 0))), ((u2 19), .inl (Y 0, 12, .inl (fun _ => 0))), ((u2 20), .inl (Y 0, 8, .inl (fun _ => 0))), ((u2 21), .inl (Y 0, 8, .inl (fun _ => 0))), ((u2 22), .inl (Y 2, 400, .inl (fun _ => 0))), ((u2 1), .inl (Y 4, 4, .inr (.inr (.inr (.inr (fun _ => none)))))), ((u2 5), .inr (3, (paF Z u2))), ((u2 24), .inr (8, (txF u2)))] := hD
  refine lv_astore_n (lv' := [(1, .ref q1), (0, .ref sb)]) hx hb dL_law_7 rfl hl (by decide) rfl (fun ls hl => ?_)
  refine va_new (ci := 11) (fs := (.null :: .null :: .null :: .int 0 :: .null :: .null :: .null :: .null :: .null :: .null :: .null :: .null :: .null :: .null :: .null :: .null :: .int 0 :: .int 0 :: .int 0 :: .int 0 :: .int 0 :: .int 0 :: .int 0 :: .null :: .int 0 :: .null :: .int 0 :: .null :: .null :: .int 0 :: .long 0 :: .long 0 :: .int 0 :: .long 0 :: .int 0 :: .int 0 :: .int 0 :: .long 0 :: .long 0 :: .int 0 :: .null :: .null :: .null :: .null :: .null :: .null :: .null :: .null :: .null :: [])) (C := RX11) (T := TX11) (N := 49) hx hb hg inGX11 tyX11 tyX11_ok hown (hg _ kw_1202) (hg _ kw_1203) (hg _ kw_10) hKN.1 hP hD hS hA rfl (fun j hj => by rcases (show j = 0 ∨ j = 1 ∨ j = 2 ∨ j = 3 ∨ j = 4 ∨ j = 5 ∨ j = 6 ∨ j = 7 ∨ j = 8 ∨ j = 9 ∨ j = 10 ∨ j = 11 ∨ j = 12 ∨ j = 13 ∨ j = 14 ∨ j = 15 ∨ j = 16 ∨ j = 17 ∨ j = 18 ∨ j = 19 ∨ j = 20 ∨ j = 21 ∨ j = 22 ∨ j = 23 ∨ j = 24 ∨ j = 25 ∨ j = 26 ∨ j = 27 ∨ j = 28 ∨ j = 29 ∨ j = 30 ∨ j = 31 ∨ j = 32 ∨ j = 33 ∨ j = 34 ∨ j = 35 ∨ j = 36 ∨ j = 37 ∨ j = 38 ∨ j = 39 ∨ j = 40 ∨ j = 41 ∨ j = 42 ∨ j = 43 ∨ j = 44 ∨ j = 45 ∨ j = 46 ∨ j = 47 ∨ j = 48 by omega) with rfl | rfl | rfl | rfl | rfl | rfl | rfl | rfl | rfl | rfl | rfl | rfl | rfl | rfl | rfl | rfl | rfl | rfl | rfl | rfl | rfl | rfl | rfl | rfl | rfl | rfl | rfl | rfl | rfl | rfl | rfl | rfl | rfl | rfl | rfl | rfl | rfl | rfl | rfl | rfl | rfl | rfl | rfl | rfl | rfl | rfl | rfl | rfl | rfl <;> rfl) (Nat.le_of_ble_eq_true rfl) (Nat.le_of_ble_eq_true rfl) dL_law_8 (fun q4 H hP hD hS => ?_)
  refine W.widen (k := 42) (n := 4367) (Nat.le_of_ble_eq_true rfl) (Nat.le_of_ble_eq_true rfl) ?_
  have hP : va_P D vwCl ((q1, .inr (10, (dsF u2))) :: ((u2 0), .inr (6, (skF u2))) :: ((u2 16), .inl (Y 7, 12, .inr (.inr (.inr (.inr (fun _ => none)))))) :: ((u2 17), .inl (Y 8, 40, .inr (.inr (.inr (.inr (fun _ => none)))))) :: ((u2 18), .inl (Y 0, 12, .inl (fun _ => 0))) :: ((u2 19), .inl (Y 0, 12, .inl (fun _ => 0))) :: ((u2 20), .inl (Y 0, 8, .inl (fun _ => 0))) :: ((u2 21), .inl (Y 0, 8, .inl (fun _ => 0))) :: ((u2 22), .inl (Y 2, 400, .inl (fun _ => 0))) :: ((u2 1), .inl (Y 4, 4, .inr (.inr (.inr (.inr (fun _ => none)))))) :: ((u2 5), .inr (3, (paF Z u2))) :: ((u2 24), .inr (8, (txF u2))) :: (q4, .inr (11, (.null :: .null :: .null :: .int 0 :: .null :: .null :: .null :: .null :: .null :: .null :: .null :: .null :: .null :: .null :: .null :: .null :: .int 0 :: .int 0 :: .int 0 :: .int 0 :: .int 0 :: .int 0 :: .int 0 :: .null :: .int 0 :: .null :: .int 0 :: .null :: .null :: .int 0 :: .long 0 :: .long 0 :: .int 0 :: .long 0 :: .int 0 :: .int 0 :: .int 0 :: .long 0 :: .long 0 :: .int 0 :: .null :: .null :: .null :: .null :: .null :: .null :: .null :: .null :: .null :: []))) :: []) H := hP
  have hD : va_D A ((q1, .inr (10, (dsF u2))) :: ((u2 0), .inr (6, (skF u2))) :: ((u2 16), .inl (Y 7, 12, .inr (.inr (.inr (.inr (fun _ => none)))))) :: ((u2 17), .inl (Y 8, 40, .inr (.inr (.inr (.inr (fun _ => none)))))) :: ((u2 18), .inl (Y 0, 12, .inl (fun _ => 0))) :: ((u2 19), .inl (Y 0, 12, .inl (fun _ => 0))) :: ((u2 20), .inl (Y 0, 8, .inl (fun _ => 0))) :: ((u2 21), .inl (Y 0, 8, .inl (fun _ => 0))) :: ((u2 22), .inl (Y 2, 400, .inl (fun _ => 0))) :: ((u2 1), .inl (Y 4, 4, .inr (.inr (.inr (.inr (fun _ => none)))))) :: ((u2 5), .inr (3, (paF Z u2))) :: ((u2 24), .inr (8, (txF u2))) :: (q4, .inr (11, (.null :: .null :: .null :: .int 0 :: .null :: .null :: .null :: .null :: .null :: .null :: .null :: .null :: .null :: .null :: .null :: .null :: .int 0 :: .int 0 :: .int 0 :: .int 0 :: .int 0 :: .int 0 :: .int 0 :: .null :: .int 0 :: .null :: .int 0 :: .null :: .null :: .int 0 :: .long 0 :: .long 0 :: .int 0 :: .long 0 :: .int 0 :: .int 0 :: .int 0 :: .long 0 :: .long 0 :: .int 0 :: .null :: .null :: .null :: .null :: .null :: .null :: .null :: .null :: .null :: []))) :: []) := hD
  refine lv_dup hx hb dL_law_11 rfl ?_
  refine cg (wc := [(q4, .inr (11, (.null :: .null :: .null :: .int 0 :: .null :: .null :: .null :: .null :: .null :: .null :: .null :: .null :: .null :: .null :: .null :: .null :: .int 0 :: .int 0 :: .int 0 :: .int 0 :: .int 0 :: .int 0 :: .int 0 :: .null :: .int 0 :: .null :: .int 0 :: .null :: .null :: .int 0 :: .long 0 :: .long 0 :: .int 0 :: .long 0 :: .int 0 :: .int 0 :: .int 0 :: .long 0 :: .long 0 :: .int 0 :: .null :: .null :: .null :: .null :: .null :: .null :: .null :: .null :: .null :: [])))]) (wr := [(q1, .inr (10, (dsF u2))), ((u2 0), .inr (6, (skF u2))), ((u2 16), .inl (Y 7, 12, .inr (.inr (.inr (.inr (fun _ => none)))))), ((u2 17), .inl (Y 8, 40, .inr (.inr (.inr (.inr (fun _ => none)))))), ((u2 18), .inl (Y 0, 12, .inl (fun _ => 0))), ((u2 19), .inl (Y 0, 12, .inl (fun _ => 0))), ((u2 20), .inl (Y 0, 8, .inl (fun _ => 0))), ((u2 21), .inl (Y 0, 8, .inl (fun _ => 0))), ((u2 22), .inl (Y 2, 400, .inl (fun _ => 0))), ((u2 1), .inl (Y 4, 4, .inr (.inr (.inr (.inr (fun _ => none)))))), ((u2 5), .inr (3, (paF Z u2))), ((u2 24), .inr (8, (txF u2)))]) [12] [0, 1, 2, 3, 4, 5, 6, 7, 8, 9, 10, 11] (rn_I (As := []) (rest := [.ref q4]) (b := q4) (c_M l D Y Z H.size q4) ⟨hx, hb, hml, hown, hg⟩ lk_L_12 ⟨CP.blind, CP.at (hP.sub [12] rfl) hKN (hD.sub [12] (by decide) rfl)⟩ ⟨⟨rfl, rfl⟩, ⟨Nat.le_of_ble_eq_true rfl, Nat.le_of_ble_eq_true rfl⟩, ⟨Nat.le_of_ble_eq_true rfl, Nat.le_of_ble_eq_true rfl⟩⟩ hl.1 rfl (Nat.le_of_ble_eq_true rfl) dL_law_12) hP hD hS hA rfl rfl (by decide) (by decide) (fun u5 H locs w6 hP hD hS => ?_)
  refine W.widen (k := 70) (n := 52824) (Nat.le_of_ble_eq_true rfl) (Nat.le_of_ble_eq_true rfl) ?_
  refine W.eq (g2 := F0 m 15 ls [.ref q4]) rfl ?_
  have hP : va_P D vwCl ((q1, .inr (10, (dsF u2))) :: ((u2 0), .inr (6, (skF u2))) :: ((u2 16), .inl (Y 7, 12, .inr (.inr (.inr (.inr (fun _ => none)))))) :: ((u2 17), .inl (Y 8, 40, .inr (.inr (.inr (.inr (fun _ => none)))))) :: ((u2 18), .inl (Y 0, 12, .inl (fun _ => 0))) :: ((u2 19), .inl (Y 0, 12, .inl (fun _ => 0))) :: ((u2 20), .inl (Y 0, 8, .inl (fun _ => 0))) :: ((u2 21), .inl (Y 0, 8, .inl (fun _ => 0))) :: ((u2 22), .inl (Y 2, 400, .inl (fun _ => 0))) :: ((u2 1), .inl (Y 4, 4, .inr (.inr (.inr (.inr (fun _ => none)))))) :: ((u2 5), .inr (3, (paF Z u2))) :: ((u2 24), .inr (8, (txF u2))) :: (q4, .inr (11, (moF u5))) :: ((u5 0), .inl (Y 0, 7533, .inl tolF)) :: ((u5 2), .inl (Y 2, 400, .inl (fun _ => 0))) :: ((u5 3), .inl (Y 0, 3, .inl (fun _ => 0))) :: ((u5 5), .inl (Y 0, 18, .inl (fun _ => 0))) :: ((u5 7), .inl (Y 0, 18, .inl (fun _ => 0))) :: ((u5 8), .inl (Y 0, 18, .inl (fun _ => 0))) :: ((u5 9), .inl (Y 0, 18, .inl (fun _ => 0))) :: ((u5 11), .inl (Y 0, 18, .inl (fun _ => 0))) :: ((u5 13), .inl (Y 0, 18, .inl (fun _ => 0))) :: ((u5 14), .inl (Y 0, 18, .inl (fun _ => 0))) :: ((u5 26), .inl (Y 0, 30132, .inl (fun _ => 0))) :: ((u5 27), .inl (Y 3, 4, .inl (fun _ => 0))) :: []) H := hP
  have hD : va_D A ((q1, .inr (10, (dsF u2))) :: ((u2 0), .inr (6, (skF u2))) :: ((u2 16), .inl (Y 7, 12, .inr (.inr (.inr (.inr (fun _ => none)))))) :: ((u2 17), .inl (Y 8, 40, .inr (.inr (.inr (.inr (fun _ => none)))))) :: ((u2 18), .inl (Y 0, 12, .inl (fun _ => 0))) :: ((u2 19), .inl (Y 0, 12, .inl (fun _ => 0))) :: ((u2 20), .inl (Y 0, 8, .inl (fun _ => 0))) :: ((u2 21), .inl (Y 0, 8, .inl (fun _ => 0))) :: ((u2 22), .inl (Y 2, 400, .inl (fun _ => 0))) :: ((u2 1), .inl (Y 4, 4, .inr (.inr (.inr (.inr (fun _ => none)))))) :: ((u2 5), .inr (3, (paF Z u2))) :: ((u2 24), .inr (8, (txF u2))) :: (q4, .inr (11, (moF u5))) :: ((u5 0), .inl (Y 0, 7533, .inl tolF)) :: ((u5 2), .inl (Y 2, 400, .inl (fun _ => 0))) :: ((u5 3), .inl (Y 0, 3, .inl (fun _ => 0))) :: ((u5 5), .inl (Y 0, 18, .inl (fun _ => 0))) :: ((u5 7), .inl (Y 0, 18, .inl (fun _ => 0))) :: ((u5 8), .inl (Y 0, 18, .inl (fun _ => 0))) :: ((u5 9), .inl (Y 0, 18, .inl (fun _ => 0))) :: ((u5 11), .inl (Y 0, 18, .inl (fun _ => 0))) :: ((u5 13), .inl (Y 0, 18, .inl (fun _ => 0))) :: ((u5 14), .inl (Y 0, 18, .inl (fun _ => 0))) :: ((u5 26), .inl (Y 0, 30132, .inl (fun _ => 0))) :: ((u5 27), .inl (Y 3, 4, .inl (fun _ => 0))) :: []) := hD
  refine lv_astore_n (lv' := [(2, .ref q4), (1, .ref q1), (0, .ref sb)]) hx hb dL_law_15 rfl hl (by decide) rfl (fun ls hl => ?_)
  refine lv_iconst (v := 0) hx hb dL_law_16 (by decide) ?_
  refine lv_istore_n (lv' := [(3, .int 0), (2, .ref q4), (1, .ref q1), (0, .ref sb)]) hx hb dL_law_17 rfl hl (by decide) rfl (fun ls hl => ?_)
  exact lw_head hL C0 hKN hA hA2 (o := q1) (o2 := q4) (b := u2) (a := u5) (hP.sub [0, 1, 2, 3, 4, 5, 6, 7, 8, 9, 10, 11, 12, 13, 14, 15, 16, 17, 18, 19, 20, 21, 22, 23, 24] rfl) (hD.sub [0, 1, 2, 3, 4, 5, 6, 7, 8, 9, 10, 11, 12, 13, 14, 15, 16, 17, 18, 19, 20, 21, 22, 23, 24] (by decide) rfl) hS (lv_sub hl [0, 1, 2, 3] rfl)
-- ===== YOUR PART ENDS =====
set_option maxHeartbeats 4000000 in
theorem lw_walk (l : Launch) (b : Addr) (xs : List Int32) : MetFree l x (headSpec (Jvm.Cond.code x code maxLocals ret :: tables_1) room_1) (lw_P b xs) (fun _ _ _ _ _ => True) lw_Q := by
  refine MetFree.of_bodyS (code := code) (maxLocals := maxLocals) (ret := ret) (by decide) ?_ ?_
  · intro args s m h hn
    obtain ⟨meth, c, h1, h2, h3, h4, h5, h6, -, -⟩ := Cond.code_spec hn (atoms_spec (ws := Jvm.Cond.code x code maxLocals ret :: tables_1) h _ List.mem_cons_self)
    exact ⟨meth, c, h1, h2, h3, h4, h5, h6⟩
  · intro p e s m args below meth c s₁ B hml0 hP _
    obtain ⟨rfl, hx, hbd, hgv⟩ := hP
    obtain ⟨scr, harrAt, hlist, hof, hsmall⟩ := hx
    obtain ⟨hcb, hkn, -, -⟩ := State.arrayAt?_spec harrAt
    have hown : s.vm.findClass R_law = some m.cls := findClass_of_methodNamed B.named
    have hts0 : ∀ c ∈ (Jvm.Cond.code x code maxLocals ret :: tables_1), c.before #[Value.ref b] s = true := atoms_spec (ws := Jvm.Cond.code x code maxLocals ret :: tables_1) B.pre
    have hts : ∀ w ∈ lw_tbl, w.before #[Value.ref b] s = true := k2_hts_sels lw_privs (fun w hw => hts0 w (List.mem_cons_of_mem _ hw)) lw_privs_ok
    have hml : c.maxLocals = 4 := B.maxLocals_eq (hts0 _ List.mem_cons_self)
    have X₀ : Stand p l e room_1 s m #[Value.ref b] below meth c s₁ [] 0 0 := Stand.of_body B
    have hh0 : s₁.heap = s.heap := by rw [B.state]; rfl
    have hsz : scr.slots.size = xs.length := by rw [← Array.length_toList, hlist, List.length_map]
    have hval : ∀ j : Nat, j < xs.length → scr.slots[j]? = some (.int (xs.getD j 0)) := fun j hj => by
      rw [← Array.getElem?_toList, hlist]
      simp [hj]
    have hbl : b < s.heap.size := (Array.getElem?_eq_some_iff.mp hcb).1
    have hX : va_X b xs.length (fun j => xs.getD j 0) s s.heap := ⟨scr, hcb, hof, hkn, hsz, hval⟩
    have K : W p l e room_1 s m #[Value.ref b] below meth c s₁.heap [] 0 0 (lw_Z below #[Value.ref b] s) (entryFrame m ([Value.ref b] : List Value).toArray 4) := by
      rw [hh0]
      exact whole_start l hbd ⟨B.exec, B.bytes, B.returns, hml, hown, hts, hX, hbl, B.notSynchronized, hgv⟩
    obtain ⟨t, a1, o, b1, b2, b3⟩ := K s₁ rfl X₀
    exact ⟨t, o, a1, b1, b2, b3⟩
theorem lw_pre_spec {args : Array Value} {s : State} (h : (Jvm.Cond.and given_1 narrow_1).before args s = true) (hr : rest_1_c.before args s = true) : ∃ (b : Addr) (xs : List Int32), lw_P b xs args s := by
  have hs := flat_of_before _ h
  have hq := flat_of_before _ hr
  have hc : (Cond.count 1).before args s = true := hs _ (by decide +kernel)
  have harr : (Cond.arrayOf (.arg 0) .int).before args s = true := hs _ (by decide +kernel)
  have hle : (Cond.le (.length (.arg 0)) (.int 7)).before args s = true := hs _ (by decide +kernel)
  have hlen : (Cond.isInt (.length (.arg 0))).before args s = true := hq _ (by decide +kernel)
  have hall : (Cond.all (.arg 0) (.isInt (.elem (.arg 0) (.index 0)))).before args s = true := hq _ (by decide +kernel)
  obtain ⟨b, xs, hb, hx⟩ := State.ints_of_pre rfl harr hlen hall
  have hsm : xs.length < 2 ^ 31 := hx.choose_spec.2.2.2
  have hev : (Term.length (.arg 0)).eval args s none [] s = some (.int xs.length.toInt32) := hx.length_eval hb
  have hv := Cond.le_ints hev (show (Term.int 7).eval args s none [] s = some (.int 7) from rfl)
  have hd : xs.length.toInt32 ≤ 7 := by
    simpa [Cond.before, Cond.holds, hv] using hle
  have hN : xs.length ≤ 7 := (Int32.ofNat_le_ofNat hsm (by decide)).mp (show Int32.ofNat xs.length ≤ Int32.ofNat 7 from hd)
  exact ⟨b, xs, Cond.one_arg hc (show args[0]? = some (.ref b) from hb), hx, hN, h⟩
theorem lw_comes (l : Launch) : Comes l x (Jvm.Cond.code x code maxLocals ret :: tables_1) room_1 (fun tb e args s => Calls_1 tb e args s ∧ rest_1 tb e args s ∧ Pre_1 tb e args s)
    (fun _ _ args s o t => lw_Q args s o t) := by
  intro p e ha hc hk s m args below hf hfit hheap happ hpre
  obtain ⟨b, xs, hP⟩ := lw_pre_spec hpre.2.2 hpre.2.1
  obtain ⟨k, o, h1, h2, h3, hQ⟩ := lw_walk l b xs p e ha hc hk s m args below hf ((Spec.applies_iff_loose hf).mp happ).1 hP trivial
  exact ⟨k, o, h1, h2, h3, hQ⟩
theorem lw_frame {s t : State} {o : Outcome} {args : Array Value} (h : Framed s o t [] 600000 7302250) :
    Framed s o t (fieldLocs frame_1_writes args s ++ arrayLocs frame_1_arrays args s ++ staticLocs frame_1_statics s) 600000 7302250 := h
theorem lw_limb (L : Cond) (hL : ∀ (args : Array Value) (s t : State), L.after args s (.returned (some (.int 1))) t = true) :
    ArmFor flags0 classFile x code maxLocals ret World_1 tables_1 room_1 Calls_1 rest_1 Pre_1
      (fun tb e a s o t => postC L tb e a s o t ∧ Framed s o t (fieldLocs frame_1_writes a s ++ arrayLocs frame_1_arrays a s ++ staticLocs frame_1_statics s) 600000 7302250) := by
  intro l _ _ _ p e ha hc hk s m args below hf hfit hheap happ hpre
  obtain ⟨k, o, h1, h2, h3, rfl, hF⟩ := lw_comes l p e ha hc hk s m args below hf hfit hheap happ hpre
  exact ⟨k, _, h1, h2, h3, hL args s _, lw_frame hF⟩
theorem i_vc : Claimed_1_1 ∧ Claimed_1_2 := ⟨lw_limb limb_1_1 (fun args s t => by simp [limb_1_1, Cond.after, Cond.holds, Cond.value]), lw_limb limb_1_2 (fun args s t => Cond.after_iff.mpr (by
  first | (rw [show limb_1_2 = Cond.eq .result (.int 1) from rfl, Cond.eq_ints (x := 1) (y := 1) rfl rfl]; simp; done) | (simp [limb_1_2, Cond.value, Term.eval]; done)))⟩

