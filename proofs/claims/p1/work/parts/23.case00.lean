set_option maxHeartbeats 4000000 in
set_option maxRecDepth 100000 in
theorem lc_0 {p : Program} {l : Launch} {e : Env} {s : State} {m : MethodId} {below : List Frame} {meth : Method} {c : Code} {sb : Nat} {xs : Nat → Int32} (C0 : lw_At p s m meth c sb 7 xs) {D : va_G} {Y : Nat → ClassId} {Z : Nat → Nat} (hKN : KN D Y Z s) {A : Nat → Prop} (hA : ∀ q, s.heap.size ≤ q → A q) (hA2 : ∀ q, A q → s.heap.size ≤ q) {o o2 : Nat} {b a : Nat → Nat} {H : Heap} {locs : List Loc} {ls : Array Slot} (hP : va_P D vwCl (LW Y Z o o2 b a) H) (hD : va_D A (LW Y Z o o2 b a)) (hS : va_S A s.heap H locs) (hl : lv_has ls 4 [(3, .int 0), (2, .ref o2), (1, .ref o), (0, .ref sb)]) : W p l e room_1 s m #[Value.ref sb] below meth c H locs 70 52824 (lw_Z below #[Value.ref sb] s) (F0 m 208 ls []) := by
  obtain ⟨hx, hb, hr, hml, hown, hts, hX, hbl, hlocks, hgv⟩ := id C0
  have hb : c.code = cL_law := hb
  have hown : s.vm.findClass RL = some m.cls := hown
  have hg : ∀ w ∈ GW, w.before #[Value.ref sb] s = true := fun w h => hts w (gw_tbl h)
  have hbA : ¬ A sb := fun h => absurd (hA2 sb h) (Nat.not_le.mpr hbl)
  refine lv_aload_n hx hb dL_law_208 rfl (lv_at hl 2 rfl) ?_
  refine lv_aload_n hx hb dL_law_209 rfl (lv_at hl 3 rfl) ?_
  refine lv_iload_n hx hb dL_law_210 rfl (lv_at hl 0 rfl) ?_
  refine lv_iconst (v := 1) hx hb dL_law_211 (by decide) ?_
  refine lv_iadd hx hb dL_law_212 ?_
  refine lv_topi (fun z1 ez1 => ?_)
  obtain rfl : z1 = 1 := ez1.trans (by decide)
  refine va_sld hx hb hX hbl hbA hS (show ¬ ((1 : Int32) < 0 ∨ 7 ≤ (1 : Int32).toNatClampNeg) by decide) dL_law_213 ?_
  refine W.eq (g2 := F0 m 214 ls [.int (xs 1), .ref o]) rfl ?_
  refine lv_aload_n hx hb dL_law_214 rfl (lv_at hl 3 rfl) ?_
  refine lv_iload_n hx hb dL_law_215 rfl (lv_at hl 0 rfl) ?_
  refine lv_iconst (v := 2) hx hb dL_law_216 (by decide) ?_
  refine lv_iadd hx hb dL_law_217 ?_
  refine lv_topi (fun z2 ez2 => ?_)
  obtain rfl : z2 = 2 := ez2.trans (by decide)
  refine va_sld hx hb hX hbl hbA hS (show ¬ ((2 : Int32) < 0 ∨ 7 ≤ (2 : Int32).toNatClampNeg) by decide) dL_law_218 ?_
  refine W.eq (g2 := F0 m 219 ls [.int (xs 2), .int (xs 1), .ref o]) rfl ?_
  refine lv_aload_n hx hb dL_law_219 rfl (lv_at hl 3 rfl) ?_
  refine lv_iload_n hx hb dL_law_220 rfl (lv_at hl 0 rfl) ?_
  refine lv_iconst (v := 3) hx hb dL_law_221 (by decide) ?_
  refine lv_iadd hx hb dL_law_222 ?_
  refine lv_topi (fun z3 ez3 => ?_)
  obtain rfl : z3 = 3 := ez3.trans (by decide)
  refine va_sld hx hb hX hbl hbA hS (show ¬ ((3 : Int32) < 0 ∨ 7 ≤ (3 : Int32).toNatClampNeg) by decide) dL_law_223 ?_
  refine W.eq (g2 := F0 m 224 ls [.int (xs 3), .int (xs 2), .int (xs 1), .ref o]) rfl ?_
  refine cg (wc := [(o, .inr (10, (dsF b))), ((b 0), .inr (6, (skF b))), ((b 16), .inl (Y 7, 12, .inr (.inr (.inr (.inr (fun _ => none))))))]) (wr := (((b 17), .inl (Y 8, 40, .inr (.inr (.inr (.inr (fun _ => none)))))) :: ((b 18), .inl (Y 0, 12, .inl (fun _ => 0))) :: ((b 19), .inl (Y 0, 12, .inl (fun _ => 0))) :: ((b 20), .inl (Y 0, 8, .inl (fun _ => 0))) :: ((b 21), .inl (Y 0, 8, .inl (fun _ => 0))) :: ((b 22), .inl (Y 2, 400, .inl (fun _ => 0))) :: ((b 1), .inl (Y 4, 4, .inr (.inr (.inr (.inr (fun _ => none)))))) :: ((b 5), .inr (3, (paF Z b))) :: ((b 24), .inr (8, (txF b))) :: (o2, .inr (11, (moF a))) :: ((a 0), .inl (Y 0, 7533, .inl tolF)) :: ((a 2), .inl (Y 2, 400, .inl (fun _ => 0))) :: ((a 3), .inl (Y 0, 3, .inl (fun _ => 0))) :: ((a 5), .inl (Y 0, 18, .inl (fun _ => 0))) :: ((a 7), .inl (Y 0, 18, .inl (fun _ => 0))) :: ((a 8), .inl (Y 0, 18, .inl (fun _ => 0))) :: ((a 9), .inl (Y 0, 18, .inl (fun _ => 0))) :: ((a 11), .inl (Y 0, 18, .inl (fun _ => 0))) :: ((a 13), .inl (Y 0, 18, .inl (fun _ => 0))) :: ((a 14), .inl (Y 0, 18, .inl (fun _ => 0))) :: ((a 26), .inl (Y 0, 30132, .inl (fun _ => 0))) :: ((a 27), .inl (Y 3, 4, .inl (fun _ => 0))) :: [])) [0, 1, 2] [3, 4, 5, 6, 7, 8, 9, 10, 11, 12, 13, 14, 15, 16, 17, 18, 19, 20, 21, 22, 23, 24] (rn_V (As := [.int (xs 1), .int (xs 2), .int (xs 3)]) (rest := []) (b := o) (x_star l D Y Z H.size o b (xs 1) (xs 2) (xs 3)) ⟨hx, hb, hml, hown, hg⟩ lk_L_13 ⟨CP.blind, va_recv hKN.1 hP (ci := 10) (q0 := 0) rfl rfl, CP.at (hP.sub [0, 1, 2] rfl) hKN (hD.sub [0, 1, 2] (by decide) rfl)⟩ ⟨⟨rfl, rfl⟩, ⟨Nat.le_of_ble_eq_true rfl, Nat.le_of_ble_eq_true rfl⟩, ⟨Nat.le_of_ble_eq_true rfl, Nat.le_of_ble_eq_true rfl⟩⟩ hl.1 rfl (Nat.le_of_ble_eq_true rfl) dL_law_224) hP hD hS hA rfl rfl (by decide) (by decide) (fun u4 H locs w5 hP hD hS => ?_)
  refine W.widen (k := 72) (n := 53428) (Nat.le_of_ble_eq_true rfl) (Nat.le_of_ble_eq_true rfl) ?_
  subst w5
  refine W.eq (g2 := F0 m 227 ls [.int (sp_star (xs 1) (xs 2) (xs 3))]) rfl ?_
  have hP : va_P D vwCl (((b 17), .inl (Y 8, 40, .inr (.inr (.inr (.inr (fun _ => none)))))) :: ((b 18), .inl (Y 0, 12, .inl (fun _ => 0))) :: ((b 19), .inl (Y 0, 12, .inl (fun _ => 0))) :: ((b 20), .inl (Y 0, 8, .inl (fun _ => 0))) :: ((b 21), .inl (Y 0, 8, .inl (fun _ => 0))) :: ((b 22), .inl (Y 2, 400, .inl (fun _ => 0))) :: ((b 1), .inl (Y 4, 4, .inr (.inr (.inr (.inr (fun _ => none)))))) :: ((b 5), .inr (3, (paF Z b))) :: ((b 24), .inr (8, (txF b))) :: (o2, .inr (11, (moF a))) :: ((a 0), .inl (Y 0, 7533, .inl tolF)) :: ((a 2), .inl (Y 2, 400, .inl (fun _ => 0))) :: ((a 3), .inl (Y 0, 3, .inl (fun _ => 0))) :: ((a 5), .inl (Y 0, 18, .inl (fun _ => 0))) :: ((a 7), .inl (Y 0, 18, .inl (fun _ => 0))) :: ((a 8), .inl (Y 0, 18, .inl (fun _ => 0))) :: ((a 9), .inl (Y 0, 18, .inl (fun _ => 0))) :: ((a 11), .inl (Y 0, 18, .inl (fun _ => 0))) :: ((a 13), .inl (Y 0, 18, .inl (fun _ => 0))) :: ((a 14), .inl (Y 0, 18, .inl (fun _ => 0))) :: ((a 26), .inl (Y 0, 30132, .inl (fun _ => 0))) :: ((a 27), .inl (Y 3, 4, .inl (fun _ => 0))) :: []) H := hP
  have hD : va_D A (((b 17), .inl (Y 8, 40, .inr (.inr (.inr (.inr (fun _ => none)))))) :: ((b 18), .inl (Y 0, 12, .inl (fun _ => 0))) :: ((b 19), .inl (Y 0, 12, .inl (fun _ => 0))) :: ((b 20), .inl (Y 0, 8, .inl (fun _ => 0))) :: ((b 21), .inl (Y 0, 8, .inl (fun _ => 0))) :: ((b 22), .inl (Y 2, 400, .inl (fun _ => 0))) :: ((b 1), .inl (Y 4, 4, .inr (.inr (.inr (.inr (fun _ => none)))))) :: ((b 5), .inr (3, (paF Z b))) :: ((b 24), .inr (8, (txF b))) :: (o2, .inr (11, (moF a))) :: ((a 0), .inl (Y 0, 7533, .inl tolF)) :: ((a 2), .inl (Y 2, 400, .inl (fun _ => 0))) :: ((a 3), .inl (Y 0, 3, .inl (fun _ => 0))) :: ((a 5), .inl (Y 0, 18, .inl (fun _ => 0))) :: ((a 7), .inl (Y 0, 18, .inl (fun _ => 0))) :: ((a 8), .inl (Y 0, 18, .inl (fun _ => 0))) :: ((a 9), .inl (Y 0, 18, .inl (fun _ => 0))) :: ((a 11), .inl (Y 0, 18, .inl (fun _ => 0))) :: ((a 13), .inl (Y 0, 18, .inl (fun _ => 0))) :: ((a 14), .inl (Y 0, 18, .inl (fun _ => 0))) :: ((a 26), .inl (Y 0, 30132, .inl (fun _ => 0))) :: ((a 27), .inl (Y 3, 4, .inl (fun _ => 0))) :: []) := hD
  refine lv_aload_n hx hb dL_law_227 rfl (lv_at hl 1 rfl) ?_
  refine lv_aload_n hx hb dL_law_228 rfl (lv_at hl 3 rfl) ?_
  refine lv_iload_n hx hb dL_law_229 rfl (lv_at hl 0 rfl) ?_
  refine lv_iconst (v := 1) hx hb dL_law_230 (by decide) ?_
  refine lv_iadd hx hb dL_law_231 ?_
  refine lv_topi (fun z6 ez6 => ?_)
  obtain rfl : z6 = 1 := ez6.trans (by decide)
  refine va_sld hx hb hX hbl hbA hS (show ¬ ((1 : Int32) < 0 ∨ 7 ≤ (1 : Int32).toNatClampNeg) by decide) dL_law_232 ?_
  refine W.eq (g2 := F0 m 233 ls [.int (xs 1), .ref o2, .int (sp_star (xs 1) (xs 2) (xs 3))]) rfl ?_
  refine lv_aload_n hx hb dL_law_233 rfl (lv_at hl 3 rfl) ?_
  refine lv_iload_n hx hb dL_law_234 rfl (lv_at hl 0 rfl) ?_
  refine lv_iconst (v := 2) hx hb dL_law_235 (by decide) ?_
  refine lv_iadd hx hb dL_law_236 ?_
  refine lv_topi (fun z7 ez7 => ?_)
  obtain rfl : z7 = 2 := ez7.trans (by decide)
  refine va_sld hx hb hX hbl hbA hS (show ¬ ((2 : Int32) < 0 ∨ 7 ≤ (2 : Int32).toNatClampNeg) by decide) dL_law_237 ?_
  refine W.eq (g2 := F0 m 238 ls [.int (xs 2), .int (xs 1), .ref o2, .int (sp_star (xs 1) (xs 2) (xs 3))]) rfl ?_
  refine lv_aload_n hx hb dL_law_238 rfl (lv_at hl 3 rfl) ?_
  refine lv_iload_n hx hb dL_law_239 rfl (lv_at hl 0 rfl) ?_
  refine lv_iconst (v := 3) hx hb dL_law_240 (by decide) ?_
  refine lv_iadd hx hb dL_law_241 ?_
  refine lv_topi (fun z8 ez8 => ?_)
  obtain rfl : z8 = 3 := ez8.trans (by decide)
  refine va_sld hx hb hX hbl hbA hS (show ¬ ((3 : Int32) < 0 ∨ 7 ≤ (3 : Int32).toNatClampNeg) by decide) dL_law_242 ?_
  refine W.eq (g2 := F0 m 243 ls [.int (xs 3), .int (xs 2), .int (xs 1), .ref o2, .int (sp_star (xs 1) (xs 2) (xs 3))]) rfl ?_
  refine cg (wc := [(o2, .inr (11, (moF a))), ((a 0), .inl (Y 0, 7533, .inl tolF))]) (wr := (((b 17), .inl (Y 8, 40, .inr (.inr (.inr (.inr (fun _ => none)))))) :: ((b 18), .inl (Y 0, 12, .inl (fun _ => 0))) :: ((b 19), .inl (Y 0, 12, .inl (fun _ => 0))) :: ((b 20), .inl (Y 0, 8, .inl (fun _ => 0))) :: ((b 21), .inl (Y 0, 8, .inl (fun _ => 0))) :: ((b 22), .inl (Y 2, 400, .inl (fun _ => 0))) :: ((b 1), .inl (Y 4, 4, .inr (.inr (.inr (.inr (fun _ => none)))))) :: ((b 5), .inr (3, (paF Z b))) :: ((b 24), .inr (8, (txF b))) :: ((a 2), .inl (Y 2, 400, .inl (fun _ => 0))) :: ((a 3), .inl (Y 0, 3, .inl (fun _ => 0))) :: ((a 5), .inl (Y 0, 18, .inl (fun _ => 0))) :: ((a 7), .inl (Y 0, 18, .inl (fun _ => 0))) :: ((a 8), .inl (Y 0, 18, .inl (fun _ => 0))) :: ((a 9), .inl (Y 0, 18, .inl (fun _ => 0))) :: ((a 11), .inl (Y 0, 18, .inl (fun _ => 0))) :: ((a 13), .inl (Y 0, 18, .inl (fun _ => 0))) :: ((a 14), .inl (Y 0, 18, .inl (fun _ => 0))) :: ((a 26), .inl (Y 0, 30132, .inl (fun _ => 0))) :: ((a 27), .inl (Y 3, 4, .inl (fun _ => 0))) :: [])) [9, 10] [0, 1, 2, 3, 4, 5, 6, 7, 8, 11, 12, 13, 14, 15, 16, 17, 18, 19, 20, 21] (rn_V (As := [.int (xs 1), .int (xs 2), .int (xs 3)]) (rest := [.int (sp_star (xs 1) (xs 2) (xs 3))]) (b := o2) (y_star l D Y Z H.size o2 a (xs 1) (xs 2) (xs 3)) ⟨hx, hb, hml, hown, hg⟩ lk_L_17 ⟨CP.blind, va_recv hKN.1 hP (ci := 11) (q0 := 9) rfl rfl, CP.at (hP.sub [9, 10] rfl) hKN (hD.sub [9, 10] (by decide) rfl)⟩ ⟨⟨rfl, rfl⟩, ⟨Nat.le_of_ble_eq_true rfl, Nat.le_of_ble_eq_true rfl⟩, ⟨Nat.le_of_ble_eq_true rfl, Nat.le_of_ble_eq_true rfl⟩⟩ hl.1 rfl (Nat.le_of_ble_eq_true rfl) dL_law_243) hP hD hS hA rfl rfl (by decide) (by decide) (fun u9 H locs w10 hP hD hS => ?_)
  subst w10
  refine W.eq (g2 := F0 m 246 ls [.int (sp_star (xs 1) (xs 2) (xs 3)), .int (sp_star (xs 1) (xs 2) (xs 3))]) rfl ?_
  have hP : va_P D vwCl (((b 17), .inl (Y 8, 40, .inr (.inr (.inr (.inr (fun _ => none)))))) :: ((b 18), .inl (Y 0, 12, .inl (fun _ => 0))) :: ((b 19), .inl (Y 0, 12, .inl (fun _ => 0))) :: ((b 20), .inl (Y 0, 8, .inl (fun _ => 0))) :: ((b 21), .inl (Y 0, 8, .inl (fun _ => 0))) :: ((b 22), .inl (Y 2, 400, .inl (fun _ => 0))) :: ((b 1), .inl (Y 4, 4, .inr (.inr (.inr (.inr (fun _ => none)))))) :: ((b 5), .inr (3, (paF Z b))) :: ((b 24), .inr (8, (txF b))) :: ((a 2), .inl (Y 2, 400, .inl (fun _ => 0))) :: ((a 3), .inl (Y 0, 3, .inl (fun _ => 0))) :: ((a 5), .inl (Y 0, 18, .inl (fun _ => 0))) :: ((a 7), .inl (Y 0, 18, .inl (fun _ => 0))) :: ((a 8), .inl (Y 0, 18, .inl (fun _ => 0))) :: ((a 9), .inl (Y 0, 18, .inl (fun _ => 0))) :: ((a 11), .inl (Y 0, 18, .inl (fun _ => 0))) :: ((a 13), .inl (Y 0, 18, .inl (fun _ => 0))) :: ((a 14), .inl (Y 0, 18, .inl (fun _ => 0))) :: ((a 26), .inl (Y 0, 30132, .inl (fun _ => 0))) :: ((a 27), .inl (Y 3, 4, .inl (fun _ => 0))) :: []) H := hP
  have hD : va_D A (((b 17), .inl (Y 8, 40, .inr (.inr (.inr (.inr (fun _ => none)))))) :: ((b 18), .inl (Y 0, 12, .inl (fun _ => 0))) :: ((b 19), .inl (Y 0, 12, .inl (fun _ => 0))) :: ((b 20), .inl (Y 0, 8, .inl (fun _ => 0))) :: ((b 21), .inl (Y 0, 8, .inl (fun _ => 0))) :: ((b 22), .inl (Y 2, 400, .inl (fun _ => 0))) :: ((b 1), .inl (Y 4, 4, .inr (.inr (.inr (.inr (fun _ => none)))))) :: ((b 5), .inr (3, (paF Z b))) :: ((b 24), .inr (8, (txF b))) :: ((a 2), .inl (Y 2, 400, .inl (fun _ => 0))) :: ((a 3), .inl (Y 0, 3, .inl (fun _ => 0))) :: ((a 5), .inl (Y 0, 18, .inl (fun _ => 0))) :: ((a 7), .inl (Y 0, 18, .inl (fun _ => 0))) :: ((a 8), .inl (Y 0, 18, .inl (fun _ => 0))) :: ((a 9), .inl (Y 0, 18, .inl (fun _ => 0))) :: ((a 11), .inl (Y 0, 18, .inl (fun _ => 0))) :: ((a 13), .inl (Y 0, 18, .inl (fun _ => 0))) :: ((a 14), .inl (Y 0, 18, .inl (fun _ => 0))) :: ((a 26), .inl (Y 0, 30132, .inl (fun _ => 0))) :: ((a 27), .inl (Y 3, 4, .inl (fun _ => 0))) :: []) := hD
  refine lv_icmp_eq (tgt := 1885) hx hb dL_law_246 (by decide) (fun c11 => ?_) (fun c11 => ?_)
  rotate_left
  · exact absurd rfl c11
  exact lw_tail C0 hA2 (Nat.le_of_ble_eq_true rfl) (Nat.le_of_ble_eq_true rfl) hS (lv_sub hl [0, 3] rfl)
set_option maxHeartbeats 4000000 in
set_option maxRecDepth 100000 in
theorem lc_1 {p : Program} {l : Launch} {e : Env} {s : State} {m : MethodId} {below : List Frame} {meth : Method} {c : Code} {sb : Nat} {xs : Nat → Int32} (C0 : lw_At p s m meth c sb 7 xs) {D : va_G} {Y : Nat → ClassId} {Z : Nat → Nat} (hKN : KN D Y Z s) {A : Nat → Prop} (hA : ∀ q, s.heap.size ≤ q → A q) (hA2 : ∀ q, A q → s.heap.size ≤ q) {o o2 : Nat} {b a : Nat → Nat} {H : Heap} {locs : List Loc} {ls : Array Slot} (hP : va_P D vwCl (LW Y Z o o2 b a) H) (hD : va_D A (LW Y Z o o2 b a)) (hS : va_S A s.heap H locs) (hl : lv_has ls 4 [(3, .int 0), (2, .ref o2), (1, .ref o), (0, .ref sb)]) : W p l e room_1 s m #[Value.ref sb] below meth c H locs 70 52824 (lw_Z below #[Value.ref sb] s) (F0 m 251 ls []) := by
  obtain ⟨hx, hb, hr, hml, hown, hts, hX, hbl, hlocks, hgv⟩ := id C0
  have hb : c.code = cL_law := hb
  have hown : s.vm.findClass RL = some m.cls := hown
  have hg : ∀ w ∈ GW, w.before #[Value.ref sb] s = true := fun w h => hts w (gw_tbl h)
  have hbA : ¬ A sb := fun h => absurd (hA2 sb h) (Nat.not_le.mpr hbl)
  refine lv_aload_n hx hb dL_law_251 rfl (lv_at hl 2 rfl) ?_
  refine lv_aload_n hx hb dL_law_252 rfl (lv_at hl 3 rfl) ?_
  refine lv_iload_n hx hb dL_law_253 rfl (lv_at hl 0 rfl) ?_
  refine lv_iconst (v := 1) hx hb dL_law_254 (by decide) ?_
  refine lv_iadd hx hb dL_law_255 ?_
  refine lv_topi (fun z1 ez1 => ?_)
  obtain rfl : z1 = 1 := ez1.trans (by decide)
  refine va_sld hx hb hX hbl hbA hS (show ¬ ((1 : Int32) < 0 ∨ 7 ≤ (1 : Int32).toNatClampNeg) by decide) dL_law_256 ?_
  refine W.eq (g2 := F0 m 257 ls [.int (xs 1), .ref o]) rfl ?_
  refine lv_aload_n hx hb dL_law_257 rfl (lv_at hl 3 rfl) ?_
  refine lv_iload_n hx hb dL_law_258 rfl (lv_at hl 0 rfl) ?_
  refine lv_iconst (v := 2) hx hb dL_law_259 (by decide) ?_
  refine lv_iadd hx hb dL_law_260 ?_
  refine lv_topi (fun z2 ez2 => ?_)
  obtain rfl : z2 = 2 := ez2.trans (by decide)
  refine va_sld hx hb hX hbl hbA hS (show ¬ ((2 : Int32) < 0 ∨ 7 ≤ (2 : Int32).toNatClampNeg) by decide) dL_law_261 ?_
  refine W.eq (g2 := F0 m 262 ls [.int (xs 2), .int (xs 1), .ref o]) rfl ?_
  refine lv_aload_n hx hb dL_law_262 rfl (lv_at hl 3 rfl) ?_
  refine lv_iload_n hx hb dL_law_263 rfl (lv_at hl 0 rfl) ?_
  refine lv_iconst (v := 3) hx hb dL_law_264 (by decide) ?_
  refine lv_iadd hx hb dL_law_265 ?_
  refine lv_topi (fun z3 ez3 => ?_)
  obtain rfl : z3 = 3 := ez3.trans (by decide)
  refine va_sld hx hb hX hbl hbA hS (show ¬ ((3 : Int32) < 0 ∨ 7 ≤ (3 : Int32).toNatClampNeg) by decide) dL_law_266 ?_
  refine W.eq (g2 := F0 m 267 ls [.int (xs 3), .int (xs 2), .int (xs 1), .ref o]) rfl ?_
  refine cg (wc := [(o, .inr (10, (dsF b))), ((b 0), .inr (6, (skF b)))]) (wr := (((b 16), .inl (Y 7, 12, .inr (.inr (.inr (.inr (fun _ => none)))))) :: ((b 17), .inl (Y 8, 40, .inr (.inr (.inr (.inr (fun _ => none)))))) :: ((b 18), .inl (Y 0, 12, .inl (fun _ => 0))) :: ((b 19), .inl (Y 0, 12, .inl (fun _ => 0))) :: ((b 20), .inl (Y 0, 8, .inl (fun _ => 0))) :: ((b 21), .inl (Y 0, 8, .inl (fun _ => 0))) :: ((b 22), .inl (Y 2, 400, .inl (fun _ => 0))) :: ((b 1), .inl (Y 4, 4, .inr (.inr (.inr (.inr (fun _ => none)))))) :: ((b 5), .inr (3, (paF Z b))) :: ((b 24), .inr (8, (txF b))) :: (o2, .inr (11, (moF a))) :: ((a 0), .inl (Y 0, 7533, .inl tolF)) :: ((a 2), .inl (Y 2, 400, .inl (fun _ => 0))) :: ((a 3), .inl (Y 0, 3, .inl (fun _ => 0))) :: ((a 5), .inl (Y 0, 18, .inl (fun _ => 0))) :: ((a 7), .inl (Y 0, 18, .inl (fun _ => 0))) :: ((a 8), .inl (Y 0, 18, .inl (fun _ => 0))) :: ((a 9), .inl (Y 0, 18, .inl (fun _ => 0))) :: ((a 11), .inl (Y 0, 18, .inl (fun _ => 0))) :: ((a 13), .inl (Y 0, 18, .inl (fun _ => 0))) :: ((a 14), .inl (Y 0, 18, .inl (fun _ => 0))) :: ((a 26), .inl (Y 0, 30132, .inl (fun _ => 0))) :: ((a 27), .inl (Y 3, 4, .inl (fun _ => 0))) :: [])) [0, 1] [2, 3, 4, 5, 6, 7, 8, 9, 10, 11, 12, 13, 14, 15, 16, 17, 18, 19, 20, 21, 22, 23, 24] (rn_V (As := [.int (xs 1), .int (xs 2), .int (xs 3)]) (rest := []) (b := o) (x_row l D Y Z H.size o b (xs 1) (xs 2) (xs 3)) ⟨hx, hb, hml, hown, hg⟩ lk_L_18 ⟨CP.blind, va_recv hKN.1 hP (ci := 10) (q0 := 0) rfl rfl, CP.at (hP.sub [0, 1] rfl) hKN (hD.sub [0, 1] (by decide) rfl)⟩ ⟨⟨rfl, rfl⟩, ⟨Nat.le_of_ble_eq_true rfl, Nat.le_of_ble_eq_true rfl⟩, ⟨Nat.le_of_ble_eq_true rfl, Nat.le_of_ble_eq_true rfl⟩⟩ hl.1 rfl (Nat.le_of_ble_eq_true rfl) dL_law_267) hP hD hS hA rfl rfl (by decide) (by decide) (fun u4 H locs w5 hP hD hS => ?_)
  refine W.eq (g2 := F0 m 270 ls [.int (-200000)]) rfl ?_
  have hP : va_P D vwCl (((b 16), .inl (Y 7, 12, .inr (.inr (.inr (.inr (fun _ => none)))))) :: ((b 17), .inl (Y 8, 40, .inr (.inr (.inr (.inr (fun _ => none)))))) :: ((b 18), .inl (Y 0, 12, .inl (fun _ => 0))) :: ((b 19), .inl (Y 0, 12, .inl (fun _ => 0))) :: ((b 20), .inl (Y 0, 8, .inl (fun _ => 0))) :: ((b 21), .inl (Y 0, 8, .inl (fun _ => 0))) :: ((b 22), .inl (Y 2, 400, .inl (fun _ => 0))) :: ((b 1), .inl (Y 4, 4, .inr (.inr (.inr (.inr (fun _ => none)))))) :: ((b 5), .inr (3, (paF Z b))) :: ((b 24), .inr (8, (txF b))) :: (o2, .inr (11, (moF a))) :: ((a 0), .inl (Y 0, 7533, .inl tolF)) :: ((a 2), .inl (Y 2, 400, .inl (fun _ => 0))) :: ((a 3), .inl (Y 0, 3, .inl (fun _ => 0))) :: ((a 5), .inl (Y 0, 18, .inl (fun _ => 0))) :: ((a 7), .inl (Y 0, 18, .inl (fun _ => 0))) :: ((a 8), .inl (Y 0, 18, .inl (fun _ => 0))) :: ((a 9), .inl (Y 0, 18, .inl (fun _ => 0))) :: ((a 11), .inl (Y 0, 18, .inl (fun _ => 0))) :: ((a 13), .inl (Y 0, 18, .inl (fun _ => 0))) :: ((a 14), .inl (Y 0, 18, .inl (fun _ => 0))) :: ((a 26), .inl (Y 0, 30132, .inl (fun _ => 0))) :: ((a 27), .inl (Y 3, 4, .inl (fun _ => 0))) :: []) H := hP
  have hD : va_D A (((b 16), .inl (Y 7, 12, .inr (.inr (.inr (.inr (fun _ => none)))))) :: ((b 17), .inl (Y 8, 40, .inr (.inr (.inr (.inr (fun _ => none)))))) :: ((b 18), .inl (Y 0, 12, .inl (fun _ => 0))) :: ((b 19), .inl (Y 0, 12, .inl (fun _ => 0))) :: ((b 20), .inl (Y 0, 8, .inl (fun _ => 0))) :: ((b 21), .inl (Y 0, 8, .inl (fun _ => 0))) :: ((b 22), .inl (Y 2, 400, .inl (fun _ => 0))) :: ((b 1), .inl (Y 4, 4, .inr (.inr (.inr (.inr (fun _ => none)))))) :: ((b 5), .inr (3, (paF Z b))) :: ((b 24), .inr (8, (txF b))) :: (o2, .inr (11, (moF a))) :: ((a 0), .inl (Y 0, 7533, .inl tolF)) :: ((a 2), .inl (Y 2, 400, .inl (fun _ => 0))) :: ((a 3), .inl (Y 0, 3, .inl (fun _ => 0))) :: ((a 5), .inl (Y 0, 18, .inl (fun _ => 0))) :: ((a 7), .inl (Y 0, 18, .inl (fun _ => 0))) :: ((a 8), .inl (Y 0, 18, .inl (fun _ => 0))) :: ((a 9), .inl (Y 0, 18, .inl (fun _ => 0))) :: ((a 11), .inl (Y 0, 18, .inl (fun _ => 0))) :: ((a 13), .inl (Y 0, 18, .inl (fun _ => 0))) :: ((a 14), .inl (Y 0, 18, .inl (fun _ => 0))) :: ((a 26), .inl (Y 0, 30132, .inl (fun _ => 0))) :: ((a 27), .inl (Y 3, 4, .inl (fun _ => 0))) :: []) := hD
  refine lv_aload_n hx hb dL_law_270 rfl (lv_at hl 1 rfl) ?_
  refine lv_aload_n hx hb dL_law_271 rfl (lv_at hl 3 rfl) ?_
  refine lv_iload_n hx hb dL_law_272 rfl (lv_at hl 0 rfl) ?_
  refine lv_iconst (v := 1) hx hb dL_law_273 (by decide) ?_
  refine lv_iadd hx hb dL_law_274 ?_
  refine lv_topi (fun z6 ez6 => ?_)
  obtain rfl : z6 = 1 := ez6.trans (by decide)
  refine va_sld hx hb hX hbl hbA hS (show ¬ ((1 : Int32) < 0 ∨ 7 ≤ (1 : Int32).toNatClampNeg) by decide) dL_law_275 ?_
  refine W.eq (g2 := F0 m 276 ls [.int (xs 1), .ref o2, .int (-200000)]) rfl ?_
  refine lv_aload_n hx hb dL_law_276 rfl (lv_at hl 3 rfl) ?_
  refine lv_iload_n hx hb dL_law_277 rfl (lv_at hl 0 rfl) ?_
  refine lv_iconst (v := 2) hx hb dL_law_278 (by decide) ?_
  refine lv_iadd hx hb dL_law_279 ?_
  refine lv_topi (fun z7 ez7 => ?_)
  obtain rfl : z7 = 2 := ez7.trans (by decide)
  refine va_sld hx hb hX hbl hbA hS (show ¬ ((2 : Int32) < 0 ∨ 7 ≤ (2 : Int32).toNatClampNeg) by decide) dL_law_280 ?_
  refine W.eq (g2 := F0 m 281 ls [.int (xs 2), .int (xs 1), .ref o2, .int (-200000)]) rfl ?_
  refine lv_aload_n hx hb dL_law_281 rfl (lv_at hl 3 rfl) ?_
  refine lv_iload_n hx hb dL_law_282 rfl (lv_at hl 0 rfl) ?_
  refine lv_iconst (v := 3) hx hb dL_law_283 (by decide) ?_
  refine lv_iadd hx hb dL_law_284 ?_
  refine lv_topi (fun z8 ez8 => ?_)
  obtain rfl : z8 = 3 := ez8.trans (by decide)
  refine va_sld hx hb hX hbl hbA hS (show ¬ ((3 : Int32) < 0 ∨ 7 ≤ (3 : Int32).toNatClampNeg) by decide) dL_law_285 ?_
  refine W.eq (g2 := F0 m 286 ls [.int (xs 3), .int (xs 2), .int (xs 1), .ref o2, .int (-200000)]) rfl ?_
  refine cg (wc := [(o2, .inr (11, (moF a))), ((a 0), .inl (Y 0, 7533, .inl tolF))]) (wr := (((b 16), .inl (Y 7, 12, .inr (.inr (.inr (.inr (fun _ => none)))))) :: ((b 17), .inl (Y 8, 40, .inr (.inr (.inr (.inr (fun _ => none)))))) :: ((b 18), .inl (Y 0, 12, .inl (fun _ => 0))) :: ((b 19), .inl (Y 0, 12, .inl (fun _ => 0))) :: ((b 20), .inl (Y 0, 8, .inl (fun _ => 0))) :: ((b 21), .inl (Y 0, 8, .inl (fun _ => 0))) :: ((b 22), .inl (Y 2, 400, .inl (fun _ => 0))) :: ((b 1), .inl (Y 4, 4, .inr (.inr (.inr (.inr (fun _ => none)))))) :: ((b 5), .inr (3, (paF Z b))) :: ((b 24), .inr (8, (txF b))) :: ((a 2), .inl (Y 2, 400, .inl (fun _ => 0))) :: ((a 3), .inl (Y 0, 3, .inl (fun _ => 0))) :: ((a 5), .inl (Y 0, 18, .inl (fun _ => 0))) :: ((a 7), .inl (Y 0, 18, .inl (fun _ => 0))) :: ((a 8), .inl (Y 0, 18, .inl (fun _ => 0))) :: ((a 9), .inl (Y 0, 18, .inl (fun _ => 0))) :: ((a 11), .inl (Y 0, 18, .inl (fun _ => 0))) :: ((a 13), .inl (Y 0, 18, .inl (fun _ => 0))) :: ((a 14), .inl (Y 0, 18, .inl (fun _ => 0))) :: ((a 26), .inl (Y 0, 30132, .inl (fun _ => 0))) :: ((a 27), .inl (Y 3, 4, .inl (fun _ => 0))) :: [])) [10, 11] [0, 1, 2, 3, 4, 5, 6, 7, 8, 9, 12, 13, 14, 15, 16, 17, 18, 19, 20, 21, 22] (rn_V (As := [.int (xs 1), .int (xs 2), .int (xs 3)]) (rest := [.int (-200000)]) (b := o2) (y_row l D Y Z H.size o2 a (xs 1) (xs 2) (xs 3)) ⟨hx, hb, hml, hown, hg⟩ lk_L_21 ⟨CP.blind, va_recv hKN.1 hP (ci := 11) (q0 := 10) rfl rfl, CP.at (hP.sub [10, 11] rfl) hKN (hD.sub [10, 11] (by decide) rfl)⟩ ⟨⟨rfl, rfl⟩, ⟨Nat.le_of_ble_eq_true rfl, Nat.le_of_ble_eq_true rfl⟩, ⟨Nat.le_of_ble_eq_true rfl, Nat.le_of_ble_eq_true rfl⟩⟩ hl.1 rfl (Nat.le_of_ble_eq_true rfl) dL_law_286) hP hD hS hA rfl rfl (by decide) (by decide) (fun u9 H locs w10 hP hD hS => ?_)
  refine W.eq (g2 := F0 m 289 ls [.int (-200000), .int (-200000)]) rfl ?_
  have hP : va_P D vwCl (((b 16), .inl (Y 7, 12, .inr (.inr (.inr (.inr (fun _ => none)))))) :: ((b 17), .inl (Y 8, 40, .inr (.inr (.inr (.inr (fun _ => none)))))) :: ((b 18), .inl (Y 0, 12, .inl (fun _ => 0))) :: ((b 19), .inl (Y 0, 12, .inl (fun _ => 0))) :: ((b 20), .inl (Y 0, 8, .inl (fun _ => 0))) :: ((b 21), .inl (Y 0, 8, .inl (fun _ => 0))) :: ((b 22), .inl (Y 2, 400, .inl (fun _ => 0))) :: ((b 1), .inl (Y 4, 4, .inr (.inr (.inr (.inr (fun _ => none)))))) :: ((b 5), .inr (3, (paF Z b))) :: ((b 24), .inr (8, (txF b))) :: ((a 2), .inl (Y 2, 400, .inl (fun _ => 0))) :: ((a 3), .inl (Y 0, 3, .inl (fun _ => 0))) :: ((a 5), .inl (Y 0, 18, .inl (fun _ => 0))) :: ((a 7), .inl (Y 0, 18, .inl (fun _ => 0))) :: ((a 8), .inl (Y 0, 18, .inl (fun _ => 0))) :: ((a 9), .inl (Y 0, 18, .inl (fun _ => 0))) :: ((a 11), .inl (Y 0, 18, .inl (fun _ => 0))) :: ((a 13), .inl (Y 0, 18, .inl (fun _ => 0))) :: ((a 14), .inl (Y 0, 18, .inl (fun _ => 0))) :: ((a 26), .inl (Y 0, 30132, .inl (fun _ => 0))) :: ((a 27), .inl (Y 3, 4, .inl (fun _ => 0))) :: []) H := hP
  have hD : va_D A (((b 16), .inl (Y 7, 12, .inr (.inr (.inr (.inr (fun _ => none)))))) :: ((b 17), .inl (Y 8, 40, .inr (.inr (.inr (.inr (fun _ => none)))))) :: ((b 18), .inl (Y 0, 12, .inl (fun _ => 0))) :: ((b 19), .inl (Y 0, 12, .inl (fun _ => 0))) :: ((b 20), .inl (Y 0, 8, .inl (fun _ => 0))) :: ((b 21), .inl (Y 0, 8, .inl (fun _ => 0))) :: ((b 22), .inl (Y 2, 400, .inl (fun _ => 0))) :: ((b 1), .inl (Y 4, 4, .inr (.inr (.inr (.inr (fun _ => none)))))) :: ((b 5), .inr (3, (paF Z b))) :: ((b 24), .inr (8, (txF b))) :: ((a 2), .inl (Y 2, 400, .inl (fun _ => 0))) :: ((a 3), .inl (Y 0, 3, .inl (fun _ => 0))) :: ((a 5), .inl (Y 0, 18, .inl (fun _ => 0))) :: ((a 7), .inl (Y 0, 18, .inl (fun _ => 0))) :: ((a 8), .inl (Y 0, 18, .inl (fun _ => 0))) :: ((a 9), .inl (Y 0, 18, .inl (fun _ => 0))) :: ((a 11), .inl (Y 0, 18, .inl (fun _ => 0))) :: ((a 13), .inl (Y 0, 18, .inl (fun _ => 0))) :: ((a 14), .inl (Y 0, 18, .inl (fun _ => 0))) :: ((a 26), .inl (Y 0, 30132, .inl (fun _ => 0))) :: ((a 27), .inl (Y 3, 4, .inl (fun _ => 0))) :: []) := hD
  refine lv_icmp_eq (tgt := 1885) hx hb dL_law_289 (by decide) (fun c11 => ?_) (fun c11 => ?_)
  rotate_left
  · exact absurd c11 (by decide)
  exact lw_tail C0 hA2 (Nat.le_of_ble_eq_true rfl) (Nat.le_of_ble_eq_true rfl) hS (lv_sub hl [0, 3] rfl)
set_option maxHeartbeats 4000000 in
set_option maxRecDepth 100000 in
theorem lc_2 {p : Program} {l : Launch} {e : Env} {s : State} {m : MethodId} {below : List Frame} {meth : Method} {c : Code} {sb : Nat} {xs : Nat → Int32} (C0 : lw_At p s m meth c sb 7 xs) {D : va_G} {Y : Nat → ClassId} {Z : Nat → Nat} (hKN : KN D Y Z s) {A : Nat → Prop} (hA : ∀ q, s.heap.size ≤ q → A q) (hA2 : ∀ q, A q → s.heap.size ≤ q) {o o2 : Nat} {b a : Nat → Nat} {H : Heap} {locs : List Loc} {ls : Array Slot} (hP : va_P D vwCl (LW Y Z o o2 b a) H) (hD : va_D A (LW Y Z o o2 b a)) (hS : va_S A s.heap H locs) (hl : lv_has ls 4 [(3, .int 0), (2, .ref o2), (1, .ref o), (0, .ref sb)]) : W p l e room_1 s m #[Value.ref sb] below meth c H locs 70 52824 (lw_Z below #[Value.ref sb] s) (F0 m 294 ls []) := by
  obtain ⟨hx, hb, hr, hml, hown, hts, hX, hbl, hlocks, hgv⟩ := id C0
  have hb : c.code = cL_law := hb
  have hown : s.vm.findClass RL = some m.cls := hown
  have hg : ∀ w ∈ GW, w.before #[Value.ref sb] s = true := fun w h => hts w (gw_tbl h)
  have hbA : ¬ A sb := fun h => absurd (hA2 sb h) (Nat.not_le.mpr hbl)
  refine lv_aload_n hx hb dL_law_294 rfl (lv_at hl 2 rfl) ?_
  refine lv_aload_n hx hb dL_law_295 rfl (lv_at hl 3 rfl) ?_
  refine lv_iload_n hx hb dL_law_296 rfl (lv_at hl 0 rfl) ?_
  refine lv_iconst (v := 1) hx hb dL_law_297 (by decide) ?_
  refine lv_iadd hx hb dL_law_298 ?_
  refine lv_topi (fun z1 ez1 => ?_)
  obtain rfl : z1 = 1 := ez1.trans (by decide)
  refine va_sld hx hb hX hbl hbA hS (show ¬ ((1 : Int32) < 0 ∨ 7 ≤ (1 : Int32).toNatClampNeg) by decide) dL_law_299 ?_
  refine W.eq (g2 := F0 m 300 ls [.int (xs 1), .ref o]) rfl ?_
  refine lv_aload_n hx hb dL_law_300 rfl (lv_at hl 3 rfl) ?_
  refine lv_iload_n hx hb dL_law_301 rfl (lv_at hl 0 rfl) ?_
  refine lv_iconst (v := 2) hx hb dL_law_302 (by decide) ?_
  refine lv_iadd hx hb dL_law_303 ?_
  refine lv_topi (fun z2 ez2 => ?_)
  obtain rfl : z2 = 2 := ez2.trans (by decide)
  refine va_sld hx hb hX hbl hbA hS (show ¬ ((2 : Int32) < 0 ∨ 7 ≤ (2 : Int32).toNatClampNeg) by decide) dL_law_304 ?_
  refine W.eq (g2 := F0 m 305 ls [.int (xs 2), .int (xs 1), .ref o]) rfl ?_
  refine cg (wc := [(o, .inr (10, (dsF b))), ((b 0), .inr (6, (skF b)))]) (wr := (((b 16), .inl (Y 7, 12, .inr (.inr (.inr (.inr (fun _ => none)))))) :: ((b 17), .inl (Y 8, 40, .inr (.inr (.inr (.inr (fun _ => none)))))) :: ((b 18), .inl (Y 0, 12, .inl (fun _ => 0))) :: ((b 19), .inl (Y 0, 12, .inl (fun _ => 0))) :: ((b 20), .inl (Y 0, 8, .inl (fun _ => 0))) :: ((b 21), .inl (Y 0, 8, .inl (fun _ => 0))) :: ((b 22), .inl (Y 2, 400, .inl (fun _ => 0))) :: ((b 1), .inl (Y 4, 4, .inr (.inr (.inr (.inr (fun _ => none)))))) :: ((b 5), .inr (3, (paF Z b))) :: ((b 24), .inr (8, (txF b))) :: (o2, .inr (11, (moF a))) :: ((a 0), .inl (Y 0, 7533, .inl tolF)) :: ((a 2), .inl (Y 2, 400, .inl (fun _ => 0))) :: ((a 3), .inl (Y 0, 3, .inl (fun _ => 0))) :: ((a 5), .inl (Y 0, 18, .inl (fun _ => 0))) :: ((a 7), .inl (Y 0, 18, .inl (fun _ => 0))) :: ((a 8), .inl (Y 0, 18, .inl (fun _ => 0))) :: ((a 9), .inl (Y 0, 18, .inl (fun _ => 0))) :: ((a 11), .inl (Y 0, 18, .inl (fun _ => 0))) :: ((a 13), .inl (Y 0, 18, .inl (fun _ => 0))) :: ((a 14), .inl (Y 0, 18, .inl (fun _ => 0))) :: ((a 26), .inl (Y 0, 30132, .inl (fun _ => 0))) :: ((a 27), .inl (Y 3, 4, .inl (fun _ => 0))) :: [])) [0, 1] [2, 3, 4, 5, 6, 7, 8, 9, 10, 11, 12, 13, 14, 15, 16, 17, 18, 19, 20, 21, 22, 23, 24] (rn_V (As := [.int (xs 1), .int (xs 2)]) (rest := []) (b := o) (x_resize l D Y Z H.size o b (xs 1) (xs 2)) ⟨hx, hb, hml, hown, hg⟩ lk_L_22 ⟨CP.blind, va_recv hKN.1 hP (ci := 10) (q0 := 0) rfl rfl, CP.at (hP.sub [0, 1] rfl) hKN (hD.sub [0, 1] (by decide) rfl)⟩ ⟨⟨rfl, rfl⟩, ⟨Nat.le_of_ble_eq_true rfl, Nat.le_of_ble_eq_true rfl⟩, ⟨Nat.le_of_ble_eq_true rfl, Nat.le_of_ble_eq_true rfl⟩⟩ hl.1 rfl (Nat.le_of_ble_eq_true rfl) dL_law_305) hP hD hS hA rfl rfl (by decide) (by decide) (fun u3 H locs w4 hP hD hS => ?_)
  refine W.eq (g2 := F0 m 308 ls [.int (-1)]) rfl ?_
  have hP : va_P D vwCl (((b 16), .inl (Y 7, 12, .inr (.inr (.inr (.inr (fun _ => none)))))) :: ((b 17), .inl (Y 8, 40, .inr (.inr (.inr (.inr (fun _ => none)))))) :: ((b 18), .inl (Y 0, 12, .inl (fun _ => 0))) :: ((b 19), .inl (Y 0, 12, .inl (fun _ => 0))) :: ((b 20), .inl (Y 0, 8, .inl (fun _ => 0))) :: ((b 21), .inl (Y 0, 8, .inl (fun _ => 0))) :: ((b 22), .inl (Y 2, 400, .inl (fun _ => 0))) :: ((b 1), .inl (Y 4, 4, .inr (.inr (.inr (.inr (fun _ => none)))))) :: ((b 5), .inr (3, (paF Z b))) :: ((b 24), .inr (8, (txF b))) :: (o2, .inr (11, (moF a))) :: ((a 0), .inl (Y 0, 7533, .inl tolF)) :: ((a 2), .inl (Y 2, 400, .inl (fun _ => 0))) :: ((a 3), .inl (Y 0, 3, .inl (fun _ => 0))) :: ((a 5), .inl (Y 0, 18, .inl (fun _ => 0))) :: ((a 7), .inl (Y 0, 18, .inl (fun _ => 0))) :: ((a 8), .inl (Y 0, 18, .inl (fun _ => 0))) :: ((a 9), .inl (Y 0, 18, .inl (fun _ => 0))) :: ((a 11), .inl (Y 0, 18, .inl (fun _ => 0))) :: ((a 13), .inl (Y 0, 18, .inl (fun _ => 0))) :: ((a 14), .inl (Y 0, 18, .inl (fun _ => 0))) :: ((a 26), .inl (Y 0, 30132, .inl (fun _ => 0))) :: ((a 27), .inl (Y 3, 4, .inl (fun _ => 0))) :: []) H := hP
  have hD : va_D A (((b 16), .inl (Y 7, 12, .inr (.inr (.inr (.inr (fun _ => none)))))) :: ((b 17), .inl (Y 8, 40, .inr (.inr (.inr (.inr (fun _ => none)))))) :: ((b 18), .inl (Y 0, 12, .inl (fun _ => 0))) :: ((b 19), .inl (Y 0, 12, .inl (fun _ => 0))) :: ((b 20), .inl (Y 0, 8, .inl (fun _ => 0))) :: ((b 21), .inl (Y 0, 8, .inl (fun _ => 0))) :: ((b 22), .inl (Y 2, 400, .inl (fun _ => 0))) :: ((b 1), .inl (Y 4, 4, .inr (.inr (.inr (.inr (fun _ => none)))))) :: ((b 5), .inr (3, (paF Z b))) :: ((b 24), .inr (8, (txF b))) :: (o2, .inr (11, (moF a))) :: ((a 0), .inl (Y 0, 7533, .inl tolF)) :: ((a 2), .inl (Y 2, 400, .inl (fun _ => 0))) :: ((a 3), .inl (Y 0, 3, .inl (fun _ => 0))) :: ((a 5), .inl (Y 0, 18, .inl (fun _ => 0))) :: ((a 7), .inl (Y 0, 18, .inl (fun _ => 0))) :: ((a 8), .inl (Y 0, 18, .inl (fun _ => 0))) :: ((a 9), .inl (Y 0, 18, .inl (fun _ => 0))) :: ((a 11), .inl (Y 0, 18, .inl (fun _ => 0))) :: ((a 13), .inl (Y 0, 18, .inl (fun _ => 0))) :: ((a 14), .inl (Y 0, 18, .inl (fun _ => 0))) :: ((a 26), .inl (Y 0, 30132, .inl (fun _ => 0))) :: ((a 27), .inl (Y 3, 4, .inl (fun _ => 0))) :: []) := hD
  refine lv_aload_n hx hb dL_law_308 rfl (lv_at hl 1 rfl) ?_
  refine lv_aload_n hx hb dL_law_309 rfl (lv_at hl 3 rfl) ?_
  refine lv_iload_n hx hb dL_law_310 rfl (lv_at hl 0 rfl) ?_
  refine lv_iconst (v := 1) hx hb dL_law_311 (by decide) ?_
  refine lv_iadd hx hb dL_law_312 ?_
  refine lv_topi (fun z5 ez5 => ?_)
  obtain rfl : z5 = 1 := ez5.trans (by decide)
  refine va_sld hx hb hX hbl hbA hS (show ¬ ((1 : Int32) < 0 ∨ 7 ≤ (1 : Int32).toNatClampNeg) by decide) dL_law_313 ?_
  refine W.eq (g2 := F0 m 314 ls [.int (xs 1), .ref o2, .int (-1)]) rfl ?_
  refine lv_aload_n hx hb dL_law_314 rfl (lv_at hl 3 rfl) ?_
  refine lv_iload_n hx hb dL_law_315 rfl (lv_at hl 0 rfl) ?_
  refine lv_iconst (v := 2) hx hb dL_law_316 (by decide) ?_
  refine lv_iadd hx hb dL_law_317 ?_
  refine lv_topi (fun z6 ez6 => ?_)
  obtain rfl : z6 = 2 := ez6.trans (by decide)
  refine va_sld hx hb hX hbl hbA hS (show ¬ ((2 : Int32) < 0 ∨ 7 ≤ (2 : Int32).toNatClampNeg) by decide) dL_law_318 ?_
  refine W.eq (g2 := F0 m 319 ls [.int (xs 2), .int (xs 1), .ref o2, .int (-1)]) rfl ?_
  refine cg (wc := [(o2, .inr (11, (moF a))), ((a 0), .inl (Y 0, 7533, .inl tolF))]) (wr := (((b 16), .inl (Y 7, 12, .inr (.inr (.inr (.inr (fun _ => none)))))) :: ((b 17), .inl (Y 8, 40, .inr (.inr (.inr (.inr (fun _ => none)))))) :: ((b 18), .inl (Y 0, 12, .inl (fun _ => 0))) :: ((b 19), .inl (Y 0, 12, .inl (fun _ => 0))) :: ((b 20), .inl (Y 0, 8, .inl (fun _ => 0))) :: ((b 21), .inl (Y 0, 8, .inl (fun _ => 0))) :: ((b 22), .inl (Y 2, 400, .inl (fun _ => 0))) :: ((b 1), .inl (Y 4, 4, .inr (.inr (.inr (.inr (fun _ => none)))))) :: ((b 5), .inr (3, (paF Z b))) :: ((b 24), .inr (8, (txF b))) :: ((a 2), .inl (Y 2, 400, .inl (fun _ => 0))) :: ((a 3), .inl (Y 0, 3, .inl (fun _ => 0))) :: ((a 5), .inl (Y 0, 18, .inl (fun _ => 0))) :: ((a 7), .inl (Y 0, 18, .inl (fun _ => 0))) :: ((a 8), .inl (Y 0, 18, .inl (fun _ => 0))) :: ((a 9), .inl (Y 0, 18, .inl (fun _ => 0))) :: ((a 11), .inl (Y 0, 18, .inl (fun _ => 0))) :: ((a 13), .inl (Y 0, 18, .inl (fun _ => 0))) :: ((a 14), .inl (Y 0, 18, .inl (fun _ => 0))) :: ((a 26), .inl (Y 0, 30132, .inl (fun _ => 0))) :: ((a 27), .inl (Y 3, 4, .inl (fun _ => 0))) :: [])) [10, 11] [0, 1, 2, 3, 4, 5, 6, 7, 8, 9, 12, 13, 14, 15, 16, 17, 18, 19, 20, 21, 22] (rn_V (As := [.int (xs 1), .int (xs 2)]) (rest := [.int (-1)]) (b := o2) (y_resize l D Y Z H.size o2 a (xs 1) (xs 2)) ⟨hx, hb, hml, hown, hg⟩ lk_L_26 ⟨CP.blind, va_recv hKN.1 hP (ci := 11) (q0 := 10) rfl rfl, CP.at (hP.sub [10, 11] rfl) hKN (hD.sub [10, 11] (by decide) rfl)⟩ ⟨⟨rfl, rfl⟩, ⟨Nat.le_of_ble_eq_true rfl, Nat.le_of_ble_eq_true rfl⟩, ⟨Nat.le_of_ble_eq_true rfl, Nat.le_of_ble_eq_true rfl⟩⟩ hl.1 rfl (Nat.le_of_ble_eq_true rfl) dL_law_319) hP hD hS hA rfl rfl (by decide) (by decide) (fun u7 H locs w8 hP hD hS => ?_)
  refine W.eq (g2 := F0 m 322 ls [.int (-1), .int (-1)]) rfl ?_
  have hP : va_P D vwCl (((b 16), .inl (Y 7, 12, .inr (.inr (.inr (.inr (fun _ => none)))))) :: ((b 17), .inl (Y 8, 40, .inr (.inr (.inr (.inr (fun _ => none)))))) :: ((b 18), .inl (Y 0, 12, .inl (fun _ => 0))) :: ((b 19), .inl (Y 0, 12, .inl (fun _ => 0))) :: ((b 20), .inl (Y 0, 8, .inl (fun _ => 0))) :: ((b 21), .inl (Y 0, 8, .inl (fun _ => 0))) :: ((b 22), .inl (Y 2, 400, .inl (fun _ => 0))) :: ((b 1), .inl (Y 4, 4, .inr (.inr (.inr (.inr (fun _ => none)))))) :: ((b 5), .inr (3, (paF Z b))) :: ((b 24), .inr (8, (txF b))) :: ((a 2), .inl (Y 2, 400, .inl (fun _ => 0))) :: ((a 3), .inl (Y 0, 3, .inl (fun _ => 0))) :: ((a 5), .inl (Y 0, 18, .inl (fun _ => 0))) :: ((a 7), .inl (Y 0, 18, .inl (fun _ => 0))) :: ((a 8), .inl (Y 0, 18, .inl (fun _ => 0))) :: ((a 9), .inl (Y 0, 18, .inl (fun _ => 0))) :: ((a 11), .inl (Y 0, 18, .inl (fun _ => 0))) :: ((a 13), .inl (Y 0, 18, .inl (fun _ => 0))) :: ((a 14), .inl (Y 0, 18, .inl (fun _ => 0))) :: ((a 26), .inl (Y 0, 30132, .inl (fun _ => 0))) :: ((a 27), .inl (Y 3, 4, .inl (fun _ => 0))) :: []) H := hP
  have hD : va_D A (((b 16), .inl (Y 7, 12, .inr (.inr (.inr (.inr (fun _ => none)))))) :: ((b 17), .inl (Y 8, 40, .inr (.inr (.inr (.inr (fun _ => none)))))) :: ((b 18), .inl (Y 0, 12, .inl (fun _ => 0))) :: ((b 19), .inl (Y 0, 12, .inl (fun _ => 0))) :: ((b 20), .inl (Y 0, 8, .inl (fun _ => 0))) :: ((b 21), .inl (Y 0, 8, .inl (fun _ => 0))) :: ((b 22), .inl (Y 2, 400, .inl (fun _ => 0))) :: ((b 1), .inl (Y 4, 4, .inr (.inr (.inr (.inr (fun _ => none)))))) :: ((b 5), .inr (3, (paF Z b))) :: ((b 24), .inr (8, (txF b))) :: ((a 2), .inl (Y 2, 400, .inl (fun _ => 0))) :: ((a 3), .inl (Y 0, 3, .inl (fun _ => 0))) :: ((a 5), .inl (Y 0, 18, .inl (fun _ => 0))) :: ((a 7), .inl (Y 0, 18, .inl (fun _ => 0))) :: ((a 8), .inl (Y 0, 18, .inl (fun _ => 0))) :: ((a 9), .inl (Y 0, 18, .inl (fun _ => 0))) :: ((a 11), .inl (Y 0, 18, .inl (fun _ => 0))) :: ((a 13), .inl (Y 0, 18, .inl (fun _ => 0))) :: ((a 14), .inl (Y 0, 18, .inl (fun _ => 0))) :: ((a 26), .inl (Y 0, 30132, .inl (fun _ => 0))) :: ((a 27), .inl (Y 3, 4, .inl (fun _ => 0))) :: []) := hD
  refine lv_icmp_eq (tgt := 1885) hx hb dL_law_322 (by decide) (fun c9 => ?_) (fun c9 => ?_)
  rotate_left
  · exact absurd c9 (by decide)
  exact lw_tail C0 hA2 (Nat.le_of_ble_eq_true rfl) (Nat.le_of_ble_eq_true rfl) hS (lv_sub hl [0, 3] rfl)
set_option maxHeartbeats 4000000 in
set_option maxRecDepth 100000 in
theorem lc_3 {p : Program} {l : Launch} {e : Env} {s : State} {m : MethodId} {below : List Frame} {meth : Method} {c : Code} {sb : Nat} {xs : Nat → Int32} (C0 : lw_At p s m meth c sb 7 xs) {D : va_G} {Y : Nat → ClassId} {Z : Nat → Nat} (hKN : KN D Y Z s) {A : Nat → Prop} (hA : ∀ q, s.heap.size ≤ q → A q) (hA2 : ∀ q, A q → s.heap.size ≤ q) {o o2 : Nat} {b a : Nat → Nat} {H : Heap} {locs : List Loc} {ls : Array Slot} (hP : va_P D vwCl (LW Y Z o o2 b a) H) (hD : va_D A (LW Y Z o o2 b a)) (hS : va_S A s.heap H locs) (hl : lv_has ls 4 [(3, .int 0), (2, .ref o2), (1, .ref o), (0, .ref sb)]) : W p l e room_1 s m #[Value.ref sb] below meth c H locs 70 52824 (lw_Z below #[Value.ref sb] s) (F0 m 327 ls []) := by
  obtain ⟨hx, hb, hr, hml, hown, hts, hX, hbl, hlocks, hgv⟩ := id C0
  have hb : c.code = cL_law := hb
  have hown : s.vm.findClass RL = some m.cls := hown
  have hg : ∀ w ∈ GW, w.before #[Value.ref sb] s = true := fun w h => hts w (gw_tbl h)
  have hbA : ¬ A sb := fun h => absurd (hA2 sb h) (Nat.not_le.mpr hbl)
  refine lv_aload_n hx hb dL_law_327 rfl (lv_at hl 2 rfl) ?_
  refine lv_aload_n hx hb dL_law_328 rfl (lv_at hl 3 rfl) ?_
  refine lv_iload_n hx hb dL_law_329 rfl (lv_at hl 0 rfl) ?_
  refine lv_iconst (v := 1) hx hb dL_law_330 (by decide) ?_
  refine lv_iadd hx hb dL_law_331 ?_
  refine lv_topi (fun z1 ez1 => ?_)
  obtain rfl : z1 = 1 := ez1.trans (by decide)
  refine va_sld hx hb hX hbl hbA hS (show ¬ ((1 : Int32) < 0 ∨ 7 ≤ (1 : Int32).toNatClampNeg) by decide) dL_law_332 ?_
  refine W.eq (g2 := F0 m 333 ls [.int (xs 1), .ref o]) rfl ?_
  refine cg (wc := [(o, .inr (10, (dsF b))), ((b 0), .inr (6, (skF b)))]) (wr := (((b 16), .inl (Y 7, 12, .inr (.inr (.inr (.inr (fun _ => none)))))) :: ((b 17), .inl (Y 8, 40, .inr (.inr (.inr (.inr (fun _ => none)))))) :: ((b 18), .inl (Y 0, 12, .inl (fun _ => 0))) :: ((b 19), .inl (Y 0, 12, .inl (fun _ => 0))) :: ((b 20), .inl (Y 0, 8, .inl (fun _ => 0))) :: ((b 21), .inl (Y 0, 8, .inl (fun _ => 0))) :: ((b 22), .inl (Y 2, 400, .inl (fun _ => 0))) :: ((b 1), .inl (Y 4, 4, .inr (.inr (.inr (.inr (fun _ => none)))))) :: ((b 5), .inr (3, (paF Z b))) :: ((b 24), .inr (8, (txF b))) :: (o2, .inr (11, (moF a))) :: ((a 0), .inl (Y 0, 7533, .inl tolF)) :: ((a 2), .inl (Y 2, 400, .inl (fun _ => 0))) :: ((a 3), .inl (Y 0, 3, .inl (fun _ => 0))) :: ((a 5), .inl (Y 0, 18, .inl (fun _ => 0))) :: ((a 7), .inl (Y 0, 18, .inl (fun _ => 0))) :: ((a 8), .inl (Y 0, 18, .inl (fun _ => 0))) :: ((a 9), .inl (Y 0, 18, .inl (fun _ => 0))) :: ((a 11), .inl (Y 0, 18, .inl (fun _ => 0))) :: ((a 13), .inl (Y 0, 18, .inl (fun _ => 0))) :: ((a 14), .inl (Y 0, 18, .inl (fun _ => 0))) :: ((a 26), .inl (Y 0, 30132, .inl (fun _ => 0))) :: ((a 27), .inl (Y 3, 4, .inl (fun _ => 0))) :: [])) [0, 1] [2, 3, 4, 5, 6, 7, 8, 9, 10, 11, 12, 13, 14, 15, 16, 17, 18, 19, 20, 21, 22, 23, 24] (rn_V (As := [.int (xs 1)]) (rest := []) (b := o) (x_wide l D Y Z H.size o b (xs 1)) ⟨hx, hb, hml, hown, hg⟩ lk_L_27 ⟨CP.blind, va_recv hKN.1 hP (ci := 10) (q0 := 0) rfl rfl, CP.at (hP.sub [0, 1] rfl) hKN (hD.sub [0, 1] (by decide) rfl)⟩ ⟨⟨rfl, rfl⟩, ⟨Nat.le_of_ble_eq_true rfl, Nat.le_of_ble_eq_true rfl⟩, ⟨Nat.le_of_ble_eq_true rfl, Nat.le_of_ble_eq_true rfl⟩⟩ hl.1 rfl (Nat.le_of_ble_eq_true rfl) dL_law_333) hP hD hS hA rfl rfl (by decide) (by decide) (fun u2 H locs w3 hP hD hS => ?_)
  subst w3
  refine W.eq (g2 := F0 m 336 ls [.int (sp_wide (xs 1))]) rfl ?_
  have hP : va_P D vwCl (((b 16), .inl (Y 7, 12, .inr (.inr (.inr (.inr (fun _ => none)))))) :: ((b 17), .inl (Y 8, 40, .inr (.inr (.inr (.inr (fun _ => none)))))) :: ((b 18), .inl (Y 0, 12, .inl (fun _ => 0))) :: ((b 19), .inl (Y 0, 12, .inl (fun _ => 0))) :: ((b 20), .inl (Y 0, 8, .inl (fun _ => 0))) :: ((b 21), .inl (Y 0, 8, .inl (fun _ => 0))) :: ((b 22), .inl (Y 2, 400, .inl (fun _ => 0))) :: ((b 1), .inl (Y 4, 4, .inr (.inr (.inr (.inr (fun _ => none)))))) :: ((b 5), .inr (3, (paF Z b))) :: ((b 24), .inr (8, (txF b))) :: (o2, .inr (11, (moF a))) :: ((a 0), .inl (Y 0, 7533, .inl tolF)) :: ((a 2), .inl (Y 2, 400, .inl (fun _ => 0))) :: ((a 3), .inl (Y 0, 3, .inl (fun _ => 0))) :: ((a 5), .inl (Y 0, 18, .inl (fun _ => 0))) :: ((a 7), .inl (Y 0, 18, .inl (fun _ => 0))) :: ((a 8), .inl (Y 0, 18, .inl (fun _ => 0))) :: ((a 9), .inl (Y 0, 18, .inl (fun _ => 0))) :: ((a 11), .inl (Y 0, 18, .inl (fun _ => 0))) :: ((a 13), .inl (Y 0, 18, .inl (fun _ => 0))) :: ((a 14), .inl (Y 0, 18, .inl (fun _ => 0))) :: ((a 26), .inl (Y 0, 30132, .inl (fun _ => 0))) :: ((a 27), .inl (Y 3, 4, .inl (fun _ => 0))) :: []) H := hP
  have hD : va_D A (((b 16), .inl (Y 7, 12, .inr (.inr (.inr (.inr (fun _ => none)))))) :: ((b 17), .inl (Y 8, 40, .inr (.inr (.inr (.inr (fun _ => none)))))) :: ((b 18), .inl (Y 0, 12, .inl (fun _ => 0))) :: ((b 19), .inl (Y 0, 12, .inl (fun _ => 0))) :: ((b 20), .inl (Y 0, 8, .inl (fun _ => 0))) :: ((b 21), .inl (Y 0, 8, .inl (fun _ => 0))) :: ((b 22), .inl (Y 2, 400, .inl (fun _ => 0))) :: ((b 1), .inl (Y 4, 4, .inr (.inr (.inr (.inr (fun _ => none)))))) :: ((b 5), .inr (3, (paF Z b))) :: ((b 24), .inr (8, (txF b))) :: (o2, .inr (11, (moF a))) :: ((a 0), .inl (Y 0, 7533, .inl tolF)) :: ((a 2), .inl (Y 2, 400, .inl (fun _ => 0))) :: ((a 3), .inl (Y 0, 3, .inl (fun _ => 0))) :: ((a 5), .inl (Y 0, 18, .inl (fun _ => 0))) :: ((a 7), .inl (Y 0, 18, .inl (fun _ => 0))) :: ((a 8), .inl (Y 0, 18, .inl (fun _ => 0))) :: ((a 9), .inl (Y 0, 18, .inl (fun _ => 0))) :: ((a 11), .inl (Y 0, 18, .inl (fun _ => 0))) :: ((a 13), .inl (Y 0, 18, .inl (fun _ => 0))) :: ((a 14), .inl (Y 0, 18, .inl (fun _ => 0))) :: ((a 26), .inl (Y 0, 30132, .inl (fun _ => 0))) :: ((a 27), .inl (Y 3, 4, .inl (fun _ => 0))) :: []) := hD
  refine lv_aload_n hx hb dL_law_336 rfl (lv_at hl 1 rfl) ?_
  refine lv_aload_n hx hb dL_law_337 rfl (lv_at hl 3 rfl) ?_
  refine lv_iload_n hx hb dL_law_338 rfl (lv_at hl 0 rfl) ?_
  refine lv_iconst (v := 1) hx hb dL_law_339 (by decide) ?_
  refine lv_iadd hx hb dL_law_340 ?_
  refine lv_topi (fun z4 ez4 => ?_)
  obtain rfl : z4 = 1 := ez4.trans (by decide)
  refine va_sld hx hb hX hbl hbA hS (show ¬ ((1 : Int32) < 0 ∨ 7 ≤ (1 : Int32).toNatClampNeg) by decide) dL_law_341 ?_
  refine W.eq (g2 := F0 m 342 ls [.int (xs 1), .ref o2, .int (sp_wide (xs 1))]) rfl ?_
  refine cg (wc := [(o2, .inr (11, (moF a))), ((a 0), .inl (Y 0, 7533, .inl tolF))]) (wr := (((b 16), .inl (Y 7, 12, .inr (.inr (.inr (.inr (fun _ => none)))))) :: ((b 17), .inl (Y 8, 40, .inr (.inr (.inr (.inr (fun _ => none)))))) :: ((b 18), .inl (Y 0, 12, .inl (fun _ => 0))) :: ((b 19), .inl (Y 0, 12, .inl (fun _ => 0))) :: ((b 20), .inl (Y 0, 8, .inl (fun _ => 0))) :: ((b 21), .inl (Y 0, 8, .inl (fun _ => 0))) :: ((b 22), .inl (Y 2, 400, .inl (fun _ => 0))) :: ((b 1), .inl (Y 4, 4, .inr (.inr (.inr (.inr (fun _ => none)))))) :: ((b 5), .inr (3, (paF Z b))) :: ((b 24), .inr (8, (txF b))) :: ((a 2), .inl (Y 2, 400, .inl (fun _ => 0))) :: ((a 3), .inl (Y 0, 3, .inl (fun _ => 0))) :: ((a 5), .inl (Y 0, 18, .inl (fun _ => 0))) :: ((a 7), .inl (Y 0, 18, .inl (fun _ => 0))) :: ((a 8), .inl (Y 0, 18, .inl (fun _ => 0))) :: ((a 9), .inl (Y 0, 18, .inl (fun _ => 0))) :: ((a 11), .inl (Y 0, 18, .inl (fun _ => 0))) :: ((a 13), .inl (Y 0, 18, .inl (fun _ => 0))) :: ((a 14), .inl (Y 0, 18, .inl (fun _ => 0))) :: ((a 26), .inl (Y 0, 30132, .inl (fun _ => 0))) :: ((a 27), .inl (Y 3, 4, .inl (fun _ => 0))) :: [])) [10, 11] [0, 1, 2, 3, 4, 5, 6, 7, 8, 9, 12, 13, 14, 15, 16, 17, 18, 19, 20, 21, 22] (rn_V (As := [.int (xs 1)]) (rest := [.int (sp_wide (xs 1))]) (b := o2) (y_wide l D Y Z H.size o2 a (xs 1)) ⟨hx, hb, hml, hown, hg⟩ lk_L_31 ⟨CP.blind, va_recv hKN.1 hP (ci := 11) (q0 := 10) rfl rfl, CP.at (hP.sub [10, 11] rfl) hKN (hD.sub [10, 11] (by decide) rfl)⟩ ⟨⟨rfl, rfl⟩, ⟨Nat.le_of_ble_eq_true rfl, Nat.le_of_ble_eq_true rfl⟩, ⟨Nat.le_of_ble_eq_true rfl, Nat.le_of_ble_eq_true rfl⟩⟩ hl.1 rfl (Nat.le_of_ble_eq_true rfl) dL_law_342) hP hD hS hA rfl rfl (by decide) (by decide) (fun u5 H locs w6 hP hD hS => ?_)
  subst w6
  refine W.eq (g2 := F0 m 345 ls [.int (sp_wide (xs 1)), .int (sp_wide (xs 1))]) rfl ?_
  have hP : va_P D vwCl (((b 16), .inl (Y 7, 12, .inr (.inr (.inr (.inr (fun _ => none)))))) :: ((b 17), .inl (Y 8, 40, .inr (.inr (.inr (.inr (fun _ => none)))))) :: ((b 18), .inl (Y 0, 12, .inl (fun _ => 0))) :: ((b 19), .inl (Y 0, 12, .inl (fun _ => 0))) :: ((b 20), .inl (Y 0, 8, .inl (fun _ => 0))) :: ((b 21), .inl (Y 0, 8, .inl (fun _ => 0))) :: ((b 22), .inl (Y 2, 400, .inl (fun _ => 0))) :: ((b 1), .inl (Y 4, 4, .inr (.inr (.inr (.inr (fun _ => none)))))) :: ((b 5), .inr (3, (paF Z b))) :: ((b 24), .inr (8, (txF b))) :: ((a 2), .inl (Y 2, 400, .inl (fun _ => 0))) :: ((a 3), .inl (Y 0, 3, .inl (fun _ => 0))) :: ((a 5), .inl (Y 0, 18, .inl (fun _ => 0))) :: ((a 7), .inl (Y 0, 18, .inl (fun _ => 0))) :: ((a 8), .inl (Y 0, 18, .inl (fun _ => 0))) :: ((a 9), .inl (Y 0, 18, .inl (fun _ => 0))) :: ((a 11), .inl (Y 0, 18, .inl (fun _ => 0))) :: ((a 13), .inl (Y 0, 18, .inl (fun _ => 0))) :: ((a 14), .inl (Y 0, 18, .inl (fun _ => 0))) :: ((a 26), .inl (Y 0, 30132, .inl (fun _ => 0))) :: ((a 27), .inl (Y 3, 4, .inl (fun _ => 0))) :: []) H := hP
  have hD : va_D A (((b 16), .inl (Y 7, 12, .inr (.inr (.inr (.inr (fun _ => none)))))) :: ((b 17), .inl (Y 8, 40, .inr (.inr (.inr (.inr (fun _ => none)))))) :: ((b 18), .inl (Y 0, 12, .inl (fun _ => 0))) :: ((b 19), .inl (Y 0, 12, .inl (fun _ => 0))) :: ((b 20), .inl (Y 0, 8, .inl (fun _ => 0))) :: ((b 21), .inl (Y 0, 8, .inl (fun _ => 0))) :: ((b 22), .inl (Y 2, 400, .inl (fun _ => 0))) :: ((b 1), .inl (Y 4, 4, .inr (.inr (.inr (.inr (fun _ => none)))))) :: ((b 5), .inr (3, (paF Z b))) :: ((b 24), .inr (8, (txF b))) :: ((a 2), .inl (Y 2, 400, .inl (fun _ => 0))) :: ((a 3), .inl (Y 0, 3, .inl (fun _ => 0))) :: ((a 5), .inl (Y 0, 18, .inl (fun _ => 0))) :: ((a 7), .inl (Y 0, 18, .inl (fun _ => 0))) :: ((a 8), .inl (Y 0, 18, .inl (fun _ => 0))) :: ((a 9), .inl (Y 0, 18, .inl (fun _ => 0))) :: ((a 11), .inl (Y 0, 18, .inl (fun _ => 0))) :: ((a 13), .inl (Y 0, 18, .inl (fun _ => 0))) :: ((a 14), .inl (Y 0, 18, .inl (fun _ => 0))) :: ((a 26), .inl (Y 0, 30132, .inl (fun _ => 0))) :: ((a 27), .inl (Y 3, 4, .inl (fun _ => 0))) :: []) := hD
  refine lv_icmp_eq (tgt := 1885) hx hb dL_law_345 (by decide) (fun c7 => ?_) (fun c7 => ?_)
  rotate_left
  · exact absurd rfl c7
  exact lw_tail C0 hA2 (Nat.le_of_ble_eq_true rfl) (Nat.le_of_ble_eq_true rfl) hS (lv_sub hl [0, 3] rfl)
set_option maxHeartbeats 4000000 in
set_option maxRecDepth 100000 in
theorem lc_4 {p : Program} {l : Launch} {e : Env} {s : State} {m : MethodId} {below : List Frame} {meth : Method} {c : Code} {sb : Nat} {xs : Nat → Int32} (C0 : lw_At p s m meth c sb 7 xs) {D : va_G} {Y : Nat → ClassId} {Z : Nat → Nat} (hKN : KN D Y Z s) {A : Nat → Prop} (hA : ∀ q, s.heap.size ≤ q → A q) (hA2 : ∀ q, A q → s.heap.size ≤ q) {o o2 : Nat} {b a : Nat → Nat} {H : Heap} {locs : List Loc} {ls : Array Slot} (hP : va_P D vwCl (LW Y Z o o2 b a) H) (hD : va_D A (LW Y Z o o2 b a)) (hS : va_S A s.heap H locs) (hl : lv_has ls 4 [(3, .int 0), (2, .ref o2), (1, .ref o), (0, .ref sb)]) : W p l e room_1 s m #[Value.ref sb] below meth c H locs 70 52824 (lw_Z below #[Value.ref sb] s) (F0 m 350 ls []) := by
  obtain ⟨hx, hb, hr, hml, hown, hts, hX, hbl, hlocks, hgv⟩ := id C0
  have hb : c.code = cL_law := hb
  have hown : s.vm.findClass RL = some m.cls := hown
  have hg : ∀ w ∈ GW, w.before #[Value.ref sb] s = true := fun w h => hts w (gw_tbl h)
  have hbA : ¬ A sb := fun h => absurd (hA2 sb h) (Nat.not_le.mpr hbl)
  refine lv_aload_n hx hb dL_law_350 rfl (lv_at hl 2 rfl) ?_
  refine lv_aload_n hx hb dL_law_351 rfl (lv_at hl 3 rfl) ?_
  refine lv_iload_n hx hb dL_law_352 rfl (lv_at hl 0 rfl) ?_
  refine lv_iconst (v := 1) hx hb dL_law_353 (by decide) ?_
  refine lv_iadd hx hb dL_law_354 ?_
  refine lv_topi (fun z1 ez1 => ?_)
  obtain rfl : z1 = 1 := ez1.trans (by decide)
  refine va_sld hx hb hX hbl hbA hS (show ¬ ((1 : Int32) < 0 ∨ 7 ≤ (1 : Int32).toNatClampNeg) by decide) dL_law_355 ?_
  refine W.eq (g2 := F0 m 356 ls [.int (xs 1), .ref o]) rfl ?_
  refine lv_aload_n hx hb dL_law_356 rfl (lv_at hl 3 rfl) ?_
  refine lv_iload_n hx hb dL_law_357 rfl (lv_at hl 0 rfl) ?_
  refine lv_iconst (v := 2) hx hb dL_law_358 (by decide) ?_
  refine lv_iadd hx hb dL_law_359 ?_
  refine lv_topi (fun z2 ez2 => ?_)
  obtain rfl : z2 = 2 := ez2.trans (by decide)
  refine va_sld hx hb hX hbl hbA hS (show ¬ ((2 : Int32) < 0 ∨ 7 ≤ (2 : Int32).toNatClampNeg) by decide) dL_law_360 ?_
  refine W.eq (g2 := F0 m 361 ls [.int (xs 2), .int (xs 1), .ref o]) rfl ?_
  refine lv_aload_n hx hb dL_law_361 rfl (lv_at hl 3 rfl) ?_
  refine lv_iload_n hx hb dL_law_362 rfl (lv_at hl 0 rfl) ?_
  refine lv_iconst (v := 3) hx hb dL_law_363 (by decide) ?_
  refine lv_iadd hx hb dL_law_364 ?_
  refine lv_topi (fun z3 ez3 => ?_)
  obtain rfl : z3 = 3 := ez3.trans (by decide)
  refine va_sld hx hb hX hbl hbA hS (show ¬ ((3 : Int32) < 0 ∨ 7 ≤ (3 : Int32).toNatClampNeg) by decide) dL_law_365 ?_
  refine W.eq (g2 := F0 m 366 ls [.int (xs 3), .int (xs 2), .int (xs 1), .ref o]) rfl ?_
  refine cg (wc := [(o, .inr (10, (dsF b))), ((b 0), .inr (6, (skF b))), ((b 20), .inl (Y 0, 8, .inl (fun _ => 0))), ((b 21), .inl (Y 0, 8, .inl (fun _ => 0)))]) (wr := (((b 16), .inl (Y 7, 12, .inr (.inr (.inr (.inr (fun _ => none)))))) :: ((b 17), .inl (Y 8, 40, .inr (.inr (.inr (.inr (fun _ => none)))))) :: ((b 18), .inl (Y 0, 12, .inl (fun _ => 0))) :: ((b 19), .inl (Y 0, 12, .inl (fun _ => 0))) :: ((b 22), .inl (Y 2, 400, .inl (fun _ => 0))) :: ((b 1), .inl (Y 4, 4, .inr (.inr (.inr (.inr (fun _ => none)))))) :: ((b 5), .inr (3, (paF Z b))) :: ((b 24), .inr (8, (txF b))) :: (o2, .inr (11, (moF a))) :: ((a 0), .inl (Y 0, 7533, .inl tolF)) :: ((a 2), .inl (Y 2, 400, .inl (fun _ => 0))) :: ((a 3), .inl (Y 0, 3, .inl (fun _ => 0))) :: ((a 5), .inl (Y 0, 18, .inl (fun _ => 0))) :: ((a 7), .inl (Y 0, 18, .inl (fun _ => 0))) :: ((a 8), .inl (Y 0, 18, .inl (fun _ => 0))) :: ((a 9), .inl (Y 0, 18, .inl (fun _ => 0))) :: ((a 11), .inl (Y 0, 18, .inl (fun _ => 0))) :: ((a 13), .inl (Y 0, 18, .inl (fun _ => 0))) :: ((a 14), .inl (Y 0, 18, .inl (fun _ => 0))) :: ((a 26), .inl (Y 0, 30132, .inl (fun _ => 0))) :: ((a 27), .inl (Y 3, 4, .inl (fun _ => 0))) :: [])) [0, 1, 6, 7] [2, 3, 4, 5, 8, 9, 10, 11, 12, 13, 14, 15, 16, 17, 18, 19, 20, 21, 22, 23, 24] (rn_V (As := [.int (xs 1), .int (xs 2), .int (xs 3)]) (rest := []) (b := o) (x_mask l D Y Z H.size o b (xs 1) (xs 2) (xs 3)) ⟨hx, hb, hml, hown, hg⟩ lk_L_32 ⟨CP.blind, va_recv hKN.1 hP (ci := 10) (q0 := 0) rfl rfl, CP.at (hP.sub [0, 1, 6, 7] rfl) hKN (hD.sub [0, 1, 6, 7] (by decide) rfl)⟩ ⟨⟨rfl, rfl⟩, ⟨Nat.le_of_ble_eq_true rfl, Nat.le_of_ble_eq_true rfl⟩, ⟨Nat.le_of_ble_eq_true rfl, Nat.le_of_ble_eq_true rfl⟩⟩ hl.1 rfl (Nat.le_of_ble_eq_true rfl) dL_law_366) hP hD hS hA rfl rfl (by decide) (by decide) (fun u4 H locs w5 hP hD hS => ?_)
  subst w5
  refine W.eq (g2 := F0 m 369 ls [.int (sp_mask (xs 1) (xs 2) (xs 3))]) rfl ?_
  have hP : va_P D vwCl (((b 16), .inl (Y 7, 12, .inr (.inr (.inr (.inr (fun _ => none)))))) :: ((b 17), .inl (Y 8, 40, .inr (.inr (.inr (.inr (fun _ => none)))))) :: ((b 18), .inl (Y 0, 12, .inl (fun _ => 0))) :: ((b 19), .inl (Y 0, 12, .inl (fun _ => 0))) :: ((b 22), .inl (Y 2, 400, .inl (fun _ => 0))) :: ((b 1), .inl (Y 4, 4, .inr (.inr (.inr (.inr (fun _ => none)))))) :: ((b 5), .inr (3, (paF Z b))) :: ((b 24), .inr (8, (txF b))) :: (o2, .inr (11, (moF a))) :: ((a 0), .inl (Y 0, 7533, .inl tolF)) :: ((a 2), .inl (Y 2, 400, .inl (fun _ => 0))) :: ((a 3), .inl (Y 0, 3, .inl (fun _ => 0))) :: ((a 5), .inl (Y 0, 18, .inl (fun _ => 0))) :: ((a 7), .inl (Y 0, 18, .inl (fun _ => 0))) :: ((a 8), .inl (Y 0, 18, .inl (fun _ => 0))) :: ((a 9), .inl (Y 0, 18, .inl (fun _ => 0))) :: ((a 11), .inl (Y 0, 18, .inl (fun _ => 0))) :: ((a 13), .inl (Y 0, 18, .inl (fun _ => 0))) :: ((a 14), .inl (Y 0, 18, .inl (fun _ => 0))) :: ((a 26), .inl (Y 0, 30132, .inl (fun _ => 0))) :: ((a 27), .inl (Y 3, 4, .inl (fun _ => 0))) :: []) H := hP
  have hD : va_D A (((b 16), .inl (Y 7, 12, .inr (.inr (.inr (.inr (fun _ => none)))))) :: ((b 17), .inl (Y 8, 40, .inr (.inr (.inr (.inr (fun _ => none)))))) :: ((b 18), .inl (Y 0, 12, .inl (fun _ => 0))) :: ((b 19), .inl (Y 0, 12, .inl (fun _ => 0))) :: ((b 22), .inl (Y 2, 400, .inl (fun _ => 0))) :: ((b 1), .inl (Y 4, 4, .inr (.inr (.inr (.inr (fun _ => none)))))) :: ((b 5), .inr (3, (paF Z b))) :: ((b 24), .inr (8, (txF b))) :: (o2, .inr (11, (moF a))) :: ((a 0), .inl (Y 0, 7533, .inl tolF)) :: ((a 2), .inl (Y 2, 400, .inl (fun _ => 0))) :: ((a 3), .inl (Y 0, 3, .inl (fun _ => 0))) :: ((a 5), .inl (Y 0, 18, .inl (fun _ => 0))) :: ((a 7), .inl (Y 0, 18, .inl (fun _ => 0))) :: ((a 8), .inl (Y 0, 18, .inl (fun _ => 0))) :: ((a 9), .inl (Y 0, 18, .inl (fun _ => 0))) :: ((a 11), .inl (Y 0, 18, .inl (fun _ => 0))) :: ((a 13), .inl (Y 0, 18, .inl (fun _ => 0))) :: ((a 14), .inl (Y 0, 18, .inl (fun _ => 0))) :: ((a 26), .inl (Y 0, 30132, .inl (fun _ => 0))) :: ((a 27), .inl (Y 3, 4, .inl (fun _ => 0))) :: []) := hD
  refine lv_aload_n hx hb dL_law_369 rfl (lv_at hl 1 rfl) ?_
  refine lv_aload_n hx hb dL_law_370 rfl (lv_at hl 3 rfl) ?_
  refine lv_iload_n hx hb dL_law_371 rfl (lv_at hl 0 rfl) ?_
  refine lv_iconst (v := 1) hx hb dL_law_372 (by decide) ?_
  refine lv_iadd hx hb dL_law_373 ?_
  refine lv_topi (fun z6 ez6 => ?_)
  obtain rfl : z6 = 1 := ez6.trans (by decide)
  refine va_sld hx hb hX hbl hbA hS (show ¬ ((1 : Int32) < 0 ∨ 7 ≤ (1 : Int32).toNatClampNeg) by decide) dL_law_374 ?_
  refine W.eq (g2 := F0 m 375 ls [.int (xs 1), .ref o2, .int (sp_mask (xs 1) (xs 2) (xs 3))]) rfl ?_
  refine lv_aload_n hx hb dL_law_375 rfl (lv_at hl 3 rfl) ?_
  refine lv_iload_n hx hb dL_law_376 rfl (lv_at hl 0 rfl) ?_
  refine lv_iconst (v := 2) hx hb dL_law_377 (by decide) ?_
  refine lv_iadd hx hb dL_law_378 ?_
  refine lv_topi (fun z7 ez7 => ?_)
  obtain rfl : z7 = 2 := ez7.trans (by decide)
  refine va_sld hx hb hX hbl hbA hS (show ¬ ((2 : Int32) < 0 ∨ 7 ≤ (2 : Int32).toNatClampNeg) by decide) dL_law_379 ?_
  refine W.eq (g2 := F0 m 380 ls [.int (xs 2), .int (xs 1), .ref o2, .int (sp_mask (xs 1) (xs 2) (xs 3))]) rfl ?_
  refine lv_aload_n hx hb dL_law_380 rfl (lv_at hl 3 rfl) ?_
  refine lv_iload_n hx hb dL_law_381 rfl (lv_at hl 0 rfl) ?_
  refine lv_iconst (v := 3) hx hb dL_law_382 (by decide) ?_
  refine lv_iadd hx hb dL_law_383 ?_
  refine lv_topi (fun z8 ez8 => ?_)
  obtain rfl : z8 = 3 := ez8.trans (by decide)
  refine va_sld hx hb hX hbl hbA hS (show ¬ ((3 : Int32) < 0 ∨ 7 ≤ (3 : Int32).toNatClampNeg) by decide) dL_law_384 ?_
  refine W.eq (g2 := F0 m 385 ls [.int (xs 3), .int (xs 2), .int (xs 1), .ref o2, .int (sp_mask (xs 1) (xs 2) (xs 3))]) rfl ?_
  refine cg (wc := [(o2, .inr (11, (moF a))), ((a 0), .inl (Y 0, 7533, .inl tolF))]) (wr := (((b 16), .inl (Y 7, 12, .inr (.inr (.inr (.inr (fun _ => none)))))) :: ((b 17), .inl (Y 8, 40, .inr (.inr (.inr (.inr (fun _ => none)))))) :: ((b 18), .inl (Y 0, 12, .inl (fun _ => 0))) :: ((b 19), .inl (Y 0, 12, .inl (fun _ => 0))) :: ((b 22), .inl (Y 2, 400, .inl (fun _ => 0))) :: ((b 1), .inl (Y 4, 4, .inr (.inr (.inr (.inr (fun _ => none)))))) :: ((b 5), .inr (3, (paF Z b))) :: ((b 24), .inr (8, (txF b))) :: ((a 2), .inl (Y 2, 400, .inl (fun _ => 0))) :: ((a 3), .inl (Y 0, 3, .inl (fun _ => 0))) :: ((a 5), .inl (Y 0, 18, .inl (fun _ => 0))) :: ((a 7), .inl (Y 0, 18, .inl (fun _ => 0))) :: ((a 8), .inl (Y 0, 18, .inl (fun _ => 0))) :: ((a 9), .inl (Y 0, 18, .inl (fun _ => 0))) :: ((a 11), .inl (Y 0, 18, .inl (fun _ => 0))) :: ((a 13), .inl (Y 0, 18, .inl (fun _ => 0))) :: ((a 14), .inl (Y 0, 18, .inl (fun _ => 0))) :: ((a 26), .inl (Y 0, 30132, .inl (fun _ => 0))) :: ((a 27), .inl (Y 3, 4, .inl (fun _ => 0))) :: [])) [8, 9] [0, 1, 2, 3, 4, 5, 6, 7, 10, 11, 12, 13, 14, 15, 16, 17, 18, 19, 20] (rn_V (As := [.int (xs 1), .int (xs 2), .int (xs 3)]) (rest := [.int (sp_mask (xs 1) (xs 2) (xs 3))]) (b := o2) (y_mask l D Y Z H.size o2 a (xs 1) (xs 2) (xs 3)) ⟨hx, hb, hml, hown, hg⟩ lk_L_36 ⟨CP.blind, va_recv hKN.1 hP (ci := 11) (q0 := 8) rfl rfl, CP.at (hP.sub [8, 9] rfl) hKN (hD.sub [8, 9] (by decide) rfl)⟩ ⟨⟨rfl, rfl⟩, ⟨Nat.le_of_ble_eq_true rfl, Nat.le_of_ble_eq_true rfl⟩, ⟨Nat.le_of_ble_eq_true rfl, Nat.le_of_ble_eq_true rfl⟩⟩ hl.1 rfl (Nat.le_of_ble_eq_true rfl) dL_law_385) hP hD hS hA rfl rfl (by decide) (by decide) (fun u9 H locs w10 hP hD hS => ?_)
  subst w10
  refine W.eq (g2 := F0 m 388 ls [.int (sp_mask (xs 1) (xs 2) (xs 3)), .int (sp_mask (xs 1) (xs 2) (xs 3))]) rfl ?_
  have hP : va_P D vwCl (((b 16), .inl (Y 7, 12, .inr (.inr (.inr (.inr (fun _ => none)))))) :: ((b 17), .inl (Y 8, 40, .inr (.inr (.inr (.inr (fun _ => none)))))) :: ((b 18), .inl (Y 0, 12, .inl (fun _ => 0))) :: ((b 19), .inl (Y 0, 12, .inl (fun _ => 0))) :: ((b 22), .inl (Y 2, 400, .inl (fun _ => 0))) :: ((b 1), .inl (Y 4, 4, .inr (.inr (.inr (.inr (fun _ => none)))))) :: ((b 5), .inr (3, (paF Z b))) :: ((b 24), .inr (8, (txF b))) :: ((a 2), .inl (Y 2, 400, .inl (fun _ => 0))) :: ((a 3), .inl (Y 0, 3, .inl (fun _ => 0))) :: ((a 5), .inl (Y 0, 18, .inl (fun _ => 0))) :: ((a 7), .inl (Y 0, 18, .inl (fun _ => 0))) :: ((a 8), .inl (Y 0, 18, .inl (fun _ => 0))) :: ((a 9), .inl (Y 0, 18, .inl (fun _ => 0))) :: ((a 11), .inl (Y 0, 18, .inl (fun _ => 0))) :: ((a 13), .inl (Y 0, 18, .inl (fun _ => 0))) :: ((a 14), .inl (Y 0, 18, .inl (fun _ => 0))) :: ((a 26), .inl (Y 0, 30132, .inl (fun _ => 0))) :: ((a 27), .inl (Y 3, 4, .inl (fun _ => 0))) :: []) H := hP
  have hD : va_D A (((b 16), .inl (Y 7, 12, .inr (.inr (.inr (.inr (fun _ => none)))))) :: ((b 17), .inl (Y 8, 40, .inr (.inr (.inr (.inr (fun _ => none)))))) :: ((b 18), .inl (Y 0, 12, .inl (fun _ => 0))) :: ((b 19), .inl (Y 0, 12, .inl (fun _ => 0))) :: ((b 22), .inl (Y 2, 400, .inl (fun _ => 0))) :: ((b 1), .inl (Y 4, 4, .inr (.inr (.inr (.inr (fun _ => none)))))) :: ((b 5), .inr (3, (paF Z b))) :: ((b 24), .inr (8, (txF b))) :: ((a 2), .inl (Y 2, 400, .inl (fun _ => 0))) :: ((a 3), .inl (Y 0, 3, .inl (fun _ => 0))) :: ((a 5), .inl (Y 0, 18, .inl (fun _ => 0))) :: ((a 7), .inl (Y 0, 18, .inl (fun _ => 0))) :: ((a 8), .inl (Y 0, 18, .inl (fun _ => 0))) :: ((a 9), .inl (Y 0, 18, .inl (fun _ => 0))) :: ((a 11), .inl (Y 0, 18, .inl (fun _ => 0))) :: ((a 13), .inl (Y 0, 18, .inl (fun _ => 0))) :: ((a 14), .inl (Y 0, 18, .inl (fun _ => 0))) :: ((a 26), .inl (Y 0, 30132, .inl (fun _ => 0))) :: ((a 27), .inl (Y 3, 4, .inl (fun _ => 0))) :: []) := hD
  refine lv_icmp_eq (tgt := 1885) hx hb dL_law_388 (by decide) (fun c11 => ?_) (fun c11 => ?_)
  rotate_left
  · exact absurd rfl c11
  exact lw_tail C0 hA2 (Nat.le_of_ble_eq_true rfl) (Nat.le_of_ble_eq_true rfl) hS (lv_sub hl [0, 3] rfl)
set_option maxHeartbeats 4000000 in
set_option maxRecDepth 100000 in
theorem lc_5 {p : Program} {l : Launch} {e : Env} {s : State} {m : MethodId} {below : List Frame} {meth : Method} {c : Code} {sb : Nat} {xs : Nat → Int32} (C0 : lw_At p s m meth c sb 7 xs) {D : va_G} {Y : Nat → ClassId} {Z : Nat → Nat} (hKN : KN D Y Z s) {A : Nat → Prop} (hA : ∀ q, s.heap.size ≤ q → A q) (hA2 : ∀ q, A q → s.heap.size ≤ q) {o o2 : Nat} {b a : Nat → Nat} {H : Heap} {locs : List Loc} {ls : Array Slot} (hP : va_P D vwCl (LW Y Z o o2 b a) H) (hD : va_D A (LW Y Z o o2 b a)) (hS : va_S A s.heap H locs) (hl : lv_has ls 4 [(3, .int 0), (2, .ref o2), (1, .ref o), (0, .ref sb)]) : W p l e room_1 s m #[Value.ref sb] below meth c H locs 70 52824 (lw_Z below #[Value.ref sb] s) (F0 m 393 ls []) := by
  obtain ⟨hx, hb, hr, hml, hown, hts, hX, hbl, hlocks, hgv⟩ := id C0
  have hb : c.code = cL_law := hb
  have hown : s.vm.findClass RL = some m.cls := hown
  have hg : ∀ w ∈ GW, w.before #[Value.ref sb] s = true := fun w h => hts w (gw_tbl h)
  have hbA : ¬ A sb := fun h => absurd (hA2 sb h) (Nat.not_le.mpr hbl)
  refine lv_aload_n hx hb dL_law_393 rfl (lv_at hl 2 rfl) ?_
  refine lv_aload_n hx hb dL_law_394 rfl (lv_at hl 3 rfl) ?_
  refine lv_iload_n hx hb dL_law_395 rfl (lv_at hl 0 rfl) ?_
  refine lv_iconst (v := 1) hx hb dL_law_396 (by decide) ?_
  refine lv_iadd hx hb dL_law_397 ?_
  refine lv_topi (fun z1 ez1 => ?_)
  obtain rfl : z1 = 1 := ez1.trans (by decide)
  refine va_sld hx hb hX hbl hbA hS (show ¬ ((1 : Int32) < 0 ∨ 7 ≤ (1 : Int32).toNatClampNeg) by decide) dL_law_398 ?_
  refine W.eq (g2 := F0 m 399 ls [.int (xs 1), .ref o]) rfl ?_
  refine cg (wc := [(o, .inr (10, (dsF b))), ((b 0), .inr (6, (skF b)))]) (wr := (((b 16), .inl (Y 7, 12, .inr (.inr (.inr (.inr (fun _ => none)))))) :: ((b 17), .inl (Y 8, 40, .inr (.inr (.inr (.inr (fun _ => none)))))) :: ((b 18), .inl (Y 0, 12, .inl (fun _ => 0))) :: ((b 19), .inl (Y 0, 12, .inl (fun _ => 0))) :: ((b 20), .inl (Y 0, 8, .inl (fun _ => 0))) :: ((b 21), .inl (Y 0, 8, .inl (fun _ => 0))) :: ((b 22), .inl (Y 2, 400, .inl (fun _ => 0))) :: ((b 1), .inl (Y 4, 4, .inr (.inr (.inr (.inr (fun _ => none)))))) :: ((b 5), .inr (3, (paF Z b))) :: ((b 24), .inr (8, (txF b))) :: (o2, .inr (11, (moF a))) :: ((a 0), .inl (Y 0, 7533, .inl tolF)) :: ((a 2), .inl (Y 2, 400, .inl (fun _ => 0))) :: ((a 3), .inl (Y 0, 3, .inl (fun _ => 0))) :: ((a 5), .inl (Y 0, 18, .inl (fun _ => 0))) :: ((a 7), .inl (Y 0, 18, .inl (fun _ => 0))) :: ((a 8), .inl (Y 0, 18, .inl (fun _ => 0))) :: ((a 9), .inl (Y 0, 18, .inl (fun _ => 0))) :: ((a 11), .inl (Y 0, 18, .inl (fun _ => 0))) :: ((a 13), .inl (Y 0, 18, .inl (fun _ => 0))) :: ((a 14), .inl (Y 0, 18, .inl (fun _ => 0))) :: ((a 26), .inl (Y 0, 30132, .inl (fun _ => 0))) :: ((a 27), .inl (Y 3, 4, .inl (fun _ => 0))) :: [])) [0, 1] [2, 3, 4, 5, 6, 7, 8, 9, 10, 11, 12, 13, 14, 15, 16, 17, 18, 19, 20, 21, 22, 23, 24] (rn_V (As := [.int (xs 1)]) (rest := []) (b := o) (x_order l D Y Z H.size o b (xs 1)) ⟨hx, hb, hml, hown, hg⟩ lk_L_37 ⟨CP.blind, va_recv hKN.1 hP (ci := 10) (q0 := 0) rfl rfl, CP.at (hP.sub [0, 1] rfl) hKN (hD.sub [0, 1] (by decide) rfl)⟩ ⟨⟨rfl, rfl⟩, ⟨Nat.le_of_ble_eq_true rfl, Nat.le_of_ble_eq_true rfl⟩, ⟨Nat.le_of_ble_eq_true rfl, Nat.le_of_ble_eq_true rfl⟩⟩ hl.1 rfl (Nat.le_of_ble_eq_true rfl) dL_law_399) hP hD hS hA rfl rfl (by decide) (by decide) (fun u2 H locs w3 hP hD hS => ?_)
  subst w3
  refine W.eq (g2 := F0 m 402 ls [.int (sp_order (xs 1))]) rfl ?_
  have hP : va_P D vwCl (((b 16), .inl (Y 7, 12, .inr (.inr (.inr (.inr (fun _ => none)))))) :: ((b 17), .inl (Y 8, 40, .inr (.inr (.inr (.inr (fun _ => none)))))) :: ((b 18), .inl (Y 0, 12, .inl (fun _ => 0))) :: ((b 19), .inl (Y 0, 12, .inl (fun _ => 0))) :: ((b 20), .inl (Y 0, 8, .inl (fun _ => 0))) :: ((b 21), .inl (Y 0, 8, .inl (fun _ => 0))) :: ((b 22), .inl (Y 2, 400, .inl (fun _ => 0))) :: ((b 1), .inl (Y 4, 4, .inr (.inr (.inr (.inr (fun _ => none)))))) :: ((b 5), .inr (3, (paF Z b))) :: ((b 24), .inr (8, (txF b))) :: (o2, .inr (11, (moF a))) :: ((a 0), .inl (Y 0, 7533, .inl tolF)) :: ((a 2), .inl (Y 2, 400, .inl (fun _ => 0))) :: ((a 3), .inl (Y 0, 3, .inl (fun _ => 0))) :: ((a 5), .inl (Y 0, 18, .inl (fun _ => 0))) :: ((a 7), .inl (Y 0, 18, .inl (fun _ => 0))) :: ((a 8), .inl (Y 0, 18, .inl (fun _ => 0))) :: ((a 9), .inl (Y 0, 18, .inl (fun _ => 0))) :: ((a 11), .inl (Y 0, 18, .inl (fun _ => 0))) :: ((a 13), .inl (Y 0, 18, .inl (fun _ => 0))) :: ((a 14), .inl (Y 0, 18, .inl (fun _ => 0))) :: ((a 26), .inl (Y 0, 30132, .inl (fun _ => 0))) :: ((a 27), .inl (Y 3, 4, .inl (fun _ => 0))) :: []) H := hP
  have hD : va_D A (((b 16), .inl (Y 7, 12, .inr (.inr (.inr (.inr (fun _ => none)))))) :: ((b 17), .inl (Y 8, 40, .inr (.inr (.inr (.inr (fun _ => none)))))) :: ((b 18), .inl (Y 0, 12, .inl (fun _ => 0))) :: ((b 19), .inl (Y 0, 12, .inl (fun _ => 0))) :: ((b 20), .inl (Y 0, 8, .inl (fun _ => 0))) :: ((b 21), .inl (Y 0, 8, .inl (fun _ => 0))) :: ((b 22), .inl (Y 2, 400, .inl (fun _ => 0))) :: ((b 1), .inl (Y 4, 4, .inr (.inr (.inr (.inr (fun _ => none)))))) :: ((b 5), .inr (3, (paF Z b))) :: ((b 24), .inr (8, (txF b))) :: (o2, .inr (11, (moF a))) :: ((a 0), .inl (Y 0, 7533, .inl tolF)) :: ((a 2), .inl (Y 2, 400, .inl (fun _ => 0))) :: ((a 3), .inl (Y 0, 3, .inl (fun _ => 0))) :: ((a 5), .inl (Y 0, 18, .inl (fun _ => 0))) :: ((a 7), .inl (Y 0, 18, .inl (fun _ => 0))) :: ((a 8), .inl (Y 0, 18, .inl (fun _ => 0))) :: ((a 9), .inl (Y 0, 18, .inl (fun _ => 0))) :: ((a 11), .inl (Y 0, 18, .inl (fun _ => 0))) :: ((a 13), .inl (Y 0, 18, .inl (fun _ => 0))) :: ((a 14), .inl (Y 0, 18, .inl (fun _ => 0))) :: ((a 26), .inl (Y 0, 30132, .inl (fun _ => 0))) :: ((a 27), .inl (Y 3, 4, .inl (fun _ => 0))) :: []) := hD
  refine lv_aload_n hx hb dL_law_402 rfl (lv_at hl 1 rfl) ?_
  refine lv_aload_n hx hb dL_law_403 rfl (lv_at hl 3 rfl) ?_
  refine lv_iload_n hx hb dL_law_404 rfl (lv_at hl 0 rfl) ?_
  refine lv_iconst (v := 1) hx hb dL_law_405 (by decide) ?_
  refine lv_iadd hx hb dL_law_406 ?_
  refine lv_topi (fun z4 ez4 => ?_)
  obtain rfl : z4 = 1 := ez4.trans (by decide)
  refine va_sld hx hb hX hbl hbA hS (show ¬ ((1 : Int32) < 0 ∨ 7 ≤ (1 : Int32).toNatClampNeg) by decide) dL_law_407 ?_
  refine W.eq (g2 := F0 m 408 ls [.int (xs 1), .ref o2, .int (sp_order (xs 1))]) rfl ?_
  refine cg (wc := [(o2, .inr (11, (moF a))), ((a 0), .inl (Y 0, 7533, .inl tolF))]) (wr := (((b 16), .inl (Y 7, 12, .inr (.inr (.inr (.inr (fun _ => none)))))) :: ((b 17), .inl (Y 8, 40, .inr (.inr (.inr (.inr (fun _ => none)))))) :: ((b 18), .inl (Y 0, 12, .inl (fun _ => 0))) :: ((b 19), .inl (Y 0, 12, .inl (fun _ => 0))) :: ((b 20), .inl (Y 0, 8, .inl (fun _ => 0))) :: ((b 21), .inl (Y 0, 8, .inl (fun _ => 0))) :: ((b 22), .inl (Y 2, 400, .inl (fun _ => 0))) :: ((b 1), .inl (Y 4, 4, .inr (.inr (.inr (.inr (fun _ => none)))))) :: ((b 5), .inr (3, (paF Z b))) :: ((b 24), .inr (8, (txF b))) :: ((a 2), .inl (Y 2, 400, .inl (fun _ => 0))) :: ((a 3), .inl (Y 0, 3, .inl (fun _ => 0))) :: ((a 5), .inl (Y 0, 18, .inl (fun _ => 0))) :: ((a 7), .inl (Y 0, 18, .inl (fun _ => 0))) :: ((a 8), .inl (Y 0, 18, .inl (fun _ => 0))) :: ((a 9), .inl (Y 0, 18, .inl (fun _ => 0))) :: ((a 11), .inl (Y 0, 18, .inl (fun _ => 0))) :: ((a 13), .inl (Y 0, 18, .inl (fun _ => 0))) :: ((a 14), .inl (Y 0, 18, .inl (fun _ => 0))) :: ((a 26), .inl (Y 0, 30132, .inl (fun _ => 0))) :: ((a 27), .inl (Y 3, 4, .inl (fun _ => 0))) :: [])) [10, 11] [0, 1, 2, 3, 4, 5, 6, 7, 8, 9, 12, 13, 14, 15, 16, 17, 18, 19, 20, 21, 22] (rn_V (As := [.int (xs 1)]) (rest := [.int (sp_order (xs 1))]) (b := o2) (y_order l D Y Z H.size o2 a (xs 1)) ⟨hx, hb, hml, hown, hg⟩ lk_L_40 ⟨CP.blind, va_recv hKN.1 hP (ci := 11) (q0 := 10) rfl rfl, CP.at (hP.sub [10, 11] rfl) hKN (hD.sub [10, 11] (by decide) rfl)⟩ ⟨⟨rfl, rfl⟩, ⟨Nat.le_of_ble_eq_true rfl, Nat.le_of_ble_eq_true rfl⟩, ⟨Nat.le_of_ble_eq_true rfl, Nat.le_of_ble_eq_true rfl⟩⟩ hl.1 rfl (Nat.le_of_ble_eq_true rfl) dL_law_408) hP hD hS hA rfl rfl (by decide) (by decide) (fun u5 H locs w6 hP hD hS => ?_)
  subst w6
  refine W.eq (g2 := F0 m 411 ls [.int (sp_order (xs 1)), .int (sp_order (xs 1))]) rfl ?_
  have hP : va_P D vwCl (((b 16), .inl (Y 7, 12, .inr (.inr (.inr (.inr (fun _ => none)))))) :: ((b 17), .inl (Y 8, 40, .inr (.inr (.inr (.inr (fun _ => none)))))) :: ((b 18), .inl (Y 0, 12, .inl (fun _ => 0))) :: ((b 19), .inl (Y 0, 12, .inl (fun _ => 0))) :: ((b 20), .inl (Y 0, 8, .inl (fun _ => 0))) :: ((b 21), .inl (Y 0, 8, .inl (fun _ => 0))) :: ((b 22), .inl (Y 2, 400, .inl (fun _ => 0))) :: ((b 1), .inl (Y 4, 4, .inr (.inr (.inr (.inr (fun _ => none)))))) :: ((b 5), .inr (3, (paF Z b))) :: ((b 24), .inr (8, (txF b))) :: ((a 2), .inl (Y 2, 400, .inl (fun _ => 0))) :: ((a 3), .inl (Y 0, 3, .inl (fun _ => 0))) :: ((a 5), .inl (Y 0, 18, .inl (fun _ => 0))) :: ((a 7), .inl (Y 0, 18, .inl (fun _ => 0))) :: ((a 8), .inl (Y 0, 18, .inl (fun _ => 0))) :: ((a 9), .inl (Y 0, 18, .inl (fun _ => 0))) :: ((a 11), .inl (Y 0, 18, .inl (fun _ => 0))) :: ((a 13), .inl (Y 0, 18, .inl (fun _ => 0))) :: ((a 14), .inl (Y 0, 18, .inl (fun _ => 0))) :: ((a 26), .inl (Y 0, 30132, .inl (fun _ => 0))) :: ((a 27), .inl (Y 3, 4, .inl (fun _ => 0))) :: []) H := hP
  have hD : va_D A (((b 16), .inl (Y 7, 12, .inr (.inr (.inr (.inr (fun _ => none)))))) :: ((b 17), .inl (Y 8, 40, .inr (.inr (.inr (.inr (fun _ => none)))))) :: ((b 18), .inl (Y 0, 12, .inl (fun _ => 0))) :: ((b 19), .inl (Y 0, 12, .inl (fun _ => 0))) :: ((b 20), .inl (Y 0, 8, .inl (fun _ => 0))) :: ((b 21), .inl (Y 0, 8, .inl (fun _ => 0))) :: ((b 22), .inl (Y 2, 400, .inl (fun _ => 0))) :: ((b 1), .inl (Y 4, 4, .inr (.inr (.inr (.inr (fun _ => none)))))) :: ((b 5), .inr (3, (paF Z b))) :: ((b 24), .inr (8, (txF b))) :: ((a 2), .inl (Y 2, 400, .inl (fun _ => 0))) :: ((a 3), .inl (Y 0, 3, .inl (fun _ => 0))) :: ((a 5), .inl (Y 0, 18, .inl (fun _ => 0))) :: ((a 7), .inl (Y 0, 18, .inl (fun _ => 0))) :: ((a 8), .inl (Y 0, 18, .inl (fun _ => 0))) :: ((a 9), .inl (Y 0, 18, .inl (fun _ => 0))) :: ((a 11), .inl (Y 0, 18, .inl (fun _ => 0))) :: ((a 13), .inl (Y 0, 18, .inl (fun _ => 0))) :: ((a 14), .inl (Y 0, 18, .inl (fun _ => 0))) :: ((a 26), .inl (Y 0, 30132, .inl (fun _ => 0))) :: ((a 27), .inl (Y 3, 4, .inl (fun _ => 0))) :: []) := hD
  refine lv_icmp_eq (tgt := 1885) hx hb dL_law_411 (by decide) (fun c7 => ?_) (fun c7 => ?_)
  rotate_left
  · exact absurd rfl c7
  exact lw_tail C0 hA2 (Nat.le_of_ble_eq_true rfl) (Nat.le_of_ble_eq_true rfl) hS (lv_sub hl [0, 3] rfl)
set_option maxHeartbeats 4000000 in
set_option maxRecDepth 100000 in
theorem lc_6 {p : Program} {l : Launch} {e : Env} {s : State} {m : MethodId} {below : List Frame} {meth : Method} {c : Code} {sb : Nat} {xs : Nat → Int32} (C0 : lw_At p s m meth c sb 7 xs) {D : va_G} {Y : Nat → ClassId} {Z : Nat → Nat} (hKN : KN D Y Z s) {A : Nat → Prop} (hA : ∀ q, s.heap.size ≤ q → A q) (hA2 : ∀ q, A q → s.heap.size ≤ q) {o o2 : Nat} {b a : Nat → Nat} {H : Heap} {locs : List Loc} {ls : Array Slot} (hP : va_P D vwCl (LW Y Z o o2 b a) H) (hD : va_D A (LW Y Z o o2 b a)) (hS : va_S A s.heap H locs) (hl : lv_has ls 4 [(3, .int 0), (2, .ref o2), (1, .ref o), (0, .ref sb)]) : W p l e room_1 s m #[Value.ref sb] below meth c H locs 70 52824 (lw_Z below #[Value.ref sb] s) (F0 m 416 ls []) := by
  obtain ⟨hx, hb, hr, hml, hown, hts, hX, hbl, hlocks, hgv⟩ := id C0
  have hb : c.code = cL_law := hb
  have hown : s.vm.findClass RL = some m.cls := hown
  have hg : ∀ w ∈ GW, w.before #[Value.ref sb] s = true := fun w h => hts w (gw_tbl h)
  have hbA : ¬ A sb := fun h => absurd (hA2 sb h) (Nat.not_le.mpr hbl)
  refine lv_aload_n hx hb dL_law_416 rfl (lv_at hl 2 rfl) ?_
  refine lv_aload_n hx hb dL_law_417 rfl (lv_at hl 3 rfl) ?_
  refine lv_iload_n hx hb dL_law_418 rfl (lv_at hl 0 rfl) ?_
  refine lv_iconst (v := 1) hx hb dL_law_419 (by decide) ?_
  refine lv_iadd hx hb dL_law_420 ?_
  refine lv_topi (fun z1 ez1 => ?_)
  obtain rfl : z1 = 1 := ez1.trans (by decide)
  refine va_sld hx hb hX hbl hbA hS (show ¬ ((1 : Int32) < 0 ∨ 7 ≤ (1 : Int32).toNatClampNeg) by decide) dL_law_421 ?_
  refine W.eq (g2 := F0 m 422 ls [.int (xs 1), .ref o]) rfl ?_
  refine lv_aload_n hx hb dL_law_422 rfl (lv_at hl 3 rfl) ?_
  refine lv_iload_n hx hb dL_law_423 rfl (lv_at hl 0 rfl) ?_
  refine lv_iconst (v := 2) hx hb dL_law_424 (by decide) ?_
  refine lv_iadd hx hb dL_law_425 ?_
  refine lv_topi (fun z2 ez2 => ?_)
  obtain rfl : z2 = 2 := ez2.trans (by decide)
  refine va_sld hx hb hX hbl hbA hS (show ¬ ((2 : Int32) < 0 ∨ 7 ≤ (2 : Int32).toNatClampNeg) by decide) dL_law_426 ?_
  refine W.eq (g2 := F0 m 427 ls [.int (xs 2), .int (xs 1), .ref o]) rfl ?_
  refine lv_aload_n hx hb dL_law_427 rfl (lv_at hl 3 rfl) ?_
  refine lv_iload_n hx hb dL_law_428 rfl (lv_at hl 0 rfl) ?_
  refine lv_iconst (v := 3) hx hb dL_law_429 (by decide) ?_
  refine lv_iadd hx hb dL_law_430 ?_
  refine lv_topi (fun z3 ez3 => ?_)
  obtain rfl : z3 = 3 := ez3.trans (by decide)
  refine va_sld hx hb hX hbl hbA hS (show ¬ ((3 : Int32) < 0 ∨ 7 ≤ (3 : Int32).toNatClampNeg) by decide) dL_law_431 ?_
  refine W.eq (g2 := F0 m 432 ls [.int (xs 3), .int (xs 2), .int (xs 1), .ref o]) rfl ?_
  refine cg (wc := [(o, .inr (10, (dsF b))), ((b 0), .inr (6, (skF b)))]) (wr := (((b 16), .inl (Y 7, 12, .inr (.inr (.inr (.inr (fun _ => none)))))) :: ((b 17), .inl (Y 8, 40, .inr (.inr (.inr (.inr (fun _ => none)))))) :: ((b 18), .inl (Y 0, 12, .inl (fun _ => 0))) :: ((b 19), .inl (Y 0, 12, .inl (fun _ => 0))) :: ((b 20), .inl (Y 0, 8, .inl (fun _ => 0))) :: ((b 21), .inl (Y 0, 8, .inl (fun _ => 0))) :: ((b 22), .inl (Y 2, 400, .inl (fun _ => 0))) :: ((b 1), .inl (Y 4, 4, .inr (.inr (.inr (.inr (fun _ => none)))))) :: ((b 5), .inr (3, (paF Z b))) :: ((b 24), .inr (8, (txF b))) :: (o2, .inr (11, (moF a))) :: ((a 0), .inl (Y 0, 7533, .inl tolF)) :: ((a 2), .inl (Y 2, 400, .inl (fun _ => 0))) :: ((a 3), .inl (Y 0, 3, .inl (fun _ => 0))) :: ((a 5), .inl (Y 0, 18, .inl (fun _ => 0))) :: ((a 7), .inl (Y 0, 18, .inl (fun _ => 0))) :: ((a 8), .inl (Y 0, 18, .inl (fun _ => 0))) :: ((a 9), .inl (Y 0, 18, .inl (fun _ => 0))) :: ((a 11), .inl (Y 0, 18, .inl (fun _ => 0))) :: ((a 13), .inl (Y 0, 18, .inl (fun _ => 0))) :: ((a 14), .inl (Y 0, 18, .inl (fun _ => 0))) :: ((a 26), .inl (Y 0, 30132, .inl (fun _ => 0))) :: ((a 27), .inl (Y 3, 4, .inl (fun _ => 0))) :: [])) [0, 1] [2, 3, 4, 5, 6, 7, 8, 9, 10, 11, 12, 13, 14, 15, 16, 17, 18, 19, 20, 21, 22, 23, 24] (rn_V (As := [.int (xs 1), .int (xs 2), .int (xs 3)]) (rest := []) (b := o) (x_at l D Y Z H.size o b (xs 1) (xs 2) (xs 3)) ⟨hx, hb, hml, hown, hg⟩ lk_L_41 ⟨CP.blind, va_recv hKN.1 hP (ci := 10) (q0 := 0) rfl rfl, CP.at (hP.sub [0, 1] rfl) hKN (hD.sub [0, 1] (by decide) rfl)⟩ ⟨⟨rfl, rfl⟩, ⟨Nat.le_of_ble_eq_true rfl, Nat.le_of_ble_eq_true rfl⟩, ⟨Nat.le_of_ble_eq_true rfl, Nat.le_of_ble_eq_true rfl⟩⟩ hl.1 rfl (Nat.le_of_ble_eq_true rfl) dL_law_432) hP hD hS hA rfl rfl (by decide) (by decide) (fun u4 H locs w5 hP hD hS => ?_)
  refine W.eq (g2 := F0 m 435 ls [.int (-200000)]) rfl ?_
  have hP : va_P D vwCl (((b 16), .inl (Y 7, 12, .inr (.inr (.inr (.inr (fun _ => none)))))) :: ((b 17), .inl (Y 8, 40, .inr (.inr (.inr (.inr (fun _ => none)))))) :: ((b 18), .inl (Y 0, 12, .inl (fun _ => 0))) :: ((b 19), .inl (Y 0, 12, .inl (fun _ => 0))) :: ((b 20), .inl (Y 0, 8, .inl (fun _ => 0))) :: ((b 21), .inl (Y 0, 8, .inl (fun _ => 0))) :: ((b 22), .inl (Y 2, 400, .inl (fun _ => 0))) :: ((b 1), .inl (Y 4, 4, .inr (.inr (.inr (.inr (fun _ => none)))))) :: ((b 5), .inr (3, (paF Z b))) :: ((b 24), .inr (8, (txF b))) :: (o2, .inr (11, (moF a))) :: ((a 0), .inl (Y 0, 7533, .inl tolF)) :: ((a 2), .inl (Y 2, 400, .inl (fun _ => 0))) :: ((a 3), .inl (Y 0, 3, .inl (fun _ => 0))) :: ((a 5), .inl (Y 0, 18, .inl (fun _ => 0))) :: ((a 7), .inl (Y 0, 18, .inl (fun _ => 0))) :: ((a 8), .inl (Y 0, 18, .inl (fun _ => 0))) :: ((a 9), .inl (Y 0, 18, .inl (fun _ => 0))) :: ((a 11), .inl (Y 0, 18, .inl (fun _ => 0))) :: ((a 13), .inl (Y 0, 18, .inl (fun _ => 0))) :: ((a 14), .inl (Y 0, 18, .inl (fun _ => 0))) :: ((a 26), .inl (Y 0, 30132, .inl (fun _ => 0))) :: ((a 27), .inl (Y 3, 4, .inl (fun _ => 0))) :: []) H := hP
  have hD : va_D A (((b 16), .inl (Y 7, 12, .inr (.inr (.inr (.inr (fun _ => none)))))) :: ((b 17), .inl (Y 8, 40, .inr (.inr (.inr (.inr (fun _ => none)))))) :: ((b 18), .inl (Y 0, 12, .inl (fun _ => 0))) :: ((b 19), .inl (Y 0, 12, .inl (fun _ => 0))) :: ((b 20), .inl (Y 0, 8, .inl (fun _ => 0))) :: ((b 21), .inl (Y 0, 8, .inl (fun _ => 0))) :: ((b 22), .inl (Y 2, 400, .inl (fun _ => 0))) :: ((b 1), .inl (Y 4, 4, .inr (.inr (.inr (.inr (fun _ => none)))))) :: ((b 5), .inr (3, (paF Z b))) :: ((b 24), .inr (8, (txF b))) :: (o2, .inr (11, (moF a))) :: ((a 0), .inl (Y 0, 7533, .inl tolF)) :: ((a 2), .inl (Y 2, 400, .inl (fun _ => 0))) :: ((a 3), .inl (Y 0, 3, .inl (fun _ => 0))) :: ((a 5), .inl (Y 0, 18, .inl (fun _ => 0))) :: ((a 7), .inl (Y 0, 18, .inl (fun _ => 0))) :: ((a 8), .inl (Y 0, 18, .inl (fun _ => 0))) :: ((a 9), .inl (Y 0, 18, .inl (fun _ => 0))) :: ((a 11), .inl (Y 0, 18, .inl (fun _ => 0))) :: ((a 13), .inl (Y 0, 18, .inl (fun _ => 0))) :: ((a 14), .inl (Y 0, 18, .inl (fun _ => 0))) :: ((a 26), .inl (Y 0, 30132, .inl (fun _ => 0))) :: ((a 27), .inl (Y 3, 4, .inl (fun _ => 0))) :: []) := hD
  refine lv_aload_n hx hb dL_law_435 rfl (lv_at hl 1 rfl) ?_
  refine lv_aload_n hx hb dL_law_436 rfl (lv_at hl 3 rfl) ?_
  refine lv_iload_n hx hb dL_law_437 rfl (lv_at hl 0 rfl) ?_
  refine lv_iconst (v := 1) hx hb dL_law_438 (by decide) ?_
  refine lv_iadd hx hb dL_law_439 ?_
  refine lv_topi (fun z6 ez6 => ?_)
  obtain rfl : z6 = 1 := ez6.trans (by decide)
  refine va_sld hx hb hX hbl hbA hS (show ¬ ((1 : Int32) < 0 ∨ 7 ≤ (1 : Int32).toNatClampNeg) by decide) dL_law_440 ?_
  refine W.eq (g2 := F0 m 441 ls [.int (xs 1), .ref o2, .int (-200000)]) rfl ?_
  refine lv_aload_n hx hb dL_law_441 rfl (lv_at hl 3 rfl) ?_
  refine lv_iload_n hx hb dL_law_442 rfl (lv_at hl 0 rfl) ?_
  refine lv_iconst (v := 2) hx hb dL_law_443 (by decide) ?_
  refine lv_iadd hx hb dL_law_444 ?_
  refine lv_topi (fun z7 ez7 => ?_)
  obtain rfl : z7 = 2 := ez7.trans (by decide)
  refine va_sld hx hb hX hbl hbA hS (show ¬ ((2 : Int32) < 0 ∨ 7 ≤ (2 : Int32).toNatClampNeg) by decide) dL_law_445 ?_
  refine W.eq (g2 := F0 m 446 ls [.int (xs 2), .int (xs 1), .ref o2, .int (-200000)]) rfl ?_
  refine lv_aload_n hx hb dL_law_446 rfl (lv_at hl 3 rfl) ?_
  refine lv_iload_n hx hb dL_law_447 rfl (lv_at hl 0 rfl) ?_
  refine lv_iconst (v := 3) hx hb dL_law_448 (by decide) ?_
  refine lv_iadd hx hb dL_law_449 ?_
  refine lv_topi (fun z8 ez8 => ?_)
  obtain rfl : z8 = 3 := ez8.trans (by decide)
  refine va_sld hx hb hX hbl hbA hS (show ¬ ((3 : Int32) < 0 ∨ 7 ≤ (3 : Int32).toNatClampNeg) by decide) dL_law_450 ?_
  refine W.eq (g2 := F0 m 451 ls [.int (xs 3), .int (xs 2), .int (xs 1), .ref o2, .int (-200000)]) rfl ?_
  refine cg (wc := [(o2, .inr (11, (moF a))), ((a 0), .inl (Y 0, 7533, .inl tolF))]) (wr := (((b 16), .inl (Y 7, 12, .inr (.inr (.inr (.inr (fun _ => none)))))) :: ((b 17), .inl (Y 8, 40, .inr (.inr (.inr (.inr (fun _ => none)))))) :: ((b 18), .inl (Y 0, 12, .inl (fun _ => 0))) :: ((b 19), .inl (Y 0, 12, .inl (fun _ => 0))) :: ((b 20), .inl (Y 0, 8, .inl (fun _ => 0))) :: ((b 21), .inl (Y 0, 8, .inl (fun _ => 0))) :: ((b 22), .inl (Y 2, 400, .inl (fun _ => 0))) :: ((b 1), .inl (Y 4, 4, .inr (.inr (.inr (.inr (fun _ => none)))))) :: ((b 5), .inr (3, (paF Z b))) :: ((b 24), .inr (8, (txF b))) :: ((a 2), .inl (Y 2, 400, .inl (fun _ => 0))) :: ((a 3), .inl (Y 0, 3, .inl (fun _ => 0))) :: ((a 5), .inl (Y 0, 18, .inl (fun _ => 0))) :: ((a 7), .inl (Y 0, 18, .inl (fun _ => 0))) :: ((a 8), .inl (Y 0, 18, .inl (fun _ => 0))) :: ((a 9), .inl (Y 0, 18, .inl (fun _ => 0))) :: ((a 11), .inl (Y 0, 18, .inl (fun _ => 0))) :: ((a 13), .inl (Y 0, 18, .inl (fun _ => 0))) :: ((a 14), .inl (Y 0, 18, .inl (fun _ => 0))) :: ((a 26), .inl (Y 0, 30132, .inl (fun _ => 0))) :: ((a 27), .inl (Y 3, 4, .inl (fun _ => 0))) :: [])) [10, 11] [0, 1, 2, 3, 4, 5, 6, 7, 8, 9, 12, 13, 14, 15, 16, 17, 18, 19, 20, 21, 22] (rn_V (As := [.int (xs 1), .int (xs 2), .int (xs 3)]) (rest := [.int (-200000)]) (b := o2) (y_at l D Y Z H.size o2 a (xs 1) (xs 2) (xs 3)) ⟨hx, hb, hml, hown, hg⟩ lk_L_44 ⟨CP.blind, va_recv hKN.1 hP (ci := 11) (q0 := 10) rfl rfl, CP.at (hP.sub [10, 11] rfl) hKN (hD.sub [10, 11] (by decide) rfl)⟩ ⟨⟨rfl, rfl⟩, ⟨Nat.le_of_ble_eq_true rfl, Nat.le_of_ble_eq_true rfl⟩, ⟨Nat.le_of_ble_eq_true rfl, Nat.le_of_ble_eq_true rfl⟩⟩ hl.1 rfl (Nat.le_of_ble_eq_true rfl) dL_law_451) hP hD hS hA rfl rfl (by decide) (by decide) (fun u9 H locs w10 hP hD hS => ?_)
  refine W.eq (g2 := F0 m 454 ls [.int (-200000), .int (-200000)]) rfl ?_
  have hP : va_P D vwCl (((b 16), .inl (Y 7, 12, .inr (.inr (.inr (.inr (fun _ => none)))))) :: ((b 17), .inl (Y 8, 40, .inr (.inr (.inr (.inr (fun _ => none)))))) :: ((b 18), .inl (Y 0, 12, .inl (fun _ => 0))) :: ((b 19), .inl (Y 0, 12, .inl (fun _ => 0))) :: ((b 20), .inl (Y 0, 8, .inl (fun _ => 0))) :: ((b 21), .inl (Y 0, 8, .inl (fun _ => 0))) :: ((b 22), .inl (Y 2, 400, .inl (fun _ => 0))) :: ((b 1), .inl (Y 4, 4, .inr (.inr (.inr (.inr (fun _ => none)))))) :: ((b 5), .inr (3, (paF Z b))) :: ((b 24), .inr (8, (txF b))) :: ((a 2), .inl (Y 2, 400, .inl (fun _ => 0))) :: ((a 3), .inl (Y 0, 3, .inl (fun _ => 0))) :: ((a 5), .inl (Y 0, 18, .inl (fun _ => 0))) :: ((a 7), .inl (Y 0, 18, .inl (fun _ => 0))) :: ((a 8), .inl (Y 0, 18, .inl (fun _ => 0))) :: ((a 9), .inl (Y 0, 18, .inl (fun _ => 0))) :: ((a 11), .inl (Y 0, 18, .inl (fun _ => 0))) :: ((a 13), .inl (Y 0, 18, .inl (fun _ => 0))) :: ((a 14), .inl (Y 0, 18, .inl (fun _ => 0))) :: ((a 26), .inl (Y 0, 30132, .inl (fun _ => 0))) :: ((a 27), .inl (Y 3, 4, .inl (fun _ => 0))) :: []) H := hP
  have hD : va_D A (((b 16), .inl (Y 7, 12, .inr (.inr (.inr (.inr (fun _ => none)))))) :: ((b 17), .inl (Y 8, 40, .inr (.inr (.inr (.inr (fun _ => none)))))) :: ((b 18), .inl (Y 0, 12, .inl (fun _ => 0))) :: ((b 19), .inl (Y 0, 12, .inl (fun _ => 0))) :: ((b 20), .inl (Y 0, 8, .inl (fun _ => 0))) :: ((b 21), .inl (Y 0, 8, .inl (fun _ => 0))) :: ((b 22), .inl (Y 2, 400, .inl (fun _ => 0))) :: ((b 1), .inl (Y 4, 4, .inr (.inr (.inr (.inr (fun _ => none)))))) :: ((b 5), .inr (3, (paF Z b))) :: ((b 24), .inr (8, (txF b))) :: ((a 2), .inl (Y 2, 400, .inl (fun _ => 0))) :: ((a 3), .inl (Y 0, 3, .inl (fun _ => 0))) :: ((a 5), .inl (Y 0, 18, .inl (fun _ => 0))) :: ((a 7), .inl (Y 0, 18, .inl (fun _ => 0))) :: ((a 8), .inl (Y 0, 18, .inl (fun _ => 0))) :: ((a 9), .inl (Y 0, 18, .inl (fun _ => 0))) :: ((a 11), .inl (Y 0, 18, .inl (fun _ => 0))) :: ((a 13), .inl (Y 0, 18, .inl (fun _ => 0))) :: ((a 14), .inl (Y 0, 18, .inl (fun _ => 0))) :: ((a 26), .inl (Y 0, 30132, .inl (fun _ => 0))) :: ((a 27), .inl (Y 3, 4, .inl (fun _ => 0))) :: []) := hD
  refine lv_icmp_eq (tgt := 1885) hx hb dL_law_454 (by decide) (fun c11 => ?_) (fun c11 => ?_)
  rotate_left
  · exact absurd c11 (by decide)
  exact lw_tail C0 hA2 (Nat.le_of_ble_eq_true rfl) (Nat.le_of_ble_eq_true rfl) hS (lv_sub hl [0, 3] rfl)
set_option maxHeartbeats 4000000 in
set_option maxRecDepth 100000 in
theorem lc_7 {p : Program} {l : Launch} {e : Env} {s : State} {m : MethodId} {below : List Frame} {meth : Method} {c : Code} {sb : Nat} {xs : Nat → Int32} (C0 : lw_At p s m meth c sb 7 xs) {D : va_G} {Y : Nat → ClassId} {Z : Nat → Nat} (hKN : KN D Y Z s) {A : Nat → Prop} (hA : ∀ q, s.heap.size ≤ q → A q) (hA2 : ∀ q, A q → s.heap.size ≤ q) {o o2 : Nat} {b a : Nat → Nat} {H : Heap} {locs : List Loc} {ls : Array Slot} (hP : va_P D vwCl (LW Y Z o o2 b a) H) (hD : va_D A (LW Y Z o o2 b a)) (hS : va_S A s.heap H locs) (hl : lv_has ls 4 [(3, .int 0), (2, .ref o2), (1, .ref o), (0, .ref sb)]) : W p l e room_1 s m #[Value.ref sb] below meth c H locs 70 52824 (lw_Z below #[Value.ref sb] s) (F0 m 459 ls []) := by
  obtain ⟨hx, hb, hr, hml, hown, hts, hX, hbl, hlocks, hgv⟩ := id C0
  have hb : c.code = cL_law := hb
  have hown : s.vm.findClass RL = some m.cls := hown
  have hg : ∀ w ∈ GW, w.before #[Value.ref sb] s = true := fun w h => hts w (gw_tbl h)
  have hbA : ¬ A sb := fun h => absurd (hA2 sb h) (Nat.not_le.mpr hbl)
  refine lv_aload_n hx hb dL_law_459 rfl (lv_at hl 2 rfl) ?_
  refine lv_aload_n hx hb dL_law_460 rfl (lv_at hl 3 rfl) ?_
  refine lv_iload_n hx hb dL_law_461 rfl (lv_at hl 0 rfl) ?_
  refine lv_iconst (v := 1) hx hb dL_law_462 (by decide) ?_
  refine lv_iadd hx hb dL_law_463 ?_
  refine lv_topi (fun z1 ez1 => ?_)
  obtain rfl : z1 = 1 := ez1.trans (by decide)
  refine va_sld hx hb hX hbl hbA hS (show ¬ ((1 : Int32) < 0 ∨ 7 ≤ (1 : Int32).toNatClampNeg) by decide) dL_law_464 ?_
  refine W.eq (g2 := F0 m 465 ls [.int (xs 1), .ref o]) rfl ?_
  refine lv_aload_n hx hb dL_law_465 rfl (lv_at hl 3 rfl) ?_
  refine lv_iload_n hx hb dL_law_466 rfl (lv_at hl 0 rfl) ?_
  refine lv_iconst (v := 2) hx hb dL_law_467 (by decide) ?_
  refine lv_iadd hx hb dL_law_468 ?_
  refine lv_topi (fun z2 ez2 => ?_)
  obtain rfl : z2 = 2 := ez2.trans (by decide)
  refine va_sld hx hb hX hbl hbA hS (show ¬ ((2 : Int32) < 0 ∨ 7 ≤ (2 : Int32).toNatClampNeg) by decide) dL_law_469 ?_
  refine W.eq (g2 := F0 m 470 ls [.int (xs 2), .int (xs 1), .ref o]) rfl ?_
  refine lv_aload_n hx hb dL_law_470 rfl (lv_at hl 3 rfl) ?_
  refine lv_iload_n hx hb dL_law_471 rfl (lv_at hl 0 rfl) ?_
  refine lv_iconst (v := 3) hx hb dL_law_472 (by decide) ?_
  refine lv_iadd hx hb dL_law_473 ?_
  refine lv_topi (fun z3 ez3 => ?_)
  obtain rfl : z3 = 3 := ez3.trans (by decide)
  refine va_sld hx hb hX hbl hbA hS (show ¬ ((3 : Int32) < 0 ∨ 7 ≤ (3 : Int32).toNatClampNeg) by decide) dL_law_474 ?_
  refine W.eq (g2 := F0 m 475 ls [.int (xs 3), .int (xs 2), .int (xs 1), .ref o]) rfl ?_
  refine lv_aload_n hx hb dL_law_475 rfl (lv_at hl 3 rfl) ?_
  refine lv_iload_n hx hb dL_law_476 rfl (lv_at hl 0 rfl) ?_
  refine lv_iconst (v := 4) hx hb dL_law_477 (by decide) ?_
  refine lv_iadd hx hb dL_law_478 ?_
  refine lv_topi (fun z4 ez4 => ?_)
  obtain rfl : z4 = 4 := ez4.trans (by decide)
  refine va_sld hx hb hX hbl hbA hS (show ¬ ((4 : Int32) < 0 ∨ 7 ≤ (4 : Int32).toNatClampNeg) by decide) dL_law_479 ?_
  refine W.eq (g2 := F0 m 480 ls [.int (xs 4), .int (xs 3), .int (xs 2), .int (xs 1), .ref o]) rfl ?_
  refine lv_aload_n hx hb dL_law_480 rfl (lv_at hl 3 rfl) ?_
  refine lv_iload_n hx hb dL_law_481 rfl (lv_at hl 0 rfl) ?_
  refine lv_iconst (v := 5) hx hb dL_law_482 (by decide) ?_
  refine lv_iadd hx hb dL_law_483 ?_
  refine lv_topi (fun z5 ez5 => ?_)
  obtain rfl : z5 = 5 := ez5.trans (by decide)
  refine va_sld hx hb hX hbl hbA hS (show ¬ ((5 : Int32) < 0 ∨ 7 ≤ (5 : Int32).toNatClampNeg) by decide) dL_law_484 ?_
  refine W.eq (g2 := F0 m 485 ls [.int (xs 5), .int (xs 4), .int (xs 3), .int (xs 2), .int (xs 1), .ref o]) rfl ?_
  refine lv_aload_n hx hb dL_law_485 rfl (lv_at hl 3 rfl) ?_
  refine lv_iload_n hx hb dL_law_486 rfl (lv_at hl 0 rfl) ?_
  refine lv_bipush (v := 6) hx hb dL_law_487 (by decide) ?_
  refine lv_iadd hx hb dL_law_489 ?_
  refine lv_topi (fun z6 ez6 => ?_)
  obtain rfl : z6 = 6 := ez6.trans (by decide)
  refine va_sld hx hb hX hbl hbA hS (show ¬ ((6 : Int32) < 0 ∨ 7 ≤ (6 : Int32).toNatClampNeg) by decide) dL_law_490 ?_
  refine W.eq (g2 := F0 m 491 ls [.int (xs 6), .int (xs 5), .int (xs 4), .int (xs 3), .int (xs 2), .int (xs 1), .ref o]) rfl ?_
  refine lv_if_eq (tgt := 498) hx hb dL_law_491 (by decide) (fun c7 => ?_) (fun c7 => ?_)
  · skip
    have c7 := i_eq (Eq.refl ((xs 6)).toInt) (show (0 : Int32).toInt = 0 by decide) c7
    refine lv_iconst (v := 0) hx hb dL_law_498 (by decide) ?_
    refine cg (wc := [(o, .inr (10, (dsF b))), ((b 0), .inr (6, (skF b)))]) (wr := (((b 16), .inl (Y 7, 12, .inr (.inr (.inr (.inr (fun _ => none)))))) :: ((b 17), .inl (Y 8, 40, .inr (.inr (.inr (.inr (fun _ => none)))))) :: ((b 18), .inl (Y 0, 12, .inl (fun _ => 0))) :: ((b 19), .inl (Y 0, 12, .inl (fun _ => 0))) :: ((b 20), .inl (Y 0, 8, .inl (fun _ => 0))) :: ((b 21), .inl (Y 0, 8, .inl (fun _ => 0))) :: ((b 22), .inl (Y 2, 400, .inl (fun _ => 0))) :: ((b 1), .inl (Y 4, 4, .inr (.inr (.inr (.inr (fun _ => none)))))) :: ((b 5), .inr (3, (paF Z b))) :: ((b 24), .inr (8, (txF b))) :: (o2, .inr (11, (moF a))) :: ((a 0), .inl (Y 0, 7533, .inl tolF)) :: ((a 2), .inl (Y 2, 400, .inl (fun _ => 0))) :: ((a 3), .inl (Y 0, 3, .inl (fun _ => 0))) :: ((a 5), .inl (Y 0, 18, .inl (fun _ => 0))) :: ((a 7), .inl (Y 0, 18, .inl (fun _ => 0))) :: ((a 8), .inl (Y 0, 18, .inl (fun _ => 0))) :: ((a 9), .inl (Y 0, 18, .inl (fun _ => 0))) :: ((a 11), .inl (Y 0, 18, .inl (fun _ => 0))) :: ((a 13), .inl (Y 0, 18, .inl (fun _ => 0))) :: ((a 14), .inl (Y 0, 18, .inl (fun _ => 0))) :: ((a 26), .inl (Y 0, 30132, .inl (fun _ => 0))) :: ((a 27), .inl (Y 3, 4, .inl (fun _ => 0))) :: [])) [0, 1] [2, 3, 4, 5, 6, 7, 8, 9, 10, 11, 12, 13, 14, 15, 16, 17, 18, 19, 20, 21, 22, 23, 24] (rn_V (As := [.int (xs 1), .int (xs 2), .int (xs 3), .int (xs 4), .int (xs 5), .int 0]) (rest := []) (b := o) (x_world l D Y Z H.size o b (xs 1) (xs 2) (xs 3) (xs 4) (xs 5) 0) ⟨hx, hb, hml, hown, hg⟩ lk_L_45 ⟨CP.blind, va_recv hKN.1 hP (ci := 10) (q0 := 0) rfl rfl, CP.at (hP.sub [0, 1] rfl) hKN (hD.sub [0, 1] (by decide) rfl)⟩ ⟨⟨rfl, rfl⟩, ⟨Nat.le_of_ble_eq_true rfl, Nat.le_of_ble_eq_true rfl⟩, ⟨Nat.le_of_ble_eq_true rfl, Nat.le_of_ble_eq_true rfl⟩⟩ hl.1 rfl (Nat.le_of_ble_eq_true rfl) dL_law_499) hP hD hS hA rfl rfl (by decide) (by decide) (fun u8 H locs w9 hP hD hS => ?_)
    refine W.eq (g2 := F0 m 502 ls [.int (-1)]) rfl ?_
    have hP : va_P D vwCl (((b 16), .inl (Y 7, 12, .inr (.inr (.inr (.inr (fun _ => none)))))) :: ((b 17), .inl (Y 8, 40, .inr (.inr (.inr (.inr (fun _ => none)))))) :: ((b 18), .inl (Y 0, 12, .inl (fun _ => 0))) :: ((b 19), .inl (Y 0, 12, .inl (fun _ => 0))) :: ((b 20), .inl (Y 0, 8, .inl (fun _ => 0))) :: ((b 21), .inl (Y 0, 8, .inl (fun _ => 0))) :: ((b 22), .inl (Y 2, 400, .inl (fun _ => 0))) :: ((b 1), .inl (Y 4, 4, .inr (.inr (.inr (.inr (fun _ => none)))))) :: ((b 5), .inr (3, (paF Z b))) :: ((b 24), .inr (8, (txF b))) :: (o2, .inr (11, (moF a))) :: ((a 0), .inl (Y 0, 7533, .inl tolF)) :: ((a 2), .inl (Y 2, 400, .inl (fun _ => 0))) :: ((a 3), .inl (Y 0, 3, .inl (fun _ => 0))) :: ((a 5), .inl (Y 0, 18, .inl (fun _ => 0))) :: ((a 7), .inl (Y 0, 18, .inl (fun _ => 0))) :: ((a 8), .inl (Y 0, 18, .inl (fun _ => 0))) :: ((a 9), .inl (Y 0, 18, .inl (fun _ => 0))) :: ((a 11), .inl (Y 0, 18, .inl (fun _ => 0))) :: ((a 13), .inl (Y 0, 18, .inl (fun _ => 0))) :: ((a 14), .inl (Y 0, 18, .inl (fun _ => 0))) :: ((a 26), .inl (Y 0, 30132, .inl (fun _ => 0))) :: ((a 27), .inl (Y 3, 4, .inl (fun _ => 0))) :: []) H := hP
    have hD : va_D A (((b 16), .inl (Y 7, 12, .inr (.inr (.inr (.inr (fun _ => none)))))) :: ((b 17), .inl (Y 8, 40, .inr (.inr (.inr (.inr (fun _ => none)))))) :: ((b 18), .inl (Y 0, 12, .inl (fun _ => 0))) :: ((b 19), .inl (Y 0, 12, .inl (fun _ => 0))) :: ((b 20), .inl (Y 0, 8, .inl (fun _ => 0))) :: ((b 21), .inl (Y 0, 8, .inl (fun _ => 0))) :: ((b 22), .inl (Y 2, 400, .inl (fun _ => 0))) :: ((b 1), .inl (Y 4, 4, .inr (.inr (.inr (.inr (fun _ => none)))))) :: ((b 5), .inr (3, (paF Z b))) :: ((b 24), .inr (8, (txF b))) :: (o2, .inr (11, (moF a))) :: ((a 0), .inl (Y 0, 7533, .inl tolF)) :: ((a 2), .inl (Y 2, 400, .inl (fun _ => 0))) :: ((a 3), .inl (Y 0, 3, .inl (fun _ => 0))) :: ((a 5), .inl (Y 0, 18, .inl (fun _ => 0))) :: ((a 7), .inl (Y 0, 18, .inl (fun _ => 0))) :: ((a 8), .inl (Y 0, 18, .inl (fun _ => 0))) :: ((a 9), .inl (Y 0, 18, .inl (fun _ => 0))) :: ((a 11), .inl (Y 0, 18, .inl (fun _ => 0))) :: ((a 13), .inl (Y 0, 18, .inl (fun _ => 0))) :: ((a 14), .inl (Y 0, 18, .inl (fun _ => 0))) :: ((a 26), .inl (Y 0, 30132, .inl (fun _ => 0))) :: ((a 27), .inl (Y 3, 4, .inl (fun _ => 0))) :: []) := hD
    refine lv_aload_n hx hb dL_law_502 rfl (lv_at hl 1 rfl) ?_
    refine lv_aload_n hx hb dL_law_503 rfl (lv_at hl 3 rfl) ?_
    refine lv_iload_n hx hb dL_law_504 rfl (lv_at hl 0 rfl) ?_
    refine lv_iconst (v := 1) hx hb dL_law_505 (by decide) ?_
    refine lv_iadd hx hb dL_law_506 ?_
    refine lv_topi (fun z10 ez10 => ?_)
    obtain rfl : z10 = 1 := ez10.trans (by decide)
    refine va_sld hx hb hX hbl hbA hS (show ¬ ((1 : Int32) < 0 ∨ 7 ≤ (1 : Int32).toNatClampNeg) by decide) dL_law_507 ?_
    refine W.eq (g2 := F0 m 508 ls [.int (xs 1), .ref o2, .int (-1)]) rfl ?_
    refine lv_aload_n hx hb dL_law_508 rfl (lv_at hl 3 rfl) ?_
    refine lv_iload_n hx hb dL_law_509 rfl (lv_at hl 0 rfl) ?_
    refine lv_iconst (v := 2) hx hb dL_law_510 (by decide) ?_
    refine lv_iadd hx hb dL_law_511 ?_
    refine lv_topi (fun z11 ez11 => ?_)
    obtain rfl : z11 = 2 := ez11.trans (by decide)
    refine va_sld hx hb hX hbl hbA hS (show ¬ ((2 : Int32) < 0 ∨ 7 ≤ (2 : Int32).toNatClampNeg) by decide) dL_law_512 ?_
    refine W.eq (g2 := F0 m 513 ls [.int (xs 2), .int (xs 1), .ref o2, .int (-1)]) rfl ?_
    refine lv_aload_n hx hb dL_law_513 rfl (lv_at hl 3 rfl) ?_
    refine lv_iload_n hx hb dL_law_514 rfl (lv_at hl 0 rfl) ?_
    refine lv_iconst (v := 3) hx hb dL_law_515 (by decide) ?_
    refine lv_iadd hx hb dL_law_516 ?_
    refine lv_topi (fun z12 ez12 => ?_)
    obtain rfl : z12 = 3 := ez12.trans (by decide)
    refine va_sld hx hb hX hbl hbA hS (show ¬ ((3 : Int32) < 0 ∨ 7 ≤ (3 : Int32).toNatClampNeg) by decide) dL_law_517 ?_
    refine W.eq (g2 := F0 m 518 ls [.int (xs 3), .int (xs 2), .int (xs 1), .ref o2, .int (-1)]) rfl ?_
    refine lv_aload_n hx hb dL_law_518 rfl (lv_at hl 3 rfl) ?_
    refine lv_iload_n hx hb dL_law_519 rfl (lv_at hl 0 rfl) ?_
    refine lv_iconst (v := 4) hx hb dL_law_520 (by decide) ?_
    refine lv_iadd hx hb dL_law_521 ?_
    refine lv_topi (fun z13 ez13 => ?_)
    obtain rfl : z13 = 4 := ez13.trans (by decide)
    refine va_sld hx hb hX hbl hbA hS (show ¬ ((4 : Int32) < 0 ∨ 7 ≤ (4 : Int32).toNatClampNeg) by decide) dL_law_522 ?_
    refine W.eq (g2 := F0 m 523 ls [.int (xs 4), .int (xs 3), .int (xs 2), .int (xs 1), .ref o2, .int (-1)]) rfl ?_
    refine lv_aload_n hx hb dL_law_523 rfl (lv_at hl 3 rfl) ?_
    refine lv_iload_n hx hb dL_law_524 rfl (lv_at hl 0 rfl) ?_
    refine lv_iconst (v := 5) hx hb dL_law_525 (by decide) ?_
    refine lv_iadd hx hb dL_law_526 ?_
    refine lv_topi (fun z14 ez14 => ?_)
    obtain rfl : z14 = 5 := ez14.trans (by decide)
    refine va_sld hx hb hX hbl hbA hS (show ¬ ((5 : Int32) < 0 ∨ 7 ≤ (5 : Int32).toNatClampNeg) by decide) dL_law_527 ?_
    refine W.eq (g2 := F0 m 528 ls [.int (xs 5), .int (xs 4), .int (xs 3), .int (xs 2), .int (xs 1), .ref o2, .int (-1)]) rfl ?_
    refine lv_aload_n hx hb dL_law_528 rfl (lv_at hl 3 rfl) ?_
    refine lv_iload_n hx hb dL_law_529 rfl (lv_at hl 0 rfl) ?_
    refine lv_bipush (v := 6) hx hb dL_law_530 (by decide) ?_
    refine lv_iadd hx hb dL_law_532 ?_
    refine lv_topi (fun z15 ez15 => ?_)
    obtain rfl : z15 = 6 := ez15.trans (by decide)
    refine va_sld hx hb hX hbl hbA hS (show ¬ ((6 : Int32) < 0 ∨ 7 ≤ (6 : Int32).toNatClampNeg) by decide) dL_law_533 ?_
    refine W.eq (g2 := F0 m 534 ls [.int (xs 6), .int (xs 5), .int (xs 4), .int (xs 3), .int (xs 2), .int (xs 1), .ref o2, .int (-1)]) rfl ?_
    refine lv_if_eq (tgt := 541) hx hb dL_law_534 (by decide) (fun c16 => ?_) (fun c16 => ?_)
    · skip
      have c16 := i_eq (Eq.refl ((xs 6)).toInt) (show (0 : Int32).toInt = 0 by decide) c16
      refine lv_iconst (v := 0) hx hb dL_law_541 (by decide) ?_
      refine cg (wc := [(o2, .inr (11, (moF a))), ((a 0), .inl (Y 0, 7533, .inl tolF))]) (wr := (((b 16), .inl (Y 7, 12, .inr (.inr (.inr (.inr (fun _ => none)))))) :: ((b 17), .inl (Y 8, 40, .inr (.inr (.inr (.inr (fun _ => none)))))) :: ((b 18), .inl (Y 0, 12, .inl (fun _ => 0))) :: ((b 19), .inl (Y 0, 12, .inl (fun _ => 0))) :: ((b 20), .inl (Y 0, 8, .inl (fun _ => 0))) :: ((b 21), .inl (Y 0, 8, .inl (fun _ => 0))) :: ((b 22), .inl (Y 2, 400, .inl (fun _ => 0))) :: ((b 1), .inl (Y 4, 4, .inr (.inr (.inr (.inr (fun _ => none)))))) :: ((b 5), .inr (3, (paF Z b))) :: ((b 24), .inr (8, (txF b))) :: ((a 2), .inl (Y 2, 400, .inl (fun _ => 0))) :: ((a 3), .inl (Y 0, 3, .inl (fun _ => 0))) :: ((a 5), .inl (Y 0, 18, .inl (fun _ => 0))) :: ((a 7), .inl (Y 0, 18, .inl (fun _ => 0))) :: ((a 8), .inl (Y 0, 18, .inl (fun _ => 0))) :: ((a 9), .inl (Y 0, 18, .inl (fun _ => 0))) :: ((a 11), .inl (Y 0, 18, .inl (fun _ => 0))) :: ((a 13), .inl (Y 0, 18, .inl (fun _ => 0))) :: ((a 14), .inl (Y 0, 18, .inl (fun _ => 0))) :: ((a 26), .inl (Y 0, 30132, .inl (fun _ => 0))) :: ((a 27), .inl (Y 3, 4, .inl (fun _ => 0))) :: [])) [10, 11] [0, 1, 2, 3, 4, 5, 6, 7, 8, 9, 12, 13, 14, 15, 16, 17, 18, 19, 20, 21, 22] (rn_V (As := [.int (xs 1), .int (xs 2), .int (xs 3), .int (xs 4), .int (xs 5), .int 0]) (rest := [.int (-1)]) (b := o2) (y_world l D Y Z H.size o2 a (xs 1) (xs 2) (xs 3) (xs 4) (xs 5) 0) ⟨hx, hb, hml, hown, hg⟩ lk_L_49 ⟨CP.blind, va_recv hKN.1 hP (ci := 11) (q0 := 10) rfl rfl, CP.at (hP.sub [10, 11] rfl) hKN (hD.sub [10, 11] (by decide) rfl)⟩ ⟨⟨rfl, rfl⟩, ⟨Nat.le_of_ble_eq_true rfl, Nat.le_of_ble_eq_true rfl⟩, ⟨Nat.le_of_ble_eq_true rfl, Nat.le_of_ble_eq_true rfl⟩⟩ hl.1 rfl (Nat.le_of_ble_eq_true rfl) dL_law_542) hP hD hS hA rfl rfl (by decide) (by decide) (fun u17 H locs w18 hP hD hS => ?_)
      refine W.eq (g2 := F0 m 545 ls [.int (-1), .int (-1)]) rfl ?_
      have hP : va_P D vwCl (((b 16), .inl (Y 7, 12, .inr (.inr (.inr (.inr (fun _ => none)))))) :: ((b 17), .inl (Y 8, 40, .inr (.inr (.inr (.inr (fun _ => none)))))) :: ((b 18), .inl (Y 0, 12, .inl (fun _ => 0))) :: ((b 19), .inl (Y 0, 12, .inl (fun _ => 0))) :: ((b 20), .inl (Y 0, 8, .inl (fun _ => 0))) :: ((b 21), .inl (Y 0, 8, .inl (fun _ => 0))) :: ((b 22), .inl (Y 2, 400, .inl (fun _ => 0))) :: ((b 1), .inl (Y 4, 4, .inr (.inr (.inr (.inr (fun _ => none)))))) :: ((b 5), .inr (3, (paF Z b))) :: ((b 24), .inr (8, (txF b))) :: ((a 2), .inl (Y 2, 400, .inl (fun _ => 0))) :: ((a 3), .inl (Y 0, 3, .inl (fun _ => 0))) :: ((a 5), .inl (Y 0, 18, .inl (fun _ => 0))) :: ((a 7), .inl (Y 0, 18, .inl (fun _ => 0))) :: ((a 8), .inl (Y 0, 18, .inl (fun _ => 0))) :: ((a 9), .inl (Y 0, 18, .inl (fun _ => 0))) :: ((a 11), .inl (Y 0, 18, .inl (fun _ => 0))) :: ((a 13), .inl (Y 0, 18, .inl (fun _ => 0))) :: ((a 14), .inl (Y 0, 18, .inl (fun _ => 0))) :: ((a 26), .inl (Y 0, 30132, .inl (fun _ => 0))) :: ((a 27), .inl (Y 3, 4, .inl (fun _ => 0))) :: []) H := hP
      have hD : va_D A (((b 16), .inl (Y 7, 12, .inr (.inr (.inr (.inr (fun _ => none)))))) :: ((b 17), .inl (Y 8, 40, .inr (.inr (.inr (.inr (fun _ => none)))))) :: ((b 18), .inl (Y 0, 12, .inl (fun _ => 0))) :: ((b 19), .inl (Y 0, 12, .inl (fun _ => 0))) :: ((b 20), .inl (Y 0, 8, .inl (fun _ => 0))) :: ((b 21), .inl (Y 0, 8, .inl (fun _ => 0))) :: ((b 22), .inl (Y 2, 400, .inl (fun _ => 0))) :: ((b 1), .inl (Y 4, 4, .inr (.inr (.inr (.inr (fun _ => none)))))) :: ((b 5), .inr (3, (paF Z b))) :: ((b 24), .inr (8, (txF b))) :: ((a 2), .inl (Y 2, 400, .inl (fun _ => 0))) :: ((a 3), .inl (Y 0, 3, .inl (fun _ => 0))) :: ((a 5), .inl (Y 0, 18, .inl (fun _ => 0))) :: ((a 7), .inl (Y 0, 18, .inl (fun _ => 0))) :: ((a 8), .inl (Y 0, 18, .inl (fun _ => 0))) :: ((a 9), .inl (Y 0, 18, .inl (fun _ => 0))) :: ((a 11), .inl (Y 0, 18, .inl (fun _ => 0))) :: ((a 13), .inl (Y 0, 18, .inl (fun _ => 0))) :: ((a 14), .inl (Y 0, 18, .inl (fun _ => 0))) :: ((a 26), .inl (Y 0, 30132, .inl (fun _ => 0))) :: ((a 27), .inl (Y 3, 4, .inl (fun _ => 0))) :: []) := hD
      refine lv_icmp_eq (tgt := 1885) hx hb dL_law_545 (by decide) (fun c19 => ?_) (fun c19 => ?_)
      rotate_left
      · exact absurd c19 (by decide)
      exact lw_tail C0 hA2 (Nat.le_of_ble_eq_true rfl) (Nat.le_of_ble_eq_true rfl) hS (lv_sub hl [0, 3] rfl)
    · skip
      have c16 := i_ne (Eq.refl ((xs 6)).toInt) (show (0 : Int32).toInt = 0 by decide) c16
      exfalso; omega
  · skip
    have c7 := i_ne (Eq.refl ((xs 6)).toInt) (show (0 : Int32).toInt = 0 by decide) c7
    refine lv_iconst (v := 1) hx hb dL_law_494 (by decide) ?_
    refine lv_goto (tgt := 499) hx hb dL_law_495 (by decide) ?_
    refine cg (wc := [(o, .inr (10, (dsF b))), ((b 0), .inr (6, (skF b)))]) (wr := (((b 16), .inl (Y 7, 12, .inr (.inr (.inr (.inr (fun _ => none)))))) :: ((b 17), .inl (Y 8, 40, .inr (.inr (.inr (.inr (fun _ => none)))))) :: ((b 18), .inl (Y 0, 12, .inl (fun _ => 0))) :: ((b 19), .inl (Y 0, 12, .inl (fun _ => 0))) :: ((b 20), .inl (Y 0, 8, .inl (fun _ => 0))) :: ((b 21), .inl (Y 0, 8, .inl (fun _ => 0))) :: ((b 22), .inl (Y 2, 400, .inl (fun _ => 0))) :: ((b 1), .inl (Y 4, 4, .inr (.inr (.inr (.inr (fun _ => none)))))) :: ((b 5), .inr (3, (paF Z b))) :: ((b 24), .inr (8, (txF b))) :: (o2, .inr (11, (moF a))) :: ((a 0), .inl (Y 0, 7533, .inl tolF)) :: ((a 2), .inl (Y 2, 400, .inl (fun _ => 0))) :: ((a 3), .inl (Y 0, 3, .inl (fun _ => 0))) :: ((a 5), .inl (Y 0, 18, .inl (fun _ => 0))) :: ((a 7), .inl (Y 0, 18, .inl (fun _ => 0))) :: ((a 8), .inl (Y 0, 18, .inl (fun _ => 0))) :: ((a 9), .inl (Y 0, 18, .inl (fun _ => 0))) :: ((a 11), .inl (Y 0, 18, .inl (fun _ => 0))) :: ((a 13), .inl (Y 0, 18, .inl (fun _ => 0))) :: ((a 14), .inl (Y 0, 18, .inl (fun _ => 0))) :: ((a 26), .inl (Y 0, 30132, .inl (fun _ => 0))) :: ((a 27), .inl (Y 3, 4, .inl (fun _ => 0))) :: [])) [0, 1] [2, 3, 4, 5, 6, 7, 8, 9, 10, 11, 12, 13, 14, 15, 16, 17, 18, 19, 20, 21, 22, 23, 24] (rn_V (As := [.int (xs 1), .int (xs 2), .int (xs 3), .int (xs 4), .int (xs 5), .int 1]) (rest := []) (b := o) (x_world l D Y Z H.size o b (xs 1) (xs 2) (xs 3) (xs 4) (xs 5) 1) ⟨hx, hb, hml, hown, hg⟩ lk_L_45 ⟨CP.blind, va_recv hKN.1 hP (ci := 10) (q0 := 0) rfl rfl, CP.at (hP.sub [0, 1] rfl) hKN (hD.sub [0, 1] (by decide) rfl)⟩ ⟨⟨rfl, rfl⟩, ⟨Nat.le_of_ble_eq_true rfl, Nat.le_of_ble_eq_true rfl⟩, ⟨Nat.le_of_ble_eq_true rfl, Nat.le_of_ble_eq_true rfl⟩⟩ hl.1 rfl (Nat.le_of_ble_eq_true rfl) dL_law_499) hP hD hS hA rfl rfl (by decide) (by decide) (fun u20 H locs w21 hP hD hS => ?_)
    refine W.eq (g2 := F0 m 502 ls [.int (-1)]) rfl ?_
    have hP : va_P D vwCl (((b 16), .inl (Y 7, 12, .inr (.inr (.inr (.inr (fun _ => none)))))) :: ((b 17), .inl (Y 8, 40, .inr (.inr (.inr (.inr (fun _ => none)))))) :: ((b 18), .inl (Y 0, 12, .inl (fun _ => 0))) :: ((b 19), .inl (Y 0, 12, .inl (fun _ => 0))) :: ((b 20), .inl (Y 0, 8, .inl (fun _ => 0))) :: ((b 21), .inl (Y 0, 8, .inl (fun _ => 0))) :: ((b 22), .inl (Y 2, 400, .inl (fun _ => 0))) :: ((b 1), .inl (Y 4, 4, .inr (.inr (.inr (.inr (fun _ => none)))))) :: ((b 5), .inr (3, (paF Z b))) :: ((b 24), .inr (8, (txF b))) :: (o2, .inr (11, (moF a))) :: ((a 0), .inl (Y 0, 7533, .inl tolF)) :: ((a 2), .inl (Y 2, 400, .inl (fun _ => 0))) :: ((a 3), .inl (Y 0, 3, .inl (fun _ => 0))) :: ((a 5), .inl (Y 0, 18, .inl (fun _ => 0))) :: ((a 7), .inl (Y 0, 18, .inl (fun _ => 0))) :: ((a 8), .inl (Y 0, 18, .inl (fun _ => 0))) :: ((a 9), .inl (Y 0, 18, .inl (fun _ => 0))) :: ((a 11), .inl (Y 0, 18, .inl (fun _ => 0))) :: ((a 13), .inl (Y 0, 18, .inl (fun _ => 0))) :: ((a 14), .inl (Y 0, 18, .inl (fun _ => 0))) :: ((a 26), .inl (Y 0, 30132, .inl (fun _ => 0))) :: ((a 27), .inl (Y 3, 4, .inl (fun _ => 0))) :: []) H := hP
    have hD : va_D A (((b 16), .inl (Y 7, 12, .inr (.inr (.inr (.inr (fun _ => none)))))) :: ((b 17), .inl (Y 8, 40, .inr (.inr (.inr (.inr (fun _ => none)))))) :: ((b 18), .inl (Y 0, 12, .inl (fun _ => 0))) :: ((b 19), .inl (Y 0, 12, .inl (fun _ => 0))) :: ((b 20), .inl (Y 0, 8, .inl (fun _ => 0))) :: ((b 21), .inl (Y 0, 8, .inl (fun _ => 0))) :: ((b 22), .inl (Y 2, 400, .inl (fun _ => 0))) :: ((b 1), .inl (Y 4, 4, .inr (.inr (.inr (.inr (fun _ => none)))))) :: ((b 5), .inr (3, (paF Z b))) :: ((b 24), .inr (8, (txF b))) :: (o2, .inr (11, (moF a))) :: ((a 0), .inl (Y 0, 7533, .inl tolF)) :: ((a 2), .inl (Y 2, 400, .inl (fun _ => 0))) :: ((a 3), .inl (Y 0, 3, .inl (fun _ => 0))) :: ((a 5), .inl (Y 0, 18, .inl (fun _ => 0))) :: ((a 7), .inl (Y 0, 18, .inl (fun _ => 0))) :: ((a 8), .inl (Y 0, 18, .inl (fun _ => 0))) :: ((a 9), .inl (Y 0, 18, .inl (fun _ => 0))) :: ((a 11), .inl (Y 0, 18, .inl (fun _ => 0))) :: ((a 13), .inl (Y 0, 18, .inl (fun _ => 0))) :: ((a 14), .inl (Y 0, 18, .inl (fun _ => 0))) :: ((a 26), .inl (Y 0, 30132, .inl (fun _ => 0))) :: ((a 27), .inl (Y 3, 4, .inl (fun _ => 0))) :: []) := hD
    refine lv_aload_n hx hb dL_law_502 rfl (lv_at hl 1 rfl) ?_
    refine lv_aload_n hx hb dL_law_503 rfl (lv_at hl 3 rfl) ?_
    refine lv_iload_n hx hb dL_law_504 rfl (lv_at hl 0 rfl) ?_
    refine lv_iconst (v := 1) hx hb dL_law_505 (by decide) ?_
    refine lv_iadd hx hb dL_law_506 ?_
    refine lv_topi (fun z22 ez22 => ?_)
    obtain rfl : z22 = 1 := ez22.trans (by decide)
    refine va_sld hx hb hX hbl hbA hS (show ¬ ((1 : Int32) < 0 ∨ 7 ≤ (1 : Int32).toNatClampNeg) by decide) dL_law_507 ?_
    refine W.eq (g2 := F0 m 508 ls [.int (xs 1), .ref o2, .int (-1)]) rfl ?_
    refine lv_aload_n hx hb dL_law_508 rfl (lv_at hl 3 rfl) ?_
    refine lv_iload_n hx hb dL_law_509 rfl (lv_at hl 0 rfl) ?_
    refine lv_iconst (v := 2) hx hb dL_law_510 (by decide) ?_
    refine lv_iadd hx hb dL_law_511 ?_
    refine lv_topi (fun z23 ez23 => ?_)
    obtain rfl : z23 = 2 := ez23.trans (by decide)
    refine va_sld hx hb hX hbl hbA hS (show ¬ ((2 : Int32) < 0 ∨ 7 ≤ (2 : Int32).toNatClampNeg) by decide) dL_law_512 ?_
    refine W.eq (g2 := F0 m 513 ls [.int (xs 2), .int (xs 1), .ref o2, .int (-1)]) rfl ?_
    refine lv_aload_n hx hb dL_law_513 rfl (lv_at hl 3 rfl) ?_
    refine lv_iload_n hx hb dL_law_514 rfl (lv_at hl 0 rfl) ?_
    refine lv_iconst (v := 3) hx hb dL_law_515 (by decide) ?_
    refine lv_iadd hx hb dL_law_516 ?_
    refine lv_topi (fun z24 ez24 => ?_)
    obtain rfl : z24 = 3 := ez24.trans (by decide)
    refine va_sld hx hb hX hbl hbA hS (show ¬ ((3 : Int32) < 0 ∨ 7 ≤ (3 : Int32).toNatClampNeg) by decide) dL_law_517 ?_
    refine W.eq (g2 := F0 m 518 ls [.int (xs 3), .int (xs 2), .int (xs 1), .ref o2, .int (-1)]) rfl ?_
    refine lv_aload_n hx hb dL_law_518 rfl (lv_at hl 3 rfl) ?_
    refine lv_iload_n hx hb dL_law_519 rfl (lv_at hl 0 rfl) ?_
    refine lv_iconst (v := 4) hx hb dL_law_520 (by decide) ?_
    refine lv_iadd hx hb dL_law_521 ?_
    refine lv_topi (fun z25 ez25 => ?_)
    obtain rfl : z25 = 4 := ez25.trans (by decide)
    refine va_sld hx hb hX hbl hbA hS (show ¬ ((4 : Int32) < 0 ∨ 7 ≤ (4 : Int32).toNatClampNeg) by decide) dL_law_522 ?_
    refine W.eq (g2 := F0 m 523 ls [.int (xs 4), .int (xs 3), .int (xs 2), .int (xs 1), .ref o2, .int (-1)]) rfl ?_
    refine lv_aload_n hx hb dL_law_523 rfl (lv_at hl 3 rfl) ?_
    refine lv_iload_n hx hb dL_law_524 rfl (lv_at hl 0 rfl) ?_
    refine lv_iconst (v := 5) hx hb dL_law_525 (by decide) ?_
    refine lv_iadd hx hb dL_law_526 ?_
    refine lv_topi (fun z26 ez26 => ?_)
    obtain rfl : z26 = 5 := ez26.trans (by decide)
    refine va_sld hx hb hX hbl hbA hS (show ¬ ((5 : Int32) < 0 ∨ 7 ≤ (5 : Int32).toNatClampNeg) by decide) dL_law_527 ?_
    refine W.eq (g2 := F0 m 528 ls [.int (xs 5), .int (xs 4), .int (xs 3), .int (xs 2), .int (xs 1), .ref o2, .int (-1)]) rfl ?_
    refine lv_aload_n hx hb dL_law_528 rfl (lv_at hl 3 rfl) ?_
    refine lv_iload_n hx hb dL_law_529 rfl (lv_at hl 0 rfl) ?_
    refine lv_bipush (v := 6) hx hb dL_law_530 (by decide) ?_
    refine lv_iadd hx hb dL_law_532 ?_
    refine lv_topi (fun z27 ez27 => ?_)
    obtain rfl : z27 = 6 := ez27.trans (by decide)
    refine va_sld hx hb hX hbl hbA hS (show ¬ ((6 : Int32) < 0 ∨ 7 ≤ (6 : Int32).toNatClampNeg) by decide) dL_law_533 ?_
    refine W.eq (g2 := F0 m 534 ls [.int (xs 6), .int (xs 5), .int (xs 4), .int (xs 3), .int (xs 2), .int (xs 1), .ref o2, .int (-1)]) rfl ?_
    refine lv_if_eq (tgt := 541) hx hb dL_law_534 (by decide) (fun c28 => ?_) (fun c28 => ?_)
    · skip
      have c28 := i_eq (Eq.refl ((xs 6)).toInt) (show (0 : Int32).toInt = 0 by decide) c28
      refine lv_iconst (v := 0) hx hb dL_law_541 (by decide) ?_
      refine cg (wc := [(o2, .inr (11, (moF a))), ((a 0), .inl (Y 0, 7533, .inl tolF))]) (wr := (((b 16), .inl (Y 7, 12, .inr (.inr (.inr (.inr (fun _ => none)))))) :: ((b 17), .inl (Y 8, 40, .inr (.inr (.inr (.inr (fun _ => none)))))) :: ((b 18), .inl (Y 0, 12, .inl (fun _ => 0))) :: ((b 19), .inl (Y 0, 12, .inl (fun _ => 0))) :: ((b 20), .inl (Y 0, 8, .inl (fun _ => 0))) :: ((b 21), .inl (Y 0, 8, .inl (fun _ => 0))) :: ((b 22), .inl (Y 2, 400, .inl (fun _ => 0))) :: ((b 1), .inl (Y 4, 4, .inr (.inr (.inr (.inr (fun _ => none)))))) :: ((b 5), .inr (3, (paF Z b))) :: ((b 24), .inr (8, (txF b))) :: ((a 2), .inl (Y 2, 400, .inl (fun _ => 0))) :: ((a 3), .inl (Y 0, 3, .inl (fun _ => 0))) :: ((a 5), .inl (Y 0, 18, .inl (fun _ => 0))) :: ((a 7), .inl (Y 0, 18, .inl (fun _ => 0))) :: ((a 8), .inl (Y 0, 18, .inl (fun _ => 0))) :: ((a 9), .inl (Y 0, 18, .inl (fun _ => 0))) :: ((a 11), .inl (Y 0, 18, .inl (fun _ => 0))) :: ((a 13), .inl (Y 0, 18, .inl (fun _ => 0))) :: ((a 14), .inl (Y 0, 18, .inl (fun _ => 0))) :: ((a 26), .inl (Y 0, 30132, .inl (fun _ => 0))) :: ((a 27), .inl (Y 3, 4, .inl (fun _ => 0))) :: [])) [10, 11] [0, 1, 2, 3, 4, 5, 6, 7, 8, 9, 12, 13, 14, 15, 16, 17, 18, 19, 20, 21, 22] (rn_V (As := [.int (xs 1), .int (xs 2), .int (xs 3), .int (xs 4), .int (xs 5), .int 0]) (rest := [.int (-1)]) (b := o2) (y_world l D Y Z H.size o2 a (xs 1) (xs 2) (xs 3) (xs 4) (xs 5) 0) ⟨hx, hb, hml, hown, hg⟩ lk_L_49 ⟨CP.blind, va_recv hKN.1 hP (ci := 11) (q0 := 10) rfl rfl, CP.at (hP.sub [10, 11] rfl) hKN (hD.sub [10, 11] (by decide) rfl)⟩ ⟨⟨rfl, rfl⟩, ⟨Nat.le_of_ble_eq_true rfl, Nat.le_of_ble_eq_true rfl⟩, ⟨Nat.le_of_ble_eq_true rfl, Nat.le_of_ble_eq_true rfl⟩⟩ hl.1 rfl (Nat.le_of_ble_eq_true rfl) dL_law_542) hP hD hS hA rfl rfl (by decide) (by decide) (fun u29 H locs w30 hP hD hS => ?_)
      refine W.eq (g2 := F0 m 545 ls [.int (-1), .int (-1)]) rfl ?_
      have hP : va_P D vwCl (((b 16), .inl (Y 7, 12, .inr (.inr (.inr (.inr (fun _ => none)))))) :: ((b 17), .inl (Y 8, 40, .inr (.inr (.inr (.inr (fun _ => none)))))) :: ((b 18), .inl (Y 0, 12, .inl (fun _ => 0))) :: ((b 19), .inl (Y 0, 12, .inl (fun _ => 0))) :: ((b 20), .inl (Y 0, 8, .inl (fun _ => 0))) :: ((b 21), .inl (Y 0, 8, .inl (fun _ => 0))) :: ((b 22), .inl (Y 2, 400, .inl (fun _ => 0))) :: ((b 1), .inl (Y 4, 4, .inr (.inr (.inr (.inr (fun _ => none)))))) :: ((b 5), .inr (3, (paF Z b))) :: ((b 24), .inr (8, (txF b))) :: ((a 2), .inl (Y 2, 400, .inl (fun _ => 0))) :: ((a 3), .inl (Y 0, 3, .inl (fun _ => 0))) :: ((a 5), .inl (Y 0, 18, .inl (fun _ => 0))) :: ((a 7), .inl (Y 0, 18, .inl (fun _ => 0))) :: ((a 8), .inl (Y 0, 18, .inl (fun _ => 0))) :: ((a 9), .inl (Y 0, 18, .inl (fun _ => 0))) :: ((a 11), .inl (Y 0, 18, .inl (fun _ => 0))) :: ((a 13), .inl (Y 0, 18, .inl (fun _ => 0))) :: ((a 14), .inl (Y 0, 18, .inl (fun _ => 0))) :: ((a 26), .inl (Y 0, 30132, .inl (fun _ => 0))) :: ((a 27), .inl (Y 3, 4, .inl (fun _ => 0))) :: []) H := hP
      have hD : va_D A (((b 16), .inl (Y 7, 12, .inr (.inr (.inr (.inr (fun _ => none)))))) :: ((b 17), .inl (Y 8, 40, .inr (.inr (.inr (.inr (fun _ => none)))))) :: ((b 18), .inl (Y 0, 12, .inl (fun _ => 0))) :: ((b 19), .inl (Y 0, 12, .inl (fun _ => 0))) :: ((b 20), .inl (Y 0, 8, .inl (fun _ => 0))) :: ((b 21), .inl (Y 0, 8, .inl (fun _ => 0))) :: ((b 22), .inl (Y 2, 400, .inl (fun _ => 0))) :: ((b 1), .inl (Y 4, 4, .inr (.inr (.inr (.inr (fun _ => none)))))) :: ((b 5), .inr (3, (paF Z b))) :: ((b 24), .inr (8, (txF b))) :: ((a 2), .inl (Y 2, 400, .inl (fun _ => 0))) :: ((a 3), .inl (Y 0, 3, .inl (fun _ => 0))) :: ((a 5), .inl (Y 0, 18, .inl (fun _ => 0))) :: ((a 7), .inl (Y 0, 18, .inl (fun _ => 0))) :: ((a 8), .inl (Y 0, 18, .inl (fun _ => 0))) :: ((a 9), .inl (Y 0, 18, .inl (fun _ => 0))) :: ((a 11), .inl (Y 0, 18, .inl (fun _ => 0))) :: ((a 13), .inl (Y 0, 18, .inl (fun _ => 0))) :: ((a 14), .inl (Y 0, 18, .inl (fun _ => 0))) :: ((a 26), .inl (Y 0, 30132, .inl (fun _ => 0))) :: ((a 27), .inl (Y 3, 4, .inl (fun _ => 0))) :: []) := hD
      refine lv_icmp_eq (tgt := 1885) hx hb dL_law_545 (by decide) (fun c31 => ?_) (fun c31 => ?_)
      rotate_left
      · exact absurd c31 (by decide)
      exact lw_tail C0 hA2 (Nat.le_of_ble_eq_true rfl) (Nat.le_of_ble_eq_true rfl) hS (lv_sub hl [0, 3] rfl)
    · skip
      have c28 := i_ne (Eq.refl ((xs 6)).toInt) (show (0 : Int32).toInt = 0 by decide) c28
      refine lv_iconst (v := 1) hx hb dL_law_537 (by decide) ?_
      refine lv_goto (tgt := 542) hx hb dL_law_538 (by decide) ?_
      refine cg (wc := [(o2, .inr (11, (moF a))), ((a 0), .inl (Y 0, 7533, .inl tolF))]) (wr := (((b 16), .inl (Y 7, 12, .inr (.inr (.inr (.inr (fun _ => none)))))) :: ((b 17), .inl (Y 8, 40, .inr (.inr (.inr (.inr (fun _ => none)))))) :: ((b 18), .inl (Y 0, 12, .inl (fun _ => 0))) :: ((b 19), .inl (Y 0, 12, .inl (fun _ => 0))) :: ((b 20), .inl (Y 0, 8, .inl (fun _ => 0))) :: ((b 21), .inl (Y 0, 8, .inl (fun _ => 0))) :: ((b 22), .inl (Y 2, 400, .inl (fun _ => 0))) :: ((b 1), .inl (Y 4, 4, .inr (.inr (.inr (.inr (fun _ => none)))))) :: ((b 5), .inr (3, (paF Z b))) :: ((b 24), .inr (8, (txF b))) :: ((a 2), .inl (Y 2, 400, .inl (fun _ => 0))) :: ((a 3), .inl (Y 0, 3, .inl (fun _ => 0))) :: ((a 5), .inl (Y 0, 18, .inl (fun _ => 0))) :: ((a 7), .inl (Y 0, 18, .inl (fun _ => 0))) :: ((a 8), .inl (Y 0, 18, .inl (fun _ => 0))) :: ((a 9), .inl (Y 0, 18, .inl (fun _ => 0))) :: ((a 11), .inl (Y 0, 18, .inl (fun _ => 0))) :: ((a 13), .inl (Y 0, 18, .inl (fun _ => 0))) :: ((a 14), .inl (Y 0, 18, .inl (fun _ => 0))) :: ((a 26), .inl (Y 0, 30132, .inl (fun _ => 0))) :: ((a 27), .inl (Y 3, 4, .inl (fun _ => 0))) :: [])) [10, 11] [0, 1, 2, 3, 4, 5, 6, 7, 8, 9, 12, 13, 14, 15, 16, 17, 18, 19, 20, 21, 22] (rn_V (As := [.int (xs 1), .int (xs 2), .int (xs 3), .int (xs 4), .int (xs 5), .int 1]) (rest := [.int (-1)]) (b := o2) (y_world l D Y Z H.size o2 a (xs 1) (xs 2) (xs 3) (xs 4) (xs 5) 1) ⟨hx, hb, hml, hown, hg⟩ lk_L_49 ⟨CP.blind, va_recv hKN.1 hP (ci := 11) (q0 := 10) rfl rfl, CP.at (hP.sub [10, 11] rfl) hKN (hD.sub [10, 11] (by decide) rfl)⟩ ⟨⟨rfl, rfl⟩, ⟨Nat.le_of_ble_eq_true rfl, Nat.le_of_ble_eq_true rfl⟩, ⟨Nat.le_of_ble_eq_true rfl, Nat.le_of_ble_eq_true rfl⟩⟩ hl.1 rfl (Nat.le_of_ble_eq_true rfl) dL_law_542) hP hD hS hA rfl rfl (by decide) (by decide) (fun u32 H locs w33 hP hD hS => ?_)
      refine W.eq (g2 := F0 m 545 ls [.int (-1), .int (-1)]) rfl ?_
      have hP : va_P D vwCl (((b 16), .inl (Y 7, 12, .inr (.inr (.inr (.inr (fun _ => none)))))) :: ((b 17), .inl (Y 8, 40, .inr (.inr (.inr (.inr (fun _ => none)))))) :: ((b 18), .inl (Y 0, 12, .inl (fun _ => 0))) :: ((b 19), .inl (Y 0, 12, .inl (fun _ => 0))) :: ((b 20), .inl (Y 0, 8, .inl (fun _ => 0))) :: ((b 21), .inl (Y 0, 8, .inl (fun _ => 0))) :: ((b 22), .inl (Y 2, 400, .inl (fun _ => 0))) :: ((b 1), .inl (Y 4, 4, .inr (.inr (.inr (.inr (fun _ => none)))))) :: ((b 5), .inr (3, (paF Z b))) :: ((b 24), .inr (8, (txF b))) :: ((a 2), .inl (Y 2, 400, .inl (fun _ => 0))) :: ((a 3), .inl (Y 0, 3, .inl (fun _ => 0))) :: ((a 5), .inl (Y 0, 18, .inl (fun _ => 0))) :: ((a 7), .inl (Y 0, 18, .inl (fun _ => 0))) :: ((a 8), .inl (Y 0, 18, .inl (fun _ => 0))) :: ((a 9), .inl (Y 0, 18, .inl (fun _ => 0))) :: ((a 11), .inl (Y 0, 18, .inl (fun _ => 0))) :: ((a 13), .inl (Y 0, 18, .inl (fun _ => 0))) :: ((a 14), .inl (Y 0, 18, .inl (fun _ => 0))) :: ((a 26), .inl (Y 0, 30132, .inl (fun _ => 0))) :: ((a 27), .inl (Y 3, 4, .inl (fun _ => 0))) :: []) H := hP
      have hD : va_D A (((b 16), .inl (Y 7, 12, .inr (.inr (.inr (.inr (fun _ => none)))))) :: ((b 17), .inl (Y 8, 40, .inr (.inr (.inr (.inr (fun _ => none)))))) :: ((b 18), .inl (Y 0, 12, .inl (fun _ => 0))) :: ((b 19), .inl (Y 0, 12, .inl (fun _ => 0))) :: ((b 20), .inl (Y 0, 8, .inl (fun _ => 0))) :: ((b 21), .inl (Y 0, 8, .inl (fun _ => 0))) :: ((b 22), .inl (Y 2, 400, .inl (fun _ => 0))) :: ((b 1), .inl (Y 4, 4, .inr (.inr (.inr (.inr (fun _ => none)))))) :: ((b 5), .inr (3, (paF Z b))) :: ((b 24), .inr (8, (txF b))) :: ((a 2), .inl (Y 2, 400, .inl (fun _ => 0))) :: ((a 3), .inl (Y 0, 3, .inl (fun _ => 0))) :: ((a 5), .inl (Y 0, 18, .inl (fun _ => 0))) :: ((a 7), .inl (Y 0, 18, .inl (fun _ => 0))) :: ((a 8), .inl (Y 0, 18, .inl (fun _ => 0))) :: ((a 9), .inl (Y 0, 18, .inl (fun _ => 0))) :: ((a 11), .inl (Y 0, 18, .inl (fun _ => 0))) :: ((a 13), .inl (Y 0, 18, .inl (fun _ => 0))) :: ((a 14), .inl (Y 0, 18, .inl (fun _ => 0))) :: ((a 26), .inl (Y 0, 30132, .inl (fun _ => 0))) :: ((a 27), .inl (Y 3, 4, .inl (fun _ => 0))) :: []) := hD
      refine lv_icmp_eq (tgt := 1885) hx hb dL_law_545 (by decide) (fun c34 => ?_) (fun c34 => ?_)
      rotate_left
      · exact absurd c34 (by decide)
      exact lw_tail C0 hA2 (Nat.le_of_ble_eq_true rfl) (Nat.le_of_ble_eq_true rfl) hS (lv_sub hl [0, 3] rfl)
set_option maxHeartbeats 4000000 in
set_option maxRecDepth 100000 in
theorem lc_8 {p : Program} {l : Launch} {e : Env} {s : State} {m : MethodId} {below : List Frame} {meth : Method} {c : Code} {sb : Nat} {xs : Nat → Int32} (C0 : lw_At p s m meth c sb 7 xs) {D : va_G} {Y : Nat → ClassId} {Z : Nat → Nat} (hKN : KN D Y Z s) {A : Nat → Prop} (hA : ∀ q, s.heap.size ≤ q → A q) (hA2 : ∀ q, A q → s.heap.size ≤ q) {o o2 : Nat} {b a : Nat → Nat} {H : Heap} {locs : List Loc} {ls : Array Slot} (hP : va_P D vwCl (LW Y Z o o2 b a) H) (hD : va_D A (LW Y Z o o2 b a)) (hS : va_S A s.heap H locs) (hl : lv_has ls 4 [(3, .int 0), (2, .ref o2), (1, .ref o), (0, .ref sb)]) : W p l e room_1 s m #[Value.ref sb] below meth c H locs 70 52824 (lw_Z below #[Value.ref sb] s) (F0 m 550 ls []) := by
  obtain ⟨hx, hb, hr, hml, hown, hts, hX, hbl, hlocks, hgv⟩ := id C0
  have hb : c.code = cL_law := hb
  have hown : s.vm.findClass RL = some m.cls := hown
  have hg : ∀ w ∈ GW, w.before #[Value.ref sb] s = true := fun w h => hts w (gw_tbl h)
  have hbA : ¬ A sb := fun h => absurd (hA2 sb h) (Nat.not_le.mpr hbl)
  refine lv_aload_n hx hb dL_law_550 rfl (lv_at hl 2 rfl) ?_
  refine lv_aload_n hx hb dL_law_551 rfl (lv_at hl 3 rfl) ?_
  refine lv_iload_n hx hb dL_law_552 rfl (lv_at hl 0 rfl) ?_
  refine lv_iconst (v := 1) hx hb dL_law_553 (by decide) ?_
  refine lv_iadd hx hb dL_law_554 ?_
  refine lv_topi (fun z1 ez1 => ?_)
  obtain rfl : z1 = 1 := ez1.trans (by decide)
  refine va_sld hx hb hX hbl hbA hS (show ¬ ((1 : Int32) < 0 ∨ 7 ≤ (1 : Int32).toNatClampNeg) by decide) dL_law_555 ?_
  refine W.eq (g2 := F0 m 556 ls [.int (xs 1), .ref o]) rfl ?_
  refine lv_aload_n hx hb dL_law_556 rfl (lv_at hl 3 rfl) ?_
  refine lv_iload_n hx hb dL_law_557 rfl (lv_at hl 0 rfl) ?_
  refine lv_iconst (v := 2) hx hb dL_law_558 (by decide) ?_
  refine lv_iadd hx hb dL_law_559 ?_
  refine lv_topi (fun z2 ez2 => ?_)
  obtain rfl : z2 = 2 := ez2.trans (by decide)
  refine va_sld hx hb hX hbl hbA hS (show ¬ ((2 : Int32) < 0 ∨ 7 ≤ (2 : Int32).toNatClampNeg) by decide) dL_law_560 ?_
  refine W.eq (g2 := F0 m 561 ls [.int (xs 2), .int (xs 1), .ref o]) rfl ?_
  refine lv_aload_n hx hb dL_law_561 rfl (lv_at hl 3 rfl) ?_
  refine lv_iload_n hx hb dL_law_562 rfl (lv_at hl 0 rfl) ?_
  refine lv_iconst (v := 3) hx hb dL_law_563 (by decide) ?_
  refine lv_iadd hx hb dL_law_564 ?_
  refine lv_topi (fun z3 ez3 => ?_)
  obtain rfl : z3 = 3 := ez3.trans (by decide)
  refine va_sld hx hb hX hbl hbA hS (show ¬ ((3 : Int32) < 0 ∨ 7 ≤ (3 : Int32).toNatClampNeg) by decide) dL_law_565 ?_
  refine W.eq (g2 := F0 m 566 ls [.int (xs 3), .int (xs 2), .int (xs 1), .ref o]) rfl ?_
  refine lv_aload_n hx hb dL_law_566 rfl (lv_at hl 3 rfl) ?_
  refine lv_iload_n hx hb dL_law_567 rfl (lv_at hl 0 rfl) ?_
  refine lv_iconst (v := 4) hx hb dL_law_568 (by decide) ?_
  refine lv_iadd hx hb dL_law_569 ?_
  refine lv_topi (fun z4 ez4 => ?_)
  obtain rfl : z4 = 4 := ez4.trans (by decide)
  refine va_sld hx hb hX hbl hbA hS (show ¬ ((4 : Int32) < 0 ∨ 7 ≤ (4 : Int32).toNatClampNeg) by decide) dL_law_570 ?_
  refine W.eq (g2 := F0 m 571 ls [.int (xs 4), .int (xs 3), .int (xs 2), .int (xs 1), .ref o]) rfl ?_
  refine lv_aload_n hx hb dL_law_571 rfl (lv_at hl 3 rfl) ?_
  refine lv_iload_n hx hb dL_law_572 rfl (lv_at hl 0 rfl) ?_
  refine lv_iconst (v := 5) hx hb dL_law_573 (by decide) ?_
  refine lv_iadd hx hb dL_law_574 ?_
  refine lv_topi (fun z5 ez5 => ?_)
  obtain rfl : z5 = 5 := ez5.trans (by decide)
  refine va_sld hx hb hX hbl hbA hS (show ¬ ((5 : Int32) < 0 ∨ 7 ≤ (5 : Int32).toNatClampNeg) by decide) dL_law_575 ?_
  refine W.eq (g2 := F0 m 576 ls [.int (xs 5), .int (xs 4), .int (xs 3), .int (xs 2), .int (xs 1), .ref o]) rfl ?_
  refine cg (wc := [(o, .inr (10, (dsF b))), ((b 0), .inr (6, (skF b))), ((b 22), .inl (Y 2, 400, .inl (fun _ => 0)))]) (wr := (((b 16), .inl (Y 7, 12, .inr (.inr (.inr (.inr (fun _ => none)))))) :: ((b 17), .inl (Y 8, 40, .inr (.inr (.inr (.inr (fun _ => none)))))) :: ((b 18), .inl (Y 0, 12, .inl (fun _ => 0))) :: ((b 19), .inl (Y 0, 12, .inl (fun _ => 0))) :: ((b 20), .inl (Y 0, 8, .inl (fun _ => 0))) :: ((b 21), .inl (Y 0, 8, .inl (fun _ => 0))) :: ((b 1), .inl (Y 4, 4, .inr (.inr (.inr (.inr (fun _ => none)))))) :: ((b 5), .inr (3, (paF Z b))) :: ((b 24), .inr (8, (txF b))) :: (o2, .inr (11, (moF a))) :: ((a 0), .inl (Y 0, 7533, .inl tolF)) :: ((a 2), .inl (Y 2, 400, .inl (fun _ => 0))) :: ((a 3), .inl (Y 0, 3, .inl (fun _ => 0))) :: ((a 5), .inl (Y 0, 18, .inl (fun _ => 0))) :: ((a 7), .inl (Y 0, 18, .inl (fun _ => 0))) :: ((a 8), .inl (Y 0, 18, .inl (fun _ => 0))) :: ((a 9), .inl (Y 0, 18, .inl (fun _ => 0))) :: ((a 11), .inl (Y 0, 18, .inl (fun _ => 0))) :: ((a 13), .inl (Y 0, 18, .inl (fun _ => 0))) :: ((a 14), .inl (Y 0, 18, .inl (fun _ => 0))) :: ((a 26), .inl (Y 0, 30132, .inl (fun _ => 0))) :: ((a 27), .inl (Y 3, 4, .inl (fun _ => 0))) :: [])) [0, 1, 8] [2, 3, 4, 5, 6, 7, 9, 10, 11, 12, 13, 14, 15, 16, 17, 18, 19, 20, 21, 22, 23, 24] (rn_V (As := [.int (xs 1), .int (xs 2), .int (xs 3), .int (xs 4), .int (xs 5)]) (rest := []) (b := o) (x_feed l D Y Z H.size o b (xs 1) (xs 2) (xs 3) (xs 4) (xs 5)) ⟨hx, hb, hml, hown, hg⟩ lk_L_50 ⟨CP.blind, va_recv hKN.1 hP (ci := 10) (q0 := 0) rfl rfl, CP.at (hP.sub [0, 1, 8] rfl) hKN (hD.sub [0, 1, 8] (by decide) rfl)⟩ ⟨⟨rfl, rfl⟩, ⟨Nat.le_of_ble_eq_true rfl, Nat.le_of_ble_eq_true rfl⟩, ⟨Nat.le_of_ble_eq_true rfl, Nat.le_of_ble_eq_true rfl⟩⟩ hl.1 rfl (Nat.le_of_ble_eq_true rfl) dL_law_576) hP hD hS hA rfl rfl (by decide) (by decide) (fun u6 H locs w7 hP hD hS => ?_)
  refine W.eq (g2 := F0 m 579 ls [.int 20]) rfl ?_
  have hP : va_P D vwCl (((b 16), .inl (Y 7, 12, .inr (.inr (.inr (.inr (fun _ => none)))))) :: ((b 17), .inl (Y 8, 40, .inr (.inr (.inr (.inr (fun _ => none)))))) :: ((b 18), .inl (Y 0, 12, .inl (fun _ => 0))) :: ((b 19), .inl (Y 0, 12, .inl (fun _ => 0))) :: ((b 20), .inl (Y 0, 8, .inl (fun _ => 0))) :: ((b 21), .inl (Y 0, 8, .inl (fun _ => 0))) :: ((b 1), .inl (Y 4, 4, .inr (.inr (.inr (.inr (fun _ => none)))))) :: ((b 5), .inr (3, (paF Z b))) :: ((b 24), .inr (8, (txF b))) :: (o2, .inr (11, (moF a))) :: ((a 0), .inl (Y 0, 7533, .inl tolF)) :: ((a 2), .inl (Y 2, 400, .inl (fun _ => 0))) :: ((a 3), .inl (Y 0, 3, .inl (fun _ => 0))) :: ((a 5), .inl (Y 0, 18, .inl (fun _ => 0))) :: ((a 7), .inl (Y 0, 18, .inl (fun _ => 0))) :: ((a 8), .inl (Y 0, 18, .inl (fun _ => 0))) :: ((a 9), .inl (Y 0, 18, .inl (fun _ => 0))) :: ((a 11), .inl (Y 0, 18, .inl (fun _ => 0))) :: ((a 13), .inl (Y 0, 18, .inl (fun _ => 0))) :: ((a 14), .inl (Y 0, 18, .inl (fun _ => 0))) :: ((a 26), .inl (Y 0, 30132, .inl (fun _ => 0))) :: ((a 27), .inl (Y 3, 4, .inl (fun _ => 0))) :: []) H := hP
  have hD : va_D A (((b 16), .inl (Y 7, 12, .inr (.inr (.inr (.inr (fun _ => none)))))) :: ((b 17), .inl (Y 8, 40, .inr (.inr (.inr (.inr (fun _ => none)))))) :: ((b 18), .inl (Y 0, 12, .inl (fun _ => 0))) :: ((b 19), .inl (Y 0, 12, .inl (fun _ => 0))) :: ((b 20), .inl (Y 0, 8, .inl (fun _ => 0))) :: ((b 21), .inl (Y 0, 8, .inl (fun _ => 0))) :: ((b 1), .inl (Y 4, 4, .inr (.inr (.inr (.inr (fun _ => none)))))) :: ((b 5), .inr (3, (paF Z b))) :: ((b 24), .inr (8, (txF b))) :: (o2, .inr (11, (moF a))) :: ((a 0), .inl (Y 0, 7533, .inl tolF)) :: ((a 2), .inl (Y 2, 400, .inl (fun _ => 0))) :: ((a 3), .inl (Y 0, 3, .inl (fun _ => 0))) :: ((a 5), .inl (Y 0, 18, .inl (fun _ => 0))) :: ((a 7), .inl (Y 0, 18, .inl (fun _ => 0))) :: ((a 8), .inl (Y 0, 18, .inl (fun _ => 0))) :: ((a 9), .inl (Y 0, 18, .inl (fun _ => 0))) :: ((a 11), .inl (Y 0, 18, .inl (fun _ => 0))) :: ((a 13), .inl (Y 0, 18, .inl (fun _ => 0))) :: ((a 14), .inl (Y 0, 18, .inl (fun _ => 0))) :: ((a 26), .inl (Y 0, 30132, .inl (fun _ => 0))) :: ((a 27), .inl (Y 3, 4, .inl (fun _ => 0))) :: []) := hD
  refine lv_aload_n hx hb dL_law_579 rfl (lv_at hl 1 rfl) ?_
  refine lv_aload_n hx hb dL_law_580 rfl (lv_at hl 3 rfl) ?_
  refine lv_iload_n hx hb dL_law_581 rfl (lv_at hl 0 rfl) ?_
  refine lv_iconst (v := 1) hx hb dL_law_582 (by decide) ?_
  refine lv_iadd hx hb dL_law_583 ?_
  refine lv_topi (fun z8 ez8 => ?_)
  obtain rfl : z8 = 1 := ez8.trans (by decide)
  refine va_sld hx hb hX hbl hbA hS (show ¬ ((1 : Int32) < 0 ∨ 7 ≤ (1 : Int32).toNatClampNeg) by decide) dL_law_584 ?_
  refine W.eq (g2 := F0 m 585 ls [.int (xs 1), .ref o2, .int 20]) rfl ?_
  refine lv_aload_n hx hb dL_law_585 rfl (lv_at hl 3 rfl) ?_
  refine lv_iload_n hx hb dL_law_586 rfl (lv_at hl 0 rfl) ?_
  refine lv_iconst (v := 2) hx hb dL_law_587 (by decide) ?_
  refine lv_iadd hx hb dL_law_588 ?_
  refine lv_topi (fun z9 ez9 => ?_)
  obtain rfl : z9 = 2 := ez9.trans (by decide)
  refine va_sld hx hb hX hbl hbA hS (show ¬ ((2 : Int32) < 0 ∨ 7 ≤ (2 : Int32).toNatClampNeg) by decide) dL_law_589 ?_
  refine W.eq (g2 := F0 m 590 ls [.int (xs 2), .int (xs 1), .ref o2, .int 20]) rfl ?_
  refine lv_aload_n hx hb dL_law_590 rfl (lv_at hl 3 rfl) ?_
  refine lv_iload_n hx hb dL_law_591 rfl (lv_at hl 0 rfl) ?_
  refine lv_iconst (v := 3) hx hb dL_law_592 (by decide) ?_
  refine lv_iadd hx hb dL_law_593 ?_
  refine lv_topi (fun z10 ez10 => ?_)
  obtain rfl : z10 = 3 := ez10.trans (by decide)
  refine va_sld hx hb hX hbl hbA hS (show ¬ ((3 : Int32) < 0 ∨ 7 ≤ (3 : Int32).toNatClampNeg) by decide) dL_law_594 ?_
  refine W.eq (g2 := F0 m 595 ls [.int (xs 3), .int (xs 2), .int (xs 1), .ref o2, .int 20]) rfl ?_
  refine lv_aload_n hx hb dL_law_595 rfl (lv_at hl 3 rfl) ?_
  refine lv_iload_n hx hb dL_law_596 rfl (lv_at hl 0 rfl) ?_
  refine lv_iconst (v := 4) hx hb dL_law_597 (by decide) ?_
  refine lv_iadd hx hb dL_law_598 ?_
  refine lv_topi (fun z11 ez11 => ?_)
  obtain rfl : z11 = 4 := ez11.trans (by decide)
  refine va_sld hx hb hX hbl hbA hS (show ¬ ((4 : Int32) < 0 ∨ 7 ≤ (4 : Int32).toNatClampNeg) by decide) dL_law_599 ?_
  refine W.eq (g2 := F0 m 600 ls [.int (xs 4), .int (xs 3), .int (xs 2), .int (xs 1), .ref o2, .int 20]) rfl ?_
  refine lv_aload_n hx hb dL_law_600 rfl (lv_at hl 3 rfl) ?_
  refine lv_iload_n hx hb dL_law_601 rfl (lv_at hl 0 rfl) ?_
  refine lv_iconst (v := 5) hx hb dL_law_602 (by decide) ?_
  refine lv_iadd hx hb dL_law_603 ?_
  refine lv_topi (fun z12 ez12 => ?_)
  obtain rfl : z12 = 5 := ez12.trans (by decide)
  refine va_sld hx hb hX hbl hbA hS (show ¬ ((5 : Int32) < 0 ∨ 7 ≤ (5 : Int32).toNatClampNeg) by decide) dL_law_604 ?_
  refine W.eq (g2 := F0 m 605 ls [.int (xs 5), .int (xs 4), .int (xs 3), .int (xs 2), .int (xs 1), .ref o2, .int 20]) rfl ?_
  refine cg (wc := [(o2, .inr (11, (moF a))), ((a 2), .inl (Y 2, 400, .inl (fun _ => 0)))]) (wr := (((b 16), .inl (Y 7, 12, .inr (.inr (.inr (.inr (fun _ => none)))))) :: ((b 17), .inl (Y 8, 40, .inr (.inr (.inr (.inr (fun _ => none)))))) :: ((b 18), .inl (Y 0, 12, .inl (fun _ => 0))) :: ((b 19), .inl (Y 0, 12, .inl (fun _ => 0))) :: ((b 20), .inl (Y 0, 8, .inl (fun _ => 0))) :: ((b 21), .inl (Y 0, 8, .inl (fun _ => 0))) :: ((b 1), .inl (Y 4, 4, .inr (.inr (.inr (.inr (fun _ => none)))))) :: ((b 5), .inr (3, (paF Z b))) :: ((b 24), .inr (8, (txF b))) :: ((a 0), .inl (Y 0, 7533, .inl tolF)) :: ((a 3), .inl (Y 0, 3, .inl (fun _ => 0))) :: ((a 5), .inl (Y 0, 18, .inl (fun _ => 0))) :: ((a 7), .inl (Y 0, 18, .inl (fun _ => 0))) :: ((a 8), .inl (Y 0, 18, .inl (fun _ => 0))) :: ((a 9), .inl (Y 0, 18, .inl (fun _ => 0))) :: ((a 11), .inl (Y 0, 18, .inl (fun _ => 0))) :: ((a 13), .inl (Y 0, 18, .inl (fun _ => 0))) :: ((a 14), .inl (Y 0, 18, .inl (fun _ => 0))) :: ((a 26), .inl (Y 0, 30132, .inl (fun _ => 0))) :: ((a 27), .inl (Y 3, 4, .inl (fun _ => 0))) :: [])) [9, 11] [0, 1, 2, 3, 4, 5, 6, 7, 8, 10, 12, 13, 14, 15, 16, 17, 18, 19, 20, 21] (rn_V (As := [.int (xs 1), .int (xs 2), .int (xs 3), .int (xs 4), .int (xs 5)]) (rest := [.int 20]) (b := o2) (y_feed l D Y Z H.size o2 a (xs 1) (xs 2) (xs 3) (xs 4) (xs 5)) ⟨hx, hb, hml, hown, hg⟩ lk_L_54 ⟨CP.blind, va_recv hKN.1 hP (ci := 11) (q0 := 9) rfl rfl, CP.at (hP.sub [9, 11] rfl) hKN (hD.sub [9, 11] (by decide) rfl)⟩ ⟨⟨rfl, rfl⟩, ⟨Nat.le_of_ble_eq_true rfl, Nat.le_of_ble_eq_true rfl⟩, ⟨Nat.le_of_ble_eq_true rfl, Nat.le_of_ble_eq_true rfl⟩⟩ hl.1 rfl (Nat.le_of_ble_eq_true rfl) dL_law_605) hP hD hS hA rfl rfl (by decide) (by decide) (fun u13 H locs w14 hP hD hS => ?_)
  refine W.eq (g2 := F0 m 608 ls [.int 20, .int 20]) rfl ?_
  have hP : va_P D vwCl (((b 16), .inl (Y 7, 12, .inr (.inr (.inr (.inr (fun _ => none)))))) :: ((b 17), .inl (Y 8, 40, .inr (.inr (.inr (.inr (fun _ => none)))))) :: ((b 18), .inl (Y 0, 12, .inl (fun _ => 0))) :: ((b 19), .inl (Y 0, 12, .inl (fun _ => 0))) :: ((b 20), .inl (Y 0, 8, .inl (fun _ => 0))) :: ((b 21), .inl (Y 0, 8, .inl (fun _ => 0))) :: ((b 1), .inl (Y 4, 4, .inr (.inr (.inr (.inr (fun _ => none)))))) :: ((b 5), .inr (3, (paF Z b))) :: ((b 24), .inr (8, (txF b))) :: ((a 0), .inl (Y 0, 7533, .inl tolF)) :: ((a 3), .inl (Y 0, 3, .inl (fun _ => 0))) :: ((a 5), .inl (Y 0, 18, .inl (fun _ => 0))) :: ((a 7), .inl (Y 0, 18, .inl (fun _ => 0))) :: ((a 8), .inl (Y 0, 18, .inl (fun _ => 0))) :: ((a 9), .inl (Y 0, 18, .inl (fun _ => 0))) :: ((a 11), .inl (Y 0, 18, .inl (fun _ => 0))) :: ((a 13), .inl (Y 0, 18, .inl (fun _ => 0))) :: ((a 14), .inl (Y 0, 18, .inl (fun _ => 0))) :: ((a 26), .inl (Y 0, 30132, .inl (fun _ => 0))) :: ((a 27), .inl (Y 3, 4, .inl (fun _ => 0))) :: []) H := hP
  have hD : va_D A (((b 16), .inl (Y 7, 12, .inr (.inr (.inr (.inr (fun _ => none)))))) :: ((b 17), .inl (Y 8, 40, .inr (.inr (.inr (.inr (fun _ => none)))))) :: ((b 18), .inl (Y 0, 12, .inl (fun _ => 0))) :: ((b 19), .inl (Y 0, 12, .inl (fun _ => 0))) :: ((b 20), .inl (Y 0, 8, .inl (fun _ => 0))) :: ((b 21), .inl (Y 0, 8, .inl (fun _ => 0))) :: ((b 1), .inl (Y 4, 4, .inr (.inr (.inr (.inr (fun _ => none)))))) :: ((b 5), .inr (3, (paF Z b))) :: ((b 24), .inr (8, (txF b))) :: ((a 0), .inl (Y 0, 7533, .inl tolF)) :: ((a 3), .inl (Y 0, 3, .inl (fun _ => 0))) :: ((a 5), .inl (Y 0, 18, .inl (fun _ => 0))) :: ((a 7), .inl (Y 0, 18, .inl (fun _ => 0))) :: ((a 8), .inl (Y 0, 18, .inl (fun _ => 0))) :: ((a 9), .inl (Y 0, 18, .inl (fun _ => 0))) :: ((a 11), .inl (Y 0, 18, .inl (fun _ => 0))) :: ((a 13), .inl (Y 0, 18, .inl (fun _ => 0))) :: ((a 14), .inl (Y 0, 18, .inl (fun _ => 0))) :: ((a 26), .inl (Y 0, 30132, .inl (fun _ => 0))) :: ((a 27), .inl (Y 3, 4, .inl (fun _ => 0))) :: []) := hD
  refine lv_icmp_eq (tgt := 1885) hx hb dL_law_608 (by decide) (fun c15 => ?_) (fun c15 => ?_)
  rotate_left
  · exact absurd c15 (by decide)
  exact lw_tail C0 hA2 (Nat.le_of_ble_eq_true rfl) (Nat.le_of_ble_eq_true rfl) hS (lv_sub hl [0, 3] rfl)
set_option maxHeartbeats 4000000 in
set_option maxRecDepth 100000 in
theorem lc_9 {p : Program} {l : Launch} {e : Env} {s : State} {m : MethodId} {below : List Frame} {meth : Method} {c : Code} {sb : Nat} {xs : Nat → Int32} (C0 : lw_At p s m meth c sb 7 xs) {D : va_G} {Y : Nat → ClassId} {Z : Nat → Nat} (hKN : KN D Y Z s) {A : Nat → Prop} (hA : ∀ q, s.heap.size ≤ q → A q) (hA2 : ∀ q, A q → s.heap.size ≤ q) {o o2 : Nat} {b a : Nat → Nat} {H : Heap} {locs : List Loc} {ls : Array Slot} (hP : va_P D vwCl (LW Y Z o o2 b a) H) (hD : va_D A (LW Y Z o o2 b a)) (hS : va_S A s.heap H locs) (hl : lv_has ls 4 [(3, .int 0), (2, .ref o2), (1, .ref o), (0, .ref sb)]) : W p l e room_1 s m #[Value.ref sb] below meth c H locs 70 52824 (lw_Z below #[Value.ref sb] s) (F0 m 613 ls []) := by
  obtain ⟨hx, hb, hr, hml, hown, hts, hX, hbl, hlocks, hgv⟩ := id C0
  have hb : c.code = cL_law := hb
  have hown : s.vm.findClass RL = some m.cls := hown
  have hg : ∀ w ∈ GW, w.before #[Value.ref sb] s = true := fun w h => hts w (gw_tbl h)
  have hbA : ¬ A sb := fun h => absurd (hA2 sb h) (Nat.not_le.mpr hbl)
  refine lv_aload_n hx hb dL_law_613 rfl (lv_at hl 2 rfl) ?_
  refine lv_aload_n hx hb dL_law_614 rfl (lv_at hl 3 rfl) ?_
  refine lv_iload_n hx hb dL_law_615 rfl (lv_at hl 0 rfl) ?_
  refine lv_iconst (v := 1) hx hb dL_law_616 (by decide) ?_
  refine lv_iadd hx hb dL_law_617 ?_
  refine lv_topi (fun z1 ez1 => ?_)
  obtain rfl : z1 = 1 := ez1.trans (by decide)
  refine va_sld hx hb hX hbl hbA hS (show ¬ ((1 : Int32) < 0 ∨ 7 ≤ (1 : Int32).toNatClampNeg) by decide) dL_law_618 ?_
  refine W.eq (g2 := F0 m 619 ls [.int (xs 1), .ref o]) rfl ?_
  refine cg (wc := [(o, .inr (10, (dsF b))), ((b 0), .inr (6, (skF b)))]) (wr := (((b 16), .inl (Y 7, 12, .inr (.inr (.inr (.inr (fun _ => none)))))) :: ((b 17), .inl (Y 8, 40, .inr (.inr (.inr (.inr (fun _ => none)))))) :: ((b 18), .inl (Y 0, 12, .inl (fun _ => 0))) :: ((b 19), .inl (Y 0, 12, .inl (fun _ => 0))) :: ((b 20), .inl (Y 0, 8, .inl (fun _ => 0))) :: ((b 21), .inl (Y 0, 8, .inl (fun _ => 0))) :: ((b 22), .inl (Y 2, 400, .inl (fun _ => 0))) :: ((b 1), .inl (Y 4, 4, .inr (.inr (.inr (.inr (fun _ => none)))))) :: ((b 5), .inr (3, (paF Z b))) :: ((b 24), .inr (8, (txF b))) :: (o2, .inr (11, (moF a))) :: ((a 0), .inl (Y 0, 7533, .inl tolF)) :: ((a 2), .inl (Y 2, 400, .inl (fun _ => 0))) :: ((a 3), .inl (Y 0, 3, .inl (fun _ => 0))) :: ((a 5), .inl (Y 0, 18, .inl (fun _ => 0))) :: ((a 7), .inl (Y 0, 18, .inl (fun _ => 0))) :: ((a 8), .inl (Y 0, 18, .inl (fun _ => 0))) :: ((a 9), .inl (Y 0, 18, .inl (fun _ => 0))) :: ((a 11), .inl (Y 0, 18, .inl (fun _ => 0))) :: ((a 13), .inl (Y 0, 18, .inl (fun _ => 0))) :: ((a 14), .inl (Y 0, 18, .inl (fun _ => 0))) :: ((a 26), .inl (Y 0, 30132, .inl (fun _ => 0))) :: ((a 27), .inl (Y 3, 4, .inl (fun _ => 0))) :: [])) [0, 1] [2, 3, 4, 5, 6, 7, 8, 9, 10, 11, 12, 13, 14, 15, 16, 17, 18, 19, 20, 21, 22, 23, 24] (rn_V (As := [.int (xs 1)]) (rest := []) (b := o) (x_end l D Y Z H.size o b (xs 1)) ⟨hx, hb, hml, hown, hg⟩ lk_L_55 ⟨CP.blind, va_recv hKN.1 hP (ci := 10) (q0 := 0) rfl rfl, CP.at (hP.sub [0, 1] rfl) hKN (hD.sub [0, 1] (by decide) rfl)⟩ ⟨⟨rfl, rfl⟩, ⟨Nat.le_of_ble_eq_true rfl, Nat.le_of_ble_eq_true rfl⟩, ⟨Nat.le_of_ble_eq_true rfl, Nat.le_of_ble_eq_true rfl⟩⟩ hl.1 rfl (Nat.le_of_ble_eq_true rfl) dL_law_619) hP hD hS hA rfl rfl (by decide) (by decide) (fun u2 H locs w3 hP hD hS => ?_)
  subst w3
  refine W.eq (g2 := F0 m 622 ls [.int (sp_end (xs 1))]) rfl ?_
  have hP : va_P D vwCl (((b 16), .inl (Y 7, 12, .inr (.inr (.inr (.inr (fun _ => none)))))) :: ((b 17), .inl (Y 8, 40, .inr (.inr (.inr (.inr (fun _ => none)))))) :: ((b 18), .inl (Y 0, 12, .inl (fun _ => 0))) :: ((b 19), .inl (Y 0, 12, .inl (fun _ => 0))) :: ((b 20), .inl (Y 0, 8, .inl (fun _ => 0))) :: ((b 21), .inl (Y 0, 8, .inl (fun _ => 0))) :: ((b 22), .inl (Y 2, 400, .inl (fun _ => 0))) :: ((b 1), .inl (Y 4, 4, .inr (.inr (.inr (.inr (fun _ => none)))))) :: ((b 5), .inr (3, (paF Z b))) :: ((b 24), .inr (8, (txF b))) :: (o2, .inr (11, (moF a))) :: ((a 0), .inl (Y 0, 7533, .inl tolF)) :: ((a 2), .inl (Y 2, 400, .inl (fun _ => 0))) :: ((a 3), .inl (Y 0, 3, .inl (fun _ => 0))) :: ((a 5), .inl (Y 0, 18, .inl (fun _ => 0))) :: ((a 7), .inl (Y 0, 18, .inl (fun _ => 0))) :: ((a 8), .inl (Y 0, 18, .inl (fun _ => 0))) :: ((a 9), .inl (Y 0, 18, .inl (fun _ => 0))) :: ((a 11), .inl (Y 0, 18, .inl (fun _ => 0))) :: ((a 13), .inl (Y 0, 18, .inl (fun _ => 0))) :: ((a 14), .inl (Y 0, 18, .inl (fun _ => 0))) :: ((a 26), .inl (Y 0, 30132, .inl (fun _ => 0))) :: ((a 27), .inl (Y 3, 4, .inl (fun _ => 0))) :: []) H := hP
  have hD : va_D A (((b 16), .inl (Y 7, 12, .inr (.inr (.inr (.inr (fun _ => none)))))) :: ((b 17), .inl (Y 8, 40, .inr (.inr (.inr (.inr (fun _ => none)))))) :: ((b 18), .inl (Y 0, 12, .inl (fun _ => 0))) :: ((b 19), .inl (Y 0, 12, .inl (fun _ => 0))) :: ((b 20), .inl (Y 0, 8, .inl (fun _ => 0))) :: ((b 21), .inl (Y 0, 8, .inl (fun _ => 0))) :: ((b 22), .inl (Y 2, 400, .inl (fun _ => 0))) :: ((b 1), .inl (Y 4, 4, .inr (.inr (.inr (.inr (fun _ => none)))))) :: ((b 5), .inr (3, (paF Z b))) :: ((b 24), .inr (8, (txF b))) :: (o2, .inr (11, (moF a))) :: ((a 0), .inl (Y 0, 7533, .inl tolF)) :: ((a 2), .inl (Y 2, 400, .inl (fun _ => 0))) :: ((a 3), .inl (Y 0, 3, .inl (fun _ => 0))) :: ((a 5), .inl (Y 0, 18, .inl (fun _ => 0))) :: ((a 7), .inl (Y 0, 18, .inl (fun _ => 0))) :: ((a 8), .inl (Y 0, 18, .inl (fun _ => 0))) :: ((a 9), .inl (Y 0, 18, .inl (fun _ => 0))) :: ((a 11), .inl (Y 0, 18, .inl (fun _ => 0))) :: ((a 13), .inl (Y 0, 18, .inl (fun _ => 0))) :: ((a 14), .inl (Y 0, 18, .inl (fun _ => 0))) :: ((a 26), .inl (Y 0, 30132, .inl (fun _ => 0))) :: ((a 27), .inl (Y 3, 4, .inl (fun _ => 0))) :: []) := hD
  refine lv_aload_n hx hb dL_law_622 rfl (lv_at hl 1 rfl) ?_
  refine lv_aload_n hx hb dL_law_623 rfl (lv_at hl 3 rfl) ?_
  refine lv_iload_n hx hb dL_law_624 rfl (lv_at hl 0 rfl) ?_
  refine lv_iconst (v := 1) hx hb dL_law_625 (by decide) ?_
  refine lv_iadd hx hb dL_law_626 ?_
  refine lv_topi (fun z4 ez4 => ?_)
  obtain rfl : z4 = 1 := ez4.trans (by decide)
  refine va_sld hx hb hX hbl hbA hS (show ¬ ((1 : Int32) < 0 ∨ 7 ≤ (1 : Int32).toNatClampNeg) by decide) dL_law_627 ?_
  refine W.eq (g2 := F0 m 628 ls [.int (xs 1), .ref o2, .int (sp_end (xs 1))]) rfl ?_
  refine cg (wc := [(o2, .inr (11, (moF a)))]) (wr := (((b 16), .inl (Y 7, 12, .inr (.inr (.inr (.inr (fun _ => none)))))) :: ((b 17), .inl (Y 8, 40, .inr (.inr (.inr (.inr (fun _ => none)))))) :: ((b 18), .inl (Y 0, 12, .inl (fun _ => 0))) :: ((b 19), .inl (Y 0, 12, .inl (fun _ => 0))) :: ((b 20), .inl (Y 0, 8, .inl (fun _ => 0))) :: ((b 21), .inl (Y 0, 8, .inl (fun _ => 0))) :: ((b 22), .inl (Y 2, 400, .inl (fun _ => 0))) :: ((b 1), .inl (Y 4, 4, .inr (.inr (.inr (.inr (fun _ => none)))))) :: ((b 5), .inr (3, (paF Z b))) :: ((b 24), .inr (8, (txF b))) :: ((a 0), .inl (Y 0, 7533, .inl tolF)) :: ((a 2), .inl (Y 2, 400, .inl (fun _ => 0))) :: ((a 3), .inl (Y 0, 3, .inl (fun _ => 0))) :: ((a 5), .inl (Y 0, 18, .inl (fun _ => 0))) :: ((a 7), .inl (Y 0, 18, .inl (fun _ => 0))) :: ((a 8), .inl (Y 0, 18, .inl (fun _ => 0))) :: ((a 9), .inl (Y 0, 18, .inl (fun _ => 0))) :: ((a 11), .inl (Y 0, 18, .inl (fun _ => 0))) :: ((a 13), .inl (Y 0, 18, .inl (fun _ => 0))) :: ((a 14), .inl (Y 0, 18, .inl (fun _ => 0))) :: ((a 26), .inl (Y 0, 30132, .inl (fun _ => 0))) :: ((a 27), .inl (Y 3, 4, .inl (fun _ => 0))) :: [])) [10] [0, 1, 2, 3, 4, 5, 6, 7, 8, 9, 11, 12, 13, 14, 15, 16, 17, 18, 19, 20, 21, 22] (rn_V (As := [.int (xs 1)]) (rest := [.int (sp_end (xs 1))]) (b := o2) (y_end l D Y Z H.size o2 a (xs 1)) ⟨hx, hb, hml, hown, hg⟩ lk_L_58 ⟨CP.blind, va_recv hKN.1 hP (ci := 11) (q0 := 10) rfl rfl, CP.at (hP.sub [10] rfl) hKN (hD.sub [10] (by decide) rfl)⟩ ⟨⟨rfl, rfl⟩, ⟨Nat.le_of_ble_eq_true rfl, Nat.le_of_ble_eq_true rfl⟩, ⟨Nat.le_of_ble_eq_true rfl, Nat.le_of_ble_eq_true rfl⟩⟩ hl.1 rfl (Nat.le_of_ble_eq_true rfl) dL_law_628) hP hD hS hA rfl rfl (by decide) (by decide) (fun u5 H locs w6 hP hD hS => ?_)
  subst w6
  refine W.eq (g2 := F0 m 631 ls [.int (sp_end (xs 1)), .int (sp_end (xs 1))]) rfl ?_
  have hP : va_P D vwCl (((b 16), .inl (Y 7, 12, .inr (.inr (.inr (.inr (fun _ => none)))))) :: ((b 17), .inl (Y 8, 40, .inr (.inr (.inr (.inr (fun _ => none)))))) :: ((b 18), .inl (Y 0, 12, .inl (fun _ => 0))) :: ((b 19), .inl (Y 0, 12, .inl (fun _ => 0))) :: ((b 20), .inl (Y 0, 8, .inl (fun _ => 0))) :: ((b 21), .inl (Y 0, 8, .inl (fun _ => 0))) :: ((b 22), .inl (Y 2, 400, .inl (fun _ => 0))) :: ((b 1), .inl (Y 4, 4, .inr (.inr (.inr (.inr (fun _ => none)))))) :: ((b 5), .inr (3, (paF Z b))) :: ((b 24), .inr (8, (txF b))) :: ((a 0), .inl (Y 0, 7533, .inl tolF)) :: ((a 2), .inl (Y 2, 400, .inl (fun _ => 0))) :: ((a 3), .inl (Y 0, 3, .inl (fun _ => 0))) :: ((a 5), .inl (Y 0, 18, .inl (fun _ => 0))) :: ((a 7), .inl (Y 0, 18, .inl (fun _ => 0))) :: ((a 8), .inl (Y 0, 18, .inl (fun _ => 0))) :: ((a 9), .inl (Y 0, 18, .inl (fun _ => 0))) :: ((a 11), .inl (Y 0, 18, .inl (fun _ => 0))) :: ((a 13), .inl (Y 0, 18, .inl (fun _ => 0))) :: ((a 14), .inl (Y 0, 18, .inl (fun _ => 0))) :: ((a 26), .inl (Y 0, 30132, .inl (fun _ => 0))) :: ((a 27), .inl (Y 3, 4, .inl (fun _ => 0))) :: []) H := hP
  have hD : va_D A (((b 16), .inl (Y 7, 12, .inr (.inr (.inr (.inr (fun _ => none)))))) :: ((b 17), .inl (Y 8, 40, .inr (.inr (.inr (.inr (fun _ => none)))))) :: ((b 18), .inl (Y 0, 12, .inl (fun _ => 0))) :: ((b 19), .inl (Y 0, 12, .inl (fun _ => 0))) :: ((b 20), .inl (Y 0, 8, .inl (fun _ => 0))) :: ((b 21), .inl (Y 0, 8, .inl (fun _ => 0))) :: ((b 22), .inl (Y 2, 400, .inl (fun _ => 0))) :: ((b 1), .inl (Y 4, 4, .inr (.inr (.inr (.inr (fun _ => none)))))) :: ((b 5), .inr (3, (paF Z b))) :: ((b 24), .inr (8, (txF b))) :: ((a 0), .inl (Y 0, 7533, .inl tolF)) :: ((a 2), .inl (Y 2, 400, .inl (fun _ => 0))) :: ((a 3), .inl (Y 0, 3, .inl (fun _ => 0))) :: ((a 5), .inl (Y 0, 18, .inl (fun _ => 0))) :: ((a 7), .inl (Y 0, 18, .inl (fun _ => 0))) :: ((a 8), .inl (Y 0, 18, .inl (fun _ => 0))) :: ((a 9), .inl (Y 0, 18, .inl (fun _ => 0))) :: ((a 11), .inl (Y 0, 18, .inl (fun _ => 0))) :: ((a 13), .inl (Y 0, 18, .inl (fun _ => 0))) :: ((a 14), .inl (Y 0, 18, .inl (fun _ => 0))) :: ((a 26), .inl (Y 0, 30132, .inl (fun _ => 0))) :: ((a 27), .inl (Y 3, 4, .inl (fun _ => 0))) :: []) := hD
  refine lv_icmp_eq (tgt := 1885) hx hb dL_law_631 (by decide) (fun c7 => ?_) (fun c7 => ?_)
  rotate_left
  · exact absurd rfl c7
  exact lw_tail C0 hA2 (Nat.le_of_ble_eq_true rfl) (Nat.le_of_ble_eq_true rfl) hS (lv_sub hl [0, 3] rfl)
set_option maxHeartbeats 4000000 in
set_option maxRecDepth 100000 in
theorem lc_10 {p : Program} {l : Launch} {e : Env} {s : State} {m : MethodId} {below : List Frame} {meth : Method} {c : Code} {sb : Nat} {xs : Nat → Int32} (C0 : lw_At p s m meth c sb 7 xs) {D : va_G} {Y : Nat → ClassId} {Z : Nat → Nat} (hKN : KN D Y Z s) {A : Nat → Prop} (hA : ∀ q, s.heap.size ≤ q → A q) (hA2 : ∀ q, A q → s.heap.size ≤ q) {o o2 : Nat} {b a : Nat → Nat} {H : Heap} {locs : List Loc} {ls : Array Slot} (hP : va_P D vwCl (LW Y Z o o2 b a) H) (hD : va_D A (LW Y Z o o2 b a)) (hS : va_S A s.heap H locs) (hl : lv_has ls 4 [(3, .int 0), (2, .ref o2), (1, .ref o), (0, .ref sb)]) : W p l e room_1 s m #[Value.ref sb] below meth c H locs 70 52824 (lw_Z below #[Value.ref sb] s) (F0 m 636 ls []) := by
  obtain ⟨hx, hb, hr, hml, hown, hts, hX, hbl, hlocks, hgv⟩ := id C0
  have hb : c.code = cL_law := hb
  have hown : s.vm.findClass RL = some m.cls := hown
  have hg : ∀ w ∈ GW, w.before #[Value.ref sb] s = true := fun w h => hts w (gw_tbl h)
  have hbA : ¬ A sb := fun h => absurd (hA2 sb h) (Nat.not_le.mpr hbl)
  refine lv_aload_n hx hb dL_law_636 rfl (lv_at hl 2 rfl) ?_
  refine lv_aload_n hx hb dL_law_637 rfl (lv_at hl 3 rfl) ?_
  refine lv_iload_n hx hb dL_law_638 rfl (lv_at hl 0 rfl) ?_
  refine lv_iconst (v := 1) hx hb dL_law_639 (by decide) ?_
  refine lv_iadd hx hb dL_law_640 ?_
  refine lv_topi (fun z1 ez1 => ?_)
  obtain rfl : z1 = 1 := ez1.trans (by decide)
  refine va_sld hx hb hX hbl hbA hS (show ¬ ((1 : Int32) < 0 ∨ 7 ≤ (1 : Int32).toNatClampNeg) by decide) dL_law_641 ?_
  refine W.eq (g2 := F0 m 642 ls [.int (xs 1), .ref o]) rfl ?_
  refine cg (wc := [(o, .inr (10, (dsF b))), ((b 0), .inr (6, (skF b))), ((b 5), .inr (3, (paF Z b))), ((b 24), .inr (8, (txF b))), ((b 22), .inl (Y 2, 400, .inl (fun _ => 0)))]) (wr := (((b 16), .inl (Y 7, 12, .inr (.inr (.inr (.inr (fun _ => none)))))) :: ((b 17), .inl (Y 8, 40, .inr (.inr (.inr (.inr (fun _ => none)))))) :: ((b 18), .inl (Y 0, 12, .inl (fun _ => 0))) :: ((b 19), .inl (Y 0, 12, .inl (fun _ => 0))) :: ((b 20), .inl (Y 0, 8, .inl (fun _ => 0))) :: ((b 21), .inl (Y 0, 8, .inl (fun _ => 0))) :: ((b 1), .inl (Y 4, 4, .inr (.inr (.inr (.inr (fun _ => none)))))) :: (o2, .inr (11, (moF a))) :: ((a 0), .inl (Y 0, 7533, .inl tolF)) :: ((a 2), .inl (Y 2, 400, .inl (fun _ => 0))) :: ((a 3), .inl (Y 0, 3, .inl (fun _ => 0))) :: ((a 5), .inl (Y 0, 18, .inl (fun _ => 0))) :: ((a 7), .inl (Y 0, 18, .inl (fun _ => 0))) :: ((a 8), .inl (Y 0, 18, .inl (fun _ => 0))) :: ((a 9), .inl (Y 0, 18, .inl (fun _ => 0))) :: ((a 11), .inl (Y 0, 18, .inl (fun _ => 0))) :: ((a 13), .inl (Y 0, 18, .inl (fun _ => 0))) :: ((a 14), .inl (Y 0, 18, .inl (fun _ => 0))) :: ((a 26), .inl (Y 0, 30132, .inl (fun _ => 0))) :: ((a 27), .inl (Y 3, 4, .inl (fun _ => 0))) :: [])) [0, 1, 10, 11, 8] [2, 3, 4, 5, 6, 7, 9, 12, 13, 14, 15, 16, 17, 18, 19, 20, 21, 22, 23, 24] (rn_V (As := [.int (xs 1)]) (rest := []) (b := o) (x_text l D Y Z H.size o b (xs 1)) ⟨hx, hb, hml, hown, hg⟩ lk_L_59 ⟨CP.blind, va_recv hKN.1 hP (ci := 10) (q0 := 0) rfl rfl, CP.at (hP.sub [0, 1, 10, 11, 8] rfl) hKN (hD.sub [0, 1, 10, 11, 8] (by decide) rfl)⟩ ⟨⟨rfl, rfl⟩, ⟨Nat.le_of_ble_eq_true rfl, Nat.le_of_ble_eq_true rfl⟩, ⟨Nat.le_of_ble_eq_true rfl, Nat.le_of_ble_eq_true rfl⟩⟩ hl.1 rfl (Nat.le_of_ble_eq_true rfl) dL_law_642) hP hD hS hA rfl rfl (by decide) (by decide) (fun u2 H locs w3 hP hD hS => ?_)
  subst w3
  refine W.eq (g2 := F0 m 645 ls [.int (sp_text (xs 1))]) rfl ?_
  have hP : va_P D vwCl (((b 16), .inl (Y 7, 12, .inr (.inr (.inr (.inr (fun _ => none)))))) :: ((b 17), .inl (Y 8, 40, .inr (.inr (.inr (.inr (fun _ => none)))))) :: ((b 18), .inl (Y 0, 12, .inl (fun _ => 0))) :: ((b 19), .inl (Y 0, 12, .inl (fun _ => 0))) :: ((b 20), .inl (Y 0, 8, .inl (fun _ => 0))) :: ((b 21), .inl (Y 0, 8, .inl (fun _ => 0))) :: ((b 1), .inl (Y 4, 4, .inr (.inr (.inr (.inr (fun _ => none)))))) :: (o2, .inr (11, (moF a))) :: ((a 0), .inl (Y 0, 7533, .inl tolF)) :: ((a 2), .inl (Y 2, 400, .inl (fun _ => 0))) :: ((a 3), .inl (Y 0, 3, .inl (fun _ => 0))) :: ((a 5), .inl (Y 0, 18, .inl (fun _ => 0))) :: ((a 7), .inl (Y 0, 18, .inl (fun _ => 0))) :: ((a 8), .inl (Y 0, 18, .inl (fun _ => 0))) :: ((a 9), .inl (Y 0, 18, .inl (fun _ => 0))) :: ((a 11), .inl (Y 0, 18, .inl (fun _ => 0))) :: ((a 13), .inl (Y 0, 18, .inl (fun _ => 0))) :: ((a 14), .inl (Y 0, 18, .inl (fun _ => 0))) :: ((a 26), .inl (Y 0, 30132, .inl (fun _ => 0))) :: ((a 27), .inl (Y 3, 4, .inl (fun _ => 0))) :: []) H := hP
  have hD : va_D A (((b 16), .inl (Y 7, 12, .inr (.inr (.inr (.inr (fun _ => none)))))) :: ((b 17), .inl (Y 8, 40, .inr (.inr (.inr (.inr (fun _ => none)))))) :: ((b 18), .inl (Y 0, 12, .inl (fun _ => 0))) :: ((b 19), .inl (Y 0, 12, .inl (fun _ => 0))) :: ((b 20), .inl (Y 0, 8, .inl (fun _ => 0))) :: ((b 21), .inl (Y 0, 8, .inl (fun _ => 0))) :: ((b 1), .inl (Y 4, 4, .inr (.inr (.inr (.inr (fun _ => none)))))) :: (o2, .inr (11, (moF a))) :: ((a 0), .inl (Y 0, 7533, .inl tolF)) :: ((a 2), .inl (Y 2, 400, .inl (fun _ => 0))) :: ((a 3), .inl (Y 0, 3, .inl (fun _ => 0))) :: ((a 5), .inl (Y 0, 18, .inl (fun _ => 0))) :: ((a 7), .inl (Y 0, 18, .inl (fun _ => 0))) :: ((a 8), .inl (Y 0, 18, .inl (fun _ => 0))) :: ((a 9), .inl (Y 0, 18, .inl (fun _ => 0))) :: ((a 11), .inl (Y 0, 18, .inl (fun _ => 0))) :: ((a 13), .inl (Y 0, 18, .inl (fun _ => 0))) :: ((a 14), .inl (Y 0, 18, .inl (fun _ => 0))) :: ((a 26), .inl (Y 0, 30132, .inl (fun _ => 0))) :: ((a 27), .inl (Y 3, 4, .inl (fun _ => 0))) :: []) := hD
  refine lv_aload_n hx hb dL_law_645 rfl (lv_at hl 1 rfl) ?_
  refine lv_aload_n hx hb dL_law_646 rfl (lv_at hl 3 rfl) ?_
  refine lv_iload_n hx hb dL_law_647 rfl (lv_at hl 0 rfl) ?_
  refine lv_iconst (v := 1) hx hb dL_law_648 (by decide) ?_
  refine lv_iadd hx hb dL_law_649 ?_
  refine lv_topi (fun z4 ez4 => ?_)
  obtain rfl : z4 = 1 := ez4.trans (by decide)
  refine va_sld hx hb hX hbl hbA hS (show ¬ ((1 : Int32) < 0 ∨ 7 ≤ (1 : Int32).toNatClampNeg) by decide) dL_law_650 ?_
  refine W.eq (g2 := F0 m 651 ls [.int (xs 1), .ref o2, .int (sp_text (xs 1))]) rfl ?_
  refine cg (wc := [(o2, .inr (11, (moF a))), ((a 3), .inl (Y 0, 3, .inl (fun _ => 0))), ((a 5), .inl (Y 0, 18, .inl (fun _ => 0))), ((a 7), .inl (Y 0, 18, .inl (fun _ => 0))), ((a 8), .inl (Y 0, 18, .inl (fun _ => 0))), ((a 9), .inl (Y 0, 18, .inl (fun _ => 0))), ((a 11), .inl (Y 0, 18, .inl (fun _ => 0))), ((a 13), .inl (Y 0, 18, .inl (fun _ => 0))), ((a 14), .inl (Y 0, 18, .inl (fun _ => 0)))]) (wr := [((b 16), .inl (Y 7, 12, .inr (.inr (.inr (.inr (fun _ => none)))))), ((b 17), .inl (Y 8, 40, .inr (.inr (.inr (.inr (fun _ => none)))))), ((b 18), .inl (Y 0, 12, .inl (fun _ => 0))), ((b 19), .inl (Y 0, 12, .inl (fun _ => 0))), ((b 20), .inl (Y 0, 8, .inl (fun _ => 0))), ((b 21), .inl (Y 0, 8, .inl (fun _ => 0))), ((b 1), .inl (Y 4, 4, .inr (.inr (.inr (.inr (fun _ => none)))))), ((a 0), .inl (Y 0, 7533, .inl tolF)), ((a 2), .inl (Y 2, 400, .inl (fun _ => 0))), ((a 26), .inl (Y 0, 30132, .inl (fun _ => 0))), ((a 27), .inl (Y 3, 4, .inl (fun _ => 0)))]) [7, 10, 11, 12, 13, 14, 15, 16, 17] [0, 1, 2, 3, 4, 5, 6, 8, 9, 18, 19] (rn_V (As := [.int (xs 1)]) (rest := [.int (sp_text (xs 1))]) (b := o2) (y_text l D Y Z H.size o2 a (xs 1)) ⟨hx, hb, hml, hown, hg⟩ lk_L_62 ⟨CP.blind, va_recv hKN.1 hP (ci := 11) (q0 := 7) rfl rfl, CP.at (hP.sub [7, 10, 11, 12, 13, 14, 15, 16, 17] rfl) hKN (hD.sub [7, 10, 11, 12, 13, 14, 15, 16, 17] (by decide) rfl)⟩ ⟨⟨rfl, rfl⟩, ⟨Nat.le_of_ble_eq_true rfl, Nat.le_of_ble_eq_true rfl⟩, ⟨Nat.le_of_ble_eq_true rfl, Nat.le_of_ble_eq_true rfl⟩⟩ hl.1 rfl (Nat.le_of_ble_eq_true rfl) dL_law_651) hP hD hS hA rfl rfl (by decide) (by decide) (fun u5 H locs w6 hP hD hS => ?_)
  subst w6
  refine W.eq (g2 := F0 m 654 ls [.int (sp_text (xs 1)), .int (sp_text (xs 1))]) rfl ?_
  have hP : va_P D vwCl [((b 16), .inl (Y 7, 12, .inr (.inr (.inr (.inr (fun _ => none)))))), ((b 17), .inl (Y 8, 40, .inr (.inr (.inr (.inr (fun _ => none)))))), ((b 18), .inl (Y 0, 12, .inl (fun _ => 0))), ((b 19), .inl (Y 0, 12, .inl (fun _ => 0))), ((b 20), .inl (Y 0, 8, .inl (fun _ => 0))), ((b 21), .inl (Y 0, 8, .inl (fun _ => 0))), ((b 1), .inl (Y 4, 4, .inr (.inr (.inr (.inr (fun _ => none)))))), ((a 0), .inl (Y 0, 7533, .inl tolF)), ((a 2), .inl (Y 2, 400, .inl (fun _ => 0))), ((a 26), .inl (Y 0, 30132, .inl (fun _ => 0))), ((a 27), .inl (Y 3, 4, .inl (fun _ => 0)))] H := hP
  have hD : va_D A [((b 16), .inl (Y 7, 12, .inr (.inr (.inr (.inr (fun _ => none)))))), ((b 17), .inl (Y 8, 40, .inr (.inr (.inr (.inr (fun _ => none)))))), ((b 18), .inl (Y 0, 12, .inl (fun _ => 0))), ((b 19), .inl (Y 0, 12, .inl (fun _ => 0))), ((b 20), .inl (Y 0, 8, .inl (fun _ => 0))), ((b 21), .inl (Y 0, 8, .inl (fun _ => 0))), ((b 1), .inl (Y 4, 4, .inr (.inr (.inr (.inr (fun _ => none)))))), ((a 0), .inl (Y 0, 7533, .inl tolF)), ((a 2), .inl (Y 2, 400, .inl (fun _ => 0))), ((a 26), .inl (Y 0, 30132, .inl (fun _ => 0))), ((a 27), .inl (Y 3, 4, .inl (fun _ => 0)))] := hD
  refine lv_icmp_eq (tgt := 1885) hx hb dL_law_654 (by decide) (fun c7 => ?_) (fun c7 => ?_)
  rotate_left
  · exact absurd rfl c7
  exact lw_tail C0 hA2 (Nat.le_of_ble_eq_true rfl) (Nat.le_of_ble_eq_true rfl) hS (lv_sub hl [0, 3] rfl)
set_option maxHeartbeats 4000000 in
set_option maxRecDepth 100000 in
theorem lc_11 {p : Program} {l : Launch} {e : Env} {s : State} {m : MethodId} {below : List Frame} {meth : Method} {c : Code} {sb : Nat} {xs : Nat → Int32} (C0 : lw_At p s m meth c sb 7 xs) {D : va_G} {Y : Nat → ClassId} {Z : Nat → Nat} (hKN : KN D Y Z s) {A : Nat → Prop} (hA : ∀ q, s.heap.size ≤ q → A q) (hA2 : ∀ q, A q → s.heap.size ≤ q) {o o2 : Nat} {b a : Nat → Nat} {H : Heap} {locs : List Loc} {ls : Array Slot} (hP : va_P D vwCl (LW Y Z o o2 b a) H) (hD : va_D A (LW Y Z o o2 b a)) (hS : va_S A s.heap H locs) (hl : lv_has ls 4 [(3, .int 0), (2, .ref o2), (1, .ref o), (0, .ref sb)]) : W p l e room_1 s m #[Value.ref sb] below meth c H locs 70 52824 (lw_Z below #[Value.ref sb] s) (F0 m 659 ls []) := by
  obtain ⟨hx, hb, hr, hml, hown, hts, hX, hbl, hlocks, hgv⟩ := id C0
  have hb : c.code = cL_law := hb
  have hown : s.vm.findClass RL = some m.cls := hown
  have hg : ∀ w ∈ GW, w.before #[Value.ref sb] s = true := fun w h => hts w (gw_tbl h)
  have hbA : ¬ A sb := fun h => absurd (hA2 sb h) (Nat.not_le.mpr hbl)
  refine lv_aload_n hx hb dL_law_659 rfl (lv_at hl 2 rfl) ?_
  refine lv_aload_n hx hb dL_law_660 rfl (lv_at hl 3 rfl) ?_
  refine lv_iload_n hx hb dL_law_661 rfl (lv_at hl 0 rfl) ?_
  refine lv_iconst (v := 1) hx hb dL_law_662 (by decide) ?_
  refine lv_iadd hx hb dL_law_663 ?_
  refine lv_topi (fun z1 ez1 => ?_)
  obtain rfl : z1 = 1 := ez1.trans (by decide)
  refine va_sld hx hb hX hbl hbA hS (show ¬ ((1 : Int32) < 0 ∨ 7 ≤ (1 : Int32).toNatClampNeg) by decide) dL_law_664 ?_
  refine W.eq (g2 := F0 m 665 ls [.int (xs 1), .ref o]) rfl ?_
  refine lv_aload_n hx hb dL_law_665 rfl (lv_at hl 3 rfl) ?_
  refine lv_iload_n hx hb dL_law_666 rfl (lv_at hl 0 rfl) ?_
  refine lv_iconst (v := 2) hx hb dL_law_667 (by decide) ?_
  refine lv_iadd hx hb dL_law_668 ?_
  refine lv_topi (fun z2 ez2 => ?_)
  obtain rfl : z2 = 2 := ez2.trans (by decide)
  refine va_sld hx hb hX hbl hbA hS (show ¬ ((2 : Int32) < 0 ∨ 7 ≤ (2 : Int32).toNatClampNeg) by decide) dL_law_669 ?_
  refine W.eq (g2 := F0 m 670 ls [.int (xs 2), .int (xs 1), .ref o]) rfl ?_
  refine lv_aload_n hx hb dL_law_670 rfl (lv_at hl 3 rfl) ?_
  refine lv_iload_n hx hb dL_law_671 rfl (lv_at hl 0 rfl) ?_
  refine lv_iconst (v := 3) hx hb dL_law_672 (by decide) ?_
  refine lv_iadd hx hb dL_law_673 ?_
  refine lv_topi (fun z3 ez3 => ?_)
  obtain rfl : z3 = 3 := ez3.trans (by decide)
  refine va_sld hx hb hX hbl hbA hS (show ¬ ((3 : Int32) < 0 ∨ 7 ≤ (3 : Int32).toNatClampNeg) by decide) dL_law_674 ?_
  refine W.eq (g2 := F0 m 675 ls [.int (xs 3), .int (xs 2), .int (xs 1), .ref o]) rfl ?_
  refine lv_aload_n hx hb dL_law_675 rfl (lv_at hl 3 rfl) ?_
  refine lv_iload_n hx hb dL_law_676 rfl (lv_at hl 0 rfl) ?_
  refine lv_iconst (v := 4) hx hb dL_law_677 (by decide) ?_
  refine lv_iadd hx hb dL_law_678 ?_
  refine lv_topi (fun z4 ez4 => ?_)
  obtain rfl : z4 = 4 := ez4.trans (by decide)
  refine va_sld hx hb hX hbl hbA hS (show ¬ ((4 : Int32) < 0 ∨ 7 ≤ (4 : Int32).toNatClampNeg) by decide) dL_law_679 ?_
  refine W.eq (g2 := F0 m 680 ls [.int (xs 4), .int (xs 3), .int (xs 2), .int (xs 1), .ref o]) rfl ?_
  refine lv_aload_n hx hb dL_law_680 rfl (lv_at hl 3 rfl) ?_
  refine lv_iload_n hx hb dL_law_681 rfl (lv_at hl 0 rfl) ?_
  refine lv_iconst (v := 5) hx hb dL_law_682 (by decide) ?_
  refine lv_iadd hx hb dL_law_683 ?_
  refine lv_topi (fun z5 ez5 => ?_)
  obtain rfl : z5 = 5 := ez5.trans (by decide)
  refine va_sld hx hb hX hbl hbA hS (show ¬ ((5 : Int32) < 0 ∨ 7 ≤ (5 : Int32).toNatClampNeg) by decide) dL_law_684 ?_
  refine W.eq (g2 := F0 m 685 ls [.int (xs 5), .int (xs 4), .int (xs 3), .int (xs 2), .int (xs 1), .ref o]) rfl ?_
  refine cg (wc := [(o, .inr (10, (dsF b))), ((b 0), .inr (6, (skF b)))]) (wr := (((b 16), .inl (Y 7, 12, .inr (.inr (.inr (.inr (fun _ => none)))))) :: ((b 17), .inl (Y 8, 40, .inr (.inr (.inr (.inr (fun _ => none)))))) :: ((b 18), .inl (Y 0, 12, .inl (fun _ => 0))) :: ((b 19), .inl (Y 0, 12, .inl (fun _ => 0))) :: ((b 20), .inl (Y 0, 8, .inl (fun _ => 0))) :: ((b 21), .inl (Y 0, 8, .inl (fun _ => 0))) :: ((b 22), .inl (Y 2, 400, .inl (fun _ => 0))) :: ((b 1), .inl (Y 4, 4, .inr (.inr (.inr (.inr (fun _ => none)))))) :: ((b 5), .inr (3, (paF Z b))) :: ((b 24), .inr (8, (txF b))) :: (o2, .inr (11, (moF a))) :: ((a 0), .inl (Y 0, 7533, .inl tolF)) :: ((a 2), .inl (Y 2, 400, .inl (fun _ => 0))) :: ((a 3), .inl (Y 0, 3, .inl (fun _ => 0))) :: ((a 5), .inl (Y 0, 18, .inl (fun _ => 0))) :: ((a 7), .inl (Y 0, 18, .inl (fun _ => 0))) :: ((a 8), .inl (Y 0, 18, .inl (fun _ => 0))) :: ((a 9), .inl (Y 0, 18, .inl (fun _ => 0))) :: ((a 11), .inl (Y 0, 18, .inl (fun _ => 0))) :: ((a 13), .inl (Y 0, 18, .inl (fun _ => 0))) :: ((a 14), .inl (Y 0, 18, .inl (fun _ => 0))) :: ((a 26), .inl (Y 0, 30132, .inl (fun _ => 0))) :: ((a 27), .inl (Y 3, 4, .inl (fun _ => 0))) :: [])) [0, 1] [2, 3, 4, 5, 6, 7, 8, 9, 10, 11, 12, 13, 14, 15, 16, 17, 18, 19, 20, 21, 22, 23, 24] (rn_V (As := [.int (xs 1), .int (xs 2), .int (xs 3), .int (xs 4), .int (xs 5)]) (rest := []) (b := o) (x_make l D Y Z H.size o b (xs 1) (xs 2) (xs 3) (xs 4) (xs 5)) ⟨hx, hb, hml, hown, hg⟩ lk_L_63 ⟨CP.blind, va_recv hKN.1 hP (ci := 10) (q0 := 0) rfl rfl, CP.at (hP.sub [0, 1] rfl) hKN (hD.sub [0, 1] (by decide) rfl)⟩ ⟨⟨rfl, rfl⟩, ⟨Nat.le_of_ble_eq_true rfl, Nat.le_of_ble_eq_true rfl⟩, ⟨Nat.le_of_ble_eq_true rfl, Nat.le_of_ble_eq_true rfl⟩⟩ hl.1 rfl (Nat.le_of_ble_eq_true rfl) dL_law_685) hP hD hS hA rfl rfl (by decide) (by decide) (fun u6 H locs w7 hP hD hS => ?_)
  refine W.eq (g2 := F0 m 688 ls [.int (-1)]) rfl ?_
  have hP : va_P D vwCl (((b 16), .inl (Y 7, 12, .inr (.inr (.inr (.inr (fun _ => none)))))) :: ((b 17), .inl (Y 8, 40, .inr (.inr (.inr (.inr (fun _ => none)))))) :: ((b 18), .inl (Y 0, 12, .inl (fun _ => 0))) :: ((b 19), .inl (Y 0, 12, .inl (fun _ => 0))) :: ((b 20), .inl (Y 0, 8, .inl (fun _ => 0))) :: ((b 21), .inl (Y 0, 8, .inl (fun _ => 0))) :: ((b 22), .inl (Y 2, 400, .inl (fun _ => 0))) :: ((b 1), .inl (Y 4, 4, .inr (.inr (.inr (.inr (fun _ => none)))))) :: ((b 5), .inr (3, (paF Z b))) :: ((b 24), .inr (8, (txF b))) :: (o2, .inr (11, (moF a))) :: ((a 0), .inl (Y 0, 7533, .inl tolF)) :: ((a 2), .inl (Y 2, 400, .inl (fun _ => 0))) :: ((a 3), .inl (Y 0, 3, .inl (fun _ => 0))) :: ((a 5), .inl (Y 0, 18, .inl (fun _ => 0))) :: ((a 7), .inl (Y 0, 18, .inl (fun _ => 0))) :: ((a 8), .inl (Y 0, 18, .inl (fun _ => 0))) :: ((a 9), .inl (Y 0, 18, .inl (fun _ => 0))) :: ((a 11), .inl (Y 0, 18, .inl (fun _ => 0))) :: ((a 13), .inl (Y 0, 18, .inl (fun _ => 0))) :: ((a 14), .inl (Y 0, 18, .inl (fun _ => 0))) :: ((a 26), .inl (Y 0, 30132, .inl (fun _ => 0))) :: ((a 27), .inl (Y 3, 4, .inl (fun _ => 0))) :: []) H := hP
  have hD : va_D A (((b 16), .inl (Y 7, 12, .inr (.inr (.inr (.inr (fun _ => none)))))) :: ((b 17), .inl (Y 8, 40, .inr (.inr (.inr (.inr (fun _ => none)))))) :: ((b 18), .inl (Y 0, 12, .inl (fun _ => 0))) :: ((b 19), .inl (Y 0, 12, .inl (fun _ => 0))) :: ((b 20), .inl (Y 0, 8, .inl (fun _ => 0))) :: ((b 21), .inl (Y 0, 8, .inl (fun _ => 0))) :: ((b 22), .inl (Y 2, 400, .inl (fun _ => 0))) :: ((b 1), .inl (Y 4, 4, .inr (.inr (.inr (.inr (fun _ => none)))))) :: ((b 5), .inr (3, (paF Z b))) :: ((b 24), .inr (8, (txF b))) :: (o2, .inr (11, (moF a))) :: ((a 0), .inl (Y 0, 7533, .inl tolF)) :: ((a 2), .inl (Y 2, 400, .inl (fun _ => 0))) :: ((a 3), .inl (Y 0, 3, .inl (fun _ => 0))) :: ((a 5), .inl (Y 0, 18, .inl (fun _ => 0))) :: ((a 7), .inl (Y 0, 18, .inl (fun _ => 0))) :: ((a 8), .inl (Y 0, 18, .inl (fun _ => 0))) :: ((a 9), .inl (Y 0, 18, .inl (fun _ => 0))) :: ((a 11), .inl (Y 0, 18, .inl (fun _ => 0))) :: ((a 13), .inl (Y 0, 18, .inl (fun _ => 0))) :: ((a 14), .inl (Y 0, 18, .inl (fun _ => 0))) :: ((a 26), .inl (Y 0, 30132, .inl (fun _ => 0))) :: ((a 27), .inl (Y 3, 4, .inl (fun _ => 0))) :: []) := hD
  refine lv_aload_n hx hb dL_law_688 rfl (lv_at hl 1 rfl) ?_
  refine lv_aload_n hx hb dL_law_689 rfl (lv_at hl 3 rfl) ?_
  refine lv_iload_n hx hb dL_law_690 rfl (lv_at hl 0 rfl) ?_
  refine lv_iconst (v := 1) hx hb dL_law_691 (by decide) ?_
  refine lv_iadd hx hb dL_law_692 ?_
  refine lv_topi (fun z8 ez8 => ?_)
  obtain rfl : z8 = 1 := ez8.trans (by decide)
  refine va_sld hx hb hX hbl hbA hS (show ¬ ((1 : Int32) < 0 ∨ 7 ≤ (1 : Int32).toNatClampNeg) by decide) dL_law_693 ?_
  refine W.eq (g2 := F0 m 694 ls [.int (xs 1), .ref o2, .int (-1)]) rfl ?_
  refine lv_aload_n hx hb dL_law_694 rfl (lv_at hl 3 rfl) ?_
  refine lv_iload_n hx hb dL_law_695 rfl (lv_at hl 0 rfl) ?_
  refine lv_iconst (v := 2) hx hb dL_law_696 (by decide) ?_
  refine lv_iadd hx hb dL_law_697 ?_
  refine lv_topi (fun z9 ez9 => ?_)
  obtain rfl : z9 = 2 := ez9.trans (by decide)
  refine va_sld hx hb hX hbl hbA hS (show ¬ ((2 : Int32) < 0 ∨ 7 ≤ (2 : Int32).toNatClampNeg) by decide) dL_law_698 ?_
  refine W.eq (g2 := F0 m 699 ls [.int (xs 2), .int (xs 1), .ref o2, .int (-1)]) rfl ?_
  refine lv_aload_n hx hb dL_law_699 rfl (lv_at hl 3 rfl) ?_
  refine lv_iload_n hx hb dL_law_700 rfl (lv_at hl 0 rfl) ?_
  refine lv_iconst (v := 3) hx hb dL_law_701 (by decide) ?_
  refine lv_iadd hx hb dL_law_702 ?_
  refine lv_topi (fun z10 ez10 => ?_)
  obtain rfl : z10 = 3 := ez10.trans (by decide)
  refine va_sld hx hb hX hbl hbA hS (show ¬ ((3 : Int32) < 0 ∨ 7 ≤ (3 : Int32).toNatClampNeg) by decide) dL_law_703 ?_
  refine W.eq (g2 := F0 m 704 ls [.int (xs 3), .int (xs 2), .int (xs 1), .ref o2, .int (-1)]) rfl ?_
  refine lv_aload_n hx hb dL_law_704 rfl (lv_at hl 3 rfl) ?_
  refine lv_iload_n hx hb dL_law_705 rfl (lv_at hl 0 rfl) ?_
  refine lv_iconst (v := 4) hx hb dL_law_706 (by decide) ?_
  refine lv_iadd hx hb dL_law_707 ?_
  refine lv_topi (fun z11 ez11 => ?_)
  obtain rfl : z11 = 4 := ez11.trans (by decide)
  refine va_sld hx hb hX hbl hbA hS (show ¬ ((4 : Int32) < 0 ∨ 7 ≤ (4 : Int32).toNatClampNeg) by decide) dL_law_708 ?_
  refine W.eq (g2 := F0 m 709 ls [.int (xs 4), .int (xs 3), .int (xs 2), .int (xs 1), .ref o2, .int (-1)]) rfl ?_
  refine lv_aload_n hx hb dL_law_709 rfl (lv_at hl 3 rfl) ?_
  refine lv_iload_n hx hb dL_law_710 rfl (lv_at hl 0 rfl) ?_
  refine lv_iconst (v := 5) hx hb dL_law_711 (by decide) ?_
  refine lv_iadd hx hb dL_law_712 ?_
  refine lv_topi (fun z12 ez12 => ?_)
  obtain rfl : z12 = 5 := ez12.trans (by decide)
  refine va_sld hx hb hX hbl hbA hS (show ¬ ((5 : Int32) < 0 ∨ 7 ≤ (5 : Int32).toNatClampNeg) by decide) dL_law_713 ?_
  refine W.eq (g2 := F0 m 714 ls [.int (xs 5), .int (xs 4), .int (xs 3), .int (xs 2), .int (xs 1), .ref o2, .int (-1)]) rfl ?_
  refine cg (wc := [(o2, .inr (11, (moF a))), ((a 3), .inl (Y 0, 3, .inl (fun _ => 0)))]) (wr := (((b 16), .inl (Y 7, 12, .inr (.inr (.inr (.inr (fun _ => none)))))) :: ((b 17), .inl (Y 8, 40, .inr (.inr (.inr (.inr (fun _ => none)))))) :: ((b 18), .inl (Y 0, 12, .inl (fun _ => 0))) :: ((b 19), .inl (Y 0, 12, .inl (fun _ => 0))) :: ((b 20), .inl (Y 0, 8, .inl (fun _ => 0))) :: ((b 21), .inl (Y 0, 8, .inl (fun _ => 0))) :: ((b 22), .inl (Y 2, 400, .inl (fun _ => 0))) :: ((b 1), .inl (Y 4, 4, .inr (.inr (.inr (.inr (fun _ => none)))))) :: ((b 5), .inr (3, (paF Z b))) :: ((b 24), .inr (8, (txF b))) :: ((a 0), .inl (Y 0, 7533, .inl tolF)) :: ((a 2), .inl (Y 2, 400, .inl (fun _ => 0))) :: ((a 5), .inl (Y 0, 18, .inl (fun _ => 0))) :: ((a 7), .inl (Y 0, 18, .inl (fun _ => 0))) :: ((a 8), .inl (Y 0, 18, .inl (fun _ => 0))) :: ((a 9), .inl (Y 0, 18, .inl (fun _ => 0))) :: ((a 11), .inl (Y 0, 18, .inl (fun _ => 0))) :: ((a 13), .inl (Y 0, 18, .inl (fun _ => 0))) :: ((a 14), .inl (Y 0, 18, .inl (fun _ => 0))) :: ((a 26), .inl (Y 0, 30132, .inl (fun _ => 0))) :: ((a 27), .inl (Y 3, 4, .inl (fun _ => 0))) :: [])) [10, 13] [0, 1, 2, 3, 4, 5, 6, 7, 8, 9, 11, 12, 14, 15, 16, 17, 18, 19, 20, 21, 22] (rn_V (As := [.int (xs 1), .int (xs 2), .int (xs 3), .int (xs 4), .int (xs 5)]) (rest := [.int (-1)]) (b := o2) (y_make l D Y Z H.size o2 a (xs 1) (xs 2) (xs 3) (xs 4) (xs 5)) ⟨hx, hb, hml, hown, hg⟩ lk_L_66 ⟨CP.blind, va_recv hKN.1 hP (ci := 11) (q0 := 10) rfl rfl, CP.at (hP.sub [10, 13] rfl) hKN (hD.sub [10, 13] (by decide) rfl)⟩ ⟨⟨rfl, rfl⟩, ⟨Nat.le_of_ble_eq_true rfl, Nat.le_of_ble_eq_true rfl⟩, ⟨Nat.le_of_ble_eq_true rfl, Nat.le_of_ble_eq_true rfl⟩⟩ hl.1 rfl (Nat.le_of_ble_eq_true rfl) dL_law_714) hP hD hS hA rfl rfl (by decide) (by decide) (fun u13 H locs w14 hP hD hS => ?_)
  refine W.eq (g2 := F0 m 717 ls [.int (-1), .int (-1)]) rfl ?_
  have hP : va_P D vwCl (((b 16), .inl (Y 7, 12, .inr (.inr (.inr (.inr (fun _ => none)))))) :: ((b 17), .inl (Y 8, 40, .inr (.inr (.inr (.inr (fun _ => none)))))) :: ((b 18), .inl (Y 0, 12, .inl (fun _ => 0))) :: ((b 19), .inl (Y 0, 12, .inl (fun _ => 0))) :: ((b 20), .inl (Y 0, 8, .inl (fun _ => 0))) :: ((b 21), .inl (Y 0, 8, .inl (fun _ => 0))) :: ((b 22), .inl (Y 2, 400, .inl (fun _ => 0))) :: ((b 1), .inl (Y 4, 4, .inr (.inr (.inr (.inr (fun _ => none)))))) :: ((b 5), .inr (3, (paF Z b))) :: ((b 24), .inr (8, (txF b))) :: ((a 0), .inl (Y 0, 7533, .inl tolF)) :: ((a 2), .inl (Y 2, 400, .inl (fun _ => 0))) :: ((a 5), .inl (Y 0, 18, .inl (fun _ => 0))) :: ((a 7), .inl (Y 0, 18, .inl (fun _ => 0))) :: ((a 8), .inl (Y 0, 18, .inl (fun _ => 0))) :: ((a 9), .inl (Y 0, 18, .inl (fun _ => 0))) :: ((a 11), .inl (Y 0, 18, .inl (fun _ => 0))) :: ((a 13), .inl (Y 0, 18, .inl (fun _ => 0))) :: ((a 14), .inl (Y 0, 18, .inl (fun _ => 0))) :: ((a 26), .inl (Y 0, 30132, .inl (fun _ => 0))) :: ((a 27), .inl (Y 3, 4, .inl (fun _ => 0))) :: []) H := hP
  have hD : va_D A (((b 16), .inl (Y 7, 12, .inr (.inr (.inr (.inr (fun _ => none)))))) :: ((b 17), .inl (Y 8, 40, .inr (.inr (.inr (.inr (fun _ => none)))))) :: ((b 18), .inl (Y 0, 12, .inl (fun _ => 0))) :: ((b 19), .inl (Y 0, 12, .inl (fun _ => 0))) :: ((b 20), .inl (Y 0, 8, .inl (fun _ => 0))) :: ((b 21), .inl (Y 0, 8, .inl (fun _ => 0))) :: ((b 22), .inl (Y 2, 400, .inl (fun _ => 0))) :: ((b 1), .inl (Y 4, 4, .inr (.inr (.inr (.inr (fun _ => none)))))) :: ((b 5), .inr (3, (paF Z b))) :: ((b 24), .inr (8, (txF b))) :: ((a 0), .inl (Y 0, 7533, .inl tolF)) :: ((a 2), .inl (Y 2, 400, .inl (fun _ => 0))) :: ((a 5), .inl (Y 0, 18, .inl (fun _ => 0))) :: ((a 7), .inl (Y 0, 18, .inl (fun _ => 0))) :: ((a 8), .inl (Y 0, 18, .inl (fun _ => 0))) :: ((a 9), .inl (Y 0, 18, .inl (fun _ => 0))) :: ((a 11), .inl (Y 0, 18, .inl (fun _ => 0))) :: ((a 13), .inl (Y 0, 18, .inl (fun _ => 0))) :: ((a 14), .inl (Y 0, 18, .inl (fun _ => 0))) :: ((a 26), .inl (Y 0, 30132, .inl (fun _ => 0))) :: ((a 27), .inl (Y 3, 4, .inl (fun _ => 0))) :: []) := hD
  refine lv_icmp_eq (tgt := 1885) hx hb dL_law_717 (by decide) (fun c15 => ?_) (fun c15 => ?_)
  rotate_left
  · exact absurd c15 (by decide)
  exact lw_tail C0 hA2 (Nat.le_of_ble_eq_true rfl) (Nat.le_of_ble_eq_true rfl) hS (lv_sub hl [0, 3] rfl)
set_option maxHeartbeats 4000000 in
set_option maxRecDepth 100000 in
theorem lc_12 {p : Program} {l : Launch} {e : Env} {s : State} {m : MethodId} {below : List Frame} {meth : Method} {c : Code} {sb : Nat} {xs : Nat → Int32} (C0 : lw_At p s m meth c sb 7 xs) {D : va_G} {Y : Nat → ClassId} {Z : Nat → Nat} (hKN : KN D Y Z s) {A : Nat → Prop} (hA : ∀ q, s.heap.size ≤ q → A q) (hA2 : ∀ q, A q → s.heap.size ≤ q) {o o2 : Nat} {b a : Nat → Nat} {H : Heap} {locs : List Loc} {ls : Array Slot} (hP : va_P D vwCl (LW Y Z o o2 b a) H) (hD : va_D A (LW Y Z o o2 b a)) (hS : va_S A s.heap H locs) (hl : lv_has ls 4 [(3, .int 0), (2, .ref o2), (1, .ref o), (0, .ref sb)]) : W p l e room_1 s m #[Value.ref sb] below meth c H locs 70 52824 (lw_Z below #[Value.ref sb] s) (F0 m 722 ls []) := by
  obtain ⟨hx, hb, hr, hml, hown, hts, hX, hbl, hlocks, hgv⟩ := id C0
  have hb : c.code = cL_law := hb
  have hown : s.vm.findClass RL = some m.cls := hown
  have hg : ∀ w ∈ GW, w.before #[Value.ref sb] s = true := fun w h => hts w (gw_tbl h)
  have hbA : ¬ A sb := fun h => absurd (hA2 sb h) (Nat.not_le.mpr hbl)
  refine lv_aload_n hx hb dL_law_722 rfl (lv_at hl 2 rfl) ?_
  refine lv_aload_n hx hb dL_law_723 rfl (lv_at hl 3 rfl) ?_
  refine lv_iload_n hx hb dL_law_724 rfl (lv_at hl 0 rfl) ?_
  refine lv_iconst (v := 1) hx hb dL_law_725 (by decide) ?_
  refine lv_iadd hx hb dL_law_726 ?_
  refine lv_topi (fun z1 ez1 => ?_)
  obtain rfl : z1 = 1 := ez1.trans (by decide)
  refine va_sld hx hb hX hbl hbA hS (show ¬ ((1 : Int32) < 0 ∨ 7 ≤ (1 : Int32).toNatClampNeg) by decide) dL_law_727 ?_
  refine W.eq (g2 := F0 m 728 ls [.int (xs 1), .ref o]) rfl ?_
  refine lv_aload_n hx hb dL_law_728 rfl (lv_at hl 3 rfl) ?_
  refine lv_iload_n hx hb dL_law_729 rfl (lv_at hl 0 rfl) ?_
  refine lv_iconst (v := 2) hx hb dL_law_730 (by decide) ?_
  refine lv_iadd hx hb dL_law_731 ?_
  refine lv_topi (fun z2 ez2 => ?_)
  obtain rfl : z2 = 2 := ez2.trans (by decide)
  refine va_sld hx hb hX hbl hbA hS (show ¬ ((2 : Int32) < 0 ∨ 7 ≤ (2 : Int32).toNatClampNeg) by decide) dL_law_732 ?_
  refine W.eq (g2 := F0 m 733 ls [.int (xs 2), .int (xs 1), .ref o]) rfl ?_
  refine lv_aload_n hx hb dL_law_733 rfl (lv_at hl 3 rfl) ?_
  refine lv_iload_n hx hb dL_law_734 rfl (lv_at hl 0 rfl) ?_
  refine lv_iconst (v := 3) hx hb dL_law_735 (by decide) ?_
  refine lv_iadd hx hb dL_law_736 ?_
  refine lv_topi (fun z3 ez3 => ?_)
  obtain rfl : z3 = 3 := ez3.trans (by decide)
  refine va_sld hx hb hX hbl hbA hS (show ¬ ((3 : Int32) < 0 ∨ 7 ≤ (3 : Int32).toNatClampNeg) by decide) dL_law_737 ?_
  refine W.eq (g2 := F0 m 738 ls [.int (xs 3), .int (xs 2), .int (xs 1), .ref o]) rfl ?_
  refine lv_aload_n hx hb dL_law_738 rfl (lv_at hl 3 rfl) ?_
  refine lv_iload_n hx hb dL_law_739 rfl (lv_at hl 0 rfl) ?_
  refine lv_iconst (v := 4) hx hb dL_law_740 (by decide) ?_
  refine lv_iadd hx hb dL_law_741 ?_
  refine lv_topi (fun z4 ez4 => ?_)
  obtain rfl : z4 = 4 := ez4.trans (by decide)
  refine va_sld hx hb hX hbl hbA hS (show ¬ ((4 : Int32) < 0 ∨ 7 ≤ (4 : Int32).toNatClampNeg) by decide) dL_law_742 ?_
  refine W.eq (g2 := F0 m 743 ls [.int (xs 4), .int (xs 3), .int (xs 2), .int (xs 1), .ref o]) rfl ?_
  refine lv_aload_n hx hb dL_law_743 rfl (lv_at hl 3 rfl) ?_
  refine lv_iload_n hx hb dL_law_744 rfl (lv_at hl 0 rfl) ?_
  refine lv_iconst (v := 5) hx hb dL_law_745 (by decide) ?_
  refine lv_iadd hx hb dL_law_746 ?_
  refine lv_topi (fun z5 ez5 => ?_)
  obtain rfl : z5 = 5 := ez5.trans (by decide)
  refine va_sld hx hb hX hbl hbA hS (show ¬ ((5 : Int32) < 0 ∨ 7 ≤ (5 : Int32).toNatClampNeg) by decide) dL_law_747 ?_
  refine W.eq (g2 := F0 m 748 ls [.int (xs 5), .int (xs 4), .int (xs 3), .int (xs 2), .int (xs 1), .ref o]) rfl ?_
  refine lv_aload_n hx hb dL_law_748 rfl (lv_at hl 3 rfl) ?_
  refine lv_iload_n hx hb dL_law_749 rfl (lv_at hl 0 rfl) ?_
  refine lv_bipush (v := 6) hx hb dL_law_750 (by decide) ?_
  refine lv_iadd hx hb dL_law_752 ?_
  refine lv_topi (fun z6 ez6 => ?_)
  obtain rfl : z6 = 6 := ez6.trans (by decide)
  refine va_sld hx hb hX hbl hbA hS (show ¬ ((6 : Int32) < 0 ∨ 7 ≤ (6 : Int32).toNatClampNeg) by decide) dL_law_753 ?_
  refine W.eq (g2 := F0 m 754 ls [.int (xs 6), .int (xs 5), .int (xs 4), .int (xs 3), .int (xs 2), .int (xs 1), .ref o]) rfl ?_
  refine cg (wc := [(o, .inr (10, (dsF b))), ((b 0), .inr (6, (skF b)))]) (wr := (((b 16), .inl (Y 7, 12, .inr (.inr (.inr (.inr (fun _ => none)))))) :: ((b 17), .inl (Y 8, 40, .inr (.inr (.inr (.inr (fun _ => none)))))) :: ((b 18), .inl (Y 0, 12, .inl (fun _ => 0))) :: ((b 19), .inl (Y 0, 12, .inl (fun _ => 0))) :: ((b 20), .inl (Y 0, 8, .inl (fun _ => 0))) :: ((b 21), .inl (Y 0, 8, .inl (fun _ => 0))) :: ((b 22), .inl (Y 2, 400, .inl (fun _ => 0))) :: ((b 1), .inl (Y 4, 4, .inr (.inr (.inr (.inr (fun _ => none)))))) :: ((b 5), .inr (3, (paF Z b))) :: ((b 24), .inr (8, (txF b))) :: (o2, .inr (11, (moF a))) :: ((a 0), .inl (Y 0, 7533, .inl tolF)) :: ((a 2), .inl (Y 2, 400, .inl (fun _ => 0))) :: ((a 3), .inl (Y 0, 3, .inl (fun _ => 0))) :: ((a 5), .inl (Y 0, 18, .inl (fun _ => 0))) :: ((a 7), .inl (Y 0, 18, .inl (fun _ => 0))) :: ((a 8), .inl (Y 0, 18, .inl (fun _ => 0))) :: ((a 9), .inl (Y 0, 18, .inl (fun _ => 0))) :: ((a 11), .inl (Y 0, 18, .inl (fun _ => 0))) :: ((a 13), .inl (Y 0, 18, .inl (fun _ => 0))) :: ((a 14), .inl (Y 0, 18, .inl (fun _ => 0))) :: ((a 26), .inl (Y 0, 30132, .inl (fun _ => 0))) :: ((a 27), .inl (Y 3, 4, .inl (fun _ => 0))) :: [])) [0, 1] [2, 3, 4, 5, 6, 7, 8, 9, 10, 11, 12, 13, 14, 15, 16, 17, 18, 19, 20, 21, 22, 23, 24] (rn_V (As := [.int (xs 1), .int (xs 2), .int (xs 3), .int (xs 4), .int (xs 5), .int (xs 6)]) (rest := []) (b := o) (x_tried l D Y Z H.size o b (xs 1) (xs 2) (xs 3) (xs 4) (xs 5) (xs 6)) ⟨hx, hb, hml, hown, hg⟩ lk_L_67 ⟨CP.blind, va_recv hKN.1 hP (ci := 10) (q0 := 0) rfl rfl, CP.at (hP.sub [0, 1] rfl) hKN (hD.sub [0, 1] (by decide) rfl)⟩ ⟨⟨rfl, rfl⟩, ⟨Nat.le_of_ble_eq_true rfl, Nat.le_of_ble_eq_true rfl⟩, ⟨Nat.le_of_ble_eq_true rfl, Nat.le_of_ble_eq_true rfl⟩⟩ hl.1 rfl (Nat.le_of_ble_eq_true rfl) dL_law_754) hP hD hS hA rfl rfl (by decide) (by decide) (fun u7 H locs w8 hP hD hS => ?_)
  refine W.eq (g2 := F0 m 757 ls [.long (-200000)]) rfl ?_
  have hP : va_P D vwCl (((b 16), .inl (Y 7, 12, .inr (.inr (.inr (.inr (fun _ => none)))))) :: ((b 17), .inl (Y 8, 40, .inr (.inr (.inr (.inr (fun _ => none)))))) :: ((b 18), .inl (Y 0, 12, .inl (fun _ => 0))) :: ((b 19), .inl (Y 0, 12, .inl (fun _ => 0))) :: ((b 20), .inl (Y 0, 8, .inl (fun _ => 0))) :: ((b 21), .inl (Y 0, 8, .inl (fun _ => 0))) :: ((b 22), .inl (Y 2, 400, .inl (fun _ => 0))) :: ((b 1), .inl (Y 4, 4, .inr (.inr (.inr (.inr (fun _ => none)))))) :: ((b 5), .inr (3, (paF Z b))) :: ((b 24), .inr (8, (txF b))) :: (o2, .inr (11, (moF a))) :: ((a 0), .inl (Y 0, 7533, .inl tolF)) :: ((a 2), .inl (Y 2, 400, .inl (fun _ => 0))) :: ((a 3), .inl (Y 0, 3, .inl (fun _ => 0))) :: ((a 5), .inl (Y 0, 18, .inl (fun _ => 0))) :: ((a 7), .inl (Y 0, 18, .inl (fun _ => 0))) :: ((a 8), .inl (Y 0, 18, .inl (fun _ => 0))) :: ((a 9), .inl (Y 0, 18, .inl (fun _ => 0))) :: ((a 11), .inl (Y 0, 18, .inl (fun _ => 0))) :: ((a 13), .inl (Y 0, 18, .inl (fun _ => 0))) :: ((a 14), .inl (Y 0, 18, .inl (fun _ => 0))) :: ((a 26), .inl (Y 0, 30132, .inl (fun _ => 0))) :: ((a 27), .inl (Y 3, 4, .inl (fun _ => 0))) :: []) H := hP
  have hD : va_D A (((b 16), .inl (Y 7, 12, .inr (.inr (.inr (.inr (fun _ => none)))))) :: ((b 17), .inl (Y 8, 40, .inr (.inr (.inr (.inr (fun _ => none)))))) :: ((b 18), .inl (Y 0, 12, .inl (fun _ => 0))) :: ((b 19), .inl (Y 0, 12, .inl (fun _ => 0))) :: ((b 20), .inl (Y 0, 8, .inl (fun _ => 0))) :: ((b 21), .inl (Y 0, 8, .inl (fun _ => 0))) :: ((b 22), .inl (Y 2, 400, .inl (fun _ => 0))) :: ((b 1), .inl (Y 4, 4, .inr (.inr (.inr (.inr (fun _ => none)))))) :: ((b 5), .inr (3, (paF Z b))) :: ((b 24), .inr (8, (txF b))) :: (o2, .inr (11, (moF a))) :: ((a 0), .inl (Y 0, 7533, .inl tolF)) :: ((a 2), .inl (Y 2, 400, .inl (fun _ => 0))) :: ((a 3), .inl (Y 0, 3, .inl (fun _ => 0))) :: ((a 5), .inl (Y 0, 18, .inl (fun _ => 0))) :: ((a 7), .inl (Y 0, 18, .inl (fun _ => 0))) :: ((a 8), .inl (Y 0, 18, .inl (fun _ => 0))) :: ((a 9), .inl (Y 0, 18, .inl (fun _ => 0))) :: ((a 11), .inl (Y 0, 18, .inl (fun _ => 0))) :: ((a 13), .inl (Y 0, 18, .inl (fun _ => 0))) :: ((a 14), .inl (Y 0, 18, .inl (fun _ => 0))) :: ((a 26), .inl (Y 0, 30132, .inl (fun _ => 0))) :: ((a 27), .inl (Y 3, 4, .inl (fun _ => 0))) :: []) := hD
  refine lv_aload_n hx hb dL_law_757 rfl (lv_at hl 1 rfl) ?_
  refine lv_aload_n hx hb dL_law_758 rfl (lv_at hl 3 rfl) ?_
  refine lv_iload_n hx hb dL_law_759 rfl (lv_at hl 0 rfl) ?_
  refine lv_iconst (v := 1) hx hb dL_law_760 (by decide) ?_
  refine lv_iadd hx hb dL_law_761 ?_
  refine lv_topi (fun z9 ez9 => ?_)
  obtain rfl : z9 = 1 := ez9.trans (by decide)
  refine va_sld hx hb hX hbl hbA hS (show ¬ ((1 : Int32) < 0 ∨ 7 ≤ (1 : Int32).toNatClampNeg) by decide) dL_law_762 ?_
  refine W.eq (g2 := F0 m 763 ls [.int (xs 1), .ref o2, .long (-200000)]) rfl ?_
  refine lv_aload_n hx hb dL_law_763 rfl (lv_at hl 3 rfl) ?_
  refine lv_iload_n hx hb dL_law_764 rfl (lv_at hl 0 rfl) ?_
  refine lv_iconst (v := 2) hx hb dL_law_765 (by decide) ?_
  refine lv_iadd hx hb dL_law_766 ?_
  refine lv_topi (fun z10 ez10 => ?_)
  obtain rfl : z10 = 2 := ez10.trans (by decide)
  refine va_sld hx hb hX hbl hbA hS (show ¬ ((2 : Int32) < 0 ∨ 7 ≤ (2 : Int32).toNatClampNeg) by decide) dL_law_767 ?_
  refine W.eq (g2 := F0 m 768 ls [.int (xs 2), .int (xs 1), .ref o2, .long (-200000)]) rfl ?_
  refine lv_aload_n hx hb dL_law_768 rfl (lv_at hl 3 rfl) ?_
  refine lv_iload_n hx hb dL_law_769 rfl (lv_at hl 0 rfl) ?_
  refine lv_iconst (v := 3) hx hb dL_law_770 (by decide) ?_
  refine lv_iadd hx hb dL_law_771 ?_
  refine lv_topi (fun z11 ez11 => ?_)
  obtain rfl : z11 = 3 := ez11.trans (by decide)
  refine va_sld hx hb hX hbl hbA hS (show ¬ ((3 : Int32) < 0 ∨ 7 ≤ (3 : Int32).toNatClampNeg) by decide) dL_law_772 ?_
  refine W.eq (g2 := F0 m 773 ls [.int (xs 3), .int (xs 2), .int (xs 1), .ref o2, .long (-200000)]) rfl ?_
  refine lv_aload_n hx hb dL_law_773 rfl (lv_at hl 3 rfl) ?_
  refine lv_iload_n hx hb dL_law_774 rfl (lv_at hl 0 rfl) ?_
  refine lv_iconst (v := 4) hx hb dL_law_775 (by decide) ?_
  refine lv_iadd hx hb dL_law_776 ?_
  refine lv_topi (fun z12 ez12 => ?_)
  obtain rfl : z12 = 4 := ez12.trans (by decide)
  refine va_sld hx hb hX hbl hbA hS (show ¬ ((4 : Int32) < 0 ∨ 7 ≤ (4 : Int32).toNatClampNeg) by decide) dL_law_777 ?_
  refine W.eq (g2 := F0 m 778 ls [.int (xs 4), .int (xs 3), .int (xs 2), .int (xs 1), .ref o2, .long (-200000)]) rfl ?_
  refine lv_aload_n hx hb dL_law_778 rfl (lv_at hl 3 rfl) ?_
  refine lv_iload_n hx hb dL_law_779 rfl (lv_at hl 0 rfl) ?_
  refine lv_iconst (v := 5) hx hb dL_law_780 (by decide) ?_
  refine lv_iadd hx hb dL_law_781 ?_
  refine lv_topi (fun z13 ez13 => ?_)
  obtain rfl : z13 = 5 := ez13.trans (by decide)
  refine va_sld hx hb hX hbl hbA hS (show ¬ ((5 : Int32) < 0 ∨ 7 ≤ (5 : Int32).toNatClampNeg) by decide) dL_law_782 ?_
  refine W.eq (g2 := F0 m 783 ls [.int (xs 5), .int (xs 4), .int (xs 3), .int (xs 2), .int (xs 1), .ref o2, .long (-200000)]) rfl ?_
  refine lv_aload_n hx hb dL_law_783 rfl (lv_at hl 3 rfl) ?_
  refine lv_iload_n hx hb dL_law_784 rfl (lv_at hl 0 rfl) ?_
  refine lv_bipush (v := 6) hx hb dL_law_785 (by decide) ?_
  refine lv_iadd hx hb dL_law_787 ?_
  refine lv_topi (fun z14 ez14 => ?_)
  obtain rfl : z14 = 6 := ez14.trans (by decide)
  refine va_sld hx hb hX hbl hbA hS (show ¬ ((6 : Int32) < 0 ∨ 7 ≤ (6 : Int32).toNatClampNeg) by decide) dL_law_788 ?_
  refine W.eq (g2 := F0 m 789 ls [.int (xs 6), .int (xs 5), .int (xs 4), .int (xs 3), .int (xs 2), .int (xs 1), .ref o2, .long (-200000)]) rfl ?_
  refine cg (wc := [(o2, .inr (11, (moF a))), ((a 0), .inl (Y 0, 7533, .inl tolF))]) (wr := (((b 16), .inl (Y 7, 12, .inr (.inr (.inr (.inr (fun _ => none)))))) :: ((b 17), .inl (Y 8, 40, .inr (.inr (.inr (.inr (fun _ => none)))))) :: ((b 18), .inl (Y 0, 12, .inl (fun _ => 0))) :: ((b 19), .inl (Y 0, 12, .inl (fun _ => 0))) :: ((b 20), .inl (Y 0, 8, .inl (fun _ => 0))) :: ((b 21), .inl (Y 0, 8, .inl (fun _ => 0))) :: ((b 22), .inl (Y 2, 400, .inl (fun _ => 0))) :: ((b 1), .inl (Y 4, 4, .inr (.inr (.inr (.inr (fun _ => none)))))) :: ((b 5), .inr (3, (paF Z b))) :: ((b 24), .inr (8, (txF b))) :: ((a 2), .inl (Y 2, 400, .inl (fun _ => 0))) :: ((a 3), .inl (Y 0, 3, .inl (fun _ => 0))) :: ((a 5), .inl (Y 0, 18, .inl (fun _ => 0))) :: ((a 7), .inl (Y 0, 18, .inl (fun _ => 0))) :: ((a 8), .inl (Y 0, 18, .inl (fun _ => 0))) :: ((a 9), .inl (Y 0, 18, .inl (fun _ => 0))) :: ((a 11), .inl (Y 0, 18, .inl (fun _ => 0))) :: ((a 13), .inl (Y 0, 18, .inl (fun _ => 0))) :: ((a 14), .inl (Y 0, 18, .inl (fun _ => 0))) :: ((a 26), .inl (Y 0, 30132, .inl (fun _ => 0))) :: ((a 27), .inl (Y 3, 4, .inl (fun _ => 0))) :: [])) [10, 11] [0, 1, 2, 3, 4, 5, 6, 7, 8, 9, 12, 13, 14, 15, 16, 17, 18, 19, 20, 21, 22] (rn_V (As := [.int (xs 1), .int (xs 2), .int (xs 3), .int (xs 4), .int (xs 5), .int (xs 6)]) (rest := [.long (-200000)]) (b := o2) (y_tried l D Y Z H.size o2 a (xs 1) (xs 2) (xs 3) (xs 4) (xs 5) (xs 6)) ⟨hx, hb, hml, hown, hg⟩ lk_L_71 ⟨CP.blind, va_recv hKN.1 hP (ci := 11) (q0 := 10) rfl rfl, CP.at (hP.sub [10, 11] rfl) hKN (hD.sub [10, 11] (by decide) rfl)⟩ ⟨⟨rfl, rfl⟩, ⟨Nat.le_of_ble_eq_true rfl, Nat.le_of_ble_eq_true rfl⟩, ⟨Nat.le_of_ble_eq_true rfl, Nat.le_of_ble_eq_true rfl⟩⟩ hl.1 rfl (Nat.le_of_ble_eq_true rfl) dL_law_789) hP hD hS hA rfl rfl (by decide) (by decide) (fun u15 H locs w16 hP hD hS => ?_)
  refine W.eq (g2 := F0 m 792 ls [.long (-200000), .long (-200000)]) rfl ?_
  have hP : va_P D vwCl (((b 16), .inl (Y 7, 12, .inr (.inr (.inr (.inr (fun _ => none)))))) :: ((b 17), .inl (Y 8, 40, .inr (.inr (.inr (.inr (fun _ => none)))))) :: ((b 18), .inl (Y 0, 12, .inl (fun _ => 0))) :: ((b 19), .inl (Y 0, 12, .inl (fun _ => 0))) :: ((b 20), .inl (Y 0, 8, .inl (fun _ => 0))) :: ((b 21), .inl (Y 0, 8, .inl (fun _ => 0))) :: ((b 22), .inl (Y 2, 400, .inl (fun _ => 0))) :: ((b 1), .inl (Y 4, 4, .inr (.inr (.inr (.inr (fun _ => none)))))) :: ((b 5), .inr (3, (paF Z b))) :: ((b 24), .inr (8, (txF b))) :: ((a 2), .inl (Y 2, 400, .inl (fun _ => 0))) :: ((a 3), .inl (Y 0, 3, .inl (fun _ => 0))) :: ((a 5), .inl (Y 0, 18, .inl (fun _ => 0))) :: ((a 7), .inl (Y 0, 18, .inl (fun _ => 0))) :: ((a 8), .inl (Y 0, 18, .inl (fun _ => 0))) :: ((a 9), .inl (Y 0, 18, .inl (fun _ => 0))) :: ((a 11), .inl (Y 0, 18, .inl (fun _ => 0))) :: ((a 13), .inl (Y 0, 18, .inl (fun _ => 0))) :: ((a 14), .inl (Y 0, 18, .inl (fun _ => 0))) :: ((a 26), .inl (Y 0, 30132, .inl (fun _ => 0))) :: ((a 27), .inl (Y 3, 4, .inl (fun _ => 0))) :: []) H := hP
  have hD : va_D A (((b 16), .inl (Y 7, 12, .inr (.inr (.inr (.inr (fun _ => none)))))) :: ((b 17), .inl (Y 8, 40, .inr (.inr (.inr (.inr (fun _ => none)))))) :: ((b 18), .inl (Y 0, 12, .inl (fun _ => 0))) :: ((b 19), .inl (Y 0, 12, .inl (fun _ => 0))) :: ((b 20), .inl (Y 0, 8, .inl (fun _ => 0))) :: ((b 21), .inl (Y 0, 8, .inl (fun _ => 0))) :: ((b 22), .inl (Y 2, 400, .inl (fun _ => 0))) :: ((b 1), .inl (Y 4, 4, .inr (.inr (.inr (.inr (fun _ => none)))))) :: ((b 5), .inr (3, (paF Z b))) :: ((b 24), .inr (8, (txF b))) :: ((a 2), .inl (Y 2, 400, .inl (fun _ => 0))) :: ((a 3), .inl (Y 0, 3, .inl (fun _ => 0))) :: ((a 5), .inl (Y 0, 18, .inl (fun _ => 0))) :: ((a 7), .inl (Y 0, 18, .inl (fun _ => 0))) :: ((a 8), .inl (Y 0, 18, .inl (fun _ => 0))) :: ((a 9), .inl (Y 0, 18, .inl (fun _ => 0))) :: ((a 11), .inl (Y 0, 18, .inl (fun _ => 0))) :: ((a 13), .inl (Y 0, 18, .inl (fun _ => 0))) :: ((a 14), .inl (Y 0, 18, .inl (fun _ => 0))) :: ((a 26), .inl (Y 0, 30132, .inl (fun _ => 0))) :: ((a 27), .inl (Y 3, 4, .inl (fun _ => 0))) :: []) := hD
  refine W.lcmp hx hb dL_law_792 ?_
  refine lv_if_eq (tgt := 1885) hx hb dL_law_793 (by decide) (fun c17 => ?_) (fun c17 => ?_)
  rotate_left
  · exact absurd c17 (by decide)
  exact lw_tail C0 hA2 (Nat.le_of_ble_eq_true rfl) (Nat.le_of_ble_eq_true rfl) hS (lv_sub hl [0, 3] rfl)
set_option maxHeartbeats 4000000 in
set_option maxRecDepth 100000 in
theorem lc_13 {p : Program} {l : Launch} {e : Env} {s : State} {m : MethodId} {below : List Frame} {meth : Method} {c : Code} {sb : Nat} {xs : Nat → Int32} (C0 : lw_At p s m meth c sb 7 xs) {D : va_G} {Y : Nat → ClassId} {Z : Nat → Nat} (hKN : KN D Y Z s) {A : Nat → Prop} (hA : ∀ q, s.heap.size ≤ q → A q) (hA2 : ∀ q, A q → s.heap.size ≤ q) {o o2 : Nat} {b a : Nat → Nat} {H : Heap} {locs : List Loc} {ls : Array Slot} (hP : va_P D vwCl (LW Y Z o o2 b a) H) (hD : va_D A (LW Y Z o o2 b a)) (hS : va_S A s.heap H locs) (hl : lv_has ls 4 [(3, .int 0), (2, .ref o2), (1, .ref o), (0, .ref sb)]) : W p l e room_1 s m #[Value.ref sb] below meth c H locs 70 52824 (lw_Z below #[Value.ref sb] s) (F0 m 798 ls []) := by
  obtain ⟨hx, hb, hr, hml, hown, hts, hX, hbl, hlocks, hgv⟩ := id C0
  have hb : c.code = cL_law := hb
  have hown : s.vm.findClass RL = some m.cls := hown
  have hg : ∀ w ∈ GW, w.before #[Value.ref sb] s = true := fun w h => hts w (gw_tbl h)
  have hbA : ¬ A sb := fun h => absurd (hA2 sb h) (Nat.not_le.mpr hbl)
  refine lv_aload_n hx hb dL_law_798 rfl (lv_at hl 2 rfl) ?_
  refine lv_aload_n hx hb dL_law_799 rfl (lv_at hl 3 rfl) ?_
  refine lv_iload_n hx hb dL_law_800 rfl (lv_at hl 0 rfl) ?_
  refine lv_iconst (v := 1) hx hb dL_law_801 (by decide) ?_
  refine lv_iadd hx hb dL_law_802 ?_
  refine lv_topi (fun z1 ez1 => ?_)
  obtain rfl : z1 = 1 := ez1.trans (by decide)
  refine va_sld hx hb hX hbl hbA hS (show ¬ ((1 : Int32) < 0 ∨ 7 ≤ (1 : Int32).toNatClampNeg) by decide) dL_law_803 ?_
  refine W.eq (g2 := F0 m 804 ls [.int (xs 1), .ref o]) rfl ?_
  refine lv_aload_n hx hb dL_law_804 rfl (lv_at hl 3 rfl) ?_
  refine lv_iload_n hx hb dL_law_805 rfl (lv_at hl 0 rfl) ?_
  refine lv_iconst (v := 2) hx hb dL_law_806 (by decide) ?_
  refine lv_iadd hx hb dL_law_807 ?_
  refine lv_topi (fun z2 ez2 => ?_)
  obtain rfl : z2 = 2 := ez2.trans (by decide)
  refine va_sld hx hb hX hbl hbA hS (show ¬ ((2 : Int32) < 0 ∨ 7 ≤ (2 : Int32).toNatClampNeg) by decide) dL_law_808 ?_
  refine W.eq (g2 := F0 m 809 ls [.int (xs 2), .int (xs 1), .ref o]) rfl ?_
  refine lv_aload_n hx hb dL_law_809 rfl (lv_at hl 3 rfl) ?_
  refine lv_iload_n hx hb dL_law_810 rfl (lv_at hl 0 rfl) ?_
  refine lv_iconst (v := 3) hx hb dL_law_811 (by decide) ?_
  refine lv_iadd hx hb dL_law_812 ?_
  refine lv_topi (fun z3 ez3 => ?_)
  obtain rfl : z3 = 3 := ez3.trans (by decide)
  refine va_sld hx hb hX hbl hbA hS (show ¬ ((3 : Int32) < 0 ∨ 7 ≤ (3 : Int32).toNatClampNeg) by decide) dL_law_813 ?_
  refine W.eq (g2 := F0 m 814 ls [.int (xs 3), .int (xs 2), .int (xs 1), .ref o]) rfl ?_
  refine lv_aload_n hx hb dL_law_814 rfl (lv_at hl 3 rfl) ?_
  refine lv_iload_n hx hb dL_law_815 rfl (lv_at hl 0 rfl) ?_
  refine lv_iconst (v := 4) hx hb dL_law_816 (by decide) ?_
  refine lv_iadd hx hb dL_law_817 ?_
  refine lv_topi (fun z4 ez4 => ?_)
  obtain rfl : z4 = 4 := ez4.trans (by decide)
  refine va_sld hx hb hX hbl hbA hS (show ¬ ((4 : Int32) < 0 ∨ 7 ≤ (4 : Int32).toNatClampNeg) by decide) dL_law_818 ?_
  refine W.eq (g2 := F0 m 819 ls [.int (xs 4), .int (xs 3), .int (xs 2), .int (xs 1), .ref o]) rfl ?_
  refine cg (wc := [(o, .inr (10, (dsF b)))]) (wr := (((b 0), .inr (6, (skF b))) :: ((b 16), .inl (Y 7, 12, .inr (.inr (.inr (.inr (fun _ => none)))))) :: ((b 17), .inl (Y 8, 40, .inr (.inr (.inr (.inr (fun _ => none)))))) :: ((b 18), .inl (Y 0, 12, .inl (fun _ => 0))) :: ((b 19), .inl (Y 0, 12, .inl (fun _ => 0))) :: ((b 20), .inl (Y 0, 8, .inl (fun _ => 0))) :: ((b 21), .inl (Y 0, 8, .inl (fun _ => 0))) :: ((b 22), .inl (Y 2, 400, .inl (fun _ => 0))) :: ((b 1), .inl (Y 4, 4, .inr (.inr (.inr (.inr (fun _ => none)))))) :: ((b 5), .inr (3, (paF Z b))) :: ((b 24), .inr (8, (txF b))) :: (o2, .inr (11, (moF a))) :: ((a 0), .inl (Y 0, 7533, .inl tolF)) :: ((a 2), .inl (Y 2, 400, .inl (fun _ => 0))) :: ((a 3), .inl (Y 0, 3, .inl (fun _ => 0))) :: ((a 5), .inl (Y 0, 18, .inl (fun _ => 0))) :: ((a 7), .inl (Y 0, 18, .inl (fun _ => 0))) :: ((a 8), .inl (Y 0, 18, .inl (fun _ => 0))) :: ((a 9), .inl (Y 0, 18, .inl (fun _ => 0))) :: ((a 11), .inl (Y 0, 18, .inl (fun _ => 0))) :: ((a 13), .inl (Y 0, 18, .inl (fun _ => 0))) :: ((a 14), .inl (Y 0, 18, .inl (fun _ => 0))) :: ((a 26), .inl (Y 0, 30132, .inl (fun _ => 0))) :: ((a 27), .inl (Y 3, 4, .inl (fun _ => 0))) :: [])) [0] [1, 2, 3, 4, 5, 6, 7, 8, 9, 10, 11, 12, 13, 14, 15, 16, 17, 18, 19, 20, 21, 22, 23, 24] (rn_V (As := [.int (xs 1), .int (xs 2), .int (xs 3), .int (xs 4)]) (rest := []) (b := o) (x_found l D Y Z H.size o b (xs 1) (xs 2) (xs 3) (xs 4)) ⟨hx, hb, hml, hown, hg⟩ lk_L_72 ⟨CP.blind, va_recv hKN.1 hP (ci := 10) (q0 := 0) rfl rfl, CP.at (hP.sub [0] rfl) hKN (hD.sub [0] (by decide) rfl)⟩ ⟨⟨rfl, rfl⟩, ⟨Nat.le_of_ble_eq_true rfl, Nat.le_of_ble_eq_true rfl⟩, ⟨Nat.le_of_ble_eq_true rfl, Nat.le_of_ble_eq_true rfl⟩⟩ hl.1 rfl (Nat.le_of_ble_eq_true rfl) dL_law_819) hP hD hS hA rfl rfl (by decide) (by decide) (fun u5 H locs w6 hP hD hS => ?_)
  refine W.eq (g2 := F0 m 822 ls [.long (-2)]) rfl ?_
  have hP : va_P D vwCl (((b 0), .inr (6, (skF b))) :: ((b 16), .inl (Y 7, 12, .inr (.inr (.inr (.inr (fun _ => none)))))) :: ((b 17), .inl (Y 8, 40, .inr (.inr (.inr (.inr (fun _ => none)))))) :: ((b 18), .inl (Y 0, 12, .inl (fun _ => 0))) :: ((b 19), .inl (Y 0, 12, .inl (fun _ => 0))) :: ((b 20), .inl (Y 0, 8, .inl (fun _ => 0))) :: ((b 21), .inl (Y 0, 8, .inl (fun _ => 0))) :: ((b 22), .inl (Y 2, 400, .inl (fun _ => 0))) :: ((b 1), .inl (Y 4, 4, .inr (.inr (.inr (.inr (fun _ => none)))))) :: ((b 5), .inr (3, (paF Z b))) :: ((b 24), .inr (8, (txF b))) :: (o2, .inr (11, (moF a))) :: ((a 0), .inl (Y 0, 7533, .inl tolF)) :: ((a 2), .inl (Y 2, 400, .inl (fun _ => 0))) :: ((a 3), .inl (Y 0, 3, .inl (fun _ => 0))) :: ((a 5), .inl (Y 0, 18, .inl (fun _ => 0))) :: ((a 7), .inl (Y 0, 18, .inl (fun _ => 0))) :: ((a 8), .inl (Y 0, 18, .inl (fun _ => 0))) :: ((a 9), .inl (Y 0, 18, .inl (fun _ => 0))) :: ((a 11), .inl (Y 0, 18, .inl (fun _ => 0))) :: ((a 13), .inl (Y 0, 18, .inl (fun _ => 0))) :: ((a 14), .inl (Y 0, 18, .inl (fun _ => 0))) :: ((a 26), .inl (Y 0, 30132, .inl (fun _ => 0))) :: ((a 27), .inl (Y 3, 4, .inl (fun _ => 0))) :: []) H := hP
  have hD : va_D A (((b 0), .inr (6, (skF b))) :: ((b 16), .inl (Y 7, 12, .inr (.inr (.inr (.inr (fun _ => none)))))) :: ((b 17), .inl (Y 8, 40, .inr (.inr (.inr (.inr (fun _ => none)))))) :: ((b 18), .inl (Y 0, 12, .inl (fun _ => 0))) :: ((b 19), .inl (Y 0, 12, .inl (fun _ => 0))) :: ((b 20), .inl (Y 0, 8, .inl (fun _ => 0))) :: ((b 21), .inl (Y 0, 8, .inl (fun _ => 0))) :: ((b 22), .inl (Y 2, 400, .inl (fun _ => 0))) :: ((b 1), .inl (Y 4, 4, .inr (.inr (.inr (.inr (fun _ => none)))))) :: ((b 5), .inr (3, (paF Z b))) :: ((b 24), .inr (8, (txF b))) :: (o2, .inr (11, (moF a))) :: ((a 0), .inl (Y 0, 7533, .inl tolF)) :: ((a 2), .inl (Y 2, 400, .inl (fun _ => 0))) :: ((a 3), .inl (Y 0, 3, .inl (fun _ => 0))) :: ((a 5), .inl (Y 0, 18, .inl (fun _ => 0))) :: ((a 7), .inl (Y 0, 18, .inl (fun _ => 0))) :: ((a 8), .inl (Y 0, 18, .inl (fun _ => 0))) :: ((a 9), .inl (Y 0, 18, .inl (fun _ => 0))) :: ((a 11), .inl (Y 0, 18, .inl (fun _ => 0))) :: ((a 13), .inl (Y 0, 18, .inl (fun _ => 0))) :: ((a 14), .inl (Y 0, 18, .inl (fun _ => 0))) :: ((a 26), .inl (Y 0, 30132, .inl (fun _ => 0))) :: ((a 27), .inl (Y 3, 4, .inl (fun _ => 0))) :: []) := hD
  refine lv_aload_n hx hb dL_law_822 rfl (lv_at hl 1 rfl) ?_
  refine lv_aload_n hx hb dL_law_823 rfl (lv_at hl 3 rfl) ?_
  refine lv_iload_n hx hb dL_law_824 rfl (lv_at hl 0 rfl) ?_
  refine lv_iconst (v := 1) hx hb dL_law_825 (by decide) ?_
  refine lv_iadd hx hb dL_law_826 ?_
  refine lv_topi (fun z7 ez7 => ?_)
  obtain rfl : z7 = 1 := ez7.trans (by decide)
  refine va_sld hx hb hX hbl hbA hS (show ¬ ((1 : Int32) < 0 ∨ 7 ≤ (1 : Int32).toNatClampNeg) by decide) dL_law_827 ?_
  refine W.eq (g2 := F0 m 828 ls [.int (xs 1), .ref o2, .long (-2)]) rfl ?_
  refine lv_aload_n hx hb dL_law_828 rfl (lv_at hl 3 rfl) ?_
  refine lv_iload_n hx hb dL_law_829 rfl (lv_at hl 0 rfl) ?_
  refine lv_iconst (v := 2) hx hb dL_law_830 (by decide) ?_
  refine lv_iadd hx hb dL_law_831 ?_
  refine lv_topi (fun z8 ez8 => ?_)
  obtain rfl : z8 = 2 := ez8.trans (by decide)
  refine va_sld hx hb hX hbl hbA hS (show ¬ ((2 : Int32) < 0 ∨ 7 ≤ (2 : Int32).toNatClampNeg) by decide) dL_law_832 ?_
  refine W.eq (g2 := F0 m 833 ls [.int (xs 2), .int (xs 1), .ref o2, .long (-2)]) rfl ?_
  refine lv_aload_n hx hb dL_law_833 rfl (lv_at hl 3 rfl) ?_
  refine lv_iload_n hx hb dL_law_834 rfl (lv_at hl 0 rfl) ?_
  refine lv_iconst (v := 3) hx hb dL_law_835 (by decide) ?_
  refine lv_iadd hx hb dL_law_836 ?_
  refine lv_topi (fun z9 ez9 => ?_)
  obtain rfl : z9 = 3 := ez9.trans (by decide)
  refine va_sld hx hb hX hbl hbA hS (show ¬ ((3 : Int32) < 0 ∨ 7 ≤ (3 : Int32).toNatClampNeg) by decide) dL_law_837 ?_
  refine W.eq (g2 := F0 m 838 ls [.int (xs 3), .int (xs 2), .int (xs 1), .ref o2, .long (-2)]) rfl ?_
  refine lv_aload_n hx hb dL_law_838 rfl (lv_at hl 3 rfl) ?_
  refine lv_iload_n hx hb dL_law_839 rfl (lv_at hl 0 rfl) ?_
  refine lv_iconst (v := 4) hx hb dL_law_840 (by decide) ?_
  refine lv_iadd hx hb dL_law_841 ?_
  refine lv_topi (fun z10 ez10 => ?_)
  obtain rfl : z10 = 4 := ez10.trans (by decide)
  refine va_sld hx hb hX hbl hbA hS (show ¬ ((4 : Int32) < 0 ∨ 7 ≤ (4 : Int32).toNatClampNeg) by decide) dL_law_842 ?_
  refine W.eq (g2 := F0 m 843 ls [.int (xs 4), .int (xs 3), .int (xs 2), .int (xs 1), .ref o2, .long (-2)]) rfl ?_
  refine cg (wc := [(o2, .inr (11, (moF a))), ((a 3), .inl (Y 0, 3, .inl (fun _ => 0)))]) (wr := (((b 0), .inr (6, (skF b))) :: ((b 16), .inl (Y 7, 12, .inr (.inr (.inr (.inr (fun _ => none)))))) :: ((b 17), .inl (Y 8, 40, .inr (.inr (.inr (.inr (fun _ => none)))))) :: ((b 18), .inl (Y 0, 12, .inl (fun _ => 0))) :: ((b 19), .inl (Y 0, 12, .inl (fun _ => 0))) :: ((b 20), .inl (Y 0, 8, .inl (fun _ => 0))) :: ((b 21), .inl (Y 0, 8, .inl (fun _ => 0))) :: ((b 22), .inl (Y 2, 400, .inl (fun _ => 0))) :: ((b 1), .inl (Y 4, 4, .inr (.inr (.inr (.inr (fun _ => none)))))) :: ((b 5), .inr (3, (paF Z b))) :: ((b 24), .inr (8, (txF b))) :: ((a 0), .inl (Y 0, 7533, .inl tolF)) :: ((a 2), .inl (Y 2, 400, .inl (fun _ => 0))) :: ((a 5), .inl (Y 0, 18, .inl (fun _ => 0))) :: ((a 7), .inl (Y 0, 18, .inl (fun _ => 0))) :: ((a 8), .inl (Y 0, 18, .inl (fun _ => 0))) :: ((a 9), .inl (Y 0, 18, .inl (fun _ => 0))) :: ((a 11), .inl (Y 0, 18, .inl (fun _ => 0))) :: ((a 13), .inl (Y 0, 18, .inl (fun _ => 0))) :: ((a 14), .inl (Y 0, 18, .inl (fun _ => 0))) :: ((a 26), .inl (Y 0, 30132, .inl (fun _ => 0))) :: ((a 27), .inl (Y 3, 4, .inl (fun _ => 0))) :: [])) [11, 14] [0, 1, 2, 3, 4, 5, 6, 7, 8, 9, 10, 12, 13, 15, 16, 17, 18, 19, 20, 21, 22, 23] (rn_V (As := [.int (xs 1), .int (xs 2), .int (xs 3), .int (xs 4)]) (rest := [.long (-2)]) (b := o2) (y_found l D Y Z H.size o2 a (xs 1) (xs 2) (xs 3) (xs 4)) ⟨hx, hb, hml, hown, hg⟩ lk_L_76 ⟨CP.blind, va_recv hKN.1 hP (ci := 11) (q0 := 11) rfl rfl, CP.at (hP.sub [11, 14] rfl) hKN (hD.sub [11, 14] (by decide) rfl)⟩ ⟨⟨rfl, rfl⟩, ⟨Nat.le_of_ble_eq_true rfl, Nat.le_of_ble_eq_true rfl⟩, ⟨Nat.le_of_ble_eq_true rfl, Nat.le_of_ble_eq_true rfl⟩⟩ hl.1 rfl (Nat.le_of_ble_eq_true rfl) dL_law_843) hP hD hS hA rfl rfl (by decide) (by decide) (fun u11 H locs w12 hP hD hS => ?_)
  refine W.eq (g2 := F0 m 846 ls [.long (-2), .long (-2)]) rfl ?_
  have hP : va_P D vwCl (((b 0), .inr (6, (skF b))) :: ((b 16), .inl (Y 7, 12, .inr (.inr (.inr (.inr (fun _ => none)))))) :: ((b 17), .inl (Y 8, 40, .inr (.inr (.inr (.inr (fun _ => none)))))) :: ((b 18), .inl (Y 0, 12, .inl (fun _ => 0))) :: ((b 19), .inl (Y 0, 12, .inl (fun _ => 0))) :: ((b 20), .inl (Y 0, 8, .inl (fun _ => 0))) :: ((b 21), .inl (Y 0, 8, .inl (fun _ => 0))) :: ((b 22), .inl (Y 2, 400, .inl (fun _ => 0))) :: ((b 1), .inl (Y 4, 4, .inr (.inr (.inr (.inr (fun _ => none)))))) :: ((b 5), .inr (3, (paF Z b))) :: ((b 24), .inr (8, (txF b))) :: ((a 0), .inl (Y 0, 7533, .inl tolF)) :: ((a 2), .inl (Y 2, 400, .inl (fun _ => 0))) :: ((a 5), .inl (Y 0, 18, .inl (fun _ => 0))) :: ((a 7), .inl (Y 0, 18, .inl (fun _ => 0))) :: ((a 8), .inl (Y 0, 18, .inl (fun _ => 0))) :: ((a 9), .inl (Y 0, 18, .inl (fun _ => 0))) :: ((a 11), .inl (Y 0, 18, .inl (fun _ => 0))) :: ((a 13), .inl (Y 0, 18, .inl (fun _ => 0))) :: ((a 14), .inl (Y 0, 18, .inl (fun _ => 0))) :: ((a 26), .inl (Y 0, 30132, .inl (fun _ => 0))) :: ((a 27), .inl (Y 3, 4, .inl (fun _ => 0))) :: []) H := hP
  have hD : va_D A (((b 0), .inr (6, (skF b))) :: ((b 16), .inl (Y 7, 12, .inr (.inr (.inr (.inr (fun _ => none)))))) :: ((b 17), .inl (Y 8, 40, .inr (.inr (.inr (.inr (fun _ => none)))))) :: ((b 18), .inl (Y 0, 12, .inl (fun _ => 0))) :: ((b 19), .inl (Y 0, 12, .inl (fun _ => 0))) :: ((b 20), .inl (Y 0, 8, .inl (fun _ => 0))) :: ((b 21), .inl (Y 0, 8, .inl (fun _ => 0))) :: ((b 22), .inl (Y 2, 400, .inl (fun _ => 0))) :: ((b 1), .inl (Y 4, 4, .inr (.inr (.inr (.inr (fun _ => none)))))) :: ((b 5), .inr (3, (paF Z b))) :: ((b 24), .inr (8, (txF b))) :: ((a 0), .inl (Y 0, 7533, .inl tolF)) :: ((a 2), .inl (Y 2, 400, .inl (fun _ => 0))) :: ((a 5), .inl (Y 0, 18, .inl (fun _ => 0))) :: ((a 7), .inl (Y 0, 18, .inl (fun _ => 0))) :: ((a 8), .inl (Y 0, 18, .inl (fun _ => 0))) :: ((a 9), .inl (Y 0, 18, .inl (fun _ => 0))) :: ((a 11), .inl (Y 0, 18, .inl (fun _ => 0))) :: ((a 13), .inl (Y 0, 18, .inl (fun _ => 0))) :: ((a 14), .inl (Y 0, 18, .inl (fun _ => 0))) :: ((a 26), .inl (Y 0, 30132, .inl (fun _ => 0))) :: ((a 27), .inl (Y 3, 4, .inl (fun _ => 0))) :: []) := hD
  refine W.lcmp hx hb dL_law_846 ?_
  refine lv_if_eq (tgt := 1885) hx hb dL_law_847 (by decide) (fun c13 => ?_) (fun c13 => ?_)
  rotate_left
  · exact absurd c13 (by decide)
  exact lw_tail C0 hA2 (Nat.le_of_ble_eq_true rfl) (Nat.le_of_ble_eq_true rfl) hS (lv_sub hl [0, 3] rfl)
