set_option maxHeartbeats 4000000 in
set_option maxRecDepth 100000 in
theorem lc_0 {p : Program} {l : Launch} {e : Env} {s : State} {m : MethodId} {below : List Frame} {meth : Method} {c : Code} {sb L : Nat} {xs : Nat → Int32} (C0 : lw_At p s m meth c sb L xs) {D : va_G} {Y : Nat → ClassId} {Z : Nat → Nat} (hKN : KN D Y Z s) {A : Nat → Prop} (hSZ : SZ Z A s s.heap) (hA : ∀ q, s.heap.size ≤ q → A q) (hA2 : ∀ q, A q → s.heap.size ≤ q) {x om : Nat} {a : Nat → Nat} {H : Heap} {locs : List Loc} {ls : Array Slot} {I : Nat → Int32} {J : Nat → Int64} {F : Nat → Nat → Int32} {G : Nat → Nat → Int64} {ws : va_W} {T : RT} {g : GN} {q : GQ} {i : Int32} {bd sd : Nat} (hL : L ≤ 3584) (hi : 0 ≤ i.toInt ∧ i.toInt + 7 ≤ (L : Int)) (hbd : bd + 1092 ≤ 600000) (hsd : sd + 7753 ≤ 7302250) (hI : LI D Y Z A s sb x om a H locs ls I J F G ws T g q i) (hK : ∀ (I : Nat → Int32) (J : Nat → Int64) (F : Nat → Nat → Int32) (G : Nat → Nat → Int64) (ws : va_W) (T : RT) (g : GN) (q : GQ) (bd2 sd2 : Nat) (H : Heap) (locs : List Loc) (ls : Array Slot), bd2 ≤ bd + 1092 → sd2 ≤ sd + 7753 → LI D Y Z A s sb x om a H locs ls I J F G ws T g q i → W p l e room_1 s m #[Value.ref sb] below meth c H locs bd2 sd2 (lw_Z below #[Value.ref sb] s) (F0 m 1878 ls [])) : W p l e room_1 s m #[Value.ref sb] below meth c H locs bd sd (lw_Z below #[Value.ref sb] s) (F0 m 208 ls []) := by
  obtain ⟨hx, hb, hr, hml, hown, hts, hX, hbl, hlocks, hgv⟩ := id C0
  have hb : c.code = cL_law := hb
  have hown : s.vm.findClass RL = some m.cls := hown
  have hg : ∀ w ∈ GW, w.before #[Value.ref sb] s = true := fun w h => hts w (gw_tbl h)
  have hbA : ¬ A sb := fun h => absurd (hA2 sb h) (Nat.not_le.mpr hbl)
  obtain ⟨hP, hD, hS, hl, hT, htx, hLR, hm0, hm1, hm2, hm3, hm4, hm5, hm6⟩ := hI
  refine lv_aload_n hx hb dL_law_208 rfl (lv_at hl 2 rfl) ?_
  refine lv_aload_n hx hb dL_law_209 rfl (lv_at hl 3 rfl) ?_
  refine lv_iload_n hx hb dL_law_210 rfl (lv_at hl 0 rfl) ?_
  refine lv_iconst (v := 1) hx hb dL_law_211 (by decide) ?_
  refine lv_iadd hx hb dL_law_212 ?_
  refine lv_topi (fun v1 ev1 => ?_)
  have hv1 := i_add (Eq.refl i.toInt) (show (1 : Int32).toInt = 1 by decide) ev1 (by omega) (by omega)
  refine va_sld hx hb hX hbl hbA hS (vp_in_iff.mpr ⟨by omega, by omega⟩) dL_law_213 ?_
  refine lv_topi (fun v2 ev2 => ?_)
  obtain rfl : v2 = (xs (i.toInt.toNat + 1)) := by rw [ev2, show v1.toNatClampNeg = i.toInt.toNat + 1 by have c9 := clampI (x := v1) (by omega); omega]
  refine lv_aload_n hx hb dL_law_214 rfl (lv_at hl 3 rfl) ?_
  refine lv_iload_n hx hb dL_law_215 rfl (lv_at hl 0 rfl) ?_
  refine lv_iconst (v := 2) hx hb dL_law_216 (by decide) ?_
  refine lv_iadd hx hb dL_law_217 ?_
  refine lv_topi (fun v3 ev3 => ?_)
  have hv3 := i_add (Eq.refl i.toInt) (show (2 : Int32).toInt = 2 by decide) ev3 (by omega) (by omega)
  refine va_sld hx hb hX hbl hbA hS (vp_in_iff.mpr ⟨by omega, by omega⟩) dL_law_218 ?_
  refine lv_topi (fun v4 ev4 => ?_)
  obtain rfl : v4 = (xs (i.toInt.toNat + 2)) := by rw [ev4, show v3.toNatClampNeg = i.toInt.toNat + 2 by have c9 := clampI (x := v3) (by omega); omega]
  refine lv_aload_n hx hb dL_law_219 rfl (lv_at hl 3 rfl) ?_
  refine lv_iload_n hx hb dL_law_220 rfl (lv_at hl 0 rfl) ?_
  refine lv_iconst (v := 3) hx hb dL_law_221 (by decide) ?_
  refine lv_iadd hx hb dL_law_222 ?_
  refine lv_topi (fun v5 ev5 => ?_)
  have hv5 := i_add (Eq.refl i.toInt) (show (3 : Int32).toInt = 3 by decide) ev5 (by omega) (by omega)
  refine va_sld hx hb hX hbl hbA hS (vp_in_iff.mpr ⟨by omega, by omega⟩) dL_law_223 ?_
  refine lv_topi (fun v6 ev6 => ?_)
  obtain rfl : v6 = (xs (i.toInt.toNat + 3)) := by rw [ev6, show v5.toNatClampNeg = i.toInt.toNat + 3 by have c9 := clampI (x := v5) (by omega); omega]
  refine ok1 hT htx (fun p48 a7 a8 a9 a10 a11 x12 x13 x14 a15 a16 a17 a18 a19 a20 a21 a22 a23 x24 a25 a26 hk49 h27 h28 h29 h30 h31 h32 h33 h34 h35 h36 h37 h38 h39 h40 h41 h42 h43 h44 h45 h46 h47 => ?_)
  refine cgR (rn_V (As := [.int (xs (i.toInt.toNat + 1)), .int (xs (i.toInt.toNat + 2)), .int (xs (i.toInt.toNat + 3))]) (rest := []) (b := x) (x_starS l D Y Z H.size ws T g q x (xs (i.toInt.toNat + 1)) (xs (i.toInt.toNat + 2)) (xs (i.toInt.toNat + 3)) hT htx) ⟨hx, hb, hml, hown, hg⟩ lk_L_13 ⟨CPC.blind, va_recv hKN.1 (P_r hP) (ci := 10) (q0 := p48) rfl hk49, CPC.at (P_r hP) hKN (D_r hD) hSZ hS hA⟩ ⟨⟨rfl, rfl⟩, ⟨Nat.le_of_ble_eq_true rfl, Nat.le_of_ble_eq_true rfl⟩, ⟨(show _ ≤ (600000 : Nat) by omega), (show _ ≤ (7302250 : Nat) by omega)⟩⟩ hl.1 rfl (Nat.le_of_ble_eq_true rfl) dL_law_224) hP hD hS hA (fun u50 H locs hw51 hP hD hS => ?_)
  refine W.widen (k := (bd + 2)) (n := (sd + 604)) (by omega) (by omega) ?_
  obtain ⟨u52, w53, T54, g55, q56⟩ := u50
  obtain ⟨le57, hT, ke58, ke59, gj60, qj61, hw62⟩ : TLe T T54 ∧ TW Y Z T54 g55 q56 w53 ∧ KF 1 T ws w53 ∧ KF 6 T ws w53 ∧ GJ T 0 g g55 ∧ QJ T 0 q q56 ∧ (∀ s0 sr, q x 0 = some s0 → q s0 1 = some sr → (((1 ≤ (xs (i.toInt.toNat + 1)).toInt ∧ (xs (i.toInt.toNat + 1)).toInt ≤ 999) ∧ (0 ≤ (xs (i.toInt.toNat + 2)).toInt ∧ (xs (i.toInt.toNat + 2)).toInt ≤ 7) ∧ (1 ≤ (xs (i.toInt.toNat + 3)).toInt ∧ (xs (i.toInt.toNat + 3)).toInt ≤ 1000)) ∧ ((u52.toInt = -1 ∧ 12 ≤ (g s0 0).toInt ∧ g55 = g ∧ q56 = q) ∨ ((g s0 0).toInt < 12 ∧ u52.toInt = (g s0 0).toInt ∧ ADS T T54 g g55 q q56 0 s0 sr (g s0 0).toNatClampNeg (xs (i.toInt.toNat + 1))))) ∨ (¬ ((1 ≤ (xs (i.toInt.toNat + 1)).toInt ∧ (xs (i.toInt.toNat + 1)).toInt ≤ 999) ∧ (0 ≤ (xs (i.toInt.toNat + 2)).toInt ∧ (xs (i.toInt.toNat + 2)).toInt ≤ 7) ∧ (1 ≤ (xs (i.toInt.toNat + 3)).toInt ∧ (xs (i.toInt.toNat + 3)).toInt ≤ 1000)) ∧ u52.toInt = -1 ∧ g55 = g ∧ q56 = q)) := hw51
  have hk63 := ke58 _ _ hk49 (show (T x).1 = 1 by rw [htx])
  refine W.eq (g2 := F0 m 227 ls [.int u52]) rfl ?_
  refine lv_pop hx hb dL_law_227 rfl ?_
  refine lv_aload_n hx hb dL_law_228 rfl (lv_at hl 1 rfl) ?_
  refine lv_aload_n hx hb dL_law_229 rfl (lv_at hl 3 rfl) ?_
  refine lv_iload_n hx hb dL_law_230 rfl (lv_at hl 0 rfl) ?_
  refine lv_iconst (v := 1) hx hb dL_law_231 (by decide) ?_
  refine lv_iadd hx hb dL_law_232 ?_
  refine lv_topi (fun v64 ev64 => ?_)
  have hv64 := i_add (Eq.refl i.toInt) (show (1 : Int32).toInt = 1 by decide) ev64 (by omega) (by omega)
  refine va_sld hx hb hX hbl hbA hS (vp_in_iff.mpr ⟨by omega, by omega⟩) dL_law_233 ?_
  refine lv_topi (fun v65 ev65 => ?_)
  obtain rfl : v65 = (xs (i.toInt.toNat + 1)) := by rw [ev65, show v64.toNatClampNeg = i.toInt.toNat + 1 by have c9 := clampI (x := v64) (by omega); omega]
  refine lv_aload_n hx hb dL_law_234 rfl (lv_at hl 3 rfl) ?_
  refine lv_iload_n hx hb dL_law_235 rfl (lv_at hl 0 rfl) ?_
  refine lv_iconst (v := 2) hx hb dL_law_236 (by decide) ?_
  refine lv_iadd hx hb dL_law_237 ?_
  refine lv_topi (fun v66 ev66 => ?_)
  have hv66 := i_add (Eq.refl i.toInt) (show (2 : Int32).toInt = 2 by decide) ev66 (by omega) (by omega)
  refine va_sld hx hb hX hbl hbA hS (vp_in_iff.mpr ⟨by omega, by omega⟩) dL_law_238 ?_
  refine lv_topi (fun v67 ev67 => ?_)
  obtain rfl : v67 = (xs (i.toInt.toNat + 2)) := by rw [ev67, show v66.toNatClampNeg = i.toInt.toNat + 2 by have c9 := clampI (x := v66) (by omega); omega]
  refine lv_aload_n hx hb dL_law_239 rfl (lv_at hl 3 rfl) ?_
  refine lv_iload_n hx hb dL_law_240 rfl (lv_at hl 0 rfl) ?_
  refine lv_iconst (v := 3) hx hb dL_law_241 (by decide) ?_
  refine lv_iadd hx hb dL_law_242 ?_
  refine lv_topi (fun v68 ev68 => ?_)
  have hv68 := i_add (Eq.refl i.toInt) (show (3 : Int32).toInt = 3 by decide) ev68 (by omega) (by omega)
  refine va_sld hx hb hX hbl hbA hS (vp_in_iff.mpr ⟨by omega, by omega⟩) dL_law_243 ?_
  refine lv_topi (fun v69 ev69 => ?_)
  obtain rfl : v69 = (xs (i.toInt.toNat + 3)) := by rw [ev69, show v68.toNatClampNeg = i.toInt.toNat + 3 by have c9 := clampI (x := v68) (by omega); omega]
  refine cgL (X := (MW Y om a I J F G)) (ws := w53) (rn_V (As := [.int (xs (i.toInt.toNat + 1)), .int (xs (i.toInt.toNat + 2)), .int (xs (i.toInt.toNat + 3))]) (rest := []) (b := om) (m_starS l D Y Z H.size om a I J F G (xs (i.toInt.toNat + 1)) (xs (i.toInt.toNat + 2)) (xs (i.toInt.toNat + 3)) hm0 KS.rf KD.rf) ⟨hx, hb, hml, hown, hg⟩ lk_L_17 ⟨CP.blind, va_recv hKN.1 (P_l hP) (ci := 11) (q0 := 0) rfl rfl, CP.at (P_l hP) hKN (D_l hD)⟩ ⟨⟨rfl, rfl⟩, ⟨Nat.le_of_ble_eq_true rfl, Nat.le_of_ble_eq_true rfl⟩, ⟨(show _ ≤ (600000 : Nat) by omega), (show _ ≤ (7302250 : Nat) by omega)⟩⟩ hl.1 rfl (Nat.le_of_ble_eq_true rfl) dL_law_244) hP hD hS hA (fun u70 H locs hw71 hP hD hS => ?_)
  refine W.widen (k := (bd + 2)) (n := (sd + 604)) (by omega) (by omega) ?_
  obtain ⟨u72, f73⟩ := u70
  obtain ⟨hw74, hw75, hw76⟩ : TO f73 ∧ KD (F 0) f73 ∧ (((¬ (((F 0) 0).toInt < 12 ∧ (1 ≤ (xs (i.toInt.toNat + 1)).toInt ∧ (xs (i.toInt.toNat + 1)).toInt ≤ 999) ∧ (0 ≤ (xs (i.toInt.toNat + 2)).toInt ∧ (xs (i.toInt.toNat + 2)).toInt ≤ 7) ∧ (1 ≤ (xs (i.toInt.toNat + 3)).toInt ∧ (xs (i.toInt.toNat + 3)).toInt ≤ 1000)) ∧ u72.toInt = -1 ∧ KS (F 0) f73) ∨ ((((F 0) 0).toInt < 12 ∧ (1 ≤ (xs (i.toInt.toNat + 1)).toInt ∧ (xs (i.toInt.toNat + 1)).toInt ≤ 999) ∧ (0 ≤ (xs (i.toInt.toNat + 2)).toInt ∧ (xs (i.toInt.toNat + 2)).toInt ≤ 7) ∧ (1 ≤ (xs (i.toInt.toNat + 3)).toInt ∧ (xs (i.toInt.toNat + 3)).toInt ≤ 1000)) ∧ u72.toInt = ((F 0) 0).toInt ∧ KN1 ((F 0) 0).toNatClampNeg (xs (i.toInt.toNat + 1)) (F 0) f73))) := hw71
  refine W.eq (g2 := F0 m 247 ls [.int u72]) rfl ?_
  have hP : va_P D vwCl ((MW Y om a I J (vf_upd F 0 f73) G) ++ w53) H := hP
  have hD : va_D A ((MW Y om a I J (vf_upd F 0 f73) G) ++ w53) := hD
  have hR77E := LN.star (F2 := (vf_upd F 0 f73)) hLR.1 htx le57 gj60 qj61 hw62 hw76 (TO_0 hm0).1 rfl rfl rfl
  have hR77 := hR77E.2
  have hR77E := hR77E.1
  have hD78 : LD T54 g55 q56 x (vf_upd F 0 f73) := LD.star hLR.2 hLR.1 htx le57 gj60 qj61 hw62 hw75 rfl
  have hR77 : LC T54 g55 q56 x (vf_upd F 0 f73) := ⟨hR77, hD78⟩
  refine lv_pop hx hb dL_law_247 rfl ?_
  refine lv_goto (tgt := 1878) hx hb dL_law_248 (by decide) ?_
  exact hK I J (vf_upd F 0 f73) G w53 T54 g55 q56 _ _ H locs ls (by omega) (by omega) ⟨hP, hD, hS, lv_sub hl [0, 1, 2, 3] rfl, hT, (le57.up htx), hR77, hw74, hm1, hm2, hm3, hm4, hm5, (show 0 ≤ (I 3).toInt ∧ (I 3).toInt ≤ 400 by omega)⟩
set_option maxHeartbeats 4000000 in
set_option maxRecDepth 100000 in
theorem lc_1 {p : Program} {l : Launch} {e : Env} {s : State} {m : MethodId} {below : List Frame} {meth : Method} {c : Code} {sb L : Nat} {xs : Nat → Int32} (C0 : lw_At p s m meth c sb L xs) {D : va_G} {Y : Nat → ClassId} {Z : Nat → Nat} (hKN : KN D Y Z s) {A : Nat → Prop} (hSZ : SZ Z A s s.heap) (hA : ∀ q, s.heap.size ≤ q → A q) (hA2 : ∀ q, A q → s.heap.size ≤ q) {x om : Nat} {a : Nat → Nat} {H : Heap} {locs : List Loc} {ls : Array Slot} {I : Nat → Int32} {J : Nat → Int64} {F : Nat → Nat → Int32} {G : Nat → Nat → Int64} {ws : va_W} {T : RT} {g : GN} {q : GQ} {i : Int32} {bd sd : Nat} (hL : L ≤ 3584) (hi : 0 ≤ i.toInt ∧ i.toInt + 7 ≤ (L : Int)) (hbd : bd + 1092 ≤ 600000) (hsd : sd + 7753 ≤ 7302250) (hI : LI D Y Z A s sb x om a H locs ls I J F G ws T g q i) (hK : ∀ (I : Nat → Int32) (J : Nat → Int64) (F : Nat → Nat → Int32) (G : Nat → Nat → Int64) (ws : va_W) (T : RT) (g : GN) (q : GQ) (bd2 sd2 : Nat) (H : Heap) (locs : List Loc) (ls : Array Slot), bd2 ≤ bd + 1092 → sd2 ≤ sd + 7753 → LI D Y Z A s sb x om a H locs ls I J F G ws T g q i → W p l e room_1 s m #[Value.ref sb] below meth c H locs bd2 sd2 (lw_Z below #[Value.ref sb] s) (F0 m 1878 ls [])) : W p l e room_1 s m #[Value.ref sb] below meth c H locs bd sd (lw_Z below #[Value.ref sb] s) (F0 m 251 ls []) := by
  obtain ⟨hx, hb, hr, hml, hown, hts, hX, hbl, hlocks, hgv⟩ := id C0
  have hb : c.code = cL_law := hb
  have hown : s.vm.findClass RL = some m.cls := hown
  have hg : ∀ w ∈ GW, w.before #[Value.ref sb] s = true := fun w h => hts w (gw_tbl h)
  have hbA : ¬ A sb := fun h => absurd (hA2 sb h) (Nat.not_le.mpr hbl)
  obtain ⟨hP, hD, hS, hl, hT, htx, hLR, hm0, hm1, hm2, hm3, hm4, hm5, hm6⟩ := hI
  refine lv_aload_n hx hb dL_law_251 rfl (lv_at hl 2 rfl) ?_
  refine lv_aload_n hx hb dL_law_252 rfl (lv_at hl 3 rfl) ?_
  refine lv_iload_n hx hb dL_law_253 rfl (lv_at hl 0 rfl) ?_
  refine lv_iconst (v := 1) hx hb dL_law_254 (by decide) ?_
  refine lv_iadd hx hb dL_law_255 ?_
  refine lv_topi (fun v1 ev1 => ?_)
  have hv1 := i_add (Eq.refl i.toInt) (show (1 : Int32).toInt = 1 by decide) ev1 (by omega) (by omega)
  refine va_sld hx hb hX hbl hbA hS (vp_in_iff.mpr ⟨by omega, by omega⟩) dL_law_256 ?_
  refine lv_topi (fun v2 ev2 => ?_)
  obtain rfl : v2 = (xs (i.toInt.toNat + 1)) := by rw [ev2, show v1.toNatClampNeg = i.toInt.toNat + 1 by have c9 := clampI (x := v1) (by omega); omega]
  refine lv_aload_n hx hb dL_law_257 rfl (lv_at hl 3 rfl) ?_
  refine lv_iload_n hx hb dL_law_258 rfl (lv_at hl 0 rfl) ?_
  refine lv_iconst (v := 2) hx hb dL_law_259 (by decide) ?_
  refine lv_iadd hx hb dL_law_260 ?_
  refine lv_topi (fun v3 ev3 => ?_)
  have hv3 := i_add (Eq.refl i.toInt) (show (2 : Int32).toInt = 2 by decide) ev3 (by omega) (by omega)
  refine va_sld hx hb hX hbl hbA hS (vp_in_iff.mpr ⟨by omega, by omega⟩) dL_law_261 ?_
  refine lv_topi (fun v4 ev4 => ?_)
  obtain rfl : v4 = (xs (i.toInt.toNat + 2)) := by rw [ev4, show v3.toNatClampNeg = i.toInt.toNat + 2 by have c9 := clampI (x := v3) (by omega); omega]
  refine lv_aload_n hx hb dL_law_262 rfl (lv_at hl 3 rfl) ?_
  refine lv_iload_n hx hb dL_law_263 rfl (lv_at hl 0 rfl) ?_
  refine lv_iconst (v := 3) hx hb dL_law_264 (by decide) ?_
  refine lv_iadd hx hb dL_law_265 ?_
  refine lv_topi (fun v5 ev5 => ?_)
  have hv5 := i_add (Eq.refl i.toInt) (show (3 : Int32).toInt = 3 by decide) ev5 (by omega) (by omega)
  refine va_sld hx hb hX hbl hbA hS (vp_in_iff.mpr ⟨by omega, by omega⟩) dL_law_266 ?_
  refine lv_topi (fun v6 ev6 => ?_)
  obtain rfl : v6 = (xs (i.toInt.toNat + 3)) := by rw [ev6, show v5.toNatClampNeg = i.toInt.toNat + 3 by have c9 := clampI (x := v5) (by omega); omega]
  refine ok1 hT htx (fun p48 a7 a8 a9 a10 a11 x12 x13 x14 a15 a16 a17 a18 a19 a20 a21 a22 a23 x24 a25 a26 hk49 h27 h28 h29 h30 h31 h32 h33 h34 h35 h36 h37 h38 h39 h40 h41 h42 h43 h44 h45 h46 h47 => ?_)
  refine cgR (rn_V (As := [.int (xs (i.toInt.toNat + 1)), .int (xs (i.toInt.toNat + 2)), .int (xs (i.toInt.toNat + 3))]) (rest := []) (b := x) (x_X10_row l D Y Z H.size ws T g q x (xs (i.toInt.toNat + 1)) (xs (i.toInt.toNat + 2)) (xs (i.toInt.toNat + 3)) hT htx) ⟨hx, hb, hml, hown, hg⟩ lk_L_18 ⟨CPC.blind, va_recv hKN.1 (P_r hP) (ci := 10) (q0 := p48) rfl hk49, CPC.at (P_r hP) hKN (D_r hD) hSZ hS hA⟩ ⟨⟨rfl, rfl⟩, ⟨Nat.le_of_ble_eq_true rfl, Nat.le_of_ble_eq_true rfl⟩, ⟨(show _ ≤ (600000 : Nat) by omega), (show _ ≤ (7302250 : Nat) by omega)⟩⟩ hl.1 rfl (Nat.le_of_ble_eq_true rfl) dL_law_267) hP hD hS hA (fun u50 H locs hw51 hP hD hS => ?_)
  obtain ⟨u52, w53⟩ := u50
  obtain ⟨hT, ke54⟩ : TW Y Z T g q w53 ∧ KF 6 T ws w53 := hw51
  refine W.eq (g2 := F0 m 270 ls [.int u52]) rfl ?_
  refine lv_pop hx hb dL_law_270 rfl ?_
  refine lv_aload_n hx hb dL_law_271 rfl (lv_at hl 1 rfl) ?_
  refine lv_aload_n hx hb dL_law_272 rfl (lv_at hl 3 rfl) ?_
  refine lv_iload_n hx hb dL_law_273 rfl (lv_at hl 0 rfl) ?_
  refine lv_iconst (v := 1) hx hb dL_law_274 (by decide) ?_
  refine lv_iadd hx hb dL_law_275 ?_
  refine lv_topi (fun v55 ev55 => ?_)
  have hv55 := i_add (Eq.refl i.toInt) (show (1 : Int32).toInt = 1 by decide) ev55 (by omega) (by omega)
  refine va_sld hx hb hX hbl hbA hS (vp_in_iff.mpr ⟨by omega, by omega⟩) dL_law_276 ?_
  refine lv_topi (fun v56 ev56 => ?_)
  obtain rfl : v56 = (xs (i.toInt.toNat + 1)) := by rw [ev56, show v55.toNatClampNeg = i.toInt.toNat + 1 by have c9 := clampI (x := v55) (by omega); omega]
  refine lv_aload_n hx hb dL_law_277 rfl (lv_at hl 3 rfl) ?_
  refine lv_iload_n hx hb dL_law_278 rfl (lv_at hl 0 rfl) ?_
  refine lv_iconst (v := 2) hx hb dL_law_279 (by decide) ?_
  refine lv_iadd hx hb dL_law_280 ?_
  refine lv_topi (fun v57 ev57 => ?_)
  have hv57 := i_add (Eq.refl i.toInt) (show (2 : Int32).toInt = 2 by decide) ev57 (by omega) (by omega)
  refine va_sld hx hb hX hbl hbA hS (vp_in_iff.mpr ⟨by omega, by omega⟩) dL_law_281 ?_
  refine lv_topi (fun v58 ev58 => ?_)
  obtain rfl : v58 = (xs (i.toInt.toNat + 2)) := by rw [ev58, show v57.toNatClampNeg = i.toInt.toNat + 2 by have c9 := clampI (x := v57) (by omega); omega]
  refine lv_aload_n hx hb dL_law_282 rfl (lv_at hl 3 rfl) ?_
  refine lv_iload_n hx hb dL_law_283 rfl (lv_at hl 0 rfl) ?_
  refine lv_iconst (v := 3) hx hb dL_law_284 (by decide) ?_
  refine lv_iadd hx hb dL_law_285 ?_
  refine lv_topi (fun v59 ev59 => ?_)
  have hv59 := i_add (Eq.refl i.toInt) (show (3 : Int32).toInt = 3 by decide) ev59 (by omega) (by omega)
  refine va_sld hx hb hX hbl hbA hS (vp_in_iff.mpr ⟨by omega, by omega⟩) dL_law_286 ?_
  refine lv_topi (fun v60 ev60 => ?_)
  obtain rfl : v60 = (xs (i.toInt.toNat + 3)) := by rw [ev60, show v59.toNatClampNeg = i.toInt.toNat + 3 by have c9 := clampI (x := v59) (by omega); omega]
  refine cgL (X := (MW Y om a I J F G)) (ws := w53) (rn_V (As := [.int (xs (i.toInt.toNat + 1)), .int (xs (i.toInt.toNat + 2)), .int (xs (i.toInt.toNat + 3))]) (rest := []) (b := om) (m_rowS l D Y Z H.size om a I J F G (xs (i.toInt.toNat + 1)) (xs (i.toInt.toNat + 2)) (xs (i.toInt.toNat + 3)) hm0 KS.rf KD.rf) ⟨hx, hb, hml, hown, hg⟩ lk_L_21 ⟨CP.blind, va_recv hKN.1 (P_l hP) (ci := 11) (q0 := 0) rfl rfl, CP.at (P_l hP) hKN (D_l hD)⟩ ⟨⟨rfl, rfl⟩, ⟨Nat.le_of_ble_eq_true rfl, Nat.le_of_ble_eq_true rfl⟩, ⟨(show _ ≤ (600000 : Nat) by omega), (show _ ≤ (7302250 : Nat) by omega)⟩⟩ hl.1 rfl (Nat.le_of_ble_eq_true rfl) dL_law_287) hP hD hS hA (fun u61 H locs hw62 hP hD hS => ?_)
  refine W.widen (k := (bd + 0)) (n := (sd + 0)) (by omega) (by omega) ?_
  obtain ⟨u63, f64⟩ := u61
  obtain ⟨hw65, hw66, hw67⟩ : TO f64 ∧ KS (F 0) f64 ∧ KD (F 0) f64 := hw62
  refine W.eq (g2 := F0 m 290 ls [.int u63]) rfl ?_
  have hP : va_P D vwCl ((MW Y om a I J (vf_upd F 0 f64) G) ++ w53) H := hP
  have hD : va_D A ((MW Y om a I J (vf_upd F 0 f64) G) ++ w53) := hD
  have hR68 : LN T g q x (vf_upd F 0 f64) := LN.keep hLR.1 htx TLe.rf hw66 rfl rfl
  have hD69 : LD T g q x (vf_upd F 0 f64) := LD.keep hLR.2 htx TLe.rf hw67 rfl
  have hR68 : LC T g q x (vf_upd F 0 f64) := ⟨hR68, hD69⟩
  refine lv_pop hx hb dL_law_290 rfl ?_
  refine lv_goto (tgt := 1878) hx hb dL_law_291 (by decide) ?_
  exact hK I J (vf_upd F 0 f64) G w53 T g q _ _ H locs ls (by omega) (by omega) ⟨hP, hD, hS, lv_sub hl [0, 1, 2, 3] rfl, hT, htx, hR68, hw65, hm1, hm2, hm3, hm4, hm5, (show 0 ≤ (I 3).toInt ∧ (I 3).toInt ≤ 400 by omega)⟩
set_option maxHeartbeats 4000000 in
set_option maxRecDepth 100000 in
theorem lc_2 {p : Program} {l : Launch} {e : Env} {s : State} {m : MethodId} {below : List Frame} {meth : Method} {c : Code} {sb L : Nat} {xs : Nat → Int32} (C0 : lw_At p s m meth c sb L xs) {D : va_G} {Y : Nat → ClassId} {Z : Nat → Nat} (hKN : KN D Y Z s) {A : Nat → Prop} (hSZ : SZ Z A s s.heap) (hA : ∀ q, s.heap.size ≤ q → A q) (hA2 : ∀ q, A q → s.heap.size ≤ q) {x om : Nat} {a : Nat → Nat} {H : Heap} {locs : List Loc} {ls : Array Slot} {I : Nat → Int32} {J : Nat → Int64} {F : Nat → Nat → Int32} {G : Nat → Nat → Int64} {ws : va_W} {T : RT} {g : GN} {q : GQ} {i : Int32} {bd sd : Nat} (hL : L ≤ 3584) (hi : 0 ≤ i.toInt ∧ i.toInt + 7 ≤ (L : Int)) (hbd : bd + 1092 ≤ 600000) (hsd : sd + 7753 ≤ 7302250) (hI : LI D Y Z A s sb x om a H locs ls I J F G ws T g q i) (hK : ∀ (I : Nat → Int32) (J : Nat → Int64) (F : Nat → Nat → Int32) (G : Nat → Nat → Int64) (ws : va_W) (T : RT) (g : GN) (q : GQ) (bd2 sd2 : Nat) (H : Heap) (locs : List Loc) (ls : Array Slot), bd2 ≤ bd + 1092 → sd2 ≤ sd + 7753 → LI D Y Z A s sb x om a H locs ls I J F G ws T g q i → W p l e room_1 s m #[Value.ref sb] below meth c H locs bd2 sd2 (lw_Z below #[Value.ref sb] s) (F0 m 1878 ls [])) : W p l e room_1 s m #[Value.ref sb] below meth c H locs bd sd (lw_Z below #[Value.ref sb] s) (F0 m 294 ls []) := by
  obtain ⟨hx, hb, hr, hml, hown, hts, hX, hbl, hlocks, hgv⟩ := id C0
  have hb : c.code = cL_law := hb
  have hown : s.vm.findClass RL = some m.cls := hown
  have hg : ∀ w ∈ GW, w.before #[Value.ref sb] s = true := fun w h => hts w (gw_tbl h)
  have hbA : ¬ A sb := fun h => absurd (hA2 sb h) (Nat.not_le.mpr hbl)
  obtain ⟨hP, hD, hS, hl, hT, htx, hLR, hm0, hm1, hm2, hm3, hm4, hm5, hm6⟩ := hI
  refine lv_aload_n hx hb dL_law_294 rfl (lv_at hl 2 rfl) ?_
  refine lv_aload_n hx hb dL_law_295 rfl (lv_at hl 3 rfl) ?_
  refine lv_iload_n hx hb dL_law_296 rfl (lv_at hl 0 rfl) ?_
  refine lv_iconst (v := 1) hx hb dL_law_297 (by decide) ?_
  refine lv_iadd hx hb dL_law_298 ?_
  refine lv_topi (fun v1 ev1 => ?_)
  have hv1 := i_add (Eq.refl i.toInt) (show (1 : Int32).toInt = 1 by decide) ev1 (by omega) (by omega)
  refine va_sld hx hb hX hbl hbA hS (vp_in_iff.mpr ⟨by omega, by omega⟩) dL_law_299 ?_
  refine lv_topi (fun v2 ev2 => ?_)
  obtain rfl : v2 = (xs (i.toInt.toNat + 1)) := by rw [ev2, show v1.toNatClampNeg = i.toInt.toNat + 1 by have c9 := clampI (x := v1) (by omega); omega]
  refine lv_aload_n hx hb dL_law_300 rfl (lv_at hl 3 rfl) ?_
  refine lv_iload_n hx hb dL_law_301 rfl (lv_at hl 0 rfl) ?_
  refine lv_iconst (v := 2) hx hb dL_law_302 (by decide) ?_
  refine lv_iadd hx hb dL_law_303 ?_
  refine lv_topi (fun v3 ev3 => ?_)
  have hv3 := i_add (Eq.refl i.toInt) (show (2 : Int32).toInt = 2 by decide) ev3 (by omega) (by omega)
  refine va_sld hx hb hX hbl hbA hS (vp_in_iff.mpr ⟨by omega, by omega⟩) dL_law_304 ?_
  refine lv_topi (fun v4 ev4 => ?_)
  obtain rfl : v4 = (xs (i.toInt.toNat + 2)) := by rw [ev4, show v3.toNatClampNeg = i.toInt.toNat + 2 by have c9 := clampI (x := v3) (by omega); omega]
  refine ok1 hT htx (fun p46 a5 a6 a7 a8 a9 x10 x11 x12 a13 a14 a15 a16 a17 a18 a19 a20 a21 x22 a23 a24 hk47 h25 h26 h27 h28 h29 h30 h31 h32 h33 h34 h35 h36 h37 h38 h39 h40 h41 h42 h43 h44 h45 => ?_)
  refine cgR (rn_V (As := [.int (xs (i.toInt.toNat + 1)), .int (xs (i.toInt.toNat + 2))]) (rest := []) (b := x) (x_resizeS l D Y Z H.size ws T g q x (xs (i.toInt.toNat + 1)) (xs (i.toInt.toNat + 2)) hT htx) ⟨hx, hb, hml, hown, hg⟩ lk_L_22 ⟨CPC.blind, va_recv hKN.1 (P_r hP) (ci := 10) (q0 := p46) rfl hk47, CPC.at (P_r hP) hKN (D_r hD) hSZ hS hA⟩ ⟨⟨rfl, rfl⟩, ⟨Nat.le_of_ble_eq_true rfl, Nat.le_of_ble_eq_true rfl⟩, ⟨(show _ ≤ (600000 : Nat) by omega), (show _ ≤ (7302250 : Nat) by omega)⟩⟩ hl.1 rfl (Nat.le_of_ble_eq_true rfl) dL_law_305) hP hD hS hA (fun u48 H locs hw49 hP hD hS => ?_)
  obtain ⟨u50, w51, g52⟩ := u48
  obtain ⟨hT, ke53, ke54, ge55, gj56, hw57⟩ : TW Y Z T g52 q w51 ∧ KF 1 T ws w51 ∧ KF 6 T ws w51 ∧ GE T g g52 ∧ GJ T 0 g g52 ∧ (∀ s0 sr, q x 0 = some s0 → q s0 1 = some sr → NNL g q s0 sr → (((0 ≤ (xs (i.toInt.toNat + 1)).toInt ∧ (xs (i.toInt.toNat + 1)).toInt < (g s0 0).toInt) ∧ (1 ≤ (xs (i.toInt.toNat + 2)).toInt ∧ (xs (i.toInt.toNat + 2)).toInt ≤ 999)) ∧ RSZ g g52 q sr (xs (i.toInt.toNat + 1)).toNatClampNeg u50 (xs (i.toInt.toNat + 2))) ∨ (¬ ((0 ≤ (xs (i.toInt.toNat + 1)).toInt ∧ (xs (i.toInt.toNat + 1)).toInt < (g s0 0).toInt) ∧ (1 ≤ (xs (i.toInt.toNat + 2)).toInt ∧ (xs (i.toInt.toNat + 2)).toInt ≤ 999)) ∧ u50.toInt = -1 ∧ g52 = g)) := hw49
  have hk58 := ke53 _ _ hk47 (show (T x).1 = 1 by rw [htx])
  have ge59 : GE T g g52 := GE.tr GE.rf ge55
  refine W.eq (g2 := F0 m 308 ls [.int u50]) rfl ?_
  refine lv_pop hx hb dL_law_308 rfl ?_
  refine lv_aload_n hx hb dL_law_309 rfl (lv_at hl 1 rfl) ?_
  refine lv_aload_n hx hb dL_law_310 rfl (lv_at hl 3 rfl) ?_
  refine lv_iload_n hx hb dL_law_311 rfl (lv_at hl 0 rfl) ?_
  refine lv_iconst (v := 1) hx hb dL_law_312 (by decide) ?_
  refine lv_iadd hx hb dL_law_313 ?_
  refine lv_topi (fun v60 ev60 => ?_)
  have hv60 := i_add (Eq.refl i.toInt) (show (1 : Int32).toInt = 1 by decide) ev60 (by omega) (by omega)
  refine va_sld hx hb hX hbl hbA hS (vp_in_iff.mpr ⟨by omega, by omega⟩) dL_law_314 ?_
  refine lv_topi (fun v61 ev61 => ?_)
  obtain rfl : v61 = (xs (i.toInt.toNat + 1)) := by rw [ev61, show v60.toNatClampNeg = i.toInt.toNat + 1 by have c9 := clampI (x := v60) (by omega); omega]
  refine lv_aload_n hx hb dL_law_315 rfl (lv_at hl 3 rfl) ?_
  refine lv_iload_n hx hb dL_law_316 rfl (lv_at hl 0 rfl) ?_
  refine lv_iconst (v := 2) hx hb dL_law_317 (by decide) ?_
  refine lv_iadd hx hb dL_law_318 ?_
  refine lv_topi (fun v62 ev62 => ?_)
  have hv62 := i_add (Eq.refl i.toInt) (show (2 : Int32).toInt = 2 by decide) ev62 (by omega) (by omega)
  refine va_sld hx hb hX hbl hbA hS (vp_in_iff.mpr ⟨by omega, by omega⟩) dL_law_319 ?_
  refine lv_topi (fun v63 ev63 => ?_)
  obtain rfl : v63 = (xs (i.toInt.toNat + 2)) := by rw [ev63, show v62.toNatClampNeg = i.toInt.toNat + 2 by have c9 := clampI (x := v62) (by omega); omega]
  refine cgL (X := (MW Y om a I J F G)) (ws := w51) (rn_V (As := [.int (xs (i.toInt.toNat + 1)), .int (xs (i.toInt.toNat + 2))]) (rest := []) (b := om) (m_resizeS l D Y Z H.size om a I J F G (xs (i.toInt.toNat + 1)) (xs (i.toInt.toNat + 2)) hm0 KS.rf KD.rf) ⟨hx, hb, hml, hown, hg⟩ lk_L_26 ⟨CP.blind, va_recv hKN.1 (P_l hP) (ci := 11) (q0 := 0) rfl rfl, CP.at (P_l hP) hKN (D_l hD)⟩ ⟨⟨rfl, rfl⟩, ⟨Nat.le_of_ble_eq_true rfl, Nat.le_of_ble_eq_true rfl⟩, ⟨(show _ ≤ (600000 : Nat) by omega), (show _ ≤ (7302250 : Nat) by omega)⟩⟩ hl.1 rfl (Nat.le_of_ble_eq_true rfl) dL_law_320) hP hD hS hA (fun u64 H locs hw65 hP hD hS => ?_)
  refine W.widen (k := (bd + 0)) (n := (sd + 0)) (by omega) (by omega) ?_
  obtain ⟨u66, f67⟩ := u64
  obtain ⟨hw68, hw69, hw70⟩ : TO f67 ∧ KD (F 0) f67 ∧ (((((0 ≤ (xs (i.toInt.toNat + 1)).toInt ∧ (xs (i.toInt.toNat + 1)).toInt < ((F 0) 0).toInt) ∧ (1 ≤ (xs (i.toInt.toNat + 2)).toInt ∧ (xs (i.toInt.toNat + 2)).toInt ≤ 999)) ∧ u66 = (F 0) (3 + 3 * (xs (i.toInt.toNat + 1)).toNatClampNeg) ∧ KR (xs (i.toInt.toNat + 1)).toNatClampNeg (xs (i.toInt.toNat + 2)) (F 0) f67) ∨ (¬ ((0 ≤ (xs (i.toInt.toNat + 1)).toInt ∧ (xs (i.toInt.toNat + 1)).toInt < ((F 0) 0).toInt) ∧ (1 ≤ (xs (i.toInt.toNat + 2)).toInt ∧ (xs (i.toInt.toNat + 2)).toInt ≤ 999)) ∧ u66.toInt = -1 ∧ KS (F 0) f67))) := hw65
  refine W.eq (g2 := F0 m 323 ls [.int u66]) rfl ?_
  have hP : va_P D vwCl ((MW Y om a I J (vf_upd F 0 f67) G) ++ w51) H := hP
  have hD : va_D A ((MW Y om a I J (vf_upd F 0 f67) G) ++ w51) := hD
  have hR71E := LN.rz (F2 := (vf_upd F 0 f67)) hLR.1 htx gj56 hw57 hw70 rfl rfl rfl
  have hR71 := hR71E.2
  have hR71E := hR71E.1
  have hD72 : LD T g52 q x (vf_upd F 0 f67) := LD.ge hLR.2 htx ge55 gj56 hw69 rfl
  have hR71 : LC T g52 q x (vf_upd F 0 f67) := ⟨hR71, hD72⟩
  refine lv_pop hx hb dL_law_323 rfl ?_
  refine lv_goto (tgt := 1878) hx hb dL_law_324 (by decide) ?_
  exact hK I J (vf_upd F 0 f67) G w51 T g52 q _ _ H locs ls (by omega) (by omega) ⟨hP, hD, hS, lv_sub hl [0, 1, 2, 3] rfl, hT, htx, hR71, hw68, hm1, hm2, hm3, hm4, hm5, (show 0 ≤ (I 3).toInt ∧ (I 3).toInt ≤ 400 by omega)⟩
set_option maxHeartbeats 4000000 in
set_option maxRecDepth 100000 in
theorem lc_3 {p : Program} {l : Launch} {e : Env} {s : State} {m : MethodId} {below : List Frame} {meth : Method} {c : Code} {sb L : Nat} {xs : Nat → Int32} (C0 : lw_At p s m meth c sb L xs) {D : va_G} {Y : Nat → ClassId} {Z : Nat → Nat} (hKN : KN D Y Z s) {A : Nat → Prop} (hSZ : SZ Z A s s.heap) (hA : ∀ q, s.heap.size ≤ q → A q) (hA2 : ∀ q, A q → s.heap.size ≤ q) {x om : Nat} {a : Nat → Nat} {H : Heap} {locs : List Loc} {ls : Array Slot} {I : Nat → Int32} {J : Nat → Int64} {F : Nat → Nat → Int32} {G : Nat → Nat → Int64} {ws : va_W} {T : RT} {g : GN} {q : GQ} {i : Int32} {bd sd : Nat} (hL : L ≤ 3584) (hi : 0 ≤ i.toInt ∧ i.toInt + 7 ≤ (L : Int)) (hbd : bd + 1092 ≤ 600000) (hsd : sd + 7753 ≤ 7302250) (hI : LI D Y Z A s sb x om a H locs ls I J F G ws T g q i) (hK : ∀ (I : Nat → Int32) (J : Nat → Int64) (F : Nat → Nat → Int32) (G : Nat → Nat → Int64) (ws : va_W) (T : RT) (g : GN) (q : GQ) (bd2 sd2 : Nat) (H : Heap) (locs : List Loc) (ls : Array Slot), bd2 ≤ bd + 1092 → sd2 ≤ sd + 7753 → LI D Y Z A s sb x om a H locs ls I J F G ws T g q i → W p l e room_1 s m #[Value.ref sb] below meth c H locs bd2 sd2 (lw_Z below #[Value.ref sb] s) (F0 m 1878 ls [])) : W p l e room_1 s m #[Value.ref sb] below meth c H locs bd sd (lw_Z below #[Value.ref sb] s) (F0 m 327 ls []) := by
  obtain ⟨hx, hb, hr, hml, hown, hts, hX, hbl, hlocks, hgv⟩ := id C0
  have hb : c.code = cL_law := hb
  have hown : s.vm.findClass RL = some m.cls := hown
  have hg : ∀ w ∈ GW, w.before #[Value.ref sb] s = true := fun w h => hts w (gw_tbl h)
  have hbA : ¬ A sb := fun h => absurd (hA2 sb h) (Nat.not_le.mpr hbl)
  obtain ⟨hP, hD, hS, hl, hT, htx, hLR, hm0, hm1, hm2, hm3, hm4, hm5, hm6⟩ := hI
  refine lv_aload_n hx hb dL_law_327 rfl (lv_at hl 2 rfl) ?_
  refine lv_aload_n hx hb dL_law_328 rfl (lv_at hl 3 rfl) ?_
  refine lv_iload_n hx hb dL_law_329 rfl (lv_at hl 0 rfl) ?_
  refine lv_iconst (v := 1) hx hb dL_law_330 (by decide) ?_
  refine lv_iadd hx hb dL_law_331 ?_
  refine lv_topi (fun v1 ev1 => ?_)
  have hv1 := i_add (Eq.refl i.toInt) (show (1 : Int32).toInt = 1 by decide) ev1 (by omega) (by omega)
  refine va_sld hx hb hX hbl hbA hS (vp_in_iff.mpr ⟨by omega, by omega⟩) dL_law_332 ?_
  refine lv_topi (fun v2 ev2 => ?_)
  obtain rfl : v2 = (xs (i.toInt.toNat + 1)) := by rw [ev2, show v1.toNatClampNeg = i.toInt.toNat + 1 by have c9 := clampI (x := v1) (by omega); omega]
  refine ok1 hT htx (fun p44 a3 a4 a5 a6 a7 x8 x9 x10 a11 a12 a13 a14 a15 a16 a17 a18 a19 x20 a21 a22 hk45 h23 h24 h25 h26 h27 h28 h29 h30 h31 h32 h33 h34 h35 h36 h37 h38 h39 h40 h41 h42 h43 => ?_)
  refine cgR (rn_V (As := [.int (xs (i.toInt.toNat + 1))]) (rest := []) (b := x) (x_wideS l D Y Z H.size ws T g q x (xs (i.toInt.toNat + 1)) hT htx) ⟨hx, hb, hml, hown, hg⟩ lk_L_27 ⟨CPC.blind, va_recv hKN.1 (P_r hP) (ci := 10) (q0 := p44) rfl hk45, CPC.at (P_r hP) hKN (D_r hD) hSZ hS hA⟩ ⟨⟨rfl, rfl⟩, ⟨Nat.le_of_ble_eq_true rfl, Nat.le_of_ble_eq_true rfl⟩, ⟨(show _ ≤ (600000 : Nat) by omega), (show _ ≤ (7302250 : Nat) by omega)⟩⟩ hl.1 rfl (Nat.le_of_ble_eq_true rfl) dL_law_333) hP hD hS hA (fun u46 H locs hw47 hP hD hS => ?_)
  obtain ⟨u48, w49, g50⟩ := u46
  obtain ⟨hT, ke51, gj52, hw53, hw54⟩ : TW Y Z T g50 q w49 ∧ KF 6 T ws w49 ∧ GJ T 0 g g50 ∧ (∀ s0, q x 0 = some s0 → GQE g g50 s0 7) ∧ (∀ s0, q x 0 = some s0 → UPE T g g50 s0 7) := hw47
  refine W.eq (g2 := F0 m 336 ls [.int u48]) rfl ?_
  refine lv_pop hx hb dL_law_336 rfl ?_
  refine lv_aload_n hx hb dL_law_337 rfl (lv_at hl 1 rfl) ?_
  refine lv_aload_n hx hb dL_law_338 rfl (lv_at hl 3 rfl) ?_
  refine lv_iload_n hx hb dL_law_339 rfl (lv_at hl 0 rfl) ?_
  refine lv_iconst (v := 1) hx hb dL_law_340 (by decide) ?_
  refine lv_iadd hx hb dL_law_341 ?_
  refine lv_topi (fun v55 ev55 => ?_)
  have hv55 := i_add (Eq.refl i.toInt) (show (1 : Int32).toInt = 1 by decide) ev55 (by omega) (by omega)
  refine va_sld hx hb hX hbl hbA hS (vp_in_iff.mpr ⟨by omega, by omega⟩) dL_law_342 ?_
  refine lv_topi (fun v56 ev56 => ?_)
  obtain rfl : v56 = (xs (i.toInt.toNat + 1)) := by rw [ev56, show v55.toNatClampNeg = i.toInt.toNat + 1 by have c9 := clampI (x := v55) (by omega); omega]
  refine cgL (X := (MW Y om a I J F G)) (ws := w49) (rn_V (As := [.int (xs (i.toInt.toNat + 1))]) (rest := []) (b := om) (m_wideS l D Y Z H.size om a I J F G (xs (i.toInt.toNat + 1)) hm0 KS.rf KD.rf) ⟨hx, hb, hml, hown, hg⟩ lk_L_31 ⟨CP.blind, va_recv hKN.1 (P_l hP) (ci := 11) (q0 := 0) rfl rfl, CP.at (P_l hP) hKN (D_l hD)⟩ ⟨⟨rfl, rfl⟩, ⟨Nat.le_of_ble_eq_true rfl, Nat.le_of_ble_eq_true rfl⟩, ⟨(show _ ≤ (600000 : Nat) by omega), (show _ ≤ (7302250 : Nat) by omega)⟩⟩ hl.1 rfl (Nat.le_of_ble_eq_true rfl) dL_law_343) hP hD hS hA (fun u57 H locs hw58 hP hD hS => ?_)
  refine W.widen (k := (bd + 0)) (n := (sd + 0)) (by omega) (by omega) ?_
  obtain ⟨u59, f60⟩ := u57
  obtain ⟨hw61, hw62, hw63⟩ : TO f60 ∧ KS (F 0) f60 ∧ KD (F 0) f60 := hw58
  refine W.eq (g2 := F0 m 346 ls [.int u59]) rfl ?_
  have hP : va_P D vwCl ((MW Y om a I J (vf_upd F 0 f60) G) ++ w49) H := hP
  have hD : va_D A ((MW Y om a I J (vf_upd F 0 f60) G) ++ w49) := hD
  have hR64 : LN T g50 q x (vf_upd F 0 f60) := LN.up hLR.1 htx 7 (Or.inl rfl) gj52 hw54 hw62 rfl rfl
  have hD65 : LD T g50 q x (vf_upd F 0 f60) := LD.eq1 hLR.2 htx TLe.rf 7 gj52 hw53 hw63 rfl
  have hR64 : LC T g50 q x (vf_upd F 0 f60) := ⟨hR64, hD65⟩
  refine lv_pop hx hb dL_law_346 rfl ?_
  refine lv_goto (tgt := 1878) hx hb dL_law_347 (by decide) ?_
  exact hK I J (vf_upd F 0 f60) G w49 T g50 q _ _ H locs ls (by omega) (by omega) ⟨hP, hD, hS, lv_sub hl [0, 1, 2, 3] rfl, hT, htx, hR64, hw61, hm1, hm2, hm3, hm4, hm5, (show 0 ≤ (I 3).toInt ∧ (I 3).toInt ≤ 400 by omega)⟩
set_option maxHeartbeats 4000000 in
set_option maxRecDepth 100000 in
theorem lc_4 {p : Program} {l : Launch} {e : Env} {s : State} {m : MethodId} {below : List Frame} {meth : Method} {c : Code} {sb L : Nat} {xs : Nat → Int32} (C0 : lw_At p s m meth c sb L xs) {D : va_G} {Y : Nat → ClassId} {Z : Nat → Nat} (hKN : KN D Y Z s) {A : Nat → Prop} (hSZ : SZ Z A s s.heap) (hA : ∀ q, s.heap.size ≤ q → A q) (hA2 : ∀ q, A q → s.heap.size ≤ q) {x om : Nat} {a : Nat → Nat} {H : Heap} {locs : List Loc} {ls : Array Slot} {I : Nat → Int32} {J : Nat → Int64} {F : Nat → Nat → Int32} {G : Nat → Nat → Int64} {ws : va_W} {T : RT} {g : GN} {q : GQ} {i : Int32} {bd sd : Nat} (hL : L ≤ 3584) (hi : 0 ≤ i.toInt ∧ i.toInt + 7 ≤ (L : Int)) (hbd : bd + 1092 ≤ 600000) (hsd : sd + 7753 ≤ 7302250) (hI : LI D Y Z A s sb x om a H locs ls I J F G ws T g q i) (hK : ∀ (I : Nat → Int32) (J : Nat → Int64) (F : Nat → Nat → Int32) (G : Nat → Nat → Int64) (ws : va_W) (T : RT) (g : GN) (q : GQ) (bd2 sd2 : Nat) (H : Heap) (locs : List Loc) (ls : Array Slot), bd2 ≤ bd + 1092 → sd2 ≤ sd + 7753 → LI D Y Z A s sb x om a H locs ls I J F G ws T g q i → W p l e room_1 s m #[Value.ref sb] below meth c H locs bd2 sd2 (lw_Z below #[Value.ref sb] s) (F0 m 1878 ls [])) : W p l e room_1 s m #[Value.ref sb] below meth c H locs bd sd (lw_Z below #[Value.ref sb] s) (F0 m 350 ls []) := by
  obtain ⟨hx, hb, hr, hml, hown, hts, hX, hbl, hlocks, hgv⟩ := id C0
  have hb : c.code = cL_law := hb
  have hown : s.vm.findClass RL = some m.cls := hown
  have hg : ∀ w ∈ GW, w.before #[Value.ref sb] s = true := fun w h => hts w (gw_tbl h)
  have hbA : ¬ A sb := fun h => absurd (hA2 sb h) (Nat.not_le.mpr hbl)
  obtain ⟨hP, hD, hS, hl, hT, htx, hLR, hm0, hm1, hm2, hm3, hm4, hm5, hm6⟩ := hI
  refine lv_aload_n hx hb dL_law_350 rfl (lv_at hl 2 rfl) ?_
  refine lv_aload_n hx hb dL_law_351 rfl (lv_at hl 3 rfl) ?_
  refine lv_iload_n hx hb dL_law_352 rfl (lv_at hl 0 rfl) ?_
  refine lv_iconst (v := 1) hx hb dL_law_353 (by decide) ?_
  refine lv_iadd hx hb dL_law_354 ?_
  refine lv_topi (fun v1 ev1 => ?_)
  have hv1 := i_add (Eq.refl i.toInt) (show (1 : Int32).toInt = 1 by decide) ev1 (by omega) (by omega)
  refine va_sld hx hb hX hbl hbA hS (vp_in_iff.mpr ⟨by omega, by omega⟩) dL_law_355 ?_
  refine lv_topi (fun v2 ev2 => ?_)
  obtain rfl : v2 = (xs (i.toInt.toNat + 1)) := by rw [ev2, show v1.toNatClampNeg = i.toInt.toNat + 1 by have c9 := clampI (x := v1) (by omega); omega]
  refine lv_aload_n hx hb dL_law_356 rfl (lv_at hl 3 rfl) ?_
  refine lv_iload_n hx hb dL_law_357 rfl (lv_at hl 0 rfl) ?_
  refine lv_iconst (v := 2) hx hb dL_law_358 (by decide) ?_
  refine lv_iadd hx hb dL_law_359 ?_
  refine lv_topi (fun v3 ev3 => ?_)
  have hv3 := i_add (Eq.refl i.toInt) (show (2 : Int32).toInt = 2 by decide) ev3 (by omega) (by omega)
  refine va_sld hx hb hX hbl hbA hS (vp_in_iff.mpr ⟨by omega, by omega⟩) dL_law_360 ?_
  refine lv_topi (fun v4 ev4 => ?_)
  obtain rfl : v4 = (xs (i.toInt.toNat + 2)) := by rw [ev4, show v3.toNatClampNeg = i.toInt.toNat + 2 by have c9 := clampI (x := v3) (by omega); omega]
  refine lv_aload_n hx hb dL_law_361 rfl (lv_at hl 3 rfl) ?_
  refine lv_iload_n hx hb dL_law_362 rfl (lv_at hl 0 rfl) ?_
  refine lv_iconst (v := 3) hx hb dL_law_363 (by decide) ?_
  refine lv_iadd hx hb dL_law_364 ?_
  refine lv_topi (fun v5 ev5 => ?_)
  have hv5 := i_add (Eq.refl i.toInt) (show (3 : Int32).toInt = 3 by decide) ev5 (by omega) (by omega)
  refine va_sld hx hb hX hbl hbA hS (vp_in_iff.mpr ⟨by omega, by omega⟩) dL_law_365 ?_
  refine lv_topi (fun v6 ev6 => ?_)
  obtain rfl : v6 = (xs (i.toInt.toNat + 3)) := by rw [ev6, show v5.toNatClampNeg = i.toInt.toNat + 3 by have c9 := clampI (x := v5) (by omega); omega]
  refine ok1 hT htx (fun p48 a7 a8 a9 a10 a11 x12 x13 x14 a15 a16 a17 a18 a19 a20 a21 a22 a23 x24 a25 a26 hk49 h27 h28 h29 h30 h31 h32 h33 h34 h35 h36 h37 h38 h39 h40 h41 h42 h43 h44 h45 h46 h47 => ?_)
  refine cgR (rn_V (As := [.int (xs (i.toInt.toNat + 1)), .int (xs (i.toInt.toNat + 2)), .int (xs (i.toInt.toNat + 3))]) (rest := []) (b := x) (x_X10_mask l D Y Z H.size ws T g q x (xs (i.toInt.toNat + 1)) (xs (i.toInt.toNat + 2)) (xs (i.toInt.toNat + 3)) hT htx) ⟨hx, hb, hml, hown, hg⟩ lk_L_32 ⟨CPC.blind, va_recv hKN.1 (P_r hP) (ci := 10) (q0 := p48) rfl hk49, CPC.at (P_r hP) hKN (D_r hD) hSZ hS hA⟩ ⟨⟨rfl, rfl⟩, ⟨Nat.le_of_ble_eq_true rfl, Nat.le_of_ble_eq_true rfl⟩, ⟨(show _ ≤ (600000 : Nat) by omega), (show _ ≤ (7302250 : Nat) by omega)⟩⟩ hl.1 rfl (Nat.le_of_ble_eq_true rfl) dL_law_366) hP hD hS hA (fun u50 H locs hw51 hP hD hS => ?_)
  obtain ⟨u52, w53⟩ := u50
  obtain ⟨hT, ke54, hw55⟩ : TW Y Z T g q w53 ∧ KF 6 T ws w53 ∧ (0 ≤ u52.toInt ∧ u52.toInt ≤ 1) := hw51
  refine W.eq (g2 := F0 m 369 ls [.int u52]) rfl ?_
  refine lv_pop hx hb dL_law_369 rfl ?_
  refine lv_aload_n hx hb dL_law_370 rfl (lv_at hl 1 rfl) ?_
  refine lv_aload_n hx hb dL_law_371 rfl (lv_at hl 3 rfl) ?_
  refine lv_iload_n hx hb dL_law_372 rfl (lv_at hl 0 rfl) ?_
  refine lv_iconst (v := 1) hx hb dL_law_373 (by decide) ?_
  refine lv_iadd hx hb dL_law_374 ?_
  refine lv_topi (fun v56 ev56 => ?_)
  have hv56 := i_add (Eq.refl i.toInt) (show (1 : Int32).toInt = 1 by decide) ev56 (by omega) (by omega)
  refine va_sld hx hb hX hbl hbA hS (vp_in_iff.mpr ⟨by omega, by omega⟩) dL_law_375 ?_
  refine lv_topi (fun v57 ev57 => ?_)
  obtain rfl : v57 = (xs (i.toInt.toNat + 1)) := by rw [ev57, show v56.toNatClampNeg = i.toInt.toNat + 1 by have c9 := clampI (x := v56) (by omega); omega]
  refine lv_aload_n hx hb dL_law_376 rfl (lv_at hl 3 rfl) ?_
  refine lv_iload_n hx hb dL_law_377 rfl (lv_at hl 0 rfl) ?_
  refine lv_iconst (v := 2) hx hb dL_law_378 (by decide) ?_
  refine lv_iadd hx hb dL_law_379 ?_
  refine lv_topi (fun v58 ev58 => ?_)
  have hv58 := i_add (Eq.refl i.toInt) (show (2 : Int32).toInt = 2 by decide) ev58 (by omega) (by omega)
  refine va_sld hx hb hX hbl hbA hS (vp_in_iff.mpr ⟨by omega, by omega⟩) dL_law_380 ?_
  refine lv_topi (fun v59 ev59 => ?_)
  obtain rfl : v59 = (xs (i.toInt.toNat + 2)) := by rw [ev59, show v58.toNatClampNeg = i.toInt.toNat + 2 by have c9 := clampI (x := v58) (by omega); omega]
  refine lv_aload_n hx hb dL_law_381 rfl (lv_at hl 3 rfl) ?_
  refine lv_iload_n hx hb dL_law_382 rfl (lv_at hl 0 rfl) ?_
  refine lv_iconst (v := 3) hx hb dL_law_383 (by decide) ?_
  refine lv_iadd hx hb dL_law_384 ?_
  refine lv_topi (fun v60 ev60 => ?_)
  have hv60 := i_add (Eq.refl i.toInt) (show (3 : Int32).toInt = 3 by decide) ev60 (by omega) (by omega)
  refine va_sld hx hb hX hbl hbA hS (vp_in_iff.mpr ⟨by omega, by omega⟩) dL_law_385 ?_
  refine lv_topi (fun v61 ev61 => ?_)
  obtain rfl : v61 = (xs (i.toInt.toNat + 3)) := by rw [ev61, show v60.toNatClampNeg = i.toInt.toNat + 3 by have c9 := clampI (x := v60) (by omega); omega]
  refine cgL (X := (MW Y om a I J F G)) (ws := w53) (rn_V (As := [.int (xs (i.toInt.toNat + 1)), .int (xs (i.toInt.toNat + 2)), .int (xs (i.toInt.toNat + 3))]) (rest := []) (b := om) (m_maskS l D Y Z H.size om a I J F G (xs (i.toInt.toNat + 1)) (xs (i.toInt.toNat + 2)) (xs (i.toInt.toNat + 3)) hm0 KS.rf KD.rf) ⟨hx, hb, hml, hown, hg⟩ lk_L_36 ⟨CP.blind, va_recv hKN.1 (P_l hP) (ci := 11) (q0 := 0) rfl rfl, CP.at (P_l hP) hKN (D_l hD)⟩ ⟨⟨rfl, rfl⟩, ⟨Nat.le_of_ble_eq_true rfl, Nat.le_of_ble_eq_true rfl⟩, ⟨(show _ ≤ (600000 : Nat) by omega), (show _ ≤ (7302250 : Nat) by omega)⟩⟩ hl.1 rfl (Nat.le_of_ble_eq_true rfl) dL_law_386) hP hD hS hA (fun u62 H locs hw63 hP hD hS => ?_)
  refine W.widen (k := (bd + 0)) (n := (sd + 0)) (by omega) (by omega) ?_
  obtain ⟨u64, f65⟩ := u62
  obtain ⟨hw66, hw67, hw68, hw69⟩ : (0 ≤ u64.toInt ∧ u64.toInt ≤ 1) ∧ TO f65 ∧ KS (F 0) f65 ∧ KD (F 0) f65 := hw63
  refine W.eq (g2 := F0 m 389 ls [.int u64]) rfl ?_
  have hP : va_P D vwCl ((MW Y om a I J (vf_upd F 0 f65) G) ++ w53) H := hP
  have hD : va_D A ((MW Y om a I J (vf_upd F 0 f65) G) ++ w53) := hD
  have hR70 : LN T g q x (vf_upd F 0 f65) := LN.keep hLR.1 htx TLe.rf hw68 rfl rfl
  have hD71 : LD T g q x (vf_upd F 0 f65) := LD.keep hLR.2 htx TLe.rf hw69 rfl
  have hR70 : LC T g q x (vf_upd F 0 f65) := ⟨hR70, hD71⟩
  refine lv_pop hx hb dL_law_389 rfl ?_
  refine lv_goto (tgt := 1878) hx hb dL_law_390 (by decide) ?_
  exact hK I J (vf_upd F 0 f65) G w53 T g q _ _ H locs ls (by omega) (by omega) ⟨hP, hD, hS, lv_sub hl [0, 1, 2, 3] rfl, hT, htx, hR70, hw67, hm1, hm2, hm3, hm4, hm5, (show 0 ≤ (I 3).toInt ∧ (I 3).toInt ≤ 400 by omega)⟩
set_option maxHeartbeats 4000000 in
set_option maxRecDepth 100000 in
theorem lc_5 {p : Program} {l : Launch} {e : Env} {s : State} {m : MethodId} {below : List Frame} {meth : Method} {c : Code} {sb L : Nat} {xs : Nat → Int32} (C0 : lw_At p s m meth c sb L xs) {D : va_G} {Y : Nat → ClassId} {Z : Nat → Nat} (hKN : KN D Y Z s) {A : Nat → Prop} (hSZ : SZ Z A s s.heap) (hA : ∀ q, s.heap.size ≤ q → A q) (hA2 : ∀ q, A q → s.heap.size ≤ q) {x om : Nat} {a : Nat → Nat} {H : Heap} {locs : List Loc} {ls : Array Slot} {I : Nat → Int32} {J : Nat → Int64} {F : Nat → Nat → Int32} {G : Nat → Nat → Int64} {ws : va_W} {T : RT} {g : GN} {q : GQ} {i : Int32} {bd sd : Nat} (hL : L ≤ 3584) (hi : 0 ≤ i.toInt ∧ i.toInt + 7 ≤ (L : Int)) (hbd : bd + 1092 ≤ 600000) (hsd : sd + 7753 ≤ 7302250) (hI : LI D Y Z A s sb x om a H locs ls I J F G ws T g q i) (hK : ∀ (I : Nat → Int32) (J : Nat → Int64) (F : Nat → Nat → Int32) (G : Nat → Nat → Int64) (ws : va_W) (T : RT) (g : GN) (q : GQ) (bd2 sd2 : Nat) (H : Heap) (locs : List Loc) (ls : Array Slot), bd2 ≤ bd + 1092 → sd2 ≤ sd + 7753 → LI D Y Z A s sb x om a H locs ls I J F G ws T g q i → W p l e room_1 s m #[Value.ref sb] below meth c H locs bd2 sd2 (lw_Z below #[Value.ref sb] s) (F0 m 1878 ls [])) : W p l e room_1 s m #[Value.ref sb] below meth c H locs bd sd (lw_Z below #[Value.ref sb] s) (F0 m 393 ls []) := by
  obtain ⟨hx, hb, hr, hml, hown, hts, hX, hbl, hlocks, hgv⟩ := id C0
  have hb : c.code = cL_law := hb
  have hown : s.vm.findClass RL = some m.cls := hown
  have hg : ∀ w ∈ GW, w.before #[Value.ref sb] s = true := fun w h => hts w (gw_tbl h)
  have hbA : ¬ A sb := fun h => absurd (hA2 sb h) (Nat.not_le.mpr hbl)
  obtain ⟨hP, hD, hS, hl, hT, htx, hLR, hm0, hm1, hm2, hm3, hm4, hm5, hm6⟩ := hI
  refine lv_aload_n hx hb dL_law_393 rfl (lv_at hl 2 rfl) ?_
  refine lv_aload_n hx hb dL_law_394 rfl (lv_at hl 3 rfl) ?_
  refine lv_iload_n hx hb dL_law_395 rfl (lv_at hl 0 rfl) ?_
  refine lv_iconst (v := 1) hx hb dL_law_396 (by decide) ?_
  refine lv_iadd hx hb dL_law_397 ?_
  refine lv_topi (fun v1 ev1 => ?_)
  have hv1 := i_add (Eq.refl i.toInt) (show (1 : Int32).toInt = 1 by decide) ev1 (by omega) (by omega)
  refine va_sld hx hb hX hbl hbA hS (vp_in_iff.mpr ⟨by omega, by omega⟩) dL_law_398 ?_
  refine lv_topi (fun v2 ev2 => ?_)
  obtain rfl : v2 = (xs (i.toInt.toNat + 1)) := by rw [ev2, show v1.toNatClampNeg = i.toInt.toNat + 1 by have c9 := clampI (x := v1) (by omega); omega]
  refine ok1 hT htx (fun p44 a3 a4 a5 a6 a7 x8 x9 x10 a11 a12 a13 a14 a15 a16 a17 a18 a19 x20 a21 a22 hk45 h23 h24 h25 h26 h27 h28 h29 h30 h31 h32 h33 h34 h35 h36 h37 h38 h39 h40 h41 h42 h43 => ?_)
  refine cgR (rn_V (As := [.int (xs (i.toInt.toNat + 1))]) (rest := []) (b := x) (x_orderS l D Y Z H.size ws T g q x (xs (i.toInt.toNat + 1)) hT htx) ⟨hx, hb, hml, hown, hg⟩ lk_L_37 ⟨CPC.blind, va_recv hKN.1 (P_r hP) (ci := 10) (q0 := p44) rfl hk45, CPC.at (P_r hP) hKN (D_r hD) hSZ hS hA⟩ ⟨⟨rfl, rfl⟩, ⟨Nat.le_of_ble_eq_true rfl, Nat.le_of_ble_eq_true rfl⟩, ⟨(show _ ≤ (600000 : Nat) by omega), (show _ ≤ (7302250 : Nat) by omega)⟩⟩ hl.1 rfl (Nat.le_of_ble_eq_true rfl) dL_law_399) hP hD hS hA (fun u46 H locs hw47 hP hD hS => ?_)
  obtain ⟨u48, w49, g50⟩ := u46
  obtain ⟨hT, ke51, gj52, hw53, hw54⟩ : TW Y Z T g50 q w49 ∧ KF 6 T ws w49 ∧ GJ T 0 g g50 ∧ (∀ s0, q x 0 = some s0 → GQE g g50 s0 10) ∧ (∀ s0, q x 0 = some s0 → UPE T g g50 s0 10) := hw47
  refine W.eq (g2 := F0 m 402 ls [.int u48]) rfl ?_
  refine lv_pop hx hb dL_law_402 rfl ?_
  refine lv_aload_n hx hb dL_law_403 rfl (lv_at hl 1 rfl) ?_
  refine lv_aload_n hx hb dL_law_404 rfl (lv_at hl 3 rfl) ?_
  refine lv_iload_n hx hb dL_law_405 rfl (lv_at hl 0 rfl) ?_
  refine lv_iconst (v := 1) hx hb dL_law_406 (by decide) ?_
  refine lv_iadd hx hb dL_law_407 ?_
  refine lv_topi (fun v55 ev55 => ?_)
  have hv55 := i_add (Eq.refl i.toInt) (show (1 : Int32).toInt = 1 by decide) ev55 (by omega) (by omega)
  refine va_sld hx hb hX hbl hbA hS (vp_in_iff.mpr ⟨by omega, by omega⟩) dL_law_408 ?_
  refine lv_topi (fun v56 ev56 => ?_)
  obtain rfl : v56 = (xs (i.toInt.toNat + 1)) := by rw [ev56, show v55.toNatClampNeg = i.toInt.toNat + 1 by have c9 := clampI (x := v55) (by omega); omega]
  refine cgL (X := (MW Y om a I J F G)) (ws := w49) (rn_V (As := [.int (xs (i.toInt.toNat + 1))]) (rest := []) (b := om) (m_orderS l D Y Z H.size om a I J F G (xs (i.toInt.toNat + 1)) hm0 KS.rf KD.rf) ⟨hx, hb, hml, hown, hg⟩ lk_L_40 ⟨CP.blind, va_recv hKN.1 (P_l hP) (ci := 11) (q0 := 0) rfl rfl, CP.at (P_l hP) hKN (D_l hD)⟩ ⟨⟨rfl, rfl⟩, ⟨Nat.le_of_ble_eq_true rfl, Nat.le_of_ble_eq_true rfl⟩, ⟨(show _ ≤ (600000 : Nat) by omega), (show _ ≤ (7302250 : Nat) by omega)⟩⟩ hl.1 rfl (Nat.le_of_ble_eq_true rfl) dL_law_409) hP hD hS hA (fun u57 H locs hw58 hP hD hS => ?_)
  refine W.widen (k := (bd + 0)) (n := (sd + 0)) (by omega) (by omega) ?_
  obtain ⟨u59, f60⟩ := u57
  obtain ⟨hw61, hw62, hw63⟩ : TO f60 ∧ KS (F 0) f60 ∧ KD (F 0) f60 := hw58
  refine W.eq (g2 := F0 m 412 ls [.int u59]) rfl ?_
  have hP : va_P D vwCl ((MW Y om a I J (vf_upd F 0 f60) G) ++ w49) H := hP
  have hD : va_D A ((MW Y om a I J (vf_upd F 0 f60) G) ++ w49) := hD
  have hR64 : LN T g50 q x (vf_upd F 0 f60) := LN.up hLR.1 htx 10 (Or.inr rfl) gj52 hw54 hw62 rfl rfl
  have hD65 : LD T g50 q x (vf_upd F 0 f60) := LD.eq1 hLR.2 htx TLe.rf 10 gj52 hw53 hw63 rfl
  have hR64 : LC T g50 q x (vf_upd F 0 f60) := ⟨hR64, hD65⟩
  refine lv_pop hx hb dL_law_412 rfl ?_
  refine lv_goto (tgt := 1878) hx hb dL_law_413 (by decide) ?_
  exact hK I J (vf_upd F 0 f60) G w49 T g50 q _ _ H locs ls (by omega) (by omega) ⟨hP, hD, hS, lv_sub hl [0, 1, 2, 3] rfl, hT, htx, hR64, hw61, hm1, hm2, hm3, hm4, hm5, (show 0 ≤ (I 3).toInt ∧ (I 3).toInt ≤ 400 by omega)⟩
set_option maxHeartbeats 4000000 in
set_option maxRecDepth 100000 in
theorem lc_6 {p : Program} {l : Launch} {e : Env} {s : State} {m : MethodId} {below : List Frame} {meth : Method} {c : Code} {sb L : Nat} {xs : Nat → Int32} (C0 : lw_At p s m meth c sb L xs) {D : va_G} {Y : Nat → ClassId} {Z : Nat → Nat} (hKN : KN D Y Z s) {A : Nat → Prop} (hSZ : SZ Z A s s.heap) (hA : ∀ q, s.heap.size ≤ q → A q) (hA2 : ∀ q, A q → s.heap.size ≤ q) {x om : Nat} {a : Nat → Nat} {H : Heap} {locs : List Loc} {ls : Array Slot} {I : Nat → Int32} {J : Nat → Int64} {F : Nat → Nat → Int32} {G : Nat → Nat → Int64} {ws : va_W} {T : RT} {g : GN} {q : GQ} {i : Int32} {bd sd : Nat} (hL : L ≤ 3584) (hi : 0 ≤ i.toInt ∧ i.toInt + 7 ≤ (L : Int)) (hbd : bd + 1092 ≤ 600000) (hsd : sd + 7753 ≤ 7302250) (hI : LI D Y Z A s sb x om a H locs ls I J F G ws T g q i) (hK : ∀ (I : Nat → Int32) (J : Nat → Int64) (F : Nat → Nat → Int32) (G : Nat → Nat → Int64) (ws : va_W) (T : RT) (g : GN) (q : GQ) (bd2 sd2 : Nat) (H : Heap) (locs : List Loc) (ls : Array Slot), bd2 ≤ bd + 1092 → sd2 ≤ sd + 7753 → LI D Y Z A s sb x om a H locs ls I J F G ws T g q i → W p l e room_1 s m #[Value.ref sb] below meth c H locs bd2 sd2 (lw_Z below #[Value.ref sb] s) (F0 m 1878 ls [])) : W p l e room_1 s m #[Value.ref sb] below meth c H locs bd sd (lw_Z below #[Value.ref sb] s) (F0 m 416 ls []) := by
  obtain ⟨hx, hb, hr, hml, hown, hts, hX, hbl, hlocks, hgv⟩ := id C0
  have hb : c.code = cL_law := hb
  have hown : s.vm.findClass RL = some m.cls := hown
  have hg : ∀ w ∈ GW, w.before #[Value.ref sb] s = true := fun w h => hts w (gw_tbl h)
  have hbA : ¬ A sb := fun h => absurd (hA2 sb h) (Nat.not_le.mpr hbl)
  obtain ⟨hP, hD, hS, hl, hT, htx, hLR, hm0, hm1, hm2, hm3, hm4, hm5, hm6⟩ := hI
  refine lv_aload_n hx hb dL_law_416 rfl (lv_at hl 2 rfl) ?_
  refine lv_aload_n hx hb dL_law_417 rfl (lv_at hl 3 rfl) ?_
  refine lv_iload_n hx hb dL_law_418 rfl (lv_at hl 0 rfl) ?_
  refine lv_iconst (v := 1) hx hb dL_law_419 (by decide) ?_
  refine lv_iadd hx hb dL_law_420 ?_
  refine lv_topi (fun v1 ev1 => ?_)
  have hv1 := i_add (Eq.refl i.toInt) (show (1 : Int32).toInt = 1 by decide) ev1 (by omega) (by omega)
  refine va_sld hx hb hX hbl hbA hS (vp_in_iff.mpr ⟨by omega, by omega⟩) dL_law_421 ?_
  refine lv_topi (fun v2 ev2 => ?_)
  obtain rfl : v2 = (xs (i.toInt.toNat + 1)) := by rw [ev2, show v1.toNatClampNeg = i.toInt.toNat + 1 by have c9 := clampI (x := v1) (by omega); omega]
  refine lv_aload_n hx hb dL_law_422 rfl (lv_at hl 3 rfl) ?_
  refine lv_iload_n hx hb dL_law_423 rfl (lv_at hl 0 rfl) ?_
  refine lv_iconst (v := 2) hx hb dL_law_424 (by decide) ?_
  refine lv_iadd hx hb dL_law_425 ?_
  refine lv_topi (fun v3 ev3 => ?_)
  have hv3 := i_add (Eq.refl i.toInt) (show (2 : Int32).toInt = 2 by decide) ev3 (by omega) (by omega)
  refine va_sld hx hb hX hbl hbA hS (vp_in_iff.mpr ⟨by omega, by omega⟩) dL_law_426 ?_
  refine lv_topi (fun v4 ev4 => ?_)
  obtain rfl : v4 = (xs (i.toInt.toNat + 2)) := by rw [ev4, show v3.toNatClampNeg = i.toInt.toNat + 2 by have c9 := clampI (x := v3) (by omega); omega]
  refine lv_aload_n hx hb dL_law_427 rfl (lv_at hl 3 rfl) ?_
  refine lv_iload_n hx hb dL_law_428 rfl (lv_at hl 0 rfl) ?_
  refine lv_iconst (v := 3) hx hb dL_law_429 (by decide) ?_
  refine lv_iadd hx hb dL_law_430 ?_
  refine lv_topi (fun v5 ev5 => ?_)
  have hv5 := i_add (Eq.refl i.toInt) (show (3 : Int32).toInt = 3 by decide) ev5 (by omega) (by omega)
  refine va_sld hx hb hX hbl hbA hS (vp_in_iff.mpr ⟨by omega, by omega⟩) dL_law_431 ?_
  refine lv_topi (fun v6 ev6 => ?_)
  obtain rfl : v6 = (xs (i.toInt.toNat + 3)) := by rw [ev6, show v5.toNatClampNeg = i.toInt.toNat + 3 by have c9 := clampI (x := v5) (by omega); omega]
  refine ok1 hT htx (fun p48 a7 a8 a9 a10 a11 x12 x13 x14 a15 a16 a17 a18 a19 a20 a21 a22 a23 x24 a25 a26 hk49 h27 h28 h29 h30 h31 h32 h33 h34 h35 h36 h37 h38 h39 h40 h41 h42 h43 h44 h45 h46 h47 => ?_)
  refine cgR (rn_V (As := [.int (xs (i.toInt.toNat + 1)), .int (xs (i.toInt.toNat + 2)), .int (xs (i.toInt.toNat + 3))]) (rest := []) (b := x) (x_X10_at l D Y Z H.size ws T g q x (xs (i.toInt.toNat + 1)) (xs (i.toInt.toNat + 2)) (xs (i.toInt.toNat + 3)) hT htx) ⟨hx, hb, hml, hown, hg⟩ lk_L_41 ⟨CPC.blind, va_recv hKN.1 (P_r hP) (ci := 10) (q0 := p48) rfl hk49, CPC.at (P_r hP) hKN (D_r hD) hSZ hS hA⟩ ⟨⟨rfl, rfl⟩, ⟨Nat.le_of_ble_eq_true rfl, Nat.le_of_ble_eq_true rfl⟩, ⟨(show _ ≤ (600000 : Nat) by omega), (show _ ≤ (7302250 : Nat) by omega)⟩⟩ hl.1 rfl (Nat.le_of_ble_eq_true rfl) dL_law_432) hP hD hS hA (fun u50 H locs hw51 hP hD hS => ?_)
  obtain ⟨u52, w53⟩ := u50
  obtain ⟨hT, ke54, ke55⟩ : TW Y Z T g q w53 ∧ KF 1 T ws w53 ∧ KF 6 T ws w53 := hw51
  have hk56 := ke54 _ _ hk49 (show (T x).1 = 1 by rw [htx])
  refine W.eq (g2 := F0 m 435 ls [.int u52]) rfl ?_
  refine lv_pop hx hb dL_law_435 rfl ?_
  refine lv_aload_n hx hb dL_law_436 rfl (lv_at hl 1 rfl) ?_
  refine lv_aload_n hx hb dL_law_437 rfl (lv_at hl 3 rfl) ?_
  refine lv_iload_n hx hb dL_law_438 rfl (lv_at hl 0 rfl) ?_
  refine lv_iconst (v := 1) hx hb dL_law_439 (by decide) ?_
  refine lv_iadd hx hb dL_law_440 ?_
  refine lv_topi (fun v57 ev57 => ?_)
  have hv57 := i_add (Eq.refl i.toInt) (show (1 : Int32).toInt = 1 by decide) ev57 (by omega) (by omega)
  refine va_sld hx hb hX hbl hbA hS (vp_in_iff.mpr ⟨by omega, by omega⟩) dL_law_441 ?_
  refine lv_topi (fun v58 ev58 => ?_)
  obtain rfl : v58 = (xs (i.toInt.toNat + 1)) := by rw [ev58, show v57.toNatClampNeg = i.toInt.toNat + 1 by have c9 := clampI (x := v57) (by omega); omega]
  refine lv_aload_n hx hb dL_law_442 rfl (lv_at hl 3 rfl) ?_
  refine lv_iload_n hx hb dL_law_443 rfl (lv_at hl 0 rfl) ?_
  refine lv_iconst (v := 2) hx hb dL_law_444 (by decide) ?_
  refine lv_iadd hx hb dL_law_445 ?_
  refine lv_topi (fun v59 ev59 => ?_)
  have hv59 := i_add (Eq.refl i.toInt) (show (2 : Int32).toInt = 2 by decide) ev59 (by omega) (by omega)
  refine va_sld hx hb hX hbl hbA hS (vp_in_iff.mpr ⟨by omega, by omega⟩) dL_law_446 ?_
  refine lv_topi (fun v60 ev60 => ?_)
  obtain rfl : v60 = (xs (i.toInt.toNat + 2)) := by rw [ev60, show v59.toNatClampNeg = i.toInt.toNat + 2 by have c9 := clampI (x := v59) (by omega); omega]
  refine lv_aload_n hx hb dL_law_447 rfl (lv_at hl 3 rfl) ?_
  refine lv_iload_n hx hb dL_law_448 rfl (lv_at hl 0 rfl) ?_
  refine lv_iconst (v := 3) hx hb dL_law_449 (by decide) ?_
  refine lv_iadd hx hb dL_law_450 ?_
  refine lv_topi (fun v61 ev61 => ?_)
  have hv61 := i_add (Eq.refl i.toInt) (show (3 : Int32).toInt = 3 by decide) ev61 (by omega) (by omega)
  refine va_sld hx hb hX hbl hbA hS (vp_in_iff.mpr ⟨by omega, by omega⟩) dL_law_451 ?_
  refine lv_topi (fun v62 ev62 => ?_)
  obtain rfl : v62 = (xs (i.toInt.toNat + 3)) := by rw [ev62, show v61.toNatClampNeg = i.toInt.toNat + 3 by have c9 := clampI (x := v61) (by omega); omega]
  refine cgL (X := (MW Y om a I J F G)) (ws := w53) (rn_V (As := [.int (xs (i.toInt.toNat + 1)), .int (xs (i.toInt.toNat + 2)), .int (xs (i.toInt.toNat + 3))]) (rest := []) (b := om) (m_at l D Y Z H.size om a I J F G (xs (i.toInt.toNat + 1)) (xs (i.toInt.toNat + 2)) (xs (i.toInt.toNat + 3)) hm0) ⟨hx, hb, hml, hown, hg⟩ lk_L_44 ⟨CP.blind, va_recv hKN.1 (P_l hP) (ci := 11) (q0 := 0) rfl rfl, CP.at (P_l hP) hKN (D_l hD)⟩ ⟨⟨rfl, rfl⟩, ⟨Nat.le_of_ble_eq_true rfl, Nat.le_of_ble_eq_true rfl⟩, ⟨(show _ ≤ (600000 : Nat) by omega), (show _ ≤ (7302250 : Nat) by omega)⟩⟩ hl.1 rfl (Nat.le_of_ble_eq_true rfl) dL_law_452) hP hD hS hA (fun u63 H locs hw64 hP hD hS => ?_)
  refine W.widen (k := (bd + 0)) (n := (sd + 0)) (by omega) (by omega) ?_
  obtain ⟨u65, f66⟩ := u63
  refine W.eq (g2 := F0 m 455 ls [.int u65]) rfl ?_
  have hP : va_P D vwCl ((MW Y om a I J (vf_upd F 1 f66) G) ++ w53) H := hP
  have hD : va_D A ((MW Y om a I J (vf_upd F 1 f66) G) ++ w53) := hD
  have hR67 : LN T g q x (vf_upd F 1 f66) := LN.keep hLR.1 htx TLe.rf KS.rf rfl rfl
  have hD68 : LD T g q x (vf_upd F 1 f66) := LD.keep hLR.2 htx TLe.rf KD.rf rfl
  have hR67 : LC T g q x (vf_upd F 1 f66) := ⟨hR67, hD68⟩
  refine lv_pop hx hb dL_law_455 rfl ?_
  refine lv_goto (tgt := 1878) hx hb dL_law_456 (by decide) ?_
  exact hK I J (vf_upd F 1 f66) G w53 T g q _ _ H locs ls (by omega) (by omega) ⟨hP, hD, hS, lv_sub hl [0, 1, 2, 3] rfl, hT, htx, hR67, hm0, hm1, hm2, hm3, hm4, hm5, (show 0 ≤ (I 3).toInt ∧ (I 3).toInt ≤ 400 by omega)⟩
set_option maxHeartbeats 4000000 in
set_option maxRecDepth 100000 in
theorem lc_7 {p : Program} {l : Launch} {e : Env} {s : State} {m : MethodId} {below : List Frame} {meth : Method} {c : Code} {sb L : Nat} {xs : Nat → Int32} (C0 : lw_At p s m meth c sb L xs) {D : va_G} {Y : Nat → ClassId} {Z : Nat → Nat} (hKN : KN D Y Z s) {A : Nat → Prop} (hSZ : SZ Z A s s.heap) (hA : ∀ q, s.heap.size ≤ q → A q) (hA2 : ∀ q, A q → s.heap.size ≤ q) {x om : Nat} {a : Nat → Nat} {H : Heap} {locs : List Loc} {ls : Array Slot} {I : Nat → Int32} {J : Nat → Int64} {F : Nat → Nat → Int32} {G : Nat → Nat → Int64} {ws : va_W} {T : RT} {g : GN} {q : GQ} {i : Int32} {bd sd : Nat} (hL : L ≤ 3584) (hi : 0 ≤ i.toInt ∧ i.toInt + 7 ≤ (L : Int)) (hbd : bd + 1092 ≤ 600000) (hsd : sd + 7753 ≤ 7302250) (hI : LI D Y Z A s sb x om a H locs ls I J F G ws T g q i) (hK : ∀ (I : Nat → Int32) (J : Nat → Int64) (F : Nat → Nat → Int32) (G : Nat → Nat → Int64) (ws : va_W) (T : RT) (g : GN) (q : GQ) (bd2 sd2 : Nat) (H : Heap) (locs : List Loc) (ls : Array Slot), bd2 ≤ bd + 1092 → sd2 ≤ sd + 7753 → LI D Y Z A s sb x om a H locs ls I J F G ws T g q i → W p l e room_1 s m #[Value.ref sb] below meth c H locs bd2 sd2 (lw_Z below #[Value.ref sb] s) (F0 m 1878 ls [])) : W p l e room_1 s m #[Value.ref sb] below meth c H locs bd sd (lw_Z below #[Value.ref sb] s) (F0 m 459 ls []) := by
  obtain ⟨hx, hb, hr, hml, hown, hts, hX, hbl, hlocks, hgv⟩ := id C0
  have hb : c.code = cL_law := hb
  have hown : s.vm.findClass RL = some m.cls := hown
  have hg : ∀ w ∈ GW, w.before #[Value.ref sb] s = true := fun w h => hts w (gw_tbl h)
  have hbA : ¬ A sb := fun h => absurd (hA2 sb h) (Nat.not_le.mpr hbl)
  obtain ⟨hP, hD, hS, hl, hT, htx, hLR, hm0, hm1, hm2, hm3, hm4, hm5, hm6⟩ := hI
  refine lv_aload_n hx hb dL_law_459 rfl (lv_at hl 2 rfl) ?_
  refine lv_aload_n hx hb dL_law_460 rfl (lv_at hl 3 rfl) ?_
  refine lv_iload_n hx hb dL_law_461 rfl (lv_at hl 0 rfl) ?_
  refine lv_iconst (v := 1) hx hb dL_law_462 (by decide) ?_
  refine lv_iadd hx hb dL_law_463 ?_
  refine lv_topi (fun v1 ev1 => ?_)
  have hv1 := i_add (Eq.refl i.toInt) (show (1 : Int32).toInt = 1 by decide) ev1 (by omega) (by omega)
  refine va_sld hx hb hX hbl hbA hS (vp_in_iff.mpr ⟨by omega, by omega⟩) dL_law_464 ?_
  refine lv_topi (fun v2 ev2 => ?_)
  obtain rfl : v2 = (xs (i.toInt.toNat + 1)) := by rw [ev2, show v1.toNatClampNeg = i.toInt.toNat + 1 by have c9 := clampI (x := v1) (by omega); omega]
  refine lv_aload_n hx hb dL_law_465 rfl (lv_at hl 3 rfl) ?_
  refine lv_iload_n hx hb dL_law_466 rfl (lv_at hl 0 rfl) ?_
  refine lv_iconst (v := 2) hx hb dL_law_467 (by decide) ?_
  refine lv_iadd hx hb dL_law_468 ?_
  refine lv_topi (fun v3 ev3 => ?_)
  have hv3 := i_add (Eq.refl i.toInt) (show (2 : Int32).toInt = 2 by decide) ev3 (by omega) (by omega)
  refine va_sld hx hb hX hbl hbA hS (vp_in_iff.mpr ⟨by omega, by omega⟩) dL_law_469 ?_
  refine lv_topi (fun v4 ev4 => ?_)
  obtain rfl : v4 = (xs (i.toInt.toNat + 2)) := by rw [ev4, show v3.toNatClampNeg = i.toInt.toNat + 2 by have c9 := clampI (x := v3) (by omega); omega]
  refine lv_aload_n hx hb dL_law_470 rfl (lv_at hl 3 rfl) ?_
  refine lv_iload_n hx hb dL_law_471 rfl (lv_at hl 0 rfl) ?_
  refine lv_iconst (v := 3) hx hb dL_law_472 (by decide) ?_
  refine lv_iadd hx hb dL_law_473 ?_
  refine lv_topi (fun v5 ev5 => ?_)
  have hv5 := i_add (Eq.refl i.toInt) (show (3 : Int32).toInt = 3 by decide) ev5 (by omega) (by omega)
  refine va_sld hx hb hX hbl hbA hS (vp_in_iff.mpr ⟨by omega, by omega⟩) dL_law_474 ?_
  refine lv_topi (fun v6 ev6 => ?_)
  obtain rfl : v6 = (xs (i.toInt.toNat + 3)) := by rw [ev6, show v5.toNatClampNeg = i.toInt.toNat + 3 by have c9 := clampI (x := v5) (by omega); omega]
  refine lv_aload_n hx hb dL_law_475 rfl (lv_at hl 3 rfl) ?_
  refine lv_iload_n hx hb dL_law_476 rfl (lv_at hl 0 rfl) ?_
  refine lv_iconst (v := 4) hx hb dL_law_477 (by decide) ?_
  refine lv_iadd hx hb dL_law_478 ?_
  refine lv_topi (fun v7 ev7 => ?_)
  have hv7 := i_add (Eq.refl i.toInt) (show (4 : Int32).toInt = 4 by decide) ev7 (by omega) (by omega)
  refine va_sld hx hb hX hbl hbA hS (vp_in_iff.mpr ⟨by omega, by omega⟩) dL_law_479 ?_
  refine lv_topi (fun v8 ev8 => ?_)
  obtain rfl : v8 = (xs (i.toInt.toNat + 4)) := by rw [ev8, show v7.toNatClampNeg = i.toInt.toNat + 4 by have c9 := clampI (x := v7) (by omega); omega]
  refine lv_aload_n hx hb dL_law_480 rfl (lv_at hl 3 rfl) ?_
  refine lv_iload_n hx hb dL_law_481 rfl (lv_at hl 0 rfl) ?_
  refine lv_iconst (v := 5) hx hb dL_law_482 (by decide) ?_
  refine lv_iadd hx hb dL_law_483 ?_
  refine lv_topi (fun v9 ev9 => ?_)
  have hv9 := i_add (Eq.refl i.toInt) (show (5 : Int32).toInt = 5 by decide) ev9 (by omega) (by omega)
  refine va_sld hx hb hX hbl hbA hS (vp_in_iff.mpr ⟨by omega, by omega⟩) dL_law_484 ?_
  refine lv_topi (fun v10 ev10 => ?_)
  obtain rfl : v10 = (xs (i.toInt.toNat + 5)) := by rw [ev10, show v9.toNatClampNeg = i.toInt.toNat + 5 by have c9 := clampI (x := v9) (by omega); omega]
  refine lv_aload_n hx hb dL_law_485 rfl (lv_at hl 3 rfl) ?_
  refine lv_iload_n hx hb dL_law_486 rfl (lv_at hl 0 rfl) ?_
  refine lv_bipush (v := 6) hx hb dL_law_487 (by decide) ?_
  refine lv_iadd hx hb dL_law_489 ?_
  refine lv_topi (fun v11 ev11 => ?_)
  have hv11 := i_add (Eq.refl i.toInt) (show (6 : Int32).toInt = 6 by decide) ev11 (by omega) (by omega)
  refine va_sld hx hb hX hbl hbA hS (vp_in_iff.mpr ⟨by omega, by omega⟩) dL_law_490 ?_
  refine lv_topi (fun v12 ev12 => ?_)
  obtain rfl : v12 = (xs (i.toInt.toNat + 6)) := by rw [ev12, show v11.toNatClampNeg = i.toInt.toNat + 6 by have c9 := clampI (x := v11) (by omega); omega]
  have j15 := rgI (xs (i.toInt.toNat + 6))
  refine lv_if_eq (tgt := 498) hx hb dL_law_491 (by decide) (fun c16 => ?_) (fun c16 => ?_)
  · skip
    have c16 := i_eq (Eq.refl (xs (i.toInt.toNat + 6)).toInt) (show (0 : Int32).toInt = 0 by decide) c16
    refine lv_iconst (v := 0) hx hb dL_law_498 (by decide) ?_
    have zi0 : (0 : Int32).toInt = 0 := by decide
    refine ok1 hT htx (fun p58 a17 a18 a19 a20 a21 x22 x23 x24 a25 a26 a27 a28 a29 a30 a31 a32 a33 x34 a35 a36 hk59 h37 h38 h39 h40 h41 h42 h43 h44 h45 h46 h47 h48 h49 h50 h51 h52 h53 h54 h55 h56 h57 => ?_)
    refine cgR (rn_V (As := [.int (xs (i.toInt.toNat + 1)), .int (xs (i.toInt.toNat + 2)), .int (xs (i.toInt.toNat + 3)), .int (xs (i.toInt.toNat + 4)), .int (xs (i.toInt.toNat + 5)), .int 0]) (rest := []) (b := x) (x_worldS l D Y Z H.size ws T g q x (xs (i.toInt.toNat + 1)) (xs (i.toInt.toNat + 2)) (xs (i.toInt.toNat + 3)) (xs (i.toInt.toNat + 4)) (xs (i.toInt.toNat + 5)) 0 hT htx (show (0 ≤ (0 : Int32).toInt ∧ (0 : Int32).toInt ≤ 1) by omega)) ⟨hx, hb, hml, hown, hg⟩ lk_L_45 ⟨CPC.blind, va_recv hKN.1 (P_r hP) (ci := 10) (q0 := p58) rfl hk59, CPC.at (P_r hP) hKN (D_r hD) hSZ hS hA⟩ ⟨⟨rfl, rfl⟩, ⟨Nat.le_of_ble_eq_true rfl, Nat.le_of_ble_eq_true rfl⟩, ⟨(show _ ≤ (600000 : Nat) by omega), (show _ ≤ (7302250 : Nat) by omega)⟩⟩ hl.1 rfl (Nat.le_of_ble_eq_true rfl) dL_law_499) hP hD hS hA (fun u60 H locs hw61 hP hD hS => ?_)
    refine W.widen (k := (bd + 1)) (n := (sd + 6)) (by omega) (by omega) ?_
    obtain ⟨u62, w63, T64, g65⟩ := u60
    obtain ⟨le66, hT, ke67, ke68, gj69, hw70, hw71⟩ : TLe T T64 ∧ TW Y Z T64 g65 q w63 ∧ KF 1 T ws w63 ∧ KF 6 T ws w63 ∧ GJ T 0 g g65 ∧ (∀ s0, q x 0 = some s0 → GQE g g65 s0 2) ∧ (∀ s0 sr, q x 0 = some s0 → q s0 1 = some sr → NNL g q s0 sr → ((((2 ≤ (xs (i.toInt.toNat + 2)).toInt ∧ (xs (i.toInt.toNat + 2)).toInt ≤ 599) ∧ (0 ≤ (xs (i.toInt.toNat + 3)).toInt ∧ (xs (i.toInt.toNat + 3)).toInt ≤ 599) ∧ (1 ≤ (xs (i.toInt.toNat + 4)).toInt ∧ (xs (i.toInt.toNat + 4)).toInt ≤ 30) ∧ (xs (i.toInt.toNat + 4)).toInt < (xs (i.toInt.toNat + 2)).toInt ∧ (1 ≤ (xs (i.toInt.toNat + 5)).toInt ∧ (xs (i.toInt.toNat + 5)).toInt ≤ 30000)) ∧ (0 ≤ (xs (i.toInt.toNat + 1)).toInt ∧ (xs (i.toInt.toNat + 1)).toInt < (g s0 0).toInt) ∧ (g s0 2).toInt < 40) ∧ u62.toInt = (g s0 2).toInt ∧ UPP T g g65 s0 2) ∨ (¬ (((2 ≤ (xs (i.toInt.toNat + 2)).toInt ∧ (xs (i.toInt.toNat + 2)).toInt ≤ 599) ∧ (0 ≤ (xs (i.toInt.toNat + 3)).toInt ∧ (xs (i.toInt.toNat + 3)).toInt ≤ 599) ∧ (1 ≤ (xs (i.toInt.toNat + 4)).toInt ∧ (xs (i.toInt.toNat + 4)).toInt ≤ 30) ∧ (xs (i.toInt.toNat + 4)).toInt < (xs (i.toInt.toNat + 2)).toInt ∧ (1 ≤ (xs (i.toInt.toNat + 5)).toInt ∧ (xs (i.toInt.toNat + 5)).toInt ≤ 30000)) ∧ (0 ≤ (xs (i.toInt.toNat + 1)).toInt ∧ (xs (i.toInt.toNat + 1)).toInt < (g s0 0).toInt) ∧ (g s0 2).toInt < 40) ∧ u62.toInt = -1 ∧ g65 = g)) := hw61
    have hk72 := ke67 _ _ hk59 (show (T x).1 = 1 by rw [htx])
    refine W.eq (g2 := F0 m 502 ls [.int u62]) rfl ?_
    refine lv_pop hx hb dL_law_502 rfl ?_
    refine lv_aload_n hx hb dL_law_503 rfl (lv_at hl 1 rfl) ?_
    refine lv_aload_n hx hb dL_law_504 rfl (lv_at hl 3 rfl) ?_
    refine lv_iload_n hx hb dL_law_505 rfl (lv_at hl 0 rfl) ?_
    refine lv_iconst (v := 1) hx hb dL_law_506 (by decide) ?_
    refine lv_iadd hx hb dL_law_507 ?_
    refine lv_topi (fun v73 ev73 => ?_)
    have hv73 := i_add (Eq.refl i.toInt) (show (1 : Int32).toInt = 1 by decide) ev73 (by omega) (by omega)
    refine va_sld hx hb hX hbl hbA hS (vp_in_iff.mpr ⟨by omega, by omega⟩) dL_law_508 ?_
    refine lv_topi (fun v74 ev74 => ?_)
    obtain rfl : v74 = (xs (i.toInt.toNat + 1)) := by rw [ev74, show v73.toNatClampNeg = i.toInt.toNat + 1 by have c9 := clampI (x := v73) (by omega); omega]
    refine lv_aload_n hx hb dL_law_509 rfl (lv_at hl 3 rfl) ?_
    refine lv_iload_n hx hb dL_law_510 rfl (lv_at hl 0 rfl) ?_
    refine lv_iconst (v := 2) hx hb dL_law_511 (by decide) ?_
    refine lv_iadd hx hb dL_law_512 ?_
    refine lv_topi (fun v75 ev75 => ?_)
    have hv75 := i_add (Eq.refl i.toInt) (show (2 : Int32).toInt = 2 by decide) ev75 (by omega) (by omega)
    refine va_sld hx hb hX hbl hbA hS (vp_in_iff.mpr ⟨by omega, by omega⟩) dL_law_513 ?_
    refine lv_topi (fun v76 ev76 => ?_)
    obtain rfl : v76 = (xs (i.toInt.toNat + 2)) := by rw [ev76, show v75.toNatClampNeg = i.toInt.toNat + 2 by have c9 := clampI (x := v75) (by omega); omega]
    refine lv_aload_n hx hb dL_law_514 rfl (lv_at hl 3 rfl) ?_
    refine lv_iload_n hx hb dL_law_515 rfl (lv_at hl 0 rfl) ?_
    refine lv_iconst (v := 3) hx hb dL_law_516 (by decide) ?_
    refine lv_iadd hx hb dL_law_517 ?_
    refine lv_topi (fun v77 ev77 => ?_)
    have hv77 := i_add (Eq.refl i.toInt) (show (3 : Int32).toInt = 3 by decide) ev77 (by omega) (by omega)
    refine va_sld hx hb hX hbl hbA hS (vp_in_iff.mpr ⟨by omega, by omega⟩) dL_law_518 ?_
    refine lv_topi (fun v78 ev78 => ?_)
    obtain rfl : v78 = (xs (i.toInt.toNat + 3)) := by rw [ev78, show v77.toNatClampNeg = i.toInt.toNat + 3 by have c9 := clampI (x := v77) (by omega); omega]
    refine lv_aload_n hx hb dL_law_519 rfl (lv_at hl 3 rfl) ?_
    refine lv_iload_n hx hb dL_law_520 rfl (lv_at hl 0 rfl) ?_
    refine lv_iconst (v := 4) hx hb dL_law_521 (by decide) ?_
    refine lv_iadd hx hb dL_law_522 ?_
    refine lv_topi (fun v79 ev79 => ?_)
    have hv79 := i_add (Eq.refl i.toInt) (show (4 : Int32).toInt = 4 by decide) ev79 (by omega) (by omega)
    refine va_sld hx hb hX hbl hbA hS (vp_in_iff.mpr ⟨by omega, by omega⟩) dL_law_523 ?_
    refine lv_topi (fun v80 ev80 => ?_)
    obtain rfl : v80 = (xs (i.toInt.toNat + 4)) := by rw [ev80, show v79.toNatClampNeg = i.toInt.toNat + 4 by have c9 := clampI (x := v79) (by omega); omega]
    refine lv_aload_n hx hb dL_law_524 rfl (lv_at hl 3 rfl) ?_
    refine lv_iload_n hx hb dL_law_525 rfl (lv_at hl 0 rfl) ?_
    refine lv_iconst (v := 5) hx hb dL_law_526 (by decide) ?_
    refine lv_iadd hx hb dL_law_527 ?_
    refine lv_topi (fun v81 ev81 => ?_)
    have hv81 := i_add (Eq.refl i.toInt) (show (5 : Int32).toInt = 5 by decide) ev81 (by omega) (by omega)
    refine va_sld hx hb hX hbl hbA hS (vp_in_iff.mpr ⟨by omega, by omega⟩) dL_law_528 ?_
    refine lv_topi (fun v82 ev82 => ?_)
    obtain rfl : v82 = (xs (i.toInt.toNat + 5)) := by rw [ev82, show v81.toNatClampNeg = i.toInt.toNat + 5 by have c9 := clampI (x := v81) (by omega); omega]
    refine lv_aload_n hx hb dL_law_529 rfl (lv_at hl 3 rfl) ?_
    refine lv_iload_n hx hb dL_law_530 rfl (lv_at hl 0 rfl) ?_
    refine lv_bipush (v := 6) hx hb dL_law_531 (by decide) ?_
    refine lv_iadd hx hb dL_law_533 ?_
    refine lv_topi (fun v83 ev83 => ?_)
    have hv83 := i_add (Eq.refl i.toInt) (show (6 : Int32).toInt = 6 by decide) ev83 (by omega) (by omega)
    refine va_sld hx hb hX hbl hbA hS (vp_in_iff.mpr ⟨by omega, by omega⟩) dL_law_534 ?_
    refine lv_topi (fun v84 ev84 => ?_)
    obtain rfl : v84 = (xs (i.toInt.toNat + 6)) := by rw [ev84, show v83.toNatClampNeg = i.toInt.toNat + 6 by have c9 := clampI (x := v83) (by omega); omega]
    refine lv_if_eq (tgt := 542) hx hb dL_law_535 (by decide) (fun c86 => ?_) (fun c86 => ?_)
    rotate_left
    · have c86 := i_ne (Eq.refl (xs (i.toInt.toNat + 6)).toInt) (show (0 : Int32).toInt = 0 by decide) c86; exfalso; omega
    have c86 := i_eq (Eq.refl (xs (i.toInt.toNat + 6)).toInt) (show (0 : Int32).toInt = 0 by decide) c86
    refine lv_iconst (v := 0) hx hb dL_law_542 (by decide) ?_
    refine cgL (X := (MW Y om a I J F G)) (ws := w63) (rn_V (As := [.int (xs (i.toInt.toNat + 1)), .int (xs (i.toInt.toNat + 2)), .int (xs (i.toInt.toNat + 3)), .int (xs (i.toInt.toNat + 4)), .int (xs (i.toInt.toNat + 5)), .int 0]) (rest := []) (b := om) (m_worldS l D Y Z H.size om a I J F G (xs (i.toInt.toNat + 1)) (xs (i.toInt.toNat + 2)) (xs (i.toInt.toNat + 3)) (xs (i.toInt.toNat + 4)) (xs (i.toInt.toNat + 5)) 0 hm0 KS.rf KD.rf) ⟨hx, hb, hml, hown, hg⟩ lk_L_49 ⟨CP.blind, va_recv hKN.1 (P_l hP) (ci := 11) (q0 := 0) rfl rfl, CP.at (P_l hP) hKN (D_l hD)⟩ ⟨⟨rfl, rfl⟩, ⟨Nat.le_of_ble_eq_true rfl, Nat.le_of_ble_eq_true rfl⟩, ⟨(show _ ≤ (600000 : Nat) by omega), (show _ ≤ (7302250 : Nat) by omega)⟩⟩ hl.1 rfl (Nat.le_of_ble_eq_true rfl) dL_law_543) hP hD hS hA (fun u87 H locs hw88 hP hD hS => ?_)
    refine W.widen (k := (bd + 1)) (n := (sd + 6)) (by omega) (by omega) ?_
    obtain ⟨u89, f90⟩ := u87
    obtain ⟨hw91, hw92, hw93⟩ : TO f90 ∧ KD (F 0) f90 ∧ ((((((2 ≤ (xs (i.toInt.toNat + 2)).toInt ∧ (xs (i.toInt.toNat + 2)).toInt ≤ 599) ∧ (0 ≤ (xs (i.toInt.toNat + 3)).toInt ∧ (xs (i.toInt.toNat + 3)).toInt ≤ 599) ∧ (1 ≤ (xs (i.toInt.toNat + 4)).toInt ∧ (xs (i.toInt.toNat + 4)).toInt ≤ 30) ∧ (xs (i.toInt.toNat + 4)).toInt < (xs (i.toInt.toNat + 2)).toInt ∧ (1 ≤ (xs (i.toInt.toNat + 5)).toInt ∧ (xs (i.toInt.toNat + 5)).toInt ≤ 30000)) ∧ (0 ≤ (xs (i.toInt.toNat + 1)).toInt ∧ (xs (i.toInt.toNat + 1)).toInt < ((F 0) 0).toInt) ∧ ((F 0) 1).toInt < 40) ∧ u89.toInt = ((F 0) 1).toInt ∧ KC 1 (F 0) f90) ∨ (¬ (((2 ≤ (xs (i.toInt.toNat + 2)).toInt ∧ (xs (i.toInt.toNat + 2)).toInt ≤ 599) ∧ (0 ≤ (xs (i.toInt.toNat + 3)).toInt ∧ (xs (i.toInt.toNat + 3)).toInt ≤ 599) ∧ (1 ≤ (xs (i.toInt.toNat + 4)).toInt ∧ (xs (i.toInt.toNat + 4)).toInt ≤ 30) ∧ (xs (i.toInt.toNat + 4)).toInt < (xs (i.toInt.toNat + 2)).toInt ∧ (1 ≤ (xs (i.toInt.toNat + 5)).toInt ∧ (xs (i.toInt.toNat + 5)).toInt ≤ 30000)) ∧ (0 ≤ (xs (i.toInt.toNat + 1)).toInt ∧ (xs (i.toInt.toNat + 1)).toInt < ((F 0) 0).toInt) ∧ ((F 0) 1).toInt < 40) ∧ u89.toInt = -1 ∧ KS (F 0) f90))) := hw88
    refine W.eq (g2 := F0 m 546 ls [.int u89]) rfl ?_
    have hP : va_P D vwCl ((MW Y om a I J (vf_upd F 0 f90) G) ++ w63) H := hP
    have hD : va_D A ((MW Y om a I J (vf_upd F 0 f90) G) ++ w63) := hD
    have hR94E := LN.cnt (F2 := (vf_upd F 0 f90)) hLR.1 htx le66 2 1 (Or.inl ⟨rfl, rfl⟩) gj69 hw71 hw93 rfl rfl rfl
    have hR94 := hR94E.2
    have hR94E := hR94E.1
    have hD95 : LD T64 g65 q x (vf_upd F 0 f90) := LD.eq1 hLR.2 htx le66 2 gj69 hw70 hw92 rfl
    have hR94 : LC T64 g65 q x (vf_upd F 0 f90) := ⟨hR94, hD95⟩
    refine lv_pop hx hb dL_law_546 rfl ?_
    refine lv_goto (tgt := 1878) hx hb dL_law_547 (by decide) ?_
    exact hK I J (vf_upd F 0 f90) G w63 T64 g65 q _ _ H locs ls (by omega) (by omega) ⟨hP, hD, hS, lv_sub hl [0, 1, 2, 3] rfl, hT, (le66.up htx), hR94, hw91, hm1, hm2, hm3, hm4, hm5, (show 0 ≤ (I 3).toInt ∧ (I 3).toInt ≤ 400 by omega)⟩
  · skip
    have c16 := i_ne (Eq.refl (xs (i.toInt.toNat + 6)).toInt) (show (0 : Int32).toInt = 0 by decide) c16
    refine lv_iconst (v := 1) hx hb dL_law_494 (by decide) ?_
    refine lv_goto (tgt := 499) hx hb dL_law_495 (by decide) ?_
    have zi1 : (1 : Int32).toInt = 1 := by decide
    refine ok1 hT htx (fun p137 a96 a97 a98 a99 a100 x101 x102 x103 a104 a105 a106 a107 a108 a109 a110 a111 a112 x113 a114 a115 hk138 h116 h117 h118 h119 h120 h121 h122 h123 h124 h125 h126 h127 h128 h129 h130 h131 h132 h133 h134 h135 h136 => ?_)
    refine cgR (rn_V (As := [.int (xs (i.toInt.toNat + 1)), .int (xs (i.toInt.toNat + 2)), .int (xs (i.toInt.toNat + 3)), .int (xs (i.toInt.toNat + 4)), .int (xs (i.toInt.toNat + 5)), .int 1]) (rest := []) (b := x) (x_worldS l D Y Z H.size ws T g q x (xs (i.toInt.toNat + 1)) (xs (i.toInt.toNat + 2)) (xs (i.toInt.toNat + 3)) (xs (i.toInt.toNat + 4)) (xs (i.toInt.toNat + 5)) 1 hT htx (show (0 ≤ (1 : Int32).toInt ∧ (1 : Int32).toInt ≤ 1) by omega)) ⟨hx, hb, hml, hown, hg⟩ lk_L_45 ⟨CPC.blind, va_recv hKN.1 (P_r hP) (ci := 10) (q0 := p137) rfl hk138, CPC.at (P_r hP) hKN (D_r hD) hSZ hS hA⟩ ⟨⟨rfl, rfl⟩, ⟨Nat.le_of_ble_eq_true rfl, Nat.le_of_ble_eq_true rfl⟩, ⟨(show _ ≤ (600000 : Nat) by omega), (show _ ≤ (7302250 : Nat) by omega)⟩⟩ hl.1 rfl (Nat.le_of_ble_eq_true rfl) dL_law_499) hP hD hS hA (fun u139 H locs hw140 hP hD hS => ?_)
    refine W.widen (k := (bd + 1)) (n := (sd + 6)) (by omega) (by omega) ?_
    obtain ⟨u141, w142, T143, g144⟩ := u139
    obtain ⟨le145, hT, ke146, ke147, gj148, hw149, hw150⟩ : TLe T T143 ∧ TW Y Z T143 g144 q w142 ∧ KF 1 T ws w142 ∧ KF 6 T ws w142 ∧ GJ T 0 g g144 ∧ (∀ s0, q x 0 = some s0 → GQE g g144 s0 2) ∧ (∀ s0 sr, q x 0 = some s0 → q s0 1 = some sr → NNL g q s0 sr → ((((2 ≤ (xs (i.toInt.toNat + 2)).toInt ∧ (xs (i.toInt.toNat + 2)).toInt ≤ 599) ∧ (0 ≤ (xs (i.toInt.toNat + 3)).toInt ∧ (xs (i.toInt.toNat + 3)).toInt ≤ 599) ∧ (1 ≤ (xs (i.toInt.toNat + 4)).toInt ∧ (xs (i.toInt.toNat + 4)).toInt ≤ 30) ∧ (xs (i.toInt.toNat + 4)).toInt < (xs (i.toInt.toNat + 2)).toInt ∧ (1 ≤ (xs (i.toInt.toNat + 5)).toInt ∧ (xs (i.toInt.toNat + 5)).toInt ≤ 30000)) ∧ (0 ≤ (xs (i.toInt.toNat + 1)).toInt ∧ (xs (i.toInt.toNat + 1)).toInt < (g s0 0).toInt) ∧ (g s0 2).toInt < 40) ∧ u141.toInt = (g s0 2).toInt ∧ UPP T g g144 s0 2) ∨ (¬ (((2 ≤ (xs (i.toInt.toNat + 2)).toInt ∧ (xs (i.toInt.toNat + 2)).toInt ≤ 599) ∧ (0 ≤ (xs (i.toInt.toNat + 3)).toInt ∧ (xs (i.toInt.toNat + 3)).toInt ≤ 599) ∧ (1 ≤ (xs (i.toInt.toNat + 4)).toInt ∧ (xs (i.toInt.toNat + 4)).toInt ≤ 30) ∧ (xs (i.toInt.toNat + 4)).toInt < (xs (i.toInt.toNat + 2)).toInt ∧ (1 ≤ (xs (i.toInt.toNat + 5)).toInt ∧ (xs (i.toInt.toNat + 5)).toInt ≤ 30000)) ∧ (0 ≤ (xs (i.toInt.toNat + 1)).toInt ∧ (xs (i.toInt.toNat + 1)).toInt < (g s0 0).toInt) ∧ (g s0 2).toInt < 40) ∧ u141.toInt = -1 ∧ g144 = g)) := hw140
    have hk151 := ke146 _ _ hk138 (show (T x).1 = 1 by rw [htx])
    refine W.eq (g2 := F0 m 502 ls [.int u141]) rfl ?_
    refine lv_pop hx hb dL_law_502 rfl ?_
    refine lv_aload_n hx hb dL_law_503 rfl (lv_at hl 1 rfl) ?_
    refine lv_aload_n hx hb dL_law_504 rfl (lv_at hl 3 rfl) ?_
    refine lv_iload_n hx hb dL_law_505 rfl (lv_at hl 0 rfl) ?_
    refine lv_iconst (v := 1) hx hb dL_law_506 (by decide) ?_
    refine lv_iadd hx hb dL_law_507 ?_
    refine lv_topi (fun v152 ev152 => ?_)
    have hv152 := i_add (Eq.refl i.toInt) (show (1 : Int32).toInt = 1 by decide) ev152 (by omega) (by omega)
    refine va_sld hx hb hX hbl hbA hS (vp_in_iff.mpr ⟨by omega, by omega⟩) dL_law_508 ?_
    refine lv_topi (fun v153 ev153 => ?_)
    obtain rfl : v153 = (xs (i.toInt.toNat + 1)) := by rw [ev153, show v152.toNatClampNeg = i.toInt.toNat + 1 by have c9 := clampI (x := v152) (by omega); omega]
    refine lv_aload_n hx hb dL_law_509 rfl (lv_at hl 3 rfl) ?_
    refine lv_iload_n hx hb dL_law_510 rfl (lv_at hl 0 rfl) ?_
    refine lv_iconst (v := 2) hx hb dL_law_511 (by decide) ?_
    refine lv_iadd hx hb dL_law_512 ?_
    refine lv_topi (fun v154 ev154 => ?_)
    have hv154 := i_add (Eq.refl i.toInt) (show (2 : Int32).toInt = 2 by decide) ev154 (by omega) (by omega)
    refine va_sld hx hb hX hbl hbA hS (vp_in_iff.mpr ⟨by omega, by omega⟩) dL_law_513 ?_
    refine lv_topi (fun v155 ev155 => ?_)
    obtain rfl : v155 = (xs (i.toInt.toNat + 2)) := by rw [ev155, show v154.toNatClampNeg = i.toInt.toNat + 2 by have c9 := clampI (x := v154) (by omega); omega]
    refine lv_aload_n hx hb dL_law_514 rfl (lv_at hl 3 rfl) ?_
    refine lv_iload_n hx hb dL_law_515 rfl (lv_at hl 0 rfl) ?_
    refine lv_iconst (v := 3) hx hb dL_law_516 (by decide) ?_
    refine lv_iadd hx hb dL_law_517 ?_
    refine lv_topi (fun v156 ev156 => ?_)
    have hv156 := i_add (Eq.refl i.toInt) (show (3 : Int32).toInt = 3 by decide) ev156 (by omega) (by omega)
    refine va_sld hx hb hX hbl hbA hS (vp_in_iff.mpr ⟨by omega, by omega⟩) dL_law_518 ?_
    refine lv_topi (fun v157 ev157 => ?_)
    obtain rfl : v157 = (xs (i.toInt.toNat + 3)) := by rw [ev157, show v156.toNatClampNeg = i.toInt.toNat + 3 by have c9 := clampI (x := v156) (by omega); omega]
    refine lv_aload_n hx hb dL_law_519 rfl (lv_at hl 3 rfl) ?_
    refine lv_iload_n hx hb dL_law_520 rfl (lv_at hl 0 rfl) ?_
    refine lv_iconst (v := 4) hx hb dL_law_521 (by decide) ?_
    refine lv_iadd hx hb dL_law_522 ?_
    refine lv_topi (fun v158 ev158 => ?_)
    have hv158 := i_add (Eq.refl i.toInt) (show (4 : Int32).toInt = 4 by decide) ev158 (by omega) (by omega)
    refine va_sld hx hb hX hbl hbA hS (vp_in_iff.mpr ⟨by omega, by omega⟩) dL_law_523 ?_
    refine lv_topi (fun v159 ev159 => ?_)
    obtain rfl : v159 = (xs (i.toInt.toNat + 4)) := by rw [ev159, show v158.toNatClampNeg = i.toInt.toNat + 4 by have c9 := clampI (x := v158) (by omega); omega]
    refine lv_aload_n hx hb dL_law_524 rfl (lv_at hl 3 rfl) ?_
    refine lv_iload_n hx hb dL_law_525 rfl (lv_at hl 0 rfl) ?_
    refine lv_iconst (v := 5) hx hb dL_law_526 (by decide) ?_
    refine lv_iadd hx hb dL_law_527 ?_
    refine lv_topi (fun v160 ev160 => ?_)
    have hv160 := i_add (Eq.refl i.toInt) (show (5 : Int32).toInt = 5 by decide) ev160 (by omega) (by omega)
    refine va_sld hx hb hX hbl hbA hS (vp_in_iff.mpr ⟨by omega, by omega⟩) dL_law_528 ?_
    refine lv_topi (fun v161 ev161 => ?_)
    obtain rfl : v161 = (xs (i.toInt.toNat + 5)) := by rw [ev161, show v160.toNatClampNeg = i.toInt.toNat + 5 by have c9 := clampI (x := v160) (by omega); omega]
    refine lv_aload_n hx hb dL_law_529 rfl (lv_at hl 3 rfl) ?_
    refine lv_iload_n hx hb dL_law_530 rfl (lv_at hl 0 rfl) ?_
    refine lv_bipush (v := 6) hx hb dL_law_531 (by decide) ?_
    refine lv_iadd hx hb dL_law_533 ?_
    refine lv_topi (fun v162 ev162 => ?_)
    have hv162 := i_add (Eq.refl i.toInt) (show (6 : Int32).toInt = 6 by decide) ev162 (by omega) (by omega)
    refine va_sld hx hb hX hbl hbA hS (vp_in_iff.mpr ⟨by omega, by omega⟩) dL_law_534 ?_
    refine lv_topi (fun v163 ev163 => ?_)
    obtain rfl : v163 = (xs (i.toInt.toNat + 6)) := by rw [ev163, show v162.toNatClampNeg = i.toInt.toNat + 6 by have c9 := clampI (x := v162) (by omega); omega]
    refine lv_if_eq (tgt := 542) hx hb dL_law_535 (by decide) (fun c165 => ?_) (fun c165 => ?_)
    · skip
      have c165 := i_eq (Eq.refl (xs (i.toInt.toNat + 6)).toInt) (show (0 : Int32).toInt = 0 by decide) c165
      refine lv_iconst (v := 0) hx hb dL_law_542 (by decide) ?_
      have zi0 : (0 : Int32).toInt = 0 := by decide
      refine cgL (X := (MW Y om a I J F G)) (ws := w142) (rn_V (As := [.int (xs (i.toInt.toNat + 1)), .int (xs (i.toInt.toNat + 2)), .int (xs (i.toInt.toNat + 3)), .int (xs (i.toInt.toNat + 4)), .int (xs (i.toInt.toNat + 5)), .int 0]) (rest := []) (b := om) (m_worldS l D Y Z H.size om a I J F G (xs (i.toInt.toNat + 1)) (xs (i.toInt.toNat + 2)) (xs (i.toInt.toNat + 3)) (xs (i.toInt.toNat + 4)) (xs (i.toInt.toNat + 5)) 0 hm0 KS.rf KD.rf) ⟨hx, hb, hml, hown, hg⟩ lk_L_49 ⟨CP.blind, va_recv hKN.1 (P_l hP) (ci := 11) (q0 := 0) rfl rfl, CP.at (P_l hP) hKN (D_l hD)⟩ ⟨⟨rfl, rfl⟩, ⟨Nat.le_of_ble_eq_true rfl, Nat.le_of_ble_eq_true rfl⟩, ⟨(show _ ≤ (600000 : Nat) by omega), (show _ ≤ (7302250 : Nat) by omega)⟩⟩ hl.1 rfl (Nat.le_of_ble_eq_true rfl) dL_law_543) hP hD hS hA (fun u166 H locs hw167 hP hD hS => ?_)
      refine W.widen (k := (bd + 1)) (n := (sd + 6)) (by omega) (by omega) ?_
      obtain ⟨u168, f169⟩ := u166
      obtain ⟨hw170, hw171, hw172⟩ : TO f169 ∧ KD (F 0) f169 ∧ ((((((2 ≤ (xs (i.toInt.toNat + 2)).toInt ∧ (xs (i.toInt.toNat + 2)).toInt ≤ 599) ∧ (0 ≤ (xs (i.toInt.toNat + 3)).toInt ∧ (xs (i.toInt.toNat + 3)).toInt ≤ 599) ∧ (1 ≤ (xs (i.toInt.toNat + 4)).toInt ∧ (xs (i.toInt.toNat + 4)).toInt ≤ 30) ∧ (xs (i.toInt.toNat + 4)).toInt < (xs (i.toInt.toNat + 2)).toInt ∧ (1 ≤ (xs (i.toInt.toNat + 5)).toInt ∧ (xs (i.toInt.toNat + 5)).toInt ≤ 30000)) ∧ (0 ≤ (xs (i.toInt.toNat + 1)).toInt ∧ (xs (i.toInt.toNat + 1)).toInt < ((F 0) 0).toInt) ∧ ((F 0) 1).toInt < 40) ∧ u168.toInt = ((F 0) 1).toInt ∧ KC 1 (F 0) f169) ∨ (¬ (((2 ≤ (xs (i.toInt.toNat + 2)).toInt ∧ (xs (i.toInt.toNat + 2)).toInt ≤ 599) ∧ (0 ≤ (xs (i.toInt.toNat + 3)).toInt ∧ (xs (i.toInt.toNat + 3)).toInt ≤ 599) ∧ (1 ≤ (xs (i.toInt.toNat + 4)).toInt ∧ (xs (i.toInt.toNat + 4)).toInt ≤ 30) ∧ (xs (i.toInt.toNat + 4)).toInt < (xs (i.toInt.toNat + 2)).toInt ∧ (1 ≤ (xs (i.toInt.toNat + 5)).toInt ∧ (xs (i.toInt.toNat + 5)).toInt ≤ 30000)) ∧ (0 ≤ (xs (i.toInt.toNat + 1)).toInt ∧ (xs (i.toInt.toNat + 1)).toInt < ((F 0) 0).toInt) ∧ ((F 0) 1).toInt < 40) ∧ u168.toInt = -1 ∧ KS (F 0) f169))) := hw167
      refine W.eq (g2 := F0 m 546 ls [.int u168]) rfl ?_
      have hP : va_P D vwCl ((MW Y om a I J (vf_upd F 0 f169) G) ++ w142) H := hP
      have hD : va_D A ((MW Y om a I J (vf_upd F 0 f169) G) ++ w142) := hD
      have hR173E := LN.cnt (F2 := (vf_upd F 0 f169)) hLR.1 htx le145 2 1 (Or.inl ⟨rfl, rfl⟩) gj148 hw150 hw172 rfl rfl rfl
      have hR173 := hR173E.2
      have hR173E := hR173E.1
      have hD174 : LD T143 g144 q x (vf_upd F 0 f169) := LD.eq1 hLR.2 htx le145 2 gj148 hw149 hw171 rfl
      have hR173 : LC T143 g144 q x (vf_upd F 0 f169) := ⟨hR173, hD174⟩
      refine lv_pop hx hb dL_law_546 rfl ?_
      refine lv_goto (tgt := 1878) hx hb dL_law_547 (by decide) ?_
      exact hK I J (vf_upd F 0 f169) G w142 T143 g144 q _ _ H locs ls (by omega) (by omega) ⟨hP, hD, hS, lv_sub hl [0, 1, 2, 3] rfl, hT, (le145.up htx), hR173, hw170, hm1, hm2, hm3, hm4, hm5, (show 0 ≤ (I 3).toInt ∧ (I 3).toInt ≤ 400 by omega)⟩
    · skip
      have c165 := i_ne (Eq.refl (xs (i.toInt.toNat + 6)).toInt) (show (0 : Int32).toInt = 0 by decide) c165
      refine lv_iconst (v := 1) hx hb dL_law_538 (by decide) ?_
      refine lv_goto (tgt := 543) hx hb dL_law_539 (by decide) ?_
      refine cgL (X := (MW Y om a I J F G)) (ws := w142) (rn_V (As := [.int (xs (i.toInt.toNat + 1)), .int (xs (i.toInt.toNat + 2)), .int (xs (i.toInt.toNat + 3)), .int (xs (i.toInt.toNat + 4)), .int (xs (i.toInt.toNat + 5)), .int 1]) (rest := []) (b := om) (m_worldS l D Y Z H.size om a I J F G (xs (i.toInt.toNat + 1)) (xs (i.toInt.toNat + 2)) (xs (i.toInt.toNat + 3)) (xs (i.toInt.toNat + 4)) (xs (i.toInt.toNat + 5)) 1 hm0 KS.rf KD.rf) ⟨hx, hb, hml, hown, hg⟩ lk_L_49 ⟨CP.blind, va_recv hKN.1 (P_l hP) (ci := 11) (q0 := 0) rfl rfl, CP.at (P_l hP) hKN (D_l hD)⟩ ⟨⟨rfl, rfl⟩, ⟨Nat.le_of_ble_eq_true rfl, Nat.le_of_ble_eq_true rfl⟩, ⟨(show _ ≤ (600000 : Nat) by omega), (show _ ≤ (7302250 : Nat) by omega)⟩⟩ hl.1 rfl (Nat.le_of_ble_eq_true rfl) dL_law_543) hP hD hS hA (fun u175 H locs hw176 hP hD hS => ?_)
      refine W.widen (k := (bd + 1)) (n := (sd + 6)) (by omega) (by omega) ?_
      obtain ⟨u177, f178⟩ := u175
      obtain ⟨hw179, hw180, hw181⟩ : TO f178 ∧ KD (F 0) f178 ∧ ((((((2 ≤ (xs (i.toInt.toNat + 2)).toInt ∧ (xs (i.toInt.toNat + 2)).toInt ≤ 599) ∧ (0 ≤ (xs (i.toInt.toNat + 3)).toInt ∧ (xs (i.toInt.toNat + 3)).toInt ≤ 599) ∧ (1 ≤ (xs (i.toInt.toNat + 4)).toInt ∧ (xs (i.toInt.toNat + 4)).toInt ≤ 30) ∧ (xs (i.toInt.toNat + 4)).toInt < (xs (i.toInt.toNat + 2)).toInt ∧ (1 ≤ (xs (i.toInt.toNat + 5)).toInt ∧ (xs (i.toInt.toNat + 5)).toInt ≤ 30000)) ∧ (0 ≤ (xs (i.toInt.toNat + 1)).toInt ∧ (xs (i.toInt.toNat + 1)).toInt < ((F 0) 0).toInt) ∧ ((F 0) 1).toInt < 40) ∧ u177.toInt = ((F 0) 1).toInt ∧ KC 1 (F 0) f178) ∨ (¬ (((2 ≤ (xs (i.toInt.toNat + 2)).toInt ∧ (xs (i.toInt.toNat + 2)).toInt ≤ 599) ∧ (0 ≤ (xs (i.toInt.toNat + 3)).toInt ∧ (xs (i.toInt.toNat + 3)).toInt ≤ 599) ∧ (1 ≤ (xs (i.toInt.toNat + 4)).toInt ∧ (xs (i.toInt.toNat + 4)).toInt ≤ 30) ∧ (xs (i.toInt.toNat + 4)).toInt < (xs (i.toInt.toNat + 2)).toInt ∧ (1 ≤ (xs (i.toInt.toNat + 5)).toInt ∧ (xs (i.toInt.toNat + 5)).toInt ≤ 30000)) ∧ (0 ≤ (xs (i.toInt.toNat + 1)).toInt ∧ (xs (i.toInt.toNat + 1)).toInt < ((F 0) 0).toInt) ∧ ((F 0) 1).toInt < 40) ∧ u177.toInt = -1 ∧ KS (F 0) f178))) := hw176
      refine W.eq (g2 := F0 m 546 ls [.int u177]) rfl ?_
      have hP : va_P D vwCl ((MW Y om a I J (vf_upd F 0 f178) G) ++ w142) H := hP
      have hD : va_D A ((MW Y om a I J (vf_upd F 0 f178) G) ++ w142) := hD
      have hR182E := LN.cnt (F2 := (vf_upd F 0 f178)) hLR.1 htx le145 2 1 (Or.inl ⟨rfl, rfl⟩) gj148 hw150 hw181 rfl rfl rfl
      have hR182 := hR182E.2
      have hR182E := hR182E.1
      have hD183 : LD T143 g144 q x (vf_upd F 0 f178) := LD.eq1 hLR.2 htx le145 2 gj148 hw149 hw180 rfl
      have hR182 : LC T143 g144 q x (vf_upd F 0 f178) := ⟨hR182, hD183⟩
      refine lv_pop hx hb dL_law_546 rfl ?_
      refine lv_goto (tgt := 1878) hx hb dL_law_547 (by decide) ?_
      exact hK I J (vf_upd F 0 f178) G w142 T143 g144 q _ _ H locs ls (by omega) (by omega) ⟨hP, hD, hS, lv_sub hl [0, 1, 2, 3] rfl, hT, (le145.up htx), hR182, hw179, hm1, hm2, hm3, hm4, hm5, (show 0 ≤ (I 3).toInt ∧ (I 3).toInt ≤ 400 by omega)⟩
