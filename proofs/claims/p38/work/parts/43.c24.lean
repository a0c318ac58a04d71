set_option maxHeartbeats 4000000 in
set_option maxRecDepth 100000 in
theorem lc_24 {p : Program} {l : Launch} {e : Env} {s : State} {m : MethodId} {below : List Frame} {meth : Method} {c : Code} {sb L : Nat} {xs : Nat → Int32} (C0 : lw_At p s m meth c sb L xs) {D : va_G} {Y : Nat → ClassId} {Z : Nat → Nat} (hKN : KN D Y Z s) {A : Nat → Prop} (hSZ : SZ Z A s s.heap) (hA : ∀ q, s.heap.size ≤ q → A q) (hA2 : ∀ q, A q → s.heap.size ≤ q) {x om : Nat} {a : Nat → Nat} {H : Heap} {locs : List Loc} {ls : Array Slot} {I : Nat → Int32} {J : Nat → Int64} {F : Nat → Nat → Int32} {G : Nat → Nat → Int64} {ws : va_W} {T : RT} {g : GN} {q : GQ} {i : Int32} {bd sd : Nat} (hL : L ≤ 3584) (hi : 0 ≤ i.toInt ∧ i.toInt + 7 ≤ (L : Int)) (hbd : bd + 1092 ≤ 600000) (hsd : sd + 7753 ≤ 7302250) (hI : LI D Y Z A s sb x om a H locs ls I J F G ws T g q i) (hK : ∀ (I : Nat → Int32) (J : Nat → Int64) (F : Nat → Nat → Int32) (G : Nat → Nat → Int64) (ws : va_W) (T : RT) (g : GN) (q : GQ) (bd2 sd2 : Nat) (H : Heap) (locs : List Loc) (ls : Array Slot), bd2 ≤ bd + 1092 → sd2 ≤ sd + 7753 → LI D Y Z A s sb x om a H locs ls I J F G ws T g q i → W p l e room_1 s m #[Value.ref sb] below meth c H locs bd2 sd2 (lw_Z below #[Value.ref sb] s) (F0 m 1878 ls [])) : W p l e room_1 s m #[Value.ref sb] below meth c H locs bd sd (lw_Z below #[Value.ref sb] s) (F0 m 1290 ls []) := by
  obtain ⟨hx, hb, hr, hml, hown, hts, hX, hbl, hlocks, hgv⟩ := id C0
  have hb : c.code = cL_law := hb
  have hown : s.vm.findClass RL = some m.cls := hown
  have hg : ∀ w ∈ GW, w.before #[Value.ref sb] s = true := fun w h => hts w (gw_tbl h)
  have hbA : ¬ A sb := fun h => absurd (hA2 sb h) (Nat.not_le.mpr hbl)
  obtain ⟨hP, hD, hS, hl, hT, htx, hLR, hm0, hm1, hm2, hm3, hm4, hm5, hm6⟩ := hI
  refine lv_aload_n hx hb dL_law_1290 rfl (lv_at hl 2 rfl) ?_
  refine lv_aload_n hx hb dL_law_1291 rfl (lv_at hl 3 rfl) ?_
  refine lv_iload_n hx hb dL_law_1292 rfl (lv_at hl 0 rfl) ?_
  refine lv_iconst (v := 1) hx hb dL_law_1293 (by decide) ?_
  refine lv_iadd hx hb dL_law_1294 ?_
  refine lv_topi (fun v1 ev1 => ?_)
  have hv1 := i_add (Eq.refl i.toInt) (show (1 : Int32).toInt = 1 by decide) ev1 (by omega) (by omega)
  refine va_sld hx hb hX hbl hbA hS (vp_in_iff.mpr ⟨by omega, by omega⟩) dL_law_1295 ?_
  refine lv_topi (fun v2 ev2 => ?_)
  obtain rfl : v2 = (xs (i.toInt.toNat + 1)) := by rw [ev2, show v1.toNatClampNeg = i.toInt.toNat + 1 by have c9 := clampI (x := v1) (by omega); omega]
  refine lv_aload_n hx hb dL_law_1296 rfl (lv_at hl 3 rfl) ?_
  refine lv_iload_n hx hb dL_law_1297 rfl (lv_at hl 0 rfl) ?_
  refine lv_iconst (v := 2) hx hb dL_law_1298 (by decide) ?_
  refine lv_iadd hx hb dL_law_1299 ?_
  refine lv_topi (fun v3 ev3 => ?_)
  have hv3 := i_add (Eq.refl i.toInt) (show (2 : Int32).toInt = 2 by decide) ev3 (by omega) (by omega)
  refine va_sld hx hb hX hbl hbA hS (vp_in_iff.mpr ⟨by omega, by omega⟩) dL_law_1300 ?_
  refine lv_topi (fun v4 ev4 => ?_)
  obtain rfl : v4 = (xs (i.toInt.toNat + 2)) := by rw [ev4, show v3.toNatClampNeg = i.toInt.toNat + 2 by have c9 := clampI (x := v3) (by omega); omega]
  refine ok1 hT htx (fun p46 a5 a6 a7 a8 a9 x10 x11 x12 a13 a14 a15 a16 a17 a18 a19 a20 a21 x22 a23 a24 hk47 h25 h26 h27 h28 h29 h30 h31 h32 h33 h34 h35 h36 h37 h38 h39 h40 h41 h42 h43 h44 h45 => ?_)
  refine cgR (rn_V (As := [.int (xs (i.toInt.toNat + 1)), .int (xs (i.toInt.toNat + 2))]) (rest := []) (b := x) (x_X10_truly l D Y Z H.size ws T g q x (xs (i.toInt.toNat + 1)) (xs (i.toInt.toNat + 2)) hT htx) ⟨hx, hb, hml, hown, hg⟩ lk_L_119 ⟨CPC.blind, va_recv hKN.1 (P_r hP) (ci := 10) (q0 := p46) rfl hk47, CPC.at (P_r hP) hKN (D_r hD) hSZ hS hA⟩ ⟨⟨rfl, rfl⟩, ⟨Nat.le_of_ble_eq_true rfl, Nat.le_of_ble_eq_true rfl⟩, ⟨(show _ ≤ (600000 : Nat) by omega), (show _ ≤ (7302250 : Nat) by omega)⟩⟩ hl.1 rfl (Nat.le_of_ble_eq_true rfl) dL_law_1301) hP hD hS hA (fun u48 H locs hw49 hP hD hS => ?_)
  refine W.widen (k := (bd + 52)) (n := (sd + 364)) (by omega) (by omega) ?_
  obtain ⟨u50, w51, T52⟩ := u48
  obtain ⟨le53, hT, ke54⟩ : TLe T T52 ∧ TW Y Z T52 g q w51 ∧ KF 1 T ws w51 := hw49
  have hk55 := ke54 _ _ hk47 (show (T x).1 = 1 by rw [htx])
  refine W.eq (g2 := F0 m 1304 ls [.long u50]) rfl ?_
  refine lv_pop2_2 hx hb dL_law_1304 rfl ?_
  refine lv_aload_n hx hb dL_law_1305 rfl (lv_at hl 1 rfl) ?_
  refine lv_aload_n hx hb dL_law_1306 rfl (lv_at hl 3 rfl) ?_
  refine lv_iload_n hx hb dL_law_1307 rfl (lv_at hl 0 rfl) ?_
  refine lv_iconst (v := 1) hx hb dL_law_1308 (by decide) ?_
  refine lv_iadd hx hb dL_law_1309 ?_
  refine lv_topi (fun v56 ev56 => ?_)
  have hv56 := i_add (Eq.refl i.toInt) (show (1 : Int32).toInt = 1 by decide) ev56 (by omega) (by omega)
  refine va_sld hx hb hX hbl hbA hS (vp_in_iff.mpr ⟨by omega, by omega⟩) dL_law_1310 ?_
  refine lv_topi (fun v57 ev57 => ?_)
  obtain rfl : v57 = (xs (i.toInt.toNat + 1)) := by rw [ev57, show v56.toNatClampNeg = i.toInt.toNat + 1 by have c9 := clampI (x := v56) (by omega); omega]
  refine lv_aload_n hx hb dL_law_1311 rfl (lv_at hl 3 rfl) ?_
  refine lv_iload_n hx hb dL_law_1312 rfl (lv_at hl 0 rfl) ?_
  refine lv_iconst (v := 2) hx hb dL_law_1313 (by decide) ?_
  refine lv_iadd hx hb dL_law_1314 ?_
  refine lv_topi (fun v58 ev58 => ?_)
  have hv58 := i_add (Eq.refl i.toInt) (show (2 : Int32).toInt = 2 by decide) ev58 (by omega) (by omega)
  refine va_sld hx hb hX hbl hbA hS (vp_in_iff.mpr ⟨by omega, by omega⟩) dL_law_1315 ?_
  refine lv_topi (fun v59 ev59 => ?_)
  obtain rfl : v59 = (xs (i.toInt.toNat + 2)) := by rw [ev59, show v58.toNatClampNeg = i.toInt.toNat + 2 by have c9 := clampI (x := v58) (by omega); omega]
  refine cgL (X := (MW Y om a I J F G)) (ws := w51) (rn_V (As := [.int (xs (i.toInt.toNat + 1)), .int (xs (i.toInt.toNat + 2))]) (rest := []) (b := om) (m_truly l D Y Z H.size om a I J F G (xs (i.toInt.toNat + 1)) (xs (i.toInt.toNat + 2)) hm0 hm1 hm2 hm3 hm4) ⟨hx, hb, hml, hown, hg⟩ lk_L_123 ⟨CP.blind, va_recv hKN.1 (P_l hP) (ci := 11) (q0 := 0) rfl rfl, CP.at (P_l hP) hKN (D_l hD)⟩ ⟨⟨rfl, rfl⟩, ⟨Nat.le_of_ble_eq_true rfl, Nat.le_of_ble_eq_true rfl⟩, ⟨(show _ ≤ (600000 : Nat) by omega), (show _ ≤ (7302250 : Nat) by omega)⟩⟩ hl.1 rfl (Nat.le_of_ble_eq_true rfl) dL_law_1316) hP hD hS hA (fun u60 H locs hw61 hP hD hS => ?_)
  refine W.widen (k := (bd + 52)) (n := (sd + 364)) (by omega) (by omega) ?_
  obtain ⟨u62, u63, u64, u65, u66, u67, u68, u69, u70, u71, u72, u73, u74, f75, f76, f77, f78, f79, f80, f81, f82, f83⟩ := u60
  obtain ⟨hw84, hw85⟩ : LB f76 ∧ WG f83 := hw61
  refine W.eq (g2 := F0 m 1319 ls [.long u62]) rfl ?_
  have hP : va_P D vwCl ((MW Y om a (upd (upd (upd (upd (upd (upd (upd I 26 u74) 29 u69) 32 u72) 34 u63) 35 u64) 36 u65) 39 u66) (vp_updL (vp_updL (vp_updL (vp_updL (vp_updL J 30 u70) 31 u71) 33 u73) 37 u67) 38 u68) (vf_upd (vf_upd (vf_upd (vf_upd (vf_upd F 1 f75) 28 f76) 41 f78) 43 f80) 46 f83) (vf_upd (vf_upd (vf_upd (vf_upd G 25 f82) 27 f81) 40 f77) 42 f79)) ++ w51) H := hP
  have hD : va_D A ((MW Y om a (upd (upd (upd (upd (upd (upd (upd I 26 u74) 29 u69) 32 u72) 34 u63) 35 u64) 36 u65) 39 u66) (vp_updL (vp_updL (vp_updL (vp_updL (vp_updL J 30 u70) 31 u71) 33 u73) 37 u67) 38 u68) (vf_upd (vf_upd (vf_upd (vf_upd (vf_upd F 1 f75) 28 f76) 41 f78) 43 f80) 46 f83) (vf_upd (vf_upd (vf_upd (vf_upd G 25 f82) 27 f81) 40 f77) 42 f79)) ++ w51) := hD
  have hR86 : LN T52 g q x (vf_upd (vf_upd (vf_upd (vf_upd (vf_upd F 1 f75) 28 f76) 41 f78) 43 f80) 46 f83) := LN.keep hLR.1 htx le53 KS.rf rfl rfl
  have hD87 : LD T52 g q x (vf_upd (vf_upd (vf_upd (vf_upd (vf_upd F 1 f75) 28 f76) 41 f78) 43 f80) 46 f83) := LD.keep hLR.2 htx le53 KD.rf rfl
  have hR86 : LC T52 g q x (vf_upd (vf_upd (vf_upd (vf_upd (vf_upd F 1 f75) 28 f76) 41 f78) 43 f80) 46 f83) := ⟨hR86, hD87⟩
  refine lv_pop2_2 hx hb dL_law_1319 rfl ?_
  refine lv_goto (tgt := 1878) hx hb dL_law_1320 (by decide) ?_
  exact hK (upd (upd (upd (upd (upd (upd (upd I 26 u74) 29 u69) 32 u72) 34 u63) 35 u64) 36 u65) 39 u66) (vp_updL (vp_updL (vp_updL (vp_updL (vp_updL J 30 u70) 31 u71) 33 u73) 37 u67) 38 u68) (vf_upd (vf_upd (vf_upd (vf_upd (vf_upd F 1 f75) 28 f76) 41 f78) 43 f80) 46 f83) (vf_upd (vf_upd (vf_upd (vf_upd G 25 f82) 27 f81) 40 f77) 42 f79) w51 T52 g q _ _ H locs ls (by omega) (by omega) ⟨hP, hD, hS, lv_sub hl [0, 1, 2, 3] rfl, hT, (le53.up htx), hR86, hm0, hw84, hm2, hm3, hw85, hm5, (show 0 ≤ (I 3).toInt ∧ (I 3).toInt ≤ 400 by omega)⟩
set_option maxHeartbeats 4000000 in
set_option maxRecDepth 100000 in
theorem lc_25 {p : Program} {l : Launch} {e : Env} {s : State} {m : MethodId} {below : List Frame} {meth : Method} {c : Code} {sb L : Nat} {xs : Nat → Int32} (C0 : lw_At p s m meth c sb L xs) {D : va_G} {Y : Nat → ClassId} {Z : Nat → Nat} (hKN : KN D Y Z s) {A : Nat → Prop} (hSZ : SZ Z A s s.heap) (hA : ∀ q, s.heap.size ≤ q → A q) (hA2 : ∀ q, A q → s.heap.size ≤ q) {x om : Nat} {a : Nat → Nat} {H : Heap} {locs : List Loc} {ls : Array Slot} {I : Nat → Int32} {J : Nat → Int64} {F : Nat → Nat → Int32} {G : Nat → Nat → Int64} {ws : va_W} {T : RT} {g : GN} {q : GQ} {i : Int32} {bd sd : Nat} (hL : L ≤ 3584) (hi : 0 ≤ i.toInt ∧ i.toInt + 7 ≤ (L : Int)) (hbd : bd + 1092 ≤ 600000) (hsd : sd + 7753 ≤ 7302250) (hI : LI D Y Z A s sb x om a H locs ls I J F G ws T g q i) (hK : ∀ (I : Nat → Int32) (J : Nat → Int64) (F : Nat → Nat → Int32) (G : Nat → Nat → Int64) (ws : va_W) (T : RT) (g : GN) (q : GQ) (bd2 sd2 : Nat) (H : Heap) (locs : List Loc) (ls : Array Slot), bd2 ≤ bd + 1092 → sd2 ≤ sd + 7753 → LI D Y Z A s sb x om a H locs ls I J F G ws T g q i → W p l e room_1 s m #[Value.ref sb] below meth c H locs bd2 sd2 (lw_Z below #[Value.ref sb] s) (F0 m 1878 ls [])) : W p l e room_1 s m #[Value.ref sb] below meth c H locs bd sd (lw_Z below #[Value.ref sb] s) (F0 m 1323 ls []) := by
  obtain ⟨hx, hb, hr, hml, hown, hts, hX, hbl, hlocks, hgv⟩ := id C0
  have hb : c.code = cL_law := hb
  have hown : s.vm.findClass RL = some m.cls := hown
  have hg : ∀ w ∈ GW, w.before #[Value.ref sb] s = true := fun w h => hts w (gw_tbl h)
  have hbA : ¬ A sb := fun h => absurd (hA2 sb h) (Nat.not_le.mpr hbl)
  obtain ⟨hP, hD, hS, hl, hT, htx, hLR, hm0, hm1, hm2, hm3, hm4, hm5, hm6⟩ := hI
  refine lv_aload_n hx hb dL_law_1323 rfl (lv_at hl 2 rfl) ?_
  refine lv_aload_n hx hb dL_law_1324 rfl (lv_at hl 3 rfl) ?_
  refine lv_iload_n hx hb dL_law_1325 rfl (lv_at hl 0 rfl) ?_
  refine lv_iconst (v := 1) hx hb dL_law_1326 (by decide) ?_
  refine lv_iadd hx hb dL_law_1327 ?_
  refine lv_topi (fun v1 ev1 => ?_)
  have hv1 := i_add (Eq.refl i.toInt) (show (1 : Int32).toInt = 1 by decide) ev1 (by omega) (by omega)
  refine va_sld hx hb hX hbl hbA hS (vp_in_iff.mpr ⟨by omega, by omega⟩) dL_law_1328 ?_
  refine lv_topi (fun v2 ev2 => ?_)
  obtain rfl : v2 = (xs (i.toInt.toNat + 1)) := by rw [ev2, show v1.toNatClampNeg = i.toInt.toNat + 1 by have c9 := clampI (x := v1) (by omega); omega]
  refine lv_aload_n hx hb dL_law_1329 rfl (lv_at hl 3 rfl) ?_
  refine lv_iload_n hx hb dL_law_1330 rfl (lv_at hl 0 rfl) ?_
  refine lv_iconst (v := 2) hx hb dL_law_1331 (by decide) ?_
  refine lv_iadd hx hb dL_law_1332 ?_
  refine lv_topi (fun v3 ev3 => ?_)
  have hv3 := i_add (Eq.refl i.toInt) (show (2 : Int32).toInt = 2 by decide) ev3 (by omega) (by omega)
  refine va_sld hx hb hX hbl hbA hS (vp_in_iff.mpr ⟨by omega, by omega⟩) dL_law_1333 ?_
  refine lv_topi (fun v4 ev4 => ?_)
  obtain rfl : v4 = (xs (i.toInt.toNat + 2)) := by rw [ev4, show v3.toNatClampNeg = i.toInt.toNat + 2 by have c9 := clampI (x := v3) (by omega); omega]
  refine ok1 hT htx (fun p46 a5 a6 a7 a8 a9 x10 x11 x12 a13 a14 a15 a16 a17 a18 a19 a20 a21 x22 a23 a24 hk47 h25 h26 h27 h28 h29 h30 h31 h32 h33 h34 h35 h36 h37 h38 h39 h40 h41 h42 h43 h44 h45 => ?_)
  refine cgR (rn_V (As := [.int (xs (i.toInt.toNat + 1)), .int (xs (i.toInt.toNat + 2))]) (rest := []) (b := x) (x_X10_bound l D Y Z H.size ws T g q x (xs (i.toInt.toNat + 1)) (xs (i.toInt.toNat + 2)) hT htx) ⟨hx, hb, hml, hown, hg⟩ lk_L_124 ⟨CPC.blind, va_recv hKN.1 (P_r hP) (ci := 10) (q0 := p46) rfl hk47, CPC.at (P_r hP) hKN (D_r hD) hSZ hS hA⟩ ⟨⟨rfl, rfl⟩, ⟨Nat.le_of_ble_eq_true rfl, Nat.le_of_ble_eq_true rfl⟩, ⟨(show _ ≤ (600000 : Nat) by omega), (show _ ≤ (7302250 : Nat) by omega)⟩⟩ hl.1 rfl (Nat.le_of_ble_eq_true rfl) dL_law_1334) hP hD hS hA (fun u48 H locs hw49 hP hD hS => ?_)
  refine W.widen (k := (bd + 40)) (n := (sd + 280)) (by omega) (by omega) ?_
  obtain ⟨u50, w51, T52⟩ := u48
  obtain ⟨le53, hT, ke54⟩ : TLe T T52 ∧ TW Y Z T52 g q w51 ∧ KF 1 T ws w51 := hw49
  have hk55 := ke54 _ _ hk47 (show (T x).1 = 1 by rw [htx])
  refine W.eq (g2 := F0 m 1337 ls [.int u50]) rfl ?_
  refine lv_pop hx hb dL_law_1337 rfl ?_
  refine lv_aload_n hx hb dL_law_1338 rfl (lv_at hl 1 rfl) ?_
  refine lv_aload_n hx hb dL_law_1339 rfl (lv_at hl 3 rfl) ?_
  refine lv_iload_n hx hb dL_law_1340 rfl (lv_at hl 0 rfl) ?_
  refine lv_iconst (v := 1) hx hb dL_law_1341 (by decide) ?_
  refine lv_iadd hx hb dL_law_1342 ?_
  refine lv_topi (fun v56 ev56 => ?_)
  have hv56 := i_add (Eq.refl i.toInt) (show (1 : Int32).toInt = 1 by decide) ev56 (by omega) (by omega)
  refine va_sld hx hb hX hbl hbA hS (vp_in_iff.mpr ⟨by omega, by omega⟩) dL_law_1343 ?_
  refine lv_topi (fun v57 ev57 => ?_)
  obtain rfl : v57 = (xs (i.toInt.toNat + 1)) := by rw [ev57, show v56.toNatClampNeg = i.toInt.toNat + 1 by have c9 := clampI (x := v56) (by omega); omega]
  refine lv_aload_n hx hb dL_law_1344 rfl (lv_at hl 3 rfl) ?_
  refine lv_iload_n hx hb dL_law_1345 rfl (lv_at hl 0 rfl) ?_
  refine lv_iconst (v := 2) hx hb dL_law_1346 (by decide) ?_
  refine lv_iadd hx hb dL_law_1347 ?_
  refine lv_topi (fun v58 ev58 => ?_)
  have hv58 := i_add (Eq.refl i.toInt) (show (2 : Int32).toInt = 2 by decide) ev58 (by omega) (by omega)
  refine va_sld hx hb hX hbl hbA hS (vp_in_iff.mpr ⟨by omega, by omega⟩) dL_law_1348 ?_
  refine lv_topi (fun v59 ev59 => ?_)
  obtain rfl : v59 = (xs (i.toInt.toNat + 2)) := by rw [ev59, show v58.toNatClampNeg = i.toInt.toNat + 2 by have c9 := clampI (x := v58) (by omega); omega]
  refine cgL (X := (MW Y om a I J F G)) (ws := w51) (rn_V (As := [.int (xs (i.toInt.toNat + 1)), .int (xs (i.toInt.toNat + 2))]) (rest := []) (b := om) (m_bound l D Y Z H.size om a I J F G (xs (i.toInt.toNat + 1)) (xs (i.toInt.toNat + 2)) hm0 hm1 hm2) ⟨hx, hb, hml, hown, hg⟩ lk_L_127 ⟨CP.blind, va_recv hKN.1 (P_l hP) (ci := 11) (q0 := 0) rfl rfl, CP.at (P_l hP) hKN (D_l hD)⟩ ⟨⟨rfl, rfl⟩, ⟨Nat.le_of_ble_eq_true rfl, Nat.le_of_ble_eq_true rfl⟩, ⟨(show _ ≤ (600000 : Nat) by omega), (show _ ≤ (7302250 : Nat) by omega)⟩⟩ hl.1 rfl (Nat.le_of_ble_eq_true rfl) dL_law_1349) hP hD hS hA (fun u60 H locs hw61 hP hD hS => ?_)
  refine W.widen (k := (bd + 40)) (n := (sd + 280)) (by omega) (by omega) ?_
  obtain ⟨u62, u63, u64, u65, u66, u67, u68, u69, u70, u71, f72, f73, f74, f75, f76⟩ := u60
  have hw77 : LB f72 := hw61
  refine W.eq (g2 := F0 m 1352 ls [.int u62]) rfl ?_
  have hP : va_P D vwCl ((MW Y om a (upd (upd (upd (upd (upd I 29 u69) 34 u63) 35 u64) 36 u65) 39 u66) (vp_updL (vp_updL (vp_updL (vp_updL J 30 u70) 31 u71) 37 u67) 38 u68) (vf_upd (vf_upd (vf_upd F 28 f72) 41 f74) 43 f76) (vf_upd (vf_upd G 40 f73) 42 f75)) ++ w51) H := hP
  have hD : va_D A ((MW Y om a (upd (upd (upd (upd (upd I 29 u69) 34 u63) 35 u64) 36 u65) 39 u66) (vp_updL (vp_updL (vp_updL (vp_updL J 30 u70) 31 u71) 37 u67) 38 u68) (vf_upd (vf_upd (vf_upd F 28 f72) 41 f74) 43 f76) (vf_upd (vf_upd G 40 f73) 42 f75)) ++ w51) := hD
  have hR78 : LN T52 g q x (vf_upd (vf_upd (vf_upd F 28 f72) 41 f74) 43 f76) := LN.keep hLR.1 htx le53 KS.rf rfl rfl
  have hD79 : LD T52 g q x (vf_upd (vf_upd (vf_upd F 28 f72) 41 f74) 43 f76) := LD.keep hLR.2 htx le53 KD.rf rfl
  have hR78 : LC T52 g q x (vf_upd (vf_upd (vf_upd F 28 f72) 41 f74) 43 f76) := ⟨hR78, hD79⟩
  refine lv_pop hx hb dL_law_1352 rfl ?_
  refine lv_goto (tgt := 1878) hx hb dL_law_1353 (by decide) ?_
  exact hK (upd (upd (upd (upd (upd I 29 u69) 34 u63) 35 u64) 36 u65) 39 u66) (vp_updL (vp_updL (vp_updL (vp_updL J 30 u70) 31 u71) 37 u67) 38 u68) (vf_upd (vf_upd (vf_upd F 28 f72) 41 f74) 43 f76) (vf_upd (vf_upd G 40 f73) 42 f75) w51 T52 g q _ _ H locs ls (by omega) (by omega) ⟨hP, hD, hS, lv_sub hl [0, 1, 2, 3] rfl, hT, (le53.up htx), hR78, hm0, hw77, hm2, hm3, hm4, hm5, (show 0 ≤ (I 3).toInt ∧ (I 3).toInt ≤ 400 by omega)⟩
set_option maxHeartbeats 4000000 in
set_option maxRecDepth 100000 in
theorem lc_26 {p : Program} {l : Launch} {e : Env} {s : State} {m : MethodId} {below : List Frame} {meth : Method} {c : Code} {sb L : Nat} {xs : Nat → Int32} (C0 : lw_At p s m meth c sb L xs) {D : va_G} {Y : Nat → ClassId} {Z : Nat → Nat} (hKN : KN D Y Z s) {A : Nat → Prop} (hSZ : SZ Z A s s.heap) (hA : ∀ q, s.heap.size ≤ q → A q) (hA2 : ∀ q, A q → s.heap.size ≤ q) {x om : Nat} {a : Nat → Nat} {H : Heap} {locs : List Loc} {ls : Array Slot} {I : Nat → Int32} {J : Nat → Int64} {F : Nat → Nat → Int32} {G : Nat → Nat → Int64} {ws : va_W} {T : RT} {g : GN} {q : GQ} {i : Int32} {bd sd : Nat} (hL : L ≤ 3584) (hi : 0 ≤ i.toInt ∧ i.toInt + 7 ≤ (L : Int)) (hbd : bd + 1092 ≤ 600000) (hsd : sd + 7753 ≤ 7302250) (hI : LI D Y Z A s sb x om a H locs ls I J F G ws T g q i) (hK : ∀ (I : Nat → Int32) (J : Nat → Int64) (F : Nat → Nat → Int32) (G : Nat → Nat → Int64) (ws : va_W) (T : RT) (g : GN) (q : GQ) (bd2 sd2 : Nat) (H : Heap) (locs : List Loc) (ls : Array Slot), bd2 ≤ bd + 1092 → sd2 ≤ sd + 7753 → LI D Y Z A s sb x om a H locs ls I J F G ws T g q i → W p l e room_1 s m #[Value.ref sb] below meth c H locs bd2 sd2 (lw_Z below #[Value.ref sb] s) (F0 m 1878 ls [])) : W p l e room_1 s m #[Value.ref sb] below meth c H locs bd sd (lw_Z below #[Value.ref sb] s) (F0 m 1356 ls []) := by
  obtain ⟨hx, hb, hr, hml, hown, hts, hX, hbl, hlocks, hgv⟩ := id C0
  have hb : c.code = cL_law := hb
  have hown : s.vm.findClass RL = some m.cls := hown
  have hg : ∀ w ∈ GW, w.before #[Value.ref sb] s = true := fun w h => hts w (gw_tbl h)
  have hbA : ¬ A sb := fun h => absurd (hA2 sb h) (Nat.not_le.mpr hbl)
  obtain ⟨hP, hD, hS, hl, hT, htx, hLR, hm0, hm1, hm2, hm3, hm4, hm5, hm6⟩ := hI
  refine lv_aload_n hx hb dL_law_1356 rfl (lv_at hl 2 rfl) ?_
  refine lv_aload_n hx hb dL_law_1357 rfl (lv_at hl 3 rfl) ?_
  refine lv_iload_n hx hb dL_law_1358 rfl (lv_at hl 0 rfl) ?_
  refine lv_iconst (v := 1) hx hb dL_law_1359 (by decide) ?_
  refine lv_iadd hx hb dL_law_1360 ?_
  refine lv_topi (fun v1 ev1 => ?_)
  have hv1 := i_add (Eq.refl i.toInt) (show (1 : Int32).toInt = 1 by decide) ev1 (by omega) (by omega)
  refine va_sld hx hb hX hbl hbA hS (vp_in_iff.mpr ⟨by omega, by omega⟩) dL_law_1361 ?_
  refine lv_topi (fun v2 ev2 => ?_)
  obtain rfl : v2 = (xs (i.toInt.toNat + 1)) := by rw [ev2, show v1.toNatClampNeg = i.toInt.toNat + 1 by have c9 := clampI (x := v1) (by omega); omega]
  refine lv_aload_n hx hb dL_law_1362 rfl (lv_at hl 3 rfl) ?_
  refine lv_iload_n hx hb dL_law_1363 rfl (lv_at hl 0 rfl) ?_
  refine lv_iconst (v := 2) hx hb dL_law_1364 (by decide) ?_
  refine lv_iadd hx hb dL_law_1365 ?_
  refine lv_topi (fun v3 ev3 => ?_)
  have hv3 := i_add (Eq.refl i.toInt) (show (2 : Int32).toInt = 2 by decide) ev3 (by omega) (by omega)
  refine va_sld hx hb hX hbl hbA hS (vp_in_iff.mpr ⟨by omega, by omega⟩) dL_law_1366 ?_
  refine lv_topi (fun v4 ev4 => ?_)
  obtain rfl : v4 = (xs (i.toInt.toNat + 2)) := by rw [ev4, show v3.toNatClampNeg = i.toInt.toNat + 2 by have c9 := clampI (x := v3) (by omega); omega]
  refine lv_aload_n hx hb dL_law_1367 rfl (lv_at hl 3 rfl) ?_
  refine lv_iload_n hx hb dL_law_1368 rfl (lv_at hl 0 rfl) ?_
  refine lv_iconst (v := 3) hx hb dL_law_1369 (by decide) ?_
  refine lv_iadd hx hb dL_law_1370 ?_
  refine lv_topi (fun v5 ev5 => ?_)
  have hv5 := i_add (Eq.refl i.toInt) (show (3 : Int32).toInt = 3 by decide) ev5 (by omega) (by omega)
  refine va_sld hx hb hX hbl hbA hS (vp_in_iff.mpr ⟨by omega, by omega⟩) dL_law_1371 ?_
  refine lv_topi (fun v6 ev6 => ?_)
  obtain rfl : v6 = (xs (i.toInt.toNat + 3)) := by rw [ev6, show v5.toNatClampNeg = i.toInt.toNat + 3 by have c9 := clampI (x := v5) (by omega); omega]
  refine ok1 hT htx (fun p48 a7 a8 a9 a10 a11 x12 x13 x14 a15 a16 a17 a18 a19 a20 a21 a22 a23 x24 a25 a26 hk49 h27 h28 h29 h30 h31 h32 h33 h34 h35 h36 h37 h38 h39 h40 h41 h42 h43 h44 h45 h46 h47 => ?_)
  refine cgR (rn_V (As := [.int (xs (i.toInt.toNat + 1)), .int (xs (i.toInt.toNat + 2)), .int (xs (i.toInt.toNat + 3))]) (rest := []) (b := x) (x_X10_second l D Y Z H.size ws T g q x (xs (i.toInt.toNat + 1)) (xs (i.toInt.toNat + 2)) (xs (i.toInt.toNat + 3)) hT htx) ⟨hx, hb, hml, hown, hg⟩ lk_L_128 ⟨CPC.blind, va_recv hKN.1 (P_r hP) (ci := 10) (q0 := p48) rfl hk49, CPC.at (P_r hP) hKN (D_r hD) hSZ hS hA⟩ ⟨⟨rfl, rfl⟩, ⟨Nat.le_of_ble_eq_true rfl, Nat.le_of_ble_eq_true rfl⟩, ⟨(show _ ≤ (600000 : Nat) by omega), (show _ ≤ (7302250 : Nat) by omega)⟩⟩ hl.1 rfl (Nat.le_of_ble_eq_true rfl) dL_law_1372) hP hD hS hA (fun u50 H locs hw51 hP hD hS => ?_)
  refine W.widen (k := (bd + 1)) (n := (sd + 7)) (by omega) (by omega) ?_
  obtain ⟨u52, w53, T54⟩ := u50
  obtain ⟨le55, hT, ke56⟩ : TLe T T54 ∧ TW Y Z T54 g q w53 ∧ KF 1 T ws w53 := hw51
  have hk57 := ke56 _ _ hk49 (show (T x).1 = 1 by rw [htx])
  refine W.eq (g2 := F0 m 1375 ls [.long u52]) rfl ?_
  refine lv_pop2_2 hx hb dL_law_1375 rfl ?_
  refine lv_aload_n hx hb dL_law_1376 rfl (lv_at hl 1 rfl) ?_
  refine lv_aload_n hx hb dL_law_1377 rfl (lv_at hl 3 rfl) ?_
  refine lv_iload_n hx hb dL_law_1378 rfl (lv_at hl 0 rfl) ?_
  refine lv_iconst (v := 1) hx hb dL_law_1379 (by decide) ?_
  refine lv_iadd hx hb dL_law_1380 ?_
  refine lv_topi (fun v58 ev58 => ?_)
  have hv58 := i_add (Eq.refl i.toInt) (show (1 : Int32).toInt = 1 by decide) ev58 (by omega) (by omega)
  refine va_sld hx hb hX hbl hbA hS (vp_in_iff.mpr ⟨by omega, by omega⟩) dL_law_1381 ?_
  refine lv_topi (fun v59 ev59 => ?_)
  obtain rfl : v59 = (xs (i.toInt.toNat + 1)) := by rw [ev59, show v58.toNatClampNeg = i.toInt.toNat + 1 by have c9 := clampI (x := v58) (by omega); omega]
  refine lv_aload_n hx hb dL_law_1382 rfl (lv_at hl 3 rfl) ?_
  refine lv_iload_n hx hb dL_law_1383 rfl (lv_at hl 0 rfl) ?_
  refine lv_iconst (v := 2) hx hb dL_law_1384 (by decide) ?_
  refine lv_iadd hx hb dL_law_1385 ?_
  refine lv_topi (fun v60 ev60 => ?_)
  have hv60 := i_add (Eq.refl i.toInt) (show (2 : Int32).toInt = 2 by decide) ev60 (by omega) (by omega)
  refine va_sld hx hb hX hbl hbA hS (vp_in_iff.mpr ⟨by omega, by omega⟩) dL_law_1386 ?_
  refine lv_topi (fun v61 ev61 => ?_)
  obtain rfl : v61 = (xs (i.toInt.toNat + 2)) := by rw [ev61, show v60.toNatClampNeg = i.toInt.toNat + 2 by have c9 := clampI (x := v60) (by omega); omega]
  refine lv_aload_n hx hb dL_law_1387 rfl (lv_at hl 3 rfl) ?_
  refine lv_iload_n hx hb dL_law_1388 rfl (lv_at hl 0 rfl) ?_
  refine lv_iconst (v := 3) hx hb dL_law_1389 (by decide) ?_
  refine lv_iadd hx hb dL_law_1390 ?_
  refine lv_topi (fun v62 ev62 => ?_)
  have hv62 := i_add (Eq.refl i.toInt) (show (3 : Int32).toInt = 3 by decide) ev62 (by omega) (by omega)
  refine va_sld hx hb hX hbl hbA hS (vp_in_iff.mpr ⟨by omega, by omega⟩) dL_law_1391 ?_
  refine lv_topi (fun v63 ev63 => ?_)
  obtain rfl : v63 = (xs (i.toInt.toNat + 3)) := by rw [ev63, show v62.toNatClampNeg = i.toInt.toNat + 3 by have c9 := clampI (x := v62) (by omega); omega]
  refine cgL (X := (MW Y om a I J F G)) (ws := w53) (rn_V (As := [.int (xs (i.toInt.toNat + 1)), .int (xs (i.toInt.toNat + 2)), .int (xs (i.toInt.toNat + 3))]) (rest := []) (b := om) (m_second l D Y Z H.size om a I J F G (xs (i.toInt.toNat + 1)) (xs (i.toInt.toNat + 2)) (xs (i.toInt.toNat + 3)) hm0 hm1 hm2) ⟨hx, hb, hml, hown, hg⟩ lk_L_132 ⟨CP.blind, va_recv hKN.1 (P_l hP) (ci := 11) (q0 := 0) rfl rfl, CP.at (P_l hP) hKN (D_l hD)⟩ ⟨⟨rfl, rfl⟩, ⟨Nat.le_of_ble_eq_true rfl, Nat.le_of_ble_eq_true rfl⟩, ⟨(show _ ≤ (600000 : Nat) by omega), (show _ ≤ (7302250 : Nat) by omega)⟩⟩ hl.1 rfl (Nat.le_of_ble_eq_true rfl) dL_law_1392) hP hD hS hA (fun u64 H locs hw65 hP hD hS => ?_)
  refine W.widen (k := (bd + 1)) (n := (sd + 7)) (by omega) (by omega) ?_
  obtain ⟨u66, u67, u68, u69, u70, u71, u72, u73, u74, u75, f76, f77, f78, f79, f80, f81⟩ := u64
  have hw82 : LB f77 := hw65
  refine W.eq (g2 := F0 m 1395 ls [.long u66]) rfl ?_
  have hP : va_P D vwCl ((MW Y om a (upd (upd (upd (upd (upd I 29 u73) 34 u67) 35 u68) 36 u69) 39 u70) (vp_updL (vp_updL (vp_updL (vp_updL J 30 u74) 31 u75) 37 u71) 38 u72) (vf_upd (vf_upd (vf_upd (vf_upd F 1 f76) 28 f77) 41 f79) 43 f81) (vf_upd (vf_upd G 40 f78) 42 f80)) ++ w53) H := hP
  have hD : va_D A ((MW Y om a (upd (upd (upd (upd (upd I 29 u73) 34 u67) 35 u68) 36 u69) 39 u70) (vp_updL (vp_updL (vp_updL (vp_updL J 30 u74) 31 u75) 37 u71) 38 u72) (vf_upd (vf_upd (vf_upd (vf_upd F 1 f76) 28 f77) 41 f79) 43 f81) (vf_upd (vf_upd G 40 f78) 42 f80)) ++ w53) := hD
  have hR83 : LN T54 g q x (vf_upd (vf_upd (vf_upd (vf_upd F 1 f76) 28 f77) 41 f79) 43 f81) := LN.keep hLR.1 htx le55 KS.rf rfl rfl
  have hD84 : LD T54 g q x (vf_upd (vf_upd (vf_upd (vf_upd F 1 f76) 28 f77) 41 f79) 43 f81) := LD.keep hLR.2 htx le55 KD.rf rfl
  have hR83 : LC T54 g q x (vf_upd (vf_upd (vf_upd (vf_upd F 1 f76) 28 f77) 41 f79) 43 f81) := ⟨hR83, hD84⟩
  refine lv_pop2_2 hx hb dL_law_1395 rfl ?_
  refine lv_goto (tgt := 1878) hx hb dL_law_1396 (by decide) ?_
  exact hK (upd (upd (upd (upd (upd I 29 u73) 34 u67) 35 u68) 36 u69) 39 u70) (vp_updL (vp_updL (vp_updL (vp_updL J 30 u74) 31 u75) 37 u71) 38 u72) (vf_upd (vf_upd (vf_upd (vf_upd F 1 f76) 28 f77) 41 f79) 43 f81) (vf_upd (vf_upd G 40 f78) 42 f80) w53 T54 g q _ _ H locs ls (by omega) (by omega) ⟨hP, hD, hS, lv_sub hl [0, 1, 2, 3] rfl, hT, (le55.up htx), hR83, hm0, hw82, hm2, hm3, hm4, hm5, (show 0 ≤ (I 3).toInt ∧ (I 3).toInt ≤ 400 by omega)⟩
set_option maxHeartbeats 4000000 in
set_option maxRecDepth 100000 in
theorem lc_27 {p : Program} {l : Launch} {e : Env} {s : State} {m : MethodId} {below : List Frame} {meth : Method} {c : Code} {sb L : Nat} {xs : Nat → Int32} (C0 : lw_At p s m meth c sb L xs) {D : va_G} {Y : Nat → ClassId} {Z : Nat → Nat} (hKN : KN D Y Z s) {A : Nat → Prop} (hSZ : SZ Z A s s.heap) (hA : ∀ q, s.heap.size ≤ q → A q) (hA2 : ∀ q, A q → s.heap.size ≤ q) {x om : Nat} {a : Nat → Nat} {H : Heap} {locs : List Loc} {ls : Array Slot} {I : Nat → Int32} {J : Nat → Int64} {F : Nat → Nat → Int32} {G : Nat → Nat → Int64} {ws : va_W} {T : RT} {g : GN} {q : GQ} {i : Int32} {bd sd : Nat} (hL : L ≤ 3584) (hi : 0 ≤ i.toInt ∧ i.toInt + 7 ≤ (L : Int)) (hbd : bd + 1092 ≤ 600000) (hsd : sd + 7753 ≤ 7302250) (hI : LI D Y Z A s sb x om a H locs ls I J F G ws T g q i) (hK : ∀ (I : Nat → Int32) (J : Nat → Int64) (F : Nat → Nat → Int32) (G : Nat → Nat → Int64) (ws : va_W) (T : RT) (g : GN) (q : GQ) (bd2 sd2 : Nat) (H : Heap) (locs : List Loc) (ls : Array Slot), bd2 ≤ bd + 1092 → sd2 ≤ sd + 7753 → LI D Y Z A s sb x om a H locs ls I J F G ws T g q i → W p l e room_1 s m #[Value.ref sb] below meth c H locs bd2 sd2 (lw_Z below #[Value.ref sb] s) (F0 m 1878 ls [])) : W p l e room_1 s m #[Value.ref sb] below meth c H locs bd sd (lw_Z below #[Value.ref sb] s) (F0 m 1399 ls []) := by
  obtain ⟨hx, hb, hr, hml, hown, hts, hX, hbl, hlocks, hgv⟩ := id C0
  have hb : c.code = cL_law := hb
  have hown : s.vm.findClass RL = some m.cls := hown
  have hg : ∀ w ∈ GW, w.before #[Value.ref sb] s = true := fun w h => hts w (gw_tbl h)
  have hbA : ¬ A sb := fun h => absurd (hA2 sb h) (Nat.not_le.mpr hbl)
  obtain ⟨hP, hD, hS, hl, hT, htx, hLR, hm0, hm1, hm2, hm3, hm4, hm5, hm6⟩ := hI
  refine lv_aload_n hx hb dL_law_1399 rfl (lv_at hl 2 rfl) ?_
  refine lv_aload_n hx hb dL_law_1400 rfl (lv_at hl 3 rfl) ?_
  refine lv_iload_n hx hb dL_law_1401 rfl (lv_at hl 0 rfl) ?_
  refine lv_iconst (v := 1) hx hb dL_law_1402 (by decide) ?_
  refine lv_iadd hx hb dL_law_1403 ?_
  refine lv_topi (fun v1 ev1 => ?_)
  have hv1 := i_add (Eq.refl i.toInt) (show (1 : Int32).toInt = 1 by decide) ev1 (by omega) (by omega)
  refine va_sld hx hb hX hbl hbA hS (vp_in_iff.mpr ⟨by omega, by omega⟩) dL_law_1404 ?_
  refine lv_topi (fun v2 ev2 => ?_)
  obtain rfl : v2 = (xs (i.toInt.toNat + 1)) := by rw [ev2, show v1.toNatClampNeg = i.toInt.toNat + 1 by have c9 := clampI (x := v1) (by omega); omega]
  refine lv_aload_n hx hb dL_law_1405 rfl (lv_at hl 3 rfl) ?_
  refine lv_iload_n hx hb dL_law_1406 rfl (lv_at hl 0 rfl) ?_
  refine lv_iconst (v := 2) hx hb dL_law_1407 (by decide) ?_
  refine lv_iadd hx hb dL_law_1408 ?_
  refine lv_topi (fun v3 ev3 => ?_)
  have hv3 := i_add (Eq.refl i.toInt) (show (2 : Int32).toInt = 2 by decide) ev3 (by omega) (by omega)
  refine va_sld hx hb hX hbl hbA hS (vp_in_iff.mpr ⟨by omega, by omega⟩) dL_law_1409 ?_
  refine lv_topi (fun v4 ev4 => ?_)
  obtain rfl : v4 = (xs (i.toInt.toNat + 2)) := by rw [ev4, show v3.toNatClampNeg = i.toInt.toNat + 2 by have c9 := clampI (x := v3) (by omega); omega]
  refine lv_aload_n hx hb dL_law_1410 rfl (lv_at hl 3 rfl) ?_
  refine lv_iload_n hx hb dL_law_1411 rfl (lv_at hl 0 rfl) ?_
  refine lv_iconst (v := 3) hx hb dL_law_1412 (by decide) ?_
  refine lv_iadd hx hb dL_law_1413 ?_
  refine lv_topi (fun v5 ev5 => ?_)
  have hv5 := i_add (Eq.refl i.toInt) (show (3 : Int32).toInt = 3 by decide) ev5 (by omega) (by omega)
  refine va_sld hx hb hX hbl hbA hS (vp_in_iff.mpr ⟨by omega, by omega⟩) dL_law_1414 ?_
  refine lv_topi (fun v6 ev6 => ?_)
  obtain rfl : v6 = (xs (i.toInt.toNat + 3)) := by rw [ev6, show v5.toNatClampNeg = i.toInt.toNat + 3 by have c9 := clampI (x := v5) (by omega); omega]
  refine ok1 hT htx (fun p48 a7 a8 a9 a10 a11 x12 x13 x14 a15 a16 a17 a18 a19 a20 a21 a22 a23 x24 a25 a26 hk49 h27 h28 h29 h30 h31 h32 h33 h34 h35 h36 h37 h38 h39 h40 h41 h42 h43 h44 h45 h46 h47 => ?_)
  refine cgR (rn_V (As := [.int (xs (i.toInt.toNat + 1)), .int (xs (i.toInt.toNat + 2)), .int (xs (i.toInt.toNat + 3))]) (rest := []) (b := x) (x_X10_next l D Y Z H.size ws T g q x (xs (i.toInt.toNat + 1)) (xs (i.toInt.toNat + 2)) (xs (i.toInt.toNat + 3)) hT htx) ⟨hx, hb, hml, hown, hg⟩ lk_L_133 ⟨CPC.blind, va_recv hKN.1 (P_r hP) (ci := 10) (q0 := p48) rfl hk49, CPC.at (P_r hP) hKN (D_r hD) hSZ hS hA⟩ ⟨⟨rfl, rfl⟩, ⟨Nat.le_of_ble_eq_true rfl, Nat.le_of_ble_eq_true rfl⟩, ⟨(show _ ≤ (600000 : Nat) by omega), (show _ ≤ (7302250 : Nat) by omega)⟩⟩ hl.1 rfl (Nat.le_of_ble_eq_true rfl) dL_law_1415) hP hD hS hA (fun u50 H locs hw51 hP hD hS => ?_)
  refine W.widen (k := (bd + 1)) (n := (sd + 7)) (by omega) (by omega) ?_
  obtain ⟨u52, w53, T54⟩ := u50
  obtain ⟨le55, hT, ke56⟩ : TLe T T54 ∧ TW Y Z T54 g q w53 ∧ KF 1 T ws w53 := hw51
  have hk57 := ke56 _ _ hk49 (show (T x).1 = 1 by rw [htx])
  refine W.eq (g2 := F0 m 1418 ls [.int u52]) rfl ?_
  refine lv_pop hx hb dL_law_1418 rfl ?_
  refine lv_aload_n hx hb dL_law_1419 rfl (lv_at hl 1 rfl) ?_
  refine lv_aload_n hx hb dL_law_1420 rfl (lv_at hl 3 rfl) ?_
  refine lv_iload_n hx hb dL_law_1421 rfl (lv_at hl 0 rfl) ?_
  refine lv_iconst (v := 1) hx hb dL_law_1422 (by decide) ?_
  refine lv_iadd hx hb dL_law_1423 ?_
  refine lv_topi (fun v58 ev58 => ?_)
  have hv58 := i_add (Eq.refl i.toInt) (show (1 : Int32).toInt = 1 by decide) ev58 (by omega) (by omega)
  refine va_sld hx hb hX hbl hbA hS (vp_in_iff.mpr ⟨by omega, by omega⟩) dL_law_1424 ?_
  refine lv_topi (fun v59 ev59 => ?_)
  obtain rfl : v59 = (xs (i.toInt.toNat + 1)) := by rw [ev59, show v58.toNatClampNeg = i.toInt.toNat + 1 by have c9 := clampI (x := v58) (by omega); omega]
  refine lv_aload_n hx hb dL_law_1425 rfl (lv_at hl 3 rfl) ?_
  refine lv_iload_n hx hb dL_law_1426 rfl (lv_at hl 0 rfl) ?_
  refine lv_iconst (v := 2) hx hb dL_law_1427 (by decide) ?_
  refine lv_iadd hx hb dL_law_1428 ?_
  refine lv_topi (fun v60 ev60 => ?_)
  have hv60 := i_add (Eq.refl i.toInt) (show (2 : Int32).toInt = 2 by decide) ev60 (by omega) (by omega)
  refine va_sld hx hb hX hbl hbA hS (vp_in_iff.mpr ⟨by omega, by omega⟩) dL_law_1429 ?_
  refine lv_topi (fun v61 ev61 => ?_)
  obtain rfl : v61 = (xs (i.toInt.toNat + 2)) := by rw [ev61, show v60.toNatClampNeg = i.toInt.toNat + 2 by have c9 := clampI (x := v60) (by omega); omega]
  refine lv_aload_n hx hb dL_law_1430 rfl (lv_at hl 3 rfl) ?_
  refine lv_iload_n hx hb dL_law_1431 rfl (lv_at hl 0 rfl) ?_
  refine lv_iconst (v := 3) hx hb dL_law_1432 (by decide) ?_
  refine lv_iadd hx hb dL_law_1433 ?_
  refine lv_topi (fun v62 ev62 => ?_)
  have hv62 := i_add (Eq.refl i.toInt) (show (3 : Int32).toInt = 3 by decide) ev62 (by omega) (by omega)
  refine va_sld hx hb hX hbl hbA hS (vp_in_iff.mpr ⟨by omega, by omega⟩) dL_law_1434 ?_
  refine lv_topi (fun v63 ev63 => ?_)
  obtain rfl : v63 = (xs (i.toInt.toNat + 3)) := by rw [ev63, show v62.toNatClampNeg = i.toInt.toNat + 3 by have c9 := clampI (x := v62) (by omega); omega]
  refine cgL (X := (MW Y om a I J F G)) (ws := w53) (rn_V (As := [.int (xs (i.toInt.toNat + 1)), .int (xs (i.toInt.toNat + 2)), .int (xs (i.toInt.toNat + 3))]) (rest := []) (b := om) (m_next l D Y Z H.size om a I J F G (xs (i.toInt.toNat + 1)) (xs (i.toInt.toNat + 2)) (xs (i.toInt.toNat + 3)) hm0 hm1 hm2) ⟨hx, hb, hml, hown, hg⟩ lk_L_136 ⟨CP.blind, va_recv hKN.1 (P_l hP) (ci := 11) (q0 := 0) rfl rfl, CP.at (P_l hP) hKN (D_l hD)⟩ ⟨⟨rfl, rfl⟩, ⟨Nat.le_of_ble_eq_true rfl, Nat.le_of_ble_eq_true rfl⟩, ⟨(show _ ≤ (600000 : Nat) by omega), (show _ ≤ (7302250 : Nat) by omega)⟩⟩ hl.1 rfl (Nat.le_of_ble_eq_true rfl) dL_law_1435) hP hD hS hA (fun u64 H locs hw65 hP hD hS => ?_)
  refine W.widen (k := (bd + 1)) (n := (sd + 7)) (by omega) (by omega) ?_
  obtain ⟨u66, u67, u68, u69, u70, u71, u72, u73, u74, u75, f76, f77, f78, f79, f80, f81⟩ := u64
  have hw82 : LB f77 := hw65
  refine W.eq (g2 := F0 m 1438 ls [.int u66]) rfl ?_
  have hP : va_P D vwCl ((MW Y om a (upd (upd (upd (upd (upd I 29 u73) 34 u67) 35 u68) 36 u69) 39 u70) (vp_updL (vp_updL (vp_updL (vp_updL J 30 u74) 31 u75) 37 u71) 38 u72) (vf_upd (vf_upd (vf_upd (vf_upd F 1 f76) 28 f77) 41 f79) 43 f81) (vf_upd (vf_upd G 40 f78) 42 f80)) ++ w53) H := hP
  have hD : va_D A ((MW Y om a (upd (upd (upd (upd (upd I 29 u73) 34 u67) 35 u68) 36 u69) 39 u70) (vp_updL (vp_updL (vp_updL (vp_updL J 30 u74) 31 u75) 37 u71) 38 u72) (vf_upd (vf_upd (vf_upd (vf_upd F 1 f76) 28 f77) 41 f79) 43 f81) (vf_upd (vf_upd G 40 f78) 42 f80)) ++ w53) := hD
  have hR83 : LN T54 g q x (vf_upd (vf_upd (vf_upd (vf_upd F 1 f76) 28 f77) 41 f79) 43 f81) := LN.keep hLR.1 htx le55 KS.rf rfl rfl
  have hD84 : LD T54 g q x (vf_upd (vf_upd (vf_upd (vf_upd F 1 f76) 28 f77) 41 f79) 43 f81) := LD.keep hLR.2 htx le55 KD.rf rfl
  have hR83 : LC T54 g q x (vf_upd (vf_upd (vf_upd (vf_upd F 1 f76) 28 f77) 41 f79) 43 f81) := ⟨hR83, hD84⟩
  refine lv_pop hx hb dL_law_1438 rfl ?_
  refine lv_goto (tgt := 1878) hx hb dL_law_1439 (by decide) ?_
  exact hK (upd (upd (upd (upd (upd I 29 u73) 34 u67) 35 u68) 36 u69) 39 u70) (vp_updL (vp_updL (vp_updL (vp_updL J 30 u74) 31 u75) 37 u71) 38 u72) (vf_upd (vf_upd (vf_upd (vf_upd F 1 f76) 28 f77) 41 f79) 43 f81) (vf_upd (vf_upd G 40 f78) 42 f80) w53 T54 g q _ _ H locs ls (by omega) (by omega) ⟨hP, hD, hS, lv_sub hl [0, 1, 2, 3] rfl, hT, (le55.up htx), hR83, hm0, hw82, hm2, hm3, hm4, hm5, (show 0 ≤ (I 3).toInt ∧ (I 3).toInt ≤ 400 by omega)⟩
set_option maxHeartbeats 4000000 in
set_option maxRecDepth 100000 in
theorem lc_28 {p : Program} {l : Launch} {e : Env} {s : State} {m : MethodId} {below : List Frame} {meth : Method} {c : Code} {sb L : Nat} {xs : Nat → Int32} (C0 : lw_At p s m meth c sb L xs) {D : va_G} {Y : Nat → ClassId} {Z : Nat → Nat} (hKN : KN D Y Z s) {A : Nat → Prop} (hSZ : SZ Z A s s.heap) (hA : ∀ q, s.heap.size ≤ q → A q) (hA2 : ∀ q, A q → s.heap.size ≤ q) {x om : Nat} {a : Nat → Nat} {H : Heap} {locs : List Loc} {ls : Array Slot} {I : Nat → Int32} {J : Nat → Int64} {F : Nat → Nat → Int32} {G : Nat → Nat → Int64} {ws : va_W} {T : RT} {g : GN} {q : GQ} {i : Int32} {bd sd : Nat} (hL : L ≤ 3584) (hi : 0 ≤ i.toInt ∧ i.toInt + 7 ≤ (L : Int)) (hbd : bd + 1092 ≤ 600000) (hsd : sd + 7753 ≤ 7302250) (hI : LI D Y Z A s sb x om a H locs ls I J F G ws T g q i) (hK : ∀ (I : Nat → Int32) (J : Nat → Int64) (F : Nat → Nat → Int32) (G : Nat → Nat → Int64) (ws : va_W) (T : RT) (g : GN) (q : GQ) (bd2 sd2 : Nat) (H : Heap) (locs : List Loc) (ls : Array Slot), bd2 ≤ bd + 1092 → sd2 ≤ sd + 7753 → LI D Y Z A s sb x om a H locs ls I J F G ws T g q i → W p l e room_1 s m #[Value.ref sb] below meth c H locs bd2 sd2 (lw_Z below #[Value.ref sb] s) (F0 m 1878 ls [])) : W p l e room_1 s m #[Value.ref sb] below meth c H locs bd sd (lw_Z below #[Value.ref sb] s) (F0 m 1442 ls []) := by
  obtain ⟨hx, hb, hr, hml, hown, hts, hX, hbl, hlocks, hgv⟩ := id C0
  have hb : c.code = cL_law := hb
  have hown : s.vm.findClass RL = some m.cls := hown
  have hg : ∀ w ∈ GW, w.before #[Value.ref sb] s = true := fun w h => hts w (gw_tbl h)
  have hbA : ¬ A sb := fun h => absurd (hA2 sb h) (Nat.not_le.mpr hbl)
  obtain ⟨hP, hD, hS, hl, hT, htx, hLR, hm0, hm1, hm2, hm3, hm4, hm5, hm6⟩ := hI
  refine lv_aload_n hx hb dL_law_1442 rfl (lv_at hl 2 rfl) ?_
  refine lv_aload_n hx hb dL_law_1443 rfl (lv_at hl 3 rfl) ?_
  refine lv_iload_n hx hb dL_law_1444 rfl (lv_at hl 0 rfl) ?_
  refine lv_iconst (v := 1) hx hb dL_law_1445 (by decide) ?_
  refine lv_iadd hx hb dL_law_1446 ?_
  refine lv_topi (fun v1 ev1 => ?_)
  have hv1 := i_add (Eq.refl i.toInt) (show (1 : Int32).toInt = 1 by decide) ev1 (by omega) (by omega)
  refine va_sld hx hb hX hbl hbA hS (vp_in_iff.mpr ⟨by omega, by omega⟩) dL_law_1447 ?_
  refine lv_topi (fun v2 ev2 => ?_)
  obtain rfl : v2 = (xs (i.toInt.toNat + 1)) := by rw [ev2, show v1.toNatClampNeg = i.toInt.toNat + 1 by have c9 := clampI (x := v1) (by omega); omega]
  refine lv_aload_n hx hb dL_law_1448 rfl (lv_at hl 3 rfl) ?_
  refine lv_iload_n hx hb dL_law_1449 rfl (lv_at hl 0 rfl) ?_
  refine lv_iconst (v := 2) hx hb dL_law_1450 (by decide) ?_
  refine lv_iadd hx hb dL_law_1451 ?_
  refine lv_topi (fun v3 ev3 => ?_)
  have hv3 := i_add (Eq.refl i.toInt) (show (2 : Int32).toInt = 2 by decide) ev3 (by omega) (by omega)
  refine va_sld hx hb hX hbl hbA hS (vp_in_iff.mpr ⟨by omega, by omega⟩) dL_law_1452 ?_
  refine lv_topi (fun v4 ev4 => ?_)
  obtain rfl : v4 = (xs (i.toInt.toNat + 2)) := by rw [ev4, show v3.toNatClampNeg = i.toInt.toNat + 2 by have c9 := clampI (x := v3) (by omega); omega]
  refine lv_aload_n hx hb dL_law_1453 rfl (lv_at hl 3 rfl) ?_
  refine lv_iload_n hx hb dL_law_1454 rfl (lv_at hl 0 rfl) ?_
  refine lv_iconst (v := 3) hx hb dL_law_1455 (by decide) ?_
  refine lv_iadd hx hb dL_law_1456 ?_
  refine lv_topi (fun v5 ev5 => ?_)
  have hv5 := i_add (Eq.refl i.toInt) (show (3 : Int32).toInt = 3 by decide) ev5 (by omega) (by omega)
  refine va_sld hx hb hX hbl hbA hS (vp_in_iff.mpr ⟨by omega, by omega⟩) dL_law_1457 ?_
  refine lv_topi (fun v6 ev6 => ?_)
  obtain rfl : v6 = (xs (i.toInt.toNat + 3)) := by rw [ev6, show v5.toNatClampNeg = i.toInt.toNat + 3 by have c9 := clampI (x := v5) (by omega); omega]
  refine ok1 hT htx (fun p48 a7 a8 a9 a10 a11 x12 x13 x14 a15 a16 a17 a18 a19 a20 a21 a22 a23 x24 a25 a26 hk49 h27 h28 h29 h30 h31 h32 h33 h34 h35 h36 h37 h38 h39 h40 h41 h42 h43 h44 h45 h46 h47 => ?_)
  refine cgR (rn_V (As := [.int (xs (i.toInt.toNat + 1)), .int (xs (i.toInt.toNat + 2)), .int (xs (i.toInt.toNat + 3))]) (rest := []) (b := x) (x_X10_alias l D Y Z H.size ws T g q x (xs (i.toInt.toNat + 1)) (xs (i.toInt.toNat + 2)) (xs (i.toInt.toNat + 3)) hT htx) ⟨hx, hb, hml, hown, hg⟩ lk_L_137 ⟨CPC.blind, va_recv hKN.1 (P_r hP) (ci := 10) (q0 := p48) rfl hk49, CPC.at (P_r hP) hKN (D_r hD) hSZ hS hA⟩ ⟨⟨rfl, rfl⟩, ⟨Nat.le_of_ble_eq_true rfl, Nat.le_of_ble_eq_true rfl⟩, ⟨(show _ ≤ (600000 : Nat) by omega), (show _ ≤ (7302250 : Nat) by omega)⟩⟩ hl.1 rfl (Nat.le_of_ble_eq_true rfl) dL_law_1458) hP hD hS hA (fun u50 H locs hw51 hP hD hS => ?_)
  refine W.widen (k := (bd + 1)) (n := (sd + 7)) (by omega) (by omega) ?_
  obtain ⟨u52, w53, T54⟩ := u50
  obtain ⟨le55, hT, ke56⟩ : TLe T T54 ∧ TW Y Z T54 g q w53 ∧ KF 1 T ws w53 := hw51
  have hk57 := ke56 _ _ hk49 (show (T x).1 = 1 by rw [htx])
  refine W.eq (g2 := F0 m 1461 ls [.long u52]) rfl ?_
  refine lv_pop2_2 hx hb dL_law_1461 rfl ?_
  refine lv_aload_n hx hb dL_law_1462 rfl (lv_at hl 1 rfl) ?_
  refine lv_aload_n hx hb dL_law_1463 rfl (lv_at hl 3 rfl) ?_
  refine lv_iload_n hx hb dL_law_1464 rfl (lv_at hl 0 rfl) ?_
  refine lv_iconst (v := 1) hx hb dL_law_1465 (by decide) ?_
  refine lv_iadd hx hb dL_law_1466 ?_
  refine lv_topi (fun v58 ev58 => ?_)
  have hv58 := i_add (Eq.refl i.toInt) (show (1 : Int32).toInt = 1 by decide) ev58 (by omega) (by omega)
  refine va_sld hx hb hX hbl hbA hS (vp_in_iff.mpr ⟨by omega, by omega⟩) dL_law_1467 ?_
  refine lv_topi (fun v59 ev59 => ?_)
  obtain rfl : v59 = (xs (i.toInt.toNat + 1)) := by rw [ev59, show v58.toNatClampNeg = i.toInt.toNat + 1 by have c9 := clampI (x := v58) (by omega); omega]
  refine lv_aload_n hx hb dL_law_1468 rfl (lv_at hl 3 rfl) ?_
  refine lv_iload_n hx hb dL_law_1469 rfl (lv_at hl 0 rfl) ?_
  refine lv_iconst (v := 2) hx hb dL_law_1470 (by decide) ?_
  refine lv_iadd hx hb dL_law_1471 ?_
  refine lv_topi (fun v60 ev60 => ?_)
  have hv60 := i_add (Eq.refl i.toInt) (show (2 : Int32).toInt = 2 by decide) ev60 (by omega) (by omega)
  refine va_sld hx hb hX hbl hbA hS (vp_in_iff.mpr ⟨by omega, by omega⟩) dL_law_1472 ?_
  refine lv_topi (fun v61 ev61 => ?_)
  obtain rfl : v61 = (xs (i.toInt.toNat + 2)) := by rw [ev61, show v60.toNatClampNeg = i.toInt.toNat + 2 by have c9 := clampI (x := v60) (by omega); omega]
  refine lv_aload_n hx hb dL_law_1473 rfl (lv_at hl 3 rfl) ?_
  refine lv_iload_n hx hb dL_law_1474 rfl (lv_at hl 0 rfl) ?_
  refine lv_iconst (v := 3) hx hb dL_law_1475 (by decide) ?_
  refine lv_iadd hx hb dL_law_1476 ?_
  refine lv_topi (fun v62 ev62 => ?_)
  have hv62 := i_add (Eq.refl i.toInt) (show (3 : Int32).toInt = 3 by decide) ev62 (by omega) (by omega)
  refine va_sld hx hb hX hbl hbA hS (vp_in_iff.mpr ⟨by omega, by omega⟩) dL_law_1477 ?_
  refine lv_topi (fun v63 ev63 => ?_)
  obtain rfl : v63 = (xs (i.toInt.toNat + 3)) := by rw [ev63, show v62.toNatClampNeg = i.toInt.toNat + 3 by have c9 := clampI (x := v62) (by omega); omega]
  refine cgL (X := (MW Y om a I J F G)) (ws := w53) (rn_V (As := [.int (xs (i.toInt.toNat + 1)), .int (xs (i.toInt.toNat + 2)), .int (xs (i.toInt.toNat + 3))]) (rest := []) (b := om) (m_alias l D Y Z H.size om a I J F G (xs (i.toInt.toNat + 1)) (xs (i.toInt.toNat + 2)) (xs (i.toInt.toNat + 3)) hm0 hm1 hm2) ⟨hx, hb, hml, hown, hg⟩ lk_L_140 ⟨CP.blind, va_recv hKN.1 (P_l hP) (ci := 11) (q0 := 0) rfl rfl, CP.at (P_l hP) hKN (D_l hD)⟩ ⟨⟨rfl, rfl⟩, ⟨Nat.le_of_ble_eq_true rfl, Nat.le_of_ble_eq_true rfl⟩, ⟨(show _ ≤ (600000 : Nat) by omega), (show _ ≤ (7302250 : Nat) by omega)⟩⟩ hl.1 rfl (Nat.le_of_ble_eq_true rfl) dL_law_1478) hP hD hS hA (fun u64 H locs hw65 hP hD hS => ?_)
  refine W.widen (k := (bd + 1)) (n := (sd + 7)) (by omega) (by omega) ?_
  obtain ⟨u66, u67, u68, u69, u70, u71, u72, u73, u74, u75, u76, u77, f78, f79, f80, f81, f82, f83⟩ := u64
  have hw84 : LB f79 := hw65
  refine W.eq (g2 := F0 m 1481 ls [.long u66]) rfl ?_
  have hP : va_P D vwCl ((MW Y om a (upd (upd (upd (upd (upd (upd I 29 u73) 32 u76) 34 u67) 35 u68) 36 u69) 39 u70) (vp_updL (vp_updL (vp_updL (vp_updL (vp_updL J 30 u74) 31 u75) 33 u77) 37 u71) 38 u72) (vf_upd (vf_upd (vf_upd (vf_upd F 1 f78) 28 f79) 41 f81) 43 f83) (vf_upd (vf_upd G 40 f80) 42 f82)) ++ w53) H := hP
  have hD : va_D A ((MW Y om a (upd (upd (upd (upd (upd (upd I 29 u73) 32 u76) 34 u67) 35 u68) 36 u69) 39 u70) (vp_updL (vp_updL (vp_updL (vp_updL (vp_updL J 30 u74) 31 u75) 33 u77) 37 u71) 38 u72) (vf_upd (vf_upd (vf_upd (vf_upd F 1 f78) 28 f79) 41 f81) 43 f83) (vf_upd (vf_upd G 40 f80) 42 f82)) ++ w53) := hD
  have hR85 : LN T54 g q x (vf_upd (vf_upd (vf_upd (vf_upd F 1 f78) 28 f79) 41 f81) 43 f83) := LN.keep hLR.1 htx le55 KS.rf rfl rfl
  have hD86 : LD T54 g q x (vf_upd (vf_upd (vf_upd (vf_upd F 1 f78) 28 f79) 41 f81) 43 f83) := LD.keep hLR.2 htx le55 KD.rf rfl
  have hR85 : LC T54 g q x (vf_upd (vf_upd (vf_upd (vf_upd F 1 f78) 28 f79) 41 f81) 43 f83) := ⟨hR85, hD86⟩
  refine lv_pop2_2 hx hb dL_law_1481 rfl ?_
  refine lv_goto (tgt := 1878) hx hb dL_law_1482 (by decide) ?_
  exact hK (upd (upd (upd (upd (upd (upd I 29 u73) 32 u76) 34 u67) 35 u68) 36 u69) 39 u70) (vp_updL (vp_updL (vp_updL (vp_updL (vp_updL J 30 u74) 31 u75) 33 u77) 37 u71) 38 u72) (vf_upd (vf_upd (vf_upd (vf_upd F 1 f78) 28 f79) 41 f81) 43 f83) (vf_upd (vf_upd G 40 f80) 42 f82) w53 T54 g q _ _ H locs ls (by omega) (by omega) ⟨hP, hD, hS, lv_sub hl [0, 1, 2, 3] rfl, hT, (le55.up htx), hR85, hm0, hw84, hm2, hm3, hm4, hm5, (show 0 ≤ (I 3).toInt ∧ (I 3).toInt ≤ 400 by omega)⟩
set_option maxHeartbeats 4000000 in
set_option maxRecDepth 100000 in
theorem lc_29 {p : Program} {l : Launch} {e : Env} {s : State} {m : MethodId} {below : List Frame} {meth : Method} {c : Code} {sb L : Nat} {xs : Nat → Int32} (C0 : lw_At p s m meth c sb L xs) {D : va_G} {Y : Nat → ClassId} {Z : Nat → Nat} (hKN : KN D Y Z s) {A : Nat → Prop} (hSZ : SZ Z A s s.heap) (hA : ∀ q, s.heap.size ≤ q → A q) (hA2 : ∀ q, A q → s.heap.size ≤ q) {x om : Nat} {a : Nat → Nat} {H : Heap} {locs : List Loc} {ls : Array Slot} {I : Nat → Int32} {J : Nat → Int64} {F : Nat → Nat → Int32} {G : Nat → Nat → Int64} {ws : va_W} {T : RT} {g : GN} {q : GQ} {i : Int32} {bd sd : Nat} (hL : L ≤ 3584) (hi : 0 ≤ i.toInt ∧ i.toInt + 7 ≤ (L : Int)) (hbd : bd + 1092 ≤ 600000) (hsd : sd + 7753 ≤ 7302250) (hI : LI D Y Z A s sb x om a H locs ls I J F G ws T g q i) (hK : ∀ (I : Nat → Int32) (J : Nat → Int64) (F : Nat → Nat → Int32) (G : Nat → Nat → Int64) (ws : va_W) (T : RT) (g : GN) (q : GQ) (bd2 sd2 : Nat) (H : Heap) (locs : List Loc) (ls : Array Slot), bd2 ≤ bd + 1092 → sd2 ≤ sd + 7753 → LI D Y Z A s sb x om a H locs ls I J F G ws T g q i → W p l e room_1 s m #[Value.ref sb] below meth c H locs bd2 sd2 (lw_Z below #[Value.ref sb] s) (F0 m 1878 ls [])) : W p l e room_1 s m #[Value.ref sb] below meth c H locs bd sd (lw_Z below #[Value.ref sb] s) (F0 m 1485 ls []) := by
  obtain ⟨hx, hb, hr, hml, hown, hts, hX, hbl, hlocks, hgv⟩ := id C0
  have hb : c.code = cL_law := hb
  have hown : s.vm.findClass RL = some m.cls := hown
  have hg : ∀ w ∈ GW, w.before #[Value.ref sb] s = true := fun w h => hts w (gw_tbl h)
  have hbA : ¬ A sb := fun h => absurd (hA2 sb h) (Nat.not_le.mpr hbl)
  obtain ⟨hP, hD, hS, hl, hT, htx, hLR, hm0, hm1, hm2, hm3, hm4, hm5, hm6⟩ := hI
  refine lv_aload_n hx hb dL_law_1485 rfl (lv_at hl 2 rfl) ?_
  refine lv_aload_n hx hb dL_law_1486 rfl (lv_at hl 3 rfl) ?_
  refine lv_iload_n hx hb dL_law_1487 rfl (lv_at hl 0 rfl) ?_
  refine lv_iconst (v := 1) hx hb dL_law_1488 (by decide) ?_
  refine lv_iadd hx hb dL_law_1489 ?_
  refine lv_topi (fun v1 ev1 => ?_)
  have hv1 := i_add (Eq.refl i.toInt) (show (1 : Int32).toInt = 1 by decide) ev1 (by omega) (by omega)
  refine va_sld hx hb hX hbl hbA hS (vp_in_iff.mpr ⟨by omega, by omega⟩) dL_law_1490 ?_
  refine lv_topi (fun v2 ev2 => ?_)
  obtain rfl : v2 = (xs (i.toInt.toNat + 1)) := by rw [ev2, show v1.toNatClampNeg = i.toInt.toNat + 1 by have c9 := clampI (x := v1) (by omega); omega]
  refine lv_aload_n hx hb dL_law_1491 rfl (lv_at hl 3 rfl) ?_
  refine lv_iload_n hx hb dL_law_1492 rfl (lv_at hl 0 rfl) ?_
  refine lv_iconst (v := 2) hx hb dL_law_1493 (by decide) ?_
  refine lv_iadd hx hb dL_law_1494 ?_
  refine lv_topi (fun v3 ev3 => ?_)
  have hv3 := i_add (Eq.refl i.toInt) (show (2 : Int32).toInt = 2 by decide) ev3 (by omega) (by omega)
  refine va_sld hx hb hX hbl hbA hS (vp_in_iff.mpr ⟨by omega, by omega⟩) dL_law_1495 ?_
  refine lv_topi (fun v4 ev4 => ?_)
  obtain rfl : v4 = (xs (i.toInt.toNat + 2)) := by rw [ev4, show v3.toNatClampNeg = i.toInt.toNat + 2 by have c9 := clampI (x := v3) (by omega); omega]
  refine ok1 hT htx (fun p46 a5 a6 a7 a8 a9 x10 x11 x12 a13 a14 a15 a16 a17 a18 a19 a20 a21 x22 a23 a24 hk47 h25 h26 h27 h28 h29 h30 h31 h32 h33 h34 h35 h36 h37 h38 h39 h40 h41 h42 h43 h44 h45 => ?_)
  refine cgR (rn_V (As := [.int (xs (i.toInt.toNat + 1)), .int (xs (i.toInt.toNat + 2))]) (rest := []) (b := x) (x_X10_radius l D Y Z H.size ws T g q x (xs (i.toInt.toNat + 1)) (xs (i.toInt.toNat + 2)) hT htx) ⟨hx, hb, hml, hown, hg⟩ lk_L_141 ⟨CPC.blind, va_recv hKN.1 (P_r hP) (ci := 10) (q0 := p46) rfl hk47, CPC.at (P_r hP) hKN (D_r hD) hSZ hS hA⟩ ⟨⟨rfl, rfl⟩, ⟨Nat.le_of_ble_eq_true rfl, Nat.le_of_ble_eq_true rfl⟩, ⟨(show _ ≤ (600000 : Nat) by omega), (show _ ≤ (7302250 : Nat) by omega)⟩⟩ hl.1 rfl (Nat.le_of_ble_eq_true rfl) dL_law_1496) hP hD hS hA (fun u48 H locs hw49 hP hD hS => ?_)
  refine W.widen (k := (bd + 1)) (n := (sd + 7)) (by omega) (by omega) ?_
  obtain ⟨u50, w51, T52⟩ := u48
  obtain ⟨le53, hT, ke54⟩ : TLe T T52 ∧ TW Y Z T52 g q w51 ∧ KF 1 T ws w51 := hw49
  have hk55 := ke54 _ _ hk47 (show (T x).1 = 1 by rw [htx])
  refine W.eq (g2 := F0 m 1499 ls [.int u50]) rfl ?_
  refine lv_pop hx hb dL_law_1499 rfl ?_
  refine lv_aload_n hx hb dL_law_1500 rfl (lv_at hl 1 rfl) ?_
  refine lv_aload_n hx hb dL_law_1501 rfl (lv_at hl 3 rfl) ?_
  refine lv_iload_n hx hb dL_law_1502 rfl (lv_at hl 0 rfl) ?_
  refine lv_iconst (v := 1) hx hb dL_law_1503 (by decide) ?_
  refine lv_iadd hx hb dL_law_1504 ?_
  refine lv_topi (fun v56 ev56 => ?_)
  have hv56 := i_add (Eq.refl i.toInt) (show (1 : Int32).toInt = 1 by decide) ev56 (by omega) (by omega)
  refine va_sld hx hb hX hbl hbA hS (vp_in_iff.mpr ⟨by omega, by omega⟩) dL_law_1505 ?_
  refine lv_topi (fun v57 ev57 => ?_)
  obtain rfl : v57 = (xs (i.toInt.toNat + 1)) := by rw [ev57, show v56.toNatClampNeg = i.toInt.toNat + 1 by have c9 := clampI (x := v56) (by omega); omega]
  refine lv_aload_n hx hb dL_law_1506 rfl (lv_at hl 3 rfl) ?_
  refine lv_iload_n hx hb dL_law_1507 rfl (lv_at hl 0 rfl) ?_
  refine lv_iconst (v := 2) hx hb dL_law_1508 (by decide) ?_
  refine lv_iadd hx hb dL_law_1509 ?_
  refine lv_topi (fun v58 ev58 => ?_)
  have hv58 := i_add (Eq.refl i.toInt) (show (2 : Int32).toInt = 2 by decide) ev58 (by omega) (by omega)
  refine va_sld hx hb hX hbl hbA hS (vp_in_iff.mpr ⟨by omega, by omega⟩) dL_law_1510 ?_
  refine lv_topi (fun v59 ev59 => ?_)
  obtain rfl : v59 = (xs (i.toInt.toNat + 2)) := by rw [ev59, show v58.toNatClampNeg = i.toInt.toNat + 2 by have c9 := clampI (x := v58) (by omega); omega]
  refine cgL (X := (MW Y om a I J F G)) (ws := w51) (rn_V (As := [.int (xs (i.toInt.toNat + 1)), .int (xs (i.toInt.toNat + 2))]) (rest := []) (b := om) (m_radius l D Y Z H.size om a I J F G (xs (i.toInt.toNat + 1)) (xs (i.toInt.toNat + 2)) hm0 hm1 hm2) ⟨hx, hb, hml, hown, hg⟩ lk_L_144 ⟨CP.blind, va_recv hKN.1 (P_l hP) (ci := 11) (q0 := 0) rfl rfl, CP.at (P_l hP) hKN (D_l hD)⟩ ⟨⟨rfl, rfl⟩, ⟨Nat.le_of_ble_eq_true rfl, Nat.le_of_ble_eq_true rfl⟩, ⟨(show _ ≤ (600000 : Nat) by omega), (show _ ≤ (7302250 : Nat) by omega)⟩⟩ hl.1 rfl (Nat.le_of_ble_eq_true rfl) dL_law_1511) hP hD hS hA (fun u60 H locs hw61 hP hD hS => ?_)
  refine W.widen (k := (bd + 1)) (n := (sd + 7)) (by omega) (by omega) ?_
  obtain ⟨u62, u63, u64, u65, u66, u67, u68, u69, u70, u71, f72, f73, f74, f75, f76, f77⟩ := u60
  have hw78 : LB f73 := hw61
  refine W.eq (g2 := F0 m 1514 ls [.int u62]) rfl ?_
  have hP : va_P D vwCl ((MW Y om a (upd (upd (upd (upd (upd I 29 u69) 34 u63) 35 u64) 36 u65) 39 u66) (vp_updL (vp_updL (vp_updL (vp_updL J 30 u70) 31 u71) 37 u67) 38 u68) (vf_upd (vf_upd (vf_upd (vf_upd F 1 f72) 28 f73) 41 f75) 43 f77) (vf_upd (vf_upd G 40 f74) 42 f76)) ++ w51) H := hP
  have hD : va_D A ((MW Y om a (upd (upd (upd (upd (upd I 29 u69) 34 u63) 35 u64) 36 u65) 39 u66) (vp_updL (vp_updL (vp_updL (vp_updL J 30 u70) 31 u71) 37 u67) 38 u68) (vf_upd (vf_upd (vf_upd (vf_upd F 1 f72) 28 f73) 41 f75) 43 f77) (vf_upd (vf_upd G 40 f74) 42 f76)) ++ w51) := hD
  have hR79 : LN T52 g q x (vf_upd (vf_upd (vf_upd (vf_upd F 1 f72) 28 f73) 41 f75) 43 f77) := LN.keep hLR.1 htx le53 KS.rf rfl rfl
  have hD80 : LD T52 g q x (vf_upd (vf_upd (vf_upd (vf_upd F 1 f72) 28 f73) 41 f75) 43 f77) := LD.keep hLR.2 htx le53 KD.rf rfl
  have hR79 : LC T52 g q x (vf_upd (vf_upd (vf_upd (vf_upd F 1 f72) 28 f73) 41 f75) 43 f77) := ⟨hR79, hD80⟩
  refine lv_pop hx hb dL_law_1514 rfl ?_
  refine lv_goto (tgt := 1878) hx hb dL_law_1515 (by decide) ?_
  exact hK (upd (upd (upd (upd (upd I 29 u69) 34 u63) 35 u64) 36 u65) 39 u66) (vp_updL (vp_updL (vp_updL (vp_updL J 30 u70) 31 u71) 37 u67) 38 u68) (vf_upd (vf_upd (vf_upd (vf_upd F 1 f72) 28 f73) 41 f75) 43 f77) (vf_upd (vf_upd G 40 f74) 42 f76) w51 T52 g q _ _ H locs ls (by omega) (by omega) ⟨hP, hD, hS, lv_sub hl [0, 1, 2, 3] rfl, hT, (le53.up htx), hR79, hm0, hw78, hm2, hm3, hm4, hm5, (show 0 ≤ (I 3).toInt ∧ (I 3).toInt ≤ 400 by omega)⟩
set_option maxHeartbeats 4000000 in
set_option maxRecDepth 100000 in
theorem lc_30 {p : Program} {l : Launch} {e : Env} {s : State} {m : MethodId} {below : List Frame} {meth : Method} {c : Code} {sb L : Nat} {xs : Nat → Int32} (C0 : lw_At p s m meth c sb L xs) {D : va_G} {Y : Nat → ClassId} {Z : Nat → Nat} (hKN : KN D Y Z s) {A : Nat → Prop} (hSZ : SZ Z A s s.heap) (hA : ∀ q, s.heap.size ≤ q → A q) (hA2 : ∀ q, A q → s.heap.size ≤ q) {x om : Nat} {a : Nat → Nat} {H : Heap} {locs : List Loc} {ls : Array Slot} {I : Nat → Int32} {J : Nat → Int64} {F : Nat → Nat → Int32} {G : Nat → Nat → Int64} {ws : va_W} {T : RT} {g : GN} {q : GQ} {i : Int32} {bd sd : Nat} (hL : L ≤ 3584) (hi : 0 ≤ i.toInt ∧ i.toInt + 7 ≤ (L : Int)) (hbd : bd + 1092 ≤ 600000) (hsd : sd + 7753 ≤ 7302250) (hI : LI D Y Z A s sb x om a H locs ls I J F G ws T g q i) (hK : ∀ (I : Nat → Int32) (J : Nat → Int64) (F : Nat → Nat → Int32) (G : Nat → Nat → Int64) (ws : va_W) (T : RT) (g : GN) (q : GQ) (bd2 sd2 : Nat) (H : Heap) (locs : List Loc) (ls : Array Slot), bd2 ≤ bd + 1092 → sd2 ≤ sd + 7753 → LI D Y Z A s sb x om a H locs ls I J F G ws T g q i → W p l e room_1 s m #[Value.ref sb] below meth c H locs bd2 sd2 (lw_Z below #[Value.ref sb] s) (F0 m 1878 ls [])) : W p l e room_1 s m #[Value.ref sb] below meth c H locs bd sd (lw_Z below #[Value.ref sb] s) (F0 m 1518 ls []) := by
  obtain ⟨hx, hb, hr, hml, hown, hts, hX, hbl, hlocks, hgv⟩ := id C0
  have hb : c.code = cL_law := hb
  have hown : s.vm.findClass RL = some m.cls := hown
  have hg : ∀ w ∈ GW, w.before #[Value.ref sb] s = true := fun w h => hts w (gw_tbl h)
  have hbA : ¬ A sb := fun h => absurd (hA2 sb h) (Nat.not_le.mpr hbl)
  obtain ⟨hP, hD, hS, hl, hT, htx, hLR, hm0, hm1, hm2, hm3, hm4, hm5, hm6⟩ := hI
  refine lv_aload_n hx hb dL_law_1518 rfl (lv_at hl 2 rfl) ?_
  refine lv_aload_n hx hb dL_law_1519 rfl (lv_at hl 3 rfl) ?_
  refine lv_iload_n hx hb dL_law_1520 rfl (lv_at hl 0 rfl) ?_
  refine lv_iconst (v := 1) hx hb dL_law_1521 (by decide) ?_
  refine lv_iadd hx hb dL_law_1522 ?_
  refine lv_topi (fun v1 ev1 => ?_)
  have hv1 := i_add (Eq.refl i.toInt) (show (1 : Int32).toInt = 1 by decide) ev1 (by omega) (by omega)
  refine va_sld hx hb hX hbl hbA hS (vp_in_iff.mpr ⟨by omega, by omega⟩) dL_law_1523 ?_
  refine lv_topi (fun v2 ev2 => ?_)
  obtain rfl : v2 = (xs (i.toInt.toNat + 1)) := by rw [ev2, show v1.toNatClampNeg = i.toInt.toNat + 1 by have c9 := clampI (x := v1) (by omega); omega]
  refine lv_aload_n hx hb dL_law_1524 rfl (lv_at hl 3 rfl) ?_
  refine lv_iload_n hx hb dL_law_1525 rfl (lv_at hl 0 rfl) ?_
  refine lv_iconst (v := 2) hx hb dL_law_1526 (by decide) ?_
  refine lv_iadd hx hb dL_law_1527 ?_
  refine lv_topi (fun v3 ev3 => ?_)
  have hv3 := i_add (Eq.refl i.toInt) (show (2 : Int32).toInt = 2 by decide) ev3 (by omega) (by omega)
  refine va_sld hx hb hX hbl hbA hS (vp_in_iff.mpr ⟨by omega, by omega⟩) dL_law_1528 ?_
  refine lv_topi (fun v4 ev4 => ?_)
  obtain rfl : v4 = (xs (i.toInt.toNat + 2)) := by rw [ev4, show v3.toNatClampNeg = i.toInt.toNat + 2 by have c9 := clampI (x := v3) (by omega); omega]
  refine lv_aload_n hx hb dL_law_1529 rfl (lv_at hl 3 rfl) ?_
  refine lv_iload_n hx hb dL_law_1530 rfl (lv_at hl 0 rfl) ?_
  refine lv_iconst (v := 3) hx hb dL_law_1531 (by decide) ?_
  refine lv_iadd hx hb dL_law_1532 ?_
  refine lv_topi (fun v5 ev5 => ?_)
  have hv5 := i_add (Eq.refl i.toInt) (show (3 : Int32).toInt = 3 by decide) ev5 (by omega) (by omega)
  refine va_sld hx hb hX hbl hbA hS (vp_in_iff.mpr ⟨by omega, by omega⟩) dL_law_1533 ?_
  refine lv_topi (fun v6 ev6 => ?_)
  obtain rfl : v6 = (xs (i.toInt.toNat + 3)) := by rw [ev6, show v5.toNatClampNeg = i.toInt.toNat + 3 by have c9 := clampI (x := v5) (by omega); omega]
  refine lv_aload_n hx hb dL_law_1534 rfl (lv_at hl 3 rfl) ?_
  refine lv_iload_n hx hb dL_law_1535 rfl (lv_at hl 0 rfl) ?_
  refine lv_iconst (v := 4) hx hb dL_law_1536 (by decide) ?_
  refine lv_iadd hx hb dL_law_1537 ?_
  refine lv_topi (fun v7 ev7 => ?_)
  have hv7 := i_add (Eq.refl i.toInt) (show (4 : Int32).toInt = 4 by decide) ev7 (by omega) (by omega)
  refine va_sld hx hb hX hbl hbA hS (vp_in_iff.mpr ⟨by omega, by omega⟩) dL_law_1538 ?_
  refine lv_topi (fun v8 ev8 => ?_)
  obtain rfl : v8 = (xs (i.toInt.toNat + 4)) := by rw [ev8, show v7.toNatClampNeg = i.toInt.toNat + 4 by have c9 := clampI (x := v7) (by omega); omega]
  refine lv_aload_n hx hb dL_law_1539 rfl (lv_at hl 3 rfl) ?_
  refine lv_iload_n hx hb dL_law_1540 rfl (lv_at hl 0 rfl) ?_
  refine lv_iconst (v := 5) hx hb dL_law_1541 (by decide) ?_
  refine lv_iadd hx hb dL_law_1542 ?_
  refine lv_topi (fun v9 ev9 => ?_)
  have hv9 := i_add (Eq.refl i.toInt) (show (5 : Int32).toInt = 5 by decide) ev9 (by omega) (by omega)
  refine va_sld hx hb hX hbl hbA hS (vp_in_iff.mpr ⟨by omega, by omega⟩) dL_law_1543 ?_
  refine lv_topi (fun v10 ev10 => ?_)
  obtain rfl : v10 = (xs (i.toInt.toNat + 5)) := by rw [ev10, show v9.toNatClampNeg = i.toInt.toNat + 5 by have c9 := clampI (x := v9) (by omega); omega]
  refine ok1 hT htx (fun p52 a11 a12 a13 a14 a15 x16 x17 x18 a19 a20 a21 a22 a23 a24 a25 a26 a27 x28 a29 a30 hk53 h31 h32 h33 h34 h35 h36 h37 h38 h39 h40 h41 h42 h43 h44 h45 h46 h47 h48 h49 h50 h51 => ?_)
  refine cgR (rn_V (As := [.int (xs (i.toInt.toNat + 1)), .int (xs (i.toInt.toNat + 2)), .int (xs (i.toInt.toNat + 3)), .int (xs (i.toInt.toNat + 4)), .int (xs (i.toInt.toNat + 5))]) (rest := []) (b := x) (x_X10_many l D Y Z H.size ws T g q x (xs (i.toInt.toNat + 1)) (xs (i.toInt.toNat + 2)) (xs (i.toInt.toNat + 3)) (xs (i.toInt.toNat + 4)) (xs (i.toInt.toNat + 5)) hT htx) ⟨hx, hb, hml, hown, hg⟩ lk_L_145 ⟨CPC.blind, va_recv hKN.1 (P_r hP) (ci := 10) (q0 := p52) rfl hk53, CPC.at (P_r hP) hKN (D_r hD) hSZ hS hA⟩ ⟨⟨rfl, rfl⟩, ⟨Nat.le_of_ble_eq_true rfl, Nat.le_of_ble_eq_true rfl⟩, ⟨(show _ ≤ (600000 : Nat) by omega), (show _ ≤ (7302250 : Nat) by omega)⟩⟩ hl.1 rfl (Nat.le_of_ble_eq_true rfl) dL_law_1544) hP hD hS hA (fun u54 H locs hw55 hP hD hS => ?_)
  refine W.widen (k := (bd + 12)) (n := (sd + 84)) (by omega) (by omega) ?_
  obtain ⟨u56, w57, T58⟩ := u54
  obtain ⟨le59, hT, ke60⟩ : TLe T T58 ∧ TW Y Z T58 g q w57 ∧ KF 1 T ws w57 := hw55
  have hk61 := ke60 _ _ hk53 (show (T x).1 = 1 by rw [htx])
  refine W.eq (g2 := F0 m 1547 ls [.int u56]) rfl ?_
  refine lv_pop hx hb dL_law_1547 rfl ?_
  refine lv_aload_n hx hb dL_law_1548 rfl (lv_at hl 1 rfl) ?_
  refine lv_aload_n hx hb dL_law_1549 rfl (lv_at hl 3 rfl) ?_
  refine lv_iload_n hx hb dL_law_1550 rfl (lv_at hl 0 rfl) ?_
  refine lv_iconst (v := 1) hx hb dL_law_1551 (by decide) ?_
  refine lv_iadd hx hb dL_law_1552 ?_
  refine lv_topi (fun v62 ev62 => ?_)
  have hv62 := i_add (Eq.refl i.toInt) (show (1 : Int32).toInt = 1 by decide) ev62 (by omega) (by omega)
  refine va_sld hx hb hX hbl hbA hS (vp_in_iff.mpr ⟨by omega, by omega⟩) dL_law_1553 ?_
  refine lv_topi (fun v63 ev63 => ?_)
  obtain rfl : v63 = (xs (i.toInt.toNat + 1)) := by rw [ev63, show v62.toNatClampNeg = i.toInt.toNat + 1 by have c9 := clampI (x := v62) (by omega); omega]
  refine lv_aload_n hx hb dL_law_1554 rfl (lv_at hl 3 rfl) ?_
  refine lv_iload_n hx hb dL_law_1555 rfl (lv_at hl 0 rfl) ?_
  refine lv_iconst (v := 2) hx hb dL_law_1556 (by decide) ?_
  refine lv_iadd hx hb dL_law_1557 ?_
  refine lv_topi (fun v64 ev64 => ?_)
  have hv64 := i_add (Eq.refl i.toInt) (show (2 : Int32).toInt = 2 by decide) ev64 (by omega) (by omega)
  refine va_sld hx hb hX hbl hbA hS (vp_in_iff.mpr ⟨by omega, by omega⟩) dL_law_1558 ?_
  refine lv_topi (fun v65 ev65 => ?_)
  obtain rfl : v65 = (xs (i.toInt.toNat + 2)) := by rw [ev65, show v64.toNatClampNeg = i.toInt.toNat + 2 by have c9 := clampI (x := v64) (by omega); omega]
  refine lv_aload_n hx hb dL_law_1559 rfl (lv_at hl 3 rfl) ?_
  refine lv_iload_n hx hb dL_law_1560 rfl (lv_at hl 0 rfl) ?_
  refine lv_iconst (v := 3) hx hb dL_law_1561 (by decide) ?_
  refine lv_iadd hx hb dL_law_1562 ?_
  refine lv_topi (fun v66 ev66 => ?_)
  have hv66 := i_add (Eq.refl i.toInt) (show (3 : Int32).toInt = 3 by decide) ev66 (by omega) (by omega)
  refine va_sld hx hb hX hbl hbA hS (vp_in_iff.mpr ⟨by omega, by omega⟩) dL_law_1563 ?_
  refine lv_topi (fun v67 ev67 => ?_)
  obtain rfl : v67 = (xs (i.toInt.toNat + 3)) := by rw [ev67, show v66.toNatClampNeg = i.toInt.toNat + 3 by have c9 := clampI (x := v66) (by omega); omega]
  refine lv_aload_n hx hb dL_law_1564 rfl (lv_at hl 3 rfl) ?_
  refine lv_iload_n hx hb dL_law_1565 rfl (lv_at hl 0 rfl) ?_
  refine lv_iconst (v := 4) hx hb dL_law_1566 (by decide) ?_
  refine lv_iadd hx hb dL_law_1567 ?_
  refine lv_topi (fun v68 ev68 => ?_)
  have hv68 := i_add (Eq.refl i.toInt) (show (4 : Int32).toInt = 4 by decide) ev68 (by omega) (by omega)
  refine va_sld hx hb hX hbl hbA hS (vp_in_iff.mpr ⟨by omega, by omega⟩) dL_law_1568 ?_
  refine lv_topi (fun v69 ev69 => ?_)
  obtain rfl : v69 = (xs (i.toInt.toNat + 4)) := by rw [ev69, show v68.toNatClampNeg = i.toInt.toNat + 4 by have c9 := clampI (x := v68) (by omega); omega]
  refine lv_aload_n hx hb dL_law_1569 rfl (lv_at hl 3 rfl) ?_
  refine lv_iload_n hx hb dL_law_1570 rfl (lv_at hl 0 rfl) ?_
  refine lv_iconst (v := 5) hx hb dL_law_1571 (by decide) ?_
  refine lv_iadd hx hb dL_law_1572 ?_
  refine lv_topi (fun v70 ev70 => ?_)
  have hv70 := i_add (Eq.refl i.toInt) (show (5 : Int32).toInt = 5 by decide) ev70 (by omega) (by omega)
  refine va_sld hx hb hX hbl hbA hS (vp_in_iff.mpr ⟨by omega, by omega⟩) dL_law_1573 ?_
  refine lv_topi (fun v71 ev71 => ?_)
  obtain rfl : v71 = (xs (i.toInt.toNat + 5)) := by rw [ev71, show v70.toNatClampNeg = i.toInt.toNat + 5 by have c9 := clampI (x := v70) (by omega); omega]
  refine cgL (X := (MW Y om a I J F G)) (ws := w57) (rn_V (As := [.int (xs (i.toInt.toNat + 1)), .int (xs (i.toInt.toNat + 2)), .int (xs (i.toInt.toNat + 3)), .int (xs (i.toInt.toNat + 4)), .int (xs (i.toInt.toNat + 5))]) (rest := []) (b := om) (m_many l D Y Z H.size om a I J F G (xs (i.toInt.toNat + 1)) (xs (i.toInt.toNat + 2)) (xs (i.toInt.toNat + 3)) (xs (i.toInt.toNat + 4)) (xs (i.toInt.toNat + 5)) hm0 hm1 hm2 hm3 hm4) ⟨hx, hb, hml, hown, hg⟩ lk_L_148 ⟨CP.blind, va_recv hKN.1 (P_l hP) (ci := 11) (q0 := 0) rfl rfl, CP.at (P_l hP) hKN (D_l hD)⟩ ⟨⟨rfl, rfl⟩, ⟨Nat.le_of_ble_eq_true rfl, Nat.le_of_ble_eq_true rfl⟩, ⟨(show _ ≤ (600000 : Nat) by omega), (show _ ≤ (7302250 : Nat) by omega)⟩⟩ hl.1 rfl (Nat.le_of_ble_eq_true rfl) dL_law_1574) hP hD hS hA (fun u72 H locs hw73 hP hD hS => ?_)
  refine W.widen (k := (bd + 12)) (n := (sd + 84)) (by omega) (by omega) ?_
  obtain ⟨u74, u75, u76, u77, u78, u79, u80, u81, u82, u83, u84, u85, u86, f87, f88, f89, f90, f91, f92, f93, f94, f95⟩ := u72
  obtain ⟨hw96, hw97⟩ : LB f88 ∧ WG f95 := hw73
  refine W.eq (g2 := F0 m 1577 ls [.int u74]) rfl ?_
  have hP : va_P D vwCl ((MW Y om a (upd (upd (upd (upd (upd (upd (upd I 26 u86) 29 u81) 32 u84) 34 u75) 35 u76) 36 u77) 39 u78) (vp_updL (vp_updL (vp_updL (vp_updL (vp_updL J 30 u82) 31 u83) 33 u85) 37 u79) 38 u80) (vf_upd (vf_upd (vf_upd (vf_upd (vf_upd F 1 f87) 28 f88) 41 f90) 43 f92) 46 f95) (vf_upd (vf_upd (vf_upd (vf_upd G 25 f94) 27 f93) 40 f89) 42 f91)) ++ w57) H := hP
  have hD : va_D A ((MW Y om a (upd (upd (upd (upd (upd (upd (upd I 26 u86) 29 u81) 32 u84) 34 u75) 35 u76) 36 u77) 39 u78) (vp_updL (vp_updL (vp_updL (vp_updL (vp_updL J 30 u82) 31 u83) 33 u85) 37 u79) 38 u80) (vf_upd (vf_upd (vf_upd (vf_upd (vf_upd F 1 f87) 28 f88) 41 f90) 43 f92) 46 f95) (vf_upd (vf_upd (vf_upd (vf_upd G 25 f94) 27 f93) 40 f89) 42 f91)) ++ w57) := hD
  have hR98 : LN T58 g q x (vf_upd (vf_upd (vf_upd (vf_upd (vf_upd F 1 f87) 28 f88) 41 f90) 43 f92) 46 f95) := LN.keep hLR.1 htx le59 KS.rf rfl rfl
  have hD99 : LD T58 g q x (vf_upd (vf_upd (vf_upd (vf_upd (vf_upd F 1 f87) 28 f88) 41 f90) 43 f92) 46 f95) := LD.keep hLR.2 htx le59 KD.rf rfl
  have hR98 : LC T58 g q x (vf_upd (vf_upd (vf_upd (vf_upd (vf_upd F 1 f87) 28 f88) 41 f90) 43 f92) 46 f95) := ⟨hR98, hD99⟩
  refine lv_pop hx hb dL_law_1577 rfl ?_
  refine lv_goto (tgt := 1878) hx hb dL_law_1578 (by decide) ?_
  exact hK (upd (upd (upd (upd (upd (upd (upd I 26 u86) 29 u81) 32 u84) 34 u75) 35 u76) 36 u77) 39 u78) (vp_updL (vp_updL (vp_updL (vp_updL (vp_updL J 30 u82) 31 u83) 33 u85) 37 u79) 38 u80) (vf_upd (vf_upd (vf_upd (vf_upd (vf_upd F 1 f87) 28 f88) 41 f90) 43 f92) 46 f95) (vf_upd (vf_upd (vf_upd (vf_upd G 25 f94) 27 f93) 40 f89) 42 f91) w57 T58 g q _ _ H locs ls (by omega) (by omega) ⟨hP, hD, hS, lv_sub hl [0, 1, 2, 3] rfl, hT, (le59.up htx), hR98, hm0, hw96, hm2, hm3, hw97, hm5, (show 0 ≤ (I 3).toInt ∧ (I 3).toInt ≤ 400 by omega)⟩
set_option maxHeartbeats 4000000 in
set_option maxRecDepth 100000 in
theorem lc_31 {p : Program} {l : Launch} {e : Env} {s : State} {m : MethodId} {below : List Frame} {meth : Method} {c : Code} {sb L : Nat} {xs : Nat → Int32} (C0 : lw_At p s m meth c sb L xs) {D : va_G} {Y : Nat → ClassId} {Z : Nat → Nat} (hKN : KN D Y Z s) {A : Nat → Prop} (hSZ : SZ Z A s s.heap) (hA : ∀ q, s.heap.size ≤ q → A q) (hA2 : ∀ q, A q → s.heap.size ≤ q) {x om : Nat} {a : Nat → Nat} {H : Heap} {locs : List Loc} {ls : Array Slot} {I : Nat → Int32} {J : Nat → Int64} {F : Nat → Nat → Int32} {G : Nat → Nat → Int64} {ws : va_W} {T : RT} {g : GN} {q : GQ} {i : Int32} {bd sd : Nat} (hL : L ≤ 3584) (hi : 0 ≤ i.toInt ∧ i.toInt + 7 ≤ (L : Int)) (hbd : bd + 1092 ≤ 600000) (hsd : sd + 7753 ≤ 7302250) (hI : LI D Y Z A s sb x om a H locs ls I J F G ws T g q i) (hK : ∀ (I : Nat → Int32) (J : Nat → Int64) (F : Nat → Nat → Int32) (G : Nat → Nat → Int64) (ws : va_W) (T : RT) (g : GN) (q : GQ) (bd2 sd2 : Nat) (H : Heap) (locs : List Loc) (ls : Array Slot), bd2 ≤ bd + 1092 → sd2 ≤ sd + 7753 → LI D Y Z A s sb x om a H locs ls I J F G ws T g q i → W p l e room_1 s m #[Value.ref sb] below meth c H locs bd2 sd2 (lw_Z below #[Value.ref sb] s) (F0 m 1878 ls [])) : W p l e room_1 s m #[Value.ref sb] below meth c H locs bd sd (lw_Z below #[Value.ref sb] s) (F0 m 1581 ls []) := by
  obtain ⟨hx, hb, hr, hml, hown, hts, hX, hbl, hlocks, hgv⟩ := id C0
  have hb : c.code = cL_law := hb
  have hown : s.vm.findClass RL = some m.cls := hown
  have hg : ∀ w ∈ GW, w.before #[Value.ref sb] s = true := fun w h => hts w (gw_tbl h)
  have hbA : ¬ A sb := fun h => absurd (hA2 sb h) (Nat.not_le.mpr hbl)
  obtain ⟨hP, hD, hS, hl, hT, htx, hLR, hm0, hm1, hm2, hm3, hm4, hm5, hm6⟩ := hI
  refine lv_aload_n hx hb dL_law_1581 rfl (lv_at hl 2 rfl) ?_
  refine ok1 hT htx (fun p42 a1 a2 a3 a4 a5 x6 x7 x8 a9 a10 a11 a12 a13 a14 a15 a16 a17 x18 a19 a20 hk43 h21 h22 h23 h24 h25 h26 h27 h28 h29 h30 h31 h32 h33 h34 h35 h36 h37 h38 h39 h40 h41 => ?_)
  refine cgR (rn_V (As := []) (rest := []) (b := x) (x_X10_finest l D Y Z H.size ws T g q x hT htx) ⟨hx, hb, hml, hown, hg⟩ lk_L_149 ⟨CPC.blind, va_recv hKN.1 (P_r hP) (ci := 10) (q0 := p42) rfl hk43, CPC.at (P_r hP) hKN (D_r hD) hSZ hS hA⟩ ⟨⟨rfl, rfl⟩, ⟨Nat.le_of_ble_eq_true rfl, Nat.le_of_ble_eq_true rfl⟩, ⟨(show _ ≤ (600000 : Nat) by omega), (show _ ≤ (7302250 : Nat) by omega)⟩⟩ hl.1 rfl (Nat.le_of_ble_eq_true rfl) dL_law_1582) hP hD hS hA (fun u44 H locs hw45 hP hD hS => ?_)
  refine W.widen (k := (bd + 312)) (n := (sd + 2184)) (by omega) (by omega) ?_
  obtain ⟨u46, w47, T48⟩ := u44
  obtain ⟨le49, hT, ke50⟩ : TLe T T48 ∧ TW Y Z T48 g q w47 ∧ KF 1 T ws w47 := hw45
  have hk51 := ke50 _ _ hk43 (show (T x).1 = 1 by rw [htx])
  refine W.eq (g2 := F0 m 1585 ls [.int u46]) rfl ?_
  refine lv_pop hx hb dL_law_1585 rfl ?_
  refine lv_aload_n hx hb dL_law_1586 rfl (lv_at hl 1 rfl) ?_
  refine cgL (X := (MW Y om a I J F G)) (ws := w47) (rn_V (As := []) (rest := []) (b := om) (m_finest l D Y Z H.size om a I J F G  hm0 hm1 hm2) ⟨hx, hb, hml, hown, hg⟩ lk_L_153 ⟨CP.blind, va_recv hKN.1 (P_l hP) (ci := 11) (q0 := 0) rfl rfl, CP.at (P_l hP) hKN (D_l hD)⟩ ⟨⟨rfl, rfl⟩, ⟨Nat.le_of_ble_eq_true rfl, Nat.le_of_ble_eq_true rfl⟩, ⟨(show _ ≤ (600000 : Nat) by omega), (show _ ≤ (7302250 : Nat) by omega)⟩⟩ hl.1 rfl (Nat.le_of_ble_eq_true rfl) dL_law_1587) hP hD hS hA (fun u52 H locs hw53 hP hD hS => ?_)
  refine W.widen (k := (bd + 312)) (n := (sd + 2184)) (by omega) (by omega) ?_
  obtain ⟨u54, u55, u56, u57, u58, u59, u60, u61, u62, u63, f64, f65, f66, f67, f68, f69⟩ := u52
  have hw70 : LB f65 := hw53
  refine W.eq (g2 := F0 m 1590 ls [.int u54]) rfl ?_
  have hP : va_P D vwCl ((MW Y om a (upd (upd (upd (upd (upd I 29 u61) 34 u55) 35 u56) 36 u57) 39 u58) (vp_updL (vp_updL (vp_updL (vp_updL J 30 u62) 31 u63) 37 u59) 38 u60) (vf_upd (vf_upd (vf_upd (vf_upd F 1 f64) 28 f65) 41 f67) 43 f69) (vf_upd (vf_upd G 40 f66) 42 f68)) ++ w47) H := hP
  have hD : va_D A ((MW Y om a (upd (upd (upd (upd (upd I 29 u61) 34 u55) 35 u56) 36 u57) 39 u58) (vp_updL (vp_updL (vp_updL (vp_updL J 30 u62) 31 u63) 37 u59) 38 u60) (vf_upd (vf_upd (vf_upd (vf_upd F 1 f64) 28 f65) 41 f67) 43 f69) (vf_upd (vf_upd G 40 f66) 42 f68)) ++ w47) := hD
  have hR71 : LN T48 g q x (vf_upd (vf_upd (vf_upd (vf_upd F 1 f64) 28 f65) 41 f67) 43 f69) := LN.keep hLR.1 htx le49 KS.rf rfl rfl
  have hD72 : LD T48 g q x (vf_upd (vf_upd (vf_upd (vf_upd F 1 f64) 28 f65) 41 f67) 43 f69) := LD.keep hLR.2 htx le49 KD.rf rfl
  have hR71 : LC T48 g q x (vf_upd (vf_upd (vf_upd (vf_upd F 1 f64) 28 f65) 41 f67) 43 f69) := ⟨hR71, hD72⟩
  refine lv_pop hx hb dL_law_1590 rfl ?_
  refine lv_goto (tgt := 1878) hx hb dL_law_1591 (by decide) ?_
  exact hK (upd (upd (upd (upd (upd I 29 u61) 34 u55) 35 u56) 36 u57) 39 u58) (vp_updL (vp_updL (vp_updL (vp_updL J 30 u62) 31 u63) 37 u59) 38 u60) (vf_upd (vf_upd (vf_upd (vf_upd F 1 f64) 28 f65) 41 f67) 43 f69) (vf_upd (vf_upd G 40 f66) 42 f68) w47 T48 g q _ _ H locs ls (by omega) (by omega) ⟨hP, hD, hS, lv_sub hl [0, 1, 2, 3] rfl, hT, (le49.up htx), hR71, hm0, hw70, hm2, hm3, hm4, hm5, (show 0 ≤ (I 3).toInt ∧ (I 3).toInt ≤ 400 by omega)⟩
