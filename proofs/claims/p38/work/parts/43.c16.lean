set_option maxHeartbeats 4000000 in
set_option maxRecDepth 100000 in
theorem lc_16 {p : Program} {l : Launch} {e : Env} {s : State} {m : MethodId} {below : List Frame} {meth : Method} {c : Code} {sb L : Nat} {xs : Nat → Int32} (C0 : lw_At p s m meth c sb L xs) {D : va_G} {Y : Nat → ClassId} {Z : Nat → Nat} (hKN : KN D Y Z s) {A : Nat → Prop} (hSZ : SZ Z A s s.heap) (hA : ∀ q, s.heap.size ≤ q → A q) (hA2 : ∀ q, A q → s.heap.size ≤ q) {x om : Nat} {a : Nat → Nat} {H : Heap} {locs : List Loc} {ls : Array Slot} {I : Nat → Int32} {J : Nat → Int64} {F : Nat → Nat → Int32} {G : Nat → Nat → Int64} {ws : va_W} {T : RT} {g : GN} {q : GQ} {i : Int32} {bd sd : Nat} (hL : L ≤ 3584) (hi : 0 ≤ i.toInt ∧ i.toInt + 7 ≤ (L : Int)) (hbd : bd + 1092 ≤ 600000) (hsd : sd + 7753 ≤ 7302250) (hI : LI D Y Z A s sb x om a H locs ls I J F G ws T g q i) (hK : ∀ (I : Nat → Int32) (J : Nat → Int64) (F : Nat → Nat → Int32) (G : Nat → Nat → Int64) (ws : va_W) (T : RT) (g : GN) (q : GQ) (bd2 sd2 : Nat) (H : Heap) (locs : List Loc) (ls : Array Slot), bd2 ≤ bd + 1092 → sd2 ≤ sd + 7753 → LI D Y Z A s sb x om a H locs ls I J F G ws T g q i → W p l e room_1 s m #[Value.ref sb] below meth c H locs bd2 sd2 (lw_Z below #[Value.ref sb] s) (F0 m 1878 ls [])) : W p l e room_1 s m #[Value.ref sb] below meth c H locs bd sd (lw_Z below #[Value.ref sb] s) (F0 m 906 ls []) := by
  obtain ⟨hx, hb, hr, hml, hown, hts, hX, hbl, hlocks, hgv⟩ := id C0
  have hb : c.code = cL_law := hb
  have hown : s.vm.findClass RL = some m.cls := hown
  have hg : ∀ w ∈ GW, w.before #[Value.ref sb] s = true := fun w h => hts w (gw_tbl h)
  have hbA : ¬ A sb := fun h => absurd (hA2 sb h) (Nat.not_le.mpr hbl)
  obtain ⟨hP, hD, hS, hl, hT, htx, hLR, hm0, hm1, hm2, hm3, hm4, hm5, hm6⟩ := hI
  refine lv_aload_n hx hb dL_law_906 rfl (lv_at hl 2 rfl) ?_
  refine lv_aload_n hx hb dL_law_907 rfl (lv_at hl 3 rfl) ?_
  refine lv_iload_n hx hb dL_law_908 rfl (lv_at hl 0 rfl) ?_
  refine lv_iconst (v := 1) hx hb dL_law_909 (by decide) ?_
  refine lv_iadd hx hb dL_law_910 ?_
  refine lv_topi (fun v1 ev1 => ?_)
  have hv1 := i_add (Eq.refl i.toInt) (show (1 : Int32).toInt = 1 by decide) ev1 (by omega) (by omega)
  refine va_sld hx hb hX hbl hbA hS (vp_in_iff.mpr ⟨by omega, by omega⟩) dL_law_911 ?_
  refine lv_topi (fun v2 ev2 => ?_)
  obtain rfl : v2 = (xs (i.toInt.toNat + 1)) := by rw [ev2, show v1.toNatClampNeg = i.toInt.toNat + 1 by have c9 := clampI (x := v1) (by omega); omega]
  refine lv_aload_n hx hb dL_law_912 rfl (lv_at hl 3 rfl) ?_
  refine lv_iload_n hx hb dL_law_913 rfl (lv_at hl 0 rfl) ?_
  refine lv_iconst (v := 2) hx hb dL_law_914 (by decide) ?_
  refine lv_iadd hx hb dL_law_915 ?_
  refine lv_topi (fun v3 ev3 => ?_)
  have hv3 := i_add (Eq.refl i.toInt) (show (2 : Int32).toInt = 2 by decide) ev3 (by omega) (by omega)
  refine va_sld hx hb hX hbl hbA hS (vp_in_iff.mpr ⟨by omega, by omega⟩) dL_law_916 ?_
  refine lv_topi (fun v4 ev4 => ?_)
  obtain rfl : v4 = (xs (i.toInt.toNat + 2)) := by rw [ev4, show v3.toNatClampNeg = i.toInt.toNat + 2 by have c9 := clampI (x := v3) (by omega); omega]
  refine ok1 hT htx (fun p46 a5 a6 a7 a8 a9 x10 x11 x12 a13 a14 a15 a16 a17 a18 a19 a20 a21 x22 a23 a24 hk47 h25 h26 h27 h28 h29 h30 h31 h32 h33 h34 h35 h36 h37 h38 h39 h40 h41 h42 h43 h44 h45 => ?_)
  refine cgR (rn_V (As := [.int (xs (i.toInt.toNat + 1)), .int (xs (i.toInt.toNat + 2))]) (rest := []) (b := x) (x_X10_share l D Y Z H.size ws T g q x (xs (i.toInt.toNat + 1)) (xs (i.toInt.toNat + 2)) hT htx) ⟨hx, hb, hml, hown, hg⟩ lk_L_86 ⟨CPC.blind, va_recv hKN.1 (P_r hP) (ci := 10) (q0 := p46) rfl hk47, CPC.at (P_r hP) hKN (D_r hD) hSZ hS hA⟩ ⟨⟨rfl, rfl⟩, ⟨Nat.le_of_ble_eq_true rfl, Nat.le_of_ble_eq_true rfl⟩, ⟨(show _ ≤ (600000 : Nat) by omega), (show _ ≤ (7302250 : Nat) by omega)⟩⟩ hl.1 rfl (Nat.le_of_ble_eq_true rfl) dL_law_917) hP hD hS hA (fun u48 H locs hw49 hP hD hS => ?_)
  refine W.widen (k := (bd + 40)) (n := (sd + 280)) (by omega) (by omega) ?_
  obtain ⟨u50, w51, T52⟩ := u48
  obtain ⟨le53, hT, ke54⟩ : TLe T T52 ∧ TW Y Z T52 g q w51 ∧ KF 1 T ws w51 := hw49
  have hk55 := ke54 _ _ hk47 (show (T x).1 = 1 by rw [htx])
  refine W.eq (g2 := F0 m 920 ls [.int u50]) rfl ?_
  refine lv_pop hx hb dL_law_920 rfl ?_
  refine lv_aload_n hx hb dL_law_921 rfl (lv_at hl 1 rfl) ?_
  refine lv_aload_n hx hb dL_law_922 rfl (lv_at hl 3 rfl) ?_
  refine lv_iload_n hx hb dL_law_923 rfl (lv_at hl 0 rfl) ?_
  refine lv_iconst (v := 1) hx hb dL_law_924 (by decide) ?_
  refine lv_iadd hx hb dL_law_925 ?_
  refine lv_topi (fun v56 ev56 => ?_)
  have hv56 := i_add (Eq.refl i.toInt) (show (1 : Int32).toInt = 1 by decide) ev56 (by omega) (by omega)
  refine va_sld hx hb hX hbl hbA hS (vp_in_iff.mpr ⟨by omega, by omega⟩) dL_law_926 ?_
  refine lv_topi (fun v57 ev57 => ?_)
  obtain rfl : v57 = (xs (i.toInt.toNat + 1)) := by rw [ev57, show v56.toNatClampNeg = i.toInt.toNat + 1 by have c9 := clampI (x := v56) (by omega); omega]
  refine lv_aload_n hx hb dL_law_927 rfl (lv_at hl 3 rfl) ?_
  refine lv_iload_n hx hb dL_law_928 rfl (lv_at hl 0 rfl) ?_
  refine lv_iconst (v := 2) hx hb dL_law_929 (by decide) ?_
  refine lv_iadd hx hb dL_law_930 ?_
  refine lv_topi (fun v58 ev58 => ?_)
  have hv58 := i_add (Eq.refl i.toInt) (show (2 : Int32).toInt = 2 by decide) ev58 (by omega) (by omega)
  refine va_sld hx hb hX hbl hbA hS (vp_in_iff.mpr ⟨by omega, by omega⟩) dL_law_931 ?_
  refine lv_topi (fun v59 ev59 => ?_)
  obtain rfl : v59 = (xs (i.toInt.toNat + 2)) := by rw [ev59, show v58.toNatClampNeg = i.toInt.toNat + 2 by have c9 := clampI (x := v58) (by omega); omega]
  refine cgL (X := (MW Y om a I J F G)) (ws := w51) (rn_V (As := [.int (xs (i.toInt.toNat + 1)), .int (xs (i.toInt.toNat + 2))]) (rest := []) (b := om) (m_share l D Y Z H.size om a I J F G (xs (i.toInt.toNat + 1)) (xs (i.toInt.toNat + 2)) hm0 hm1 hm2) ⟨hx, hb, hml, hown, hg⟩ lk_L_89 ⟨CP.blind, va_recv hKN.1 (P_l hP) (ci := 11) (q0 := 0) rfl rfl, CP.at (P_l hP) hKN (D_l hD)⟩ ⟨⟨rfl, rfl⟩, ⟨Nat.le_of_ble_eq_true rfl, Nat.le_of_ble_eq_true rfl⟩, ⟨(show _ ≤ (600000 : Nat) by omega), (show _ ≤ (7302250 : Nat) by omega)⟩⟩ hl.1 rfl (Nat.le_of_ble_eq_true rfl) dL_law_932) hP hD hS hA (fun u60 H locs hw61 hP hD hS => ?_)
  refine W.widen (k := (bd + 40)) (n := (sd + 280)) (by omega) (by omega) ?_
  obtain ⟨u62, u63, u64, u65, u66, u67, u68, u69, u70, u71, f72, f73, f74, f75, f76⟩ := u60
  have hw77 : LB f72 := hw61
  refine W.eq (g2 := F0 m 935 ls [.int u62]) rfl ?_
  have hP : va_P D vwCl ((MW Y om a (upd (upd (upd (upd (upd I 29 u69) 34 u63) 35 u64) 36 u65) 39 u66) (vp_updL (vp_updL (vp_updL (vp_updL J 30 u70) 31 u71) 37 u67) 38 u68) (vf_upd (vf_upd (vf_upd F 28 f72) 41 f74) 43 f76) (vf_upd (vf_upd G 40 f73) 42 f75)) ++ w51) H := hP
  have hD : va_D A ((MW Y om a (upd (upd (upd (upd (upd I 29 u69) 34 u63) 35 u64) 36 u65) 39 u66) (vp_updL (vp_updL (vp_updL (vp_updL J 30 u70) 31 u71) 37 u67) 38 u68) (vf_upd (vf_upd (vf_upd F 28 f72) 41 f74) 43 f76) (vf_upd (vf_upd G 40 f73) 42 f75)) ++ w51) := hD
  have hR78 : LN T52 g q x (vf_upd (vf_upd (vf_upd F 28 f72) 41 f74) 43 f76) := LN.keep hLR.1 htx le53 KS.rf rfl rfl
  have hD79 : LD T52 g q x (vf_upd (vf_upd (vf_upd F 28 f72) 41 f74) 43 f76) := LD.keep hLR.2 htx le53 KD.rf rfl
  have hR78 : LC T52 g q x (vf_upd (vf_upd (vf_upd F 28 f72) 41 f74) 43 f76) := ⟨hR78, hD79⟩
  refine lv_pop hx hb dL_law_935 rfl ?_
  refine lv_goto (tgt := 1878) hx hb dL_law_936 (by decide) ?_
  exact hK (upd (upd (upd (upd (upd I 29 u69) 34 u63) 35 u64) 36 u65) 39 u66) (vp_updL (vp_updL (vp_updL (vp_updL J 30 u70) 31 u71) 37 u67) 38 u68) (vf_upd (vf_upd (vf_upd F 28 f72) 41 f74) 43 f76) (vf_upd (vf_upd G 40 f73) 42 f75) w51 T52 g q _ _ H locs ls (by omega) (by omega) ⟨hP, hD, hS, lv_sub hl [0, 1, 2, 3] rfl, hT, (le53.up htx), hR78, hm0, hw77, hm2, hm3, hm4, hm5, (show 0 ≤ (I 3).toInt ∧ (I 3).toInt ≤ 400 by omega)⟩
set_option maxHeartbeats 4000000 in
set_option maxRecDepth 100000 in
theorem lc_17 {p : Program} {l : Launch} {e : Env} {s : State} {m : MethodId} {below : List Frame} {meth : Method} {c : Code} {sb L : Nat} {xs : Nat → Int32} (C0 : lw_At p s m meth c sb L xs) {D : va_G} {Y : Nat → ClassId} {Z : Nat → Nat} (hKN : KN D Y Z s) {A : Nat → Prop} (hSZ : SZ Z A s s.heap) (hA : ∀ q, s.heap.size ≤ q → A q) (hA2 : ∀ q, A q → s.heap.size ≤ q) {x om : Nat} {a : Nat → Nat} {H : Heap} {locs : List Loc} {ls : Array Slot} {I : Nat → Int32} {J : Nat → Int64} {F : Nat → Nat → Int32} {G : Nat → Nat → Int64} {ws : va_W} {T : RT} {g : GN} {q : GQ} {i : Int32} {bd sd : Nat} (hL : L ≤ 3584) (hi : 0 ≤ i.toInt ∧ i.toInt + 7 ≤ (L : Int)) (hbd : bd + 1092 ≤ 600000) (hsd : sd + 7753 ≤ 7302250) (hI : LI D Y Z A s sb x om a H locs ls I J F G ws T g q i) (hK : ∀ (I : Nat → Int32) (J : Nat → Int64) (F : Nat → Nat → Int32) (G : Nat → Nat → Int64) (ws : va_W) (T : RT) (g : GN) (q : GQ) (bd2 sd2 : Nat) (H : Heap) (locs : List Loc) (ls : Array Slot), bd2 ≤ bd + 1092 → sd2 ≤ sd + 7753 → LI D Y Z A s sb x om a H locs ls I J F G ws T g q i → W p l e room_1 s m #[Value.ref sb] below meth c H locs bd2 sd2 (lw_Z below #[Value.ref sb] s) (F0 m 1878 ls [])) : W p l e room_1 s m #[Value.ref sb] below meth c H locs bd sd (lw_Z below #[Value.ref sb] s) (F0 m 939 ls []) := by
  obtain ⟨hx, hb, hr, hml, hown, hts, hX, hbl, hlocks, hgv⟩ := id C0
  have hb : c.code = cL_law := hb
  have hown : s.vm.findClass RL = some m.cls := hown
  have hg : ∀ w ∈ GW, w.before #[Value.ref sb] s = true := fun w h => hts w (gw_tbl h)
  have hbA : ¬ A sb := fun h => absurd (hA2 sb h) (Nat.not_le.mpr hbl)
  obtain ⟨hP, hD, hS, hl, hT, htx, hLR, hm0, hm1, hm2, hm3, hm4, hm5, hm6⟩ := hI
  refine lv_aload_n hx hb dL_law_939 rfl (lv_at hl 2 rfl) ?_
  refine lv_aload_n hx hb dL_law_940 rfl (lv_at hl 3 rfl) ?_
  refine lv_iload_n hx hb dL_law_941 rfl (lv_at hl 0 rfl) ?_
  refine lv_iconst (v := 1) hx hb dL_law_942 (by decide) ?_
  refine lv_iadd hx hb dL_law_943 ?_
  refine lv_topi (fun v1 ev1 => ?_)
  have hv1 := i_add (Eq.refl i.toInt) (show (1 : Int32).toInt = 1 by decide) ev1 (by omega) (by omega)
  refine va_sld hx hb hX hbl hbA hS (vp_in_iff.mpr ⟨by omega, by omega⟩) dL_law_944 ?_
  refine lv_topi (fun v2 ev2 => ?_)
  obtain rfl : v2 = (xs (i.toInt.toNat + 1)) := by rw [ev2, show v1.toNatClampNeg = i.toInt.toNat + 1 by have c9 := clampI (x := v1) (by omega); omega]
  refine lv_aload_n hx hb dL_law_945 rfl (lv_at hl 3 rfl) ?_
  refine lv_iload_n hx hb dL_law_946 rfl (lv_at hl 0 rfl) ?_
  refine lv_iconst (v := 2) hx hb dL_law_947 (by decide) ?_
  refine lv_iadd hx hb dL_law_948 ?_
  refine lv_topi (fun v3 ev3 => ?_)
  have hv3 := i_add (Eq.refl i.toInt) (show (2 : Int32).toInt = 2 by decide) ev3 (by omega) (by omega)
  refine va_sld hx hb hX hbl hbA hS (vp_in_iff.mpr ⟨by omega, by omega⟩) dL_law_949 ?_
  refine lv_topi (fun v4 ev4 => ?_)
  obtain rfl : v4 = (xs (i.toInt.toNat + 2)) := by rw [ev4, show v3.toNatClampNeg = i.toInt.toNat + 2 by have c9 := clampI (x := v3) (by omega); omega]
  refine lv_aload_n hx hb dL_law_950 rfl (lv_at hl 3 rfl) ?_
  refine lv_iload_n hx hb dL_law_951 rfl (lv_at hl 0 rfl) ?_
  refine lv_iconst (v := 3) hx hb dL_law_952 (by decide) ?_
  refine lv_iadd hx hb dL_law_953 ?_
  refine lv_topi (fun v5 ev5 => ?_)
  have hv5 := i_add (Eq.refl i.toInt) (show (3 : Int32).toInt = 3 by decide) ev5 (by omega) (by omega)
  refine va_sld hx hb hX hbl hbA hS (vp_in_iff.mpr ⟨by omega, by omega⟩) dL_law_954 ?_
  refine lv_topi (fun v6 ev6 => ?_)
  obtain rfl : v6 = (xs (i.toInt.toNat + 3)) := by rw [ev6, show v5.toNatClampNeg = i.toInt.toNat + 3 by have c9 := clampI (x := v5) (by omega); omega]
  refine ok1 hT htx (fun p48 a7 a8 a9 a10 a11 x12 x13 x14 a15 a16 a17 a18 a19 a20 a21 a22 a23 x24 a25 a26 hk49 h27 h28 h29 h30 h31 h32 h33 h34 h35 h36 h37 h38 h39 h40 h41 h42 h43 h44 h45 h46 h47 => ?_)
  refine cgR (rn_V (As := [.int (xs (i.toInt.toNat + 1)), .int (xs (i.toInt.toNat + 2)), .int (xs (i.toInt.toNat + 3))]) (rest := []) (b := x) (x_X10_chance l D Y Z H.size ws T g q x (xs (i.toInt.toNat + 1)) (xs (i.toInt.toNat + 2)) (xs (i.toInt.toNat + 3)) hT htx) ⟨hx, hb, hml, hown, hg⟩ lk_L_90 ⟨CPC.blind, va_recv hKN.1 (P_r hP) (ci := 10) (q0 := p48) rfl hk49, CPC.at (P_r hP) hKN (D_r hD) hSZ hS hA⟩ ⟨⟨rfl, rfl⟩, ⟨Nat.le_of_ble_eq_true rfl, Nat.le_of_ble_eq_true rfl⟩, ⟨(show _ ≤ (600000 : Nat) by omega), (show _ ≤ (7302250 : Nat) by omega)⟩⟩ hl.1 rfl (Nat.le_of_ble_eq_true rfl) dL_law_955) hP hD hS hA (fun u50 H locs hw51 hP hD hS => ?_)
  refine W.widen (k := (bd + 12)) (n := (sd + 84)) (by omega) (by omega) ?_
  obtain ⟨u52, w53, T54⟩ := u50
  obtain ⟨le55, hT, ke56⟩ : TLe T T54 ∧ TW Y Z T54 g q w53 ∧ KF 1 T ws w53 := hw51
  have hk57 := ke56 _ _ hk49 (show (T x).1 = 1 by rw [htx])
  refine W.eq (g2 := F0 m 958 ls [.int u52]) rfl ?_
  refine lv_pop hx hb dL_law_958 rfl ?_
  refine lv_aload_n hx hb dL_law_959 rfl (lv_at hl 1 rfl) ?_
  refine lv_aload_n hx hb dL_law_960 rfl (lv_at hl 3 rfl) ?_
  refine lv_iload_n hx hb dL_law_961 rfl (lv_at hl 0 rfl) ?_
  refine lv_iconst (v := 1) hx hb dL_law_962 (by decide) ?_
  refine lv_iadd hx hb dL_law_963 ?_
  refine lv_topi (fun v58 ev58 => ?_)
  have hv58 := i_add (Eq.refl i.toInt) (show (1 : Int32).toInt = 1 by decide) ev58 (by omega) (by omega)
  refine va_sld hx hb hX hbl hbA hS (vp_in_iff.mpr ⟨by omega, by omega⟩) dL_law_964 ?_
  refine lv_topi (fun v59 ev59 => ?_)
  obtain rfl : v59 = (xs (i.toInt.toNat + 1)) := by rw [ev59, show v58.toNatClampNeg = i.toInt.toNat + 1 by have c9 := clampI (x := v58) (by omega); omega]
  refine lv_aload_n hx hb dL_law_965 rfl (lv_at hl 3 rfl) ?_
  refine lv_iload_n hx hb dL_law_966 rfl (lv_at hl 0 rfl) ?_
  refine lv_iconst (v := 2) hx hb dL_law_967 (by decide) ?_
  refine lv_iadd hx hb dL_law_968 ?_
  refine lv_topi (fun v60 ev60 => ?_)
  have hv60 := i_add (Eq.refl i.toInt) (show (2 : Int32).toInt = 2 by decide) ev60 (by omega) (by omega)
  refine va_sld hx hb hX hbl hbA hS (vp_in_iff.mpr ⟨by omega, by omega⟩) dL_law_969 ?_
  refine lv_topi (fun v61 ev61 => ?_)
  obtain rfl : v61 = (xs (i.toInt.toNat + 2)) := by rw [ev61, show v60.toNatClampNeg = i.toInt.toNat + 2 by have c9 := clampI (x := v60) (by omega); omega]
  refine lv_aload_n hx hb dL_law_970 rfl (lv_at hl 3 rfl) ?_
  refine lv_iload_n hx hb dL_law_971 rfl (lv_at hl 0 rfl) ?_
  refine lv_iconst (v := 3) hx hb dL_law_972 (by decide) ?_
  refine lv_iadd hx hb dL_law_973 ?_
  refine lv_topi (fun v62 ev62 => ?_)
  have hv62 := i_add (Eq.refl i.toInt) (show (3 : Int32).toInt = 3 by decide) ev62 (by omega) (by omega)
  refine va_sld hx hb hX hbl hbA hS (vp_in_iff.mpr ⟨by omega, by omega⟩) dL_law_974 ?_
  refine lv_topi (fun v63 ev63 => ?_)
  obtain rfl : v63 = (xs (i.toInt.toNat + 3)) := by rw [ev63, show v62.toNatClampNeg = i.toInt.toNat + 3 by have c9 := clampI (x := v62) (by omega); omega]
  refine cgL (X := (MW Y om a I J F G)) (ws := w53) (rn_V (As := [.int (xs (i.toInt.toNat + 1)), .int (xs (i.toInt.toNat + 2)), .int (xs (i.toInt.toNat + 3))]) (rest := []) (b := om) (m_chance l D Y Z H.size om a I J F G (xs (i.toInt.toNat + 1)) (xs (i.toInt.toNat + 2)) (xs (i.toInt.toNat + 3)) hm0 hm1 hm2) ⟨hx, hb, hml, hown, hg⟩ lk_L_93 ⟨CP.blind, va_recv hKN.1 (P_l hP) (ci := 11) (q0 := 0) rfl rfl, CP.at (P_l hP) hKN (D_l hD)⟩ ⟨⟨rfl, rfl⟩, ⟨Nat.le_of_ble_eq_true rfl, Nat.le_of_ble_eq_true rfl⟩, ⟨(show _ ≤ (600000 : Nat) by omega), (show _ ≤ (7302250 : Nat) by omega)⟩⟩ hl.1 rfl (Nat.le_of_ble_eq_true rfl) dL_law_975) hP hD hS hA (fun u64 H locs hw65 hP hD hS => ?_)
  refine W.widen (k := (bd + 12)) (n := (sd + 84)) (by omega) (by omega) ?_
  obtain ⟨u66, u67, u68, u69, u70, u71, u72, u73, u74, u75, f76, f77, f78, f79, f80, f81⟩ := u64
  have hw82 : LB f77 := hw65
  refine W.eq (g2 := F0 m 978 ls [.int u66]) rfl ?_
  have hP : va_P D vwCl ((MW Y om a (upd (upd (upd (upd (upd I 29 u73) 34 u67) 35 u68) 36 u69) 39 u70) (vp_updL (vp_updL (vp_updL (vp_updL J 30 u74) 31 u75) 37 u71) 38 u72) (vf_upd (vf_upd (vf_upd (vf_upd F 1 f76) 28 f77) 41 f79) 43 f81) (vf_upd (vf_upd G 40 f78) 42 f80)) ++ w53) H := hP
  have hD : va_D A ((MW Y om a (upd (upd (upd (upd (upd I 29 u73) 34 u67) 35 u68) 36 u69) 39 u70) (vp_updL (vp_updL (vp_updL (vp_updL J 30 u74) 31 u75) 37 u71) 38 u72) (vf_upd (vf_upd (vf_upd (vf_upd F 1 f76) 28 f77) 41 f79) 43 f81) (vf_upd (vf_upd G 40 f78) 42 f80)) ++ w53) := hD
  have hR83 : LN T54 g q x (vf_upd (vf_upd (vf_upd (vf_upd F 1 f76) 28 f77) 41 f79) 43 f81) := LN.keep hLR.1 htx le55 KS.rf rfl rfl
  have hD84 : LD T54 g q x (vf_upd (vf_upd (vf_upd (vf_upd F 1 f76) 28 f77) 41 f79) 43 f81) := LD.keep hLR.2 htx le55 KD.rf rfl
  have hR83 : LC T54 g q x (vf_upd (vf_upd (vf_upd (vf_upd F 1 f76) 28 f77) 41 f79) 43 f81) := ⟨hR83, hD84⟩
  refine lv_pop hx hb dL_law_978 rfl ?_
  refine lv_goto (tgt := 1878) hx hb dL_law_979 (by decide) ?_
  exact hK (upd (upd (upd (upd (upd I 29 u73) 34 u67) 35 u68) 36 u69) 39 u70) (vp_updL (vp_updL (vp_updL (vp_updL J 30 u74) 31 u75) 37 u71) 38 u72) (vf_upd (vf_upd (vf_upd (vf_upd F 1 f76) 28 f77) 41 f79) 43 f81) (vf_upd (vf_upd G 40 f78) 42 f80) w53 T54 g q _ _ H locs ls (by omega) (by omega) ⟨hP, hD, hS, lv_sub hl [0, 1, 2, 3] rfl, hT, (le55.up htx), hR83, hm0, hw82, hm2, hm3, hm4, hm5, (show 0 ≤ (I 3).toInt ∧ (I 3).toInt ≤ 400 by omega)⟩
set_option maxHeartbeats 4000000 in
set_option maxRecDepth 100000 in
theorem lc_18 {p : Program} {l : Launch} {e : Env} {s : State} {m : MethodId} {below : List Frame} {meth : Method} {c : Code} {sb L : Nat} {xs : Nat → Int32} (C0 : lw_At p s m meth c sb L xs) {D : va_G} {Y : Nat → ClassId} {Z : Nat → Nat} (hKN : KN D Y Z s) {A : Nat → Prop} (hSZ : SZ Z A s s.heap) (hA : ∀ q, s.heap.size ≤ q → A q) (hA2 : ∀ q, A q → s.heap.size ≤ q) {x om : Nat} {a : Nat → Nat} {H : Heap} {locs : List Loc} {ls : Array Slot} {I : Nat → Int32} {J : Nat → Int64} {F : Nat → Nat → Int32} {G : Nat → Nat → Int64} {ws : va_W} {T : RT} {g : GN} {q : GQ} {i : Int32} {bd sd : Nat} (hL : L ≤ 3584) (hi : 0 ≤ i.toInt ∧ i.toInt + 7 ≤ (L : Int)) (hbd : bd + 1092 ≤ 600000) (hsd : sd + 7753 ≤ 7302250) (hI : LI D Y Z A s sb x om a H locs ls I J F G ws T g q i) (hK : ∀ (I : Nat → Int32) (J : Nat → Int64) (F : Nat → Nat → Int32) (G : Nat → Nat → Int64) (ws : va_W) (T : RT) (g : GN) (q : GQ) (bd2 sd2 : Nat) (H : Heap) (locs : List Loc) (ls : Array Slot), bd2 ≤ bd + 1092 → sd2 ≤ sd + 7753 → LI D Y Z A s sb x om a H locs ls I J F G ws T g q i → W p l e room_1 s m #[Value.ref sb] below meth c H locs bd2 sd2 (lw_Z below #[Value.ref sb] s) (F0 m 1878 ls [])) : W p l e room_1 s m #[Value.ref sb] below meth c H locs bd sd (lw_Z below #[Value.ref sb] s) (F0 m 982 ls []) := by
  obtain ⟨hx, hb, hr, hml, hown, hts, hX, hbl, hlocks, hgv⟩ := id C0
  have hb : c.code = cL_law := hb
  have hown : s.vm.findClass RL = some m.cls := hown
  have hg : ∀ w ∈ GW, w.before #[Value.ref sb] s = true := fun w h => hts w (gw_tbl h)
  have hbA : ¬ A sb := fun h => absurd (hA2 sb h) (Nat.not_le.mpr hbl)
  obtain ⟨hP, hD, hS, hl, hT, htx, hLR, hm0, hm1, hm2, hm3, hm4, hm5, hm6⟩ := hI
  refine lv_aload_n hx hb dL_law_982 rfl (lv_at hl 2 rfl) ?_
  refine lv_aload_n hx hb dL_law_983 rfl (lv_at hl 3 rfl) ?_
  refine lv_iload_n hx hb dL_law_984 rfl (lv_at hl 0 rfl) ?_
  refine lv_iconst (v := 1) hx hb dL_law_985 (by decide) ?_
  refine lv_iadd hx hb dL_law_986 ?_
  refine lv_topi (fun v1 ev1 => ?_)
  have hv1 := i_add (Eq.refl i.toInt) (show (1 : Int32).toInt = 1 by decide) ev1 (by omega) (by omega)
  refine va_sld hx hb hX hbl hbA hS (vp_in_iff.mpr ⟨by omega, by omega⟩) dL_law_987 ?_
  refine lv_topi (fun v2 ev2 => ?_)
  obtain rfl : v2 = (xs (i.toInt.toNat + 1)) := by rw [ev2, show v1.toNatClampNeg = i.toInt.toNat + 1 by have c9 := clampI (x := v1) (by omega); omega]
  refine lv_aload_n hx hb dL_law_988 rfl (lv_at hl 3 rfl) ?_
  refine lv_iload_n hx hb dL_law_989 rfl (lv_at hl 0 rfl) ?_
  refine lv_iconst (v := 2) hx hb dL_law_990 (by decide) ?_
  refine lv_iadd hx hb dL_law_991 ?_
  refine lv_topi (fun v3 ev3 => ?_)
  have hv3 := i_add (Eq.refl i.toInt) (show (2 : Int32).toInt = 2 by decide) ev3 (by omega) (by omega)
  refine va_sld hx hb hX hbl hbA hS (vp_in_iff.mpr ⟨by omega, by omega⟩) dL_law_992 ?_
  refine lv_topi (fun v4 ev4 => ?_)
  obtain rfl : v4 = (xs (i.toInt.toNat + 2)) := by rw [ev4, show v3.toNatClampNeg = i.toInt.toNat + 2 by have c9 := clampI (x := v3) (by omega); omega]
  refine lv_aload_n hx hb dL_law_993 rfl (lv_at hl 3 rfl) ?_
  refine lv_iload_n hx hb dL_law_994 rfl (lv_at hl 0 rfl) ?_
  refine lv_iconst (v := 3) hx hb dL_law_995 (by decide) ?_
  refine lv_iadd hx hb dL_law_996 ?_
  refine lv_topi (fun v5 ev5 => ?_)
  have hv5 := i_add (Eq.refl i.toInt) (show (3 : Int32).toInt = 3 by decide) ev5 (by omega) (by omega)
  refine va_sld hx hb hX hbl hbA hS (vp_in_iff.mpr ⟨by omega, by omega⟩) dL_law_997 ?_
  refine lv_topi (fun v6 ev6 => ?_)
  obtain rfl : v6 = (xs (i.toInt.toNat + 3)) := by rw [ev6, show v5.toNatClampNeg = i.toInt.toNat + 3 by have c9 := clampI (x := v5) (by omega); omega]
  refine lv_aload_n hx hb dL_law_998 rfl (lv_at hl 3 rfl) ?_
  refine lv_iload_n hx hb dL_law_999 rfl (lv_at hl 0 rfl) ?_
  refine lv_iconst (v := 4) hx hb dL_law_1000 (by decide) ?_
  refine lv_iadd hx hb dL_law_1001 ?_
  refine lv_topi (fun v7 ev7 => ?_)
  have hv7 := i_add (Eq.refl i.toInt) (show (4 : Int32).toInt = 4 by decide) ev7 (by omega) (by omega)
  refine va_sld hx hb hX hbl hbA hS (vp_in_iff.mpr ⟨by omega, by omega⟩) dL_law_1002 ?_
  refine lv_topi (fun v8 ev8 => ?_)
  obtain rfl : v8 = (xs (i.toInt.toNat + 4)) := by rw [ev8, show v7.toNatClampNeg = i.toInt.toNat + 4 by have c9 := clampI (x := v7) (by omega); omega]
  refine lv_aload_n hx hb dL_law_1003 rfl (lv_at hl 3 rfl) ?_
  refine lv_iload_n hx hb dL_law_1004 rfl (lv_at hl 0 rfl) ?_
  refine lv_iconst (v := 5) hx hb dL_law_1005 (by decide) ?_
  refine lv_iadd hx hb dL_law_1006 ?_
  refine lv_topi (fun v9 ev9 => ?_)
  have hv9 := i_add (Eq.refl i.toInt) (show (5 : Int32).toInt = 5 by decide) ev9 (by omega) (by omega)
  refine va_sld hx hb hX hbl hbA hS (vp_in_iff.mpr ⟨by omega, by omega⟩) dL_law_1007 ?_
  refine lv_topi (fun v10 ev10 => ?_)
  obtain rfl : v10 = (xs (i.toInt.toNat + 5)) := by rw [ev10, show v9.toNatClampNeg = i.toInt.toNat + 5 by have c9 := clampI (x := v9) (by omega); omega]
  refine ok1 hT htx (fun p52 a11 a12 a13 a14 a15 x16 x17 x18 a19 a20 a21 a22 a23 a24 a25 a26 a27 x28 a29 a30 hk53 h31 h32 h33 h34 h35 h36 h37 h38 h39 h40 h41 h42 h43 h44 h45 h46 h47 h48 h49 h50 h51 => ?_)
  refine cgR (rn_V (As := [.int (xs (i.toInt.toNat + 1)), .int (xs (i.toInt.toNat + 2)), .int (xs (i.toInt.toNat + 3)), .int (xs (i.toInt.toNat + 4)), .int (xs (i.toInt.toNat + 5))]) (rest := []) (b := x) (x_X10_line l D Y Z H.size ws T g q x (xs (i.toInt.toNat + 1)) (xs (i.toInt.toNat + 2)) (xs (i.toInt.toNat + 3)) (xs (i.toInt.toNat + 4)) (xs (i.toInt.toNat + 5)) hT htx) ⟨hx, hb, hml, hown, hg⟩ lk_L_94 ⟨CPC.blind, va_recv hKN.1 (P_r hP) (ci := 10) (q0 := p52) rfl hk53, CPC.at (P_r hP) hKN (D_r hD) hSZ hS hA⟩ ⟨⟨rfl, rfl⟩, ⟨Nat.le_of_ble_eq_true rfl, Nat.le_of_ble_eq_true rfl⟩, ⟨(show _ ≤ (600000 : Nat) by omega), (show _ ≤ (7302250 : Nat) by omega)⟩⟩ hl.1 rfl (Nat.le_of_ble_eq_true rfl) dL_law_1008) hP hD hS hA (fun u54 H locs hw55 hP hD hS => ?_)
  refine W.widen (k := (bd + 1092)) (n := (sd + 7644)) (by omega) (by omega) ?_
  obtain ⟨u56, w57, T58⟩ := u54
  obtain ⟨le59, hT, ke60⟩ : TLe T T58 ∧ TW Y Z T58 g q w57 ∧ KF 1 T ws w57 := hw55
  have hk61 := ke60 _ _ hk53 (show (T x).1 = 1 by rw [htx])
  refine W.eq (g2 := F0 m 1011 ls [.int u56]) rfl ?_
  refine lv_pop hx hb dL_law_1011 rfl ?_
  refine lv_aload_n hx hb dL_law_1012 rfl (lv_at hl 1 rfl) ?_
  refine lv_aload_n hx hb dL_law_1013 rfl (lv_at hl 3 rfl) ?_
  refine lv_iload_n hx hb dL_law_1014 rfl (lv_at hl 0 rfl) ?_
  refine lv_iconst (v := 1) hx hb dL_law_1015 (by decide) ?_
  refine lv_iadd hx hb dL_law_1016 ?_
  refine lv_topi (fun v62 ev62 => ?_)
  have hv62 := i_add (Eq.refl i.toInt) (show (1 : Int32).toInt = 1 by decide) ev62 (by omega) (by omega)
  refine va_sld hx hb hX hbl hbA hS (vp_in_iff.mpr ⟨by omega, by omega⟩) dL_law_1017 ?_
  refine lv_topi (fun v63 ev63 => ?_)
  obtain rfl : v63 = (xs (i.toInt.toNat + 1)) := by rw [ev63, show v62.toNatClampNeg = i.toInt.toNat + 1 by have c9 := clampI (x := v62) (by omega); omega]
  refine lv_aload_n hx hb dL_law_1018 rfl (lv_at hl 3 rfl) ?_
  refine lv_iload_n hx hb dL_law_1019 rfl (lv_at hl 0 rfl) ?_
  refine lv_iconst (v := 2) hx hb dL_law_1020 (by decide) ?_
  refine lv_iadd hx hb dL_law_1021 ?_
  refine lv_topi (fun v64 ev64 => ?_)
  have hv64 := i_add (Eq.refl i.toInt) (show (2 : Int32).toInt = 2 by decide) ev64 (by omega) (by omega)
  refine va_sld hx hb hX hbl hbA hS (vp_in_iff.mpr ⟨by omega, by omega⟩) dL_law_1022 ?_
  refine lv_topi (fun v65 ev65 => ?_)
  obtain rfl : v65 = (xs (i.toInt.toNat + 2)) := by rw [ev65, show v64.toNatClampNeg = i.toInt.toNat + 2 by have c9 := clampI (x := v64) (by omega); omega]
  refine lv_aload_n hx hb dL_law_1023 rfl (lv_at hl 3 rfl) ?_
  refine lv_iload_n hx hb dL_law_1024 rfl (lv_at hl 0 rfl) ?_
  refine lv_iconst (v := 3) hx hb dL_law_1025 (by decide) ?_
  refine lv_iadd hx hb dL_law_1026 ?_
  refine lv_topi (fun v66 ev66 => ?_)
  have hv66 := i_add (Eq.refl i.toInt) (show (3 : Int32).toInt = 3 by decide) ev66 (by omega) (by omega)
  refine va_sld hx hb hX hbl hbA hS (vp_in_iff.mpr ⟨by omega, by omega⟩) dL_law_1027 ?_
  refine lv_topi (fun v67 ev67 => ?_)
  obtain rfl : v67 = (xs (i.toInt.toNat + 3)) := by rw [ev67, show v66.toNatClampNeg = i.toInt.toNat + 3 by have c9 := clampI (x := v66) (by omega); omega]
  refine lv_aload_n hx hb dL_law_1028 rfl (lv_at hl 3 rfl) ?_
  refine lv_iload_n hx hb dL_law_1029 rfl (lv_at hl 0 rfl) ?_
  refine lv_iconst (v := 4) hx hb dL_law_1030 (by decide) ?_
  refine lv_iadd hx hb dL_law_1031 ?_
  refine lv_topi (fun v68 ev68 => ?_)
  have hv68 := i_add (Eq.refl i.toInt) (show (4 : Int32).toInt = 4 by decide) ev68 (by omega) (by omega)
  refine va_sld hx hb hX hbl hbA hS (vp_in_iff.mpr ⟨by omega, by omega⟩) dL_law_1032 ?_
  refine lv_topi (fun v69 ev69 => ?_)
  obtain rfl : v69 = (xs (i.toInt.toNat + 4)) := by rw [ev69, show v68.toNatClampNeg = i.toInt.toNat + 4 by have c9 := clampI (x := v68) (by omega); omega]
  refine lv_aload_n hx hb dL_law_1033 rfl (lv_at hl 3 rfl) ?_
  refine lv_iload_n hx hb dL_law_1034 rfl (lv_at hl 0 rfl) ?_
  refine lv_iconst (v := 5) hx hb dL_law_1035 (by decide) ?_
  refine lv_iadd hx hb dL_law_1036 ?_
  refine lv_topi (fun v70 ev70 => ?_)
  have hv70 := i_add (Eq.refl i.toInt) (show (5 : Int32).toInt = 5 by decide) ev70 (by omega) (by omega)
  refine va_sld hx hb hX hbl hbA hS (vp_in_iff.mpr ⟨by omega, by omega⟩) dL_law_1037 ?_
  refine lv_topi (fun v71 ev71 => ?_)
  obtain rfl : v71 = (xs (i.toInt.toNat + 5)) := by rw [ev71, show v70.toNatClampNeg = i.toInt.toNat + 5 by have c9 := clampI (x := v70) (by omega); omega]
  refine cgL (X := (MW Y om a I J F G)) (ws := w57) (rn_V (As := [.int (xs (i.toInt.toNat + 1)), .int (xs (i.toInt.toNat + 2)), .int (xs (i.toInt.toNat + 3)), .int (xs (i.toInt.toNat + 4)), .int (xs (i.toInt.toNat + 5))]) (rest := []) (b := om) (m_line l D Y Z H.size om a I J F G (xs (i.toInt.toNat + 1)) (xs (i.toInt.toNat + 2)) (xs (i.toInt.toNat + 3)) (xs (i.toInt.toNat + 4)) (xs (i.toInt.toNat + 5)) hm0 hm1 hm2) ⟨hx, hb, hml, hown, hg⟩ lk_L_97 ⟨CP.blind, va_recv hKN.1 (P_l hP) (ci := 11) (q0 := 0) rfl rfl, CP.at (P_l hP) hKN (D_l hD)⟩ ⟨⟨rfl, rfl⟩, ⟨Nat.le_of_ble_eq_true rfl, Nat.le_of_ble_eq_true rfl⟩, ⟨(show _ ≤ (600000 : Nat) by omega), (show _ ≤ (7302250 : Nat) by omega)⟩⟩ hl.1 rfl (Nat.le_of_ble_eq_true rfl) dL_law_1038) hP hD hS hA (fun u72 H locs hw73 hP hD hS => ?_)
  refine W.widen (k := (bd + 1092)) (n := (sd + 7644)) (by omega) (by omega) ?_
  obtain ⟨u74, u75, u76, u77, u78, u79, u80, u81, u82, u83, f84, f85, f86, f87, f88, f89, f90, f91⟩ := u72
  have hw92 : LB f85 := hw73
  refine W.eq (g2 := F0 m 1041 ls [.int u74]) rfl ?_
  have hP : va_P D vwCl ((MW Y om a (upd (upd (upd (upd (upd I 29 u81) 34 u75) 35 u76) 36 u77) 39 u78) (vp_updL (vp_updL (vp_updL (vp_updL J 30 u82) 31 u83) 37 u79) 38 u80) (vf_upd (vf_upd (vf_upd (vf_upd F 1 f84) 28 f85) 41 f87) 43 f89) (vf_upd (vf_upd (vf_upd (vf_upd G 40 f86) 42 f88) 44 f90) 45 f91)) ++ w57) H := hP
  have hD : va_D A ((MW Y om a (upd (upd (upd (upd (upd I 29 u81) 34 u75) 35 u76) 36 u77) 39 u78) (vp_updL (vp_updL (vp_updL (vp_updL J 30 u82) 31 u83) 37 u79) 38 u80) (vf_upd (vf_upd (vf_upd (vf_upd F 1 f84) 28 f85) 41 f87) 43 f89) (vf_upd (vf_upd (vf_upd (vf_upd G 40 f86) 42 f88) 44 f90) 45 f91)) ++ w57) := hD
  have hR93 : LN T58 g q x (vf_upd (vf_upd (vf_upd (vf_upd F 1 f84) 28 f85) 41 f87) 43 f89) := LN.keep hLR.1 htx le59 KS.rf rfl rfl
  have hD94 : LD T58 g q x (vf_upd (vf_upd (vf_upd (vf_upd F 1 f84) 28 f85) 41 f87) 43 f89) := LD.keep hLR.2 htx le59 KD.rf rfl
  have hR93 : LC T58 g q x (vf_upd (vf_upd (vf_upd (vf_upd F 1 f84) 28 f85) 41 f87) 43 f89) := ⟨hR93, hD94⟩
  refine lv_pop hx hb dL_law_1041 rfl ?_
  refine lv_goto (tgt := 1878) hx hb dL_law_1042 (by decide) ?_
  exact hK (upd (upd (upd (upd (upd I 29 u81) 34 u75) 35 u76) 36 u77) 39 u78) (vp_updL (vp_updL (vp_updL (vp_updL J 30 u82) 31 u83) 37 u79) 38 u80) (vf_upd (vf_upd (vf_upd (vf_upd F 1 f84) 28 f85) 41 f87) 43 f89) (vf_upd (vf_upd (vf_upd (vf_upd G 40 f86) 42 f88) 44 f90) 45 f91) w57 T58 g q _ _ H locs ls (by omega) (by omega) ⟨hP, hD, hS, lv_sub hl [0, 1, 2, 3] rfl, hT, (le59.up htx), hR93, hm0, hw92, hm2, hm3, hm4, hm5, (show 0 ≤ (I 3).toInt ∧ (I 3).toInt ≤ 400 by omega)⟩
set_option maxHeartbeats 4000000 in
set_option maxRecDepth 100000 in
theorem lc_19 {p : Program} {l : Launch} {e : Env} {s : State} {m : MethodId} {below : List Frame} {meth : Method} {c : Code} {sb L : Nat} {xs : Nat → Int32} (C0 : lw_At p s m meth c sb L xs) {D : va_G} {Y : Nat → ClassId} {Z : Nat → Nat} (hKN : KN D Y Z s) {A : Nat → Prop} (hSZ : SZ Z A s s.heap) (hA : ∀ q, s.heap.size ≤ q → A q) (hA2 : ∀ q, A q → s.heap.size ≤ q) {x om : Nat} {a : Nat → Nat} {H : Heap} {locs : List Loc} {ls : Array Slot} {I : Nat → Int32} {J : Nat → Int64} {F : Nat → Nat → Int32} {G : Nat → Nat → Int64} {ws : va_W} {T : RT} {g : GN} {q : GQ} {i : Int32} {bd sd : Nat} (hL : L ≤ 3584) (hi : 0 ≤ i.toInt ∧ i.toInt + 7 ≤ (L : Int)) (hbd : bd + 1092 ≤ 600000) (hsd : sd + 7753 ≤ 7302250) (hI : LI D Y Z A s sb x om a H locs ls I J F G ws T g q i) (hK : ∀ (I : Nat → Int32) (J : Nat → Int64) (F : Nat → Nat → Int32) (G : Nat → Nat → Int64) (ws : va_W) (T : RT) (g : GN) (q : GQ) (bd2 sd2 : Nat) (H : Heap) (locs : List Loc) (ls : Array Slot), bd2 ≤ bd + 1092 → sd2 ≤ sd + 7753 → LI D Y Z A s sb x om a H locs ls I J F G ws T g q i → W p l e room_1 s m #[Value.ref sb] below meth c H locs bd2 sd2 (lw_Z below #[Value.ref sb] s) (F0 m 1878 ls [])) : W p l e room_1 s m #[Value.ref sb] below meth c H locs bd sd (lw_Z below #[Value.ref sb] s) (F0 m 1045 ls []) := by
  obtain ⟨hx, hb, hr, hml, hown, hts, hX, hbl, hlocks, hgv⟩ := id C0
  have hb : c.code = cL_law := hb
  have hown : s.vm.findClass RL = some m.cls := hown
  have hg : ∀ w ∈ GW, w.before #[Value.ref sb] s = true := fun w h => hts w (gw_tbl h)
  have hbA : ¬ A sb := fun h => absurd (hA2 sb h) (Nat.not_le.mpr hbl)
  obtain ⟨hP, hD, hS, hl, hT, htx, hLR, hm0, hm1, hm2, hm3, hm4, hm5, hm6⟩ := hI
  refine lv_aload_n hx hb dL_law_1045 rfl (lv_at hl 2 rfl) ?_
  refine lv_aload_n hx hb dL_law_1046 rfl (lv_at hl 3 rfl) ?_
  refine lv_iload_n hx hb dL_law_1047 rfl (lv_at hl 0 rfl) ?_
  refine lv_iconst (v := 1) hx hb dL_law_1048 (by decide) ?_
  refine lv_iadd hx hb dL_law_1049 ?_
  refine lv_topi (fun v1 ev1 => ?_)
  have hv1 := i_add (Eq.refl i.toInt) (show (1 : Int32).toInt = 1 by decide) ev1 (by omega) (by omega)
  refine va_sld hx hb hX hbl hbA hS (vp_in_iff.mpr ⟨by omega, by omega⟩) dL_law_1050 ?_
  refine lv_topi (fun v2 ev2 => ?_)
  obtain rfl : v2 = (xs (i.toInt.toNat + 1)) := by rw [ev2, show v1.toNatClampNeg = i.toInt.toNat + 1 by have c9 := clampI (x := v1) (by omega); omega]
  refine lv_aload_n hx hb dL_law_1051 rfl (lv_at hl 3 rfl) ?_
  refine lv_iload_n hx hb dL_law_1052 rfl (lv_at hl 0 rfl) ?_
  refine lv_iconst (v := 2) hx hb dL_law_1053 (by decide) ?_
  refine lv_iadd hx hb dL_law_1054 ?_
  refine lv_topi (fun v3 ev3 => ?_)
  have hv3 := i_add (Eq.refl i.toInt) (show (2 : Int32).toInt = 2 by decide) ev3 (by omega) (by omega)
  refine va_sld hx hb hX hbl hbA hS (vp_in_iff.mpr ⟨by omega, by omega⟩) dL_law_1055 ?_
  refine lv_topi (fun v4 ev4 => ?_)
  obtain rfl : v4 = (xs (i.toInt.toNat + 2)) := by rw [ev4, show v3.toNatClampNeg = i.toInt.toNat + 2 by have c9 := clampI (x := v3) (by omega); omega]
  refine lv_aload_n hx hb dL_law_1056 rfl (lv_at hl 3 rfl) ?_
  refine lv_iload_n hx hb dL_law_1057 rfl (lv_at hl 0 rfl) ?_
  refine lv_iconst (v := 3) hx hb dL_law_1058 (by decide) ?_
  refine lv_iadd hx hb dL_law_1059 ?_
  refine lv_topi (fun v5 ev5 => ?_)
  have hv5 := i_add (Eq.refl i.toInt) (show (3 : Int32).toInt = 3 by decide) ev5 (by omega) (by omega)
  refine va_sld hx hb hX hbl hbA hS (vp_in_iff.mpr ⟨by omega, by omega⟩) dL_law_1060 ?_
  refine lv_topi (fun v6 ev6 => ?_)
  obtain rfl : v6 = (xs (i.toInt.toNat + 3)) := by rw [ev6, show v5.toNatClampNeg = i.toInt.toNat + 3 by have c9 := clampI (x := v5) (by omega); omega]
  refine ok1 hT htx (fun p48 a7 a8 a9 a10 a11 x12 x13 x14 a15 a16 a17 a18 a19 a20 a21 a22 a23 x24 a25 a26 hk49 h27 h28 h29 h30 h31 h32 h33 h34 h35 h36 h37 h38 h39 h40 h41 h42 h43 h44 h45 h46 h47 => ?_)
  refine cgR (rn_V (As := [.int (xs (i.toInt.toNat + 1)), .int (xs (i.toInt.toNat + 2)), .int (xs (i.toInt.toNat + 3))]) (rest := []) (b := x) (x_X10_sign l D Y Z H.size ws T g q x (xs (i.toInt.toNat + 1)) (xs (i.toInt.toNat + 2)) (xs (i.toInt.toNat + 3)) hT htx) ⟨hx, hb, hml, hown, hg⟩ lk_L_98 ⟨CPC.blind, va_recv hKN.1 (P_r hP) (ci := 10) (q0 := p48) rfl hk49, CPC.at (P_r hP) hKN (D_r hD) hSZ hS hA⟩ ⟨⟨rfl, rfl⟩, ⟨Nat.le_of_ble_eq_true rfl, Nat.le_of_ble_eq_true rfl⟩, ⟨(show _ ≤ (600000 : Nat) by omega), (show _ ≤ (7302250 : Nat) by omega)⟩⟩ hl.1 rfl (Nat.le_of_ble_eq_true rfl) dL_law_1061) hP hD hS hA (fun u50 H locs hw51 hP hD hS => ?_)
  refine W.widen (k := (bd + 13)) (n := (sd + 91)) (by omega) (by omega) ?_
  obtain ⟨u52, w53, T54⟩ := u50
  obtain ⟨le55, hT, ke56⟩ : TLe T T54 ∧ TW Y Z T54 g q w53 ∧ KF 1 T ws w53 := hw51
  have hk57 := ke56 _ _ hk49 (show (T x).1 = 1 by rw [htx])
  refine W.eq (g2 := F0 m 1064 ls [.int u52]) rfl ?_
  refine lv_pop hx hb dL_law_1064 rfl ?_
  refine lv_aload_n hx hb dL_law_1065 rfl (lv_at hl 1 rfl) ?_
  refine lv_aload_n hx hb dL_law_1066 rfl (lv_at hl 3 rfl) ?_
  refine lv_iload_n hx hb dL_law_1067 rfl (lv_at hl 0 rfl) ?_
  refine lv_iconst (v := 1) hx hb dL_law_1068 (by decide) ?_
  refine lv_iadd hx hb dL_law_1069 ?_
  refine lv_topi (fun v58 ev58 => ?_)
  have hv58 := i_add (Eq.refl i.toInt) (show (1 : Int32).toInt = 1 by decide) ev58 (by omega) (by omega)
  refine va_sld hx hb hX hbl hbA hS (vp_in_iff.mpr ⟨by omega, by omega⟩) dL_law_1070 ?_
  refine lv_topi (fun v59 ev59 => ?_)
  obtain rfl : v59 = (xs (i.toInt.toNat + 1)) := by rw [ev59, show v58.toNatClampNeg = i.toInt.toNat + 1 by have c9 := clampI (x := v58) (by omega); omega]
  refine lv_aload_n hx hb dL_law_1071 rfl (lv_at hl 3 rfl) ?_
  refine lv_iload_n hx hb dL_law_1072 rfl (lv_at hl 0 rfl) ?_
  refine lv_iconst (v := 2) hx hb dL_law_1073 (by decide) ?_
  refine lv_iadd hx hb dL_law_1074 ?_
  refine lv_topi (fun v60 ev60 => ?_)
  have hv60 := i_add (Eq.refl i.toInt) (show (2 : Int32).toInt = 2 by decide) ev60 (by omega) (by omega)
  refine va_sld hx hb hX hbl hbA hS (vp_in_iff.mpr ⟨by omega, by omega⟩) dL_law_1075 ?_
  refine lv_topi (fun v61 ev61 => ?_)
  obtain rfl : v61 = (xs (i.toInt.toNat + 2)) := by rw [ev61, show v60.toNatClampNeg = i.toInt.toNat + 2 by have c9 := clampI (x := v60) (by omega); omega]
  refine lv_aload_n hx hb dL_law_1076 rfl (lv_at hl 3 rfl) ?_
  refine lv_iload_n hx hb dL_law_1077 rfl (lv_at hl 0 rfl) ?_
  refine lv_iconst (v := 3) hx hb dL_law_1078 (by decide) ?_
  refine lv_iadd hx hb dL_law_1079 ?_
  refine lv_topi (fun v62 ev62 => ?_)
  have hv62 := i_add (Eq.refl i.toInt) (show (3 : Int32).toInt = 3 by decide) ev62 (by omega) (by omega)
  refine va_sld hx hb hX hbl hbA hS (vp_in_iff.mpr ⟨by omega, by omega⟩) dL_law_1080 ?_
  refine lv_topi (fun v63 ev63 => ?_)
  obtain rfl : v63 = (xs (i.toInt.toNat + 3)) := by rw [ev63, show v62.toNatClampNeg = i.toInt.toNat + 3 by have c9 := clampI (x := v62) (by omega); omega]
  refine cgL (X := (MW Y om a I J F G)) (ws := w53) (rn_V (As := [.int (xs (i.toInt.toNat + 1)), .int (xs (i.toInt.toNat + 2)), .int (xs (i.toInt.toNat + 3))]) (rest := []) (b := om) (m_sign l D Y Z H.size om a I J F G (xs (i.toInt.toNat + 1)) (xs (i.toInt.toNat + 2)) (xs (i.toInt.toNat + 3)) hm0 hm1 hm2) ⟨hx, hb, hml, hown, hg⟩ lk_L_101 ⟨CP.blind, va_recv hKN.1 (P_l hP) (ci := 11) (q0 := 0) rfl rfl, CP.at (P_l hP) hKN (D_l hD)⟩ ⟨⟨rfl, rfl⟩, ⟨Nat.le_of_ble_eq_true rfl, Nat.le_of_ble_eq_true rfl⟩, ⟨(show _ ≤ (600000 : Nat) by omega), (show _ ≤ (7302250 : Nat) by omega)⟩⟩ hl.1 rfl (Nat.le_of_ble_eq_true rfl) dL_law_1081) hP hD hS hA (fun u64 H locs hw65 hP hD hS => ?_)
  refine W.widen (k := (bd + 13)) (n := (sd + 91)) (by omega) (by omega) ?_
  obtain ⟨u66, u67, u68, u69, u70, u71, u72, u73, u74, u75, u76, u77, f78, f79, f80, f81, f82, f83⟩ := u64
  have hw84 : LB f79 := hw65
  refine W.eq (g2 := F0 m 1084 ls [.int u66]) rfl ?_
  have hP : va_P D vwCl ((MW Y om a (upd (upd (upd (upd (upd (upd I 29 u73) 32 u76) 34 u67) 35 u68) 36 u69) 39 u70) (vp_updL (vp_updL (vp_updL (vp_updL (vp_updL J 30 u74) 31 u75) 33 u77) 37 u71) 38 u72) (vf_upd (vf_upd (vf_upd (vf_upd F 1 f78) 28 f79) 41 f81) 43 f83) (vf_upd (vf_upd G 40 f80) 42 f82)) ++ w53) H := hP
  have hD : va_D A ((MW Y om a (upd (upd (upd (upd (upd (upd I 29 u73) 32 u76) 34 u67) 35 u68) 36 u69) 39 u70) (vp_updL (vp_updL (vp_updL (vp_updL (vp_updL J 30 u74) 31 u75) 33 u77) 37 u71) 38 u72) (vf_upd (vf_upd (vf_upd (vf_upd F 1 f78) 28 f79) 41 f81) 43 f83) (vf_upd (vf_upd G 40 f80) 42 f82)) ++ w53) := hD
  have hR85 : LN T54 g q x (vf_upd (vf_upd (vf_upd (vf_upd F 1 f78) 28 f79) 41 f81) 43 f83) := LN.keep hLR.1 htx le55 KS.rf rfl rfl
  have hD86 : LD T54 g q x (vf_upd (vf_upd (vf_upd (vf_upd F 1 f78) 28 f79) 41 f81) 43 f83) := LD.keep hLR.2 htx le55 KD.rf rfl
  have hR85 : LC T54 g q x (vf_upd (vf_upd (vf_upd (vf_upd F 1 f78) 28 f79) 41 f81) 43 f83) := ⟨hR85, hD86⟩
  refine lv_pop hx hb dL_law_1084 rfl ?_
  refine lv_goto (tgt := 1878) hx hb dL_law_1085 (by decide) ?_
  exact hK (upd (upd (upd (upd (upd (upd I 29 u73) 32 u76) 34 u67) 35 u68) 36 u69) 39 u70) (vp_updL (vp_updL (vp_updL (vp_updL (vp_updL J 30 u74) 31 u75) 33 u77) 37 u71) 38 u72) (vf_upd (vf_upd (vf_upd (vf_upd F 1 f78) 28 f79) 41 f81) 43 f83) (vf_upd (vf_upd G 40 f80) 42 f82) w53 T54 g q _ _ H locs ls (by omega) (by omega) ⟨hP, hD, hS, lv_sub hl [0, 1, 2, 3] rfl, hT, (le55.up htx), hR85, hm0, hw84, hm2, hm3, hm4, hm5, (show 0 ≤ (I 3).toInt ∧ (I 3).toInt ≤ 400 by omega)⟩
set_option maxHeartbeats 4000000 in
set_option maxRecDepth 100000 in
theorem lc_20 {p : Program} {l : Launch} {e : Env} {s : State} {m : MethodId} {below : List Frame} {meth : Method} {c : Code} {sb L : Nat} {xs : Nat → Int32} (C0 : lw_At p s m meth c sb L xs) {D : va_G} {Y : Nat → ClassId} {Z : Nat → Nat} (hKN : KN D Y Z s) {A : Nat → Prop} (hSZ : SZ Z A s s.heap) (hA : ∀ q, s.heap.size ≤ q → A q) (hA2 : ∀ q, A q → s.heap.size ≤ q) {x om : Nat} {a : Nat → Nat} {H : Heap} {locs : List Loc} {ls : Array Slot} {I : Nat → Int32} {J : Nat → Int64} {F : Nat → Nat → Int32} {G : Nat → Nat → Int64} {ws : va_W} {T : RT} {g : GN} {q : GQ} {i : Int32} {bd sd : Nat} (hL : L ≤ 3584) (hi : 0 ≤ i.toInt ∧ i.toInt + 7 ≤ (L : Int)) (hbd : bd + 1092 ≤ 600000) (hsd : sd + 7753 ≤ 7302250) (hI : LI D Y Z A s sb x om a H locs ls I J F G ws T g q i) (hK : ∀ (I : Nat → Int32) (J : Nat → Int64) (F : Nat → Nat → Int32) (G : Nat → Nat → Int64) (ws : va_W) (T : RT) (g : GN) (q : GQ) (bd2 sd2 : Nat) (H : Heap) (locs : List Loc) (ls : Array Slot), bd2 ≤ bd + 1092 → sd2 ≤ sd + 7753 → LI D Y Z A s sb x om a H locs ls I J F G ws T g q i → W p l e room_1 s m #[Value.ref sb] below meth c H locs bd2 sd2 (lw_Z below #[Value.ref sb] s) (F0 m 1878 ls [])) : W p l e room_1 s m #[Value.ref sb] below meth c H locs bd sd (lw_Z below #[Value.ref sb] s) (F0 m 1088 ls []) := by
  obtain ⟨hx, hb, hr, hml, hown, hts, hX, hbl, hlocks, hgv⟩ := id C0
  have hb : c.code = cL_law := hb
  have hown : s.vm.findClass RL = some m.cls := hown
  have hg : ∀ w ∈ GW, w.before #[Value.ref sb] s = true := fun w h => hts w (gw_tbl h)
  have hbA : ¬ A sb := fun h => absurd (hA2 sb h) (Nat.not_le.mpr hbl)
  obtain ⟨hP, hD, hS, hl, hT, htx, hLR, hm0, hm1, hm2, hm3, hm4, hm5, hm6⟩ := hI
  refine lv_aload_n hx hb dL_law_1088 rfl (lv_at hl 2 rfl) ?_
  refine lv_aload_n hx hb dL_law_1089 rfl (lv_at hl 3 rfl) ?_
  refine lv_iload_n hx hb dL_law_1090 rfl (lv_at hl 0 rfl) ?_
  refine lv_iconst (v := 1) hx hb dL_law_1091 (by decide) ?_
  refine lv_iadd hx hb dL_law_1092 ?_
  refine lv_topi (fun v1 ev1 => ?_)
  have hv1 := i_add (Eq.refl i.toInt) (show (1 : Int32).toInt = 1 by decide) ev1 (by omega) (by omega)
  refine va_sld hx hb hX hbl hbA hS (vp_in_iff.mpr ⟨by omega, by omega⟩) dL_law_1093 ?_
  refine lv_topi (fun v2 ev2 => ?_)
  obtain rfl : v2 = (xs (i.toInt.toNat + 1)) := by rw [ev2, show v1.toNatClampNeg = i.toInt.toNat + 1 by have c9 := clampI (x := v1) (by omega); omega]
  refine lv_aload_n hx hb dL_law_1094 rfl (lv_at hl 3 rfl) ?_
  refine lv_iload_n hx hb dL_law_1095 rfl (lv_at hl 0 rfl) ?_
  refine lv_iconst (v := 2) hx hb dL_law_1096 (by decide) ?_
  refine lv_iadd hx hb dL_law_1097 ?_
  refine lv_topi (fun v3 ev3 => ?_)
  have hv3 := i_add (Eq.refl i.toInt) (show (2 : Int32).toInt = 2 by decide) ev3 (by omega) (by omega)
  refine va_sld hx hb hX hbl hbA hS (vp_in_iff.mpr ⟨by omega, by omega⟩) dL_law_1098 ?_
  refine lv_topi (fun v4 ev4 => ?_)
  obtain rfl : v4 = (xs (i.toInt.toNat + 2)) := by rw [ev4, show v3.toNatClampNeg = i.toInt.toNat + 2 by have c9 := clampI (x := v3) (by omega); omega]
  refine lv_aload_n hx hb dL_law_1099 rfl (lv_at hl 3 rfl) ?_
  refine lv_iload_n hx hb dL_law_1100 rfl (lv_at hl 0 rfl) ?_
  refine lv_iconst (v := 3) hx hb dL_law_1101 (by decide) ?_
  refine lv_iadd hx hb dL_law_1102 ?_
  refine lv_topi (fun v5 ev5 => ?_)
  have hv5 := i_add (Eq.refl i.toInt) (show (3 : Int32).toInt = 3 by decide) ev5 (by omega) (by omega)
  refine va_sld hx hb hX hbl hbA hS (vp_in_iff.mpr ⟨by omega, by omega⟩) dL_law_1103 ?_
  refine lv_topi (fun v6 ev6 => ?_)
  obtain rfl : v6 = (xs (i.toInt.toNat + 3)) := by rw [ev6, show v5.toNatClampNeg = i.toInt.toNat + 3 by have c9 := clampI (x := v5) (by omega); omega]
  refine ok1 hT htx (fun p48 a7 a8 a9 a10 a11 x12 x13 x14 a15 a16 a17 a18 a19 a20 a21 a22 a23 x24 a25 a26 hk49 h27 h28 h29 h30 h31 h32 h33 h34 h35 h36 h37 h38 h39 h40 h41 h42 h43 h44 h45 h46 h47 => ?_)
  refine cgR (rn_V (As := [.int (xs (i.toInt.toNat + 1)), .int (xs (i.toInt.toNat + 2)), .int (xs (i.toInt.toNat + 3))]) (rest := []) (b := x) (x_X10_shift l D Y Z H.size ws T g q x (xs (i.toInt.toNat + 1)) (xs (i.toInt.toNat + 2)) (xs (i.toInt.toNat + 3)) hT htx) ⟨hx, hb, hml, hown, hg⟩ lk_L_102 ⟨CPC.blind, va_recv hKN.1 (P_r hP) (ci := 10) (q0 := p48) rfl hk49, CPC.at (P_r hP) hKN (D_r hD) hSZ hS hA⟩ ⟨⟨rfl, rfl⟩, ⟨Nat.le_of_ble_eq_true rfl, Nat.le_of_ble_eq_true rfl⟩, ⟨(show _ ≤ (600000 : Nat) by omega), (show _ ≤ (7302250 : Nat) by omega)⟩⟩ hl.1 rfl (Nat.le_of_ble_eq_true rfl) dL_law_1104) hP hD hS hA (fun u50 H locs hw51 hP hD hS => ?_)
  refine W.widen (k := (bd + 1)) (n := (sd + 7)) (by omega) (by omega) ?_
  obtain ⟨u52, w53, T54⟩ := u50
  obtain ⟨le55, hT, ke56⟩ : TLe T T54 ∧ TW Y Z T54 g q w53 ∧ KF 1 T ws w53 := hw51
  have hk57 := ke56 _ _ hk49 (show (T x).1 = 1 by rw [htx])
  refine W.eq (g2 := F0 m 1107 ls [.int u52]) rfl ?_
  refine lv_pop hx hb dL_law_1107 rfl ?_
  refine lv_aload_n hx hb dL_law_1108 rfl (lv_at hl 1 rfl) ?_
  refine lv_aload_n hx hb dL_law_1109 rfl (lv_at hl 3 rfl) ?_
  refine lv_iload_n hx hb dL_law_1110 rfl (lv_at hl 0 rfl) ?_
  refine lv_iconst (v := 1) hx hb dL_law_1111 (by decide) ?_
  refine lv_iadd hx hb dL_law_1112 ?_
  refine lv_topi (fun v58 ev58 => ?_)
  have hv58 := i_add (Eq.refl i.toInt) (show (1 : Int32).toInt = 1 by decide) ev58 (by omega) (by omega)
  refine va_sld hx hb hX hbl hbA hS (vp_in_iff.mpr ⟨by omega, by omega⟩) dL_law_1113 ?_
  refine lv_topi (fun v59 ev59 => ?_)
  obtain rfl : v59 = (xs (i.toInt.toNat + 1)) := by rw [ev59, show v58.toNatClampNeg = i.toInt.toNat + 1 by have c9 := clampI (x := v58) (by omega); omega]
  refine lv_aload_n hx hb dL_law_1114 rfl (lv_at hl 3 rfl) ?_
  refine lv_iload_n hx hb dL_law_1115 rfl (lv_at hl 0 rfl) ?_
  refine lv_iconst (v := 2) hx hb dL_law_1116 (by decide) ?_
  refine lv_iadd hx hb dL_law_1117 ?_
  refine lv_topi (fun v60 ev60 => ?_)
  have hv60 := i_add (Eq.refl i.toInt) (show (2 : Int32).toInt = 2 by decide) ev60 (by omega) (by omega)
  refine va_sld hx hb hX hbl hbA hS (vp_in_iff.mpr ⟨by omega, by omega⟩) dL_law_1118 ?_
  refine lv_topi (fun v61 ev61 => ?_)
  obtain rfl : v61 = (xs (i.toInt.toNat + 2)) := by rw [ev61, show v60.toNatClampNeg = i.toInt.toNat + 2 by have c9 := clampI (x := v60) (by omega); omega]
  refine lv_aload_n hx hb dL_law_1119 rfl (lv_at hl 3 rfl) ?_
  refine lv_iload_n hx hb dL_law_1120 rfl (lv_at hl 0 rfl) ?_
  refine lv_iconst (v := 3) hx hb dL_law_1121 (by decide) ?_
  refine lv_iadd hx hb dL_law_1122 ?_
  refine lv_topi (fun v62 ev62 => ?_)
  have hv62 := i_add (Eq.refl i.toInt) (show (3 : Int32).toInt = 3 by decide) ev62 (by omega) (by omega)
  refine va_sld hx hb hX hbl hbA hS (vp_in_iff.mpr ⟨by omega, by omega⟩) dL_law_1123 ?_
  refine lv_topi (fun v63 ev63 => ?_)
  obtain rfl : v63 = (xs (i.toInt.toNat + 3)) := by rw [ev63, show v62.toNatClampNeg = i.toInt.toNat + 3 by have c9 := clampI (x := v62) (by omega); omega]
  refine cgL (X := (MW Y om a I J F G)) (ws := w53) (rn_V (As := [.int (xs (i.toInt.toNat + 1)), .int (xs (i.toInt.toNat + 2)), .int (xs (i.toInt.toNat + 3))]) (rest := []) (b := om) (m_shift l D Y Z H.size om a I J F G (xs (i.toInt.toNat + 1)) (xs (i.toInt.toNat + 2)) (xs (i.toInt.toNat + 3)) hm0 hm1 hm2) ⟨hx, hb, hml, hown, hg⟩ lk_L_105 ⟨CP.blind, va_recv hKN.1 (P_l hP) (ci := 11) (q0 := 0) rfl rfl, CP.at (P_l hP) hKN (D_l hD)⟩ ⟨⟨rfl, rfl⟩, ⟨Nat.le_of_ble_eq_true rfl, Nat.le_of_ble_eq_true rfl⟩, ⟨(show _ ≤ (600000 : Nat) by omega), (show _ ≤ (7302250 : Nat) by omega)⟩⟩ hl.1 rfl (Nat.le_of_ble_eq_true rfl) dL_law_1124) hP hD hS hA (fun u64 H locs hw65 hP hD hS => ?_)
  refine W.widen (k := (bd + 1)) (n := (sd + 7)) (by omega) (by omega) ?_
  obtain ⟨u66, u67, u68, u69, u70, u71, u72, u73, u74, u75, f76, f77, f78, f79, f80, f81⟩ := u64
  have hw82 : LB f77 := hw65
  refine W.eq (g2 := F0 m 1127 ls [.int u66]) rfl ?_
  have hP : va_P D vwCl ((MW Y om a (upd (upd (upd (upd (upd I 29 u73) 34 u67) 35 u68) 36 u69) 39 u70) (vp_updL (vp_updL (vp_updL (vp_updL J 30 u74) 31 u75) 37 u71) 38 u72) (vf_upd (vf_upd (vf_upd (vf_upd F 1 f76) 28 f77) 41 f79) 43 f81) (vf_upd (vf_upd G 40 f78) 42 f80)) ++ w53) H := hP
  have hD : va_D A ((MW Y om a (upd (upd (upd (upd (upd I 29 u73) 34 u67) 35 u68) 36 u69) 39 u70) (vp_updL (vp_updL (vp_updL (vp_updL J 30 u74) 31 u75) 37 u71) 38 u72) (vf_upd (vf_upd (vf_upd (vf_upd F 1 f76) 28 f77) 41 f79) 43 f81) (vf_upd (vf_upd G 40 f78) 42 f80)) ++ w53) := hD
  have hR83 : LN T54 g q x (vf_upd (vf_upd (vf_upd (vf_upd F 1 f76) 28 f77) 41 f79) 43 f81) := LN.keep hLR.1 htx le55 KS.rf rfl rfl
  have hD84 : LD T54 g q x (vf_upd (vf_upd (vf_upd (vf_upd F 1 f76) 28 f77) 41 f79) 43 f81) := LD.keep hLR.2 htx le55 KD.rf rfl
  have hR83 : LC T54 g q x (vf_upd (vf_upd (vf_upd (vf_upd F 1 f76) 28 f77) 41 f79) 43 f81) := ⟨hR83, hD84⟩
  refine lv_pop hx hb dL_law_1127 rfl ?_
  refine lv_goto (tgt := 1878) hx hb dL_law_1128 (by decide) ?_
  exact hK (upd (upd (upd (upd (upd I 29 u73) 34 u67) 35 u68) 36 u69) 39 u70) (vp_updL (vp_updL (vp_updL (vp_updL J 30 u74) 31 u75) 37 u71) 38 u72) (vf_upd (vf_upd (vf_upd (vf_upd F 1 f76) 28 f77) 41 f79) 43 f81) (vf_upd (vf_upd G 40 f78) 42 f80) w53 T54 g q _ _ H locs ls (by omega) (by omega) ⟨hP, hD, hS, lv_sub hl [0, 1, 2, 3] rfl, hT, (le55.up htx), hR83, hm0, hw82, hm2, hm3, hm4, hm5, (show 0 ≤ (I 3).toInt ∧ (I 3).toInt ≤ 400 by omega)⟩
set_option maxHeartbeats 4000000 in
set_option maxRecDepth 100000 in
theorem lc_21 {p : Program} {l : Launch} {e : Env} {s : State} {m : MethodId} {below : List Frame} {meth : Method} {c : Code} {sb L : Nat} {xs : Nat → Int32} (C0 : lw_At p s m meth c sb L xs) {D : va_G} {Y : Nat → ClassId} {Z : Nat → Nat} (hKN : KN D Y Z s) {A : Nat → Prop} (hSZ : SZ Z A s s.heap) (hA : ∀ q, s.heap.size ≤ q → A q) (hA2 : ∀ q, A q → s.heap.size ≤ q) {x om : Nat} {a : Nat → Nat} {H : Heap} {locs : List Loc} {ls : Array Slot} {I : Nat → Int32} {J : Nat → Int64} {F : Nat → Nat → Int32} {G : Nat → Nat → Int64} {ws : va_W} {T : RT} {g : GN} {q : GQ} {i : Int32} {bd sd : Nat} (hL : L ≤ 3584) (hi : 0 ≤ i.toInt ∧ i.toInt + 7 ≤ (L : Int)) (hbd : bd + 1092 ≤ 600000) (hsd : sd + 7753 ≤ 7302250) (hI : LI D Y Z A s sb x om a H locs ls I J F G ws T g q i) (hK : ∀ (I : Nat → Int32) (J : Nat → Int64) (F : Nat → Nat → Int32) (G : Nat → Nat → Int64) (ws : va_W) (T : RT) (g : GN) (q : GQ) (bd2 sd2 : Nat) (H : Heap) (locs : List Loc) (ls : Array Slot), bd2 ≤ bd + 1092 → sd2 ≤ sd + 7753 → LI D Y Z A s sb x om a H locs ls I J F G ws T g q i → W p l e room_1 s m #[Value.ref sb] below meth c H locs bd2 sd2 (lw_Z below #[Value.ref sb] s) (F0 m 1878 ls [])) : W p l e room_1 s m #[Value.ref sb] below meth c H locs bd sd (lw_Z below #[Value.ref sb] s) (F0 m 1131 ls []) := by
  obtain ⟨hx, hb, hr, hml, hown, hts, hX, hbl, hlocks, hgv⟩ := id C0
  have hb : c.code = cL_law := hb
  have hown : s.vm.findClass RL = some m.cls := hown
  have hg : ∀ w ∈ GW, w.before #[Value.ref sb] s = true := fun w h => hts w (gw_tbl h)
  have hbA : ¬ A sb := fun h => absurd (hA2 sb h) (Nat.not_le.mpr hbl)
  obtain ⟨hP, hD, hS, hl, hT, htx, hLR, hm0, hm1, hm2, hm3, hm4, hm5, hm6⟩ := hI
  refine lv_aload_n hx hb dL_law_1131 rfl (lv_at hl 2 rfl) ?_
  refine lv_aload_n hx hb dL_law_1132 rfl (lv_at hl 3 rfl) ?_
  refine lv_iload_n hx hb dL_law_1133 rfl (lv_at hl 0 rfl) ?_
  refine lv_iconst (v := 1) hx hb dL_law_1134 (by decide) ?_
  refine lv_iadd hx hb dL_law_1135 ?_
  refine lv_topi (fun v1 ev1 => ?_)
  have hv1 := i_add (Eq.refl i.toInt) (show (1 : Int32).toInt = 1 by decide) ev1 (by omega) (by omega)
  refine va_sld hx hb hX hbl hbA hS (vp_in_iff.mpr ⟨by omega, by omega⟩) dL_law_1136 ?_
  refine lv_topi (fun v2 ev2 => ?_)
  obtain rfl : v2 = (xs (i.toInt.toNat + 1)) := by rw [ev2, show v1.toNatClampNeg = i.toInt.toNat + 1 by have c9 := clampI (x := v1) (by omega); omega]
  refine lv_aload_n hx hb dL_law_1137 rfl (lv_at hl 3 rfl) ?_
  refine lv_iload_n hx hb dL_law_1138 rfl (lv_at hl 0 rfl) ?_
  refine lv_iconst (v := 2) hx hb dL_law_1139 (by decide) ?_
  refine lv_iadd hx hb dL_law_1140 ?_
  refine lv_topi (fun v3 ev3 => ?_)
  have hv3 := i_add (Eq.refl i.toInt) (show (2 : Int32).toInt = 2 by decide) ev3 (by omega) (by omega)
  refine va_sld hx hb hX hbl hbA hS (vp_in_iff.mpr ⟨by omega, by omega⟩) dL_law_1141 ?_
  refine lv_topi (fun v4 ev4 => ?_)
  obtain rfl : v4 = (xs (i.toInt.toNat + 2)) := by rw [ev4, show v3.toNatClampNeg = i.toInt.toNat + 2 by have c9 := clampI (x := v3) (by omega); omega]
  refine lv_aload_n hx hb dL_law_1142 rfl (lv_at hl 3 rfl) ?_
  refine lv_iload_n hx hb dL_law_1143 rfl (lv_at hl 0 rfl) ?_
  refine lv_iconst (v := 3) hx hb dL_law_1144 (by decide) ?_
  refine lv_iadd hx hb dL_law_1145 ?_
  refine lv_topi (fun v5 ev5 => ?_)
  have hv5 := i_add (Eq.refl i.toInt) (show (3 : Int32).toInt = 3 by decide) ev5 (by omega) (by omega)
  refine va_sld hx hb hX hbl hbA hS (vp_in_iff.mpr ⟨by omega, by omega⟩) dL_law_1146 ?_
  refine lv_topi (fun v6 ev6 => ?_)
  obtain rfl : v6 = (xs (i.toInt.toNat + 3)) := by rw [ev6, show v5.toNatClampNeg = i.toInt.toNat + 3 by have c9 := clampI (x := v5) (by omega); omega]
  refine lv_aload_n hx hb dL_law_1147 rfl (lv_at hl 3 rfl) ?_
  refine lv_iload_n hx hb dL_law_1148 rfl (lv_at hl 0 rfl) ?_
  refine lv_iconst (v := 4) hx hb dL_law_1149 (by decide) ?_
  refine lv_iadd hx hb dL_law_1150 ?_
  refine lv_topi (fun v7 ev7 => ?_)
  have hv7 := i_add (Eq.refl i.toInt) (show (4 : Int32).toInt = 4 by decide) ev7 (by omega) (by omega)
  refine va_sld hx hb hX hbl hbA hS (vp_in_iff.mpr ⟨by omega, by omega⟩) dL_law_1151 ?_
  refine lv_topi (fun v8 ev8 => ?_)
  obtain rfl : v8 = (xs (i.toInt.toNat + 4)) := by rw [ev8, show v7.toNatClampNeg = i.toInt.toNat + 4 by have c9 := clampI (x := v7) (by omega); omega]
  refine ok1 hT htx (fun p50 a9 a10 a11 a12 a13 x14 x15 x16 a17 a18 a19 a20 a21 a22 a23 a24 a25 x26 a27 a28 hk51 h29 h30 h31 h32 h33 h34 h35 h36 h37 h38 h39 h40 h41 h42 h43 h44 h45 h46 h47 h48 h49 => ?_)
  refine cgR (rn_V (As := [.int (xs (i.toInt.toNat + 1)), .int (xs (i.toInt.toNat + 2)), .int (xs (i.toInt.toNat + 3)), .int (xs (i.toInt.toNat + 4))]) (rest := []) (b := x) (x_X10_weight l D Y Z H.size ws T g q x (xs (i.toInt.toNat + 1)) (xs (i.toInt.toNat + 2)) (xs (i.toInt.toNat + 3)) (xs (i.toInt.toNat + 4)) hT htx) ⟨hx, hb, hml, hown, hg⟩ lk_L_106 ⟨CPC.blind, va_recv hKN.1 (P_r hP) (ci := 10) (q0 := p50) rfl hk51, CPC.at (P_r hP) hKN (D_r hD) hSZ hS hA⟩ ⟨⟨rfl, rfl⟩, ⟨Nat.le_of_ble_eq_true rfl, Nat.le_of_ble_eq_true rfl⟩, ⟨(show _ ≤ (600000 : Nat) by omega), (show _ ≤ (7302250 : Nat) by omega)⟩⟩ hl.1 rfl (Nat.le_of_ble_eq_true rfl) dL_law_1152) hP hD hS hA (fun u52 H locs hw53 hP hD hS => ?_)
  refine W.widen (k := (bd + 13)) (n := (sd + 91)) (by omega) (by omega) ?_
  obtain ⟨u54, w55, T56⟩ := u52
  obtain ⟨le57, hT, ke58⟩ : TLe T T56 ∧ TW Y Z T56 g q w55 ∧ KF 1 T ws w55 := hw53
  have hk59 := ke58 _ _ hk51 (show (T x).1 = 1 by rw [htx])
  refine W.eq (g2 := F0 m 1155 ls [.int u54]) rfl ?_
  refine lv_pop hx hb dL_law_1155 rfl ?_
  refine lv_aload_n hx hb dL_law_1156 rfl (lv_at hl 1 rfl) ?_
  refine lv_aload_n hx hb dL_law_1157 rfl (lv_at hl 3 rfl) ?_
  refine lv_iload_n hx hb dL_law_1158 rfl (lv_at hl 0 rfl) ?_
  refine lv_iconst (v := 1) hx hb dL_law_1159 (by decide) ?_
  refine lv_iadd hx hb dL_law_1160 ?_
  refine lv_topi (fun v60 ev60 => ?_)
  have hv60 := i_add (Eq.refl i.toInt) (show (1 : Int32).toInt = 1 by decide) ev60 (by omega) (by omega)
  refine va_sld hx hb hX hbl hbA hS (vp_in_iff.mpr ⟨by omega, by omega⟩) dL_law_1161 ?_
  refine lv_topi (fun v61 ev61 => ?_)
  obtain rfl : v61 = (xs (i.toInt.toNat + 1)) := by rw [ev61, show v60.toNatClampNeg = i.toInt.toNat + 1 by have c9 := clampI (x := v60) (by omega); omega]
  refine lv_aload_n hx hb dL_law_1162 rfl (lv_at hl 3 rfl) ?_
  refine lv_iload_n hx hb dL_law_1163 rfl (lv_at hl 0 rfl) ?_
  refine lv_iconst (v := 2) hx hb dL_law_1164 (by decide) ?_
  refine lv_iadd hx hb dL_law_1165 ?_
  refine lv_topi (fun v62 ev62 => ?_)
  have hv62 := i_add (Eq.refl i.toInt) (show (2 : Int32).toInt = 2 by decide) ev62 (by omega) (by omega)
  refine va_sld hx hb hX hbl hbA hS (vp_in_iff.mpr ⟨by omega, by omega⟩) dL_law_1166 ?_
  refine lv_topi (fun v63 ev63 => ?_)
  obtain rfl : v63 = (xs (i.toInt.toNat + 2)) := by rw [ev63, show v62.toNatClampNeg = i.toInt.toNat + 2 by have c9 := clampI (x := v62) (by omega); omega]
  refine lv_aload_n hx hb dL_law_1167 rfl (lv_at hl 3 rfl) ?_
  refine lv_iload_n hx hb dL_law_1168 rfl (lv_at hl 0 rfl) ?_
  refine lv_iconst (v := 3) hx hb dL_law_1169 (by decide) ?_
  refine lv_iadd hx hb dL_law_1170 ?_
  refine lv_topi (fun v64 ev64 => ?_)
  have hv64 := i_add (Eq.refl i.toInt) (show (3 : Int32).toInt = 3 by decide) ev64 (by omega) (by omega)
  refine va_sld hx hb hX hbl hbA hS (vp_in_iff.mpr ⟨by omega, by omega⟩) dL_law_1171 ?_
  refine lv_topi (fun v65 ev65 => ?_)
  obtain rfl : v65 = (xs (i.toInt.toNat + 3)) := by rw [ev65, show v64.toNatClampNeg = i.toInt.toNat + 3 by have c9 := clampI (x := v64) (by omega); omega]
  refine lv_aload_n hx hb dL_law_1172 rfl (lv_at hl 3 rfl) ?_
  refine lv_iload_n hx hb dL_law_1173 rfl (lv_at hl 0 rfl) ?_
  refine lv_iconst (v := 4) hx hb dL_law_1174 (by decide) ?_
  refine lv_iadd hx hb dL_law_1175 ?_
  refine lv_topi (fun v66 ev66 => ?_)
  have hv66 := i_add (Eq.refl i.toInt) (show (4 : Int32).toInt = 4 by decide) ev66 (by omega) (by omega)
  refine va_sld hx hb hX hbl hbA hS (vp_in_iff.mpr ⟨by omega, by omega⟩) dL_law_1176 ?_
  refine lv_topi (fun v67 ev67 => ?_)
  obtain rfl : v67 = (xs (i.toInt.toNat + 4)) := by rw [ev67, show v66.toNatClampNeg = i.toInt.toNat + 4 by have c9 := clampI (x := v66) (by omega); omega]
  refine cgL (X := (MW Y om a I J F G)) (ws := w55) (rn_V (As := [.int (xs (i.toInt.toNat + 1)), .int (xs (i.toInt.toNat + 2)), .int (xs (i.toInt.toNat + 3)), .int (xs (i.toInt.toNat + 4))]) (rest := []) (b := om) (m_weight l D Y Z H.size om a I J F G (xs (i.toInt.toNat + 1)) (xs (i.toInt.toNat + 2)) (xs (i.toInt.toNat + 3)) (xs (i.toInt.toNat + 4)) hm0 hm1 hm2 hm3 hm4) ⟨hx, hb, hml, hown, hg⟩ lk_L_110 ⟨CP.blind, va_recv hKN.1 (P_l hP) (ci := 11) (q0 := 0) rfl rfl, CP.at (P_l hP) hKN (D_l hD)⟩ ⟨⟨rfl, rfl⟩, ⟨Nat.le_of_ble_eq_true rfl, Nat.le_of_ble_eq_true rfl⟩, ⟨(show _ ≤ (600000 : Nat) by omega), (show _ ≤ (7302250 : Nat) by omega)⟩⟩ hl.1 rfl (Nat.le_of_ble_eq_true rfl) dL_law_1177) hP hD hS hA (fun u68 H locs hw69 hP hD hS => ?_)
  refine W.widen (k := (bd + 13)) (n := (sd + 91)) (by omega) (by omega) ?_
  obtain ⟨u70, u71, u72, u73, u74, u75, u76, u77, u78, u79, u80, u81, u82, f83, f84, f85, f86, f87, f88, f89, f90, f91⟩ := u68
  obtain ⟨hw92, hw93⟩ : LB f84 ∧ WG f91 := hw69
  refine W.eq (g2 := F0 m 1180 ls [.int u70]) rfl ?_
  have hP : va_P D vwCl ((MW Y om a (upd (upd (upd (upd (upd (upd (upd I 26 u82) 29 u77) 32 u80) 34 u71) 35 u72) 36 u73) 39 u74) (vp_updL (vp_updL (vp_updL (vp_updL (vp_updL J 30 u78) 31 u79) 33 u81) 37 u75) 38 u76) (vf_upd (vf_upd (vf_upd (vf_upd (vf_upd F 1 f83) 28 f84) 41 f86) 43 f88) 46 f91) (vf_upd (vf_upd (vf_upd (vf_upd G 25 f90) 27 f89) 40 f85) 42 f87)) ++ w55) H := hP
  have hD : va_D A ((MW Y om a (upd (upd (upd (upd (upd (upd (upd I 26 u82) 29 u77) 32 u80) 34 u71) 35 u72) 36 u73) 39 u74) (vp_updL (vp_updL (vp_updL (vp_updL (vp_updL J 30 u78) 31 u79) 33 u81) 37 u75) 38 u76) (vf_upd (vf_upd (vf_upd (vf_upd (vf_upd F 1 f83) 28 f84) 41 f86) 43 f88) 46 f91) (vf_upd (vf_upd (vf_upd (vf_upd G 25 f90) 27 f89) 40 f85) 42 f87)) ++ w55) := hD
  have hR94 : LN T56 g q x (vf_upd (vf_upd (vf_upd (vf_upd (vf_upd F 1 f83) 28 f84) 41 f86) 43 f88) 46 f91) := LN.keep hLR.1 htx le57 KS.rf rfl rfl
  have hD95 : LD T56 g q x (vf_upd (vf_upd (vf_upd (vf_upd (vf_upd F 1 f83) 28 f84) 41 f86) 43 f88) 46 f91) := LD.keep hLR.2 htx le57 KD.rf rfl
  have hR94 : LC T56 g q x (vf_upd (vf_upd (vf_upd (vf_upd (vf_upd F 1 f83) 28 f84) 41 f86) 43 f88) 46 f91) := ⟨hR94, hD95⟩
  refine lv_pop hx hb dL_law_1180 rfl ?_
  refine lv_goto (tgt := 1878) hx hb dL_law_1181 (by decide) ?_
  exact hK (upd (upd (upd (upd (upd (upd (upd I 26 u82) 29 u77) 32 u80) 34 u71) 35 u72) 36 u73) 39 u74) (vp_updL (vp_updL (vp_updL (vp_updL (vp_updL J 30 u78) 31 u79) 33 u81) 37 u75) 38 u76) (vf_upd (vf_upd (vf_upd (vf_upd (vf_upd F 1 f83) 28 f84) 41 f86) 43 f88) 46 f91) (vf_upd (vf_upd (vf_upd (vf_upd G 25 f90) 27 f89) 40 f85) 42 f87) w55 T56 g q _ _ H locs ls (by omega) (by omega) ⟨hP, hD, hS, lv_sub hl [0, 1, 2, 3] rfl, hT, (le57.up htx), hR94, hm0, hw92, hm2, hm3, hw93, hm5, (show 0 ≤ (I 3).toInt ∧ (I 3).toInt ≤ 400 by omega)⟩
set_option maxHeartbeats 4000000 in
set_option maxRecDepth 100000 in
theorem lc_22 {p : Program} {l : Launch} {e : Env} {s : State} {m : MethodId} {below : List Frame} {meth : Method} {c : Code} {sb L : Nat} {xs : Nat → Int32} (C0 : lw_At p s m meth c sb L xs) {D : va_G} {Y : Nat → ClassId} {Z : Nat → Nat} (hKN : KN D Y Z s) {A : Nat → Prop} (hSZ : SZ Z A s s.heap) (hA : ∀ q, s.heap.size ≤ q → A q) (hA2 : ∀ q, A q → s.heap.size ≤ q) {x om : Nat} {a : Nat → Nat} {H : Heap} {locs : List Loc} {ls : Array Slot} {I : Nat → Int32} {J : Nat → Int64} {F : Nat → Nat → Int32} {G : Nat → Nat → Int64} {ws : va_W} {T : RT} {g : GN} {q : GQ} {i : Int32} {bd sd : Nat} (hL : L ≤ 3584) (hi : 0 ≤ i.toInt ∧ i.toInt + 7 ≤ (L : Int)) (hbd : bd + 1092 ≤ 600000) (hsd : sd + 7753 ≤ 7302250) (hI : LI D Y Z A s sb x om a H locs ls I J F G ws T g q i) (hK : ∀ (I : Nat → Int32) (J : Nat → Int64) (F : Nat → Nat → Int32) (G : Nat → Nat → Int64) (ws : va_W) (T : RT) (g : GN) (q : GQ) (bd2 sd2 : Nat) (H : Heap) (locs : List Loc) (ls : Array Slot), bd2 ≤ bd + 1092 → sd2 ≤ sd + 7753 → LI D Y Z A s sb x om a H locs ls I J F G ws T g q i → W p l e room_1 s m #[Value.ref sb] below meth c H locs bd2 sd2 (lw_Z below #[Value.ref sb] s) (F0 m 1878 ls [])) : W p l e room_1 s m #[Value.ref sb] below meth c H locs bd sd (lw_Z below #[Value.ref sb] s) (F0 m 1184 ls []) := by
  obtain ⟨hx, hb, hr, hml, hown, hts, hX, hbl, hlocks, hgv⟩ := id C0
  have hb : c.code = cL_law := hb
  have hown : s.vm.findClass RL = some m.cls := hown
  have hg : ∀ w ∈ GW, w.before #[Value.ref sb] s = true := fun w h => hts w (gw_tbl h)
  have hbA : ¬ A sb := fun h => absurd (hA2 sb h) (Nat.not_le.mpr hbl)
  obtain ⟨hP, hD, hS, hl, hT, htx, hLR, hm0, hm1, hm2, hm3, hm4, hm5, hm6⟩ := hI
  refine lv_aload_n hx hb dL_law_1184 rfl (lv_at hl 2 rfl) ?_
  refine lv_aload_n hx hb dL_law_1185 rfl (lv_at hl 3 rfl) ?_
  refine lv_iload_n hx hb dL_law_1186 rfl (lv_at hl 0 rfl) ?_
  refine lv_iconst (v := 1) hx hb dL_law_1187 (by decide) ?_
  refine lv_iadd hx hb dL_law_1188 ?_
  refine lv_topi (fun v1 ev1 => ?_)
  have hv1 := i_add (Eq.refl i.toInt) (show (1 : Int32).toInt = 1 by decide) ev1 (by omega) (by omega)
  refine va_sld hx hb hX hbl hbA hS (vp_in_iff.mpr ⟨by omega, by omega⟩) dL_law_1189 ?_
  refine lv_topi (fun v2 ev2 => ?_)
  obtain rfl : v2 = (xs (i.toInt.toNat + 1)) := by rw [ev2, show v1.toNatClampNeg = i.toInt.toNat + 1 by have c9 := clampI (x := v1) (by omega); omega]
  refine lv_aload_n hx hb dL_law_1190 rfl (lv_at hl 3 rfl) ?_
  refine lv_iload_n hx hb dL_law_1191 rfl (lv_at hl 0 rfl) ?_
  refine lv_iconst (v := 2) hx hb dL_law_1192 (by decide) ?_
  refine lv_iadd hx hb dL_law_1193 ?_
  refine lv_topi (fun v3 ev3 => ?_)
  have hv3 := i_add (Eq.refl i.toInt) (show (2 : Int32).toInt = 2 by decide) ev3 (by omega) (by omega)
  refine va_sld hx hb hX hbl hbA hS (vp_in_iff.mpr ⟨by omega, by omega⟩) dL_law_1194 ?_
  refine lv_topi (fun v4 ev4 => ?_)
  obtain rfl : v4 = (xs (i.toInt.toNat + 2)) := by rw [ev4, show v3.toNatClampNeg = i.toInt.toNat + 2 by have c9 := clampI (x := v3) (by omega); omega]
  refine lv_aload_n hx hb dL_law_1195 rfl (lv_at hl 3 rfl) ?_
  refine lv_iload_n hx hb dL_law_1196 rfl (lv_at hl 0 rfl) ?_
  refine lv_iconst (v := 3) hx hb dL_law_1197 (by decide) ?_
  refine lv_iadd hx hb dL_law_1198 ?_
  refine lv_topi (fun v5 ev5 => ?_)
  have hv5 := i_add (Eq.refl i.toInt) (show (3 : Int32).toInt = 3 by decide) ev5 (by omega) (by omega)
  refine va_sld hx hb hX hbl hbA hS (vp_in_iff.mpr ⟨by omega, by omega⟩) dL_law_1199 ?_
  refine lv_topi (fun v6 ev6 => ?_)
  obtain rfl : v6 = (xs (i.toInt.toNat + 3)) := by rw [ev6, show v5.toNatClampNeg = i.toInt.toNat + 3 by have c9 := clampI (x := v5) (by omega); omega]
  refine ok1 hT htx (fun p48 a7 a8 a9 a10 a11 x12 x13 x14 a15 a16 a17 a18 a19 a20 a21 a22 a23 x24 a25 a26 hk49 h27 h28 h29 h30 h31 h32 h33 h34 h35 h36 h37 h38 h39 h40 h41 h42 h43 h44 h45 h46 h47 => ?_)
  refine cgR (rn_V (As := [.int (xs (i.toInt.toNat + 1)), .int (xs (i.toInt.toNat + 2)), .int (xs (i.toInt.toNat + 3))]) (rest := []) (b := x) (x_X10_sorted l D Y Z H.size ws T g q x (xs (i.toInt.toNat + 1)) (xs (i.toInt.toNat + 2)) (xs (i.toInt.toNat + 3)) hT htx) ⟨hx, hb, hml, hown, hg⟩ lk_L_111 ⟨CPC.blind, va_recv hKN.1 (P_r hP) (ci := 10) (q0 := p48) rfl hk49, CPC.at (P_r hP) hKN (D_r hD) hSZ hS hA⟩ ⟨⟨rfl, rfl⟩, ⟨Nat.le_of_ble_eq_true rfl, Nat.le_of_ble_eq_true rfl⟩, ⟨(show _ ≤ (600000 : Nat) by omega), (show _ ≤ (7302250 : Nat) by omega)⟩⟩ hl.1 rfl (Nat.le_of_ble_eq_true rfl) dL_law_1200) hP hD hS hA (fun u50 H locs hw51 hP hD hS => ?_)
  refine W.widen (k := (bd + 13)) (n := (sd + 91)) (by omega) (by omega) ?_
  obtain ⟨u52, w53, T54⟩ := u50
  obtain ⟨le55, hT, ke56⟩ : TLe T T54 ∧ TW Y Z T54 g q w53 ∧ KF 1 T ws w53 := hw51
  have hk57 := ke56 _ _ hk49 (show (T x).1 = 1 by rw [htx])
  refine W.eq (g2 := F0 m 1203 ls [.int u52]) rfl ?_
  refine lv_pop hx hb dL_law_1203 rfl ?_
  refine lv_aload_n hx hb dL_law_1204 rfl (lv_at hl 1 rfl) ?_
  refine lv_aload_n hx hb dL_law_1205 rfl (lv_at hl 3 rfl) ?_
  refine lv_iload_n hx hb dL_law_1206 rfl (lv_at hl 0 rfl) ?_
  refine lv_iconst (v := 1) hx hb dL_law_1207 (by decide) ?_
  refine lv_iadd hx hb dL_law_1208 ?_
  refine lv_topi (fun v58 ev58 => ?_)
  have hv58 := i_add (Eq.refl i.toInt) (show (1 : Int32).toInt = 1 by decide) ev58 (by omega) (by omega)
  refine va_sld hx hb hX hbl hbA hS (vp_in_iff.mpr ⟨by omega, by omega⟩) dL_law_1209 ?_
  refine lv_topi (fun v59 ev59 => ?_)
  obtain rfl : v59 = (xs (i.toInt.toNat + 1)) := by rw [ev59, show v58.toNatClampNeg = i.toInt.toNat + 1 by have c9 := clampI (x := v58) (by omega); omega]
  refine lv_aload_n hx hb dL_law_1210 rfl (lv_at hl 3 rfl) ?_
  refine lv_iload_n hx hb dL_law_1211 rfl (lv_at hl 0 rfl) ?_
  refine lv_iconst (v := 2) hx hb dL_law_1212 (by decide) ?_
  refine lv_iadd hx hb dL_law_1213 ?_
  refine lv_topi (fun v60 ev60 => ?_)
  have hv60 := i_add (Eq.refl i.toInt) (show (2 : Int32).toInt = 2 by decide) ev60 (by omega) (by omega)
  refine va_sld hx hb hX hbl hbA hS (vp_in_iff.mpr ⟨by omega, by omega⟩) dL_law_1214 ?_
  refine lv_topi (fun v61 ev61 => ?_)
  obtain rfl : v61 = (xs (i.toInt.toNat + 2)) := by rw [ev61, show v60.toNatClampNeg = i.toInt.toNat + 2 by have c9 := clampI (x := v60) (by omega); omega]
  refine lv_aload_n hx hb dL_law_1215 rfl (lv_at hl 3 rfl) ?_
  refine lv_iload_n hx hb dL_law_1216 rfl (lv_at hl 0 rfl) ?_
  refine lv_iconst (v := 3) hx hb dL_law_1217 (by decide) ?_
  refine lv_iadd hx hb dL_law_1218 ?_
  refine lv_topi (fun v62 ev62 => ?_)
  have hv62 := i_add (Eq.refl i.toInt) (show (3 : Int32).toInt = 3 by decide) ev62 (by omega) (by omega)
  refine va_sld hx hb hX hbl hbA hS (vp_in_iff.mpr ⟨by omega, by omega⟩) dL_law_1219 ?_
  refine lv_topi (fun v63 ev63 => ?_)
  obtain rfl : v63 = (xs (i.toInt.toNat + 3)) := by rw [ev63, show v62.toNatClampNeg = i.toInt.toNat + 3 by have c9 := clampI (x := v62) (by omega); omega]
  refine cgL (X := (MW Y om a I J F G)) (ws := w53) (rn_V (As := [.int (xs (i.toInt.toNat + 1)), .int (xs (i.toInt.toNat + 2)), .int (xs (i.toInt.toNat + 3))]) (rest := []) (b := om) (m_sorted l D Y Z H.size om a I J F G (xs (i.toInt.toNat + 1)) (xs (i.toInt.toNat + 2)) (xs (i.toInt.toNat + 3)) hm0 hm1 hm2 hm3 hm4) ⟨hx, hb, hml, hown, hg⟩ lk_L_114 ⟨CP.blind, va_recv hKN.1 (P_l hP) (ci := 11) (q0 := 0) rfl rfl, CP.at (P_l hP) hKN (D_l hD)⟩ ⟨⟨rfl, rfl⟩, ⟨Nat.le_of_ble_eq_true rfl, Nat.le_of_ble_eq_true rfl⟩, ⟨(show _ ≤ (600000 : Nat) by omega), (show _ ≤ (7302250 : Nat) by omega)⟩⟩ hl.1 rfl (Nat.le_of_ble_eq_true rfl) dL_law_1220) hP hD hS hA (fun u64 H locs hw65 hP hD hS => ?_)
  refine W.widen (k := (bd + 13)) (n := (sd + 91)) (by omega) (by omega) ?_
  obtain ⟨u66, u67, u68, u69, u70, u71, u72, u73, u74, u75, u76, u77, u78, f79, f80, f81, f82, f83, f84, f85, f86, f87⟩ := u64
  obtain ⟨hw88, hw89⟩ : LB f80 ∧ WG f87 := hw65
  refine W.eq (g2 := F0 m 1223 ls [.int u66]) rfl ?_
  have hP : va_P D vwCl ((MW Y om a (upd (upd (upd (upd (upd (upd (upd I 26 u78) 29 u73) 32 u76) 34 u67) 35 u68) 36 u69) 39 u70) (vp_updL (vp_updL (vp_updL (vp_updL (vp_updL J 30 u74) 31 u75) 33 u77) 37 u71) 38 u72) (vf_upd (vf_upd (vf_upd (vf_upd (vf_upd F 1 f79) 28 f80) 41 f82) 43 f84) 46 f87) (vf_upd (vf_upd (vf_upd (vf_upd G 25 f86) 27 f85) 40 f81) 42 f83)) ++ w53) H := hP
  have hD : va_D A ((MW Y om a (upd (upd (upd (upd (upd (upd (upd I 26 u78) 29 u73) 32 u76) 34 u67) 35 u68) 36 u69) 39 u70) (vp_updL (vp_updL (vp_updL (vp_updL (vp_updL J 30 u74) 31 u75) 33 u77) 37 u71) 38 u72) (vf_upd (vf_upd (vf_upd (vf_upd (vf_upd F 1 f79) 28 f80) 41 f82) 43 f84) 46 f87) (vf_upd (vf_upd (vf_upd (vf_upd G 25 f86) 27 f85) 40 f81) 42 f83)) ++ w53) := hD
  have hR90 : LN T54 g q x (vf_upd (vf_upd (vf_upd (vf_upd (vf_upd F 1 f79) 28 f80) 41 f82) 43 f84) 46 f87) := LN.keep hLR.1 htx le55 KS.rf rfl rfl
  have hD91 : LD T54 g q x (vf_upd (vf_upd (vf_upd (vf_upd (vf_upd F 1 f79) 28 f80) 41 f82) 43 f84) 46 f87) := LD.keep hLR.2 htx le55 KD.rf rfl
  have hR90 : LC T54 g q x (vf_upd (vf_upd (vf_upd (vf_upd (vf_upd F 1 f79) 28 f80) 41 f82) 43 f84) 46 f87) := ⟨hR90, hD91⟩
  refine lv_pop hx hb dL_law_1223 rfl ?_
  refine lv_goto (tgt := 1878) hx hb dL_law_1224 (by decide) ?_
  exact hK (upd (upd (upd (upd (upd (upd (upd I 26 u78) 29 u73) 32 u76) 34 u67) 35 u68) 36 u69) 39 u70) (vp_updL (vp_updL (vp_updL (vp_updL (vp_updL J 30 u74) 31 u75) 33 u77) 37 u71) 38 u72) (vf_upd (vf_upd (vf_upd (vf_upd (vf_upd F 1 f79) 28 f80) 41 f82) 43 f84) 46 f87) (vf_upd (vf_upd (vf_upd (vf_upd G 25 f86) 27 f85) 40 f81) 42 f83) w53 T54 g q _ _ H locs ls (by omega) (by omega) ⟨hP, hD, hS, lv_sub hl [0, 1, 2, 3] rfl, hT, (le55.up htx), hR90, hm0, hw88, hm2, hm3, hw89, hm5, (show 0 ≤ (I 3).toInt ∧ (I 3).toInt ≤ 400 by omega)⟩
set_option maxHeartbeats 4000000 in
set_option maxRecDepth 100000 in
theorem lc_23 {p : Program} {l : Launch} {e : Env} {s : State} {m : MethodId} {below : List Frame} {meth : Method} {c : Code} {sb L : Nat} {xs : Nat → Int32} (C0 : lw_At p s m meth c sb L xs) {D : va_G} {Y : Nat → ClassId} {Z : Nat → Nat} (hKN : KN D Y Z s) {A : Nat → Prop} (hSZ : SZ Z A s s.heap) (hA : ∀ q, s.heap.size ≤ q → A q) (hA2 : ∀ q, A q → s.heap.size ≤ q) {x om : Nat} {a : Nat → Nat} {H : Heap} {locs : List Loc} {ls : Array Slot} {I : Nat → Int32} {J : Nat → Int64} {F : Nat → Nat → Int32} {G : Nat → Nat → Int64} {ws : va_W} {T : RT} {g : GN} {q : GQ} {i : Int32} {bd sd : Nat} (hL : L ≤ 3584) (hi : 0 ≤ i.toInt ∧ i.toInt + 7 ≤ (L : Int)) (hbd : bd + 1092 ≤ 600000) (hsd : sd + 7753 ≤ 7302250) (hI : LI D Y Z A s sb x om a H locs ls I J F G ws T g q i) (hK : ∀ (I : Nat → Int32) (J : Nat → Int64) (F : Nat → Nat → Int32) (G : Nat → Nat → Int64) (ws : va_W) (T : RT) (g : GN) (q : GQ) (bd2 sd2 : Nat) (H : Heap) (locs : List Loc) (ls : Array Slot), bd2 ≤ bd + 1092 → sd2 ≤ sd + 7753 → LI D Y Z A s sb x om a H locs ls I J F G ws T g q i → W p l e room_1 s m #[Value.ref sb] below meth c H locs bd2 sd2 (lw_Z below #[Value.ref sb] s) (F0 m 1878 ls [])) : W p l e room_1 s m #[Value.ref sb] below meth c H locs bd sd (lw_Z below #[Value.ref sb] s) (F0 m 1227 ls []) := by
  obtain ⟨hx, hb, hr, hml, hown, hts, hX, hbl, hlocks, hgv⟩ := id C0
  have hb : c.code = cL_law := hb
  have hown : s.vm.findClass RL = some m.cls := hown
  have hg : ∀ w ∈ GW, w.before #[Value.ref sb] s = true := fun w h => hts w (gw_tbl h)
  have hbA : ¬ A sb := fun h => absurd (hA2 sb h) (Nat.not_le.mpr hbl)
  obtain ⟨hP, hD, hS, hl, hT, htx, hLR, hm0, hm1, hm2, hm3, hm4, hm5, hm6⟩ := hI
  refine lv_aload_n hx hb dL_law_1227 rfl (lv_at hl 2 rfl) ?_
  refine lv_aload_n hx hb dL_law_1228 rfl (lv_at hl 3 rfl) ?_
  refine lv_iload_n hx hb dL_law_1229 rfl (lv_at hl 0 rfl) ?_
  refine lv_iconst (v := 1) hx hb dL_law_1230 (by decide) ?_
  refine lv_iadd hx hb dL_law_1231 ?_
  refine lv_topi (fun v1 ev1 => ?_)
  have hv1 := i_add (Eq.refl i.toInt) (show (1 : Int32).toInt = 1 by decide) ev1 (by omega) (by omega)
  refine va_sld hx hb hX hbl hbA hS (vp_in_iff.mpr ⟨by omega, by omega⟩) dL_law_1232 ?_
  refine lv_topi (fun v2 ev2 => ?_)
  obtain rfl : v2 = (xs (i.toInt.toNat + 1)) := by rw [ev2, show v1.toNatClampNeg = i.toInt.toNat + 1 by have c9 := clampI (x := v1) (by omega); omega]
  refine lv_aload_n hx hb dL_law_1233 rfl (lv_at hl 3 rfl) ?_
  refine lv_iload_n hx hb dL_law_1234 rfl (lv_at hl 0 rfl) ?_
  refine lv_iconst (v := 2) hx hb dL_law_1235 (by decide) ?_
  refine lv_iadd hx hb dL_law_1236 ?_
  refine lv_topi (fun v3 ev3 => ?_)
  have hv3 := i_add (Eq.refl i.toInt) (show (2 : Int32).toInt = 2 by decide) ev3 (by omega) (by omega)
  refine va_sld hx hb hX hbl hbA hS (vp_in_iff.mpr ⟨by omega, by omega⟩) dL_law_1237 ?_
  refine lv_topi (fun v4 ev4 => ?_)
  obtain rfl : v4 = (xs (i.toInt.toNat + 2)) := by rw [ev4, show v3.toNatClampNeg = i.toInt.toNat + 2 by have c9 := clampI (x := v3) (by omega); omega]
  refine lv_aload_n hx hb dL_law_1238 rfl (lv_at hl 3 rfl) ?_
  refine lv_iload_n hx hb dL_law_1239 rfl (lv_at hl 0 rfl) ?_
  refine lv_iconst (v := 3) hx hb dL_law_1240 (by decide) ?_
  refine lv_iadd hx hb dL_law_1241 ?_
  refine lv_topi (fun v5 ev5 => ?_)
  have hv5 := i_add (Eq.refl i.toInt) (show (3 : Int32).toInt = 3 by decide) ev5 (by omega) (by omega)
  refine va_sld hx hb hX hbl hbA hS (vp_in_iff.mpr ⟨by omega, by omega⟩) dL_law_1242 ?_
  refine lv_topi (fun v6 ev6 => ?_)
  obtain rfl : v6 = (xs (i.toInt.toNat + 3)) := by rw [ev6, show v5.toNatClampNeg = i.toInt.toNat + 3 by have c9 := clampI (x := v5) (by omega); omega]
  refine lv_aload_n hx hb dL_law_1243 rfl (lv_at hl 3 rfl) ?_
  refine lv_iload_n hx hb dL_law_1244 rfl (lv_at hl 0 rfl) ?_
  refine lv_iconst (v := 4) hx hb dL_law_1245 (by decide) ?_
  refine lv_iadd hx hb dL_law_1246 ?_
  refine lv_topi (fun v7 ev7 => ?_)
  have hv7 := i_add (Eq.refl i.toInt) (show (4 : Int32).toInt = 4 by decide) ev7 (by omega) (by omega)
  refine va_sld hx hb hX hbl hbA hS (vp_in_iff.mpr ⟨by omega, by omega⟩) dL_law_1247 ?_
  refine lv_topi (fun v8 ev8 => ?_)
  obtain rfl : v8 = (xs (i.toInt.toNat + 4)) := by rw [ev8, show v7.toNatClampNeg = i.toInt.toNat + 4 by have c9 := clampI (x := v7) (by omega); omega]
  refine lv_aload_n hx hb dL_law_1248 rfl (lv_at hl 3 rfl) ?_
  refine lv_iload_n hx hb dL_law_1249 rfl (lv_at hl 0 rfl) ?_
  refine lv_iconst (v := 5) hx hb dL_law_1250 (by decide) ?_
  refine lv_iadd hx hb dL_law_1251 ?_
  refine lv_topi (fun v9 ev9 => ?_)
  have hv9 := i_add (Eq.refl i.toInt) (show (5 : Int32).toInt = 5 by decide) ev9 (by omega) (by omega)
  refine va_sld hx hb hX hbl hbA hS (vp_in_iff.mpr ⟨by omega, by omega⟩) dL_law_1252 ?_
  refine lv_topi (fun v10 ev10 => ?_)
  obtain rfl : v10 = (xs (i.toInt.toNat + 5)) := by rw [ev10, show v9.toNatClampNeg = i.toInt.toNat + 5 by have c9 := clampI (x := v9) (by omega); omega]
  refine ok1 hT htx (fun p52 a11 a12 a13 a14 a15 x16 x17 x18 a19 a20 a21 a22 a23 a24 a25 a26 a27 x28 a29 a30 hk53 h31 h32 h33 h34 h35 h36 h37 h38 h39 h40 h41 h42 h43 h44 h45 h46 h47 h48 h49 h50 h51 => ?_)
  refine cgR (rn_V (As := [.int (xs (i.toInt.toNat + 1)), .int (xs (i.toInt.toNat + 2)), .int (xs (i.toInt.toNat + 3)), .int (xs (i.toInt.toNat + 4)), .int (xs (i.toInt.toNat + 5))]) (rest := []) (b := x) (x_X10_odds l D Y Z H.size ws T g q x (xs (i.toInt.toNat + 1)) (xs (i.toInt.toNat + 2)) (xs (i.toInt.toNat + 3)) (xs (i.toInt.toNat + 4)) (xs (i.toInt.toNat + 5)) hT htx) ⟨hx, hb, hml, hown, hg⟩ lk_L_115 ⟨CPC.blind, va_recv hKN.1 (P_r hP) (ci := 10) (q0 := p52) rfl hk53, CPC.at (P_r hP) hKN (D_r hD) hSZ hS hA⟩ ⟨⟨rfl, rfl⟩, ⟨Nat.le_of_ble_eq_true rfl, Nat.le_of_ble_eq_true rfl⟩, ⟨(show _ ≤ (600000 : Nat) by omega), (show _ ≤ (7302250 : Nat) by omega)⟩⟩ hl.1 rfl (Nat.le_of_ble_eq_true rfl) dL_law_1253) hP hD hS hA (fun u54 H locs hw55 hP hD hS => ?_)
  refine W.widen (k := (bd + 13)) (n := (sd + 91)) (by omega) (by omega) ?_
  obtain ⟨u56, w57, T58⟩ := u54
  obtain ⟨le59, hT, ke60⟩ : TLe T T58 ∧ TW Y Z T58 g q w57 ∧ KF 1 T ws w57 := hw55
  have hk61 := ke60 _ _ hk53 (show (T x).1 = 1 by rw [htx])
  refine W.eq (g2 := F0 m 1256 ls [.int u56]) rfl ?_
  refine lv_pop hx hb dL_law_1256 rfl ?_
  refine lv_aload_n hx hb dL_law_1257 rfl (lv_at hl 1 rfl) ?_
  refine lv_aload_n hx hb dL_law_1258 rfl (lv_at hl 3 rfl) ?_
  refine lv_iload_n hx hb dL_law_1259 rfl (lv_at hl 0 rfl) ?_
  refine lv_iconst (v := 1) hx hb dL_law_1260 (by decide) ?_
  refine lv_iadd hx hb dL_law_1261 ?_
  refine lv_topi (fun v62 ev62 => ?_)
  have hv62 := i_add (Eq.refl i.toInt) (show (1 : Int32).toInt = 1 by decide) ev62 (by omega) (by omega)
  refine va_sld hx hb hX hbl hbA hS (vp_in_iff.mpr ⟨by omega, by omega⟩) dL_law_1262 ?_
  refine lv_topi (fun v63 ev63 => ?_)
  obtain rfl : v63 = (xs (i.toInt.toNat + 1)) := by rw [ev63, show v62.toNatClampNeg = i.toInt.toNat + 1 by have c9 := clampI (x := v62) (by omega); omega]
  refine lv_aload_n hx hb dL_law_1263 rfl (lv_at hl 3 rfl) ?_
  refine lv_iload_n hx hb dL_law_1264 rfl (lv_at hl 0 rfl) ?_
  refine lv_iconst (v := 2) hx hb dL_law_1265 (by decide) ?_
  refine lv_iadd hx hb dL_law_1266 ?_
  refine lv_topi (fun v64 ev64 => ?_)
  have hv64 := i_add (Eq.refl i.toInt) (show (2 : Int32).toInt = 2 by decide) ev64 (by omega) (by omega)
  refine va_sld hx hb hX hbl hbA hS (vp_in_iff.mpr ⟨by omega, by omega⟩) dL_law_1267 ?_
  refine lv_topi (fun v65 ev65 => ?_)
  obtain rfl : v65 = (xs (i.toInt.toNat + 2)) := by rw [ev65, show v64.toNatClampNeg = i.toInt.toNat + 2 by have c9 := clampI (x := v64) (by omega); omega]
  refine lv_aload_n hx hb dL_law_1268 rfl (lv_at hl 3 rfl) ?_
  refine lv_iload_n hx hb dL_law_1269 rfl (lv_at hl 0 rfl) ?_
  refine lv_iconst (v := 3) hx hb dL_law_1270 (by decide) ?_
  refine lv_iadd hx hb dL_law_1271 ?_
  refine lv_topi (fun v66 ev66 => ?_)
  have hv66 := i_add (Eq.refl i.toInt) (show (3 : Int32).toInt = 3 by decide) ev66 (by omega) (by omega)
  refine va_sld hx hb hX hbl hbA hS (vp_in_iff.mpr ⟨by omega, by omega⟩) dL_law_1272 ?_
  refine lv_topi (fun v67 ev67 => ?_)
  obtain rfl : v67 = (xs (i.toInt.toNat + 3)) := by rw [ev67, show v66.toNatClampNeg = i.toInt.toNat + 3 by have c9 := clampI (x := v66) (by omega); omega]
  refine lv_aload_n hx hb dL_law_1273 rfl (lv_at hl 3 rfl) ?_
  refine lv_iload_n hx hb dL_law_1274 rfl (lv_at hl 0 rfl) ?_
  refine lv_iconst (v := 4) hx hb dL_law_1275 (by decide) ?_
  refine lv_iadd hx hb dL_law_1276 ?_
  refine lv_topi (fun v68 ev68 => ?_)
  have hv68 := i_add (Eq.refl i.toInt) (show (4 : Int32).toInt = 4 by decide) ev68 (by omega) (by omega)
  refine va_sld hx hb hX hbl hbA hS (vp_in_iff.mpr ⟨by omega, by omega⟩) dL_law_1277 ?_
  refine lv_topi (fun v69 ev69 => ?_)
  obtain rfl : v69 = (xs (i.toInt.toNat + 4)) := by rw [ev69, show v68.toNatClampNeg = i.toInt.toNat + 4 by have c9 := clampI (x := v68) (by omega); omega]
  refine lv_aload_n hx hb dL_law_1278 rfl (lv_at hl 3 rfl) ?_
  refine lv_iload_n hx hb dL_law_1279 rfl (lv_at hl 0 rfl) ?_
  refine lv_iconst (v := 5) hx hb dL_law_1280 (by decide) ?_
  refine lv_iadd hx hb dL_law_1281 ?_
  refine lv_topi (fun v70 ev70 => ?_)
  have hv70 := i_add (Eq.refl i.toInt) (show (5 : Int32).toInt = 5 by decide) ev70 (by omega) (by omega)
  refine va_sld hx hb hX hbl hbA hS (vp_in_iff.mpr ⟨by omega, by omega⟩) dL_law_1282 ?_
  refine lv_topi (fun v71 ev71 => ?_)
  obtain rfl : v71 = (xs (i.toInt.toNat + 5)) := by rw [ev71, show v70.toNatClampNeg = i.toInt.toNat + 5 by have c9 := clampI (x := v70) (by omega); omega]
  refine cgL (X := (MW Y om a I J F G)) (ws := w57) (rn_V (As := [.int (xs (i.toInt.toNat + 1)), .int (xs (i.toInt.toNat + 2)), .int (xs (i.toInt.toNat + 3)), .int (xs (i.toInt.toNat + 4)), .int (xs (i.toInt.toNat + 5))]) (rest := []) (b := om) (m_odds l D Y Z H.size om a I J F G (xs (i.toInt.toNat + 1)) (xs (i.toInt.toNat + 2)) (xs (i.toInt.toNat + 3)) (xs (i.toInt.toNat + 4)) (xs (i.toInt.toNat + 5)) hm0 hm1 hm2 hm3 hm4) ⟨hx, hb, hml, hown, hg⟩ lk_L_118 ⟨CP.blind, va_recv hKN.1 (P_l hP) (ci := 11) (q0 := 0) rfl rfl, CP.at (P_l hP) hKN (D_l hD)⟩ ⟨⟨rfl, rfl⟩, ⟨Nat.le_of_ble_eq_true rfl, Nat.le_of_ble_eq_true rfl⟩, ⟨(show _ ≤ (600000 : Nat) by omega), (show _ ≤ (7302250 : Nat) by omega)⟩⟩ hl.1 rfl (Nat.le_of_ble_eq_true rfl) dL_law_1283) hP hD hS hA (fun u72 H locs hw73 hP hD hS => ?_)
  refine W.widen (k := (bd + 13)) (n := (sd + 91)) (by omega) (by omega) ?_
  obtain ⟨u74, u75, u76, u77, u78, u79, u80, u81, u82, u83, u84, u85, u86, f87, f88, f89, f90, f91, f92, f93, f94, f95⟩ := u72
  obtain ⟨hw96, hw97⟩ : LB f88 ∧ WG f95 := hw73
  refine W.eq (g2 := F0 m 1286 ls [.int u74]) rfl ?_
  have hP : va_P D vwCl ((MW Y om a (upd (upd (upd (upd (upd (upd (upd I 26 u86) 29 u81) 32 u84) 34 u75) 35 u76) 36 u77) 39 u78) (vp_updL (vp_updL (vp_updL (vp_updL (vp_updL J 30 u82) 31 u83) 33 u85) 37 u79) 38 u80) (vf_upd (vf_upd (vf_upd (vf_upd (vf_upd F 1 f87) 28 f88) 41 f90) 43 f92) 46 f95) (vf_upd (vf_upd (vf_upd (vf_upd G 25 f94) 27 f93) 40 f89) 42 f91)) ++ w57) H := hP
  have hD : va_D A ((MW Y om a (upd (upd (upd (upd (upd (upd (upd I 26 u86) 29 u81) 32 u84) 34 u75) 35 u76) 36 u77) 39 u78) (vp_updL (vp_updL (vp_updL (vp_updL (vp_updL J 30 u82) 31 u83) 33 u85) 37 u79) 38 u80) (vf_upd (vf_upd (vf_upd (vf_upd (vf_upd F 1 f87) 28 f88) 41 f90) 43 f92) 46 f95) (vf_upd (vf_upd (vf_upd (vf_upd G 25 f94) 27 f93) 40 f89) 42 f91)) ++ w57) := hD
  have hR98 : LN T58 g q x (vf_upd (vf_upd (vf_upd (vf_upd (vf_upd F 1 f87) 28 f88) 41 f90) 43 f92) 46 f95) := LN.keep hLR.1 htx le59 KS.rf rfl rfl
  have hD99 : LD T58 g q x (vf_upd (vf_upd (vf_upd (vf_upd (vf_upd F 1 f87) 28 f88) 41 f90) 43 f92) 46 f95) := LD.keep hLR.2 htx le59 KD.rf rfl
  have hR98 : LC T58 g q x (vf_upd (vf_upd (vf_upd (vf_upd (vf_upd F 1 f87) 28 f88) 41 f90) 43 f92) 46 f95) := ⟨hR98, hD99⟩
  refine lv_pop hx hb dL_law_1286 rfl ?_
  refine lv_goto (tgt := 1878) hx hb dL_law_1287 (by decide) ?_
  exact hK (upd (upd (upd (upd (upd (upd (upd I 26 u86) 29 u81) 32 u84) 34 u75) 35 u76) 36 u77) 39 u78) (vp_updL (vp_updL (vp_updL (vp_updL (vp_updL J 30 u82) 31 u83) 33 u85) 37 u79) 38 u80) (vf_upd (vf_upd (vf_upd (vf_upd (vf_upd F 1 f87) 28 f88) 41 f90) 43 f92) 46 f95) (vf_upd (vf_upd (vf_upd (vf_upd G 25 f94) 27 f93) 40 f89) 42 f91) w57 T58 g q _ _ H locs ls (by omega) (by omega) ⟨hP, hD, hS, lv_sub hl [0, 1, 2, 3] rfl, hT, (le59.up htx), hR98, hm0, hw96, hm2, hm3, hw97, hm5, (show 0 ≤ (I 3).toInt ∧ (I 3).toInt ≤ 400 by omega)⟩
