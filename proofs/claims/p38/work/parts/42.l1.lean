theorem ka_7 : Cond.arrayOver (.object "DimStars$Star") ∈ tables_1 := mt1 36 rfl
theorem ka_8 : Cond.arrayOver (.object "DimStars$World") ∈ tables_1 := mt1 38 rfl
theorem ka_4 : Cond.arrayOver (.object "DimStars$Sky") ∈ tables_1 := mt1 98 rfl
theorem ka_5 : Cond.arrayOver (.object "DimStars$Text") ∈ tables_1 := mt1 100 rfl
theorem ka_6 : Cond.arrayOver (.object "DimStars$Finding") ∈ tables_1 := mt2 108 rfl
theorem ks_0 : Cond.laysStatic "DimStars" "SEASON_ORDERS" "[I" ∈ tables_1 := mt3 37 rfl
theorem ks_1 : Cond.laysStatic "DimStars" "SHIFTS" "[I" ∈ tables_1 := mt5 37 rfl
theorem ks_2 : Cond.laysStatic "java/lang/String" "COMPACT_STRINGS" "Z" ∈ tables_1 := mt3 168 rfl
theorem ks_3 : Cond.laysStatic "jdk/internal/util/Preconditions" "SIOOBE_FORMATTER" "Ljava/util/function/BiFunction;" ∈ tables_1 := mt3 184 rfl
theorem arC {s : State} {args : Array Value} {ty : FieldType} (h : (Cond.arrayClass ty).before args s = true) (hr : ∀ c, s.vm.findClass ("[" ++ ty.toString) = some c → va_RA s c ty) : ∃ cA, ArrOfT s cA ty ∧ va_RA s cA ty := by
  obtain ⟨c, k, comp, h1, h2, h3⟩ := Cond.arrayClass_spec h
  exact ⟨c, fun n z => ⟨fun k h => (by cases h), k, h2, comp, h3⟩, hr c h1⟩
theorem arQ {s : State} {args : Array Value} {C : String} (h : (Cond.arrayOver (.object C)).before args s = true) : ∃ cA, ArrOfT s cA (.object C) ∧ va_RA s cA (.object C) := by
  obtain ⟨comp, c, k, h1, h2, h3, h4, h5⟩ := Cond.arrayOver_spec h
  exact ⟨c, fun n z => ⟨fun k h => (by cases h), k, h3, comp, h4⟩, k, comp, h3, h4, h1, h5⟩
set_option maxHeartbeats 4000000 in
set_option maxRecDepth 100000 in
theorem sz_0 {s : State} {sb : Nat} {A : Nat → Prop} (hts : ∀ w ∈ lw_tbl, w.before #[Value.ref sb] s = true) (hgv : (Jvm.Cond.and given_1 narrow_1).before #[Value.ref sb] s = true) (hA : ∀ a : Nat, a < s.heap.size → ¬ A a) : ∃ Z : Nat → Nat, SZ Z A s s.heap ∧ ∀ i : Nat, i < 9 → (STM i).eval #[Value.ref sb] s none [] s = some (.ref (Z i)) := by
  have hs := flat_of_before _ hgv
  obtain ⟨t1, e1, T1⟩ := va_Tof (args := #[Value.ref sb]) (s := s) (tm := .static "DimStars" "SEASON_ORDERS" "[I") (ty := .int) (N := 96) (f := fun k => .int (ORD.getD k 0)) (A := A) (by decide) (hs _ (by decide +kernel)) (va_eqt (hs _ (by decide +kernel))) (fun j hj => va_eqt (hs _ (sz_ORD j hj))) hA
  obtain ⟨t2, e2, T2⟩ := va_Tof (args := #[Value.ref sb]) (s := s) (tm := .static "DimStars" "SHIFTS" "[I") (ty := .int) (N := 7) (f := fun k => .int (SHF.getD k 0)) (A := A) (by decide) (hs _ (by decide +kernel)) (va_eqt (hs _ (by decide +kernel))) (fun j hj => va_eqt (hs _ (sz_SHF j hj))) hA
  have Z1 := va_Zof (hts _ (List.mem_append_right _ ks_0)) (hts _ (gw_tbl kw_1)) e1 hA
  have Z2 := va_Zof (hts _ (List.mem_append_right _ ks_1)) (hts _ (gw_tbl kw_1)) e2 hA
  have Z3 := va_Zof (v := .int 1) (hts _ (List.mem_append_right _ ks_2)) (hts _ (gw_tbl kw_16)) (va_eqt (hs _ (by decide +kernel))) hA
  have Z4 := va_Zqof (hts _ (List.mem_append_right _ ks_3)) (hts _ (gw_tbl kw_18)) (hs _ (by decide +kernel)) hA
  obtain ⟨aK, aV, hV, hE⟩ := vk_Sof (args := #[Value.ref sb]) (s := s) (N := 9) (tm := STM) (len := SLEN) (byt := SBYT) (A := A) (by decide) (fun i hi => hs _ (by revert hi; revert i; decide +kernel)) (fun i hi => hs _ (by revert hi; revert i; decide +kernel)) (fun i hi => hs _ (by revert hi; revert i; decide +kernel)) (fun i hi => hs _ (by revert hi; revert i; decide +kernel)) (fun i hi j hj => hs _ (sz_el i hi j hj)) (fun i j hi hj hij => (sz_ne i hi j hj hij).imp (fun h => hs _ h) (fun h => hs _ h)) hA
  let Z : Nat → Nat := fun k => if k < 100 then aK k else if k = 100 then t1 else if k = 101 then t2 else aV (k - 200)
  have z1 : ∀ i, i < 9 → Z i = aK i := fun i hi => if_pos (by omega)
  have z2 : ∀ i, Z (200 + i) = aV i := fun i => by
    show (if 200 + i < 100 then _ else if 200 + i = 100 then _ else if 200 + i = 101 then _ else aV (200 + i - 200)) = aV i
    rw [if_neg (by omega), if_neg (by omega), if_neg (by omega), show 200 + i - 200 = i by omega]
  refine ⟨Z, ⟨⟨Z1, T1⟩, ⟨Z2, T2⟩, Z3, Z4, ⟨fun i hi => by have z3 : (fun i => Z (200 + i)) i = aV i := z2 i; rw [z1 i hi, z3]; exact hV.1 i hi, fun i j hi hj h => hV.2 i j hi hj (by rw [← z1 i hi, ← z1 j hj]; exact h)⟩⟩, fun i hi => by rw [z1 i hi]; exact hE i hi⟩
set_option maxHeartbeats 4000000 in
set_option maxRecDepth 100000 in
theorem kn_start {s : State} {sb : Nat} {A : Nat → Prop} (hts : ∀ w ∈ lw_tbl, w.before #[Value.ref sb] s = true) (hgv : (Jvm.Cond.and given_1 narrow_1).before #[Value.ref sb] s = true) (hA : ∀ a : Nat, a < s.heap.size → ¬ A a) : ∃ (D : va_G) (Y : Nat → ClassId) (Z : Nat → Nat), KN D Y Z s ∧ SZ Z A s s.heap := by
  obtain ⟨cX0, iX0, kX0⟩ := u_known (C := RX0) (T := TX0) (N := 2) (n := 2) hts (fun w h => (inTX0 w h).1) (hts _ (gw_tbl kw_271))
  obtain ⟨cX1, iX1, kX1⟩ := u_known (C := RX1) (T := TX1) (N := 7) (n := 7) hts (fun w h => (inTX1 w h).1) (hts _ (gw_tbl kw_303))
  obtain ⟨cX2, iX2, kX2⟩ := u_known (C := RX2) (T := TX2) (N := 8) (n := 8) hts (fun w h => (inTX2 w h).1) (hts _ (gw_tbl kw_227))
  obtain ⟨cX3, iX3, kX3⟩ := u_known (C := RX3) (T := TX3) (N := 12) (n := 12) hts (fun w h => (inTX3 w h).1) (hts _ (gw_tbl kw_102))
  obtain ⟨cX4, iX4, kX4⟩ := u_known (C := RX4) (T := TX4) (N := 1) (n := 1) hts (fun w h => (inTX4 w h).1) (hts _ (gw_tbl kw_216))
  obtain ⟨cX5, iX5, kX5⟩ := u_known (C := RX5) (T := TX5) (N := 4) (n := 4) hts (fun w h => (inTX5 w h).1) (hts _ (gw_tbl kw_284))
  obtain ⟨cX6, iX6, kX6⟩ := u_known (C := RX6) (T := TX6) (N := 13) (n := 13) hts (fun w h => (inTX6 w h).1) (hts _ (gw_tbl kw_30))
  obtain ⟨cX7, iX7, kX7⟩ := u_known (C := RX7) (T := TX7) (N := 4) (n := 4) hts (fun w h => (inTX7 w h).1) (hts _ (gw_tbl kw_428))
  obtain ⟨cX8, iX8, kX8⟩ := u_known (C := RX8) (T := TX8) (N := 14) (n := 14) hts (fun w h => (inTX8 w h).1) (hts _ (gw_tbl kw_109))
  obtain ⟨cX9, iX9, kX9⟩ := u_known (C := RX9) (T := TX9) (N := 6) (n := 6) hts (fun w h => (inTX9 w h).1) (hts _ (gw_tbl kw_563))
  obtain ⟨cX10, iX10, kX10⟩ := u_known (C := RX10) (T := TX10) (N := 20) (n := 20) hts (fun w h => (inTX10 w h).1) (hts _ (gw_tbl kw_22))
  obtain ⟨cX11, iX11, kX11⟩ := u_known (C := RX11) (T := TX11) (N := 49) (n := 49) hts (fun w h => (inTX11 w h).1) (hts _ (gw_tbl kw_1203))
  obtain ⟨y0, hy0⟩ := arC (ty := .int) (hts _ (gw_tbl kw_96)) (fun c h => h)
  obtain ⟨y1, hy1⟩ := arC (ty := .long) (hts _ (gw_tbl kw_225)) (fun c h => h)
  obtain ⟨y2, hy2⟩ := arC (ty := .byte) (hts _ (gw_tbl kw_97)) (fun c h => h)
  obtain ⟨y3, hy3⟩ := arC (ty := .boolean) (hts _ (gw_tbl kw_1356)) (fun c h => h)
  obtain ⟨y4, hy4⟩ := arQ (C := "DimStars$Sky") (hts _ (List.mem_append_right _ ka_4))
  obtain ⟨y5, hy5⟩ := arQ (C := "DimStars$Text") (hts _ (List.mem_append_right _ ka_5))
  obtain ⟨y6, hy6⟩ := arQ (C := "DimStars$Finding") (hts _ (List.mem_append_right _ ka_6))
  obtain ⟨y7, hy7⟩ := arQ (C := "DimStars$Star") (hts _ (List.mem_append_right _ ka_7))
  obtain ⟨y8, hy8⟩ := arQ (C := "DimStars$World") (hts _ (List.mem_append_right _ ka_8))
  obtain ⟨Z, hZ, hE⟩ := sz_0 hts hgv hA
  refine ⟨(fun k => List.getD (cX0 :: cX1 :: cX2 :: cX3 :: cX4 :: cX5 :: cX6 :: cX7 :: cX8 :: cX9 :: cX10 :: cX11 :: []) k 0, fun k => List.getD (iX0 :: iX1 :: iX2 :: iX3 :: iX4 :: iX5 :: iX6 :: iX7 :: iX8 :: iX9 :: iX10 :: iX11 :: []) k (fun _ => 0)), fun k => List.getD (y0 :: y1 :: y2 :: y3 :: y4 :: y5 :: y6 :: y7 :: y8 :: []) k 0, Z, ⟨⟨?_, ?_⟩, ?_, ?_, ?_⟩, hZ⟩
  · intro k q hq
    match k, hq with
    | 0, hq => cases hq; exact kX0
    | 1, hq => cases hq; exact kX1
    | 2, hq => cases hq; exact kX2
    | 3, hq => cases hq; exact kX3
    | 4, hq => cases hq; exact kX4
    | 5, hq => cases hq; exact kX5
    | 6, hq => cases hq; exact kX6
    | 7, hq => cases hq; exact kX7
    | 8, hq => cases hq; exact kX8
    | 9, hq => cases hq; exact kX9
    | 10, hq => cases hq; exact kX10
    | 11, hq => cases hq; exact kX11
    | k + 12, hq => simp [vwCl] at hq
  · intro k q hq
    match k, hq with
    | 0, hq => cases hq; exact hy0
    | 1, hq => cases hq; exact hy1
    | 2, hq => cases hq; exact hy2
    | 3, hq => cases hq; exact hy3
    | 4, hq => cases hq; exact hy4
    | 5, hq => cases hq; exact hy5
    | 6, hq => cases hq; exact hy6
    | 7, hq => cases hq; exact hy7
    | 8, hq => cases hq; exact hy8
    | k + 9, hq => simp [TYS] at hq
  · intro w hw hn
    cases w <;> first | exact va_Nw.of rfl (hts _ (List.mem_append_right _ hw)) | cases hn
  · intro C hC
    simp only [AOL, List.mem_cons, List.not_mem_nil, or_false] at hC
    rcases hC with rfl | rfl | rfl | rfl | rfl
    · exact va_AO.of (hts _ (List.mem_append_right _ ka_4))
    · exact va_AO.of (hts _ (List.mem_append_right _ ka_5))
    · exact va_AO.of (hts _ (List.mem_append_right _ ka_6))
    · exact va_AO.of (hts _ (List.mem_append_right _ ka_7))
    · exact va_AO.of (hts _ (List.mem_append_right _ ka_8))
  · intro k q hq
    match k, hq with
    | 0, hq => cases hq; exact vk_R.of (hts _ (List.mem_append_right _ (mt1 107 rfl))) (hE 0 (by decide))
    | 1, hq => cases hq; exact vk_R.of (hts _ (List.mem_append_right _ (mt3 138 rfl))) (hE 1 (by decide))
    | 2, hq => cases hq; exact vk_R.of (hts _ (List.mem_append_right _ (mt3 139 rfl))) (hE 2 (by decide))
    | 3, hq => cases hq; exact vk_R.of (hts _ (List.mem_append_right _ (mt3 152 rfl))) (hE 3 (by decide))
    | 4, hq => cases hq; exact vk_R.of (hts _ (List.mem_append_right _ (mt3 153 rfl))) (hE 4 (by decide))
    | 5, hq => cases hq; exact vk_R.of (hts _ (List.mem_append_right _ (mt3 154 rfl))) (hE 5 (by decide))
    | 6, hq => cases hq; exact vk_R.of (hts _ (List.mem_append_right _ (mt4 2 rfl))) (hE 6 (by decide))
    | 7, hq => cases hq; exact vk_R.of (hts _ (List.mem_append_right _ (mt4 21 rfl))) (hE 7 (by decide))
    | 8, hq => cases hq; exact vk_R.of (hts _ (List.mem_append_right _ (mt4 11 rfl))) (hE 8 (by decide))
    | k + 9, hq => simp [ZL] at hq
