theorem ka_7 : Cond.arrayOver (.object "DimStars$Star") ∈ tables_1 := mt1 36 rfl
theorem ka_8 : Cond.arrayOver (.object "DimStars$World") ∈ tables_1 := mt1 38 rfl
theorem ka_4 : Cond.arrayOver (.object "DimStars$Sky") ∈ tables_1 := mt1 98 rfl
theorem ka_5 : Cond.arrayOver (.object "DimStars$Text") ∈ tables_1 := mt1 100 rfl
theorem ka_6 : Cond.arrayOver (.object "DimStars$Finding") ∈ tables_1 := mt2 108 rfl
theorem arC {s : State} {args : Array Value} {ty : FieldType} (h : (Cond.arrayClass ty).before args s = true) (hr : ∀ c, s.vm.findClass ("[" ++ ty.toString) = some c → va_RA s c ty) : ∃ cA, ArrOfT s cA ty ∧ va_RA s cA ty := by
  obtain ⟨c, k, comp, h1, h2, h3⟩ := Cond.arrayClass_spec h
  exact ⟨c, fun n z => ⟨fun k h => (by cases h), k, h2, comp, h3⟩, hr c h1⟩
theorem arQ {s : State} {args : Array Value} {C : String} (h : (Cond.arrayOver (.object C)).before args s = true) : ∃ cA, ArrOfT s cA (.object C) ∧ va_RA s cA (.object C) := by
  obtain ⟨comp, c, k, h1, h2, h3, h4, h5⟩ := Cond.arrayOver_spec h
  exact ⟨c, fun n z => ⟨fun k h => (by cases h), k, h3, comp, h4⟩, k, comp, h3, h4, h1, h5⟩
set_option maxHeartbeats 4000000 in
set_option maxRecDepth 100000 in
theorem kn_start {s : State} {sb : Nat} (hts : ∀ w ∈ lw_tbl, w.before #[Value.ref sb] s = true) (hgv : (Jvm.Cond.and given_1 narrow_1).before #[Value.ref sb] s = true) : ∃ (D : va_G) (Y : Nat → ClassId) (Z : Nat → Nat), KN D Y Z s := by
  obtain ⟨cX0, iX0, kX0⟩ := u_known (C := RX0) (T := TX0) (N := 2) (n := 2) hts (fun w h => (inTX0 w h).1) (hts _ (gw_tbl kw_271))
  obtain ⟨cX1, iX1, kX1⟩ := u_known (C := RX1) (T := TX1) (N := 7) (n := 7) hts (fun w h => (inTX1 w h).1) (hts _ (gw_tbl kw_303))
  obtain ⟨cX2, iX2, kX2⟩ := u_known (C := RX2) (T := TX2) (N := 8) (n := 8) hts (fun w h => (inTX2 w h).1) (hts _ (gw_tbl kw_227))
  obtain ⟨cX3, iX3, kX3⟩ := u_known (C := RX3) (T := TX3) (N := 12) (n := 12) hts (fun w h => (inTX3 w h).1) (hts _ (gw_tbl kw_102))
  obtain ⟨cX4, iX4, kX4⟩ := u_known (C := RX4) (T := TX4) (N := 1) (n := 1) hts (fun w h => (inTX4 w h).1) (hts _ (gw_tbl kw_216))
  obtain ⟨cX5, iX5, kX5⟩ := u_known (C := RX5) (T := TX5) (N := 4) (n := 4) hts (fun w h => (inTX5 w h).1) (hts _ (gw_tbl kw_284))
  obtain ⟨cX6, iX6, kX6⟩ := u_known (C := RX6) (T := TX6) (N := 13) (n := 13) hts (fun w h => (inTX6 w h).1) (hts _ (gw_tbl kw_30))
  obtain ⟨cX7, iX7, kX7⟩ := u_known (C := RX7) (T := TX7) (N := 4) (n := 4) hts (fun w h => (inTX7 w h).1) (hts _ (gw_tbl kw_428))
  obtain ⟨cX8, iX8, kX8⟩ := u_known (C := RX8) (T := TX8) (N := 14) (n := 14) hts (fun w h => (inTX8 w h).1) (hts _ (gw_tbl kw_109))
  obtain ⟨cX9, iX9, kX9⟩ := u_known (C := RX9) (T := TX9) (N := 6) (n := 6) hts (fun w h => (inTX9 w h).1) (hts _ (gw_tbl kw_563))
  obtain ⟨cX10, iX10, kX10⟩ := u_known (C := RX10) (T := TX10) (N := 20) (n := 20) hts (fun w h => (inTX10 w h).1) (hts _ (gw_tbl kw_22))
  obtain ⟨cX11, iX11, kX11⟩ := u_known (C := RX11) (T := TX11) (N := 49) (n := 49) hts (fun w h => (inTX11 w h).1) (hts _ (gw_tbl kw_1203))
  obtain ⟨y0, hy0⟩ := arC (ty := .int) (hts _ (gw_tbl kw_96)) (fun c h => h)
  obtain ⟨y1, hy1⟩ := arC (ty := .long) (hts _ (gw_tbl kw_225)) (fun c h => h)
  obtain ⟨y2, hy2⟩ := arC (ty := .byte) (hts _ (gw_tbl kw_97)) (fun c h => h)
  obtain ⟨y3, hy3⟩ := arC (ty := .boolean) (hts _ (gw_tbl kw_1356)) (fun c h => h)
  obtain ⟨y4, hy4⟩ := arQ (C := "DimStars$Sky") (hts _ (List.mem_append_right _ ka_4))
  obtain ⟨y5, hy5⟩ := arQ (C := "DimStars$Text") (hts _ (List.mem_append_right _ ka_5))
  obtain ⟨y6, hy6⟩ := arQ (C := "DimStars$Finding") (hts _ (List.mem_append_right _ ka_6))
  obtain ⟨y7, hy7⟩ := arQ (C := "DimStars$Star") (hts _ (List.mem_append_right _ ka_7))
  obtain ⟨y8, hy8⟩ := arQ (C := "DimStars$World") (hts _ (List.mem_append_right _ ka_8))
  have hs := flat_of_before _ hgv
  obtain ⟨z0, -, -, -, hz0, -⟩ := Cond.exactly_spec (args := #[Value.ref sb]) (first := s) (o := none) (s := s) (idx := []) (t := .string "DimStars$Parser" 15) (cls := "java/lang/String") (hs _ (by decide +kernel))
  obtain ⟨z1, -, -, -, hz1, -⟩ := Cond.exactly_spec (args := #[Value.ref sb]) (first := s) (o := none) (s := s) (idx := []) (t := .string "DimStars$Parser" 50) (cls := "java/lang/String") (hs _ (by decide +kernel))
  obtain ⟨z2, -, -, -, hz2, -⟩ := Cond.exactly_spec (args := #[Value.ref sb]) (first := s) (o := none) (s := s) (idx := []) (t := .string "DimStars$Parser" 52) (cls := "java/lang/String") (hs _ (by decide +kernel))
  obtain ⟨z3, -, -, -, hz3, -⟩ := Cond.exactly_spec (args := #[Value.ref sb]) (first := s) (o := none) (s := s) (idx := []) (t := .string "DimStars$Parser" 93) (cls := "java/lang/String") (hs _ (by decide +kernel))
  obtain ⟨z4, -, -, -, hz4, -⟩ := Cond.exactly_spec (args := #[Value.ref sb]) (first := s) (o := none) (s := s) (idx := []) (t := .string "DimStars$Parser" 95) (cls := "java/lang/String") (hs _ (by decide +kernel))
  obtain ⟨z5, -, -, -, hz5, -⟩ := Cond.exactly_spec (args := #[Value.ref sb]) (first := s) (o := none) (s := s) (idx := []) (t := .string "DimStars$Parser" 97) (cls := "java/lang/String") (hs _ (by decide +kernel))
  obtain ⟨z6, -, -, -, hz6, -⟩ := Cond.exactly_spec (args := #[Value.ref sb]) (first := s) (o := none) (s := s) (idx := []) (t := .string "DimStars$Parser" 121) (cls := "java/lang/String") (hs _ (by decide +kernel))
  obtain ⟨z7, -, -, -, hz7, -⟩ := Cond.exactly_spec (args := #[Value.ref sb]) (first := s) (o := none) (s := s) (idx := []) (t := .string "DimStars$Parser" 151) (cls := "java/lang/String") (hs _ (by decide +kernel))
  obtain ⟨z8, -, -, -, hz8, -⟩ := Cond.exactly_spec (args := #[Value.ref sb]) (first := s) (o := none) (s := s) (idx := []) (t := .string "DimStars$Parser" 158) (cls := "java/lang/String") (hs _ (by decide +kernel))
  refine ⟨(fun k => List.getD (cX0 :: cX1 :: cX2 :: cX3 :: cX4 :: cX5 :: cX6 :: cX7 :: cX8 :: cX9 :: cX10 :: cX11 :: []) k 0, fun k => List.getD (iX0 :: iX1 :: iX2 :: iX3 :: iX4 :: iX5 :: iX6 :: iX7 :: iX8 :: iX9 :: iX10 :: iX11 :: []) k (fun _ => 0)), fun k => List.getD (y0 :: y1 :: y2 :: y3 :: y4 :: y5 :: y6 :: y7 :: y8 :: []) k 0, fun k => List.getD (z0 :: z1 :: z2 :: z3 :: z4 :: z5 :: z6 :: z7 :: z8 :: []) k 0, ⟨?_, ?_⟩, ?_, ?_, ?_⟩
  · intro k q hq
    match k, hq with
    | 0, hq => cases hq; exact kX0
    | 1, hq => cases hq; exact kX1
    | 2, hq => cases hq; exact kX2
    | 3, hq => cases hq; exact kX3
    | 4, hq => cases hq; exact kX4
    | 5, hq => cases hq; exact kX5
    | 6, hq => cases hq; exact kX6
    | 7, hq => cases hq; exact kX7
    | 8, hq => cases hq; exact kX8
    | 9, hq => cases hq; exact kX9
    | 10, hq => cases hq; exact kX10
    | 11, hq => cases hq; exact kX11
    | k + 12, hq => simp [vwCl] at hq
  · intro k q hq
    match k, hq with
    | 0, hq => cases hq; exact hy0
    | 1, hq => cases hq; exact hy1
    | 2, hq => cases hq; exact hy2
    | 3, hq => cases hq; exact hy3
    | 4, hq => cases hq; exact hy4
    | 5, hq => cases hq; exact hy5
    | 6, hq => cases hq; exact hy6
    | 7, hq => cases hq; exact hy7
    | 8, hq => cases hq; exact hy8
    | k + 9, hq => simp [TYS] at hq
  · intro w hw hn
    cases w <;> first | exact va_Nw.of rfl (hts _ (List.mem_append_right _ hw)) | cases hn
  · intro C hC
    simp only [AOL, List.mem_cons, List.not_mem_nil, or_false] at hC
    rcases hC with rfl | rfl | rfl | rfl | rfl
    · exact va_AO.of (hts _ (List.mem_append_right _ ka_4))
    · exact va_AO.of (hts _ (List.mem_append_right _ ka_5))
    · exact va_AO.of (hts _ (List.mem_append_right _ ka_6))
    · exact va_AO.of (hts _ (List.mem_append_right _ ka_7))
    · exact va_AO.of (hts _ (List.mem_append_right _ ka_8))
  · intro k q hq
    match k, hq with
    | 0, hq => cases hq; exact vk_R.of (hts _ (List.mem_append_right _ (mt1 107 rfl))) hz0
    | 1, hq => cases hq; exact vk_R.of (hts _ (List.mem_append_right _ (mt3 138 rfl))) hz1
    | 2, hq => cases hq; exact vk_R.of (hts _ (List.mem_append_right _ (mt3 139 rfl))) hz2
    | 3, hq => cases hq; exact vk_R.of (hts _ (List.mem_append_right _ (mt3 152 rfl))) hz3
    | 4, hq => cases hq; exact vk_R.of (hts _ (List.mem_append_right _ (mt3 153 rfl))) hz4
    | 5, hq => cases hq; exact vk_R.of (hts _ (List.mem_append_right _ (mt3 154 rfl))) hz5
    | 6, hq => cases hq; exact vk_R.of (hts _ (List.mem_append_right _ (mt4 2 rfl))) hz6
    | 7, hq => cases hq; exact vk_R.of (hts _ (List.mem_append_right _ (mt4 21 rfl))) hz7
    | 8, hq => cases hq; exact vk_R.of (hts _ (List.mem_append_right _ (mt4 11 rfl))) hz8
    | k + 9, hq => simp [ZL] at hq
