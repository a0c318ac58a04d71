set_option maxHeartbeats 4000000 in
set_option maxRecDepth 100000 in
theorem lw_head {p : Program} {l : Launch} {e : Env} {s : State} {m : MethodId} {below : List Frame} {meth : Method} {c : Code} {sb : Nat} {xs : Nat → Int32} {L : Nat} (hL : L ≤ 7) (C0 : lw_At p s m meth c sb L xs) {D : va_G} {Y : Nat → ClassId} {Z : Nat → Nat} (hKN : KN D Y Z s) {A : Nat → Prop} (hA : ∀ q, s.heap.size ≤ q → A q) (hA2 : ∀ q, A q → s.heap.size ≤ q) {o o2 : Nat} {b a : Nat → Nat} {H : Heap} {locs : List Loc} {ls : Array Slot} (hP : va_P D vwCl (LW Y Z o o2 b a) H) (hD : va_D A (LW Y Z o o2 b a)) (hS : va_S A s.heap H locs) (hl : lv_has ls 4 [(3, .int 0), (2, .ref o2), (1, .ref o), (0, .ref sb)]) : W p l e room_1 s m #[Value.ref sb] below meth c H locs 70 52824 (lw_Z below #[Value.ref sb] s) (F0 m 18 ls []) := by
  obtain ⟨hx, hb, hr, hml, hown, hts, hX, hbl, hlocks, hgv⟩ := id C0
  have hb : c.code = cL_law := hb
  have hown : s.vm.findClass RL = some m.cls := hown
  have hg : ∀ w ∈ GW, w.before #[Value.ref sb] s = true := fun w h => hts w (gw_tbl h)
  have hbA : ¬ A sb := fun h => absurd (hA2 sb h) (Nat.not_le.mpr hbl)
  rcases (show L = 0 ∨ L = 1 ∨ L = 2 ∨ L = 3 ∨ L = 4 ∨ L = 5 ∨ L = 6 ∨ L = 7 by omega) with rfl | rfl | rfl | rfl | rfl | rfl | rfl | rfl
  · skip
    refine lv_iload_n hx hb dL_law_18 rfl (lv_at hl 0 rfl) ?_
    refine lv_aload_n hx hb dL_law_19 rfl (lv_at hl 3 rfl) ?_
    refine va_slen hx hb hX hbl hbA hS dL_law_20 ?_
    refine lv_topi (fun z1 ez1 => ?_)
    obtain rfl : z1 = 0 := ez1.trans (by decide)
    refine lv_bipush (v := 7) hx hb dL_law_21 (by decide) ?_
    refine lv_isub hx hb dL_law_23 ?_
    refine lv_topi (fun z2 ez2 => ?_)
    obtain rfl : z2 = (-7) := ez2.trans (by decide)
    refine lv_icmp_gt (tgt := 1891) hx hb dL_law_24 (by decide) (fun c3 => ?_) (fun c3 => ?_)
    rotate_left
    · exact absurd c3 (by decide)
    refine lv_iconst (v := 1) hx hb dL_law_1891 (by decide) ?_
    refine va_forget (fun q hq => hA2 _ (hS.2.2 q hq)) ?_
    refine W.widen (k := 600000) (n := 7302250) (Nat.le_of_ble_eq_true rfl) (Nat.le_of_ble_eq_true rfl) ?_
    exact lw_ret hx hb hr hlocks dL_law_1892
  · skip
    refine lv_iload_n hx hb dL_law_18 rfl (lv_at hl 0 rfl) ?_
    refine lv_aload_n hx hb dL_law_19 rfl (lv_at hl 3 rfl) ?_
    refine va_slen hx hb hX hbl hbA hS dL_law_20 ?_
    refine lv_topi (fun z4 ez4 => ?_)
    obtain rfl : z4 = 1 := ez4.trans (by decide)
    refine lv_bipush (v := 7) hx hb dL_law_21 (by decide) ?_
    refine lv_isub hx hb dL_law_23 ?_
    refine lv_topi (fun z5 ez5 => ?_)
    obtain rfl : z5 = (-6) := ez5.trans (by decide)
    refine lv_icmp_gt (tgt := 1891) hx hb dL_law_24 (by decide) (fun c6 => ?_) (fun c6 => ?_)
    rotate_left
    · exact absurd c6 (by decide)
    refine lv_iconst (v := 1) hx hb dL_law_1891 (by decide) ?_
    refine va_forget (fun q hq => hA2 _ (hS.2.2 q hq)) ?_
    refine W.widen (k := 600000) (n := 7302250) (Nat.le_of_ble_eq_true rfl) (Nat.le_of_ble_eq_true rfl) ?_
    exact lw_ret hx hb hr hlocks dL_law_1892
  · skip
    refine lv_iload_n hx hb dL_law_18 rfl (lv_at hl 0 rfl) ?_
    refine lv_aload_n hx hb dL_law_19 rfl (lv_at hl 3 rfl) ?_
    refine va_slen hx hb hX hbl hbA hS dL_law_20 ?_
    refine lv_topi (fun z7 ez7 => ?_)
    obtain rfl : z7 = 2 := ez7.trans (by decide)
    refine lv_bipush (v := 7) hx hb dL_law_21 (by decide) ?_
    refine lv_isub hx hb dL_law_23 ?_
    refine lv_topi (fun z8 ez8 => ?_)
    obtain rfl : z8 = (-5) := ez8.trans (by decide)
    refine lv_icmp_gt (tgt := 1891) hx hb dL_law_24 (by decide) (fun c9 => ?_) (fun c9 => ?_)
    rotate_left
    · exact absurd c9 (by decide)
    refine lv_iconst (v := 1) hx hb dL_law_1891 (by decide) ?_
    refine va_forget (fun q hq => hA2 _ (hS.2.2 q hq)) ?_
    refine W.widen (k := 600000) (n := 7302250) (Nat.le_of_ble_eq_true rfl) (Nat.le_of_ble_eq_true rfl) ?_
    exact lw_ret hx hb hr hlocks dL_law_1892
  · skip
    refine lv_iload_n hx hb dL_law_18 rfl (lv_at hl 0 rfl) ?_
    refine lv_aload_n hx hb dL_law_19 rfl (lv_at hl 3 rfl) ?_
    refine va_slen hx hb hX hbl hbA hS dL_law_20 ?_
    refine lv_topi (fun z10 ez10 => ?_)
    obtain rfl : z10 = 3 := ez10.trans (by decide)
    refine lv_bipush (v := 7) hx hb dL_law_21 (by decide) ?_
    refine lv_isub hx hb dL_law_23 ?_
    refine lv_topi (fun z11 ez11 => ?_)
    obtain rfl : z11 = (-4) := ez11.trans (by decide)
    refine lv_icmp_gt (tgt := 1891) hx hb dL_law_24 (by decide) (fun c12 => ?_) (fun c12 => ?_)
    rotate_left
    · exact absurd c12 (by decide)
    refine lv_iconst (v := 1) hx hb dL_law_1891 (by decide) ?_
    refine va_forget (fun q hq => hA2 _ (hS.2.2 q hq)) ?_
    refine W.widen (k := 600000) (n := 7302250) (Nat.le_of_ble_eq_true rfl) (Nat.le_of_ble_eq_true rfl) ?_
    exact lw_ret hx hb hr hlocks dL_law_1892
  · skip
    refine lv_iload_n hx hb dL_law_18 rfl (lv_at hl 0 rfl) ?_
    refine lv_aload_n hx hb dL_law_19 rfl (lv_at hl 3 rfl) ?_
    refine va_slen hx hb hX hbl hbA hS dL_law_20 ?_
    refine lv_topi (fun z13 ez13 => ?_)
    obtain rfl : z13 = 4 := ez13.trans (by decide)
    refine lv_bipush (v := 7) hx hb dL_law_21 (by decide) ?_
    refine lv_isub hx hb dL_law_23 ?_
    refine lv_topi (fun z14 ez14 => ?_)
    obtain rfl : z14 = (-3) := ez14.trans (by decide)
    refine lv_icmp_gt (tgt := 1891) hx hb dL_law_24 (by decide) (fun c15 => ?_) (fun c15 => ?_)
    rotate_left
    · exact absurd c15 (by decide)
    refine lv_iconst (v := 1) hx hb dL_law_1891 (by decide) ?_
    refine va_forget (fun q hq => hA2 _ (hS.2.2 q hq)) ?_
    refine W.widen (k := 600000) (n := 7302250) (Nat.le_of_ble_eq_true rfl) (Nat.le_of_ble_eq_true rfl) ?_
    exact lw_ret hx hb hr hlocks dL_law_1892
  · skip
    refine lv_iload_n hx hb dL_law_18 rfl (lv_at hl 0 rfl) ?_
    refine lv_aload_n hx hb dL_law_19 rfl (lv_at hl 3 rfl) ?_
    refine va_slen hx hb hX hbl hbA hS dL_law_20 ?_
    refine lv_topi (fun z16 ez16 => ?_)
    obtain rfl : z16 = 5 := ez16.trans (by decide)
    refine lv_bipush (v := 7) hx hb dL_law_21 (by decide) ?_
    refine lv_isub hx hb dL_law_23 ?_
    refine lv_topi (fun z17 ez17 => ?_)
    obtain rfl : z17 = (-2) := ez17.trans (by decide)
    refine lv_icmp_gt (tgt := 1891) hx hb dL_law_24 (by decide) (fun c18 => ?_) (fun c18 => ?_)
    rotate_left
    · exact absurd c18 (by decide)
    refine lv_iconst (v := 1) hx hb dL_law_1891 (by decide) ?_
    refine va_forget (fun q hq => hA2 _ (hS.2.2 q hq)) ?_
    refine W.widen (k := 600000) (n := 7302250) (Nat.le_of_ble_eq_true rfl) (Nat.le_of_ble_eq_true rfl) ?_
    exact lw_ret hx hb hr hlocks dL_law_1892
  · skip
    refine lv_iload_n hx hb dL_law_18 rfl (lv_at hl 0 rfl) ?_
    refine lv_aload_n hx hb dL_law_19 rfl (lv_at hl 3 rfl) ?_
    refine va_slen hx hb hX hbl hbA hS dL_law_20 ?_
    refine lv_topi (fun z19 ez19 => ?_)
    obtain rfl : z19 = 6 := ez19.trans (by decide)
    refine lv_bipush (v := 7) hx hb dL_law_21 (by decide) ?_
    refine lv_isub hx hb dL_law_23 ?_
    refine lv_topi (fun z20 ez20 => ?_)
    obtain rfl : z20 = (-1) := ez20.trans (by decide)
    refine lv_icmp_gt (tgt := 1891) hx hb dL_law_24 (by decide) (fun c21 => ?_) (fun c21 => ?_)
    rotate_left
    · exact absurd c21 (by decide)
    refine lv_iconst (v := 1) hx hb dL_law_1891 (by decide) ?_
    refine va_forget (fun q hq => hA2 _ (hS.2.2 q hq)) ?_
    refine W.widen (k := 600000) (n := 7302250) (Nat.le_of_ble_eq_true rfl) (Nat.le_of_ble_eq_true rfl) ?_
    exact lw_ret hx hb hr hlocks dL_law_1892
  · skip
    refine lv_iload_n hx hb dL_law_18 rfl (lv_at hl 0 rfl) ?_
    refine lv_aload_n hx hb dL_law_19 rfl (lv_at hl 3 rfl) ?_
    refine va_slen hx hb hX hbl hbA hS dL_law_20 ?_
    refine lv_topi (fun z22 ez22 => ?_)
    obtain rfl : z22 = 7 := ez22.trans (by decide)
    refine lv_bipush (v := 7) hx hb dL_law_21 (by decide) ?_
    refine lv_isub hx hb dL_law_23 ?_
    refine lv_topi (fun z23 ez23 => ?_)
    obtain rfl : z23 = 0 := ez23.trans (by decide)
    refine lv_icmp_gt (tgt := 1891) hx hb dL_law_24 (by decide) (fun c24 => ?_) (fun c24 => ?_)
    · exact absurd c24 (by decide)
    refine lv_aload_n hx hb dL_law_27 rfl (lv_at hl 3 rfl) ?_
    refine lv_iload_n hx hb dL_law_28 rfl (lv_at hl 0 rfl) ?_
    refine va_sld hx hb hX hbl hbA hS (show ¬ ((0 : Int32) < 0 ∨ 7 ≤ (0 : Int32).toNatClampNeg) by decide) dL_law_29 ?_
    refine W.eq (g2 := F0 m 30 ls [.int (xs 0)]) rfl ?_
    refine lv_bipush (v := 63) hx hb dL_law_30 (by decide) ?_
    refine lv_iand hx hb dL_law_32 ?_
    refine lv_topi (fun v25 ev25 => ?_)
    rcases (show v25.toInt < 0 ∨ 39 < v25.toInt ∨ v25.toInt = 0 ∨ v25.toInt = 1 ∨ v25.toInt = 2 ∨ v25.toInt = 3 ∨ v25.toInt = 4 ∨ v25.toInt = 5 ∨ v25.toInt = 6 ∨ v25.toInt = 7 ∨ v25.toInt = 8 ∨ v25.toInt = 9 ∨ v25.toInt = 10 ∨ v25.toInt = 11 ∨ v25.toInt = 12 ∨ v25.toInt = 13 ∨ v25.toInt = 14 ∨ v25.toInt = 15 ∨ v25.toInt = 16 ∨ v25.toInt = 17 ∨ v25.toInt = 18 ∨ v25.toInt = 19 ∨ v25.toInt = 20 ∨ v25.toInt = 21 ∨ v25.toInt = 22 ∨ v25.toInt = 23 ∨ v25.toInt = 24 ∨ v25.toInt = 25 ∨ v25.toInt = 26 ∨ v25.toInt = 27 ∨ v25.toInt = 28 ∨ v25.toInt = 29 ∨ v25.toInt = 30 ∨ v25.toInt = 31 ∨ v25.toInt = 32 ∨ v25.toInt = 33 ∨ v25.toInt = 34 ∨ v25.toInt = 35 ∨ v25.toInt = 36 ∨ v25.toInt = 37 ∨ v25.toInt = 38 ∨ v25.toInt = 39 by omega) with c26 | c26 | c26 | c26 | c26 | c26 | c26 | c26 | c26 | c26 | c26 | c26 | c26 | c26 | c26 | c26 | c26 | c26 | c26 | c26 | c26 | c26 | c26 | c26 | c26 | c26 | c26 | c26 | c26 | c26 | c26 | c26 | c26 | c26 | c26 | c26 | c26 | c26 | c26 | c26 | c26 | c26
    · refine lv_tableOut (tgt := 1885) hx hb dL_law_33 (Or.inl c26) (by decide) ?_
      exact lw_tail C0 hA2 (Nat.le_of_ble_eq_true rfl) (Nat.le_of_ble_eq_true rfl) hS (lv_sub hl [0, 3] rfl)
    · refine lv_tableOut (tgt := 1885) hx hb dL_law_33 (Or.inr c26) (by decide) ?_
      exact lw_tail C0 hA2 (Nat.le_of_ble_eq_true rfl) (Nat.le_of_ble_eq_true rfl) hS (lv_sub hl [0, 3] rfl)
    · refine lv_tableIn (off := 175) (tgt := 208) hx hb dL_law_33 (by rw [c26]; decide) (by rw [c26]; decide) (by rw [c26]; rfl) (by decide) ?_
      exact lc_0 C0 hKN hA hA2 hP hD hS hl
    · refine lv_tableIn (off := 218) (tgt := 251) hx hb dL_law_33 (by rw [c26]; decide) (by rw [c26]; decide) (by rw [c26]; rfl) (by decide) ?_
      exact lc_1 C0 hKN hA hA2 hP hD hS hl
    · refine lv_tableIn (off := 261) (tgt := 294) hx hb dL_law_33 (by rw [c26]; decide) (by rw [c26]; decide) (by rw [c26]; rfl) (by decide) ?_
      exact lc_2 C0 hKN hA hA2 hP hD hS hl
    · refine lv_tableIn (off := 294) (tgt := 327) hx hb dL_law_33 (by rw [c26]; decide) (by rw [c26]; decide) (by rw [c26]; rfl) (by decide) ?_
      exact lc_3 C0 hKN hA hA2 hP hD hS hl
    · refine lv_tableIn (off := 317) (tgt := 350) hx hb dL_law_33 (by rw [c26]; decide) (by rw [c26]; decide) (by rw [c26]; rfl) (by decide) ?_
      exact lc_4 C0 hKN hA hA2 hP hD hS hl
    · refine lv_tableIn (off := 360) (tgt := 393) hx hb dL_law_33 (by rw [c26]; decide) (by rw [c26]; decide) (by rw [c26]; rfl) (by decide) ?_
      exact lc_5 C0 hKN hA hA2 hP hD hS hl
    · refine lv_tableIn (off := 383) (tgt := 416) hx hb dL_law_33 (by rw [c26]; decide) (by rw [c26]; decide) (by rw [c26]; rfl) (by decide) ?_
      exact lc_6 C0 hKN hA hA2 hP hD hS hl
    · refine lv_tableIn (off := 426) (tgt := 459) hx hb dL_law_33 (by rw [c26]; decide) (by rw [c26]; decide) (by rw [c26]; rfl) (by decide) ?_
      exact lc_7 C0 hKN hA hA2 hP hD hS hl
    · refine lv_tableIn (off := 517) (tgt := 550) hx hb dL_law_33 (by rw [c26]; decide) (by rw [c26]; decide) (by rw [c26]; rfl) (by decide) ?_
      exact lc_8 C0 hKN hA hA2 hP hD hS hl
    · refine lv_tableIn (off := 580) (tgt := 613) hx hb dL_law_33 (by rw [c26]; decide) (by rw [c26]; decide) (by rw [c26]; rfl) (by decide) ?_
      exact lc_9 C0 hKN hA hA2 hP hD hS hl
    · refine lv_tableIn (off := 603) (tgt := 636) hx hb dL_law_33 (by rw [c26]; decide) (by rw [c26]; decide) (by rw [c26]; rfl) (by decide) ?_
      exact lc_10 C0 hKN hA hA2 hP hD hS hl
    · refine lv_tableIn (off := 626) (tgt := 659) hx hb dL_law_33 (by rw [c26]; decide) (by rw [c26]; decide) (by rw [c26]; rfl) (by decide) ?_
      exact lc_11 C0 hKN hA hA2 hP hD hS hl
    · refine lv_tableIn (off := 689) (tgt := 722) hx hb dL_law_33 (by rw [c26]; decide) (by rw [c26]; decide) (by rw [c26]; rfl) (by decide) ?_
      exact lc_12 C0 hKN hA hA2 hP hD hS hl
    · refine lv_tableIn (off := 765) (tgt := 798) hx hb dL_law_33 (by rw [c26]; decide) (by rw [c26]; decide) (by rw [c26]; rfl) (by decide) ?_
      exact lc_13 C0 hKN hA hA2 hP hD hS hl
    · refine lv_tableIn (off := 819) (tgt := 852) hx hb dL_law_33 (by rw [c26]; decide) (by rw [c26]; decide) (by rw [c26]; rfl) (by decide) ?_
      exact lc_14 C0 hKN hA hA2 hP hD hS hl
    · refine lv_tableIn (off := 843) (tgt := 876) hx hb dL_law_33 (by rw [c26]; decide) (by rw [c26]; decide) (by rw [c26]; rfl) (by decide) ?_
      exact lc_15 C0 hKN hA hA2 hP hD hS hl
    · refine lv_tableIn (off := 876) (tgt := 909) hx hb dL_law_33 (by rw [c26]; decide) (by rw [c26]; decide) (by rw [c26]; rfl) (by decide) ?_
      exact lc_16 C0 hKN hA hA2 hP hD hS hl
    · refine lv_tableIn (off := 909) (tgt := 942) hx hb dL_law_33 (by rw [c26]; decide) (by rw [c26]; decide) (by rw [c26]; rfl) (by decide) ?_
      exact lc_17 C0 hKN hA hA2 hP hD hS hl
    · refine lv_tableIn (off := 952) (tgt := 985) hx hb dL_law_33 (by rw [c26]; decide) (by rw [c26]; decide) (by rw [c26]; rfl) (by decide) ?_
      exact lc_18 C0 hKN hA hA2 hP hD hS hl
    · refine lv_tableIn (off := 1015) (tgt := 1048) hx hb dL_law_33 (by rw [c26]; decide) (by rw [c26]; decide) (by rw [c26]; rfl) (by decide) ?_
      exact lc_19 C0 hKN hA hA2 hP hD hS hl
    · refine lv_tableIn (off := 1058) (tgt := 1091) hx hb dL_law_33 (by rw [c26]; decide) (by rw [c26]; decide) (by rw [c26]; rfl) (by decide) ?_
      exact lc_20 C0 hKN hA hA2 hP hD hS hl
    · refine lv_tableIn (off := 1101) (tgt := 1134) hx hb dL_law_33 (by rw [c26]; decide) (by rw [c26]; decide) (by rw [c26]; rfl) (by decide) ?_
      exact lc_21 C0 hKN hA hA2 hP hD hS hl
    · refine lv_tableIn (off := 1154) (tgt := 1187) hx hb dL_law_33 (by rw [c26]; decide) (by rw [c26]; decide) (by rw [c26]; rfl) (by decide) ?_
      exact lc_22 C0 hKN hA hA2 hP hD hS hl
    · refine lv_tableIn (off := 1197) (tgt := 1230) hx hb dL_law_33 (by rw [c26]; decide) (by rw [c26]; decide) (by rw [c26]; rfl) (by decide) ?_
      exact lc_23 C0 hKN hA hA2 hP hD hS hl
    · refine lv_tableIn (off := 1260) (tgt := 1293) hx hb dL_law_33 (by rw [c26]; decide) (by rw [c26]; decide) (by rw [c26]; rfl) (by decide) ?_
      exact lc_24 C0 hKN hA hA2 hP hD hS hl
    · refine lv_tableIn (off := 1294) (tgt := 1327) hx hb dL_law_33 (by rw [c26]; decide) (by rw [c26]; decide) (by rw [c26]; rfl) (by decide) ?_
      exact lc_25 C0 hKN hA hA2 hP hD hS hl
    · refine lv_tableIn (off := 1327) (tgt := 1360) hx hb dL_law_33 (by rw [c26]; decide) (by rw [c26]; decide) (by rw [c26]; rfl) (by decide) ?_
      exact lc_26 C0 hKN hA hA2 hP hD hS hl
    · refine lv_tableIn (off := 1371) (tgt := 1404) hx hb dL_law_33 (by rw [c26]; decide) (by rw [c26]; decide) (by rw [c26]; rfl) (by decide) ?_
      exact lc_27 C0 hKN hA hA2 hP hD hS hl
    · refine lv_tableIn (off := 1414) (tgt := 1447) hx hb dL_law_33 (by rw [c26]; decide) (by rw [c26]; decide) (by rw [c26]; rfl) (by decide) ?_
      exact lc_28 C0 hKN hA hA2 hP hD hS hl
    · refine lv_tableIn (off := 1458) (tgt := 1491) hx hb dL_law_33 (by rw [c26]; decide) (by rw [c26]; decide) (by rw [c26]; rfl) (by decide) ?_
      exact lc_29 C0 hKN hA hA2 hP hD hS hl
    · refine lv_tableIn (off := 1491) (tgt := 1524) hx hb dL_law_33 (by rw [c26]; decide) (by rw [c26]; decide) (by rw [c26]; rfl) (by decide) ?_
      exact lc_30 C0 hKN hA hA2 hP hD hS hl
    · refine lv_tableIn (off := 1554) (tgt := 1587) hx hb dL_law_33 (by rw [c26]; decide) (by rw [c26]; decide) (by rw [c26]; rfl) (by decide) ?_
      exact lc_31 C0 hKN hA hA2 hP hD hS hl
    · refine lv_tableIn (off := 1567) (tgt := 1600) hx hb dL_law_33 (by rw [c26]; decide) (by rw [c26]; decide) (by rw [c26]; rfl) (by decide) ?_
      exact lc_32 C0 hKN hA hA2 hP hD hS hl
    · refine lv_tableIn (off := 1600) (tgt := 1633) hx hb dL_law_33 (by rw [c26]; decide) (by rw [c26]; decide) (by rw [c26]; rfl) (by decide) ?_
      exact lc_33 C0 hKN hA hA2 hP hD hS hl
    · refine lv_tableIn (off := 1643) (tgt := 1676) hx hb dL_law_33 (by rw [c26]; decide) (by rw [c26]; decide) (by rw [c26]; rfl) (by decide) ?_
      exact lc_34 C0 hKN hA hA2 hP hD hS hl
    · refine lv_tableIn (off := 1707) (tgt := 1740) hx hb dL_law_33 (by rw [c26]; decide) (by rw [c26]; decide) (by rw [c26]; rfl) (by decide) ?_
      exact lc_35 C0 hKN hA hA2 hP hD hS hl
    · refine lv_tableIn (off := 1750) (tgt := 1783) hx hb dL_law_33 (by rw [c26]; decide) (by rw [c26]; decide) (by rw [c26]; rfl) (by decide) ?_
      exact lc_36 C0 hKN hA hA2 hP hD hS hl
    · refine lv_tableIn (off := 1783) (tgt := 1816) hx hb dL_law_33 (by rw [c26]; decide) (by rw [c26]; decide) (by rw [c26]; rfl) (by decide) ?_
      exact lc_37 C0 hKN hA hA2 hP hD hS hl
    · refine lv_tableIn (off := 1806) (tgt := 1839) hx hb dL_law_33 (by rw [c26]; decide) (by rw [c26]; decide) (by rw [c26]; rfl) (by decide) ?_
      exact lc_38 C0 hKN hA hA2 hP hD hS hl
    · refine lv_tableIn (off := 1829) (tgt := 1862) hx hb dL_law_33 (by rw [c26]; decide) (by rw [c26]; decide) (by rw [c26]; rfl) (by decide) ?_
      exact lc_39 C0 hKN hA hA2 hP hD hS hl
