set_option maxHeartbeats 4000000 in
set_option maxRecDepth 100000 in
theorem lw_head {p : Program} {l : Launch} {e : Env} {s : State} {m : MethodId} {below : List Frame} {meth : Method} {c : Code} {sb L : Nat} {xs : Nat → Int32} (hL : L ≤ 3584) (C0 : lw_At p s m meth c sb L xs) {D : va_G} {Y : Nat → ClassId} {Z : Nat → Nat} (hKN : KN D Y Z s) {A : Nat → Prop} (hSZ : SZ Z A s s.heap) (hA : ∀ q, s.heap.size ≤ q → A q) (hA2 : ∀ q, A q → s.heap.size ≤ q) {x om : Nat} {a : Nat → Nat} {H : Heap} {locs : List Loc} {ls : Array Slot} {I : Nat → Int32} {J : Nat → Int64} {F : Nat → Nat → Int32} {G : Nat → Nat → Int64} {ws : va_W} {T : RT} {g : GN} {q : GQ} {k0 n0 : Nat} (hk0 : k0 + 559104 ≤ 600000) (hn0 : n0 + 3969536 ≤ 7302250) (hI : LI D Y Z A s sb x om a H locs ls I J F G ws T g q 0) : W p l e room_1 s m #[Value.ref sb] below meth c H locs k0 n0 (lw_Z below #[Value.ref sb] s) (F0 m 18 ls []) := by
  obtain ⟨hx, hb, hr, hml, hown, hts, hX, hbl, hlocks, hgv⟩ := id C0
  have hb : c.code = cL_law := hb
  have hown : s.vm.findClass RL = some m.cls := hown
  have hg : ∀ w ∈ GW, w.before #[Value.ref sb] s = true := fun w h => hts w (gw_tbl h)
  have hbA : ¬ A sb := fun h => absurd (hA2 sb h) (Nat.not_le.mpr hbl)
  refine w_loopC (σ := (Nat → Int32) × (Nat → Int64) × (Nat → Nat → Int32) × (Nat → Nat → Int64) × va_W × RT × GN × GQ × Int32) (al := 1092) (sl := 7753) (M := 512) (fun xx H locs ls => match xx with | (I, J, F, G, ws, T, g, q, i) => LI D Y Z A s sb x om a H locs ls I J F G ws T g q i ∧ 0 ≤ i.toInt ∧ i.toInt ≤ 3584) (fun xx => match xx with | (I, J, F, G, ws, T, g, q, i) => ((3584 - i.toInt) / 7).toNat) (I, J, F, G, ws, T, g, q, 0) ⟨hI, by decide, by decide⟩ (show ((3584 - (0 : Int32).toInt) / 7).toNat ≤ 512 by decide) (fun xx bd sd H locs ls hI hbs ih => ?_)
  obtain ⟨I, J, F, G, ws, T, g, q, i⟩ := xx
  have hbs : bd + 1092 * ((3584 - i.toInt) / 7).toNat ≤ k0 + 1092 * 512 ∧ sd + 7753 * ((3584 - i.toInt) / 7).toNat ≤ n0 + 7753 * 512 := hbs
  obtain ⟨⟨hP, hD, hS, hl, hT, htx, hm⟩, hi0, hi1⟩ := hI
  have hinc : i.toInt + 7 ≤ (L : Int) → ∀ (I : Nat → Int32) (J : Nat → Int64) (F : Nat → Nat → Int32) (G : Nat → Nat → Int64) (ws : va_W) (T : RT) (g : GN) (q : GQ) (bd2 sd2 : Nat) (H : Heap) (locs : List Loc) (ls : Array Slot), bd2 ≤ bd + 1092 → sd2 ≤ sd + 7753 → LI D Y Z A s sb x om a H locs ls I J F G ws T g q i → W p l e room_1 s m #[Value.ref sb] below meth c H locs bd2 sd2 (lw_Z below #[Value.ref sb] s) (F0 m 1878 ls []) := by
    intro hi7 I2 J2 F2 G2 w2 T2 g2 q2 bd2 sd2 H locs ls hb1 hb2 hI2
    obtain ⟨hP, hD, hS, hl, hT, htx, hm⟩ := hI2
    obtain ⟨v1, ev1⟩ : ∃ y : Int32, y = i + 7 := ⟨_, rfl⟩
    have hv1 := i_add (Eq.refl i.toInt) (show (7 : Int32).toInt = 7 by decide) ev1 (by omega) (by omega)
    refine lv_iinc (v := v1) (lv' := [(3, .int v1), (2, .ref om), (1, .ref x), (0, .ref sb)]) hx hb dL_law_1878 hl (k := 0) rfl (by rw [ev1]; rfl) (by decide) rfl (fun ls hl => ?_)
    refine lv_goto (tgt := 18) hx hb dL_law_1881 (by decide) ?_
    exact ih (I2, J2, F2, G2, w2, T2, g2, q2, v1) bd2 sd2 H locs ls (by show ((3584 - v1.toInt) / 7).toNat < ((3584 - i.toInt) / 7).toNat; omega) (by show bd2 + 1092 * ((3584 - v1.toInt) / 7).toNat ≤ k0 + 1092 * 512 ∧ sd2 + 7753 * ((3584 - v1.toInt) / 7).toNat ≤ n0 + 7753 * 512; omega) ⟨⟨hP, hD, hS, lv_sub hl [0, 1, 2, 3] rfl, hT, htx, hm⟩, by omega, by omega⟩
  refine lv_iload_n hx hb dL_law_18 rfl (lv_at hl 0 rfl) ?_
  refine lv_aload_n hx hb dL_law_19 rfl (lv_at hl 3 rfl) ?_
  refine va_slen hx hb hX hbl hbA hS dL_law_20 ?_
  refine lv_topi (fun v1 ev1 => ?_)
  have hv1 := ofn_i (n := L) ev1 (by omega)
  refine lv_bipush (v := 7) hx hb dL_law_21 (by decide) ?_
  refine lv_isub hx hb dL_law_23 ?_
  refine lv_topi (fun v2 ev2 => ?_)
  have hv2 := i_sub (Eq.refl v1.toInt) (show (7 : Int32).toInt = 7 by decide) ev2 (by omega) (by omega)
  refine lv_icmp_gt (tgt := 1884) hx hb dL_law_24 (by decide) (fun c3 => ?_) (fun c3 => ?_)
  · skip
    have c3 := i_lt (Eq.refl v2.toInt) (Eq.refl i.toInt) c3
    refine lv_iconst (v := 1) hx hb dL_law_1884 (by decide) ?_
    refine va_forget (fun q hq => hA2 _ (hS.2.2 q hq)) ?_
    refine W.widen (k := 600000) (n := 7302250) (by omega) (by omega) ?_
    exact lw_ret hx hb hr hlocks dL_law_1885
  · skip
    have c3 := i_nlt (Eq.refl v2.toInt) (Eq.refl i.toInt) c3
    refine lv_aload_n hx hb dL_law_27 rfl (lv_at hl 3 rfl) ?_
    refine lv_iload_n hx hb dL_law_28 rfl (lv_at hl 0 rfl) ?_
    refine va_sld hx hb hX hbl hbA hS (vp_in_iff.mpr ⟨by omega, by omega⟩) dL_law_29 ?_
    refine lv_topi (fun v4 ev4 => ?_)
    obtain rfl : v4 = (xs (i.toInt.toNat + 0)) := by rw [ev4, show i.toNatClampNeg = i.toInt.toNat + 0 by have c9 := clampI (x := i) (by omega); omega]
    refine lv_bipush (v := 63) hx hb dL_law_30 (by decide) ?_
    refine lv_iand hx hb dL_law_32 ?_
    refine lv_topi (fun v5 ev5 => ?_)
    have hv5 := i_and (show (63 : Int32).toInt = 63 by decide) ev5 (by decide)
    rcases (show 39 < v5.toInt ∨ v5.toInt = 0 ∨ v5.toInt = 1 ∨ v5.toInt = 2 ∨ v5.toInt = 3 ∨ v5.toInt = 4 ∨ v5.toInt = 5 ∨ v5.toInt = 6 ∨ v5.toInt = 7 ∨ v5.toInt = 8 ∨ v5.toInt = 9 ∨ v5.toInt = 10 ∨ v5.toInt = 11 ∨ v5.toInt = 12 ∨ v5.toInt = 13 ∨ v5.toInt = 14 ∨ v5.toInt = 15 ∨ v5.toInt = 16 ∨ v5.toInt = 17 ∨ v5.toInt = 18 ∨ v5.toInt = 19 ∨ v5.toInt = 20 ∨ v5.toInt = 21 ∨ v5.toInt = 22 ∨ v5.toInt = 23 ∨ v5.toInt = 24 ∨ v5.toInt = 25 ∨ v5.toInt = 26 ∨ v5.toInt = 27 ∨ v5.toInt = 28 ∨ v5.toInt = 29 ∨ v5.toInt = 30 ∨ v5.toInt = 31 ∨ v5.toInt = 32 ∨ v5.toInt = 33 ∨ v5.toInt = 34 ∨ v5.toInt = 35 ∨ v5.toInt = 36 ∨ v5.toInt = 37 ∨ v5.toInt = 38 ∨ v5.toInt = 39 by omega) with c6 | c6 | c6 | c6 | c6 | c6 | c6 | c6 | c6 | c6 | c6 | c6 | c6 | c6 | c6 | c6 | c6 | c6 | c6 | c6 | c6 | c6 | c6 | c6 | c6 | c6 | c6 | c6 | c6 | c6 | c6 | c6 | c6 | c6 | c6 | c6 | c6 | c6 | c6 | c6 | c6
    · refine lv_tableOut (tgt := 1878) hx hb dL_law_33 (Or.inr c6) (by decide) ?_
      exact (hinc (by omega)) I J F G ws T g q bd sd H locs ls (by omega) (by omega) ⟨hP, hD, hS, lv_sub hl [0, 1, 2, 3] rfl, hT, htx, hm⟩
    · refine lv_tableIn (off := 175) (tgt := 208) hx hb dL_law_33 (by rw [c6]; decide) (by rw [c6]; decide) (by rw [c6]; rfl) (by decide) ?_
      exact lc_0 C0 hKN hSZ hA hA2 hL ⟨by omega, by omega⟩ (by omega) (by omega) ⟨hP, hD, hS, lv_sub hl [0, 1, 2, 3] rfl, hT, htx, hm⟩ (hinc (by omega))
    · refine lv_tableIn (off := 218) (tgt := 251) hx hb dL_law_33 (by rw [c6]; decide) (by rw [c6]; decide) (by rw [c6]; rfl) (by decide) ?_
      exact lc_1 C0 hKN hSZ hA hA2 hL ⟨by omega, by omega⟩ (by omega) (by omega) ⟨hP, hD, hS, lv_sub hl [0, 1, 2, 3] rfl, hT, htx, hm⟩ (hinc (by omega))
    · refine lv_tableIn (off := 261) (tgt := 294) hx hb dL_law_33 (by rw [c6]; decide) (by rw [c6]; decide) (by rw [c6]; rfl) (by decide) ?_
      exact lc_2 C0 hKN hSZ hA hA2 hL ⟨by omega, by omega⟩ (by omega) (by omega) ⟨hP, hD, hS, lv_sub hl [0, 1, 2, 3] rfl, hT, htx, hm⟩ (hinc (by omega))
    · refine lv_tableIn (off := 294) (tgt := 327) hx hb dL_law_33 (by rw [c6]; decide) (by rw [c6]; decide) (by rw [c6]; rfl) (by decide) ?_
      exact lc_3 C0 hKN hSZ hA hA2 hL ⟨by omega, by omega⟩ (by omega) (by omega) ⟨hP, hD, hS, lv_sub hl [0, 1, 2, 3] rfl, hT, htx, hm⟩ (hinc (by omega))
    · refine lv_tableIn (off := 317) (tgt := 350) hx hb dL_law_33 (by rw [c6]; decide) (by rw [c6]; decide) (by rw [c6]; rfl) (by decide) ?_
      exact lc_4 C0 hKN hSZ hA hA2 hL ⟨by omega, by omega⟩ (by omega) (by omega) ⟨hP, hD, hS, lv_sub hl [0, 1, 2, 3] rfl, hT, htx, hm⟩ (hinc (by omega))
    · refine lv_tableIn (off := 360) (tgt := 393) hx hb dL_law_33 (by rw [c6]; decide) (by rw [c6]; decide) (by rw [c6]; rfl) (by decide) ?_
      exact lc_5 C0 hKN hSZ hA hA2 hL ⟨by omega, by omega⟩ (by omega) (by omega) ⟨hP, hD, hS, lv_sub hl [0, 1, 2, 3] rfl, hT, htx, hm⟩ (hinc (by omega))
    · refine lv_tableIn (off := 383) (tgt := 416) hx hb dL_law_33 (by rw [c6]; decide) (by rw [c6]; decide) (by rw [c6]; rfl) (by decide) ?_
      exact lc_6 C0 hKN hSZ hA hA2 hL ⟨by omega, by omega⟩ (by omega) (by omega) ⟨hP, hD, hS, lv_sub hl [0, 1, 2, 3] rfl, hT, htx, hm⟩ (hinc (by omega))
    · refine lv_tableIn (off := 426) (tgt := 459) hx hb dL_law_33 (by rw [c6]; decide) (by rw [c6]; decide) (by rw [c6]; rfl) (by decide) ?_
      exact lc_7 C0 hKN hSZ hA hA2 hL ⟨by omega, by omega⟩ (by omega) (by omega) ⟨hP, hD, hS, lv_sub hl [0, 1, 2, 3] rfl, hT, htx, hm⟩ (hinc (by omega))
    · refine lv_tableIn (off := 517) (tgt := 550) hx hb dL_law_33 (by rw [c6]; decide) (by rw [c6]; decide) (by rw [c6]; rfl) (by decide) ?_
      exact lc_8 C0 hKN hSZ hA hA2 hL ⟨by omega, by omega⟩ (by omega) (by omega) ⟨hP, hD, hS, lv_sub hl [0, 1, 2, 3] rfl, hT, htx, hm⟩ (hinc (by omega))
    · refine lv_tableIn (off := 580) (tgt := 613) hx hb dL_law_33 (by rw [c6]; decide) (by rw [c6]; decide) (by rw [c6]; rfl) (by decide) ?_
      exact lc_9 C0 hKN hSZ hA hA2 hL ⟨by omega, by omega⟩ (by omega) (by omega) ⟨hP, hD, hS, lv_sub hl [0, 1, 2, 3] rfl, hT, htx, hm⟩ (hinc (by omega))
    · refine lv_tableIn (off := 603) (tgt := 636) hx hb dL_law_33 (by rw [c6]; decide) (by rw [c6]; decide) (by rw [c6]; rfl) (by decide) ?_
      exact lc_10 C0 hKN hSZ hA hA2 hL ⟨by omega, by omega⟩ (by omega) (by omega) ⟨hP, hD, hS, lv_sub hl [0, 1, 2, 3] rfl, hT, htx, hm⟩ (hinc (by omega))
    · refine lv_tableIn (off := 626) (tgt := 659) hx hb dL_law_33 (by rw [c6]; decide) (by rw [c6]; decide) (by rw [c6]; rfl) (by decide) ?_
      exact lc_11 C0 hKN hSZ hA hA2 hL ⟨by omega, by omega⟩ (by omega) (by omega) ⟨hP, hD, hS, lv_sub hl [0, 1, 2, 3] rfl, hT, htx, hm⟩ (hinc (by omega))
    · refine lv_tableIn (off := 689) (tgt := 722) hx hb dL_law_33 (by rw [c6]; decide) (by rw [c6]; decide) (by rw [c6]; rfl) (by decide) ?_
      exact lc_12 C0 hKN hSZ hA hA2 hL ⟨by omega, by omega⟩ (by omega) (by omega) ⟨hP, hD, hS, lv_sub hl [0, 1, 2, 3] rfl, hT, htx, hm⟩ (hinc (by omega))
    · refine lv_tableIn (off := 764) (tgt := 797) hx hb dL_law_33 (by rw [c6]; decide) (by rw [c6]; decide) (by rw [c6]; rfl) (by decide) ?_
      exact lc_13 C0 hKN hSZ hA hA2 hL ⟨by omega, by omega⟩ (by omega) (by omega) ⟨hP, hD, hS, lv_sub hl [0, 1, 2, 3] rfl, hT, htx, hm⟩ (hinc (by omega))
    · refine lv_tableIn (off := 817) (tgt := 850) hx hb dL_law_33 (by rw [c6]; decide) (by rw [c6]; decide) (by rw [c6]; rfl) (by decide) ?_
      exact lc_14 C0 hKN hSZ hA hA2 hL ⟨by omega, by omega⟩ (by omega) (by omega) ⟨hP, hD, hS, lv_sub hl [0, 1, 2, 3] rfl, hT, htx, hm⟩ (hinc (by omega))
    · refine lv_tableIn (off := 840) (tgt := 873) hx hb dL_law_33 (by rw [c6]; decide) (by rw [c6]; decide) (by rw [c6]; rfl) (by decide) ?_
      exact lc_15 C0 hKN hSZ hA hA2 hL ⟨by omega, by omega⟩ (by omega) (by omega) ⟨hP, hD, hS, lv_sub hl [0, 1, 2, 3] rfl, hT, htx, hm⟩ (hinc (by omega))
    · refine lv_tableIn (off := 873) (tgt := 906) hx hb dL_law_33 (by rw [c6]; decide) (by rw [c6]; decide) (by rw [c6]; rfl) (by decide) ?_
      exact lc_16 C0 hKN hSZ hA hA2 hL ⟨by omega, by omega⟩ (by omega) (by omega) ⟨hP, hD, hS, lv_sub hl [0, 1, 2, 3] rfl, hT, htx, hm⟩ (hinc (by omega))
    · refine lv_tableIn (off := 906) (tgt := 939) hx hb dL_law_33 (by rw [c6]; decide) (by rw [c6]; decide) (by rw [c6]; rfl) (by decide) ?_
      exact lc_17 C0 hKN hSZ hA hA2 hL ⟨by omega, by omega⟩ (by omega) (by omega) ⟨hP, hD, hS, lv_sub hl [0, 1, 2, 3] rfl, hT, htx, hm⟩ (hinc (by omega))
    · refine lv_tableIn (off := 949) (tgt := 982) hx hb dL_law_33 (by rw [c6]; decide) (by rw [c6]; decide) (by rw [c6]; rfl) (by decide) ?_
      exact lc_18 C0 hKN hSZ hA hA2 hL ⟨by omega, by omega⟩ (by omega) (by omega) ⟨hP, hD, hS, lv_sub hl [0, 1, 2, 3] rfl, hT, htx, hm⟩ (hinc (by omega))
    · refine lv_tableIn (off := 1012) (tgt := 1045) hx hb dL_law_33 (by rw [c6]; decide) (by rw [c6]; decide) (by rw [c6]; rfl) (by decide) ?_
      exact lc_19 C0 hKN hSZ hA hA2 hL ⟨by omega, by omega⟩ (by omega) (by omega) ⟨hP, hD, hS, lv_sub hl [0, 1, 2, 3] rfl, hT, htx, hm⟩ (hinc (by omega))
    · refine lv_tableIn (off := 1055) (tgt := 1088) hx hb dL_law_33 (by rw [c6]; decide) (by rw [c6]; decide) (by rw [c6]; rfl) (by decide) ?_
      exact lc_20 C0 hKN hSZ hA hA2 hL ⟨by omega, by omega⟩ (by omega) (by omega) ⟨hP, hD, hS, lv_sub hl [0, 1, 2, 3] rfl, hT, htx, hm⟩ (hinc (by omega))
    · refine lv_tableIn (off := 1098) (tgt := 1131) hx hb dL_law_33 (by rw [c6]; decide) (by rw [c6]; decide) (by rw [c6]; rfl) (by decide) ?_
      exact lc_21 C0 hKN hSZ hA hA2 hL ⟨by omega, by omega⟩ (by omega) (by omega) ⟨hP, hD, hS, lv_sub hl [0, 1, 2, 3] rfl, hT, htx, hm⟩ (hinc (by omega))
    · refine lv_tableIn (off := 1151) (tgt := 1184) hx hb dL_law_33 (by rw [c6]; decide) (by rw [c6]; decide) (by rw [c6]; rfl) (by decide) ?_
      exact lc_22 C0 hKN hSZ hA hA2 hL ⟨by omega, by omega⟩ (by omega) (by omega) ⟨hP, hD, hS, lv_sub hl [0, 1, 2, 3] rfl, hT, htx, hm⟩ (hinc (by omega))
    · refine lv_tableIn (off := 1194) (tgt := 1227) hx hb dL_law_33 (by rw [c6]; decide) (by rw [c6]; decide) (by rw [c6]; rfl) (by decide) ?_
      exact lc_23 C0 hKN hSZ hA hA2 hL ⟨by omega, by omega⟩ (by omega) (by omega) ⟨hP, hD, hS, lv_sub hl [0, 1, 2, 3] rfl, hT, htx, hm⟩ (hinc (by omega))
    · refine lv_tableIn (off := 1257) (tgt := 1290) hx hb dL_law_33 (by rw [c6]; decide) (by rw [c6]; decide) (by rw [c6]; rfl) (by decide) ?_
      exact lc_24 C0 hKN hSZ hA hA2 hL ⟨by omega, by omega⟩ (by omega) (by omega) ⟨hP, hD, hS, lv_sub hl [0, 1, 2, 3] rfl, hT, htx, hm⟩ (hinc (by omega))
    · refine lv_tableIn (off := 1290) (tgt := 1323) hx hb dL_law_33 (by rw [c6]; decide) (by rw [c6]; decide) (by rw [c6]; rfl) (by decide) ?_
      exact lc_25 C0 hKN hSZ hA hA2 hL ⟨by omega, by omega⟩ (by omega) (by omega) ⟨hP, hD, hS, lv_sub hl [0, 1, 2, 3] rfl, hT, htx, hm⟩ (hinc (by omega))
    · refine lv_tableIn (off := 1323) (tgt := 1356) hx hb dL_law_33 (by rw [c6]; decide) (by rw [c6]; decide) (by rw [c6]; rfl) (by decide) ?_
      exact lc_26 C0 hKN hSZ hA hA2 hL ⟨by omega, by omega⟩ (by omega) (by omega) ⟨hP, hD, hS, lv_sub hl [0, 1, 2, 3] rfl, hT, htx, hm⟩ (hinc (by omega))
    · refine lv_tableIn (off := 1366) (tgt := 1399) hx hb dL_law_33 (by rw [c6]; decide) (by rw [c6]; decide) (by rw [c6]; rfl) (by decide) ?_
      exact lc_27 C0 hKN hSZ hA hA2 hL ⟨by omega, by omega⟩ (by omega) (by omega) ⟨hP, hD, hS, lv_sub hl [0, 1, 2, 3] rfl, hT, htx, hm⟩ (hinc (by omega))
    · refine lv_tableIn (off := 1409) (tgt := 1442) hx hb dL_law_33 (by rw [c6]; decide) (by rw [c6]; decide) (by rw [c6]; rfl) (by decide) ?_
      exact lc_28 C0 hKN hSZ hA hA2 hL ⟨by omega, by omega⟩ (by omega) (by omega) ⟨hP, hD, hS, lv_sub hl [0, 1, 2, 3] rfl, hT, htx, hm⟩ (hinc (by omega))
    · refine lv_tableIn (off := 1452) (tgt := 1485) hx hb dL_law_33 (by rw [c6]; decide) (by rw [c6]; decide) (by rw [c6]; rfl) (by decide) ?_
      exact lc_29 C0 hKN hSZ hA hA2 hL ⟨by omega, by omega⟩ (by omega) (by omega) ⟨hP, hD, hS, lv_sub hl [0, 1, 2, 3] rfl, hT, htx, hm⟩ (hinc (by omega))
    · refine lv_tableIn (off := 1485) (tgt := 1518) hx hb dL_law_33 (by rw [c6]; decide) (by rw [c6]; decide) (by rw [c6]; rfl) (by decide) ?_
      exact lc_30 C0 hKN hSZ hA hA2 hL ⟨by omega, by omega⟩ (by omega) (by omega) ⟨hP, hD, hS, lv_sub hl [0, 1, 2, 3] rfl, hT, htx, hm⟩ (hinc (by omega))
    · refine lv_tableIn (off := 1548) (tgt := 1581) hx hb dL_law_33 (by rw [c6]; decide) (by rw [c6]; decide) (by rw [c6]; rfl) (by decide) ?_
      exact lc_31 C0 hKN hSZ hA hA2 hL ⟨by omega, by omega⟩ (by omega) (by omega) ⟨hP, hD, hS, lv_sub hl [0, 1, 2, 3] rfl, hT, htx, hm⟩ (hinc (by omega))
    · refine lv_tableIn (off := 1561) (tgt := 1594) hx hb dL_law_33 (by rw [c6]; decide) (by rw [c6]; decide) (by rw [c6]; rfl) (by decide) ?_
      exact lc_32 C0 hKN hSZ hA hA2 hL ⟨by omega, by omega⟩ (by omega) (by omega) ⟨hP, hD, hS, lv_sub hl [0, 1, 2, 3] rfl, hT, htx, hm⟩ (hinc (by omega))
    · refine lv_tableIn (off := 1594) (tgt := 1627) hx hb dL_law_33 (by rw [c6]; decide) (by rw [c6]; decide) (by rw [c6]; rfl) (by decide) ?_
      exact lc_33 C0 hKN hSZ hA hA2 hL ⟨by omega, by omega⟩ (by omega) (by omega) ⟨hP, hD, hS, lv_sub hl [0, 1, 2, 3] rfl, hT, htx, hm⟩ (hinc (by omega))
    · refine lv_tableIn (off := 1637) (tgt := 1670) hx hb dL_law_33 (by rw [c6]; decide) (by rw [c6]; decide) (by rw [c6]; rfl) (by decide) ?_
      exact lc_34 C0 hKN hSZ hA hA2 hL ⟨by omega, by omega⟩ (by omega) (by omega) ⟨hP, hD, hS, lv_sub hl [0, 1, 2, 3] rfl, hT, htx, hm⟩ (hinc (by omega))
    · refine lv_tableIn (off := 1700) (tgt := 1733) hx hb dL_law_33 (by rw [c6]; decide) (by rw [c6]; decide) (by rw [c6]; rfl) (by decide) ?_
      exact lc_35 C0 hKN hSZ hA hA2 hL ⟨by omega, by omega⟩ (by omega) (by omega) ⟨hP, hD, hS, lv_sub hl [0, 1, 2, 3] rfl, hT, htx, hm⟩ (hinc (by omega))
    · refine lv_tableIn (off := 1743) (tgt := 1776) hx hb dL_law_33 (by rw [c6]; decide) (by rw [c6]; decide) (by rw [c6]; rfl) (by decide) ?_
      exact lc_36 C0 hKN hSZ hA hA2 hL ⟨by omega, by omega⟩ (by omega) (by omega) ⟨hP, hD, hS, lv_sub hl [0, 1, 2, 3] rfl, hT, htx, hm⟩ (hinc (by omega))
    · refine lv_tableIn (off := 1776) (tgt := 1809) hx hb dL_law_33 (by rw [c6]; decide) (by rw [c6]; decide) (by rw [c6]; rfl) (by decide) ?_
      exact lc_37 C0 hKN hSZ hA hA2 hL ⟨by omega, by omega⟩ (by omega) (by omega) ⟨hP, hD, hS, lv_sub hl [0, 1, 2, 3] rfl, hT, htx, hm⟩ (hinc (by omega))
    · refine lv_tableIn (off := 1799) (tgt := 1832) hx hb dL_law_33 (by rw [c6]; decide) (by rw [c6]; decide) (by rw [c6]; rfl) (by decide) ?_
      exact lc_38 C0 hKN hSZ hA hA2 hL ⟨by omega, by omega⟩ (by omega) (by omega) ⟨hP, hD, hS, lv_sub hl [0, 1, 2, 3] rfl, hT, htx, hm⟩ (hinc (by omega))
    · refine lv_tableIn (off := 1822) (tgt := 1855) hx hb dL_law_33 (by rw [c6]; decide) (by rw [c6]; decide) (by rw [c6]; rfl) (by decide) ?_
      exact lc_39 C0 hKN hSZ hA hA2 hL ⟨by omega, by omega⟩ (by omega) (by omega) ⟨hP, hD, hS, lv_sub hl [0, 1, 2, 3] rfl, hT, htx, hm⟩ (hinc (by omega))
