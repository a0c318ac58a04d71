set_option maxHeartbeats 4000000 in
set_option maxRecDepth 100000 in
theorem x_X10_count (l : Launch) (D : va_G) (Y : Nat → ClassId) (Z : Nat → Nat) (sz : Nat) (ws : va_W) (T : RT) (g : GN) (q : GQ)  (p0 : Nat) (p1 : Int32) (hT : TW Y Z T g q ws) (ht0 : T p0 = (1, 0, 0)) : Met l yX10_count (.code yX10_count cX10_count 2 (some .int) :: GW) ({ frames := 2, cells := 0, slots := 0, locals := 45 }) (va_Pc [.ref p0, .int p1] (CPC D Y Z ws sz)) (QG (S := Int32) (fun u => some (.int u)) (fun u => True) (fun u => CB D ws (va_A ws sz)) (va_A ws sz)) 0 0 (va_A ws sz) := by
  refine Met.ofW (cc := cX10_count) (maxL := 2) (ret := (some .int)) (by decide) rfl ?_
  intro p e s m args below meth c s₁ B hml hv
  obtain ⟨rfl, ⟨hsz, hP, hKN, hD0⟩, hSZ⟩ := hv
  have hx := B.exec
  have hb := B.bytes
  have hr := B.returns
  have hts := atoms_spec (ws := .code yX10_count cX10_count 2 (some .int) :: GW) B.pre
  have hg : ∀ w ∈ GW, w.before _ s = true := fun w h => hts w (List.mem_cons_of_mem _ h)
  have hown : s.vm.findClass RX10 = some m.cls := findClass_of_methodNamed B.named
  have hlocks := B.notSynchronized
  subst hsz
  have hD := hD0.self (sz := s.heap.size)
  generalize hAe : va_A ws s.heap.size = A at hD hSZ ⊢
  have hA : ∀ q : Nat, s.heap.size ≤ q → A q := fun q h => by rw [← hAe]; exact Or.inr h
  clear hAe hD0 hts B
  have hl := lv_entry ([.ref p0, .int p1]) (n := 2) (Nat.le_of_ble_eq_true rfl)
  rw [lg_entry_eq]
  generalize (lg_sl ([.ref p0, .int p1]) ++ List.replicate (2 - (lg_sl ([.ref p0, .int p1])).length) Slot.unset).toArray = ls at hl ⊢
  have hl : lv_has ls 2 [(0, .ref p0), (1, .int p1)] := hl
  refine w_start (A0 := A) hP (fun H locs hP hS => ?_)
  refine lv_iload_n hx hb dX10_count_0 rfl (lv_at hl 1 rfl) ?_
  rcases (show p1.toInt < 0 ∨ 7 < p1.toInt ∨ p1.toInt = 0 ∨ p1.toInt = 1 ∨ p1.toInt = 2 ∨ p1.toInt = 3 ∨ p1.toInt = 4 ∨ p1.toInt = 5 ∨ p1.toInt = 6 ∨ p1.toInt = 7 by omega) with c1 | c1 | c1 | c1 | c1 | c1 | c1 | c1 | c1 | c1
  · refine lv_tableOut (tgt := 103) hx hb dX10_count_1 (Or.inl c1) (by decide) ?_
    refine lv_iconst (v := (-1)) hx hb dX10_count_103 (by decide) ?_
    refine W.widen (k := 0) (n := 0) (Nat.le_of_ble_eq_true rfl) (Nat.le_of_ble_eq_true rfl) ?_
    have zim1 : ((-1) : Int32).toInt = -1 := by decide
    exact W.iret (v := (-1)) hx hb hr (fun t ht hW => ⟨⟨((-1)), rfl, trivial, CB.mk ht hP hD⟩, hS.F ht⟩) hS.2.2 dX10_count_104
  · refine lv_tableOut (tgt := 103) hx hb dX10_count_1 (Or.inr c1) (by decide) ?_
    refine lv_iconst (v := (-1)) hx hb dX10_count_103 (by decide) ?_
    refine W.widen (k := 0) (n := 0) (Nat.le_of_ble_eq_true rfl) (Nat.le_of_ble_eq_true rfl) ?_
    have zim1 : ((-1) : Int32).toInt = -1 := by decide
    exact W.iret (v := (-1)) hx hb hr (fun t ht hW => ⟨⟨((-1)), rfl, trivial, CB.mk ht hP hD⟩, hS.F ht⟩) hS.2.2 dX10_count_104
  · refine lv_tableIn (off := 47) (tgt := 48) hx hb dX10_count_1 (by rw [c1]; decide) (by rw [c1]; decide) (by rw [c1]; rfl) (by decide) ?_
    refine lv_aload_n hx hb dX10_count_48 rfl (lv_at hl 0 rfl) ?_
    refine ok1 hT ht0 (fun p43 a2 a3 a4 a5 a6 x7 x8 x9 a10 a11 a12 a13 a14 a15 a16 a17 a18 x19 a20 a21 hk44 h22 h23 h24 h25 h26 h27 h28 h29 h30 h31 h32 h33 h34 h35 h36 h37 h38 h39 h40 h41 h42 => ?_)
    refine va_get (D := D) (ci := 10) (v := .ref a2) (C := RX10) (T := TX10) (N := 20) hx hb hg inGX10 hown hKN.1 hP p43 hk44 rfl 0 (by decide) (hg _ kw_349) (fun _ h9 => h9) rfl dX10_count_49 ?_
    refine ok2 hT h22 (fun p79 x45 a46 x47 a48 x49 a50 a51 x52 a53 a54 x55 a56 x57 hk80 h58 h59 h60 h61 h62 h63 h64 h65 h66 h67 h68 h69 h70 h71 h72 h73 h74 h75 h76 h77 h78 => ?_)
    refine va_getN (D := D) (ci := 6) (v := .int x45) (C := RX6) (T := TX6) (N := 13) hx hb hg inGX6 hown hKN.1 hP p79 hk80 rfl 0 (by decide) (va_Nw.use rfl (hKN.2.1 _ kn_41 rfl)) (fun _ h9 => h9) rfl dX10_count_52 ?_
    refine W.widen (k := 0) (n := 0) (Nat.le_of_ble_eq_true rfl) (Nat.le_of_ble_eq_true rfl) ?_
    exact W.iret (v := x45) hx hb hr (fun t ht hW => ⟨⟨x45, rfl, trivial, CB.mk ht hP hD⟩, hS.F ht⟩) hS.2.2 dX10_count_55
  · refine lv_tableIn (off := 55) (tgt := 56) hx hb dX10_count_1 (by rw [c1]; decide) (by rw [c1]; decide) (by rw [c1]; rfl) (by decide) ?_
    refine lv_aload_n hx hb dX10_count_56 rfl (lv_at hl 0 rfl) ?_
    refine ok1 hT ht0 (fun p122 a81 a82 a83 a84 a85 x86 x87 x88 a89 a90 a91 a92 a93 a94 a95 a96 a97 x98 a99 a100 hk123 h101 h102 h103 h104 h105 h106 h107 h108 h109 h110 h111 h112 h113 h114 h115 h116 h117 h118 h119 h120 h121 => ?_)
    refine va_get (D := D) (ci := 10) (v := .ref a81) (C := RX10) (T := TX10) (N := 20) hx hb hg inGX10 hown hKN.1 hP p122 hk123 rfl 0 (by decide) (hg _ kw_349) (fun _ h9 => h9) rfl dX10_count_57 ?_
    refine ok2 hT h101 (fun p158 x124 a125 x126 a127 x128 a129 a130 x131 a132 a133 x134 a135 x136 hk159 h137 h138 h139 h140 h141 h142 h143 h144 h145 h146 h147 h148 h149 h150 h151 h152 h153 h154 h155 h156 h157 => ?_)
    refine va_getN (D := D) (ci := 6) (v := .int x126) (C := RX6) (T := TX6) (N := 13) hx hb hg inGX6 hown hKN.1 hP p158 hk159 rfl 2 (by decide) (va_Nw.use rfl (hKN.2.1 _ kn_44 rfl)) (fun _ h9 => h9) rfl dX10_count_60 ?_
    refine W.widen (k := 0) (n := 0) (Nat.le_of_ble_eq_true rfl) (Nat.le_of_ble_eq_true rfl) ?_
    exact W.iret (v := x126) hx hb hr (fun t ht hW => ⟨⟨x126, rfl, trivial, CB.mk ht hP hD⟩, hS.F ht⟩) hS.2.2 dX10_count_63
  · refine lv_tableIn (off := 63) (tgt := 64) hx hb dX10_count_1 (by rw [c1]; decide) (by rw [c1]; decide) (by rw [c1]; rfl) (by decide) ?_
    refine lv_aload_n hx hb dX10_count_64 rfl (lv_at hl 0 rfl) ?_
    refine ok1 hT ht0 (fun p201 a160 a161 a162 a163 a164 x165 x166 x167 a168 a169 a170 a171 a172 a173 a174 a175 a176 x177 a178 a179 hk202 h180 h181 h182 h183 h184 h185 h186 h187 h188 h189 h190 h191 h192 h193 h194 h195 h196 h197 h198 h199 h200 => ?_)
    refine va_get (D := D) (ci := 10) (v := .int x165) (C := RX10) (T := TX10) (N := 20) hx hb hg inGX10 hown hKN.1 hP p201 hk202 rfl 5 (by decide) (hg _ kw_354) (fun _ h9 => h9) rfl dX10_count_65 ?_
    refine W.widen (k := 0) (n := 0) (Nat.le_of_ble_eq_true rfl) (Nat.le_of_ble_eq_true rfl) ?_
    exact W.iret (v := x165) hx hb hr (fun t ht hW => ⟨⟨x165, rfl, trivial, CB.mk ht hP hD⟩, hS.F ht⟩) hS.2.2 dX10_count_68
  · refine lv_tableIn (off := 68) (tgt := 69) hx hb dX10_count_1 (by rw [c1]; decide) (by rw [c1]; decide) (by rw [c1]; rfl) (by decide) ?_
    refine lv_aload_n hx hb dX10_count_69 rfl (lv_at hl 0 rfl) ?_
    refine ok1 hT ht0 (fun p244 a203 a204 a205 a206 a207 x208 x209 x210 a211 a212 a213 a214 a215 a216 a217 a218 a219 x220 a221 a222 hk245 h223 h224 h225 h226 h227 h228 h229 h230 h231 h232 h233 h234 h235 h236 h237 h238 h239 h240 h241 h242 h243 => ?_)
    refine va_get (D := D) (ci := 10) (v := .int x209) (C := RX10) (T := TX10) (N := 20) hx hb hg inGX10 hown hKN.1 hP p244 hk245 rfl 6 (by decide) (hg _ kw_355) (fun _ h9 => h9) rfl dX10_count_70 ?_
    refine W.widen (k := 0) (n := 0) (Nat.le_of_ble_eq_true rfl) (Nat.le_of_ble_eq_true rfl) ?_
    exact W.iret (v := x209) hx hb hr (fun t ht hW => ⟨⟨x209, rfl, trivial, CB.mk ht hP hD⟩, hS.F ht⟩) hS.2.2 dX10_count_73
  · refine lv_tableIn (off := 73) (tgt := 74) hx hb dX10_count_1 (by rw [c1]; decide) (by rw [c1]; decide) (by rw [c1]; rfl) (by decide) ?_
    refine lv_aload_n hx hb dX10_count_74 rfl (lv_at hl 0 rfl) ?_
    refine ok1 hT ht0 (fun p287 a246 a247 a248 a249 a250 x251 x252 x253 a254 a255 a256 a257 a258 a259 a260 a261 a262 x263 a264 a265 hk288 h266 h267 h268 h269 h270 h271 h272 h273 h274 h275 h276 h277 h278 h279 h280 h281 h282 h283 h284 h285 h286 => ?_)
    refine va_get (D := D) (ci := 10) (v := .int x253) (C := RX10) (T := TX10) (N := 20) hx hb hg inGX10 hown hKN.1 hP p287 hk288 rfl 7 (by decide) (hg _ kw_356) (fun _ h9 => h9) rfl dX10_count_75 ?_
    refine W.widen (k := 0) (n := 0) (Nat.le_of_ble_eq_true rfl) (Nat.le_of_ble_eq_true rfl) ?_
    exact W.iret (v := x253) hx hb hr (fun t ht hW => ⟨⟨x253, rfl, trivial, CB.mk ht hP hD⟩, hS.F ht⟩) hS.2.2 dX10_count_78
  · refine lv_tableIn (off := 78) (tgt := 79) hx hb dX10_count_1 (by rw [c1]; decide) (by rw [c1]; decide) (by rw [c1]; rfl) (by decide) ?_
    refine lv_aload_n hx hb dX10_count_79 rfl (lv_at hl 0 rfl) ?_
    refine ok1 hT ht0 (fun p330 a289 a290 a291 a292 a293 x294 x295 x296 a297 a298 a299 a300 a301 a302 a303 a304 a305 x306 a307 a308 hk331 h309 h310 h311 h312 h313 h314 h315 h316 h317 h318 h319 h320 h321 h322 h323 h324 h325 h326 h327 h328 h329 => ?_)
    refine va_get (D := D) (ci := 10) (v := .ref a289) (C := RX10) (T := TX10) (N := 20) hx hb hg inGX10 hown hKN.1 hP p330 hk331 rfl 0 (by decide) (hg _ kw_349) (fun _ h9 => h9) rfl dX10_count_80 ?_
    refine ok2 hT h309 (fun p366 x332 a333 x334 a335 x336 a337 a338 x339 a340 a341 x342 a343 x344 hk367 h345 h346 h347 h348 h349 h350 h351 h352 h353 h354 h355 h356 h357 h358 h359 h360 h361 h362 h363 h364 h365 => ?_)
    refine va_getN (D := D) (ci := 6) (v := .int x336) (C := RX6) (T := TX6) (N := 13) hx hb hg inGX6 hown hKN.1 hP p366 hk367 rfl 4 (by decide) (va_Nw.use rfl (hKN.2.1 _ kn_48 rfl)) (fun _ h9 => h9) rfl dX10_count_83 ?_
    refine W.widen (k := 0) (n := 0) (Nat.le_of_ble_eq_true rfl) (Nat.le_of_ble_eq_true rfl) ?_
    exact W.iret (v := x336) hx hb hr (fun t ht hW => ⟨⟨x336, rfl, trivial, CB.mk ht hP hD⟩, hS.F ht⟩) hS.2.2 dX10_count_86
  · refine lv_tableIn (off := 86) (tgt := 87) hx hb dX10_count_1 (by rw [c1]; decide) (by rw [c1]; decide) (by rw [c1]; rfl) (by decide) ?_
    refine lv_aload_n hx hb dX10_count_87 rfl (lv_at hl 0 rfl) ?_
    refine ok1 hT ht0 (fun p409 a368 a369 a370 a371 a372 x373 x374 x375 a376 a377 a378 a379 a380 a381 a382 a383 a384 x385 a386 a387 hk410 h388 h389 h390 h391 h392 h393 h394 h395 h396 h397 h398 h399 h400 h401 h402 h403 h404 h405 h406 h407 h408 => ?_)
    refine va_get (D := D) (ci := 10) (v := .ref a368) (C := RX10) (T := TX10) (N := 20) hx hb hg inGX10 hown hKN.1 hP p409 hk410 rfl 0 (by decide) (hg _ kw_349) (fun _ h9 => h9) rfl dX10_count_88 ?_
    refine ok2 hT h388 (fun p445 x411 a412 x413 a414 x415 a416 a417 x418 a419 a420 x421 a422 x423 hk446 h424 h425 h426 h427 h428 h429 h430 h431 h432 h433 h434 h435 h436 h437 h438 h439 h440 h441 h442 h443 h444 => ?_)
    refine cga (rn_NV (As := []) (rest := []) (b := a368) (x_X6_numbers l D Y Z H.size ws T g q 0 a368 hT h388) ⟨hx, hb, hml, hown, hg⟩ hKN lk_X10_426 ⟨CPC.blind, va_recv hKN.1 hP (ci := 6) (q0 := p445) rfl hk446, CPC.at hP hKN hD hSZ hS hA⟩ ⟨⟨rfl, rfl⟩, ⟨Nat.le_of_ble_eq_true rfl, Nat.le_of_ble_eq_true rfl⟩, ⟨(Nat.le_of_ble_eq_true rfl), (Nat.le_of_ble_eq_true rfl)⟩⟩ hl.1 rfl (Nat.le_of_ble_eq_true rfl) dX10_count_91) hP hD hS hA (fun u447 H locs hw448 hP hD hS => ?_)
    refine W.eq (g2 := F0 m 94 ls [.int u447]) rfl ?_
    refine W.widen (k := 0) (n := 0) (Nat.le_of_ble_eq_true rfl) (Nat.le_of_ble_eq_true rfl) ?_
    exact W.iret (v := u447) hx hb hr (fun t ht hW => ⟨⟨u447, rfl, trivial, CB.mk ht hP hD⟩, hS.F ht⟩) hS.2.2 dX10_count_94
  · refine lv_tableIn (off := 94) (tgt := 95) hx hb dX10_count_1 (by rw [c1]; decide) (by rw [c1]; decide) (by rw [c1]; rfl) (by decide) ?_
    refine lv_aload_n hx hb dX10_count_95 rfl (lv_at hl 0 rfl) ?_
    refine ok1 hT ht0 (fun p491 a450 a451 a452 a453 a454 x455 x456 x457 a458 a459 a460 a461 a462 a463 a464 a465 a466 x467 a468 a469 hk492 h470 h471 h472 h473 h474 h475 h476 h477 h478 h479 h480 h481 h482 h483 h484 h485 h486 h487 h488 h489 h490 => ?_)
    refine va_get (D := D) (ci := 10) (v := .ref a450) (C := RX10) (T := TX10) (N := 20) hx hb hg inGX10 hown hKN.1 hP p491 hk492 rfl 0 (by decide) (hg _ kw_349) (fun _ h9 => h9) rfl dX10_count_96 ?_
    refine ok2 hT h470 (fun p527 x493 a494 x495 a496 x497 a498 a499 x500 a501 a502 x503 a504 x505 hk528 h506 h507 h508 h509 h510 h511 h512 h513 h514 h515 h516 h517 h518 h519 h520 h521 h522 h523 h524 h525 h526 => ?_)
    refine va_getN (D := D) (ci := 6) (v := .int x505) (C := RX6) (T := TX6) (N := 13) hx hb hg inGX6 hown hKN.1 hP p527 hk528 rfl 12 (by decide) (va_Nw.use rfl (hKN.2.1 _ kn_68 rfl)) (fun _ h9 => h9) rfl dX10_count_99 ?_
    refine W.widen (k := 0) (n := 0) (Nat.le_of_ble_eq_true rfl) (Nat.le_of_ble_eq_true rfl) ?_
    exact W.iret (v := x505) hx hb hr (fun t ht hW => ⟨⟨x505, rfl, trivial, CB.mk ht hP hD⟩, hS.F ht⟩) hS.2.2 dX10_count_102

