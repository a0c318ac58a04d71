set_option maxHeartbeats 4000000 in
set_option maxRecDepth 100000 in
theorem x_X10_finest (l : Launch) (D : va_G) (Y : Nat → ClassId) (Z : Nat → Nat) (sz : Nat) (ws : va_W) (T : RT) (g : GN) (q : GQ)  (p0 : Nat) (hT : TW Y Z T g q ws) (ht0 : T p0 = (1, 0, 0)) : Met l yX10_finest (.code yX10_finest cX10_finest 9 (some .int) :: GW) ({ frames := 6, cells := 312, slots := 2184, locals := 158 }) (va_Pc [.ref p0] (CPC D Y Z ws sz)) (QG (S := Int32 × va_W × RT) (fun u => some (.int u.1)) (fun u => TLe T u.2.2 ∧ TW Y Z u.2.2 g q u.2.1 ∧ KF 1 T ws u.2.1) (fun u => CB D u.2.1 (va_A ws sz)) (va_A ws sz)) 312 2184 (va_A ws sz) := by
  refine Met.ofW (cc := cX10_finest) (maxL := 9) (ret := (some .int)) (by decide) rfl ?_
  intro p e s m args below meth c s₁ B hml hv
  obtain ⟨rfl, ⟨hsz, hP, hKN, hD0⟩, hSZ⟩ := hv
  have hx := B.exec
  have hb := B.bytes
  have hr := B.returns
  have hts := atoms_spec (ws := .code yX10_finest cX10_finest 9 (some .int) :: GW) B.pre
  have hg : ∀ w ∈ GW, w.before _ s = true := fun w h => hts w (List.mem_cons_of_mem _ h)
  have hown : s.vm.findClass RX10 = some m.cls := findClass_of_methodNamed B.named
  have hlocks := B.notSynchronized
  subst hsz
  have hD := hD0.self (sz := s.heap.size)
  generalize hAe : va_A ws s.heap.size = A at hD hSZ ⊢
  have hA : ∀ q : Nat, s.heap.size ≤ q → A q := fun q h => by rw [← hAe]; exact Or.inr h
  clear hAe hD0 hts B
  have hl := lv_entry ([.ref p0]) (n := 9) (Nat.le_of_ble_eq_true rfl)
  rw [lg_entry_eq]
  generalize (lg_sl ([.ref p0]) ++ List.replicate (9 - (lg_sl ([.ref p0])).length) Slot.unset).toArray = ls at hl ⊢
  have hl : lv_has ls 9 [(0, .ref p0)] := hl
  refine w_start (A0 := A) hP (fun H locs hP hS => ?_)
  refine lv_iconst (v := (-1)) hx hb dX10_finest_0 (by decide) ?_
  refine lv_istore_n (lv' := [(1, .int (-1)), (0, .ref p0)]) hx hb dX10_finest_1 rfl hl (by decide) rfl (fun ls hl => ?_)
  refine lv_iconst (v := 0) hx hb dX10_finest_2 (by decide) ?_
  refine lv_istore_n (lv' := [(2, .int 0), (1, .int (-1)), (0, .ref p0)]) hx hb dX10_finest_3 rfl hl (by decide) rfl (fun ls hl => ?_)
  refine lv_iconst (v := 0) hx hb dX10_finest_4 (by decide) ?_
  refine lv_istore_n (lv' := [(3, .int 0), (2, .int 0), (1, .int (-1)), (0, .ref p0)]) hx hb dX10_finest_5 rfl hl (by decide) rfl (fun ls hl => ?_)
  refine lv_iconst (v := 0) hx hb dX10_finest_6 (by decide) ?_
  refine lv_istore (lv' := [(4, .int 0), (3, .int 0), (2, .int 0), (1, .int (-1)), (0, .ref p0)]) hx hb dX10_finest_7 hl (by decide) rfl (fun ls hl => ?_)
  have zi0 : (0 : Int32).toInt = 0 := by decide
  have zim1 : ((-1) : Int32).toInt = -1 := by decide
  refine w_loopC (σ := Int32 × Int32 × Int32 × Int32 × va_W × RT) (al := 52) (sl := 364) (M := 6) (fun xx H locs ls => match xx with | (v114, v115, v116, v117, w118, T119) => va_P D vwCl w118 H ∧ va_D A w118 ∧ va_S A s.heap H locs ∧ lv_has ls 9 [(4, .int v114), (3, .int v115), (2, .int v116), (1, .int v117), (0, .ref p0)] ∧ TW Y Z T119 g q w118 ∧ TLe T T119 ∧ KF 1 T ws w118 ∧ (0 ≤ v114.toInt ∧ v114.toInt ≤ 6)) (fun xx => match xx with | (v114, v115, v116, v117, w118, T119) => (6 - v114.toInt).toNat) (0, 0, 0, (-1), ws, T) ⟨hP, hD, hS, lv_sub hl [0, 1, 2, 3, 4] rfl, hT, TLe.rf, KF.rf, by omega⟩ (by show (6 - (0 : Int32).toInt).toNat ≤ 6; omega) (fun xx bd259 sd260 H locs ls hI hbbd259 ih => ?_)
  obtain ⟨v114, v115, v116, v117, w118, T119⟩ := xx
  obtain ⟨hP, hD, hS, hl, hT, le262, ke263, hq261⟩ := hI
  have hbbd259 : bd259 + 52 * ((6 - v114.toInt).toNat) ≤ 0 + 52 * 6 ∧ sd260 + 364 * ((6 - v114.toInt).toNat) ≤ 0 + 364 * 6 := hbbd259
  have ih264 := ih
  refine lv_iload hx hb dX10_finest_9 (lv_at hl 0 rfl) ?_
  refine lv_aload_n hx hb dX10_finest_11 rfl (lv_at hl 4 rfl) ?_
  refine ok1 hT (le262.up ht0) (fun p306 a265 a266 a267 a268 a269 x270 x271 x272 a273 a274 a275 a276 a277 a278 a279 a280 a281 x282 a283 a284 hk307 h285 h286 h287 h288 h289 h290 h291 h292 h293 h294 h295 h296 h297 h298 h299 h300 h301 h302 h303 h304 h305 => ?_)
  refine va_get (D := D) (ci := 10) (v := .int x271) (C := RX10) (T := TX10) (N := 20) hx hb hg inGX10 hown hKN.1 hP p306 hk307 rfl 6 (by decide) (hg _ kw_355) (fun _ h9 => h9) rfl dX10_finest_12 ?_
  refine lv_icmp_ge (tgt := 101) hx hb dX10_finest_15 (by decide) (fun c308 => ?_) (fun c308 => ?_)
  · skip
    have c308 := i_le (Eq.refl x271.toInt) (Eq.refl v114.toInt) c308
    refine lv_iload_n hx hb dX10_finest_101 rfl (lv_at hl 3 rfl) ?_
    refine W.widen (k := 312) (n := 2184) (by omega) (by omega) ?_
    exact W.iret (v := v117) hx hb hr (fun t ht hW => ⟨⟨(v117, w118, T119), rfl, ⟨le262, hT, ke263⟩, CB.mk ht hP hD⟩, hS.F ht⟩) hS.2.2 dX10_finest_102
  · skip
    have c308 := i_nle (Eq.refl x271.toInt) (Eq.refl v114.toInt) c308
    refine lv_aload_n hx hb dX10_finest_18 rfl (lv_at hl 4 rfl) ?_
    refine lv_iload hx hb dX10_finest_19 (lv_at hl 0 rfl) ?_
    refine cga (rn_V (As := [.int v114]) (rest := []) (b := p0) (x_X10_searchAt l D Y Z H.size w118 T119 g q p0 v114 hT (le262.up ht0)) ⟨hx, hb, hml, hown, hg⟩ lk_X10_259 ⟨CPC.blind, va_recv hKN.1 hP (ci := 10) (q0 := p306) rfl hk307, CPC.at hP hKN hD hSZ hS hA⟩ ⟨⟨rfl, rfl⟩, ⟨Nat.le_of_ble_eq_true rfl, Nat.le_of_ble_eq_true rfl⟩, ⟨(show _ ≤ (312 : Nat) by omega), (show _ ≤ (2184 : Nat) by omega)⟩⟩ hl.1 rfl (Nat.le_of_ble_eq_true rfl) dX10_finest_21) hP hD hS hA (fun u309 H locs hw310 hP hD hS => ?_)
    obtain ⟨ht312, hw313⟩ : (∀ b, u309 = some b → T119 b = (5, 0, 0)) ∧ (∀ b, u309 = some b → 0 ≤ v114.toInt ∧ v114.toInt ≤ 5) := hw310
    refine W.eq (g2 := F0 m 24 ls [va_rf u309]) rfl ?_
    rcases u309 with _ | b314
    · skip
      refine W.eq (g2 := F0 m 24 ls [.null]) rfl ?_
      refine lv_astoreN (lv' := [(5, .null), (4, .int v114), (3, .int v115), (2, .int v116), (1, .int v117), (0, .ref p0)]) hx hb dX10_finest_24 hl (by decide) rfl (fun ls hl => ?_)
      refine lv_aloadN hx hb dX10_finest_26 (lv_at hl 0 rfl) ?_
      refine lv_ifnonnullN hx hb dX10_finest_28 ?_
      refine lv_iconst (v := 0) hx hb dX10_finest_31 (by decide) ?_
      refine lv_goto (tgt := 40) hx hb dX10_finest_32 (by decide) ?_
      refine lv_istore (lv' := [(6, .int 0), (5, .null), (4, .int v114), (3, .int v115), (2, .int v116), (1, .int v117), (0, .ref p0)]) hx hb dX10_finest_40 hl (by decide) rfl (fun ls hl => ?_)
      refine lv_aload_n hx hb dX10_finest_42 rfl (lv_at hl 6 rfl) ?_
      refine lv_iload hx hb dX10_finest_43 (lv_at hl 2 rfl) ?_
      refine lv_iload hx hb dX10_finest_45 (lv_at hl 0 rfl) ?_
      have zi0 : (0 : Int32).toInt = 0 := by decide
      refine cga (rn_V (As := [.int v114, .int 0]) (rest := []) (b := p0) (x_X10_caughtFrom l D Y Z H.size w118 T119 g q p0 v114 0 hT (le262.up ht0)) ⟨hx, hb, hml, hown, hg⟩ lk_X10_299 ⟨CPC.blind, va_recv hKN.1 hP (ci := 10) (q0 := p306) rfl hk307, CPC.at hP hKN hD hSZ hS hA⟩ ⟨⟨rfl, rfl⟩, ⟨Nat.le_of_ble_eq_true rfl, Nat.le_of_ble_eq_true rfl⟩, ⟨(show _ ≤ (312 : Nat) by omega), (show _ ≤ (2184 : Nat) by omega)⟩⟩ hl.1 rfl (Nat.le_of_ble_eq_true rfl) dX10_finest_47) hP hD hS hA (fun u315 H locs hw316 hP hD hS => ?_)
      refine W.widen (k := (bd259 + 40)) (n := (sd260 + 280)) (by omega) (by omega) ?_
      obtain ⟨u317, w318, T319⟩ := u315
      obtain ⟨le320, hT, ke321⟩ : TLe T119 T319 ∧ TW Y Z T319 g q w318 ∧ KF 1 T119 w118 w318 := hw316
      have hk322 := ke321 _ _ hk307 (show (T119 p0).1 = 1 by rw [(le262.up ht0)])
      have ke323 : KF 1 T ws w318 := KF.tr ke263 (KF.le (by decide) le262 ke321)
      refine W.eq (g2 := F0 m 50 ls [.int u317]) rfl ?_
      refine lv_istore (lv' := [(7, .int u317), (6, .int 0), (5, .null), (4, .int v114), (3, .int v115), (2, .int v116), (1, .int v117), (0, .ref p0)]) hx hb dX10_finest_50 hl (by decide) rfl (fun ls hl => ?_)
      refine lv_aload_n hx hb dX10_finest_52 rfl (lv_at hl 7 rfl) ?_
      refine lv_iload hx hb dX10_finest_53 (lv_at hl 3 rfl) ?_
      refine lv_iconst (v := 1) hx hb dX10_finest_55 (by decide) ?_
      refine lv_iload hx hb dX10_finest_56 (lv_at hl 1 rfl) ?_
      have zi1 : (1 : Int32).toInt = 1 := by decide
      refine cga (rn_V (As := [.int v114, .int 1, .int 0]) (rest := []) (b := p0) (x_X10_foundFrom l D Y Z H.size w318 T319 g q p0 v114 1 0 hT (le320.up (le262.up ht0))) ⟨hx, hb, hml, hown, hg⟩ lk_X10_311 ⟨CPC.blind, va_recv hKN.1 hP (ci := 10) (q0 := p306) rfl hk322, CPC.at hP hKN hD hSZ hS hA⟩ ⟨⟨rfl, rfl⟩, ⟨Nat.le_of_ble_eq_true rfl, Nat.le_of_ble_eq_true rfl⟩, ⟨(show _ ≤ (312 : Nat) by omega), (show _ ≤ (2184 : Nat) by omega)⟩⟩ hl.1 rfl (Nat.le_of_ble_eq_true rfl) dX10_finest_58) hP hD hS hA (fun u324 H locs hw325 hP hD hS => ?_)
      refine W.widen (k := (bd259 + 52)) (n := (sd260 + 364)) (by omega) (by omega) ?_
      obtain ⟨u326, w327, T328⟩ := u324
      obtain ⟨le329, hT, ke330⟩ : TLe T319 T328 ∧ TW Y Z T328 g q w327 ∧ KF 1 T319 w318 w327 := hw325
      have hk331 := ke330 _ _ hk322 (show (T319 p0).1 = 1 by rw [(le320.up (le262.up ht0))])
      have ke332 : KF 1 T ws w327 := KF.tr ke323 (KF.le (by decide) (le262.tr le320) ke330)
      refine W.eq (g2 := F0 m 61 ls [.int u326]) rfl ?_
      refine lv_istore (lv' := [(8, .int u326), (7, .int u317), (6, .int 0), (5, .null), (4, .int v114), (3, .int v115), (2, .int v116), (1, .int v117), (0, .ref p0)]) hx hb dX10_finest_61 hl (by decide) rfl (fun ls hl => ?_)
      refine lv_iload_n hx hb dX10_finest_63 rfl (lv_at hl 7 rfl) ?_
      refine lv_iconst (v := (-1)) hx hb dX10_finest_64 (by decide) ?_
      have j333 := rgI v117
      refine lv_icmp_eq (tgt := 86) hx hb dX10_finest_65 (by decide) (fun c334 => ?_) (fun c334 => ?_)
      · skip
        have c334 := i_eq (Eq.refl v117.toInt) (show ((-1) : Int32).toInt = -1 by decide) c334
        refine lv_iload hx hb dX10_finest_86 (lv_at hl 4 rfl) ?_
        refine lv_istore_n (lv' := [(1, .int v114), (8, .int u326), (7, .int u317), (6, .int 0), (5, .null), (4, .int v114), (3, .int v115), (2, .int v116), (0, .ref p0)]) hx hb dX10_finest_88 rfl hl (by decide) rfl (fun ls hl => ?_)
        refine lv_iload hx hb dX10_finest_89 (lv_at hl 2 rfl) ?_
        refine lv_istore_n (lv' := [(2, .int u317), (1, .int v114), (8, .int u326), (7, .int u317), (6, .int 0), (5, .null), (4, .int v114), (3, .int v115), (0, .ref p0)]) hx hb dX10_finest_91 rfl hl (by decide) rfl (fun ls hl => ?_)
        refine lv_iload hx hb dX10_finest_92 (lv_at hl 2 rfl) ?_
        refine lv_istore_n (lv' := [(3, .int u326), (2, .int u317), (1, .int v114), (8, .int u326), (7, .int u317), (6, .int 0), (5, .null), (4, .int v114), (0, .ref p0)]) hx hb dX10_finest_94 rfl hl (by decide) rfl (fun ls hl => ?_)
        obtain ⟨v335, ev335⟩ : ∃ y : Int32, y = v114 + 1 := ⟨_, rfl⟩
        have hv335 := i_add (Eq.refl v114.toInt) (show (1 : Int32).toInt = 1 by decide) ev335 (by omega) (by omega)
        refine lv_iinc (v := v335) (lv' := [(4, .int v335), (3, .int u326), (2, .int u317), (1, .int v114), (8, .int u326), (7, .int u317), (6, .int 0), (5, .null), (0, .ref p0)]) hx hb dX10_finest_95 hl (k := 7) rfl (by rw [ev335]; rfl) (by decide) rfl (fun ls hl => ?_)
        refine lv_goto (tgt := 9) hx hb dX10_finest_98 (by decide) ?_
        exact ih264 (v335, u326, u317, v114, w327, T328) _ _ H locs ls (by show (6 - v335.toInt).toNat < (6 - v114.toInt).toNat; omega) (by show (bd259 + 52) + 52 * ((6 - v335.toInt).toNat) ≤ 0 + 52 * 6 ∧ (sd260 + 364) + 364 * ((6 - v335.toInt).toNat) ≤ 0 + 364 * 6; omega) ⟨hP, hD, hS, lv_sub hl [0, 1, 2, 3, 8] rfl, hT, ((le262.tr le320).tr le329), ke332, by omega⟩
      · skip
        have c334 := i_ne (Eq.refl v117.toInt) (show ((-1) : Int32).toInt = -1 by decide) c334
        refine lv_iload hx hb dX10_finest_68 (lv_at hl 1 rfl) ?_
        refine lv_iload_n hx hb dX10_finest_70 rfl (lv_at hl 6 rfl) ?_
        have j336 := rgI u317
        have j337 := rgI v116
        refine lv_icmp_gt (tgt := 86) hx hb dX10_finest_71 (by decide) (fun c338 => ?_) (fun c338 => ?_)
        · skip
          have c338 := i_lt (Eq.refl v116.toInt) (Eq.refl u317.toInt) c338
          refine lv_iload hx hb dX10_finest_86 (lv_at hl 4 rfl) ?_
          refine lv_istore_n (lv' := [(1, .int v114), (8, .int u326), (7, .int u317), (6, .int 0), (5, .null), (4, .int v114), (3, .int v115), (2, .int v116), (0, .ref p0)]) hx hb dX10_finest_88 rfl hl (by decide) rfl (fun ls hl => ?_)
          refine lv_iload hx hb dX10_finest_89 (lv_at hl 2 rfl) ?_
          refine lv_istore_n (lv' := [(2, .int u317), (1, .int v114), (8, .int u326), (7, .int u317), (6, .int 0), (5, .null), (4, .int v114), (3, .int v115), (0, .ref p0)]) hx hb dX10_finest_91 rfl hl (by decide) rfl (fun ls hl => ?_)
          refine lv_iload hx hb dX10_finest_92 (lv_at hl 2 rfl) ?_
          refine lv_istore_n (lv' := [(3, .int u326), (2, .int u317), (1, .int v114), (8, .int u326), (7, .int u317), (6, .int 0), (5, .null), (4, .int v114), (0, .ref p0)]) hx hb dX10_finest_94 rfl hl (by decide) rfl (fun ls hl => ?_)
          obtain ⟨v339, ev339⟩ : ∃ y : Int32, y = v114 + 1 := ⟨_, rfl⟩
          have hv339 := i_add (Eq.refl v114.toInt) (show (1 : Int32).toInt = 1 by decide) ev339 (by omega) (by omega)
          refine lv_iinc (v := v339) (lv' := [(4, .int v339), (3, .int u326), (2, .int u317), (1, .int v114), (8, .int u326), (7, .int u317), (6, .int 0), (5, .null), (0, .ref p0)]) hx hb dX10_finest_95 hl (k := 7) rfl (by rw [ev339]; rfl) (by decide) rfl (fun ls hl => ?_)
          refine lv_goto (tgt := 9) hx hb dX10_finest_98 (by decide) ?_
          exact ih264 (v339, u326, u317, v114, w327, T328) _ _ H locs ls (by show (6 - v339.toInt).toNat < (6 - v114.toInt).toNat; omega) (by show (bd259 + 52) + 52 * ((6 - v339.toInt).toNat) ≤ 0 + 52 * 6 ∧ (sd260 + 364) + 364 * ((6 - v339.toInt).toNat) ≤ 0 + 364 * 6; omega) ⟨hP, hD, hS, lv_sub hl [0, 1, 2, 3, 8] rfl, hT, ((le262.tr le320).tr le329), ke332, by omega⟩
        · skip
          have c338 := i_nlt (Eq.refl v116.toInt) (Eq.refl u317.toInt) c338
          refine lv_iload hx hb dX10_finest_74 (lv_at hl 1 rfl) ?_
          refine lv_iload_n hx hb dX10_finest_76 rfl (lv_at hl 6 rfl) ?_
          refine lv_icmp_ne (tgt := 95) hx hb dX10_finest_77 (by decide) (fun c340 => ?_) (fun c340 => ?_)
          · skip
            have c340 := i_ne (Eq.refl u317.toInt) (Eq.refl v116.toInt) c340
            obtain ⟨v341, ev341⟩ : ∃ y : Int32, y = v114 + 1 := ⟨_, rfl⟩
            have hv341 := i_add (Eq.refl v114.toInt) (show (1 : Int32).toInt = 1 by decide) ev341 (by omega) (by omega)
            refine lv_iinc (v := v341) (lv' := [(4, .int v341), (8, .int u326), (7, .int u317), (6, .int 0), (5, .null), (3, .int v115), (2, .int v116), (1, .int v117), (0, .ref p0)]) hx hb dX10_finest_95 hl (k := 4) rfl (by rw [ev341]; rfl) (by decide) rfl (fun ls hl => ?_)
            refine lv_goto (tgt := 9) hx hb dX10_finest_98 (by decide) ?_
            exact ih264 (v341, v115, v116, v117, w327, T328) _ _ H locs ls (by show (6 - v341.toInt).toNat < (6 - v114.toInt).toNat; omega) (by show (bd259 + 52) + 52 * ((6 - v341.toInt).toNat) ≤ 0 + 52 * 6 ∧ (sd260 + 364) + 364 * ((6 - v341.toInt).toNat) ≤ 0 + 364 * 6; omega) ⟨hP, hD, hS, lv_sub hl [0, 5, 6, 7, 8] rfl, hT, ((le262.tr le320).tr le329), ke332, by omega⟩
          · skip
            have c340 := i_eq (Eq.refl u317.toInt) (Eq.refl v116.toInt) c340
            refine lv_iload hx hb dX10_finest_80 (lv_at hl 0 rfl) ?_
            refine lv_iload_n hx hb dX10_finest_82 rfl (lv_at hl 5 rfl) ?_
            have j342 := rgI u326
            have j343 := rgI v115
            refine lv_icmp_ge (tgt := 95) hx hb dX10_finest_83 (by decide) (fun c344 => ?_) (fun c344 => ?_)
            · skip
              have c344 := i_le (Eq.refl v115.toInt) (Eq.refl u326.toInt) c344
              obtain ⟨v345, ev345⟩ : ∃ y : Int32, y = v114 + 1 := ⟨_, rfl⟩
              have hv345 := i_add (Eq.refl v114.toInt) (show (1 : Int32).toInt = 1 by decide) ev345 (by omega) (by omega)
              refine lv_iinc (v := v345) (lv' := [(4, .int v345), (8, .int u326), (7, .int u317), (6, .int 0), (5, .null), (3, .int v115), (2, .int v116), (1, .int v117), (0, .ref p0)]) hx hb dX10_finest_95 hl (k := 4) rfl (by rw [ev345]; rfl) (by decide) rfl (fun ls hl => ?_)
              refine lv_goto (tgt := 9) hx hb dX10_finest_98 (by decide) ?_
              exact ih264 (v345, v115, v116, v117, w327, T328) _ _ H locs ls (by show (6 - v345.toInt).toNat < (6 - v114.toInt).toNat; omega) (by show (bd259 + 52) + 52 * ((6 - v345.toInt).toNat) ≤ 0 + 52 * 6 ∧ (sd260 + 364) + 364 * ((6 - v345.toInt).toNat) ≤ 0 + 364 * 6; omega) ⟨hP, hD, hS, lv_sub hl [0, 5, 6, 7, 8] rfl, hT, ((le262.tr le320).tr le329), ke332, by omega⟩
            · skip
              have c344 := i_nle (Eq.refl v115.toInt) (Eq.refl u326.toInt) c344
              refine lv_iload hx hb dX10_finest_86 (lv_at hl 4 rfl) ?_
              refine lv_istore_n (lv' := [(1, .int v114), (8, .int u326), (7, .int u317), (6, .int 0), (5, .null), (4, .int v114), (3, .int v115), (2, .int v116), (0, .ref p0)]) hx hb dX10_finest_88 rfl hl (by decide) rfl (fun ls hl => ?_)
              refine lv_iload hx hb dX10_finest_89 (lv_at hl 2 rfl) ?_
              refine lv_istore_n (lv' := [(2, .int u317), (1, .int v114), (8, .int u326), (7, .int u317), (6, .int 0), (5, .null), (4, .int v114), (3, .int v115), (0, .ref p0)]) hx hb dX10_finest_91 rfl hl (by decide) rfl (fun ls hl => ?_)
              refine lv_iload hx hb dX10_finest_92 (lv_at hl 2 rfl) ?_
              refine lv_istore_n (lv' := [(3, .int u326), (2, .int u317), (1, .int v114), (8, .int u326), (7, .int u317), (6, .int 0), (5, .null), (4, .int v114), (0, .ref p0)]) hx hb dX10_finest_94 rfl hl (by decide) rfl (fun ls hl => ?_)
              obtain ⟨v346, ev346⟩ : ∃ y : Int32, y = v114 + 1 := ⟨_, rfl⟩
              have hv346 := i_add (Eq.refl v114.toInt) (show (1 : Int32).toInt = 1 by decide) ev346 (by omega) (by omega)
              refine lv_iinc (v := v346) (lv' := [(4, .int v346), (3, .int u326), (2, .int u317), (1, .int v114), (8, .int u326), (7, .int u317), (6, .int 0), (5, .null), (0, .ref p0)]) hx hb dX10_finest_95 hl (k := 7) rfl (by rw [ev346]; rfl) (by decide) rfl (fun ls hl => ?_)
              refine lv_goto (tgt := 9) hx hb dX10_finest_98 (by decide) ?_
              exact ih264 (v346, u326, u317, v114, w327, T328) _ _ H locs ls (by show (6 - v346.toInt).toNat < (6 - v114.toInt).toNat; omega) (by show (bd259 + 52) + 52 * ((6 - v346.toInt).toNat) ≤ 0 + 52 * 6 ∧ (sd260 + 364) + 364 * ((6 - v346.toInt).toNat) ≤ 0 + 364 * 6; omega) ⟨hP, hD, hS, lv_sub hl [0, 1, 2, 3, 8] rfl, hT, ((le262.tr le320).tr le329), ke332, by omega⟩
    · skip
      have ht347 := ht312 b314 rfl
      have h348 := hw313 b314 rfl
      refine W.eq (g2 := F0 m 24 ls [.ref b314]) rfl ?_
      refine lv_astore (lv' := [(5, .ref b314), (4, .int v114), (3, .int v115), (2, .int v116), (1, .int v117), (0, .ref p0)]) hx hb dX10_finest_24 hl (by decide) rfl (fun ls hl => ?_)
      refine lv_aload hx hb dX10_finest_26 (lv_at hl 0 rfl) ?_
      refine lv_ifnonnull (tgt := 35) hx hb dX10_finest_28 (by decide) ?_
      refine lv_aload hx hb dX10_finest_35 (lv_at hl 0 rfl) ?_
      refine ok5 hT ht347 (fun p370 x349 x350 x351 x352 x353 x354 x355 x356 a357 a358 a359 a360 a361 x362 hk371 h363 h364 h365 h366 h367 h368 h369 => ?_)
      refine va_getN (D := D) (ci := 8) (v := .int x355) (C := RX8) (T := TX8) (N := 14) hx hb hg inGX8 hown hKN.1 hP p370 hk371 rfl 6 (by decide) (va_Nw.use rfl (hKN.2.1 _ kn_135 rfl)) (fun _ h9 => h9) rfl dX10_finest_37 ?_
      refine lv_istore (lv' := [(6, .int x355), (5, .ref b314), (4, .int v114), (3, .int v115), (2, .int v116), (1, .int v117), (0, .ref p0)]) hx hb dX10_finest_40 hl (by decide) rfl (fun ls hl => ?_)
      refine lv_aload_n hx hb dX10_finest_42 rfl (lv_at hl 6 rfl) ?_
      refine lv_iload hx hb dX10_finest_43 (lv_at hl 2 rfl) ?_
      refine lv_iload hx hb dX10_finest_45 (lv_at hl 0 rfl) ?_
      refine cga (rn_V (As := [.int v114, .int x355]) (rest := []) (b := p0) (x_X10_caughtFrom l D Y Z H.size w118 T119 g q p0 v114 x355 hT (le262.up ht0)) ⟨hx, hb, hml, hown, hg⟩ lk_X10_299 ⟨CPC.blind, va_recv hKN.1 hP (ci := 10) (q0 := p306) rfl hk307, CPC.at hP hKN hD hSZ hS hA⟩ ⟨⟨rfl, rfl⟩, ⟨Nat.le_of_ble_eq_true rfl, Nat.le_of_ble_eq_true rfl⟩, ⟨(show _ ≤ (312 : Nat) by omega), (show _ ≤ (2184 : Nat) by omega)⟩⟩ hl.1 rfl (Nat.le_of_ble_eq_true rfl) dX10_finest_47) hP hD hS hA (fun u372 H locs hw373 hP hD hS => ?_)
      refine W.widen (k := (bd259 + 40)) (n := (sd260 + 280)) (by omega) (by omega) ?_
      obtain ⟨u374, w375, T376⟩ := u372
      obtain ⟨le377, hT, ke378⟩ : TLe T119 T376 ∧ TW Y Z T376 g q w375 ∧ KF 1 T119 w118 w375 := hw373
      have hk379 := ke378 _ _ hk307 (show (T119 p0).1 = 1 by rw [(le262.up ht0)])
      have ke380 : KF 1 T ws w375 := KF.tr ke263 (KF.le (by decide) le262 ke378)
      refine W.eq (g2 := F0 m 50 ls [.int u374]) rfl ?_
      refine lv_istore (lv' := [(7, .int u374), (6, .int x355), (5, .ref b314), (4, .int v114), (3, .int v115), (2, .int v116), (1, .int v117), (0, .ref p0)]) hx hb dX10_finest_50 hl (by decide) rfl (fun ls hl => ?_)
      refine lv_aload_n hx hb dX10_finest_52 rfl (lv_at hl 7 rfl) ?_
      refine lv_iload hx hb dX10_finest_53 (lv_at hl 3 rfl) ?_
      refine lv_iconst (v := 1) hx hb dX10_finest_55 (by decide) ?_
      refine lv_iload hx hb dX10_finest_56 (lv_at hl 1 rfl) ?_
      have zi1 : (1 : Int32).toInt = 1 := by decide
      refine cga (rn_V (As := [.int v114, .int 1, .int x355]) (rest := []) (b := p0) (x_X10_foundFrom l D Y Z H.size w375 T376 g q p0 v114 1 x355 hT (le377.up (le262.up ht0))) ⟨hx, hb, hml, hown, hg⟩ lk_X10_311 ⟨CPC.blind, va_recv hKN.1 hP (ci := 10) (q0 := p306) rfl hk379, CPC.at hP hKN hD hSZ hS hA⟩ ⟨⟨rfl, rfl⟩, ⟨Nat.le_of_ble_eq_true rfl, Nat.le_of_ble_eq_true rfl⟩, ⟨(show _ ≤ (312 : Nat) by omega), (show _ ≤ (2184 : Nat) by omega)⟩⟩ hl.1 rfl (Nat.le_of_ble_eq_true rfl) dX10_finest_58) hP hD hS hA (fun u381 H locs hw382 hP hD hS => ?_)
      refine W.widen (k := (bd259 + 52)) (n := (sd260 + 364)) (by omega) (by omega) ?_
      obtain ⟨u383, w384, T385⟩ := u381
      obtain ⟨le386, hT, ke387⟩ : TLe T376 T385 ∧ TW Y Z T385 g q w384 ∧ KF 1 T376 w375 w384 := hw382
      have hk388 := ke387 _ _ hk379 (show (T376 p0).1 = 1 by rw [(le377.up (le262.up ht0))])
      have ke389 : KF 1 T ws w384 := KF.tr ke380 (KF.le (by decide) (le262.tr le377) ke387)
      refine W.eq (g2 := F0 m 61 ls [.int u383]) rfl ?_
      refine lv_istore (lv' := [(8, .int u383), (7, .int u374), (6, .int x355), (5, .ref b314), (4, .int v114), (3, .int v115), (2, .int v116), (1, .int v117), (0, .ref p0)]) hx hb dX10_finest_61 hl (by decide) rfl (fun ls hl => ?_)
      refine lv_iload_n hx hb dX10_finest_63 rfl (lv_at hl 7 rfl) ?_
      refine lv_iconst (v := (-1)) hx hb dX10_finest_64 (by decide) ?_
      have j390 := rgI v117
      refine lv_icmp_eq (tgt := 86) hx hb dX10_finest_65 (by decide) (fun c391 => ?_) (fun c391 => ?_)
      · skip
        have c391 := i_eq (Eq.refl v117.toInt) (show ((-1) : Int32).toInt = -1 by decide) c391
        refine lv_iload hx hb dX10_finest_86 (lv_at hl 4 rfl) ?_
        refine lv_istore_n (lv' := [(1, .int v114), (8, .int u383), (7, .int u374), (6, .int x355), (5, .ref b314), (4, .int v114), (3, .int v115), (2, .int v116), (0, .ref p0)]) hx hb dX10_finest_88 rfl hl (by decide) rfl (fun ls hl => ?_)
        refine lv_iload hx hb dX10_finest_89 (lv_at hl 2 rfl) ?_
        refine lv_istore_n (lv' := [(2, .int u374), (1, .int v114), (8, .int u383), (7, .int u374), (6, .int x355), (5, .ref b314), (4, .int v114), (3, .int v115), (0, .ref p0)]) hx hb dX10_finest_91 rfl hl (by decide) rfl (fun ls hl => ?_)
        refine lv_iload hx hb dX10_finest_92 (lv_at hl 2 rfl) ?_
        refine lv_istore_n (lv' := [(3, .int u383), (2, .int u374), (1, .int v114), (8, .int u383), (7, .int u374), (6, .int x355), (5, .ref b314), (4, .int v114), (0, .ref p0)]) hx hb dX10_finest_94 rfl hl (by decide) rfl (fun ls hl => ?_)
        obtain ⟨v392, ev392⟩ : ∃ y : Int32, y = v114 + 1 := ⟨_, rfl⟩
        have hv392 := i_add (Eq.refl v114.toInt) (show (1 : Int32).toInt = 1 by decide) ev392 (by omega) (by omega)
        refine lv_iinc (v := v392) (lv' := [(4, .int v392), (3, .int u383), (2, .int u374), (1, .int v114), (8, .int u383), (7, .int u374), (6, .int x355), (5, .ref b314), (0, .ref p0)]) hx hb dX10_finest_95 hl (k := 7) rfl (by rw [ev392]; rfl) (by decide) rfl (fun ls hl => ?_)
        refine lv_goto (tgt := 9) hx hb dX10_finest_98 (by decide) ?_
        exact ih264 (v392, u383, u374, v114, w384, T385) _ _ H locs ls (by show (6 - v392.toInt).toNat < (6 - v114.toInt).toNat; omega) (by show (bd259 + 52) + 52 * ((6 - v392.toInt).toNat) ≤ 0 + 52 * 6 ∧ (sd260 + 364) + 364 * ((6 - v392.toInt).toNat) ≤ 0 + 364 * 6; omega) ⟨hP, hD, hS, lv_sub hl [0, 1, 2, 3, 8] rfl, hT, ((le262.tr le377).tr le386), ke389, by omega⟩
      · skip
        have c391 := i_ne (Eq.refl v117.toInt) (show ((-1) : Int32).toInt = -1 by decide) c391
        refine lv_iload hx hb dX10_finest_68 (lv_at hl 1 rfl) ?_
        refine lv_iload_n hx hb dX10_finest_70 rfl (lv_at hl 6 rfl) ?_
        have j393 := rgI u374
        have j394 := rgI v116
        refine lv_icmp_gt (tgt := 86) hx hb dX10_finest_71 (by decide) (fun c395 => ?_) (fun c395 => ?_)
        · skip
          have c395 := i_lt (Eq.refl v116.toInt) (Eq.refl u374.toInt) c395
          refine lv_iload hx hb dX10_finest_86 (lv_at hl 4 rfl) ?_
          refine lv_istore_n (lv' := [(1, .int v114), (8, .int u383), (7, .int u374), (6, .int x355), (5, .ref b314), (4, .int v114), (3, .int v115), (2, .int v116), (0, .ref p0)]) hx hb dX10_finest_88 rfl hl (by decide) rfl (fun ls hl => ?_)
          refine lv_iload hx hb dX10_finest_89 (lv_at hl 2 rfl) ?_
          refine lv_istore_n (lv' := [(2, .int u374), (1, .int v114), (8, .int u383), (7, .int u374), (6, .int x355), (5, .ref b314), (4, .int v114), (3, .int v115), (0, .ref p0)]) hx hb dX10_finest_91 rfl hl (by decide) rfl (fun ls hl => ?_)
          refine lv_iload hx hb dX10_finest_92 (lv_at hl 2 rfl) ?_
          refine lv_istore_n (lv' := [(3, .int u383), (2, .int u374), (1, .int v114), (8, .int u383), (7, .int u374), (6, .int x355), (5, .ref b314), (4, .int v114), (0, .ref p0)]) hx hb dX10_finest_94 rfl hl (by decide) rfl (fun ls hl => ?_)
          obtain ⟨v396, ev396⟩ : ∃ y : Int32, y = v114 + 1 := ⟨_, rfl⟩
          have hv396 := i_add (Eq.refl v114.toInt) (show (1 : Int32).toInt = 1 by decide) ev396 (by omega) (by omega)
          refine lv_iinc (v := v396) (lv' := [(4, .int v396), (3, .int u383), (2, .int u374), (1, .int v114), (8, .int u383), (7, .int u374), (6, .int x355), (5, .ref b314), (0, .ref p0)]) hx hb dX10_finest_95 hl (k := 7) rfl (by rw [ev396]; rfl) (by decide) rfl (fun ls hl => ?_)
          refine lv_goto (tgt := 9) hx hb dX10_finest_98 (by decide) ?_
          exact ih264 (v396, u383, u374, v114, w384, T385) _ _ H locs ls (by show (6 - v396.toInt).toNat < (6 - v114.toInt).toNat; omega) (by show (bd259 + 52) + 52 * ((6 - v396.toInt).toNat) ≤ 0 + 52 * 6 ∧ (sd260 + 364) + 364 * ((6 - v396.toInt).toNat) ≤ 0 + 364 * 6; omega) ⟨hP, hD, hS, lv_sub hl [0, 1, 2, 3, 8] rfl, hT, ((le262.tr le377).tr le386), ke389, by omega⟩
        · skip
          have c395 := i_nlt (Eq.refl v116.toInt) (Eq.refl u374.toInt) c395
          refine lv_iload hx hb dX10_finest_74 (lv_at hl 1 rfl) ?_
          refine lv_iload_n hx hb dX10_finest_76 rfl (lv_at hl 6 rfl) ?_
          refine lv_icmp_ne (tgt := 95) hx hb dX10_finest_77 (by decide) (fun c397 => ?_) (fun c397 => ?_)
          · skip
            have c397 := i_ne (Eq.refl u374.toInt) (Eq.refl v116.toInt) c397
            obtain ⟨v398, ev398⟩ : ∃ y : Int32, y = v114 + 1 := ⟨_, rfl⟩
            have hv398 := i_add (Eq.refl v114.toInt) (show (1 : Int32).toInt = 1 by decide) ev398 (by omega) (by omega)
            refine lv_iinc (v := v398) (lv' := [(4, .int v398), (8, .int u383), (7, .int u374), (6, .int x355), (5, .ref b314), (3, .int v115), (2, .int v116), (1, .int v117), (0, .ref p0)]) hx hb dX10_finest_95 hl (k := 4) rfl (by rw [ev398]; rfl) (by decide) rfl (fun ls hl => ?_)
            refine lv_goto (tgt := 9) hx hb dX10_finest_98 (by decide) ?_
            exact ih264 (v398, v115, v116, v117, w384, T385) _ _ H locs ls (by show (6 - v398.toInt).toNat < (6 - v114.toInt).toNat; omega) (by show (bd259 + 52) + 52 * ((6 - v398.toInt).toNat) ≤ 0 + 52 * 6 ∧ (sd260 + 364) + 364 * ((6 - v398.toInt).toNat) ≤ 0 + 364 * 6; omega) ⟨hP, hD, hS, lv_sub hl [0, 5, 6, 7, 8] rfl, hT, ((le262.tr le377).tr le386), ke389, by omega⟩
          · skip
            have c397 := i_eq (Eq.refl u374.toInt) (Eq.refl v116.toInt) c397
            refine lv_iload hx hb dX10_finest_80 (lv_at hl 0 rfl) ?_
            refine lv_iload_n hx hb dX10_finest_82 rfl (lv_at hl 5 rfl) ?_
            have j399 := rgI u383
            have j400 := rgI v115
            refine lv_icmp_ge (tgt := 95) hx hb dX10_finest_83 (by decide) (fun c401 => ?_) (fun c401 => ?_)
            · skip
              have c401 := i_le (Eq.refl v115.toInt) (Eq.refl u383.toInt) c401
              obtain ⟨v402, ev402⟩ : ∃ y : Int32, y = v114 + 1 := ⟨_, rfl⟩
              have hv402 := i_add (Eq.refl v114.toInt) (show (1 : Int32).toInt = 1 by decide) ev402 (by omega) (by omega)
              refine lv_iinc (v := v402) (lv' := [(4, .int v402), (8, .int u383), (7, .int u374), (6, .int x355), (5, .ref b314), (3, .int v115), (2, .int v116), (1, .int v117), (0, .ref p0)]) hx hb dX10_finest_95 hl (k := 4) rfl (by rw [ev402]; rfl) (by decide) rfl (fun ls hl => ?_)
              refine lv_goto (tgt := 9) hx hb dX10_finest_98 (by decide) ?_
              exact ih264 (v402, v115, v116, v117, w384, T385) _ _ H locs ls (by show (6 - v402.toInt).toNat < (6 - v114.toInt).toNat; omega) (by show (bd259 + 52) + 52 * ((6 - v402.toInt).toNat) ≤ 0 + 52 * 6 ∧ (sd260 + 364) + 364 * ((6 - v402.toInt).toNat) ≤ 0 + 364 * 6; omega) ⟨hP, hD, hS, lv_sub hl [0, 5, 6, 7, 8] rfl, hT, ((le262.tr le377).tr le386), ke389, by omega⟩
            · skip
              have c401 := i_nle (Eq.refl v115.toInt) (Eq.refl u383.toInt) c401
              refine lv_iload hx hb dX10_finest_86 (lv_at hl 4 rfl) ?_
              refine lv_istore_n (lv' := [(1, .int v114), (8, .int u383), (7, .int u374), (6, .int x355), (5, .ref b314), (4, .int v114), (3, .int v115), (2, .int v116), (0, .ref p0)]) hx hb dX10_finest_88 rfl hl (by decide) rfl (fun ls hl => ?_)
              refine lv_iload hx hb dX10_finest_89 (lv_at hl 2 rfl) ?_
              refine lv_istore_n (lv' := [(2, .int u374), (1, .int v114), (8, .int u383), (7, .int u374), (6, .int x355), (5, .ref b314), (4, .int v114), (3, .int v115), (0, .ref p0)]) hx hb dX10_finest_91 rfl hl (by decide) rfl (fun ls hl => ?_)
              refine lv_iload hx hb dX10_finest_92 (lv_at hl 2 rfl) ?_
              refine lv_istore_n (lv' := [(3, .int u383), (2, .int u374), (1, .int v114), (8, .int u383), (7, .int u374), (6, .int x355), (5, .ref b314), (4, .int v114), (0, .ref p0)]) hx hb dX10_finest_94 rfl hl (by decide) rfl (fun ls hl => ?_)
              obtain ⟨v403, ev403⟩ : ∃ y : Int32, y = v114 + 1 := ⟨_, rfl⟩
              have hv403 := i_add (Eq.refl v114.toInt) (show (1 : Int32).toInt = 1 by decide) ev403 (by omega) (by omega)
              refine lv_iinc (v := v403) (lv' := [(4, .int v403), (3, .int u383), (2, .int u374), (1, .int v114), (8, .int u383), (7, .int u374), (6, .int x355), (5, .ref b314), (0, .ref p0)]) hx hb dX10_finest_95 hl (k := 7) rfl (by rw [ev403]; rfl) (by decide) rfl (fun ls hl => ?_)
              refine lv_goto (tgt := 9) hx hb dX10_finest_98 (by decide) ?_
              exact ih264 (v403, u383, u374, v114, w384, T385) _ _ H locs ls (by show (6 - v403.toInt).toNat < (6 - v114.toInt).toNat; omega) (by show (bd259 + 52) + 52 * ((6 - v403.toInt).toNat) ≤ 0 + 52 * 6 ∧ (sd260 + 364) + 364 * ((6 - v403.toInt).toNat) ≤ 0 + 364 * 6; omega) ⟨hP, hD, hS, lv_sub hl [0, 1, 2, 3, 8] rfl, hT, ((le262.tr le377).tr le386), ke389, by omega⟩
set_option maxHeartbeats 4000000 in
set_option maxRecDepth 100000 in
theorem x_X10_room (l : Launch) (D : va_G) (Y : Nat → ClassId) (Z : Nat → Nat) (sz : Nat) (ws : va_W) (T : RT) (g : GN) (q : GQ)  (p0 : Nat) (p1 : Int32) (p2 : Int32) (hT : TW Y Z T g q ws) (ht0 : T p0 = (1, 0, 0)) : Met l yX10_room (.code yX10_room cX10_room 5 (some .int) :: GW) ({ frames := 2, cells := 0, slots := 0, locals := 43 }) (va_Pc [.ref p0, .int p1, .int p2] (CPC D Y Z ws sz)) (QG (S := Int32) (fun u => some (.int u)) (fun u => True) (fun u => CB D ws (va_A ws sz)) (va_A ws sz)) 0 0 (va_A ws sz) := by
  refine Met.ofW (cc := cX10_room) (maxL := 5) (ret := (some .int)) (by decide) rfl ?_
  intro p e s m args below meth c s₁ B hml hv
  obtain ⟨rfl, ⟨hsz, hP, hKN, hD0⟩, hSZ⟩ := hv
  have hx := B.exec
  have hb := B.bytes
  have hr := B.returns
  have hts := atoms_spec (ws := .code yX10_room cX10_room 5 (some .int) :: GW) B.pre
  have hg : ∀ w ∈ GW, w.before _ s = true := fun w h => hts w (List.mem_cons_of_mem _ h)
  have hown : s.vm.findClass RX10 = some m.cls := findClass_of_methodNamed B.named
  have hlocks := B.notSynchronized
  subst hsz
  have hD := hD0.self (sz := s.heap.size)
  generalize hAe : va_A ws s.heap.size = A at hD hSZ ⊢
  have hA : ∀ q : Nat, s.heap.size ≤ q → A q := fun q h => by rw [← hAe]; exact Or.inr h
  clear hAe hD0 hts B
  have hl := lv_entry ([.ref p0, .int p1, .int p2]) (n := 5) (Nat.le_of_ble_eq_true rfl)
  rw [lg_entry_eq]
  generalize (lg_sl ([.ref p0, .int p1, .int p2]) ++ List.replicate (5 - (lg_sl ([.ref p0, .int p1, .int p2])).length) Slot.unset).toArray = ls at hl ⊢
  have hl : lv_has ls 5 [(0, .ref p0), (1, .int p1), (2, .int p2)] := hl
  refine w_start (A0 := A) hP (fun H locs hP hS => ?_)
  refine lv_aload_n hx hb dX10_room_0 rfl (lv_at hl 0 rfl) ?_
  refine lv_iload_n hx hb dX10_room_1 rfl (lv_at hl 1 rfl) ?_
  refine ok1 hT ht0 (fun p42 a1 a2 a3 a4 a5 x6 x7 x8 a9 a10 a11 a12 a13 a14 a15 a16 a17 x18 a19 a20 hk43 h21 h22 h23 h24 h25 h26 h27 h28 h29 h30 h31 h32 h33 h34 h35 h36 h37 h38 h39 h40 h41 => ?_)
  refine cga (rn_V (As := [.int p1]) (rest := []) (b := p0) (x_X10_searchAt l D Y Z H.size ws T g q p0 p1 hT ht0) ⟨hx, hb, hml, hown, hg⟩ lk_X10_259 ⟨CPC.blind, va_recv hKN.1 hP (ci := 10) (q0 := p42) rfl hk43, CPC.at hP hKN hD hSZ hS hA⟩ ⟨⟨rfl, rfl⟩, ⟨Nat.le_of_ble_eq_true rfl, Nat.le_of_ble_eq_true rfl⟩, ⟨(Nat.le_of_ble_eq_true rfl), (Nat.le_of_ble_eq_true rfl)⟩⟩ hl.1 rfl (Nat.le_of_ble_eq_true rfl) dX10_room_2) hP hD hS hA (fun u44 H locs hw45 hP hD hS => ?_)
  obtain ⟨ht47, hw48⟩ : (∀ b, u44 = some b → T b = (5, 0, 0)) ∧ (∀ b, u44 = some b → 0 ≤ p1.toInt ∧ p1.toInt ≤ 5) := hw45
  refine W.eq (g2 := F0 m 5 ls [va_rf u44]) rfl ?_
  rcases u44 with _ | b49
  · skip
    refine W.eq (g2 := F0 m 5 ls [.null]) rfl ?_
    refine lv_astore_nN (lv' := [(3, .null), (0, .ref p0), (1, .int p1), (2, .int p2)]) hx hb dX10_room_5 rfl hl (by decide) rfl (fun ls hl => ?_)
    refine lv_aload_n hx hb dX10_room_6 rfl (lv_at hl 1 rfl) ?_
    refine va_get (D := D) (ci := 10) (v := .ref a1) (C := RX10) (T := TX10) (N := 20) hx hb hg inGX10 hown hKN.1 hP p42 hk43 rfl 0 (by decide) (hg _ kw_349) (fun _ h9 => h9) rfl dX10_room_7 ?_
    refine lv_iload_n hx hb dX10_room_10 rfl (lv_at hl 3 rfl) ?_
    refine ok2 hT h21 (fun p84 x50 a51 x52 a53 x54 a55 a56 x57 a58 a59 x60 a61 x62 hk85 h63 h64 h65 h66 h67 h68 h69 h70 h71 h72 h73 h74 h75 h76 h77 h78 h79 h80 h81 h82 h83 => ?_)
    refine cga (rn_NV (As := [.int p2]) (rest := []) (b := a1) (x_X6_worldAt l D Y Z H.size ws T g q 0 a1 p2 hT h21) ⟨hx, hb, hml, hown, hg⟩ hKN lk_X10_280 ⟨CPC.blind, va_recv hKN.1 hP (ci := 6) (q0 := p84) rfl hk85, CPC.at hP hKN hD hSZ hS hA⟩ ⟨⟨rfl, rfl⟩, ⟨Nat.le_of_ble_eq_true rfl, Nat.le_of_ble_eq_true rfl⟩, ⟨(Nat.le_of_ble_eq_true rfl), (Nat.le_of_ble_eq_true rfl)⟩⟩ hl.1 rfl (Nat.le_of_ble_eq_true rfl) dX10_room_11) hP hD hS hA (fun u86 H locs hw87 hP hD hS => ?_)
    obtain ⟨ht89, hw90⟩ : (∀ b, u86 = some b → T b = (4, 0, 0)) ∧ (∀ b, u86 = some b → 0 ≤ p2.toInt ∧ p2.toInt ≤ 39) := hw87
    refine W.eq (g2 := F0 m 14 ls [va_rf u86]) rfl ?_
    rcases u86 with _ | b91
    · skip
      refine W.eq (g2 := F0 m 14 ls [.null]) rfl ?_
      refine lv_astoreN (lv' := [(4, .null), (3, .null), (0, .ref p0), (1, .int p1), (2, .int p2)]) hx hb dX10_room_14 hl (by decide) rfl (fun ls hl => ?_)
      refine lv_aload_nN hx hb dX10_room_16 rfl (lv_at hl 1 rfl) ?_
      refine lv_ifnullN (tgt := 25) hx hb dX10_room_17 (by decide) ?_
      refine lv_iconst (v := (-1)) hx hb dX10_room_25 (by decide) ?_
      refine W.widen (k := 0) (n := 0) (Nat.le_of_ble_eq_true rfl) (Nat.le_of_ble_eq_true rfl) ?_
      have zim1 : ((-1) : Int32).toInt = -1 := by decide
      exact W.iret (v := (-1)) hx hb hr (fun t ht hW => ⟨⟨((-1)), rfl, trivial, CB.mk ht hP hD⟩, hS.F ht⟩) hS.2.2 dX10_room_26
    · skip
      have ht92 := ht89 b91 rfl
      have h93 := hw90 b91 rfl
      refine W.eq (g2 := F0 m 14 ls [.ref b91]) rfl ?_
      refine lv_astore (lv' := [(4, .ref b91), (3, .null), (0, .ref p0), (1, .int p1), (2, .int p2)]) hx hb dX10_room_14 hl (by decide) rfl (fun ls hl => ?_)
      refine lv_aload_nN hx hb dX10_room_16 rfl (lv_at hl 1 rfl) ?_
      refine lv_ifnullN (tgt := 25) hx hb dX10_room_17 (by decide) ?_
      refine lv_iconst (v := (-1)) hx hb dX10_room_25 (by decide) ?_
      refine W.widen (k := 0) (n := 0) (Nat.le_of_ble_eq_true rfl) (Nat.le_of_ble_eq_true rfl) ?_
      have zim1 : ((-1) : Int32).toInt = -1 := by decide
      exact W.iret (v := (-1)) hx hb hr (fun t ht hW => ⟨⟨((-1)), rfl, trivial, CB.mk ht hP hD⟩, hS.F ht⟩) hS.2.2 dX10_room_26
  · skip
    have ht94 := ht47 b49 rfl
    have h95 := hw48 b49 rfl
    refine W.eq (g2 := F0 m 5 ls [.ref b49]) rfl ?_
    refine lv_astore_n (lv' := [(3, .ref b49), (0, .ref p0), (1, .int p1), (2, .int p2)]) hx hb dX10_room_5 rfl hl (by decide) rfl (fun ls hl => ?_)
    refine lv_aload_n hx hb dX10_room_6 rfl (lv_at hl 1 rfl) ?_
    refine va_get (D := D) (ci := 10) (v := .ref a1) (C := RX10) (T := TX10) (N := 20) hx hb hg inGX10 hown hKN.1 hP p42 hk43 rfl 0 (by decide) (hg _ kw_349) (fun _ h9 => h9) rfl dX10_room_7 ?_
    refine lv_iload_n hx hb dX10_room_10 rfl (lv_at hl 3 rfl) ?_
    refine ok2 hT h21 (fun p130 x96 a97 x98 a99 x100 a101 a102 x103 a104 a105 x106 a107 x108 hk131 h109 h110 h111 h112 h113 h114 h115 h116 h117 h118 h119 h120 h121 h122 h123 h124 h125 h126 h127 h128 h129 => ?_)
    refine cga (rn_NV (As := [.int p2]) (rest := []) (b := a1) (x_X6_worldAt l D Y Z H.size ws T g q 0 a1 p2 hT h21) ⟨hx, hb, hml, hown, hg⟩ hKN lk_X10_280 ⟨CPC.blind, va_recv hKN.1 hP (ci := 6) (q0 := p130) rfl hk131, CPC.at hP hKN hD hSZ hS hA⟩ ⟨⟨rfl, rfl⟩, ⟨Nat.le_of_ble_eq_true rfl, Nat.le_of_ble_eq_true rfl⟩, ⟨(Nat.le_of_ble_eq_true rfl), (Nat.le_of_ble_eq_true rfl)⟩⟩ hl.1 rfl (Nat.le_of_ble_eq_true rfl) dX10_room_11) hP hD hS hA (fun u132 H locs hw133 hP hD hS => ?_)
    obtain ⟨ht135, hw136⟩ : (∀ b, u132 = some b → T b = (4, 0, 0)) ∧ (∀ b, u132 = some b → 0 ≤ p2.toInt ∧ p2.toInt ≤ 39) := hw133
    refine W.eq (g2 := F0 m 14 ls [va_rf u132]) rfl ?_
    rcases u132 with _ | b137
    · skip
      refine W.eq (g2 := F0 m 14 ls [.null]) rfl ?_
      refine lv_astoreN (lv' := [(4, .null), (3, .ref b49), (0, .ref p0), (1, .int p1), (2, .int p2)]) hx hb dX10_room_14 hl (by decide) rfl (fun ls hl => ?_)
      refine lv_aload_n hx hb dX10_room_16 rfl (lv_at hl 1 rfl) ?_
      refine lv_ifnull hx hb dX10_room_17 ?_
      refine lv_aloadN hx hb dX10_room_20 (lv_at hl 0 rfl) ?_
      refine lv_ifnonnullN hx hb dX10_room_22 ?_
      refine lv_iconst (v := (-1)) hx hb dX10_room_25 (by decide) ?_
      refine W.widen (k := 0) (n := 0) (Nat.le_of_ble_eq_true rfl) (Nat.le_of_ble_eq_true rfl) ?_
      have zim1 : ((-1) : Int32).toInt = -1 := by decide
      exact W.iret (v := (-1)) hx hb hr (fun t ht hW => ⟨⟨((-1)), rfl, trivial, CB.mk ht hP hD⟩, hS.F ht⟩) hS.2.2 dX10_room_26
    · skip
      have ht138 := ht135 b137 rfl
      have h139 := hw136 b137 rfl
      refine W.eq (g2 := F0 m 14 ls [.ref b137]) rfl ?_
      refine lv_astore (lv' := [(4, .ref b137), (3, .ref b49), (0, .ref p0), (1, .int p1), (2, .int p2)]) hx hb dX10_room_14 hl (by decide) rfl (fun ls hl => ?_)
      refine lv_aload_n hx hb dX10_room_16 rfl (lv_at hl 1 rfl) ?_
      refine lv_ifnull hx hb dX10_room_17 ?_
      refine lv_aload hx hb dX10_room_20 (lv_at hl 0 rfl) ?_
      refine lv_ifnonnull (tgt := 27) hx hb dX10_room_22 (by decide) ?_
      refine lv_aload hx hb dX10_room_27 (lv_at hl 0 rfl) ?_
      refine ok4 hT ht138 (fun p147 x140 x141 x142 x143 x144 x145 hk148 h146 => ?_)
      refine va_getN (D := D) (ci := 9) (v := .int x142) (C := RX9) (T := TX9) (N := 6) hx hb hg inGX9 hown hKN.1 hP p147 hk148 rfl 2 (by decide) (va_Nw.use rfl (hKN.2.1 _ kn_574 rfl)) (fun _ h9 => h9) rfl dX10_room_29 ?_
      refine lv_aload_n hx hb dX10_room_32 rfl (lv_at hl 1 rfl) ?_
      refine ok5 hT ht94 (fun p170 x149 x150 x151 x152 x153 x154 x155 x156 a157 a158 a159 a160 a161 x162 hk171 h163 h164 h165 h166 h167 h168 h169 => ?_)
      refine va_getN (D := D) (ci := 8) (v := .int x154) (C := RX8) (T := TX8) (N := 14) hx hb hg inGX8 hown hKN.1 hP p170 hk171 rfl 5 (by decide) (va_Nw.use rfl (hKN.2.1 _ kn_132 rfl)) (fun _ h9 => h9) rfl dX10_room_33 ?_
      refine lv_iconst (v := 1) hx hb dX10_room_36 (by decide) ?_
      refine lv_isub hx hb dX10_room_37 ?_
      refine lv_topi (fun v172 ev172 => ?_)
      refine lv_aload hx hb dX10_room_38 (lv_at hl 0 rfl) ?_
      refine va_getN (D := D) (ci := 9) (v := .int x141) (C := RX9) (T := TX9) (N := 6) hx hb hg inGX9 hown hKN.1 hP p147 hk148 rfl 1 (by decide) (va_Nw.use rfl (hKN.2.1 _ kn_572 rfl)) (fun _ h9 => h9) rfl dX10_room_40 ?_
      refine lv_imul hx hb dX10_room_43 ?_
      refine lv_topi (fun v173 ev173 => ?_)
      refine lv_iadd hx hb dX10_room_44 ?_
      refine lv_topi (fun v174 ev174 => ?_)
      refine lv_iconst (v := 1) hx hb dX10_room_45 (by decide) ?_
      refine lv_iadd hx hb dX10_room_46 ?_
      refine lv_topi (fun v175 ev175 => ?_)
      refine W.widen (k := 0) (n := 0) (Nat.le_of_ble_eq_true rfl) (Nat.le_of_ble_eq_true rfl) ?_
      exact W.iret (v := v175) hx hb hr (fun t ht hW => ⟨⟨v175, rfl, trivial, CB.mk ht hP hD⟩, hS.F ht⟩) hS.2.2 dX10_room_47
set_option maxHeartbeats 4000000 in
set_option maxRecDepth 100000 in
theorem x_X10_other (l : Launch) (D : va_G) (Y : Nat → ClassId) (Z : Nat → Nat) (sz : Nat) (ws : va_W) (T : RT) (g : GN) (q : GQ)  (p0 : Nat) (p1 : Int32) (p2 : Int32) (p3 : Int32) (hT : TW Y Z T g q ws) (ht0 : T p0 = (1, 0, 0)) : Met l yX10_other (.code yX10_other cX10_other 5 (some .int) :: GW) ({ frames := 5, cells := 1, slots := 7, locals := 133 }) (va_Pc [.ref p0, .int p1, .int p2, .int p3] (CPC D Y Z ws sz)) (QG (S := Int32 × va_W × RT) (fun u => some (.int u.1)) (fun u => TLe T u.2.2 ∧ TW Y Z u.2.2 g q u.2.1 ∧ KF 1 T ws u.2.1) (fun u => CB D u.2.1 (va_A ws sz)) (va_A ws sz)) 1 7 (va_A ws sz) := by
  refine Met.ofW (cc := cX10_other) (maxL := 5) (ret := (some .int)) (by decide) rfl ?_
  intro p e s m args below meth c s₁ B hml hv
  obtain ⟨rfl, ⟨hsz, hP, hKN, hD0⟩, hSZ⟩ := hv
  have hx := B.exec
  have hb := B.bytes
  have hr := B.returns
  have hts := atoms_spec (ws := .code yX10_other cX10_other 5 (some .int) :: GW) B.pre
  have hg : ∀ w ∈ GW, w.before _ s = true := fun w h => hts w (List.mem_cons_of_mem _ h)
  have hown : s.vm.findClass RX10 = some m.cls := findClass_of_methodNamed B.named
  have hlocks := B.notSynchronized
  subst hsz
  have hD := hD0.self (sz := s.heap.size)
  generalize hAe : va_A ws s.heap.size = A at hD hSZ ⊢
  have hA : ∀ q : Nat, s.heap.size ≤ q → A q := fun q h => by rw [← hAe]; exact Or.inr h
  clear hAe hD0 hts B
  have hl := lv_entry ([.ref p0, .int p1, .int p2, .int p3]) (n := 5) (Nat.le_of_ble_eq_true rfl)
  rw [lg_entry_eq]
  generalize (lg_sl ([.ref p0, .int p1, .int p2, .int p3]) ++ List.replicate (5 - (lg_sl ([.ref p0, .int p1, .int p2, .int p3])).length) Slot.unset).toArray = ls at hl ⊢
  have hl : lv_has ls 5 [(0, .ref p0), (1, .int p1), (2, .int p2), (3, .int p3)] := hl
  refine w_start (A0 := A) hP (fun H locs hP hS => ?_)
  refine lv_aload_n hx hb dX10_other_0 rfl (lv_at hl 0 rfl) ?_
  refine lv_iload_n hx hb dX10_other_1 rfl (lv_at hl 1 rfl) ?_
  refine ok1 hT ht0 (fun p42 a1 a2 a3 a4 a5 x6 x7 x8 a9 a10 a11 a12 a13 a14 a15 a16 a17 x18 a19 a20 hk43 h21 h22 h23 h24 h25 h26 h27 h28 h29 h30 h31 h32 h33 h34 h35 h36 h37 h38 h39 h40 h41 => ?_)
  refine cga (rn_V (As := [.int p1]) (rest := []) (b := p0) (x_X10_searchAt l D Y Z H.size ws T g q p0 p1 hT ht0) ⟨hx, hb, hml, hown, hg⟩ lk_X10_259 ⟨CPC.blind, va_recv hKN.1 hP (ci := 10) (q0 := p42) rfl hk43, CPC.at hP hKN hD hSZ hS hA⟩ ⟨⟨rfl, rfl⟩, ⟨Nat.le_of_ble_eq_true rfl, Nat.le_of_ble_eq_true rfl⟩, ⟨(Nat.le_of_ble_eq_true rfl), (Nat.le_of_ble_eq_true rfl)⟩⟩ hl.1 rfl (Nat.le_of_ble_eq_true rfl) dX10_other_2) hP hD hS hA (fun u44 H locs hw45 hP hD hS => ?_)
  obtain ⟨ht47, hw48⟩ : (∀ b, u44 = some b → T b = (5, 0, 0)) ∧ (∀ b, u44 = some b → 0 ≤ p1.toInt ∧ p1.toInt ≤ 5) := hw45
  refine W.eq (g2 := F0 m 5 ls [va_rf u44]) rfl ?_
  rcases u44 with _ | b49
  · skip
    refine W.eq (g2 := F0 m 5 ls [.null]) rfl ?_
    refine lv_ifnullN (tgt := 25) hx hb dX10_other_5 (by decide) ?_
    refine lv_bipush (v := (-3)) hx hb dX10_other_25 (by decide) ?_
    refine W.widen (k := 1) (n := 7) (Nat.le_of_ble_eq_true rfl) (Nat.le_of_ble_eq_true rfl) ?_
    have zim3 : ((-3) : Int32).toInt = -3 := by decide
    exact W.iret (v := (-3)) hx hb hr (fun t ht hW => ⟨⟨(((-3)), ws, T), rfl, ⟨TLe.rf, hT, KF.rf⟩, CB.mk ht hP hD⟩, hS.F ht⟩) hS.2.2 dX10_other_27
  · skip
    have ht50 := ht47 b49 rfl
    have h51 := hw48 b49 rfl
    refine W.eq (g2 := F0 m 5 ls [.ref b49]) rfl ?_
    refine lv_ifnull hx hb dX10_other_5 ?_
    refine lv_aload_n hx hb dX10_other_8 rfl (lv_at hl 0 rfl) ?_
    refine lv_iload_n hx hb dX10_other_9 rfl (lv_at hl 2 rfl) ?_
    refine cga (rn_V (As := [.int p2]) (rest := []) (b := p0) (x_X10_isStar l D Y Z H.size ws T g q p0 p2 hT ht0) ⟨hx, hb, hml, hown, hg⟩ lk_X10_137 ⟨CPC.blind, va_recv hKN.1 hP (ci := 10) (q0 := p42) rfl hk43, CPC.at hP hKN hD hSZ hS hA⟩ ⟨⟨rfl, rfl⟩, ⟨Nat.le_of_ble_eq_true rfl, Nat.le_of_ble_eq_true rfl⟩, ⟨(Nat.le_of_ble_eq_true rfl), (Nat.le_of_ble_eq_true rfl)⟩⟩ hl.1 rfl (Nat.le_of_ble_eq_true rfl) dX10_other_10) hP hD hS hA (fun u52 H locs hw53 hP hD hS => ?_)
    obtain ⟨hw55, hw56⟩ : (0 ≤ u52.toInt ∧ u52.toInt ≤ 1) ∧ (u52.toInt = 1 → (0 ≤ p2.toInt ∧ p2.toInt ≤ 11)) := hw53
    refine W.eq (g2 := F0 m 13 ls [.int u52]) rfl ?_
    rcases (show u52.toInt = 1 ∨ u52.toInt = 0 by omega) with c57 | c57
    · obtain rfl : u52 = 1 := i_is c57 (by decide)
      have zi1 : (1 : Int32).toInt = 1 := by decide
      replace hw56 := hw56 (by decide)
      refine W.eq (g2 := F0 m 13 ls [.int 1]) rfl ?_
      refine lv_if_eq (tgt := 25) hx hb dX10_other_13 (by decide) (fun c58 => ?_) (fun c58 => ?_)
      · exact absurd c58 (by decide)
      refine lv_iload_n hx hb dX10_other_16 rfl (lv_at hl 3 rfl) ?_
      refine lv_iconst (v := 0) hx hb dX10_other_17 (by decide) ?_
      refine lv_iconst (v := 1) hx hb dX10_other_18 (by decide) ?_
      have zi0 : (0 : Int32).toInt = 0 := by decide
      refine cg0 (rn_S (As := [.int p3, .int 0, .int 1]) (rest := []) (x_X10_isWithin l D Y Z H.size p3 0 1) ⟨hx, hb, hml, hown, hg⟩ lk_X10_100 ⟨CP.blind, CP.at nilP hKN (nilD (A := fun _ => True))⟩ ⟨⟨rfl, rfl⟩, ⟨Nat.le_of_ble_eq_true rfl, Nat.le_of_ble_eq_true rfl⟩, ⟨(Nat.le_of_ble_eq_true rfl), (Nat.le_of_ble_eq_true rfl)⟩⟩ hl.1 rfl (Nat.le_of_ble_eq_true rfl) dX10_other_19) hP hS hA (fun u59 H locs hw60 hP hS => ?_)
      obtain ⟨hw62, hw63⟩ : (((0 : Int32).toInt ≤ p3.toInt ∧ p3.toInt ≤ (1 : Int32).toInt ∧ u59.toInt = 1) ∨ (¬ ((0 : Int32).toInt ≤ p3.toInt ∧ p3.toInt ≤ (1 : Int32).toInt) ∧ u59.toInt = 0)) ∧ (0 ≤ u59.toInt ∧ u59.toInt ≤ 1) := hw60
      refine W.eq (g2 := F0 m 22 ls [.int u59]) rfl ?_
      rcases (show u59.toInt = 1 ∨ u59.toInt = 0 by omega) with c64 | c64
      · obtain rfl : u59 = 1 := i_is c64 (by decide)
        refine W.eq (g2 := F0 m 22 ls [.int 1]) rfl ?_
        refine lv_if_ne (tgt := 28) hx hb dX10_other_22 (by decide) (fun c65 => ?_) (fun c65 => ?_)
        rotate_left
        · exact absurd c65 (by decide)
        refine lv_aload_n hx hb dX10_other_28 rfl (lv_at hl 0 rfl) ?_
        refine lv_iload_n hx hb dX10_other_29 rfl (lv_at hl 1 rfl) ?_
        refine lv_iload_n hx hb dX10_other_30 rfl (lv_at hl 2 rfl) ?_
        refine lv_iconst (v := 0) hx hb dX10_other_31 (by decide) ?_
        refine cga (rn_V (As := [.int p1, .int p2, .int 0]) (rest := []) (b := p0) (x_X10_findingOf l D Y Z H.size ws T g q p0 p1 p2 0 hT ht0) ⟨hx, hb, hml, hown, hg⟩ lk_X10_264 ⟨CPC.blind, va_recv hKN.1 hP (ci := 10) (q0 := p42) rfl hk43, CPC.at hP hKN hD hSZ hS hA⟩ ⟨⟨rfl, rfl⟩, ⟨Nat.le_of_ble_eq_true rfl, Nat.le_of_ble_eq_true rfl⟩, ⟨(Nat.le_of_ble_eq_true rfl), (Nat.le_of_ble_eq_true rfl)⟩⟩ hl.1 rfl (Nat.le_of_ble_eq_true rfl) dX10_other_32) hP hD hS hA (fun u66 H locs hw67 hP hD hS => ?_)
        refine W.widen (k := 1) (n := 7) (Nat.le_of_ble_eq_true rfl) (Nat.le_of_ble_eq_true rfl) ?_
        obtain ⟨b68, w69, T70⟩ := u66
        obtain ⟨le71, hT, ke72, ht73⟩ : TLe T T70 ∧ TW Y Z T70 g q w69 ∧ KF 1 T ws w69 ∧ T70 b68 = (6, 0, 0) := hw67
        have hk74 := ke72 _ _ hk43 (show (T p0).1 = 1 by rw [ht0])
        have ke75 : KF 1 T ws w69 := KF.tr KF.rf ke72
        refine W.eq (g2 := F0 m 35 ls [.ref b68]) rfl ?_
        refine lv_astore (lv' := [(4, .ref b68), (0, .ref p0), (1, .int p1), (2, .int p2), (3, .int p3)]) hx hb dX10_other_35 hl (by decide) rfl (fun ls hl => ?_)
        refine lv_aload hx hb dX10_other_37 (lv_at hl 0 rfl) ?_
        refine ok6 hT ht73 (fun p84 x76 x77 x78 x79 x80 y81 y82 hk85 h83 => ?_)
        refine cga (rn_NV (As := []) (rest := []) (b := b68) (x_X1_isNone l D Y Z H.size w69 T70 g q b68 p84 x76 x77 x78 x79 x80 y81 y82 hT ht73 hk85) ⟨hx, hb, hml, hown, hg⟩ hKN lk_X10_315 ⟨CPC.blind, va_recv hKN.1 hP (ci := 1) (q0 := p84) rfl hk85, CPC.at hP hKN hD hSZ hS hA⟩ ⟨⟨rfl, rfl⟩, ⟨Nat.le_of_ble_eq_true rfl, Nat.le_of_ble_eq_true rfl⟩, ⟨(Nat.le_of_ble_eq_true rfl), (Nat.le_of_ble_eq_true rfl)⟩⟩ hl.1 rfl (Nat.le_of_ble_eq_true rfl) dX10_other_39) hP hD hS hA (fun u86 H locs hw87 hP hD hS => ?_)
        obtain ⟨hw89, hw90⟩ : (0 ≤ u86.toInt ∧ u86.toInt ≤ 1) ∧ (u86.toInt = 0 → 1 ≤ x77.toInt) := hw87
        refine W.eq (g2 := F0 m 42 ls [.int u86]) rfl ?_
        rcases (show u86.toInt = 1 ∨ u86.toInt = 0 by omega) with c91 | c91
        · obtain rfl : u86 = 1 := i_is c91 (by decide)
          clear hw90
          refine W.eq (g2 := F0 m 42 ls [.int 1]) rfl ?_
          refine lv_if_eq (tgt := 48) hx hb dX10_other_42 (by decide) (fun c92 => ?_) (fun c92 => ?_)
          · exact absurd c92 (by decide)
          refine lv_bipush (v := (-2)) hx hb dX10_other_45 (by decide) ?_
          refine W.widen (k := 1) (n := 7) (Nat.le_of_ble_eq_true rfl) (Nat.le_of_ble_eq_true rfl) ?_
          have zim2 : ((-2) : Int32).toInt = -2 := by decide
          exact W.iret (v := (-2)) hx hb hr (fun t ht hW => ⟨⟨(((-2)), w69, T70), rfl, ⟨le71, hT, ke75⟩, CB.mk ht hP hD⟩, hS.F ht⟩) hS.2.2 dX10_other_47
        · obtain rfl : u86 = 0 := i_is c91 (by decide)
          replace hw90 := hw90 (by decide)
          refine W.eq (g2 := F0 m 42 ls [.int 0]) rfl ?_
          refine lv_if_eq (tgt := 48) hx hb dX10_other_42 (by decide) (fun c93 => ?_) (fun c93 => ?_)
          rotate_left
          · exact absurd c93 (by decide)
          refine lv_aload_n hx hb dX10_other_48 rfl (lv_at hl 1 rfl) ?_
          refine va_get (D := D) (ci := 10) (v := .ref a11) (C := RX10) (T := TX10) (N := 20) hx hb hg inGX10 hown hKN.1 hP p42 hk74 rfl 10 (by decide) (hg _ kw_359) (fun _ h9 => h9) rfl dX10_other_49 ?_
          refine lv_aload_n hx hb dX10_other_52 rfl (lv_at hl 1 rfl) ?_
          refine va_get (D := D) (ci := 10) (v := .ref a1) (C := RX10) (T := TX10) (N := 20) hx hb hg inGX10 hown hKN.1 hP p42 hk74 rfl 0 (by decide) (hg _ kw_349) (fun _ h9 => h9) rfl dX10_other_53 ?_
          refine lv_iload_n hx hb dX10_other_56 rfl (lv_at hl 3 rfl) ?_
          refine lv_iconst (v := 0) hx hb dX10_other_57 (by decide) ?_
          refine ok9 hT (le71.up h33) (fun p106 a94 a95 a96 x97 y98 y99 x100 y101 hk107 h102 h103 h104 h105 => ?_)
          refine cga (rn_NV (As := [.ref a1, .int p2, .int 0]) (rest := []) (b := a11) (x_X2_see l D Y Z H.size w69 T70 g q 0 a11 a1 p2 0 hT (le71.up h33) (le71.up h21)) ⟨hx, hb, hml, hown, hg⟩ hKN lk_X10_143 ⟨CPC.blind, va_recv hKN.1 hP (ci := 2) (q0 := p106) rfl hk107, CPC.at hP hKN hD hSZ hS hA⟩ ⟨⟨rfl, rfl⟩, ⟨Nat.le_of_ble_eq_true rfl, Nat.le_of_ble_eq_true rfl⟩, ⟨(Nat.le_of_ble_eq_true rfl), (Nat.le_of_ble_eq_true rfl)⟩⟩ hl.1 rfl (Nat.le_of_ble_eq_true rfl) dX10_other_58) hP hD hS hA (fun u108 H locs hw109 hP hD hS => ?_)
          obtain ⟨hT, ke111, ke112⟩ : TW Y Z T70 g q u108 ∧ KF 1 T70 w69 u108 ∧ KF 6 T70 w69 u108 := hw109
          have hk113 := ke111 _ _ hk74 (show (T70 p0).1 = 1 by rw [(le71.up ht0)])
          have hk114 := ke112 _ _ hk85 (show (T70 b68).1 = 6 by rw [ht73])
          have ke115 : KF 1 T ws u108 := KF.tr ke75 (KF.le (by decide) le71 ke111)
          refine W.eq (g2 := F0 m 61 ls []) rfl ?_
          refine lv_aload_n hx hb dX10_other_61 rfl (lv_at hl 1 rfl) ?_
          refine va_get (D := D) (ci := 10) (v := .ref a13) (C := RX10) (T := TX10) (N := 20) hx hb hg inGX10 hown hKN.1 hP p42 hk113 rfl 12 (by decide) (hg _ kw_361) (fun _ h9 => h9) rfl dX10_other_62 ?_
          refine lv_aload_n hx hb dX10_other_65 rfl (lv_at hl 1 rfl) ?_
          refine va_get (D := D) (ci := 10) (v := .ref a11) (C := RX10) (T := TX10) (N := 20) hx hb hg inGX10 hown hKN.1 hP p42 hk113 rfl 10 (by decide) (hg _ kw_359) (fun _ h9 => h9) rfl dX10_other_66 ?_
          refine lv_aload hx hb dX10_other_69 (lv_at hl 0 rfl) ?_
          refine ok11 hT (le71.up h35) (fun p124 a116 a117 a118 a119 hk125 h120 h121 h122 h123 => ?_)
          refine cga (rn_NV (As := [.ref a11, .ref b68]) (rest := []) (b := a13) (x_X5_readShifts l D Y Z H.size u108 T70 g q a13 a11 b68 hT (le71.up h35) (le71.up h33) ht73) ⟨hx, hb, hml, hown, hg⟩ hKN lk_X10_399 ⟨CPC.blind, va_recv hKN.1 hP (ci := 5) (q0 := p124) rfl hk125, CPC.at hP hKN hD hSZ hS hA⟩ ⟨⟨rfl, rfl⟩, ⟨Nat.le_of_ble_eq_true rfl, Nat.le_of_ble_eq_true rfl⟩, ⟨(Nat.le_of_ble_eq_true rfl), (Nat.le_of_ble_eq_true rfl)⟩⟩ hl.1 rfl (Nat.le_of_ble_eq_true rfl) dX10_other_71) hP hD hS hA (fun u126 H locs hw127 hP hD hS => ?_)
          obtain ⟨hT, ke129, ke130⟩ : TW Y Z T70 g q u126 ∧ KF 1 T70 u108 u126 ∧ KF 6 T70 u108 u126 := hw127
          have hk131 := ke129 _ _ hk113 (show (T70 p0).1 = 1 by rw [(le71.up ht0)])
          have hk132 := ke130 _ _ hk114 (show (T70 b68).1 = 6 by rw [ht73])
          have ke133 : KF 1 T ws u126 := KF.tr ke115 (KF.le (by decide) le71 ke129)
          refine W.eq (g2 := F0 m 74 ls []) rfl ?_
          refine lv_iload_n hx hb dX10_other_74 rfl (lv_at hl 4 rfl) ?_
          refine lv_if_ne (tgt := 88) hx hb dX10_other_75 (by decide) (fun c134 => ?_) (fun c134 => ?_)
          · skip
            have c134 := i_ne (Eq.refl p3.toInt) (show (0 : Int32).toInt = 0 by decide) c134
            refine lv_aload_n hx hb dX10_other_88 rfl (lv_at hl 1 rfl) ?_
            refine va_get (D := D) (ci := 10) (v := .ref a13) (C := RX10) (T := TX10) (N := 20) hx hb hg inGX10 hown hKN.1 hP p42 hk131 rfl 12 (by decide) (hg _ kw_361) (fun _ h9 => h9) rfl dX10_other_89 ?_
            refine ok11 hT (le71.up h35) (fun p143 a135 a136 a137 a138 hk144 h139 h140 h141 h142 => ?_)
            refine cga (rn_NV (As := []) (rest := []) (b := a13) (x_X5_round l D Y Z H.size u126 T70 g q a13 hT (le71.up h35)) ⟨hx, hb, hml, hown, hg⟩ hKN lk_X10_405 ⟨CPC.blind, va_recv hKN.1 hP (ci := 5) (q0 := p143) rfl hk144, CPC.at hP hKN hD hSZ hS hA⟩ ⟨⟨rfl, rfl⟩, ⟨Nat.le_of_ble_eq_true rfl, Nat.le_of_ble_eq_true rfl⟩, ⟨(Nat.le_of_ble_eq_true rfl), (Nat.le_of_ble_eq_true rfl)⟩⟩ hl.1 rfl (Nat.le_of_ble_eq_true rfl) dX10_other_92) hP hD hS hA (fun u145 H locs hw146 hP hD hS => ?_)
            refine W.eq (g2 := F0 m 95 ls [.int u145]) rfl ?_
            refine W.widen (k := 1) (n := 7) (Nat.le_of_ble_eq_true rfl) (Nat.le_of_ble_eq_true rfl) ?_
            exact W.iret (v := u145) hx hb hr (fun t ht hW => ⟨⟨(u145, u126, T70), rfl, ⟨le71, hT, ke133⟩, CB.mk ht hP hD⟩, hS.F ht⟩) hS.2.2 dX10_other_95
          · skip
            have c134 := i_eq (Eq.refl p3.toInt) (show (0 : Int32).toInt = 0 by decide) c134
            refine lv_aload_n hx hb dX10_other_78 rfl (lv_at hl 1 rfl) ?_
            refine va_get (D := D) (ci := 10) (v := .ref a13) (C := RX10) (T := TX10) (N := 20) hx hb hg inGX10 hown hKN.1 hP p42 hk131 rfl 12 (by decide) (hg _ kw_361) (fun _ h9 => h9) rfl dX10_other_79 ?_
            refine ok11 hT (le71.up h35) (fun p156 a148 a149 a150 a151 hk157 h152 h153 h154 h155 => ?_)
            refine cga (rn_NV (As := []) (rest := []) (b := a13) (x_X5_shifted l D Y Z H.size u126 T70 g q a13 hT (le71.up h35)) ⟨hx, hb, hml, hown, hg⟩ hKN lk_X10_402 ⟨CPC.blind, va_recv hKN.1 hP (ci := 5) (q0 := p156) rfl hk157, CPC.at hP hKN hD hSZ hS hA⟩ ⟨⟨rfl, rfl⟩, ⟨Nat.le_of_ble_eq_true rfl, Nat.le_of_ble_eq_true rfl⟩, ⟨(Nat.le_of_ble_eq_true rfl), (Nat.le_of_ble_eq_true rfl)⟩⟩ hl.1 rfl (Nat.le_of_ble_eq_true rfl) dX10_other_82) hP hD hS hA (fun u158 H locs hw159 hP hD hS => ?_)
            refine W.eq (g2 := F0 m 85 ls [.int u158]) rfl ?_
            refine lv_goto (tgt := 95) hx hb dX10_other_85 (by decide) ?_
            refine W.widen (k := 1) (n := 7) (Nat.le_of_ble_eq_true rfl) (Nat.le_of_ble_eq_true rfl) ?_
            exact W.iret (v := u158) hx hb hr (fun t ht hW => ⟨⟨(u158, u126, T70), rfl, ⟨le71, hT, ke133⟩, CB.mk ht hP hD⟩, hS.F ht⟩) hS.2.2 dX10_other_95
      · obtain rfl : u59 = 0 := i_is c64 (by decide)
        refine W.eq (g2 := F0 m 22 ls [.int 0]) rfl ?_
        refine lv_if_ne (tgt := 28) hx hb dX10_other_22 (by decide) (fun c161 => ?_) (fun c161 => ?_)
        · exact absurd c161 (by decide)
        refine lv_bipush (v := (-3)) hx hb dX10_other_25 (by decide) ?_
        refine W.widen (k := 1) (n := 7) (Nat.le_of_ble_eq_true rfl) (Nat.le_of_ble_eq_true rfl) ?_
        have zim3 : ((-3) : Int32).toInt = -3 := by decide
        exact W.iret (v := (-3)) hx hb hr (fun t ht hW => ⟨⟨(((-3)), ws, T), rfl, ⟨TLe.rf, hT, KF.rf⟩, CB.mk ht hP hD⟩, hS.F ht⟩) hS.2.2 dX10_other_27
    · obtain rfl : u52 = 0 := i_is c57 (by decide)
      have zi0 : (0 : Int32).toInt = 0 := by decide
      clear hw56
      refine W.eq (g2 := F0 m 13 ls [.int 0]) rfl ?_
      refine lv_if_eq (tgt := 25) hx hb dX10_other_13 (by decide) (fun c162 => ?_) (fun c162 => ?_)
      rotate_left
      · exact absurd c162 (by decide)
      refine lv_bipush (v := (-3)) hx hb dX10_other_25 (by decide) ?_
      refine W.widen (k := 1) (n := 7) (Nat.le_of_ble_eq_true rfl) (Nat.le_of_ble_eq_true rfl) ?_
      have zim3 : ((-3) : Int32).toInt = -3 := by decide
      exact W.iret (v := (-3)) hx hb hr (fun t ht hW => ⟨⟨(((-3)), ws, T), rfl, ⟨TLe.rf, hT, KF.rf⟩, CB.mk ht hP hD⟩, hS.F ht⟩) hS.2.2 dX10_other_27
set_option maxHeartbeats 4000000 in
set_option maxRecDepth 100000 in
theorem x_X10_fold (l : Launch) (D : va_G) (Y : Nat → ClassId) (Z : Nat → Nat) (sz : Nat) (ws : va_W) (T : RT) (g : GN) (q : GQ)  (p0 : Nat) (p1 : Int32) (p2 : Int32) (p3 : Int32) (p4 : Int32) (p5 : Int32) (hT : TW Y Z T g q ws) (ht0 : T p0 = (1, 0, 0)) : Met l yX10_fold (.code yX10_fold cX10_fold 7 (some .long) :: GW) ({ frames := 4, cells := 0, slots := 0, locals := 101 }) (va_Pc [.ref p0, .int p1, .int p2, .int p3, .int p4, .int p5] (CPC D Y Z ws sz)) (QG (S := Int64 × va_W) (fun u => some (.long u.1)) (fun u => TW Y Z T g q u.2 ∧ KF 1 T ws u.2 ∧ KF 6 T ws u.2) (fun u => CB D u.2 (va_A ws sz)) (va_A ws sz)) 0 0 (va_A ws sz) := by
  refine Met.ofW (cc := cX10_fold) (maxL := 7) (ret := (some .long)) (by decide) rfl ?_
  intro p e s m args below meth c s₁ B hml hv
  obtain ⟨rfl, ⟨hsz, hP, hKN, hD0⟩, hSZ⟩ := hv
  have hx := B.exec
  have hb := B.bytes
  have hr := B.returns
  have hts := atoms_spec (ws := .code yX10_fold cX10_fold 7 (some .long) :: GW) B.pre
  have hg : ∀ w ∈ GW, w.before _ s = true := fun w h => hts w (List.mem_cons_of_mem _ h)
  have hown : s.vm.findClass RX10 = some m.cls := findClass_of_methodNamed B.named
  have hlocks := B.notSynchronized
  subst hsz
  have hD := hD0.self (sz := s.heap.size)
  generalize hAe : va_A ws s.heap.size = A at hD hSZ ⊢
  have hA : ∀ q : Nat, s.heap.size ≤ q → A q := fun q h => by rw [← hAe]; exact Or.inr h
  clear hAe hD0 hts B
  have hl := lv_entry ([.ref p0, .int p1, .int p2, .int p3, .int p4, .int p5]) (n := 7) (Nat.le_of_ble_eq_true rfl)
  rw [lg_entry_eq]
  generalize (lg_sl ([.ref p0, .int p1, .int p2, .int p3, .int p4, .int p5]) ++ List.replicate (7 - (lg_sl ([.ref p0, .int p1, .int p2, .int p3, .int p4, .int p5])).length) Slot.unset).toArray = ls at hl ⊢
  have hl : lv_has ls 7 [(0, .ref p0), (1, .int p1), (2, .int p2), (3, .int p3), (4, .int p4), (5, .int p5)] := hl
  refine w_start (A0 := A) hP (fun H locs hP hS => ?_)
  refine lv_iload_n hx hb dX10_fold_0 rfl (lv_at hl 3 rfl) ?_
  refine cg0 (rn_S (As := [.int p3]) (rest := []) (x_X10_isBeat l D Y Z H.size p3) ⟨hx, hb, hml, hown, hg⟩ lk_X10_234 ⟨CP.blind, CP.at nilP hKN (nilD (A := fun _ => True))⟩ ⟨⟨rfl, rfl⟩, ⟨Nat.le_of_ble_eq_true rfl, Nat.le_of_ble_eq_true rfl⟩, ⟨(Nat.le_of_ble_eq_true rfl), (Nat.le_of_ble_eq_true rfl)⟩⟩ hl.1 rfl (Nat.le_of_ble_eq_true rfl) dX10_fold_1) hP hS hA (fun u1 H locs hw2 hP hS => ?_)
  obtain ⟨hw4, hw5⟩ : ((2 ≤ p3.toInt ∧ p3.toInt ≤ 200 ∧ u1.toInt = 1) ∨ (¬ (2 ≤ p3.toInt ∧ p3.toInt ≤ 200) ∧ u1.toInt = 0)) ∧ (0 ≤ u1.toInt ∧ u1.toInt ≤ 1) := hw2
  refine W.eq (g2 := F0 m 4 ls [.int u1]) rfl ?_
  rcases (show u1.toInt = 1 ∨ u1.toInt = 0 by omega) with c6 | c6
  · obtain rfl : u1 = 1 := i_is c6 (by decide)
    have zi1 : (1 : Int32).toInt = 1 := by decide
    refine W.eq (g2 := F0 m 4 ls [.int 1]) rfl ?_
    refine lv_if_eq (tgt := 23) hx hb dX10_fold_4 (by decide) (fun c7 => ?_) (fun c7 => ?_)
    · exact absurd c7 (by decide)
    refine lv_iload hx hb dX10_fold_7 (lv_at hl 4 rfl) ?_
    refine lv_iconst (v := 0) hx hb dX10_fold_9 (by decide) ?_
    refine lv_iload_n hx hb dX10_fold_10 rfl (lv_at hl 3 rfl) ?_
    refine lv_iconst (v := 1) hx hb dX10_fold_11 (by decide) ?_
    refine lv_isub hx hb dX10_fold_12 ?_
    refine lv_topi (fun v8 ev8 => ?_)
    have hv8 := i_sub (Eq.refl p3.toInt) (show (1 : Int32).toInt = 1 by decide) ev8 (by omega) (by omega)
    have zi0 : (0 : Int32).toInt = 0 := by decide
    refine cg0 (rn_S (As := [.int p4, .int 0, .int v8]) (rest := []) (x_X10_isWithin l D Y Z H.size p4 0 v8) ⟨hx, hb, hml, hown, hg⟩ lk_X10_100 ⟨CP.blind, CP.at nilP hKN (nilD (A := fun _ => True))⟩ ⟨⟨rfl, rfl⟩, ⟨Nat.le_of_ble_eq_true rfl, Nat.le_of_ble_eq_true rfl⟩, ⟨(Nat.le_of_ble_eq_true rfl), (Nat.le_of_ble_eq_true rfl)⟩⟩ hl.1 rfl (Nat.le_of_ble_eq_true rfl) dX10_fold_13) hP hS hA (fun u9 H locs hw10 hP hS => ?_)
    obtain ⟨hw12, hw13⟩ : (((0 : Int32).toInt ≤ p4.toInt ∧ p4.toInt ≤ v8.toInt ∧ u9.toInt = 1) ∨ (¬ ((0 : Int32).toInt ≤ p4.toInt ∧ p4.toInt ≤ v8.toInt) ∧ u9.toInt = 0)) ∧ (0 ≤ u9.toInt ∧ u9.toInt ≤ 1) := hw10
    refine W.eq (g2 := F0 m 16 ls [.int u9]) rfl ?_
    rcases (show u9.toInt = 1 ∨ u9.toInt = 0 by omega) with c14 | c14
    · obtain rfl : u9 = 1 := i_is c14 (by decide)
      refine W.eq (g2 := F0 m 16 ls [.int 1]) rfl ?_
      refine lv_if_eq (tgt := 23) hx hb dX10_fold_16 (by decide) (fun c15 => ?_) (fun c15 => ?_)
      · exact absurd c15 (by decide)
      refine lv_iconst (v := 1) hx hb dX10_fold_19 (by decide) ?_
      refine lv_goto (tgt := 24) hx hb dX10_fold_20 (by decide) ?_
      refine lv_istore (lv' := [(6, .int 1), (0, .ref p0), (1, .int p1), (2, .int p2), (3, .int p3), (4, .int p4), (5, .int p5)]) hx hb dX10_fold_24 hl (by decide) rfl (fun ls hl => ?_)
      refine lv_aload_n hx hb dX10_fold_26 rfl (lv_at hl 1 rfl) ?_
      refine lv_iload_n hx hb dX10_fold_27 rfl (lv_at hl 2 rfl) ?_
      refine ok1 hT ht0 (fun p57 a16 a17 a18 a19 a20 x21 x22 x23 a24 a25 a26 a27 a28 a29 a30 a31 a32 x33 a34 a35 hk58 h36 h37 h38 h39 h40 h41 h42 h43 h44 h45 h46 h47 h48 h49 h50 h51 h52 h53 h54 h55 h56 => ?_)
      refine cga (rn_V (As := [.int p1]) (rest := []) (b := p0) (x_X10_isStar l D Y Z H.size ws T g q p0 p1 hT ht0) ⟨hx, hb, hml, hown, hg⟩ lk_X10_137 ⟨CPC.blind, va_recv hKN.1 hP (ci := 10) (q0 := p57) rfl hk58, CPC.at hP hKN hD hSZ hS hA⟩ ⟨⟨rfl, rfl⟩, ⟨Nat.le_of_ble_eq_true rfl, Nat.le_of_ble_eq_true rfl⟩, ⟨(Nat.le_of_ble_eq_true rfl), (Nat.le_of_ble_eq_true rfl)⟩⟩ hl.1 rfl (Nat.le_of_ble_eq_true rfl) dX10_fold_28) hP hD hS hA (fun u59 H locs hw60 hP hD hS => ?_)
      obtain ⟨hw62, hw63⟩ : (0 ≤ u59.toInt ∧ u59.toInt ≤ 1) ∧ (u59.toInt = 1 → (0 ≤ p1.toInt ∧ p1.toInt ≤ 11)) := hw60
      refine W.eq (g2 := F0 m 31 ls [.int u59]) rfl ?_
      rcases (show u59.toInt = 1 ∨ u59.toInt = 0 by omega) with c64 | c64
      · obtain rfl : u59 = 1 := i_is c64 (by decide)
        replace hw63 := hw63 (by decide)
        refine W.eq (g2 := F0 m 31 ls [.int 1]) rfl ?_
        refine lv_if_eq (tgt := 56) hx hb dX10_fold_31 (by decide) (fun c65 => ?_) (fun c65 => ?_)
        · exact absurd c65 (by decide)
        refine lv_iload_n hx hb dX10_fold_34 rfl (lv_at hl 3 rfl) ?_
        refine cg0 (rn_S (As := [.int p2]) (rest := []) (x_X10_isWay l D Y Z H.size p2) ⟨hx, hb, hml, hown, hg⟩ lk_X10_140 ⟨CP.blind, CP.at nilP hKN (nilD (A := fun _ => True))⟩ ⟨⟨rfl, rfl⟩, ⟨Nat.le_of_ble_eq_true rfl, Nat.le_of_ble_eq_true rfl⟩, ⟨(Nat.le_of_ble_eq_true rfl), (Nat.le_of_ble_eq_true rfl)⟩⟩ hl.1 rfl (Nat.le_of_ble_eq_true rfl) dX10_fold_35) hP hS hA (fun u66 H locs hw67 hP hS => ?_)
        obtain ⟨hw69, hw70⟩ : ((0 ≤ p2.toInt ∧ p2.toInt ≤ 5 ∧ u66.toInt = 1) ∨ (¬ (0 ≤ p2.toInt ∧ p2.toInt ≤ 5) ∧ u66.toInt = 0)) ∧ (0 ≤ u66.toInt ∧ u66.toInt ≤ 1) := hw67
        refine W.eq (g2 := F0 m 38 ls [.int u66]) rfl ?_
        rcases (show u66.toInt = 1 ∨ u66.toInt = 0 by omega) with c71 | c71
        · obtain rfl : u66 = 1 := i_is c71 (by decide)
          refine W.eq (g2 := F0 m 38 ls [.int 1]) rfl ?_
          refine lv_if_eq (tgt := 56) hx hb dX10_fold_38 (by decide) (fun c72 => ?_) (fun c72 => ?_)
          · exact absurd c72 (by decide)
          refine lv_iload hx hb dX10_fold_41 (lv_at hl 0 rfl) ?_
          refine lv_if_eq (tgt := 56) hx hb dX10_fold_43 (by decide) (fun c73 => ?_) (fun c73 => ?_)
          · exact absurd c73 (by decide)
          refine lv_iload hx hb dX10_fold_46 (lv_at hl 6 rfl) ?_
          refine lv_iconst (v := 0) hx hb dX10_fold_48 (by decide) ?_
          refine lv_iconst (v := 1) hx hb dX10_fold_49 (by decide) ?_
          refine cg0 (rn_S (As := [.int p5, .int 0, .int 1]) (rest := []) (x_X10_isWithin l D Y Z H.size p5 0 1) ⟨hx, hb, hml, hown, hg⟩ lk_X10_100 ⟨CP.blind, CP.at nilP hKN (nilD (A := fun _ => True))⟩ ⟨⟨rfl, rfl⟩, ⟨Nat.le_of_ble_eq_true rfl, Nat.le_of_ble_eq_true rfl⟩, ⟨(Nat.le_of_ble_eq_true rfl), (Nat.le_of_ble_eq_true rfl)⟩⟩ hl.1 rfl (Nat.le_of_ble_eq_true rfl) dX10_fold_50) hP hS hA (fun u74 H locs hw75 hP hS => ?_)
          obtain ⟨hw77, hw78⟩ : (((0 : Int32).toInt ≤ p5.toInt ∧ p5.toInt ≤ (1 : Int32).toInt ∧ u74.toInt = 1) ∨ (¬ ((0 : Int32).toInt ≤ p5.toInt ∧ p5.toInt ≤ (1 : Int32).toInt) ∧ u74.toInt = 0)) ∧ (0 ≤ u74.toInt ∧ u74.toInt ≤ 1) := hw75
          refine W.eq (g2 := F0 m 53 ls [.int u74]) rfl ?_
          rcases (show u74.toInt = 1 ∨ u74.toInt = 0 by omega) with c79 | c79
          · obtain rfl : u74 = 1 := i_is c79 (by decide)
            refine W.eq (g2 := F0 m 53 ls [.int 1]) rfl ?_
            refine lv_if_ne (tgt := 60) hx hb dX10_fold_53 (by decide) (fun c80 => ?_) (fun c80 => ?_)
            rotate_left
            · exact absurd c80 (by decide)
            refine lv_aload_n hx hb dX10_fold_60 rfl (lv_at hl 1 rfl) ?_
            refine va_get (D := D) (ci := 10) (v := .ref a26) (C := RX10) (T := TX10) (N := 20) hx hb hg inGX10 hown hKN.1 hP p57 hk58 rfl 10 (by decide) (hg _ kw_359) (fun _ h9 => h9) rfl dX10_fold_61 ?_
            refine lv_aload_n hx hb dX10_fold_64 rfl (lv_at hl 1 rfl) ?_
            refine va_get (D := D) (ci := 10) (v := .ref a16) (C := RX10) (T := TX10) (N := 20) hx hb hg inGX10 hown hKN.1 hP p57 hk58 rfl 0 (by decide) (hg _ kw_349) (fun _ h9 => h9) rfl dX10_fold_65 ?_
            refine lv_iload_n hx hb dX10_fold_68 rfl (lv_at hl 2 rfl) ?_
            refine lv_iload_n hx hb dX10_fold_69 rfl (lv_at hl 3 rfl) ?_
            refine ok9 hT h48 (fun p93 a81 a82 a83 x84 y85 y86 x87 y88 hk94 h89 h90 h91 h92 => ?_)
            refine cga (rn_NV (As := [.ref a16, .int p1, .int p2]) (rest := []) (b := a26) (x_X2_see l D Y Z H.size ws T g q 0 a26 a16 p1 p2 hT h48 h36) ⟨hx, hb, hml, hown, hg⟩ hKN lk_X10_143 ⟨CPC.blind, va_recv hKN.1 hP (ci := 2) (q0 := p93) rfl hk94, CPC.at hP hKN hD hSZ hS hA⟩ ⟨⟨rfl, rfl⟩, ⟨Nat.le_of_ble_eq_true rfl, Nat.le_of_ble_eq_true rfl⟩, ⟨(Nat.le_of_ble_eq_true rfl), (Nat.le_of_ble_eq_true rfl)⟩⟩ hl.1 rfl (Nat.le_of_ble_eq_true rfl) dX10_fold_70) hP hD hS hA (fun u95 H locs hw96 hP hD hS => ?_)
            obtain ⟨hT, ke98, ke99⟩ : TW Y Z T g q u95 ∧ KF 1 T ws u95 ∧ KF 6 T ws u95 := hw96
            have hk100 := ke98 _ _ hk58 (show (T p0).1 = 1 by rw [ht0])
            have ke101 : KF 1 T ws u95 := KF.tr KF.rf ke98
            have ke102 : KF 6 T ws u95 := KF.tr KF.rf ke99
            refine W.eq (g2 := F0 m 73 ls []) rfl ?_
            refine lv_aload_n hx hb dX10_fold_73 rfl (lv_at hl 1 rfl) ?_
            refine va_get (D := D) (ci := 10) (v := .ref a26) (C := RX10) (T := TX10) (N := 20) hx hb hg inGX10 hown hKN.1 hP p57 hk100 rfl 10 (by decide) (hg _ kw_359) (fun _ h9 => h9) rfl dX10_fold_74 ?_
            refine lv_iload_n hx hb dX10_fold_77 rfl (lv_at hl 4 rfl) ?_
            refine lv_iconst (v := 1) hx hb dX10_fold_78 (by decide) ?_
            refine lv_iload hx hb dX10_fold_79 (lv_at hl 5 rfl) ?_
            refine ok9 hT h48 (fun p115 a103 a104 a105 x106 y107 y108 x109 y110 hk116 h111 h112 h113 h114 => ?_)
            refine cga (rn_NV (As := [.int p3, .int 1, .int p4]) (rest := []) (b := a26) (x_X2_tally l D Y Z H.size u95 T g q a26 p3 1 p4 hT h48) ⟨hx, hb, hml, hown, hg⟩ hKN lk_X10_239 ⟨CPC.blind, va_recv hKN.1 hP (ci := 2) (q0 := p115) rfl hk116, CPC.at hP hKN hD hSZ hS hA⟩ ⟨⟨rfl, rfl⟩, ⟨Nat.le_of_ble_eq_true rfl, Nat.le_of_ble_eq_true rfl⟩, ⟨(Nat.le_of_ble_eq_true rfl), (Nat.le_of_ble_eq_true rfl)⟩⟩ hl.1 rfl (Nat.le_of_ble_eq_true rfl) dX10_fold_81) hP hD hS hA (fun u117 H locs hw118 hP hD hS => ?_)
            obtain ⟨hT, ke120, ke121⟩ : TW Y Z T g q u117 ∧ KF 1 T u95 u117 ∧ KF 6 T u95 u117 := hw118
            have hk122 := ke120 _ _ hk100 (show (T p0).1 = 1 by rw [ht0])
            have ke123 : KF 1 T ws u117 := KF.tr ke101 ke120
            have ke124 : KF 6 T ws u117 := KF.tr ke102 ke121
            refine W.eq (g2 := F0 m 84 ls []) rfl ?_
            refine lv_iload hx hb dX10_fold_84 (lv_at hl 6 rfl) ?_
            refine lv_if_ne (tgt := 100) hx hb dX10_fold_86 (by decide) (fun c125 => ?_) (fun c125 => ?_)
            · skip
              have c125 := i_ne (Eq.refl p5.toInt) (show (0 : Int32).toInt = 0 by decide) c125
              refine lv_aload_n hx hb dX10_fold_100 rfl (lv_at hl 1 rfl) ?_
              refine va_get (D := D) (ci := 10) (v := .ref a26) (C := RX10) (T := TX10) (N := 20) hx hb hg inGX10 hown hKN.1 hP p57 hk122 rfl 10 (by decide) (hg _ kw_359) (fun _ h9 => h9) rfl dX10_fold_101 ?_
              refine ok9 hT h48 (fun p138 a126 a127 a128 x129 y130 y131 x132 y133 hk139 h134 h135 h136 h137 => ?_)
              refine va_getN (D := D) (ci := 2) (v := .long y133) (C := RX2) (T := TX2) (N := 8) hx hb hg inGX2 hown hKN.1 hP p138 hk139 rfl 7 (by decide) (va_Nw.use rfl (hKN.2.1 _ kn_252 rfl)) (fun _ h9 => h9) rfl dX10_fold_104 ?_
              refine W.widen (k := 0) (n := 0) (Nat.le_of_ble_eq_true rfl) (Nat.le_of_ble_eq_true rfl) ?_
              exact W.lret (v := y133) hx hb hr (fun t ht hW => ⟨⟨(y133, u117), rfl, ⟨hT, ke123, ke124⟩, CB.mk ht hP hD⟩, hS.F ht⟩) hS.2.2 dX10_fold_107
            · skip
              have c125 := i_eq (Eq.refl p5.toInt) (show (0 : Int32).toInt = 0 by decide) c125
              refine lv_aload_n hx hb dX10_fold_89 rfl (lv_at hl 1 rfl) ?_
              refine va_get (D := D) (ci := 10) (v := .ref a26) (C := RX10) (T := TX10) (N := 20) hx hb hg inGX10 hown hKN.1 hP p57 hk122 rfl 10 (by decide) (hg _ kw_359) (fun _ h9 => h9) rfl dX10_fold_90 ?_
              refine ok9 hT h48 (fun p152 a140 a141 a142 x143 y144 y145 x146 y147 hk153 h148 h149 h150 h151 => ?_)
              refine va_getN (D := D) (ci := 2) (v := .int x146) (C := RX2) (T := TX2) (N := 8) hx hb hg inGX2 hown hKN.1 hP p152 hk153 rfl 6 (by decide) (va_Nw.use rfl (hKN.2.1 _ kn_249 rfl)) (fun _ h9 => h9) rfl dX10_fold_93 ?_
              have j154 := rgI x146
              have j155 := Int32.toInt_toInt64 x146
              refine lv_i2l (v := x146.toInt64) hx hb dX10_fold_96 (rfl) ?_
              refine lv_goto (tgt := 107) hx hb dX10_fold_97 (by decide) ?_
              refine W.widen (k := 0) (n := 0) (Nat.le_of_ble_eq_true rfl) (Nat.le_of_ble_eq_true rfl) ?_
              exact W.lret (v := x146.toInt64) hx hb hr (fun t ht hW => ⟨⟨(x146.toInt64, u117), rfl, ⟨hT, ke123, ke124⟩, CB.mk ht hP hD⟩, hS.F ht⟩) hS.2.2 dX10_fold_107
          · obtain rfl : u74 = 0 := i_is c79 (by decide)
            refine W.eq (g2 := F0 m 53 ls [.int 0]) rfl ?_
            refine lv_if_ne (tgt := 60) hx hb dX10_fold_53 (by decide) (fun c156 => ?_) (fun c156 => ?_)
            · exact absurd c156 (by decide)
            refine lv_ldc2 (v := (-1000000000)) hx hb hown (hg _ kw_1155) dX10_fold_56 ?_
            refine W.widen (k := 0) (n := 0) (Nat.le_of_ble_eq_true rfl) (Nat.le_of_ble_eq_true rfl) ?_
            have zlm1000000000 : ((-1000000000) : Int64).toInt = -1000000000 := by decide
            exact W.lret (v := (-1000000000)) hx hb hr (fun t ht hW => ⟨⟨(((-1000000000)), ws), rfl, ⟨hT, KF.rf, KF.rf⟩, CB.mk ht hP hD⟩, hS.F ht⟩) hS.2.2 dX10_fold_59
        · obtain rfl : u66 = 0 := i_is c71 (by decide)
          refine W.eq (g2 := F0 m 38 ls [.int 0]) rfl ?_
          refine lv_if_eq (tgt := 56) hx hb dX10_fold_38 (by decide) (fun c157 => ?_) (fun c157 => ?_)
          rotate_left
          · exact absurd c157 (by decide)
          refine lv_ldc2 (v := (-1000000000)) hx hb hown (hg _ kw_1155) dX10_fold_56 ?_
          refine W.widen (k := 0) (n := 0) (Nat.le_of_ble_eq_true rfl) (Nat.le_of_ble_eq_true rfl) ?_
          have zlm1000000000 : ((-1000000000) : Int64).toInt = -1000000000 := by decide
          exact W.lret (v := (-1000000000)) hx hb hr (fun t ht hW => ⟨⟨(((-1000000000)), ws), rfl, ⟨hT, KF.rf, KF.rf⟩, CB.mk ht hP hD⟩, hS.F ht⟩) hS.2.2 dX10_fold_59
      · obtain rfl : u59 = 0 := i_is c64 (by decide)
        clear hw63
        refine W.eq (g2 := F0 m 31 ls [.int 0]) rfl ?_
        refine lv_if_eq (tgt := 56) hx hb dX10_fold_31 (by decide) (fun c158 => ?_) (fun c158 => ?_)
        rotate_left
        · exact absurd c158 (by decide)
        refine lv_ldc2 (v := (-1000000000)) hx hb hown (hg _ kw_1155) dX10_fold_56 ?_
        refine W.widen (k := 0) (n := 0) (Nat.le_of_ble_eq_true rfl) (Nat.le_of_ble_eq_true rfl) ?_
        have zlm1000000000 : ((-1000000000) : Int64).toInt = -1000000000 := by decide
        exact W.lret (v := (-1000000000)) hx hb hr (fun t ht hW => ⟨⟨(((-1000000000)), ws), rfl, ⟨hT, KF.rf, KF.rf⟩, CB.mk ht hP hD⟩, hS.F ht⟩) hS.2.2 dX10_fold_59
    · obtain rfl : u9 = 0 := i_is c14 (by decide)
      refine W.eq (g2 := F0 m 16 ls [.int 0]) rfl ?_
      refine lv_if_eq (tgt := 23) hx hb dX10_fold_16 (by decide) (fun c159 => ?_) (fun c159 => ?_)
      rotate_left
      · exact absurd c159 (by decide)
      refine lv_iconst (v := 0) hx hb dX10_fold_23 (by decide) ?_
      refine lv_istore (lv' := [(6, .int 0), (0, .ref p0), (1, .int p1), (2, .int p2), (3, .int p3), (4, .int p4), (5, .int p5)]) hx hb dX10_fold_24 hl (by decide) rfl (fun ls hl => ?_)
      refine lv_aload_n hx hb dX10_fold_26 rfl (lv_at hl 1 rfl) ?_
      refine lv_iload_n hx hb dX10_fold_27 rfl (lv_at hl 2 rfl) ?_
      refine ok1 hT ht0 (fun p201 a160 a161 a162 a163 a164 x165 x166 x167 a168 a169 a170 a171 a172 a173 a174 a175 a176 x177 a178 a179 hk202 h180 h181 h182 h183 h184 h185 h186 h187 h188 h189 h190 h191 h192 h193 h194 h195 h196 h197 h198 h199 h200 => ?_)
      refine cga (rn_V (As := [.int p1]) (rest := []) (b := p0) (x_X10_isStar l D Y Z H.size ws T g q p0 p1 hT ht0) ⟨hx, hb, hml, hown, hg⟩ lk_X10_137 ⟨CPC.blind, va_recv hKN.1 hP (ci := 10) (q0 := p201) rfl hk202, CPC.at hP hKN hD hSZ hS hA⟩ ⟨⟨rfl, rfl⟩, ⟨Nat.le_of_ble_eq_true rfl, Nat.le_of_ble_eq_true rfl⟩, ⟨(Nat.le_of_ble_eq_true rfl), (Nat.le_of_ble_eq_true rfl)⟩⟩ hl.1 rfl (Nat.le_of_ble_eq_true rfl) dX10_fold_28) hP hD hS hA (fun u203 H locs hw204 hP hD hS => ?_)
      obtain ⟨hw206, hw207⟩ : (0 ≤ u203.toInt ∧ u203.toInt ≤ 1) ∧ (u203.toInt = 1 → (0 ≤ p1.toInt ∧ p1.toInt ≤ 11)) := hw204
      refine W.eq (g2 := F0 m 31 ls [.int u203]) rfl ?_
      rcases (show u203.toInt = 1 ∨ u203.toInt = 0 by omega) with c208 | c208
      · obtain rfl : u203 = 1 := i_is c208 (by decide)
        replace hw207 := hw207 (by decide)
        refine W.eq (g2 := F0 m 31 ls [.int 1]) rfl ?_
        refine lv_if_eq (tgt := 56) hx hb dX10_fold_31 (by decide) (fun c209 => ?_) (fun c209 => ?_)
        · exact absurd c209 (by decide)
        refine lv_iload_n hx hb dX10_fold_34 rfl (lv_at hl 3 rfl) ?_
        refine cg0 (rn_S (As := [.int p2]) (rest := []) (x_X10_isWay l D Y Z H.size p2) ⟨hx, hb, hml, hown, hg⟩ lk_X10_140 ⟨CP.blind, CP.at nilP hKN (nilD (A := fun _ => True))⟩ ⟨⟨rfl, rfl⟩, ⟨Nat.le_of_ble_eq_true rfl, Nat.le_of_ble_eq_true rfl⟩, ⟨(Nat.le_of_ble_eq_true rfl), (Nat.le_of_ble_eq_true rfl)⟩⟩ hl.1 rfl (Nat.le_of_ble_eq_true rfl) dX10_fold_35) hP hS hA (fun u210 H locs hw211 hP hS => ?_)
        obtain ⟨hw213, hw214⟩ : ((0 ≤ p2.toInt ∧ p2.toInt ≤ 5 ∧ u210.toInt = 1) ∨ (¬ (0 ≤ p2.toInt ∧ p2.toInt ≤ 5) ∧ u210.toInt = 0)) ∧ (0 ≤ u210.toInt ∧ u210.toInt ≤ 1) := hw211
        refine W.eq (g2 := F0 m 38 ls [.int u210]) rfl ?_
        rcases (show u210.toInt = 1 ∨ u210.toInt = 0 by omega) with c215 | c215
        · obtain rfl : u210 = 1 := i_is c215 (by decide)
          refine W.eq (g2 := F0 m 38 ls [.int 1]) rfl ?_
          refine lv_if_eq (tgt := 56) hx hb dX10_fold_38 (by decide) (fun c216 => ?_) (fun c216 => ?_)
          · exact absurd c216 (by decide)
          refine lv_iload hx hb dX10_fold_41 (lv_at hl 0 rfl) ?_
          refine lv_if_eq (tgt := 56) hx hb dX10_fold_43 (by decide) (fun c217 => ?_) (fun c217 => ?_)
          rotate_left
          · exact absurd c217 (by decide)
          refine lv_ldc2 (v := (-1000000000)) hx hb hown (hg _ kw_1155) dX10_fold_56 ?_
          refine W.widen (k := 0) (n := 0) (Nat.le_of_ble_eq_true rfl) (Nat.le_of_ble_eq_true rfl) ?_
          have zlm1000000000 : ((-1000000000) : Int64).toInt = -1000000000 := by decide
          exact W.lret (v := (-1000000000)) hx hb hr (fun t ht hW => ⟨⟨(((-1000000000)), ws), rfl, ⟨hT, KF.rf, KF.rf⟩, CB.mk ht hP hD⟩, hS.F ht⟩) hS.2.2 dX10_fold_59
        · obtain rfl : u210 = 0 := i_is c215 (by decide)
          refine W.eq (g2 := F0 m 38 ls [.int 0]) rfl ?_
          refine lv_if_eq (tgt := 56) hx hb dX10_fold_38 (by decide) (fun c218 => ?_) (fun c218 => ?_)
          rotate_left
          · exact absurd c218 (by decide)
          refine lv_ldc2 (v := (-1000000000)) hx hb hown (hg _ kw_1155) dX10_fold_56 ?_
          refine W.widen (k := 0) (n := 0) (Nat.le_of_ble_eq_true rfl) (Nat.le_of_ble_eq_true rfl) ?_
          have zlm1000000000 : ((-1000000000) : Int64).toInt = -1000000000 := by decide
          exact W.lret (v := (-1000000000)) hx hb hr (fun t ht hW => ⟨⟨(((-1000000000)), ws), rfl, ⟨hT, KF.rf, KF.rf⟩, CB.mk ht hP hD⟩, hS.F ht⟩) hS.2.2 dX10_fold_59
      · obtain rfl : u203 = 0 := i_is c208 (by decide)
        clear hw207
        refine W.eq (g2 := F0 m 31 ls [.int 0]) rfl ?_
        refine lv_if_eq (tgt := 56) hx hb dX10_fold_31 (by decide) (fun c219 => ?_) (fun c219 => ?_)
        rotate_left
        · exact absurd c219 (by decide)
        refine lv_ldc2 (v := (-1000000000)) hx hb hown (hg _ kw_1155) dX10_fold_56 ?_
        refine W.widen (k := 0) (n := 0) (Nat.le_of_ble_eq_true rfl) (Nat.le_of_ble_eq_true rfl) ?_
        have zlm1000000000 : ((-1000000000) : Int64).toInt = -1000000000 := by decide
        exact W.lret (v := (-1000000000)) hx hb hr (fun t ht hW => ⟨⟨(((-1000000000)), ws), rfl, ⟨hT, KF.rf, KF.rf⟩, CB.mk ht hP hD⟩, hS.F ht⟩) hS.2.2 dX10_fold_59
  · obtain rfl : u1 = 0 := i_is c6 (by decide)
    have zi0 : (0 : Int32).toInt = 0 := by decide
    refine W.eq (g2 := F0 m 4 ls [.int 0]) rfl ?_
    refine lv_if_eq (tgt := 23) hx hb dX10_fold_4 (by decide) (fun c220 => ?_) (fun c220 => ?_)
    rotate_left
    · exact absurd c220 (by decide)
    refine lv_iconst (v := 0) hx hb dX10_fold_23 (by decide) ?_
    refine lv_istore (lv' := [(6, .int 0), (0, .ref p0), (1, .int p1), (2, .int p2), (3, .int p3), (4, .int p4), (5, .int p5)]) hx hb dX10_fold_24 hl (by decide) rfl (fun ls hl => ?_)
    refine lv_aload_n hx hb dX10_fold_26 rfl (lv_at hl 1 rfl) ?_
    refine lv_iload_n hx hb dX10_fold_27 rfl (lv_at hl 2 rfl) ?_
    refine ok1 hT ht0 (fun p262 a221 a222 a223 a224 a225 x226 x227 x228 a229 a230 a231 a232 a233 a234 a235 a236 a237 x238 a239 a240 hk263 h241 h242 h243 h244 h245 h246 h247 h248 h249 h250 h251 h252 h253 h254 h255 h256 h257 h258 h259 h260 h261 => ?_)
    refine cga (rn_V (As := [.int p1]) (rest := []) (b := p0) (x_X10_isStar l D Y Z H.size ws T g q p0 p1 hT ht0) ⟨hx, hb, hml, hown, hg⟩ lk_X10_137 ⟨CPC.blind, va_recv hKN.1 hP (ci := 10) (q0 := p262) rfl hk263, CPC.at hP hKN hD hSZ hS hA⟩ ⟨⟨rfl, rfl⟩, ⟨Nat.le_of_ble_eq_true rfl, Nat.le_of_ble_eq_true rfl⟩, ⟨(Nat.le_of_ble_eq_true rfl), (Nat.le_of_ble_eq_true rfl)⟩⟩ hl.1 rfl (Nat.le_of_ble_eq_true rfl) dX10_fold_28) hP hD hS hA (fun u264 H locs hw265 hP hD hS => ?_)
    obtain ⟨hw267, hw268⟩ : (0 ≤ u264.toInt ∧ u264.toInt ≤ 1) ∧ (u264.toInt = 1 → (0 ≤ p1.toInt ∧ p1.toInt ≤ 11)) := hw265
    refine W.eq (g2 := F0 m 31 ls [.int u264]) rfl ?_
    rcases (show u264.toInt = 1 ∨ u264.toInt = 0 by omega) with c269 | c269
    · obtain rfl : u264 = 1 := i_is c269 (by decide)
      have zi1 : (1 : Int32).toInt = 1 := by decide
      replace hw268 := hw268 (by decide)
      refine W.eq (g2 := F0 m 31 ls [.int 1]) rfl ?_
      refine lv_if_eq (tgt := 56) hx hb dX10_fold_31 (by decide) (fun c270 => ?_) (fun c270 => ?_)
      · exact absurd c270 (by decide)
      refine lv_iload_n hx hb dX10_fold_34 rfl (lv_at hl 3 rfl) ?_
      refine cg0 (rn_S (As := [.int p2]) (rest := []) (x_X10_isWay l D Y Z H.size p2) ⟨hx, hb, hml, hown, hg⟩ lk_X10_140 ⟨CP.blind, CP.at nilP hKN (nilD (A := fun _ => True))⟩ ⟨⟨rfl, rfl⟩, ⟨Nat.le_of_ble_eq_true rfl, Nat.le_of_ble_eq_true rfl⟩, ⟨(Nat.le_of_ble_eq_true rfl), (Nat.le_of_ble_eq_true rfl)⟩⟩ hl.1 rfl (Nat.le_of_ble_eq_true rfl) dX10_fold_35) hP hS hA (fun u271 H locs hw272 hP hS => ?_)
      obtain ⟨hw274, hw275⟩ : ((0 ≤ p2.toInt ∧ p2.toInt ≤ 5 ∧ u271.toInt = 1) ∨ (¬ (0 ≤ p2.toInt ∧ p2.toInt ≤ 5) ∧ u271.toInt = 0)) ∧ (0 ≤ u271.toInt ∧ u271.toInt ≤ 1) := hw272
      refine W.eq (g2 := F0 m 38 ls [.int u271]) rfl ?_
      rcases (show u271.toInt = 1 ∨ u271.toInt = 0 by omega) with c276 | c276
      · obtain rfl : u271 = 1 := i_is c276 (by decide)
        refine W.eq (g2 := F0 m 38 ls [.int 1]) rfl ?_
        refine lv_if_eq (tgt := 56) hx hb dX10_fold_38 (by decide) (fun c277 => ?_) (fun c277 => ?_)
        · exact absurd c277 (by decide)
        refine lv_iload hx hb dX10_fold_41 (lv_at hl 0 rfl) ?_
        refine lv_if_eq (tgt := 56) hx hb dX10_fold_43 (by decide) (fun c278 => ?_) (fun c278 => ?_)
        rotate_left
        · exact absurd c278 (by decide)
        refine lv_ldc2 (v := (-1000000000)) hx hb hown (hg _ kw_1155) dX10_fold_56 ?_
        refine W.widen (k := 0) (n := 0) (Nat.le_of_ble_eq_true rfl) (Nat.le_of_ble_eq_true rfl) ?_
        have zlm1000000000 : ((-1000000000) : Int64).toInt = -1000000000 := by decide
        exact W.lret (v := (-1000000000)) hx hb hr (fun t ht hW => ⟨⟨(((-1000000000)), ws), rfl, ⟨hT, KF.rf, KF.rf⟩, CB.mk ht hP hD⟩, hS.F ht⟩) hS.2.2 dX10_fold_59
      · obtain rfl : u271 = 0 := i_is c276 (by decide)
        refine W.eq (g2 := F0 m 38 ls [.int 0]) rfl ?_
        refine lv_if_eq (tgt := 56) hx hb dX10_fold_38 (by decide) (fun c279 => ?_) (fun c279 => ?_)
        rotate_left
        · exact absurd c279 (by decide)
        refine lv_ldc2 (v := (-1000000000)) hx hb hown (hg _ kw_1155) dX10_fold_56 ?_
        refine W.widen (k := 0) (n := 0) (Nat.le_of_ble_eq_true rfl) (Nat.le_of_ble_eq_true rfl) ?_
        have zlm1000000000 : ((-1000000000) : Int64).toInt = -1000000000 := by decide
        exact W.lret (v := (-1000000000)) hx hb hr (fun t ht hW => ⟨⟨(((-1000000000)), ws), rfl, ⟨hT, KF.rf, KF.rf⟩, CB.mk ht hP hD⟩, hS.F ht⟩) hS.2.2 dX10_fold_59
    · obtain rfl : u264 = 0 := i_is c269 (by decide)
      clear hw268
      refine W.eq (g2 := F0 m 31 ls [.int 0]) rfl ?_
      refine lv_if_eq (tgt := 56) hx hb dX10_fold_31 (by decide) (fun c280 => ?_) (fun c280 => ?_)
      rotate_left
      · exact absurd c280 (by decide)
      refine lv_ldc2 (v := (-1000000000)) hx hb hown (hg _ kw_1155) dX10_fold_56 ?_
      refine W.widen (k := 0) (n := 0) (Nat.le_of_ble_eq_true rfl) (Nat.le_of_ble_eq_true rfl) ?_
      have zlm1000000000 : ((-1000000000) : Int64).toInt = -1000000000 := by decide
      exact W.lret (v := (-1000000000)) hx hb hr (fun t ht hW => ⟨⟨(((-1000000000)), ws), rfl, ⟨hT, KF.rf, KF.rf⟩, CB.mk ht hP hD⟩, hS.F ht⟩) hS.2.2 dX10_fold_59

