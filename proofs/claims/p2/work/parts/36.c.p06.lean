set_option maxHeartbeats 4000000 in
set_option maxRecDepth 100000 in
theorem x_X10_line (l : Launch) (D : va_G) (Y : Nat → ClassId) (Z : Nat → Nat) (sz : Nat) (ws : va_W) (T : RT) (g : GN) (q : GQ)  (p0 : Nat) (p1 : Int32) (p2 : Int32) (p3 : Int32) (p4 : Int32) (p5 : Int32) (hT : TW Y Z T g q ws) (ht0 : T p0 = (1, 0, 0)) : Met l yX10_line (.code yX10_line cX10_line 13 (some .int) :: GW) ({ frames := 6, cells := 1092, slots := 7644, locals := 158 }) (va_Pc [.ref p0, .int p1, .int p2, .int p3, .int p4, .int p5] (CPC D Y Z ws sz)) (QG (S := Int32 × va_W × RT) (fun u => some (.int u.1)) (fun u => TLe T u.2.2 ∧ TW Y Z u.2.2 g q u.2.1 ∧ KF 1 T ws u.2.1) (fun u => CB D u.2.1 (va_A ws sz)) (va_A ws sz)) 1092 7644 (va_A ws sz) := by
  refine Met.ofW (cc := cX10_line) (maxL := 13) (ret := (some .int)) (by decide) rfl ?_
  intro p e s m args below meth c s₁ B hml hv
  obtain ⟨rfl, ⟨hsz, hP, hKN, hD0⟩, hSZ⟩ := hv
  have hx := B.exec
  have hb := B.bytes
  have hr := B.returns
  have hts := atoms_spec (ws := .code yX10_line cX10_line 13 (some .int) :: GW) B.pre
  have hg : ∀ w ∈ GW, w.before _ s = true := fun w h => hts w (List.mem_cons_of_mem _ h)
  have hown : s.vm.findClass RX10 = some m.cls := findClass_of_methodNamed B.named
  have hlocks := B.notSynchronized
  subst hsz
  have hD := hD0.self (sz := s.heap.size)
  generalize hAe : va_A ws s.heap.size = A at hD hSZ ⊢
  have hA : ∀ q : Nat, s.heap.size ≤ q → A q := fun q h => by rw [← hAe]; exact Or.inr h
  clear hAe hD0 hts B
  have hl := lv_entry ([.ref p0, .int p1, .int p2, .int p3, .int p4, .int p5]) (n := 13) (Nat.le_of_ble_eq_true rfl)
  rw [lg_entry_eq]
  generalize (lg_sl ([.ref p0, .int p1, .int p2, .int p3, .int p4, .int p5]) ++ List.replicate (13 - (lg_sl ([.ref p0, .int p1, .int p2, .int p3, .int p4, .int p5])).length) Slot.unset).toArray = ls at hl ⊢
  have hl : lv_has ls 13 [(0, .ref p0), (1, .int p1), (2, .int p2), (3, .int p3), (4, .int p4), (5, .int p5)] := hl
  refine w_start (A0 := A) hP (fun H locs hP hS => ?_)
  refine lv_iload_n hx hb dX10_line_0 rfl (lv_at hl 3 rfl) ?_
  refine lv_iconst (v := 0) hx hb dX10_line_1 (by decide) ?_
  refine lv_sipush (v := 999) hx hb dX10_line_2 (by decide) ?_
  have zi0 : (0 : Int32).toInt = 0 := by decide
  have zi999 : (999 : Int32).toInt = 999 := by decide
  refine cg0 (rn_S (As := [.int p3, .int 0, .int 999]) (rest := []) (x_X10_isWithin l D Y Z H.size p3 0 999) ⟨hx, hb, hml, hown, hg⟩ lk_X10_100 ⟨CP.blind, CP.at nilP hKN (nilD (A := fun _ => True))⟩ ⟨⟨rfl, rfl⟩, ⟨Nat.le_of_ble_eq_true rfl, Nat.le_of_ble_eq_true rfl⟩, ⟨(Nat.le_of_ble_eq_true rfl), (Nat.le_of_ble_eq_true rfl)⟩⟩ hl.1 rfl (Nat.le_of_ble_eq_true rfl) dX10_line_5) hP hS hA (fun u1 H locs hw2 hP hS => ?_)
  obtain ⟨hw4, hw5⟩ : (((0 : Int32).toInt ≤ p3.toInt ∧ p3.toInt ≤ (999 : Int32).toInt ∧ u1.toInt = 1) ∨ (¬ ((0 : Int32).toInt ≤ p3.toInt ∧ p3.toInt ≤ (999 : Int32).toInt) ∧ u1.toInt = 0)) ∧ (0 ≤ u1.toInt ∧ u1.toInt ≤ 1) := hw2
  refine W.eq (g2 := F0 m 8 ls [.int u1]) rfl ?_
  rcases (show u1.toInt = 1 ∨ u1.toInt = 0 by omega) with c6 | c6
  · obtain rfl : u1 = 1 := i_is c6 (by decide)
    have zi1 : (1 : Int32).toInt = 1 := by decide
    refine W.eq (g2 := F0 m 8 ls [.int 1]) rfl ?_
    refine lv_if_eq (tgt := 27) hx hb dX10_line_8 (by decide) (fun c7 => ?_) (fun c7 => ?_)
    · exact absurd c7 (by decide)
    refine lv_iload hx hb dX10_line_11 (lv_at hl 4 rfl) ?_
    refine lv_iconst (v := 0) hx hb dX10_line_13 (by decide) ?_
    refine lv_sipush (v := 999) hx hb dX10_line_14 (by decide) ?_
    refine cg0 (rn_S (As := [.int p4, .int 0, .int 999]) (rest := []) (x_X10_isWithin l D Y Z H.size p4 0 999) ⟨hx, hb, hml, hown, hg⟩ lk_X10_100 ⟨CP.blind, CP.at nilP hKN (nilD (A := fun _ => True))⟩ ⟨⟨rfl, rfl⟩, ⟨Nat.le_of_ble_eq_true rfl, Nat.le_of_ble_eq_true rfl⟩, ⟨(Nat.le_of_ble_eq_true rfl), (Nat.le_of_ble_eq_true rfl)⟩⟩ hl.1 rfl (Nat.le_of_ble_eq_true rfl) dX10_line_17) hP hS hA (fun u8 H locs hw9 hP hS => ?_)
    obtain ⟨hw11, hw12⟩ : (((0 : Int32).toInt ≤ p4.toInt ∧ p4.toInt ≤ (999 : Int32).toInt ∧ u8.toInt = 1) ∨ (¬ ((0 : Int32).toInt ≤ p4.toInt ∧ p4.toInt ≤ (999 : Int32).toInt) ∧ u8.toInt = 0)) ∧ (0 ≤ u8.toInt ∧ u8.toInt ≤ 1) := hw9
    refine W.eq (g2 := F0 m 20 ls [.int u8]) rfl ?_
    rcases (show u8.toInt = 1 ∨ u8.toInt = 0 by omega) with c13 | c13
    · obtain rfl : u8 = 1 := i_is c13 (by decide)
      refine W.eq (g2 := F0 m 20 ls [.int 1]) rfl ?_
      refine lv_if_eq (tgt := 27) hx hb dX10_line_20 (by decide) (fun c14 => ?_) (fun c14 => ?_)
      · exact absurd c14 (by decide)
      refine lv_iconst (v := 1) hx hb dX10_line_23 (by decide) ?_
      refine lv_goto (tgt := 28) hx hb dX10_line_24 (by decide) ?_
      refine lv_istore (lv' := [(6, .int 1), (0, .ref p0), (1, .int p1), (2, .int p2), (3, .int p3), (4, .int p4), (5, .int p5)]) hx hb dX10_line_28 hl (by decide) rfl (fun ls hl => ?_)
      refine lv_aload_n hx hb dX10_line_30 rfl (lv_at hl 1 rfl) ?_
      refine lv_iload_n hx hb dX10_line_31 rfl (lv_at hl 2 rfl) ?_
      obtain ⟨p56, _, hk57, a15, a16, a17, a18, a19, x20, x21, x22, a23, a24, a25, a26, a27, a28, a29, a30, a31, x32, a33, a34, rfl, h35, h36, h37, h38, h39, h40, h41, h42, h43, h44, h45, h46, h47, h48, h49, h50, h51, h52, h53, h54, h55⟩ := op1 hT ht0
      refine cga (rn_V (As := [.int p1]) (rest := []) (b := p0) (x_X10_searchAt l D Y Z H.size ws T g q p0 p1 hT ht0) ⟨hx, hb, hml, hown, hg⟩ lk_X10_259 ⟨CPC.blind, va_recv hKN.1 hP (ci := 10) (q0 := p56) rfl hk57, CPC.at hP hKN hD hSZ hS hA⟩ ⟨⟨rfl, rfl⟩, ⟨Nat.le_of_ble_eq_true rfl, Nat.le_of_ble_eq_true rfl⟩, ⟨(Nat.le_of_ble_eq_true rfl), (Nat.le_of_ble_eq_true rfl)⟩⟩ hl.1 rfl (Nat.le_of_ble_eq_true rfl) dX10_line_32) hP hD hS hA (fun u58 H locs hw59 hP hD hS => ?_)
      obtain ⟨ht61, hw62⟩ : (∀ b, u58 = some b → T b = (5, 0, 0)) ∧ (∀ b, u58 = some b → 0 ≤ p1.toInt ∧ p1.toInt ≤ 5) := hw59
      refine W.eq (g2 := F0 m 35 ls [va_rf u58]) rfl ?_
      rcases u58 with _ | b63
      · skip
        refine W.eq (g2 := F0 m 35 ls [.null]) rfl ?_
        refine lv_ifnullN (tgt := 64) hx hb dX10_line_35 (by decide) ?_
        refine lv_iconst (v := (-1)) hx hb dX10_line_64 (by decide) ?_
        refine W.widen (k := 1092) (n := 7644) (Nat.le_of_ble_eq_true rfl) (Nat.le_of_ble_eq_true rfl) ?_
        have zim1 : ((-1) : Int32).toInt = -1 := by decide
        exact W.iret (v := (-1)) hx hb hr (fun t ht hW => ⟨⟨(((-1)), ws, T), rfl, ⟨TLe.rf, hT, KF.rf⟩, CB.mk ht hP hD⟩, hS.F ht⟩) hS.2.2 dX10_line_65
      · skip
        have ht64 := ht61 b63 rfl
        have h65 := hw62 b63 rfl
        refine W.eq (g2 := F0 m 35 ls [.ref b63]) rfl ?_
        refine lv_ifnull hx hb dX10_line_35 ?_
        refine lv_iload_n hx hb dX10_line_38 rfl (lv_at hl 3 rfl) ?_
        refine lv_iconst (v := 1) hx hb dX10_line_39 (by decide) ?_
        refine lv_ldcw (v := 99999) hx hb hown (hg _ kw_948) dX10_line_40 ?_
        have zi99999 : (99999 : Int32).toInt = 99999 := by decide
        refine cg0 (rn_S (As := [.int p2, .int 1, .int 99999]) (rest := []) (x_X10_isWithin l D Y Z H.size p2 1 99999) ⟨hx, hb, hml, hown, hg⟩ lk_X10_100 ⟨CP.blind, CP.at nilP hKN (nilD (A := fun _ => True))⟩ ⟨⟨rfl, rfl⟩, ⟨Nat.le_of_ble_eq_true rfl, Nat.le_of_ble_eq_true rfl⟩, ⟨(Nat.le_of_ble_eq_true rfl), (Nat.le_of_ble_eq_true rfl)⟩⟩ hl.1 rfl (Nat.le_of_ble_eq_true rfl) dX10_line_43) hP hS hA (fun u66 H locs hw67 hP hS => ?_)
        obtain ⟨hw69, hw70⟩ : (((1 : Int32).toInt ≤ p2.toInt ∧ p2.toInt ≤ (99999 : Int32).toInt ∧ u66.toInt = 1) ∨ (¬ ((1 : Int32).toInt ≤ p2.toInt ∧ p2.toInt ≤ (99999 : Int32).toInt) ∧ u66.toInt = 0)) ∧ (0 ≤ u66.toInt ∧ u66.toInt ≤ 1) := hw67
        refine W.eq (g2 := F0 m 46 ls [.int u66]) rfl ?_
        rcases (show u66.toInt = 1 ∨ u66.toInt = 0 by omega) with c71 | c71
        · obtain rfl : u66 = 1 := i_is c71 (by decide)
          refine W.eq (g2 := F0 m 46 ls [.int 1]) rfl ?_
          refine lv_if_eq (tgt := 64) hx hb dX10_line_46 (by decide) (fun c72 => ?_) (fun c72 => ?_)
          · exact absurd c72 (by decide)
          refine lv_iload hx hb dX10_line_49 (lv_at hl 0 rfl) ?_
          refine lv_if_eq (tgt := 64) hx hb dX10_line_51 (by decide) (fun c73 => ?_) (fun c73 => ?_)
          · exact absurd c73 (by decide)
          refine lv_iload hx hb dX10_line_54 (lv_at hl 6 rfl) ?_
          refine lv_iconst (v := 0) hx hb dX10_line_56 (by decide) ?_
          refine lv_iconst (v := 1) hx hb dX10_line_57 (by decide) ?_
          refine cg0 (rn_S (As := [.int p5, .int 0, .int 1]) (rest := []) (x_X10_isWithin l D Y Z H.size p5 0 1) ⟨hx, hb, hml, hown, hg⟩ lk_X10_100 ⟨CP.blind, CP.at nilP hKN (nilD (A := fun _ => True))⟩ ⟨⟨rfl, rfl⟩, ⟨Nat.le_of_ble_eq_true rfl, Nat.le_of_ble_eq_true rfl⟩, ⟨(Nat.le_of_ble_eq_true rfl), (Nat.le_of_ble_eq_true rfl)⟩⟩ hl.1 rfl (Nat.le_of_ble_eq_true rfl) dX10_line_58) hP hS hA (fun u74 H locs hw75 hP hS => ?_)
          obtain ⟨hw77, hw78⟩ : (((0 : Int32).toInt ≤ p5.toInt ∧ p5.toInt ≤ (1 : Int32).toInt ∧ u74.toInt = 1) ∨ (¬ ((0 : Int32).toInt ≤ p5.toInt ∧ p5.toInt ≤ (1 : Int32).toInt) ∧ u74.toInt = 0)) ∧ (0 ≤ u74.toInt ∧ u74.toInt ≤ 1) := hw75
          refine W.eq (g2 := F0 m 61 ls [.int u74]) rfl ?_
          rcases (show u74.toInt = 1 ∨ u74.toInt = 0 by omega) with c79 | c79
          · obtain rfl : u74 = 1 := i_is c79 (by decide)
            refine W.eq (g2 := F0 m 61 ls [.int 1]) rfl ?_
            refine lv_if_ne (tgt := 66) hx hb dX10_line_61 (by decide) (fun c80 => ?_) (fun c80 => ?_)
            rotate_left
            · exact absurd c80 (by decide)
            refine lv_aload_n hx hb dX10_line_66 rfl (lv_at hl 1 rfl) ?_
            refine va_get (D := D) (ci := 10) (v := .ref a15) (C := RX10) (T := TX10) (N := 20) hx hb hg inGX10 hown hKN.1 hP p56 hk57 rfl 0 (by decide) (hg _ kw_349) (fun _ h9 => h9) rfl dX10_line_67 ?_
            obtain ⟨p115, _, hk116, x81, a82, x83, a84, x85, a86, a87, x88, a89, a90, x91, a92, x93, rfl, h94, h95, h96, h97, h98, h99, h100, h101, h102, h103, h104, h105, h106, h107, h108, h109, h110, h111, h112, h113, h114⟩ := op2 hT h35
            refine cga (rn_NV (As := []) (rest := []) (b := a15) (x_X6_putIn l D Y Z H.size ws T g q 0 a15 hT h35) ⟨hx, hb, hml, hown, hg⟩ hKN lk_X10_303 ⟨CPC.blind, va_recv hKN.1 hP (ci := 6) (q0 := p115) rfl hk116, CPC.at hP hKN hD hSZ hS hA⟩ ⟨⟨rfl, rfl⟩, ⟨Nat.le_of_ble_eq_true rfl, Nat.le_of_ble_eq_true rfl⟩, ⟨(Nat.le_of_ble_eq_true rfl), (Nat.le_of_ble_eq_true rfl)⟩⟩ hl.1 rfl (Nat.le_of_ble_eq_true rfl) dX10_line_70) hP hD hS hA (fun u117 H locs hw118 hP hD hS => ?_)
            refine W.eq (g2 := F0 m 73 ls [.int u117]) rfl ?_
            refine lv_istore (lv' := [(7, .int u117), (6, .int 1), (0, .ref p0), (1, .int p1), (2, .int p2), (3, .int p3), (4, .int p4), (5, .int p5)]) hx hb dX10_line_73 hl (by decide) rfl (fun ls hl => ?_)
            refine lv_iconst (v := 0) hx hb dX10_line_75 (by decide) ?_
            refine lv_istore (lv' := [(8, .int 0), (7, .int u117), (6, .int 1), (0, .ref p0), (1, .int p1), (2, .int p2), (3, .int p3), (4, .int p4), (5, .int p5)]) hx hb dX10_line_76 hl (by decide) rfl (fun ls hl => ?_)
            refine lv_iconst (v := 0) hx hb dX10_line_78 (by decide) ?_
            refine lv_istore (lv' := [(9, .int 0), (8, .int 0), (7, .int u117), (6, .int 1), (0, .ref p0), (1, .int p1), (2, .int p2), (3, .int p3), (4, .int p4), (5, .int p5)]) hx hb dX10_line_79 hl (by decide) rfl (fun ls hl => ?_)
            refine lv_iconst (v := 0) hx hb dX10_line_81 (by decide) ?_
            refine lv_istore (lv' := [(10, .int 0), (9, .int 0), (8, .int 0), (7, .int u117), (6, .int 1), (0, .ref p0), (1, .int p1), (2, .int p2), (3, .int p3), (4, .int p4), (5, .int p5)]) hx hb dX10_line_82 hl (by decide) rfl (fun ls hl => ?_)
            refine w_loopC (σ := Int32 × Int32 × Int32 × va_W × RT) (al := 52) (sl := 364) (M := 21) (fun xx H locs ls => match xx with | (v147, v148, v149, w150, T151) => va_P D vwCl w150 H ∧ va_D A w150 ∧ va_S A s.heap H locs ∧ lv_has ls 13 [(10, .int v147), (9, .int v148), (8, .int v149), (7, .int u117), (6, .int 1), (0, .ref p0), (1, .int p1), (2, .int p2), (3, .int p3), (4, .int p4), (5, .int p5)] ∧ TW Y Z T151 g q w150 ∧ TLe T T151 ∧ KF 1 T ws w150 ∧ (0 ≤ v147.toInt ∧ v147.toInt ≤ 21)) (fun xx => match xx with | (v147, v148, v149, w150, T151) => (21 - v147.toInt).toNat) (0, 0, 0, ws, T) ⟨hP, hD, hS, lv_sub hl [0, 1, 2, 3, 4, 5, 6, 7, 8, 9, 10] rfl, hT, TLe.rf, KF.rf, by omega⟩ (by show (21 - (0 : Int32).toInt).toNat ≤ 21; omega) (fun xx bd229 sd230 H locs ls hI hbbd229 ih => ?_)
            obtain ⟨v147, v148, v149, w150, T151⟩ := xx
            obtain ⟨hP, hD, hS, hl, hT, le232, ke233, hq231⟩ := hI
            have hbbd229 : bd229 + 52 * ((21 - v147.toInt).toNat) ≤ 0 + 52 * 21 ∧ sd230 + 364 * ((21 - v147.toInt).toNat) ≤ 0 + 364 * 21 := hbbd229
            have ih234 := ih
            refine lv_iload hx hb dX10_line_84 (lv_at hl 0 rfl) ?_
            refine lv_bipush (v := 21) hx hb dX10_line_86 (by decide) ?_
            refine lv_icmp_ge (tgt := 153) hx hb dX10_line_88 (by decide) (fun c235 => ?_) (fun c235 => ?_)
            · skip
              have c235 := i_le (show (21 : Int32).toInt = 21 by decide) (Eq.refl v147.toInt) c235
              refine lv_iload hx hb dX10_line_153 (lv_at hl 10 rfl) ?_
              refine lv_if_ne (tgt := 163) hx hb dX10_line_155 (by decide) (fun c236 => ?_) (fun c236 => ?_)
              · skip
                have c236 := i_ne (Eq.refl p5.toInt) (show (0 : Int32).toInt = 0 by decide) c236
                refine lv_iload hx hb dX10_line_163 (lv_at hl 1 rfl) ?_
                refine W.widen (k := 1092) (n := 7644) (by omega) (by omega) ?_
                exact W.iret (v := v148) hx hb hr (fun t ht hW => ⟨⟨(v148, w150, T151), rfl, ⟨le232, hT, ke233⟩, CB.mk ht hP hD⟩, hS.F ht⟩) hS.2.2 dX10_line_165
              · skip
                have c236 := i_eq (Eq.refl p5.toInt) (show (0 : Int32).toInt = 0 by decide) c236
                refine lv_iload hx hb dX10_line_158 (lv_at hl 2 rfl) ?_
                refine lv_goto (tgt := 165) hx hb dX10_line_160 (by decide) ?_
                refine W.widen (k := 1092) (n := 7644) (by omega) (by omega) ?_
                exact W.iret (v := v149) hx hb hr (fun t ht hW => ⟨⟨(v149, w150, T151), rfl, ⟨le232, hT, ke233⟩, CB.mk ht hP hD⟩, hS.F ht⟩) hS.2.2 dX10_line_165
            · skip
              have c235 := i_nle (show (21 : Int32).toInt = 21 by decide) (Eq.refl v147.toInt) c235
              refine lv_iload hx hb dX10_line_91 (lv_at hl 3 rfl) ?_
              refine lv_aload_n hx hb dX10_line_93 rfl (lv_at hl 5 rfl) ?_
              refine lv_iload_n hx hb dX10_line_94 rfl (lv_at hl 6 rfl) ?_
              refine lv_iload hx hb dX10_line_95 (lv_at hl 0 rfl) ?_
              refine lv_iload_n hx hb dX10_line_97 rfl (lv_at hl 7 rfl) ?_
              refine lv_imul hx hb dX10_line_98 ?_
              refine lv_topi (fun v237 ev237 => ?_)
              have hv237 := i_mulR (a := 0) (b := 20) (c := 1) (d := 99999) (lo := 0) (hi := 1999980) (Eq.refl v147.toInt) (Eq.refl p2.toInt) ev237 (by omega) (by omega) (by decide) (by decide)
              obtain ⟨p279, _, hk280, a238, a239, a240, a241, a242, x243, x244, x245, a246, a247, a248, a249, a250, a251, a252, a253, a254, x255, a256, a257, rfl, h258, h259, h260, h261, h262, h263, h264, h265, h266, h267, h268, h269, h270, h271, h272, h273, h274, h275, h276, h277, h278⟩ := op1 hT (le232.up ht0)
              refine cga (rn_V (As := [.int p1, .int v237]) (rest := [.int u117]) (b := p0) (x_X10_caughtFrom l D Y Z H.size w150 T151 g q p0 p1 v237 hT (le232.up ht0)) ⟨hx, hb, hml, hown, hg⟩ lk_X10_299 ⟨CPC.blind, va_recv hKN.1 hP (ci := 10) (q0 := p279) rfl hk280, CPC.at hP hKN hD hSZ hS hA⟩ ⟨⟨rfl, rfl⟩, ⟨Nat.le_of_ble_eq_true rfl, Nat.le_of_ble_eq_true rfl⟩, ⟨(show _ ≤ (1092 : Nat) by omega), (show _ ≤ (7644 : Nat) by omega)⟩⟩ hl.1 rfl (Nat.le_of_ble_eq_true rfl) dX10_line_99) hP hD hS hA (fun u281 H locs hw282 hP hD hS => ?_)
              refine W.widen (k := (bd229 + 40)) (n := (sd230 + 280)) (by omega) (by omega) ?_
              obtain ⟨u283, w284, T285⟩ := u281
              obtain ⟨le286, hT, ke287⟩ : TLe T151 T285 ∧ TW Y Z T285 g q w284 ∧ KF 1 T151 w150 w284 := hw282
              have hk288 := ke287 _ _ hk280 (show (T151 p0).1 = 1 by rw [(le232.up ht0)])
              have ke289 : KF 1 T ws w284 := KF.tr ke233 (KF.le (by decide) le232 ke287)
              refine W.eq (g2 := F0 m 102 ls [.int u283, .int u117]) rfl ?_
              refine lv_isub hx hb dX10_line_102 ?_
              refine lv_topi (fun v290 ev290 => ?_)
              refine lv_istore (lv' := [(11, .int v290), (10, .int v147), (9, .int v148), (8, .int v149), (7, .int u117), (6, .int 1), (0, .ref p0), (1, .int p1), (2, .int p2), (3, .int p3), (4, .int p4), (5, .int p5)]) hx hb dX10_line_103 hl (by decide) rfl (fun ls hl => ?_)
              refine lv_iload hx hb dX10_line_105 (lv_at hl 0 rfl) ?_
              refine lv_iload_n hx hb dX10_line_107 rfl (lv_at hl 9 rfl) ?_
              refine lv_imul hx hb dX10_line_108 ?_
              refine lv_topi (fun v291 ev291 => ?_)
              refine lv_aload_n hx hb dX10_line_109 rfl (lv_at hl 6 rfl) ?_
              refine lv_iload_n hx hb dX10_line_110 rfl (lv_at hl 7 rfl) ?_
              refine lv_iconst (v := 1) hx hb dX10_line_111 (by decide) ?_
              refine lv_iload hx hb dX10_line_112 (lv_at hl 1 rfl) ?_
              refine lv_iload_n hx hb dX10_line_114 rfl (lv_at hl 8 rfl) ?_
              refine lv_imul hx hb dX10_line_115 ?_
              refine lv_topi (fun v292 ev292 => ?_)
              have hv292 := i_mulR (a := 0) (b := 20) (c := 1) (d := 99999) (lo := 0) (hi := 1999980) (Eq.refl v147.toInt) (Eq.refl p2.toInt) ev292 (by omega) (by omega) (by decide) (by decide)
              refine cga (rn_V (As := [.int p1, .int 1, .int v292]) (rest := [.int v291]) (b := p0) (x_X10_foundFrom l D Y Z H.size w284 T285 g q p0 p1 1 v292 hT (le286.up (le232.up ht0))) ⟨hx, hb, hml, hown, hg⟩ lk_X10_311 ⟨CPC.blind, va_recv hKN.1 hP (ci := 10) (q0 := p279) rfl hk288, CPC.at hP hKN hD hSZ hS hA⟩ ⟨⟨rfl, rfl⟩, ⟨Nat.le_of_ble_eq_true rfl, Nat.le_of_ble_eq_true rfl⟩, ⟨(show _ ≤ (1092 : Nat) by omega), (show _ ≤ (7644 : Nat) by omega)⟩⟩ hl.1 rfl (Nat.le_of_ble_eq_true rfl) dX10_line_116) hP hD hS hA (fun u293 H locs hw294 hP hD hS => ?_)
              refine W.widen (k := (bd229 + 52)) (n := (sd230 + 364)) (by omega) (by omega) ?_
              obtain ⟨u295, w296, T297⟩ := u293
              obtain ⟨le298, hT, ke299⟩ : TLe T285 T297 ∧ TW Y Z T297 g q w296 ∧ KF 1 T285 w284 w296 := hw294
              have hk300 := ke299 _ _ hk288 (show (T285 p0).1 = 1 by rw [(le286.up (le232.up ht0))])
              have ke301 : KF 1 T ws w296 := KF.tr ke289 (KF.le (by decide) (le232.tr le286) ke299)
              refine W.eq (g2 := F0 m 119 ls [.int u295, .int v291]) rfl ?_
              refine lv_iload hx hb dX10_line_119 (lv_at hl 10 rfl) ?_
              refine lv_imul hx hb dX10_line_121 ?_
              refine lv_topi (fun v302 ev302 => ?_)
              refine lv_iadd hx hb dX10_line_122 ?_
              refine lv_topi (fun v303 ev303 => ?_)
              refine lv_istore (lv' := [(12, .int v303), (11, .int v290), (10, .int v147), (9, .int v148), (8, .int v149), (7, .int u117), (6, .int 1), (0, .ref p0), (1, .int p1), (2, .int p2), (3, .int p3), (4, .int p4), (5, .int p5)]) hx hb dX10_line_123 hl (by decide) rfl (fun ls hl => ?_)
              refine lv_iload hx hb dX10_line_125 (lv_at hl 2 rfl) ?_
              refine lv_if_eq (tgt := 137) hx hb dX10_line_127 (by decide) (fun c304 => ?_) (fun c304 => ?_)
              · skip
                have c304 := i_eq (Eq.refl v147.toInt) (show (0 : Int32).toInt = 0 by decide) c304
                refine lv_iload hx hb dX10_line_137 (lv_at hl 2 rfl) ?_
                refine lv_iload_n hx hb dX10_line_139 rfl (lv_at hl 9 rfl) ?_
                refine lv_imul hx hb dX10_line_140 ?_
                refine lv_topi (fun v305 ev305 => ?_)
                have hv305 := i_mulR (a := 0) (b := 0) (c := 1) (d := 99999) (lo := 0) (hi := 0) (Eq.refl v147.toInt) (Eq.refl p2.toInt) ev305 (by omega) (by omega) (by decide) (by decide)
                refine lv_istore (lv' := [(8, .int v305), (12, .int v303), (11, .int v290), (10, .int v147), (9, .int v148), (7, .int u117), (6, .int 1), (0, .ref p0), (1, .int p1), (2, .int p2), (3, .int p3), (4, .int p4), (5, .int p5)]) hx hb dX10_line_141 hl (by decide) rfl (fun ls hl => ?_)
                refine lv_iload hx hb dX10_line_143 (lv_at hl 1 rfl) ?_
                refine lv_istore (lv' := [(9, .int v303), (8, .int v305), (12, .int v303), (11, .int v290), (10, .int v147), (7, .int u117), (6, .int 1), (0, .ref p0), (1, .int p1), (2, .int p2), (3, .int p3), (4, .int p4), (5, .int p5)]) hx hb dX10_line_145 hl (by decide) rfl (fun ls hl => ?_)
                obtain ⟨v306, ev306⟩ : ∃ y : Int32, y = v147 + 1 := ⟨_, rfl⟩
                have hv306 := i_add (Eq.refl v147.toInt) (show (1 : Int32).toInt = 1 by decide) ev306 (by omega) (by omega)
                refine lv_iinc (v := v306) (lv' := [(10, .int v306), (9, .int v303), (8, .int v305), (12, .int v303), (11, .int v290), (7, .int u117), (6, .int 1), (0, .ref p0), (1, .int p1), (2, .int p2), (3, .int p3), (4, .int p4), (5, .int p5)]) hx hb dX10_line_147 hl (k := 4) rfl (by rw [ev306]; rfl) (by decide) rfl (fun ls hl => ?_)
                refine lv_goto (tgt := 84) hx hb dX10_line_150 (by decide) ?_
                exact ih234 (v306, v303, v305, w296, T297) _ _ H locs ls (by show (21 - v306.toInt).toNat < (21 - v147.toInt).toNat; omega) (by show (bd229 + 52) + 52 * ((21 - v306.toInt).toNat) ≤ 0 + 52 * 21 ∧ (sd230 + 364) + 364 * ((21 - v306.toInt).toNat) ≤ 0 + 364 * 21; omega) ⟨hP, hD, hS, lv_sub hl [0, 1, 2, 5, 6, 7, 8, 9, 10, 11, 12] rfl, hT, ((le232.tr le286).tr le298), ke301, by omega⟩
              · skip
                have c304 := i_ne (Eq.refl v147.toInt) (show (0 : Int32).toInt = 0 by decide) c304
                refine lv_iload hx hb dX10_line_130 (lv_at hl 0 rfl) ?_
                refine lv_iload hx hb dX10_line_132 (lv_at hl 3 rfl) ?_
                have j307 := rgI v303
                have j308 := rgI v148
                refine lv_icmp_ge (tgt := 147) hx hb dX10_line_134 (by decide) (fun c309 => ?_) (fun c309 => ?_)
                · skip
                  have c309 := i_le (Eq.refl v148.toInt) (Eq.refl v303.toInt) c309
                  obtain ⟨v310, ev310⟩ : ∃ y : Int32, y = v147 + 1 := ⟨_, rfl⟩
                  have hv310 := i_add (Eq.refl v147.toInt) (show (1 : Int32).toInt = 1 by decide) ev310 (by omega) (by omega)
                  refine lv_iinc (v := v310) (lv' := [(10, .int v310), (12, .int v303), (11, .int v290), (9, .int v148), (8, .int v149), (7, .int u117), (6, .int 1), (0, .ref p0), (1, .int p1), (2, .int p2), (3, .int p3), (4, .int p4), (5, .int p5)]) hx hb dX10_line_147 hl (k := 2) rfl (by rw [ev310]; rfl) (by decide) rfl (fun ls hl => ?_)
                  refine lv_goto (tgt := 84) hx hb dX10_line_150 (by decide) ?_
                  exact ih234 (v310, v148, v149, w296, T297) _ _ H locs ls (by show (21 - v310.toInt).toNat < (21 - v147.toInt).toNat; omega) (by show (bd229 + 52) + 52 * ((21 - v310.toInt).toNat) ≤ 0 + 52 * 21 ∧ (sd230 + 364) + 364 * ((21 - v310.toInt).toNat) ≤ 0 + 364 * 21; omega) ⟨hP, hD, hS, lv_sub hl [0, 3, 4, 5, 6, 7, 8, 9, 10, 11, 12] rfl, hT, ((le232.tr le286).tr le298), ke301, by omega⟩
                · skip
                  have c309 := i_nle (Eq.refl v148.toInt) (Eq.refl v303.toInt) c309
                  refine lv_iload hx hb dX10_line_137 (lv_at hl 2 rfl) ?_
                  refine lv_iload_n hx hb dX10_line_139 rfl (lv_at hl 9 rfl) ?_
                  refine lv_imul hx hb dX10_line_140 ?_
                  refine lv_topi (fun v311 ev311 => ?_)
                  have hv311 := i_mulR (a := 1) (b := 20) (c := 1) (d := 99999) (lo := 1) (hi := 1999980) (Eq.refl v147.toInt) (Eq.refl p2.toInt) ev311 (by omega) (by omega) (by decide) (by decide)
                  refine lv_istore (lv' := [(8, .int v311), (12, .int v303), (11, .int v290), (10, .int v147), (9, .int v148), (7, .int u117), (6, .int 1), (0, .ref p0), (1, .int p1), (2, .int p2), (3, .int p3), (4, .int p4), (5, .int p5)]) hx hb dX10_line_141 hl (by decide) rfl (fun ls hl => ?_)
                  refine lv_iload hx hb dX10_line_143 (lv_at hl 1 rfl) ?_
                  refine lv_istore (lv' := [(9, .int v303), (8, .int v311), (12, .int v303), (11, .int v290), (10, .int v147), (7, .int u117), (6, .int 1), (0, .ref p0), (1, .int p1), (2, .int p2), (3, .int p3), (4, .int p4), (5, .int p5)]) hx hb dX10_line_145 hl (by decide) rfl (fun ls hl => ?_)
                  obtain ⟨v312, ev312⟩ : ∃ y : Int32, y = v147 + 1 := ⟨_, rfl⟩
                  have hv312 := i_add (Eq.refl v147.toInt) (show (1 : Int32).toInt = 1 by decide) ev312 (by omega) (by omega)
                  refine lv_iinc (v := v312) (lv' := [(10, .int v312), (9, .int v303), (8, .int v311), (12, .int v303), (11, .int v290), (7, .int u117), (6, .int 1), (0, .ref p0), (1, .int p1), (2, .int p2), (3, .int p3), (4, .int p4), (5, .int p5)]) hx hb dX10_line_147 hl (k := 4) rfl (by rw [ev312]; rfl) (by decide) rfl (fun ls hl => ?_)
                  refine lv_goto (tgt := 84) hx hb dX10_line_150 (by decide) ?_
                  exact ih234 (v312, v303, v311, w296, T297) _ _ H locs ls (by show (21 - v312.toInt).toNat < (21 - v147.toInt).toNat; omega) (by show (bd229 + 52) + 52 * ((21 - v312.toInt).toNat) ≤ 0 + 52 * 21 ∧ (sd230 + 364) + 364 * ((21 - v312.toInt).toNat) ≤ 0 + 364 * 21; omega) ⟨hP, hD, hS, lv_sub hl [0, 1, 2, 5, 6, 7, 8, 9, 10, 11, 12] rfl, hT, ((le232.tr le286).tr le298), ke301, by omega⟩
          · obtain rfl : u74 = 0 := i_is c79 (by decide)
            refine W.eq (g2 := F0 m 61 ls [.int 0]) rfl ?_
            refine lv_if_ne (tgt := 66) hx hb dX10_line_61 (by decide) (fun c313 => ?_) (fun c313 => ?_)
            · exact absurd c313 (by decide)
            refine lv_iconst (v := (-1)) hx hb dX10_line_64 (by decide) ?_
            refine W.widen (k := 1092) (n := 7644) (Nat.le_of_ble_eq_true rfl) (Nat.le_of_ble_eq_true rfl) ?_
            have zim1 : ((-1) : Int32).toInt = -1 := by decide
            exact W.iret (v := (-1)) hx hb hr (fun t ht hW => ⟨⟨(((-1)), ws, T), rfl, ⟨TLe.rf, hT, KF.rf⟩, CB.mk ht hP hD⟩, hS.F ht⟩) hS.2.2 dX10_line_65
        · obtain rfl : u66 = 0 := i_is c71 (by decide)
          refine W.eq (g2 := F0 m 46 ls [.int 0]) rfl ?_
          refine lv_if_eq (tgt := 64) hx hb dX10_line_46 (by decide) (fun c314 => ?_) (fun c314 => ?_)
          rotate_left
          · exact absurd c314 (by decide)
          refine lv_iconst (v := (-1)) hx hb dX10_line_64 (by decide) ?_
          refine W.widen (k := 1092) (n := 7644) (Nat.le_of_ble_eq_true rfl) (Nat.le_of_ble_eq_true rfl) ?_
          have zim1 : ((-1) : Int32).toInt = -1 := by decide
          exact W.iret (v := (-1)) hx hb hr (fun t ht hW => ⟨⟨(((-1)), ws, T), rfl, ⟨TLe.rf, hT, KF.rf⟩, CB.mk ht hP hD⟩, hS.F ht⟩) hS.2.2 dX10_line_65
    · obtain rfl : u8 = 0 := i_is c13 (by decide)
      refine W.eq (g2 := F0 m 20 ls [.int 0]) rfl ?_
      refine lv_if_eq (tgt := 27) hx hb dX10_line_20 (by decide) (fun c315 => ?_) (fun c315 => ?_)
      rotate_left
      · exact absurd c315 (by decide)
      refine lv_iconst (v := 0) hx hb dX10_line_27 (by decide) ?_
      refine lv_istore (lv' := [(6, .int 0), (0, .ref p0), (1, .int p1), (2, .int p2), (3, .int p3), (4, .int p4), (5, .int p5)]) hx hb dX10_line_28 hl (by decide) rfl (fun ls hl => ?_)
      refine lv_aload_n hx hb dX10_line_30 rfl (lv_at hl 1 rfl) ?_
      refine lv_iload_n hx hb dX10_line_31 rfl (lv_at hl 2 rfl) ?_
      obtain ⟨p357, _, hk358, a316, a317, a318, a319, a320, x321, x322, x323, a324, a325, a326, a327, a328, a329, a330, a331, a332, x333, a334, a335, rfl, h336, h337, h338, h339, h340, h341, h342, h343, h344, h345, h346, h347, h348, h349, h350, h351, h352, h353, h354, h355, h356⟩ := op1 hT ht0
      refine cga (rn_V (As := [.int p1]) (rest := []) (b := p0) (x_X10_searchAt l D Y Z H.size ws T g q p0 p1 hT ht0) ⟨hx, hb, hml, hown, hg⟩ lk_X10_259 ⟨CPC.blind, va_recv hKN.1 hP (ci := 10) (q0 := p357) rfl hk358, CPC.at hP hKN hD hSZ hS hA⟩ ⟨⟨rfl, rfl⟩, ⟨Nat.le_of_ble_eq_true rfl, Nat.le_of_ble_eq_true rfl⟩, ⟨(Nat.le_of_ble_eq_true rfl), (Nat.le_of_ble_eq_true rfl)⟩⟩ hl.1 rfl (Nat.le_of_ble_eq_true rfl) dX10_line_32) hP hD hS hA (fun u359 H locs hw360 hP hD hS => ?_)
      obtain ⟨ht362, hw363⟩ : (∀ b, u359 = some b → T b = (5, 0, 0)) ∧ (∀ b, u359 = some b → 0 ≤ p1.toInt ∧ p1.toInt ≤ 5) := hw360
      refine W.eq (g2 := F0 m 35 ls [va_rf u359]) rfl ?_
      rcases u359 with _ | b364
      · skip
        refine W.eq (g2 := F0 m 35 ls [.null]) rfl ?_
        refine lv_ifnullN (tgt := 64) hx hb dX10_line_35 (by decide) ?_
        refine lv_iconst (v := (-1)) hx hb dX10_line_64 (by decide) ?_
        refine W.widen (k := 1092) (n := 7644) (Nat.le_of_ble_eq_true rfl) (Nat.le_of_ble_eq_true rfl) ?_
        have zim1 : ((-1) : Int32).toInt = -1 := by decide
        exact W.iret (v := (-1)) hx hb hr (fun t ht hW => ⟨⟨(((-1)), ws, T), rfl, ⟨TLe.rf, hT, KF.rf⟩, CB.mk ht hP hD⟩, hS.F ht⟩) hS.2.2 dX10_line_65
      · skip
        have ht365 := ht362 b364 rfl
        have h366 := hw363 b364 rfl
        refine W.eq (g2 := F0 m 35 ls [.ref b364]) rfl ?_
        refine lv_ifnull hx hb dX10_line_35 ?_
        refine lv_iload_n hx hb dX10_line_38 rfl (lv_at hl 3 rfl) ?_
        refine lv_iconst (v := 1) hx hb dX10_line_39 (by decide) ?_
        refine lv_ldcw (v := 99999) hx hb hown (hg _ kw_948) dX10_line_40 ?_
        have zi99999 : (99999 : Int32).toInt = 99999 := by decide
        refine cg0 (rn_S (As := [.int p2, .int 1, .int 99999]) (rest := []) (x_X10_isWithin l D Y Z H.size p2 1 99999) ⟨hx, hb, hml, hown, hg⟩ lk_X10_100 ⟨CP.blind, CP.at nilP hKN (nilD (A := fun _ => True))⟩ ⟨⟨rfl, rfl⟩, ⟨Nat.le_of_ble_eq_true rfl, Nat.le_of_ble_eq_true rfl⟩, ⟨(Nat.le_of_ble_eq_true rfl), (Nat.le_of_ble_eq_true rfl)⟩⟩ hl.1 rfl (Nat.le_of_ble_eq_true rfl) dX10_line_43) hP hS hA (fun u367 H locs hw368 hP hS => ?_)
        obtain ⟨hw370, hw371⟩ : (((1 : Int32).toInt ≤ p2.toInt ∧ p2.toInt ≤ (99999 : Int32).toInt ∧ u367.toInt = 1) ∨ (¬ ((1 : Int32).toInt ≤ p2.toInt ∧ p2.toInt ≤ (99999 : Int32).toInt) ∧ u367.toInt = 0)) ∧ (0 ≤ u367.toInt ∧ u367.toInt ≤ 1) := hw368
        refine W.eq (g2 := F0 m 46 ls [.int u367]) rfl ?_
        rcases (show u367.toInt = 1 ∨ u367.toInt = 0 by omega) with c372 | c372
        · obtain rfl : u367 = 1 := i_is c372 (by decide)
          refine W.eq (g2 := F0 m 46 ls [.int 1]) rfl ?_
          refine lv_if_eq (tgt := 64) hx hb dX10_line_46 (by decide) (fun c373 => ?_) (fun c373 => ?_)
          · exact absurd c373 (by decide)
          refine lv_iload hx hb dX10_line_49 (lv_at hl 0 rfl) ?_
          refine lv_if_eq (tgt := 64) hx hb dX10_line_51 (by decide) (fun c374 => ?_) (fun c374 => ?_)
          rotate_left
          · exact absurd c374 (by decide)
          refine lv_iconst (v := (-1)) hx hb dX10_line_64 (by decide) ?_
          refine W.widen (k := 1092) (n := 7644) (Nat.le_of_ble_eq_true rfl) (Nat.le_of_ble_eq_true rfl) ?_
          have zim1 : ((-1) : Int32).toInt = -1 := by decide
          exact W.iret (v := (-1)) hx hb hr (fun t ht hW => ⟨⟨(((-1)), ws, T), rfl, ⟨TLe.rf, hT, KF.rf⟩, CB.mk ht hP hD⟩, hS.F ht⟩) hS.2.2 dX10_line_65
        · obtain rfl : u367 = 0 := i_is c372 (by decide)
          refine W.eq (g2 := F0 m 46 ls [.int 0]) rfl ?_
          refine lv_if_eq (tgt := 64) hx hb dX10_line_46 (by decide) (fun c375 => ?_) (fun c375 => ?_)
          rotate_left
          · exact absurd c375 (by decide)
          refine lv_iconst (v := (-1)) hx hb dX10_line_64 (by decide) ?_
          refine W.widen (k := 1092) (n := 7644) (Nat.le_of_ble_eq_true rfl) (Nat.le_of_ble_eq_true rfl) ?_
          have zim1 : ((-1) : Int32).toInt = -1 := by decide
          exact W.iret (v := (-1)) hx hb hr (fun t ht hW => ⟨⟨(((-1)), ws, T), rfl, ⟨TLe.rf, hT, KF.rf⟩, CB.mk ht hP hD⟩, hS.F ht⟩) hS.2.2 dX10_line_65
  · obtain rfl : u1 = 0 := i_is c6 (by decide)
    refine W.eq (g2 := F0 m 8 ls [.int 0]) rfl ?_
    refine lv_if_eq (tgt := 27) hx hb dX10_line_8 (by decide) (fun c376 => ?_) (fun c376 => ?_)
    rotate_left
    · exact absurd c376 (by decide)
    refine lv_iconst (v := 0) hx hb dX10_line_27 (by decide) ?_
    refine lv_istore (lv' := [(6, .int 0), (0, .ref p0), (1, .int p1), (2, .int p2), (3, .int p3), (4, .int p4), (5, .int p5)]) hx hb dX10_line_28 hl (by decide) rfl (fun ls hl => ?_)
    refine lv_aload_n hx hb dX10_line_30 rfl (lv_at hl 1 rfl) ?_
    refine lv_iload_n hx hb dX10_line_31 rfl (lv_at hl 2 rfl) ?_
    obtain ⟨p418, _, hk419, a377, a378, a379, a380, a381, x382, x383, x384, a385, a386, a387, a388, a389, a390, a391, a392, a393, x394, a395, a396, rfl, h397, h398, h399, h400, h401, h402, h403, h404, h405, h406, h407, h408, h409, h410, h411, h412, h413, h414, h415, h416, h417⟩ := op1 hT ht0
    refine cga (rn_V (As := [.int p1]) (rest := []) (b := p0) (x_X10_searchAt l D Y Z H.size ws T g q p0 p1 hT ht0) ⟨hx, hb, hml, hown, hg⟩ lk_X10_259 ⟨CPC.blind, va_recv hKN.1 hP (ci := 10) (q0 := p418) rfl hk419, CPC.at hP hKN hD hSZ hS hA⟩ ⟨⟨rfl, rfl⟩, ⟨Nat.le_of_ble_eq_true rfl, Nat.le_of_ble_eq_true rfl⟩, ⟨(Nat.le_of_ble_eq_true rfl), (Nat.le_of_ble_eq_true rfl)⟩⟩ hl.1 rfl (Nat.le_of_ble_eq_true rfl) dX10_line_32) hP hD hS hA (fun u420 H locs hw421 hP hD hS => ?_)
    obtain ⟨ht423, hw424⟩ : (∀ b, u420 = some b → T b = (5, 0, 0)) ∧ (∀ b, u420 = some b → 0 ≤ p1.toInt ∧ p1.toInt ≤ 5) := hw421
    refine W.eq (g2 := F0 m 35 ls [va_rf u420]) rfl ?_
    rcases u420 with _ | b425
    · skip
      refine W.eq (g2 := F0 m 35 ls [.null]) rfl ?_
      refine lv_ifnullN (tgt := 64) hx hb dX10_line_35 (by decide) ?_
      refine lv_iconst (v := (-1)) hx hb dX10_line_64 (by decide) ?_
      refine W.widen (k := 1092) (n := 7644) (Nat.le_of_ble_eq_true rfl) (Nat.le_of_ble_eq_true rfl) ?_
      have zim1 : ((-1) : Int32).toInt = -1 := by decide
      exact W.iret (v := (-1)) hx hb hr (fun t ht hW => ⟨⟨(((-1)), ws, T), rfl, ⟨TLe.rf, hT, KF.rf⟩, CB.mk ht hP hD⟩, hS.F ht⟩) hS.2.2 dX10_line_65
    · skip
      have ht426 := ht423 b425 rfl
      have h427 := hw424 b425 rfl
      refine W.eq (g2 := F0 m 35 ls [.ref b425]) rfl ?_
      refine lv_ifnull hx hb dX10_line_35 ?_
      refine lv_iload_n hx hb dX10_line_38 rfl (lv_at hl 3 rfl) ?_
      refine lv_iconst (v := 1) hx hb dX10_line_39 (by decide) ?_
      refine lv_ldcw (v := 99999) hx hb hown (hg _ kw_948) dX10_line_40 ?_
      have zi1 : (1 : Int32).toInt = 1 := by decide
      have zi99999 : (99999 : Int32).toInt = 99999 := by decide
      refine cg0 (rn_S (As := [.int p2, .int 1, .int 99999]) (rest := []) (x_X10_isWithin l D Y Z H.size p2 1 99999) ⟨hx, hb, hml, hown, hg⟩ lk_X10_100 ⟨CP.blind, CP.at nilP hKN (nilD (A := fun _ => True))⟩ ⟨⟨rfl, rfl⟩, ⟨Nat.le_of_ble_eq_true rfl, Nat.le_of_ble_eq_true rfl⟩, ⟨(Nat.le_of_ble_eq_true rfl), (Nat.le_of_ble_eq_true rfl)⟩⟩ hl.1 rfl (Nat.le_of_ble_eq_true rfl) dX10_line_43) hP hS hA (fun u428 H locs hw429 hP hS => ?_)
      obtain ⟨hw431, hw432⟩ : (((1 : Int32).toInt ≤ p2.toInt ∧ p2.toInt ≤ (99999 : Int32).toInt ∧ u428.toInt = 1) ∨ (¬ ((1 : Int32).toInt ≤ p2.toInt ∧ p2.toInt ≤ (99999 : Int32).toInt) ∧ u428.toInt = 0)) ∧ (0 ≤ u428.toInt ∧ u428.toInt ≤ 1) := hw429
      refine W.eq (g2 := F0 m 46 ls [.int u428]) rfl ?_
      rcases (show u428.toInt = 1 ∨ u428.toInt = 0 by omega) with c433 | c433
      · obtain rfl : u428 = 1 := i_is c433 (by decide)
        refine W.eq (g2 := F0 m 46 ls [.int 1]) rfl ?_
        refine lv_if_eq (tgt := 64) hx hb dX10_line_46 (by decide) (fun c434 => ?_) (fun c434 => ?_)
        · exact absurd c434 (by decide)
        refine lv_iload hx hb dX10_line_49 (lv_at hl 0 rfl) ?_
        refine lv_if_eq (tgt := 64) hx hb dX10_line_51 (by decide) (fun c435 => ?_) (fun c435 => ?_)
        rotate_left
        · exact absurd c435 (by decide)
        refine lv_iconst (v := (-1)) hx hb dX10_line_64 (by decide) ?_
        refine W.widen (k := 1092) (n := 7644) (Nat.le_of_ble_eq_true rfl) (Nat.le_of_ble_eq_true rfl) ?_
        have zim1 : ((-1) : Int32).toInt = -1 := by decide
        exact W.iret (v := (-1)) hx hb hr (fun t ht hW => ⟨⟨(((-1)), ws, T), rfl, ⟨TLe.rf, hT, KF.rf⟩, CB.mk ht hP hD⟩, hS.F ht⟩) hS.2.2 dX10_line_65
      · obtain rfl : u428 = 0 := i_is c433 (by decide)
        refine W.eq (g2 := F0 m 46 ls [.int 0]) rfl ?_
        refine lv_if_eq (tgt := 64) hx hb dX10_line_46 (by decide) (fun c436 => ?_) (fun c436 => ?_)
        rotate_left
        · exact absurd c436 (by decide)
        refine lv_iconst (v := (-1)) hx hb dX10_line_64 (by decide) ?_
        refine W.widen (k := 1092) (n := 7644) (Nat.le_of_ble_eq_true rfl) (Nat.le_of_ble_eq_true rfl) ?_
        have zim1 : ((-1) : Int32).toInt = -1 := by decide
        exact W.iret (v := (-1)) hx hb hr (fun t ht hW => ⟨⟨(((-1)), ws, T), rfl, ⟨TLe.rf, hT, KF.rf⟩, CB.mk ht hP hD⟩, hS.F ht⟩) hS.2.2 dX10_line_65
set_option maxHeartbeats 4000000 in
set_option maxRecDepth 100000 in
theorem x_X10_sign (l : Launch) (D : va_G) (Y : Nat → ClassId) (Z : Nat → Nat) (sz : Nat) (ws : va_W) (T : RT) (g : GN) (q : GQ)  (p0 : Nat) (p1 : Int32) (p2 : Int32) (p3 : Int32) (hT : TW Y Z T g q ws) (ht0 : T p0 = (1, 0, 0)) : Met l yX10_sign (.code yX10_sign cX10_sign 5 (some .int) :: GW) ({ frames := 6, cells := 13, slots := 91, locals := 156 }) (va_Pc [.ref p0, .int p1, .int p2, .int p3] (CPC D Y Z ws sz)) (QG (S := Int32 × va_W × RT) (fun u => some (.int u.1)) (fun u => TLe T u.2.2 ∧ TW Y Z u.2.2 g q u.2.1 ∧ KF 1 T ws u.2.1) (fun u => CB D u.2.1 (va_A ws sz)) (va_A ws sz)) 13 91 (va_A ws sz) := by
  refine Met.ofW (cc := cX10_sign) (maxL := 5) (ret := (some .int)) (by decide) rfl ?_
  intro p e s m args below meth c s₁ B hml hv
  obtain ⟨rfl, ⟨hsz, hP, hKN, hD0⟩, hSZ⟩ := hv
  have hx := B.exec
  have hb := B.bytes
  have hr := B.returns
  have hts := atoms_spec (ws := .code yX10_sign cX10_sign 5 (some .int) :: GW) B.pre
  have hg : ∀ w ∈ GW, w.before _ s = true := fun w h => hts w (List.mem_cons_of_mem _ h)
  have hown : s.vm.findClass RX10 = some m.cls := findClass_of_methodNamed B.named
  have hlocks := B.notSynchronized
  subst hsz
  have hD := hD0.self (sz := s.heap.size)
  generalize hAe : va_A ws s.heap.size = A at hD hSZ ⊢
  have hA : ∀ q : Nat, s.heap.size ≤ q → A q := fun q h => by rw [← hAe]; exact Or.inr h
  clear hAe hD0 hts B
  have hl := lv_entry ([.ref p0, .int p1, .int p2, .int p3]) (n := 5) (Nat.le_of_ble_eq_true rfl)
  rw [lg_entry_eq]
  generalize (lg_sl ([.ref p0, .int p1, .int p2, .int p3]) ++ List.replicate (5 - (lg_sl ([.ref p0, .int p1, .int p2, .int p3])).length) Slot.unset).toArray = ls at hl ⊢
  have hl : lv_has ls 5 [(0, .ref p0), (1, .int p1), (2, .int p2), (3, .int p3)] := hl
  refine w_start (A0 := A) hP (fun H locs hP hS => ?_)
  refine lv_aload_n hx hb dX10_sign_0 rfl (lv_at hl 0 rfl) ?_
  refine lv_iload_n hx hb dX10_sign_1 rfl (lv_at hl 1 rfl) ?_
  obtain ⟨p42, _, hk43, a1, a2, a3, a4, a5, x6, x7, x8, a9, a10, a11, a12, a13, a14, a15, a16, a17, x18, a19, a20, rfl, h21, h22, h23, h24, h25, h26, h27, h28, h29, h30, h31, h32, h33, h34, h35, h36, h37, h38, h39, h40, h41⟩ := op1 hT ht0
  refine cga (rn_V (As := [.int p1]) (rest := []) (b := p0) (x_X10_searchAt l D Y Z H.size ws T g q p0 p1 hT ht0) ⟨hx, hb, hml, hown, hg⟩ lk_X10_259 ⟨CPC.blind, va_recv hKN.1 hP (ci := 10) (q0 := p42) rfl hk43, CPC.at hP hKN hD hSZ hS hA⟩ ⟨⟨rfl, rfl⟩, ⟨Nat.le_of_ble_eq_true rfl, Nat.le_of_ble_eq_true rfl⟩, ⟨(Nat.le_of_ble_eq_true rfl), (Nat.le_of_ble_eq_true rfl)⟩⟩ hl.1 rfl (Nat.le_of_ble_eq_true rfl) dX10_sign_2) hP hD hS hA (fun u44 H locs hw45 hP hD hS => ?_)
  obtain ⟨ht47, hw48⟩ : (∀ b, u44 = some b → T b = (5, 0, 0)) ∧ (∀ b, u44 = some b → 0 ≤ p1.toInt ∧ p1.toInt ≤ 5) := hw45
  refine W.eq (g2 := F0 m 5 ls [va_rf u44]) rfl ?_
  rcases u44 with _ | b49
  · skip
    refine W.eq (g2 := F0 m 5 ls [.null]) rfl ?_
    refine lv_ifnullN (tgt := 25) hx hb dX10_sign_5 (by decide) ?_
    refine lv_ldc (v := (-200000)) hx hb hown (hg _ kw_473) dX10_sign_25 ?_
    refine W.widen (k := 13) (n := 91) (Nat.le_of_ble_eq_true rfl) (Nat.le_of_ble_eq_true rfl) ?_
    have zim200000 : ((-200000) : Int32).toInt = -200000 := by decide
    exact W.iret (v := (-200000)) hx hb hr (fun t ht hW => ⟨⟨(((-200000)), ws, T), rfl, ⟨TLe.rf, hT, KF.rf⟩, CB.mk ht hP hD⟩, hS.F ht⟩) hS.2.2 dX10_sign_27
  · skip
    have ht50 := ht47 b49 rfl
    have h51 := hw48 b49 rfl
    refine W.eq (g2 := F0 m 5 ls [.ref b49]) rfl ?_
    refine lv_ifnull hx hb dX10_sign_5 ?_
    refine lv_aload_n hx hb dX10_sign_8 rfl (lv_at hl 0 rfl) ?_
    refine lv_iload_n hx hb dX10_sign_9 rfl (lv_at hl 2 rfl) ?_
    refine cga (rn_V (As := [.int p2]) (rest := []) (b := p0) (x_X10_isStar l D Y Z H.size ws T g q p0 p2 hT ht0) ⟨hx, hb, hml, hown, hg⟩ lk_X10_137 ⟨CPC.blind, va_recv hKN.1 hP (ci := 10) (q0 := p42) rfl hk43, CPC.at hP hKN hD hSZ hS hA⟩ ⟨⟨rfl, rfl⟩, ⟨Nat.le_of_ble_eq_true rfl, Nat.le_of_ble_eq_true rfl⟩, ⟨(Nat.le_of_ble_eq_true rfl), (Nat.le_of_ble_eq_true rfl)⟩⟩ hl.1 rfl (Nat.le_of_ble_eq_true rfl) dX10_sign_10) hP hD hS hA (fun u52 H locs hw53 hP hD hS => ?_)
    obtain ⟨hw55, hw56⟩ : (0 ≤ u52.toInt ∧ u52.toInt ≤ 1) ∧ (u52.toInt = 1 → (0 ≤ p2.toInt ∧ p2.toInt ≤ 11)) := hw53
    refine W.eq (g2 := F0 m 13 ls [.int u52]) rfl ?_
    rcases (show u52.toInt = 1 ∨ u52.toInt = 0 by omega) with c57 | c57
    · obtain rfl : u52 = 1 := i_is c57 (by decide)
      have zi1 : (1 : Int32).toInt = 1 := by decide
      replace hw56 := hw56 (by decide)
      refine W.eq (g2 := F0 m 13 ls [.int 1]) rfl ?_
      refine lv_if_eq (tgt := 25) hx hb dX10_sign_13 (by decide) (fun c58 => ?_) (fun c58 => ?_)
      · exact absurd c58 (by decide)
      refine lv_iload_n hx hb dX10_sign_16 rfl (lv_at hl 3 rfl) ?_
      refine lv_iconst (v := 0) hx hb dX10_sign_17 (by decide) ?_
      refine lv_iconst (v := 5) hx hb dX10_sign_18 (by decide) ?_
      have zi0 : (0 : Int32).toInt = 0 := by decide
      have zi5 : (5 : Int32).toInt = 5 := by decide
      refine cg0 (rn_S (As := [.int p3, .int 0, .int 5]) (rest := []) (x_X10_isWithin l D Y Z H.size p3 0 5) ⟨hx, hb, hml, hown, hg⟩ lk_X10_100 ⟨CP.blind, CP.at nilP hKN (nilD (A := fun _ => True))⟩ ⟨⟨rfl, rfl⟩, ⟨Nat.le_of_ble_eq_true rfl, Nat.le_of_ble_eq_true rfl⟩, ⟨(Nat.le_of_ble_eq_true rfl), (Nat.le_of_ble_eq_true rfl)⟩⟩ hl.1 rfl (Nat.le_of_ble_eq_true rfl) dX10_sign_19) hP hS hA (fun u59 H locs hw60 hP hS => ?_)
      obtain ⟨hw62, hw63⟩ : (((0 : Int32).toInt ≤ p3.toInt ∧ p3.toInt ≤ (5 : Int32).toInt ∧ u59.toInt = 1) ∨ (¬ ((0 : Int32).toInt ≤ p3.toInt ∧ p3.toInt ≤ (5 : Int32).toInt) ∧ u59.toInt = 0)) ∧ (0 ≤ u59.toInt ∧ u59.toInt ≤ 1) := hw60
      refine W.eq (g2 := F0 m 22 ls [.int u59]) rfl ?_
      rcases (show u59.toInt = 1 ∨ u59.toInt = 0 by omega) with c64 | c64
      · obtain rfl : u59 = 1 := i_is c64 (by decide)
        refine W.eq (g2 := F0 m 22 ls [.int 1]) rfl ?_
        refine lv_if_ne (tgt := 28) hx hb dX10_sign_22 (by decide) (fun c65 => ?_) (fun c65 => ?_)
        rotate_left
        · exact absurd c65 (by decide)
        refine lv_aload_n hx hb dX10_sign_28 rfl (lv_at hl 0 rfl) ?_
        refine lv_iload_n hx hb dX10_sign_29 rfl (lv_at hl 1 rfl) ?_
        refine lv_iload_n hx hb dX10_sign_30 rfl (lv_at hl 2 rfl) ?_
        refine lv_iconst (v := 0) hx hb dX10_sign_31 (by decide) ?_
        refine cga (rn_V (As := [.int p1, .int p2, .int 0]) (rest := []) (b := p0) (x_X10_findingOf l D Y Z H.size ws T g q p0 p1 p2 0 hT ht0) ⟨hx, hb, hml, hown, hg⟩ lk_X10_264 ⟨CPC.blind, va_recv hKN.1 hP (ci := 10) (q0 := p42) rfl hk43, CPC.at hP hKN hD hSZ hS hA⟩ ⟨⟨rfl, rfl⟩, ⟨Nat.le_of_ble_eq_true rfl, Nat.le_of_ble_eq_true rfl⟩, ⟨(Nat.le_of_ble_eq_true rfl), (Nat.le_of_ble_eq_true rfl)⟩⟩ hl.1 rfl (Nat.le_of_ble_eq_true rfl) dX10_sign_32) hP hD hS hA (fun u66 H locs hw67 hP hD hS => ?_)
        refine W.widen (k := 1) (n := 7) (Nat.le_of_ble_eq_true rfl) (Nat.le_of_ble_eq_true rfl) ?_
        obtain ⟨b68, w69, T70⟩ := u66
        obtain ⟨le71, hT, ke72, ht73⟩ : TLe T T70 ∧ TW Y Z T70 g q w69 ∧ KF 1 T ws w69 ∧ T70 b68 = (6, 0, 0) := hw67
        have hk74 := ke72 _ _ hk43 (show (T p0).1 = 1 by rw [ht0])
        have ke75 : KF 1 T ws w69 := KF.tr KF.rf ke72
        refine W.eq (g2 := F0 m 35 ls [.ref b68]) rfl ?_
        refine lv_astore (lv' := [(4, .ref b68), (0, .ref p0), (1, .int p1), (2, .int p2), (3, .int p3)]) hx hb dX10_sign_35 hl (by decide) rfl (fun ls hl => ?_)
        refine lv_aload hx hb dX10_sign_37 (lv_at hl 0 rfl) ?_
        obtain ⟨p84, _, hk85, x76, x77, x78, x79, x80, y81, y82, rfl, h83⟩ := op6 hT ht73
        refine cga (rn_NV (As := []) (rest := []) (b := b68) (x_X1_isNone l D Y Z H.size w69 T70 g q b68 p84 x76 x77 x78 x79 x80 y81 y82 hT ht73 hk85) ⟨hx, hb, hml, hown, hg⟩ hKN lk_X10_315 ⟨CPC.blind, va_recv hKN.1 hP (ci := 1) (q0 := p84) rfl hk85, CPC.at hP hKN hD hSZ hS hA⟩ ⟨⟨rfl, rfl⟩, ⟨Nat.le_of_ble_eq_true rfl, Nat.le_of_ble_eq_true rfl⟩, ⟨(Nat.le_of_ble_eq_true rfl), (Nat.le_of_ble_eq_true rfl)⟩⟩ hl.1 rfl (Nat.le_of_ble_eq_true rfl) dX10_sign_39) hP hD hS hA (fun u86 H locs hw87 hP hD hS => ?_)
        obtain ⟨hw89, hw90⟩ : (0 ≤ u86.toInt ∧ u86.toInt ≤ 1) ∧ (u86.toInt = 0 → 1 ≤ x77.toInt) := hw87
        refine W.eq (g2 := F0 m 42 ls [.int u86]) rfl ?_
        rcases (show u86.toInt = 1 ∨ u86.toInt = 0 by omega) with c91 | c91
        · obtain rfl : u86 = 1 := i_is c91 (by decide)
          clear hw90
          refine W.eq (g2 := F0 m 42 ls [.int 1]) rfl ?_
          refine lv_if_eq (tgt := 48) hx hb dX10_sign_42 (by decide) (fun c92 => ?_) (fun c92 => ?_)
          · exact absurd c92 (by decide)
          refine lv_ldc (v := (-200000)) hx hb hown (hg _ kw_473) dX10_sign_45 ?_
          refine W.widen (k := 13) (n := 91) (Nat.le_of_ble_eq_true rfl) (Nat.le_of_ble_eq_true rfl) ?_
          have zim200000 : ((-200000) : Int32).toInt = -200000 := by decide
          exact W.iret (v := (-200000)) hx hb hr (fun t ht hW => ⟨⟨(((-200000)), w69, T70), rfl, ⟨le71, hT, ke75⟩, CB.mk ht hP hD⟩, hS.F ht⟩) hS.2.2 dX10_sign_47
        · obtain rfl : u86 = 0 := i_is c91 (by decide)
          replace hw90 := hw90 (by decide)
          refine W.eq (g2 := F0 m 42 ls [.int 0]) rfl ?_
          refine lv_if_eq (tgt := 48) hx hb dX10_sign_42 (by decide) (fun c93 => ?_) (fun c93 => ?_)
          rotate_left
          · exact absurd c93 (by decide)
          refine lv_iload_n hx hb dX10_sign_48 rfl (lv_at hl 4 rfl) ?_
          refine lv_iconst (v := 4) hx hb dX10_sign_49 (by decide) ?_
          refine lv_icmp_ne (tgt := 68) hx hb dX10_sign_50 (by decide) (fun c94 => ?_) (fun c94 => ?_)
          · skip
            have c94 := i_ne (Eq.refl p3.toInt) (show (4 : Int32).toInt = 4 by decide) c94
            refine lv_aload_n hx hb dX10_sign_68 rfl (lv_at hl 1 rfl) ?_
            refine va_get (D := D) (ci := 10) (v := .ref a11) (C := RX10) (T := TX10) (N := 20) hx hb hg inGX10 hown hKN.1 hP p42 hk74 rfl 10 (by decide) (hg _ kw_359) (fun _ h9 => h9) rfl dX10_sign_69 ?_
            refine lv_aload_n hx hb dX10_sign_72 rfl (lv_at hl 1 rfl) ?_
            refine va_get (D := D) (ci := 10) (v := .ref a1) (C := RX10) (T := TX10) (N := 20) hx hb hg inGX10 hown hKN.1 hP p42 hk74 rfl 0 (by decide) (hg _ kw_349) (fun _ h9 => h9) rfl dX10_sign_73 ?_
            refine lv_iload_n hx hb dX10_sign_76 rfl (lv_at hl 3 rfl) ?_
            refine lv_iconst (v := 0) hx hb dX10_sign_77 (by decide) ?_
            obtain ⟨p107, _, hk108, a95, a96, a97, x98, y99, y100, x101, y102, rfl, h103, h104, h105, h106⟩ := op9 hT (le71.up h33)
            refine cga (rn_NV (As := [.ref a1, .int p2, .int 0]) (rest := []) (b := a11) (x_X2_see l D Y Z H.size w69 T70 g q 0 a11 a1 p2 0 hT (le71.up h33) (le71.up h21)) ⟨hx, hb, hml, hown, hg⟩ hKN lk_X10_143 ⟨CPC.blind, va_recv hKN.1 hP (ci := 2) (q0 := p107) rfl hk108, CPC.at hP hKN hD hSZ hS hA⟩ ⟨⟨rfl, rfl⟩, ⟨Nat.le_of_ble_eq_true rfl, Nat.le_of_ble_eq_true rfl⟩, ⟨(Nat.le_of_ble_eq_true rfl), (Nat.le_of_ble_eq_true rfl)⟩⟩ hl.1 rfl (Nat.le_of_ble_eq_true rfl) dX10_sign_78) hP hD hS hA (fun u109 H locs hw110 hP hD hS => ?_)
            obtain ⟨hT, ke112, ke113⟩ : TW Y Z T70 g q u109 ∧ KF 1 T70 w69 u109 ∧ KF 6 T70 w69 u109 := hw110
            have hk114 := ke112 _ _ hk74 (show (T70 p0).1 = 1 by rw [(le71.up ht0)])
            have hk115 := ke113 _ _ hk85 (show (T70 b68).1 = 6 by rw [ht73])
            have ke116 : KF 1 T ws u109 := KF.tr ke75 (KF.le (by decide) le71 ke112)
            refine W.eq (g2 := F0 m 81 ls []) rfl ?_
            refine lv_aload_n hx hb dX10_sign_81 rfl (lv_at hl 1 rfl) ?_
            refine va_get (D := D) (ci := 10) (v := .ref a13) (C := RX10) (T := TX10) (N := 20) hx hb hg inGX10 hown hKN.1 hP p42 hk114 rfl 12 (by decide) (hg _ kw_361) (fun _ h9 => h9) rfl dX10_sign_82 ?_
            refine lv_aload_n hx hb dX10_sign_85 rfl (lv_at hl 1 rfl) ?_
            refine va_get (D := D) (ci := 10) (v := .ref a11) (C := RX10) (T := TX10) (N := 20) hx hb hg inGX10 hown hKN.1 hP p42 hk114 rfl 10 (by decide) (hg _ kw_359) (fun _ h9 => h9) rfl dX10_sign_86 ?_
            refine lv_aload hx hb dX10_sign_89 (lv_at hl 0 rfl) ?_
            obtain ⟨p125, _, hk126, a117, a118, a119, a120, rfl, h121, h122, h123, h124⟩ := op11 hT (le71.up h35)
            refine cga (rn_NV (As := [.ref a11, .ref b68]) (rest := []) (b := a13) (x_X5_read l D Y Z H.size u109 T70 g q a13 a11 b68 hT (le71.up h35) (le71.up h33) ht73) ⟨hx, hb, hml, hown, hg⟩ hKN lk_X10_327 ⟨CPC.blind, va_recv hKN.1 hP (ci := 5) (q0 := p125) rfl hk126, CPC.at hP hKN hD hSZ hS hA⟩ ⟨⟨rfl, rfl⟩, ⟨Nat.le_of_ble_eq_true rfl, Nat.le_of_ble_eq_true rfl⟩, ⟨(Nat.le_of_ble_eq_true rfl), (Nat.le_of_ble_eq_true rfl)⟩⟩ hl.1 rfl (Nat.le_of_ble_eq_true rfl) dX10_sign_91) hP hD hS hA (fun u127 H locs hw128 hP hD hS => ?_)
            obtain ⟨hT, ke130, ke131⟩ : TW Y Z T70 g q u127 ∧ KF 1 T70 u109 u127 ∧ KF 6 T70 u109 u127 := hw128
            have hk132 := ke130 _ _ hk114 (show (T70 p0).1 = 1 by rw [(le71.up ht0)])
            have hk133 := ke131 _ _ hk115 (show (T70 b68).1 = 6 by rw [ht73])
            have ke134 : KF 1 T ws u127 := KF.tr ke116 (KF.le (by decide) le71 ke130)
            refine W.eq (g2 := F0 m 94 ls []) rfl ?_
            refine lv_aload_n hx hb dX10_sign_94 rfl (lv_at hl 1 rfl) ?_
            refine va_get (D := D) (ci := 10) (v := .ref a13) (C := RX10) (T := TX10) (N := 20) hx hb hg inGX10 hown hKN.1 hP p42 hk132 rfl 12 (by decide) (hg _ kw_361) (fun _ h9 => h9) rfl dX10_sign_95 ?_
            refine lv_iload_n hx hb dX10_sign_98 rfl (lv_at hl 4 rfl) ?_
            obtain ⟨p143, _, hk144, a135, a136, a137, a138, rfl, h139, h140, h141, h142⟩ := op11 hT (le71.up h35)
            refine cga (rn_NV (As := [.int p3]) (rest := []) (b := a13) (x_X5_part l D Y Z H.size u127 T70 g q a13 p3 hT (le71.up h35)) ⟨hx, hb, hml, hown, hg⟩ hKN lk_X10_330 ⟨CPC.blind, va_recv hKN.1 hP (ci := 5) (q0 := p143) rfl hk144, CPC.at hP hKN hD hSZ hS hA⟩ ⟨⟨rfl, rfl⟩, ⟨Nat.le_of_ble_eq_true rfl, Nat.le_of_ble_eq_true rfl⟩, ⟨(Nat.le_of_ble_eq_true rfl), (Nat.le_of_ble_eq_true rfl)⟩⟩ hl.1 rfl (Nat.le_of_ble_eq_true rfl) dX10_sign_99) hP hD hS hA (fun u145 H locs hw146 hP hD hS => ?_)
            refine W.eq (g2 := F0 m 102 ls [.int u145]) rfl ?_
            refine W.widen (k := 13) (n := 91) (Nat.le_of_ble_eq_true rfl) (Nat.le_of_ble_eq_true rfl) ?_
            exact W.iret (v := u145) hx hb hr (fun t ht hW => ⟨⟨(u145, u127, T70), rfl, ⟨le71, hT, ke134⟩, CB.mk ht hP hD⟩, hS.F ht⟩) hS.2.2 dX10_sign_102
          · skip
            have c94 := i_eq (Eq.refl p3.toInt) (show (4 : Int32).toInt = 4 by decide) c94
            refine lv_aload_n hx hb dX10_sign_53 rfl (lv_at hl 1 rfl) ?_
            refine lv_iload_n hx hb dX10_sign_54 rfl (lv_at hl 2 rfl) ?_
            refine lv_iconst (v := 0) hx hb dX10_sign_55 (by decide) ?_
            refine cga (rn_V (As := [.int p1, .int 0]) (rest := []) (b := p0) (x_X10_findAll l D Y Z H.size w69 T70 g q p0 p1 0 hT (le71.up ht0)) ⟨hx, hb, hml, hown, hg⟩ lk_X10_319 ⟨CPC.blind, va_recv hKN.1 hP (ci := 10) (q0 := p42) rfl hk74, CPC.at hP hKN hD hSZ hS hA⟩ ⟨⟨rfl, rfl⟩, ⟨Nat.le_of_ble_eq_true rfl, Nat.le_of_ble_eq_true rfl⟩, ⟨(Nat.le_of_ble_eq_true rfl), (Nat.le_of_ble_eq_true rfl)⟩⟩ hl.1 rfl (Nat.le_of_ble_eq_true rfl) dX10_sign_56) hP hD hS hA (fun u148 H locs hw149 hP hD hS => ?_)
            refine W.widen (k := 13) (n := 91) (Nat.le_of_ble_eq_true rfl) (Nat.le_of_ble_eq_true rfl) ?_
            obtain ⟨w150, T151⟩ := u148
            obtain ⟨le152, hT, ke153⟩ : TLe T70 T151 ∧ TW Y Z T151 g q w150 ∧ KF 1 T70 w69 w150 := hw149
            have hk154 := ke153 _ _ hk74 (show (T70 p0).1 = 1 by rw [(le71.up ht0)])
            have ke155 : KF 1 T ws w150 := KF.tr ke75 (KF.le (by decide) le71 ke153)
            refine W.eq (g2 := F0 m 59 ls []) rfl ?_
            refine lv_aload_n hx hb dX10_sign_59 rfl (lv_at hl 1 rfl) ?_
            refine lv_iload_n hx hb dX10_sign_60 rfl (lv_at hl 2 rfl) ?_
            refine lv_iload_n hx hb dX10_sign_61 rfl (lv_at hl 3 rfl) ?_
            refine lv_aload hx hb dX10_sign_62 (lv_at hl 0 rfl) ?_
            refine cga (rn_V (As := [.int p1, .int p2, .ref b68]) (rest := []) (b := p0) (x_X10_sameAs l D Y Z H.size w150 T151 g q p0 b68 p1 p2 hT (le152.up (le71.up ht0)) (le152.up ht73)) ⟨hx, hb, hml, hown, hg⟩ lk_X10_323 ⟨CPC.blind, va_recv hKN.1 hP (ci := 10) (q0 := p42) rfl hk154, CPC.at hP hKN hD hSZ hS hA⟩ ⟨⟨rfl, rfl⟩, ⟨Nat.le_of_ble_eq_true rfl, Nat.le_of_ble_eq_true rfl⟩, ⟨(Nat.le_of_ble_eq_true rfl), (Nat.le_of_ble_eq_true rfl)⟩⟩ hl.1 rfl (Nat.le_of_ble_eq_true rfl) dX10_sign_64) hP hD hS hA (fun u156 H locs hw157 hP hD hS => ?_)
            refine W.eq (g2 := F0 m 67 ls [.int u156]) rfl ?_
            refine W.widen (k := 13) (n := 91) (Nat.le_of_ble_eq_true rfl) (Nat.le_of_ble_eq_true rfl) ?_
            exact W.iret (v := u156) hx hb hr (fun t ht hW => ⟨⟨(u156, w150, T151), rfl, ⟨(le71.tr le152), hT, ke155⟩, CB.mk ht hP hD⟩, hS.F ht⟩) hS.2.2 dX10_sign_67
      · obtain rfl : u59 = 0 := i_is c64 (by decide)
        refine W.eq (g2 := F0 m 22 ls [.int 0]) rfl ?_
        refine lv_if_ne (tgt := 28) hx hb dX10_sign_22 (by decide) (fun c159 => ?_) (fun c159 => ?_)
        · exact absurd c159 (by decide)
        refine lv_ldc (v := (-200000)) hx hb hown (hg _ kw_473) dX10_sign_25 ?_
        refine W.widen (k := 13) (n := 91) (Nat.le_of_ble_eq_true rfl) (Nat.le_of_ble_eq_true rfl) ?_
        have zim200000 : ((-200000) : Int32).toInt = -200000 := by decide
        exact W.iret (v := (-200000)) hx hb hr (fun t ht hW => ⟨⟨(((-200000)), ws, T), rfl, ⟨TLe.rf, hT, KF.rf⟩, CB.mk ht hP hD⟩, hS.F ht⟩) hS.2.2 dX10_sign_27
    · obtain rfl : u52 = 0 := i_is c57 (by decide)
      have zi0 : (0 : Int32).toInt = 0 := by decide
      clear hw56
      refine W.eq (g2 := F0 m 13 ls [.int 0]) rfl ?_
      refine lv_if_eq (tgt := 25) hx hb dX10_sign_13 (by decide) (fun c160 => ?_) (fun c160 => ?_)
      rotate_left
      · exact absurd c160 (by decide)
      refine lv_ldc (v := (-200000)) hx hb hown (hg _ kw_473) dX10_sign_25 ?_
      refine W.widen (k := 13) (n := 91) (Nat.le_of_ble_eq_true rfl) (Nat.le_of_ble_eq_true rfl) ?_
      have zim200000 : ((-200000) : Int32).toInt = -200000 := by decide
      exact W.iret (v := (-200000)) hx hb hr (fun t ht hW => ⟨⟨(((-200000)), ws, T), rfl, ⟨TLe.rf, hT, KF.rf⟩, CB.mk ht hP hD⟩, hS.F ht⟩) hS.2.2 dX10_sign_27
set_option maxHeartbeats 4000000 in
set_option maxRecDepth 100000 in
theorem x_X10_shift (l : Launch) (D : va_G) (Y : Nat → ClassId) (Z : Nat → Nat) (sz : Nat) (ws : va_W) (T : RT) (g : GN) (q : GQ)  (p0 : Nat) (p1 : Int32) (p2 : Int32) (p3 : Int32) (hT : TW Y Z T g q ws) (ht0 : T p0 = (1, 0, 0)) : Met l yX10_shift (.code yX10_shift cX10_shift 5 (some .int) :: GW) ({ frames := 5, cells := 1, slots := 7, locals := 133 }) (va_Pc [.ref p0, .int p1, .int p2, .int p3] (CPC D Y Z ws sz)) (QG (S := Int32 × va_W × RT) (fun u => some (.int u.1)) (fun u => TLe T u.2.2 ∧ TW Y Z u.2.2 g q u.2.1 ∧ KF 1 T ws u.2.1) (fun u => CB D u.2.1 (va_A ws sz)) (va_A ws sz)) 1 7 (va_A ws sz) := by
  refine Met.ofW (cc := cX10_shift) (maxL := 5) (ret := (some .int)) (by decide) rfl ?_
  intro p e s m args below meth c s₁ B hml hv
  obtain ⟨rfl, ⟨hsz, hP, hKN, hD0⟩, hSZ⟩ := hv
  have hx := B.exec
  have hb := B.bytes
  have hr := B.returns
  have hts := atoms_spec (ws := .code yX10_shift cX10_shift 5 (some .int) :: GW) B.pre
  have hg : ∀ w ∈ GW, w.before _ s = true := fun w h => hts w (List.mem_cons_of_mem _ h)
  have hown : s.vm.findClass RX10 = some m.cls := findClass_of_methodNamed B.named
  have hlocks := B.notSynchronized
  subst hsz
  have hD := hD0.self (sz := s.heap.size)
  generalize hAe : va_A ws s.heap.size = A at hD hSZ ⊢
  have hA : ∀ q : Nat, s.heap.size ≤ q → A q := fun q h => by rw [← hAe]; exact Or.inr h
  clear hAe hD0 hts B
  have hl := lv_entry ([.ref p0, .int p1, .int p2, .int p3]) (n := 5) (Nat.le_of_ble_eq_true rfl)
  rw [lg_entry_eq]
  generalize (lg_sl ([.ref p0, .int p1, .int p2, .int p3]) ++ List.replicate (5 - (lg_sl ([.ref p0, .int p1, .int p2, .int p3])).length) Slot.unset).toArray = ls at hl ⊢
  have hl : lv_has ls 5 [(0, .ref p0), (1, .int p1), (2, .int p2), (3, .int p3)] := hl
  refine w_start (A0 := A) hP (fun H locs hP hS => ?_)
  refine lv_aload_n hx hb dX10_shift_0 rfl (lv_at hl 0 rfl) ?_
  refine lv_iload_n hx hb dX10_shift_1 rfl (lv_at hl 1 rfl) ?_
  obtain ⟨p42, _, hk43, a1, a2, a3, a4, a5, x6, x7, x8, a9, a10, a11, a12, a13, a14, a15, a16, a17, x18, a19, a20, rfl, h21, h22, h23, h24, h25, h26, h27, h28, h29, h30, h31, h32, h33, h34, h35, h36, h37, h38, h39, h40, h41⟩ := op1 hT ht0
  refine cga (rn_V (As := [.int p1]) (rest := []) (b := p0) (x_X10_searchAt l D Y Z H.size ws T g q p0 p1 hT ht0) ⟨hx, hb, hml, hown, hg⟩ lk_X10_259 ⟨CPC.blind, va_recv hKN.1 hP (ci := 10) (q0 := p42) rfl hk43, CPC.at hP hKN hD hSZ hS hA⟩ ⟨⟨rfl, rfl⟩, ⟨Nat.le_of_ble_eq_true rfl, Nat.le_of_ble_eq_true rfl⟩, ⟨(Nat.le_of_ble_eq_true rfl), (Nat.le_of_ble_eq_true rfl)⟩⟩ hl.1 rfl (Nat.le_of_ble_eq_true rfl) dX10_shift_2) hP hD hS hA (fun u44 H locs hw45 hP hD hS => ?_)
  obtain ⟨ht47, hw48⟩ : (∀ b, u44 = some b → T b = (5, 0, 0)) ∧ (∀ b, u44 = some b → 0 ≤ p1.toInt ∧ p1.toInt ≤ 5) := hw45
  refine W.eq (g2 := F0 m 5 ls [va_rf u44]) rfl ?_
  rcases u44 with _ | b49
  · skip
    refine W.eq (g2 := F0 m 5 ls [.null]) rfl ?_
    refine lv_ifnullN (tgt := 27) hx hb dX10_shift_5 (by decide) ?_
    refine lv_sipush (v := (-200)) hx hb dX10_shift_27 (by decide) ?_
    refine W.widen (k := 1) (n := 7) (Nat.le_of_ble_eq_true rfl) (Nat.le_of_ble_eq_true rfl) ?_
    have zim200 : ((-200) : Int32).toInt = -200 := by decide
    exact W.iret (v := (-200)) hx hb hr (fun t ht hW => ⟨⟨(((-200)), ws, T), rfl, ⟨TLe.rf, hT, KF.rf⟩, CB.mk ht hP hD⟩, hS.F ht⟩) hS.2.2 dX10_shift_30
  · skip
    have ht50 := ht47 b49 rfl
    have h51 := hw48 b49 rfl
    refine W.eq (g2 := F0 m 5 ls [.ref b49]) rfl ?_
    refine lv_ifnull hx hb dX10_shift_5 ?_
    refine lv_aload_n hx hb dX10_shift_8 rfl (lv_at hl 0 rfl) ?_
    refine lv_iload_n hx hb dX10_shift_9 rfl (lv_at hl 2 rfl) ?_
    refine cga (rn_V (As := [.int p2]) (rest := []) (b := p0) (x_X10_isStar l D Y Z H.size ws T g q p0 p2 hT ht0) ⟨hx, hb, hml, hown, hg⟩ lk_X10_137 ⟨CPC.blind, va_recv hKN.1 hP (ci := 10) (q0 := p42) rfl hk43, CPC.at hP hKN hD hSZ hS hA⟩ ⟨⟨rfl, rfl⟩, ⟨Nat.le_of_ble_eq_true rfl, Nat.le_of_ble_eq_true rfl⟩, ⟨(Nat.le_of_ble_eq_true rfl), (Nat.le_of_ble_eq_true rfl)⟩⟩ hl.1 rfl (Nat.le_of_ble_eq_true rfl) dX10_shift_10) hP hD hS hA (fun u52 H locs hw53 hP hD hS => ?_)
    obtain ⟨hw55, hw56⟩ : (0 ≤ u52.toInt ∧ u52.toInt ≤ 1) ∧ (u52.toInt = 1 → (0 ≤ p2.toInt ∧ p2.toInt ≤ 11)) := hw53
    refine W.eq (g2 := F0 m 13 ls [.int u52]) rfl ?_
    rcases (show u52.toInt = 1 ∨ u52.toInt = 0 by omega) with c57 | c57
    · obtain rfl : u52 = 1 := i_is c57 (by decide)
      have zi1 : (1 : Int32).toInt = 1 := by decide
      replace hw56 := hw56 (by decide)
      refine W.eq (g2 := F0 m 13 ls [.int 1]) rfl ?_
      refine lv_if_eq (tgt := 27) hx hb dX10_shift_13 (by decide) (fun c58 => ?_) (fun c58 => ?_)
      · exact absurd c58 (by decide)
      refine lv_iload_n hx hb dX10_shift_16 rfl (lv_at hl 3 rfl) ?_
      refine lv_iconst (v := (-1)) hx hb dX10_shift_17 (by decide) ?_
      refine lv_sipush (v := 300) hx hb dX10_shift_18 (by decide) ?_
      have zim1 : ((-1) : Int32).toInt = -1 := by decide
      have zi300 : (300 : Int32).toInt = 300 := by decide
      refine cg0 (rn_S (As := [.int p3, .int (-1), .int 300]) (rest := []) (x_X10_isWithin l D Y Z H.size p3 (-1) 300) ⟨hx, hb, hml, hown, hg⟩ lk_X10_100 ⟨CP.blind, CP.at nilP hKN (nilD (A := fun _ => True))⟩ ⟨⟨rfl, rfl⟩, ⟨Nat.le_of_ble_eq_true rfl, Nat.le_of_ble_eq_true rfl⟩, ⟨(Nat.le_of_ble_eq_true rfl), (Nat.le_of_ble_eq_true rfl)⟩⟩ hl.1 rfl (Nat.le_of_ble_eq_true rfl) dX10_shift_21) hP hS hA (fun u59 H locs hw60 hP hS => ?_)
      obtain ⟨hw62, hw63⟩ : ((((-1) : Int32).toInt ≤ p3.toInt ∧ p3.toInt ≤ (300 : Int32).toInt ∧ u59.toInt = 1) ∨ (¬ (((-1) : Int32).toInt ≤ p3.toInt ∧ p3.toInt ≤ (300 : Int32).toInt) ∧ u59.toInt = 0)) ∧ (0 ≤ u59.toInt ∧ u59.toInt ≤ 1) := hw60
      refine W.eq (g2 := F0 m 24 ls [.int u59]) rfl ?_
      rcases (show u59.toInt = 1 ∨ u59.toInt = 0 by omega) with c64 | c64
      · obtain rfl : u59 = 1 := i_is c64 (by decide)
        refine W.eq (g2 := F0 m 24 ls [.int 1]) rfl ?_
        refine lv_if_ne (tgt := 31) hx hb dX10_shift_24 (by decide) (fun c65 => ?_) (fun c65 => ?_)
        rotate_left
        · exact absurd c65 (by decide)
        refine lv_aload_n hx hb dX10_shift_31 rfl (lv_at hl 0 rfl) ?_
        refine lv_iload_n hx hb dX10_shift_32 rfl (lv_at hl 1 rfl) ?_
        refine lv_iload_n hx hb dX10_shift_33 rfl (lv_at hl 2 rfl) ?_
        refine lv_iconst (v := 0) hx hb dX10_shift_34 (by decide) ?_
        have zi0 : (0 : Int32).toInt = 0 := by decide
        refine cga (rn_V (As := [.int p1, .int p2, .int 0]) (rest := []) (b := p0) (x_X10_findingOf l D Y Z H.size ws T g q p0 p1 p2 0 hT ht0) ⟨hx, hb, hml, hown, hg⟩ lk_X10_264 ⟨CPC.blind, va_recv hKN.1 hP (ci := 10) (q0 := p42) rfl hk43, CPC.at hP hKN hD hSZ hS hA⟩ ⟨⟨rfl, rfl⟩, ⟨Nat.le_of_ble_eq_true rfl, Nat.le_of_ble_eq_true rfl⟩, ⟨(Nat.le_of_ble_eq_true rfl), (Nat.le_of_ble_eq_true rfl)⟩⟩ hl.1 rfl (Nat.le_of_ble_eq_true rfl) dX10_shift_35) hP hD hS hA (fun u66 H locs hw67 hP hD hS => ?_)
        refine W.widen (k := 1) (n := 7) (Nat.le_of_ble_eq_true rfl) (Nat.le_of_ble_eq_true rfl) ?_
        obtain ⟨b68, w69, T70⟩ := u66
        obtain ⟨le71, hT, ke72, ht73⟩ : TLe T T70 ∧ TW Y Z T70 g q w69 ∧ KF 1 T ws w69 ∧ T70 b68 = (6, 0, 0) := hw67
        have hk74 := ke72 _ _ hk43 (show (T p0).1 = 1 by rw [ht0])
        have ke75 : KF 1 T ws w69 := KF.tr KF.rf ke72
        refine W.eq (g2 := F0 m 38 ls [.ref b68]) rfl ?_
        refine lv_astore (lv' := [(4, .ref b68), (0, .ref p0), (1, .int p1), (2, .int p2), (3, .int p3)]) hx hb dX10_shift_38 hl (by decide) rfl (fun ls hl => ?_)
        refine lv_aload hx hb dX10_shift_40 (lv_at hl 0 rfl) ?_
        obtain ⟨p84, _, hk85, x76, x77, x78, x79, x80, y81, y82, rfl, h83⟩ := op6 hT ht73
        refine cga (rn_NV (As := []) (rest := []) (b := b68) (x_X1_isNone l D Y Z H.size w69 T70 g q b68 p84 x76 x77 x78 x79 x80 y81 y82 hT ht73 hk85) ⟨hx, hb, hml, hown, hg⟩ hKN lk_X10_315 ⟨CPC.blind, va_recv hKN.1 hP (ci := 1) (q0 := p84) rfl hk85, CPC.at hP hKN hD hSZ hS hA⟩ ⟨⟨rfl, rfl⟩, ⟨Nat.le_of_ble_eq_true rfl, Nat.le_of_ble_eq_true rfl⟩, ⟨(Nat.le_of_ble_eq_true rfl), (Nat.le_of_ble_eq_true rfl)⟩⟩ hl.1 rfl (Nat.le_of_ble_eq_true rfl) dX10_shift_42) hP hD hS hA (fun u86 H locs hw87 hP hD hS => ?_)
        obtain ⟨hw89, hw90⟩ : (0 ≤ u86.toInt ∧ u86.toInt ≤ 1) ∧ (u86.toInt = 0 → 1 ≤ x77.toInt) := hw87
        refine W.eq (g2 := F0 m 45 ls [.int u86]) rfl ?_
        rcases (show u86.toInt = 1 ∨ u86.toInt = 0 by omega) with c91 | c91
        · obtain rfl : u86 = 1 := i_is c91 (by decide)
          clear hw90
          refine W.eq (g2 := F0 m 45 ls [.int 1]) rfl ?_
          refine lv_if_eq (tgt := 52) hx hb dX10_shift_45 (by decide) (fun c92 => ?_) (fun c92 => ?_)
          · exact absurd c92 (by decide)
          refine lv_sipush (v := (-200)) hx hb dX10_shift_48 (by decide) ?_
          refine W.widen (k := 1) (n := 7) (Nat.le_of_ble_eq_true rfl) (Nat.le_of_ble_eq_true rfl) ?_
          have zim200 : ((-200) : Int32).toInt = -200 := by decide
          exact W.iret (v := (-200)) hx hb hr (fun t ht hW => ⟨⟨(((-200)), w69, T70), rfl, ⟨le71, hT, ke75⟩, CB.mk ht hP hD⟩, hS.F ht⟩) hS.2.2 dX10_shift_51
        · obtain rfl : u86 = 0 := i_is c91 (by decide)
          replace hw90 := hw90 (by decide)
          refine W.eq (g2 := F0 m 45 ls [.int 0]) rfl ?_
          refine lv_if_eq (tgt := 52) hx hb dX10_shift_45 (by decide) (fun c93 => ?_) (fun c93 => ?_)
          rotate_left
          · exact absurd c93 (by decide)
          refine lv_aload_n hx hb dX10_shift_52 rfl (lv_at hl 1 rfl) ?_
          refine va_get (D := D) (ci := 10) (v := .ref a11) (C := RX10) (T := TX10) (N := 20) hx hb hg inGX10 hown hKN.1 hP p42 hk74 rfl 10 (by decide) (hg _ kw_359) (fun _ h9 => h9) rfl dX10_shift_53 ?_
          refine lv_aload_n hx hb dX10_shift_56 rfl (lv_at hl 1 rfl) ?_
          refine va_get (D := D) (ci := 10) (v := .ref a1) (C := RX10) (T := TX10) (N := 20) hx hb hg inGX10 hown hKN.1 hP p42 hk74 rfl 0 (by decide) (hg _ kw_349) (fun _ h9 => h9) rfl dX10_shift_57 ?_
          refine lv_iload_n hx hb dX10_shift_60 rfl (lv_at hl 3 rfl) ?_
          refine lv_iconst (v := 0) hx hb dX10_shift_61 (by decide) ?_
          obtain ⟨p106, _, hk107, a94, a95, a96, x97, y98, y99, x100, y101, rfl, h102, h103, h104, h105⟩ := op9 hT (le71.up h33)
          refine cga (rn_NV (As := [.ref a1, .int p2, .int 0]) (rest := []) (b := a11) (x_X2_see l D Y Z H.size w69 T70 g q 0 a11 a1 p2 0 hT (le71.up h33) (le71.up h21)) ⟨hx, hb, hml, hown, hg⟩ hKN lk_X10_143 ⟨CPC.blind, va_recv hKN.1 hP (ci := 2) (q0 := p106) rfl hk107, CPC.at hP hKN hD hSZ hS hA⟩ ⟨⟨rfl, rfl⟩, ⟨Nat.le_of_ble_eq_true rfl, Nat.le_of_ble_eq_true rfl⟩, ⟨(Nat.le_of_ble_eq_true rfl), (Nat.le_of_ble_eq_true rfl)⟩⟩ hl.1 rfl (Nat.le_of_ble_eq_true rfl) dX10_shift_62) hP hD hS hA (fun u108 H locs hw109 hP hD hS => ?_)
          obtain ⟨hT, ke111, ke112⟩ : TW Y Z T70 g q u108 ∧ KF 1 T70 w69 u108 ∧ KF 6 T70 w69 u108 := hw109
          have hk113 := ke111 _ _ hk74 (show (T70 p0).1 = 1 by rw [(le71.up ht0)])
          have hk114 := ke112 _ _ hk85 (show (T70 b68).1 = 6 by rw [ht73])
          have ke115 : KF 1 T ws u108 := KF.tr ke75 (KF.le (by decide) le71 ke111)
          refine W.eq (g2 := F0 m 65 ls []) rfl ?_
          refine lv_aload_n hx hb dX10_shift_65 rfl (lv_at hl 1 rfl) ?_
          refine va_get (D := D) (ci := 10) (v := .ref a11) (C := RX10) (T := TX10) (N := 20) hx hb hg inGX10 hown hKN.1 hP p42 hk113 rfl 10 (by decide) (hg _ kw_359) (fun _ h9 => h9) rfl dX10_shift_66 ?_
          refine lv_aload hx hb dX10_shift_69 (lv_at hl 0 rfl) ?_
          refine va_getN (D := D) (ci := 1) (v := .int x79) (C := RX1) (T := TX1) (N := 7) hx hb hg inGX1 hown hKN.1 hP p84 hk114 rfl 3 (by decide) (va_Nw.use rfl (hKN.2.1 _ kn_323 rfl)) (fun _ h9 => h9) rfl dX10_shift_71 ?_
          refine lv_iload_n hx hb dX10_shift_74 rfl (lv_at hl 4 rfl) ?_
          refine lv_aload hx hb dX10_shift_75 (lv_at hl 0 rfl) ?_
          refine va_getN (D := D) (ci := 1) (v := .int x77) (C := RX1) (T := TX1) (N := 7) hx hb hg inGX1 hown hKN.1 hP p84 hk114 rfl 1 (by decide) (va_Nw.use rfl (hKN.2.1 _ kn_313 rfl)) (fun _ h9 => h9) rfl dX10_shift_77 ?_
          refine lv_imul hx hb dX10_shift_80 ?_
          refine lv_topi (fun v116 ev116 => ?_)
          have hv116 := i_mulR (a := -1) (b := 300) (c := 1) (d := 200) (lo := -200) (hi := 60000) (Eq.refl p3.toInt) (Eq.refl x77.toInt) ev116 (by omega) (by omega) (by decide) (by decide)
          refine lv_iadd hx hb dX10_shift_81 ?_
          refine lv_topi (fun v117 ev117 => ?_)
          refine lv_aload hx hb dX10_shift_82 (lv_at hl 0 rfl) ?_
          refine va_getN (D := D) (ci := 1) (v := .int x78) (C := RX1) (T := TX1) (N := 7) hx hb hg inGX1 hown hKN.1 hP p84 hk114 rfl 2 (by decide) (va_Nw.use rfl (hKN.2.1 _ kn_318 rfl)) (fun _ h9 => h9) rfl dX10_shift_84 ?_
          obtain ⟨p130, _, hk131, a118, a119, a120, x121, y122, y123, x124, y125, rfl, h126, h127, h128, h129⟩ := op9 hT (le71.up h33)
          refine cga (rn_NV (As := [.int v117, .int x78]) (rest := []) (b := a11) (x_X2_shiftOf l D Y Z H.size u108 T70 g q a11 v117 x78 hT (le71.up h33)) ⟨hx, hb, hml, hown, hg⟩ hKN lk_X10_340 ⟨CPC.blind, va_recv hKN.1 hP (ci := 2) (q0 := p130) rfl hk131, CPC.at hP hKN hD hSZ hS hA⟩ ⟨⟨rfl, rfl⟩, ⟨Nat.le_of_ble_eq_true rfl, Nat.le_of_ble_eq_true rfl⟩, ⟨(Nat.le_of_ble_eq_true rfl), (Nat.le_of_ble_eq_true rfl)⟩⟩ hl.1 rfl (Nat.le_of_ble_eq_true rfl) dX10_shift_87) hP hD hS hA (fun u132 H locs hw133 hP hD hS => ?_)
          refine W.eq (g2 := F0 m 90 ls [.int u132]) rfl ?_
          refine W.widen (k := 1) (n := 7) (Nat.le_of_ble_eq_true rfl) (Nat.le_of_ble_eq_true rfl) ?_
          exact W.iret (v := u132) hx hb hr (fun t ht hW => ⟨⟨(u132, u108, T70), rfl, ⟨le71, hT, ke115⟩, CB.mk ht hP hD⟩, hS.F ht⟩) hS.2.2 dX10_shift_90
      · obtain rfl : u59 = 0 := i_is c64 (by decide)
        have zi0 : (0 : Int32).toInt = 0 := by decide
        refine W.eq (g2 := F0 m 24 ls [.int 0]) rfl ?_
        refine lv_if_ne (tgt := 31) hx hb dX10_shift_24 (by decide) (fun c135 => ?_) (fun c135 => ?_)
        · exact absurd c135 (by decide)
        refine lv_sipush (v := (-200)) hx hb dX10_shift_27 (by decide) ?_
        refine W.widen (k := 1) (n := 7) (Nat.le_of_ble_eq_true rfl) (Nat.le_of_ble_eq_true rfl) ?_
        have zim200 : ((-200) : Int32).toInt = -200 := by decide
        exact W.iret (v := (-200)) hx hb hr (fun t ht hW => ⟨⟨(((-200)), ws, T), rfl, ⟨TLe.rf, hT, KF.rf⟩, CB.mk ht hP hD⟩, hS.F ht⟩) hS.2.2 dX10_shift_30
    · obtain rfl : u52 = 0 := i_is c57 (by decide)
      have zi0 : (0 : Int32).toInt = 0 := by decide
      clear hw56
      refine W.eq (g2 := F0 m 13 ls [.int 0]) rfl ?_
      refine lv_if_eq (tgt := 27) hx hb dX10_shift_13 (by decide) (fun c136 => ?_) (fun c136 => ?_)
      rotate_left
      · exact absurd c136 (by decide)
      refine lv_sipush (v := (-200)) hx hb dX10_shift_27 (by decide) ?_
      refine W.widen (k := 1) (n := 7) (Nat.le_of_ble_eq_true rfl) (Nat.le_of_ble_eq_true rfl) ?_
      have zim200 : ((-200) : Int32).toInt = -200 := by decide
      exact W.iret (v := (-200)) hx hb hr (fun t ht hW => ⟨⟨(((-200)), ws, T), rfl, ⟨TLe.rf, hT, KF.rf⟩, CB.mk ht hP hD⟩, hS.F ht⟩) hS.2.2 dX10_shift_30
set_option maxHeartbeats 4000000 in
set_option maxRecDepth 100000 in
theorem x_X10_weight (l : Launch) (D : va_G) (Y : Nat → ClassId) (Z : Nat → Nat) (sz : Nat) (ws : va_W) (T : RT) (g : GN) (q : GQ)  (p0 : Nat) (p1 : Int32) (p2 : Int32) (p3 : Int32) (p4 : Int32) (hT : TW Y Z T g q ws) (ht0 : T p0 = (1, 0, 0)) : Met l yX10_weight (.code yX10_weight cX10_weight 5 (some .int) :: GW) ({ frames := 7, cells := 13, slots := 91, locals := 179 }) (va_Pc [.ref p0, .int p1, .int p2, .int p3, .int p4] (CPC D Y Z ws sz)) (QG (S := Int32 × va_W × RT) (fun u => some (.int u.1)) (fun u => TLe T u.2.2 ∧ TW Y Z u.2.2 g q u.2.1 ∧ KF 1 T ws u.2.1) (fun u => CB D u.2.1 (va_A ws sz)) (va_A ws sz)) 13 91 (va_A ws sz) := by
  refine Met.ofW (cc := cX10_weight) (maxL := 5) (ret := (some .int)) (by decide) rfl ?_
  intro p e s m args below meth c s₁ B hml hv
  obtain ⟨rfl, ⟨hsz, hP, hKN, hD0⟩, hSZ⟩ := hv
  have hx := B.exec
  have hb := B.bytes
  have hr := B.returns
  have hts := atoms_spec (ws := .code yX10_weight cX10_weight 5 (some .int) :: GW) B.pre
  have hg : ∀ w ∈ GW, w.before _ s = true := fun w h => hts w (List.mem_cons_of_mem _ h)
  have hown : s.vm.findClass RX10 = some m.cls := findClass_of_methodNamed B.named
  have hlocks := B.notSynchronized
  subst hsz
  have hD := hD0.self (sz := s.heap.size)
  generalize hAe : va_A ws s.heap.size = A at hD hSZ ⊢
  have hA : ∀ q : Nat, s.heap.size ≤ q → A q := fun q h => by rw [← hAe]; exact Or.inr h
  clear hAe hD0 hts B
  have hl := lv_entry ([.ref p0, .int p1, .int p2, .int p3, .int p4]) (n := 5) (Nat.le_of_ble_eq_true rfl)
  rw [lg_entry_eq]
  generalize (lg_sl ([.ref p0, .int p1, .int p2, .int p3, .int p4]) ++ List.replicate (5 - (lg_sl ([.ref p0, .int p1, .int p2, .int p3, .int p4])).length) Slot.unset).toArray = ls at hl ⊢
  have hl : lv_has ls 5 [(0, .ref p0), (1, .int p1), (2, .int p2), (3, .int p3), (4, .int p4)] := hl
  refine w_start (A0 := A) hP (fun H locs hP hS => ?_)
  refine lv_iload hx hb dX10_weight_0 (lv_at hl 4 rfl) ?_
  refine lv_iconst (v := 0) hx hb dX10_weight_2 (by decide) ?_
  refine lv_iconst (v := 4) hx hb dX10_weight_3 (by decide) ?_
  have zi0 : (0 : Int32).toInt = 0 := by decide
  have zi4 : (4 : Int32).toInt = 4 := by decide
  refine cg0 (rn_S (As := [.int p4, .int 0, .int 4]) (rest := []) (x_X10_isWithin l D Y Z H.size p4 0 4) ⟨hx, hb, hml, hown, hg⟩ lk_X10_100 ⟨CP.blind, CP.at nilP hKN (nilD (A := fun _ => True))⟩ ⟨⟨rfl, rfl⟩, ⟨Nat.le_of_ble_eq_true rfl, Nat.le_of_ble_eq_true rfl⟩, ⟨(Nat.le_of_ble_eq_true rfl), (Nat.le_of_ble_eq_true rfl)⟩⟩ hl.1 rfl (Nat.le_of_ble_eq_true rfl) dX10_weight_4) hP hS hA (fun u1 H locs hw2 hP hS => ?_)
  obtain ⟨hw4, hw5⟩ : (((0 : Int32).toInt ≤ p4.toInt ∧ p4.toInt ≤ (4 : Int32).toInt ∧ u1.toInt = 1) ∨ (¬ ((0 : Int32).toInt ≤ p4.toInt ∧ p4.toInt ≤ (4 : Int32).toInt) ∧ u1.toInt = 0)) ∧ (0 ≤ u1.toInt ∧ u1.toInt ≤ 1) := hw2
  refine W.eq (g2 := F0 m 7 ls [.int u1]) rfl ?_
  rcases (show u1.toInt = 1 ∨ u1.toInt = 0 by omega) with c6 | c6
  · obtain rfl : u1 = 1 := i_is c6 (by decide)
    have zi1 : (1 : Int32).toInt = 1 := by decide
    refine W.eq (g2 := F0 m 7 ls [.int 1]) rfl ?_
    refine lv_if_eq (tgt := 20) hx hb dX10_weight_7 (by decide) (fun c7 => ?_) (fun c7 => ?_)
    · exact absurd c7 (by decide)
    refine lv_aload_n hx hb dX10_weight_10 rfl (lv_at hl 0 rfl) ?_
    refine lv_iload_n hx hb dX10_weight_11 rfl (lv_at hl 1 rfl) ?_
    refine lv_iload_n hx hb dX10_weight_12 rfl (lv_at hl 2 rfl) ?_
    refine lv_iload_n hx hb dX10_weight_13 rfl (lv_at hl 3 rfl) ?_
    obtain ⟨p49, _, hk50, a8, a9, a10, a11, a12, x13, x14, x15, a16, a17, a18, a19, a20, a21, a22, a23, a24, x25, a26, a27, rfl, h28, h29, h30, h31, h32, h33, h34, h35, h36, h37, h38, h39, h40, h41, h42, h43, h44, h45, h46, h47, h48⟩ := op1 hT ht0
    refine cga (rn_V (As := [.int p1, .int p2, .int p3]) (rest := []) (b := p0) (x_X10_isWeighed l D Y Z H.size ws T g q p0 p1 p2 p3 hT ht0) ⟨hx, hb, hml, hown, hg⟩ lk_X10_343 ⟨CPC.blind, va_recv hKN.1 hP (ci := 10) (q0 := p49) rfl hk50, CPC.at hP hKN hD hSZ hS hA⟩ ⟨⟨rfl, rfl⟩, ⟨Nat.le_of_ble_eq_true rfl, Nat.le_of_ble_eq_true rfl⟩, ⟨(Nat.le_of_ble_eq_true rfl), (Nat.le_of_ble_eq_true rfl)⟩⟩ hl.1 rfl (Nat.le_of_ble_eq_true rfl) dX10_weight_14) hP hD hS hA (fun u51 H locs hw52 hP hD hS => ?_)
    refine W.widen (k := 13) (n := 91) (Nat.le_of_ble_eq_true rfl) (Nat.le_of_ble_eq_true rfl) ?_
    obtain ⟨u53, w54, T55⟩ := u51
    obtain ⟨le56, hT, ke57, hw58⟩ : TLe T T55 ∧ TW Y Z T55 g q w54 ∧ KF 1 T ws w54 ∧ (0 ≤ u53.toInt ∧ u53.toInt ≤ 1) := hw52
    have hk59 := ke57 _ _ hk50 (show (T p0).1 = 1 by rw [ht0])
    have ke60 : KF 1 T ws w54 := KF.tr KF.rf ke57
    refine W.eq (g2 := F0 m 17 ls [.int u53]) rfl ?_
    rcases (show u53.toInt = 1 ∨ u53.toInt = 0 by omega) with c61 | c61
    · obtain rfl : u53 = 1 := i_is c61 (by decide)
      refine W.eq (g2 := F0 m 17 ls [.int 1]) rfl ?_
      refine lv_if_ne (tgt := 22) hx hb dX10_weight_17 (by decide) (fun c62 => ?_) (fun c62 => ?_)
      rotate_left
      · exact absurd c62 (by decide)
      refine lv_aload_n hx hb dX10_weight_22 rfl (lv_at hl 0 rfl) ?_
      refine va_get (D := D) (ci := 10) (v := .ref a27) (C := RX10) (T := TX10) (N := 20) hx hb hg inGX10 hown hKN.1 hP p49 hk59 rfl 19 (by decide) (hg _ kw_368) (fun _ h9 => h9) rfl dX10_weight_23 ?_
      refine lv_iload hx hb dX10_weight_26 (lv_at hl 4 rfl) ?_
      refine tr_ld12 hx hb hKN hP hT (le56.up h48) (vp_in_iff.mpr ⟨by omega, by omega⟩) dX10_weight_28 (fun v63 => ?_)
      refine W.widen (k := 13) (n := 91) (Nat.le_of_ble_eq_true rfl) (Nat.le_of_ble_eq_true rfl) ?_
      exact W.iret (v := v63) hx hb hr (fun t ht hW => ⟨⟨(v63, w54, T55), rfl, ⟨le56, hT, ke60⟩, CB.mk ht hP hD⟩, hS.F ht⟩) hS.2.2 dX10_weight_29
    · obtain rfl : u53 = 0 := i_is c61 (by decide)
      refine W.eq (g2 := F0 m 17 ls [.int 0]) rfl ?_
      refine lv_if_ne (tgt := 22) hx hb dX10_weight_17 (by decide) (fun c64 => ?_) (fun c64 => ?_)
      · exact absurd c64 (by decide)
      refine lv_iconst (v := (-1)) hx hb dX10_weight_20 (by decide) ?_
      refine W.widen (k := 13) (n := 91) (Nat.le_of_ble_eq_true rfl) (Nat.le_of_ble_eq_true rfl) ?_
      have zim1 : ((-1) : Int32).toInt = -1 := by decide
      exact W.iret (v := (-1)) hx hb hr (fun t ht hW => ⟨⟨(((-1)), w54, T55), rfl, ⟨le56, hT, ke60⟩, CB.mk ht hP hD⟩, hS.F ht⟩) hS.2.2 dX10_weight_21
  · obtain rfl : u1 = 0 := i_is c6 (by decide)
    refine W.eq (g2 := F0 m 7 ls [.int 0]) rfl ?_
    refine lv_if_eq (tgt := 20) hx hb dX10_weight_7 (by decide) (fun c65 => ?_) (fun c65 => ?_)
    rotate_left
    · exact absurd c65 (by decide)
    refine lv_iconst (v := (-1)) hx hb dX10_weight_20 (by decide) ?_
    refine W.widen (k := 13) (n := 91) (Nat.le_of_ble_eq_true rfl) (Nat.le_of_ble_eq_true rfl) ?_
    have zim1 : ((-1) : Int32).toInt = -1 := by decide
    exact W.iret (v := (-1)) hx hb hr (fun t ht hW => ⟨⟨(((-1)), ws, T), rfl, ⟨TLe.rf, hT, KF.rf⟩, CB.mk ht hP hD⟩, hS.F ht⟩) hS.2.2 dX10_weight_21
set_option maxHeartbeats 4000000 in
set_option maxRecDepth 100000 in
theorem x_X10_sorted (l : Launch) (D : va_G) (Y : Nat → ClassId) (Z : Nat → Nat) (sz : Nat) (ws : va_W) (T : RT) (g : GN) (q : GQ)  (p0 : Nat) (p1 : Int32) (p2 : Int32) (p3 : Int32) (hT : TW Y Z T g q ws) (ht0 : T p0 = (1, 0, 0)) : Met l yX10_sorted (.code yX10_sorted cX10_sorted 4 (some .int) :: GW) ({ frames := 7, cells := 13, slots := 91, locals := 179 }) (va_Pc [.ref p0, .int p1, .int p2, .int p3] (CPC D Y Z ws sz)) (QG (S := Int32 × va_W × RT) (fun u => some (.int u.1)) (fun u => TLe T u.2.2 ∧ TW Y Z u.2.2 g q u.2.1 ∧ KF 1 T ws u.2.1) (fun u => CB D u.2.1 (va_A ws sz)) (va_A ws sz)) 13 91 (va_A ws sz) := by
  refine Met.ofW (cc := cX10_sorted) (maxL := 4) (ret := (some .int)) (by decide) rfl ?_
  intro p e s m args below meth c s₁ B hml hv
  obtain ⟨rfl, ⟨hsz, hP, hKN, hD0⟩, hSZ⟩ := hv
  have hx := B.exec
  have hb := B.bytes
  have hr := B.returns
  have hts := atoms_spec (ws := .code yX10_sorted cX10_sorted 4 (some .int) :: GW) B.pre
  have hg : ∀ w ∈ GW, w.before _ s = true := fun w h => hts w (List.mem_cons_of_mem _ h)
  have hown : s.vm.findClass RX10 = some m.cls := findClass_of_methodNamed B.named
  have hlocks := B.notSynchronized
  subst hsz
  have hD := hD0.self (sz := s.heap.size)
  generalize hAe : va_A ws s.heap.size = A at hD hSZ ⊢
  have hA : ∀ q : Nat, s.heap.size ≤ q → A q := fun q h => by rw [← hAe]; exact Or.inr h
  clear hAe hD0 hts B
  have hl := lv_entry ([.ref p0, .int p1, .int p2, .int p3]) (n := 4) (Nat.le_of_ble_eq_true rfl)
  rw [lg_entry_eq]
  generalize (lg_sl ([.ref p0, .int p1, .int p2, .int p3]) ++ List.replicate (4 - (lg_sl ([.ref p0, .int p1, .int p2, .int p3])).length) Slot.unset).toArray = ls at hl ⊢
  have hl : lv_has ls 4 [(0, .ref p0), (1, .int p1), (2, .int p2), (3, .int p3)] := hl
  refine w_start (A0 := A) hP (fun H locs hP hS => ?_)
  refine lv_aload_n hx hb dX10_sorted_0 rfl (lv_at hl 0 rfl) ?_
  refine lv_iload_n hx hb dX10_sorted_1 rfl (lv_at hl 1 rfl) ?_
  refine lv_iload_n hx hb dX10_sorted_2 rfl (lv_at hl 2 rfl) ?_
  refine lv_iload_n hx hb dX10_sorted_3 rfl (lv_at hl 3 rfl) ?_
  obtain ⟨p42, _, hk43, a1, a2, a3, a4, a5, x6, x7, x8, a9, a10, a11, a12, a13, a14, a15, a16, a17, x18, a19, a20, rfl, h21, h22, h23, h24, h25, h26, h27, h28, h29, h30, h31, h32, h33, h34, h35, h36, h37, h38, h39, h40, h41⟩ := op1 hT ht0
  refine cga (rn_V (As := [.int p1, .int p2, .int p3]) (rest := []) (b := p0) (x_X10_isWeighed l D Y Z H.size ws T g q p0 p1 p2 p3 hT ht0) ⟨hx, hb, hml, hown, hg⟩ lk_X10_343 ⟨CPC.blind, va_recv hKN.1 hP (ci := 10) (q0 := p42) rfl hk43, CPC.at hP hKN hD hSZ hS hA⟩ ⟨⟨rfl, rfl⟩, ⟨Nat.le_of_ble_eq_true rfl, Nat.le_of_ble_eq_true rfl⟩, ⟨(Nat.le_of_ble_eq_true rfl), (Nat.le_of_ble_eq_true rfl)⟩⟩ hl.1 rfl (Nat.le_of_ble_eq_true rfl) dX10_sorted_4) hP hD hS hA (fun u44 H locs hw45 hP hD hS => ?_)
  refine W.widen (k := 13) (n := 91) (Nat.le_of_ble_eq_true rfl) (Nat.le_of_ble_eq_true rfl) ?_
  obtain ⟨u46, w47, T48⟩ := u44
  obtain ⟨le49, hT, ke50, hw51⟩ : TLe T T48 ∧ TW Y Z T48 g q w47 ∧ KF 1 T ws w47 ∧ (0 ≤ u46.toInt ∧ u46.toInt ≤ 1) := hw45
  have hk52 := ke50 _ _ hk43 (show (T p0).1 = 1 by rw [ht0])
  have ke53 : KF 1 T ws w47 := KF.tr KF.rf ke50
  refine W.eq (g2 := F0 m 7 ls [.int u46]) rfl ?_
  rcases (show u46.toInt = 1 ∨ u46.toInt = 0 by omega) with c54 | c54
  · obtain rfl : u46 = 1 := i_is c54 (by decide)
    have zi1 : (1 : Int32).toInt = 1 := by decide
    refine W.eq (g2 := F0 m 7 ls [.int 1]) rfl ?_
    refine lv_if_ne (tgt := 12) hx hb dX10_sorted_7 (by decide) (fun c55 => ?_) (fun c55 => ?_)
    rotate_left
    · exact absurd c55 (by decide)
    refine lv_aload_n hx hb dX10_sorted_12 rfl (lv_at hl 0 rfl) ?_
    refine cga (rn_V (As := []) (rest := []) (b := p0) (x_X10_heaviest l D Y Z H.size w47 T48 g q p0 hT (le49.up ht0)) ⟨hx, hb, hml, hown, hg⟩ lk_X10_346 ⟨CPC.blind, va_recv hKN.1 hP (ci := 10) (q0 := p42) rfl hk52, CPC.at hP hKN hD hSZ hS hA⟩ ⟨⟨rfl, rfl⟩, ⟨Nat.le_of_ble_eq_true rfl, Nat.le_of_ble_eq_true rfl⟩, ⟨(Nat.le_of_ble_eq_true rfl), (Nat.le_of_ble_eq_true rfl)⟩⟩ hl.1 rfl (Nat.le_of_ble_eq_true rfl) dX10_sorted_13) hP hD hS hA (fun u56 H locs hw57 hP hD hS => ?_)
    refine W.eq (g2 := F0 m 16 ls [.int u56]) rfl ?_
    refine W.widen (k := 13) (n := 91) (Nat.le_of_ble_eq_true rfl) (Nat.le_of_ble_eq_true rfl) ?_
    exact W.iret (v := u56) hx hb hr (fun t ht hW => ⟨⟨(u56, w47, T48), rfl, ⟨le49, hT, ke53⟩, CB.mk ht hP hD⟩, hS.F ht⟩) hS.2.2 dX10_sorted_16
  · obtain rfl : u46 = 0 := i_is c54 (by decide)
    have zi0 : (0 : Int32).toInt = 0 := by decide
    refine W.eq (g2 := F0 m 7 ls [.int 0]) rfl ?_
    refine lv_if_ne (tgt := 12) hx hb dX10_sorted_7 (by decide) (fun c59 => ?_) (fun c59 => ?_)
    · exact absurd c59 (by decide)
    refine lv_iconst (v := (-1)) hx hb dX10_sorted_10 (by decide) ?_
    refine W.widen (k := 13) (n := 91) (Nat.le_of_ble_eq_true rfl) (Nat.le_of_ble_eq_true rfl) ?_
    have zim1 : ((-1) : Int32).toInt = -1 := by decide
    exact W.iret (v := (-1)) hx hb hr (fun t ht hW => ⟨⟨(((-1)), w47, T48), rfl, ⟨le49, hT, ke53⟩, CB.mk ht hP hD⟩, hS.F ht⟩) hS.2.2 dX10_sorted_11
set_option maxHeartbeats 4000000 in
set_option maxRecDepth 100000 in
theorem x_X10_odds (l : Launch) (D : va_G) (Y : Nat → ClassId) (Z : Nat → Nat) (sz : Nat) (ws : va_W) (T : RT) (g : GN) (q : GQ)  (p0 : Nat) (p1 : Int32) (p2 : Int32) (p3 : Int32) (p4 : Int32) (p5 : Int32) (hT : TW Y Z T g q ws) (ht0 : T p0 = (1, 0, 0)) : Met l yX10_odds (.code yX10_odds cX10_odds 9 (some .int) :: GW) ({ frames := 7, cells := 13, slots := 91, locals := 179 }) (va_Pc [.ref p0, .int p1, .int p2, .int p3, .int p4, .int p5] (CPC D Y Z ws sz)) (QG (S := Int32 × va_W × RT) (fun u => some (.int u.1)) (fun u => TLe T u.2.2 ∧ TW Y Z u.2.2 g q u.2.1 ∧ KF 1 T ws u.2.1) (fun u => CB D u.2.1 (va_A ws sz)) (va_A ws sz)) 13 91 (va_A ws sz) := by
  refine Met.ofW (cc := cX10_odds) (maxL := 9) (ret := (some .int)) (by decide) rfl ?_
  intro p e s m args below meth c s₁ B hml hv
  obtain ⟨rfl, ⟨hsz, hP, hKN, hD0⟩, hSZ⟩ := hv
  have hx := B.exec
  have hb := B.bytes
  have hr := B.returns
  have hts := atoms_spec (ws := .code yX10_odds cX10_odds 9 (some .int) :: GW) B.pre
  have hg : ∀ w ∈ GW, w.before _ s = true := fun w h => hts w (List.mem_cons_of_mem _ h)
  have hown : s.vm.findClass RX10 = some m.cls := findClass_of_methodNamed B.named
  have hlocks := B.notSynchronized
  subst hsz
  have hD := hD0.self (sz := s.heap.size)
  generalize hAe : va_A ws s.heap.size = A at hD hSZ ⊢
  have hA : ∀ q : Nat, s.heap.size ≤ q → A q := fun q h => by rw [← hAe]; exact Or.inr h
  clear hAe hD0 hts B
  have hl := lv_entry ([.ref p0, .int p1, .int p2, .int p3, .int p4, .int p5]) (n := 9) (Nat.le_of_ble_eq_true rfl)
  rw [lg_entry_eq]
  generalize (lg_sl ([.ref p0, .int p1, .int p2, .int p3, .int p4, .int p5]) ++ List.replicate (9 - (lg_sl ([.ref p0, .int p1, .int p2, .int p3, .int p4, .int p5])).length) Slot.unset).toArray = ls at hl ⊢
  have hl : lv_has ls 9 [(0, .ref p0), (1, .int p1), (2, .int p2), (3, .int p3), (4, .int p4), (5, .int p5)] := hl
  refine w_start (A0 := A) hP (fun H locs hP hS => ?_)
  refine lv_iload hx hb dX10_odds_0 (lv_at hl 4 rfl) ?_
  refine lv_iconst (v := 0) hx hb dX10_odds_2 (by decide) ?_
  refine lv_iconst (v := 4) hx hb dX10_odds_3 (by decide) ?_
  have zi0 : (0 : Int32).toInt = 0 := by decide
  have zi4 : (4 : Int32).toInt = 4 := by decide
  refine cg0 (rn_S (As := [.int p4, .int 0, .int 4]) (rest := []) (x_X10_isWithin l D Y Z H.size p4 0 4) ⟨hx, hb, hml, hown, hg⟩ lk_X10_100 ⟨CP.blind, CP.at nilP hKN (nilD (A := fun _ => True))⟩ ⟨⟨rfl, rfl⟩, ⟨Nat.le_of_ble_eq_true rfl, Nat.le_of_ble_eq_true rfl⟩, ⟨(Nat.le_of_ble_eq_true rfl), (Nat.le_of_ble_eq_true rfl)⟩⟩ hl.1 rfl (Nat.le_of_ble_eq_true rfl) dX10_odds_4) hP hS hA (fun u1 H locs hw2 hP hS => ?_)
  obtain ⟨hw4, hw5⟩ : (((0 : Int32).toInt ≤ p4.toInt ∧ p4.toInt ≤ (4 : Int32).toInt ∧ u1.toInt = 1) ∨ (¬ ((0 : Int32).toInt ≤ p4.toInt ∧ p4.toInt ≤ (4 : Int32).toInt) ∧ u1.toInt = 0)) ∧ (0 ≤ u1.toInt ∧ u1.toInt ≤ 1) := hw2
  refine W.eq (g2 := F0 m 7 ls [.int u1]) rfl ?_
  rcases (show u1.toInt = 1 ∨ u1.toInt = 0 by omega) with c6 | c6
  · obtain rfl : u1 = 1 := i_is c6 (by decide)
    have zi1 : (1 : Int32).toInt = 1 := by decide
    refine W.eq (g2 := F0 m 7 ls [.int 1]) rfl ?_
    refine lv_if_eq (tgt := 24) hx hb dX10_odds_7 (by decide) (fun c7 => ?_) (fun c7 => ?_)
    · exact absurd c7 (by decide)
    refine lv_iload hx hb dX10_odds_10 (lv_at hl 5 rfl) ?_
    refine lv_iconst (v := 0) hx hb dX10_odds_12 (by decide) ?_
    refine lv_iconst (v := 1) hx hb dX10_odds_13 (by decide) ?_
    refine cg0 (rn_S (As := [.int p5, .int 0, .int 1]) (rest := []) (x_X10_isWithin l D Y Z H.size p5 0 1) ⟨hx, hb, hml, hown, hg⟩ lk_X10_100 ⟨CP.blind, CP.at nilP hKN (nilD (A := fun _ => True))⟩ ⟨⟨rfl, rfl⟩, ⟨Nat.le_of_ble_eq_true rfl, Nat.le_of_ble_eq_true rfl⟩, ⟨(Nat.le_of_ble_eq_true rfl), (Nat.le_of_ble_eq_true rfl)⟩⟩ hl.1 rfl (Nat.le_of_ble_eq_true rfl) dX10_odds_14) hP hS hA (fun u8 H locs hw9 hP hS => ?_)
    obtain ⟨hw11, hw12⟩ : (((0 : Int32).toInt ≤ p5.toInt ∧ p5.toInt ≤ (1 : Int32).toInt ∧ u8.toInt = 1) ∨ (¬ ((0 : Int32).toInt ≤ p5.toInt ∧ p5.toInt ≤ (1 : Int32).toInt) ∧ u8.toInt = 0)) ∧ (0 ≤ u8.toInt ∧ u8.toInt ≤ 1) := hw9
    refine W.eq (g2 := F0 m 17 ls [.int u8]) rfl ?_
    rcases (show u8.toInt = 1 ∨ u8.toInt = 0 by omega) with c13 | c13
    · obtain rfl : u8 = 1 := i_is c13 (by decide)
      refine W.eq (g2 := F0 m 17 ls [.int 1]) rfl ?_
      refine lv_if_eq (tgt := 24) hx hb dX10_odds_17 (by decide) (fun c14 => ?_) (fun c14 => ?_)
      · exact absurd c14 (by decide)
      refine lv_iconst (v := 1) hx hb dX10_odds_20 (by decide) ?_
      refine lv_goto (tgt := 25) hx hb dX10_odds_21 (by decide) ?_
      refine lv_istore (lv' := [(6, .int 1), (0, .ref p0), (1, .int p1), (2, .int p2), (3, .int p3), (4, .int p4), (5, .int p5)]) hx hb dX10_odds_25 hl (by decide) rfl (fun ls hl => ?_)
      refine lv_iload hx hb dX10_odds_27 (lv_at hl 0 rfl) ?_
      refine lv_if_eq (tgt := 42) hx hb dX10_odds_29 (by decide) (fun c15 => ?_) (fun c15 => ?_)
      · exact absurd c15 (by decide)
      refine lv_aload_n hx hb dX10_odds_32 rfl (lv_at hl 1 rfl) ?_
      refine lv_iload_n hx hb dX10_odds_33 rfl (lv_at hl 2 rfl) ?_
      refine lv_iload_n hx hb dX10_odds_34 rfl (lv_at hl 3 rfl) ?_
      refine lv_iload_n hx hb dX10_odds_35 rfl (lv_at hl 4 rfl) ?_
      obtain ⟨p57, _, hk58, a16, a17, a18, a19, a20, x21, x22, x23, a24, a25, a26, a27, a28, a29, a30, a31, a32, x33, a34, a35, rfl, h36, h37, h38, h39, h40, h41, h42, h43, h44, h45, h46, h47, h48, h49, h50, h51, h52, h53, h54, h55, h56⟩ := op1 hT ht0
      refine cga (rn_V (As := [.int p1, .int p2, .int p3]) (rest := []) (b := p0) (x_X10_isWeighed l D Y Z H.size ws T g q p0 p1 p2 p3 hT ht0) ⟨hx, hb, hml, hown, hg⟩ lk_X10_343 ⟨CPC.blind, va_recv hKN.1 hP (ci := 10) (q0 := p57) rfl hk58, CPC.at hP hKN hD hSZ hS hA⟩ ⟨⟨rfl, rfl⟩, ⟨Nat.le_of_ble_eq_true rfl, Nat.le_of_ble_eq_true rfl⟩, ⟨(Nat.le_of_ble_eq_true rfl), (Nat.le_of_ble_eq_true rfl)⟩⟩ hl.1 rfl (Nat.le_of_ble_eq_true rfl) dX10_odds_36) hP hD hS hA (fun u59 H locs hw60 hP hD hS => ?_)
      refine W.widen (k := 13) (n := 91) (Nat.le_of_ble_eq_true rfl) (Nat.le_of_ble_eq_true rfl) ?_
      obtain ⟨u61, w62, T63⟩ := u59
      obtain ⟨le64, hT, ke65, hw66⟩ : TLe T T63 ∧ TW Y Z T63 g q w62 ∧ KF 1 T ws w62 ∧ (0 ≤ u61.toInt ∧ u61.toInt ≤ 1) := hw60
      have hk67 := ke65 _ _ hk58 (show (T p0).1 = 1 by rw [ht0])
      have ke68 : KF 1 T ws w62 := KF.tr KF.rf ke65
      refine W.eq (g2 := F0 m 39 ls [.int u61]) rfl ?_
      rcases (show u61.toInt = 1 ∨ u61.toInt = 0 by omega) with c69 | c69
      · obtain rfl : u61 = 1 := i_is c69 (by decide)
        refine W.eq (g2 := F0 m 39 ls [.int 1]) rfl ?_
        refine lv_if_ne (tgt := 44) hx hb dX10_odds_39 (by decide) (fun c70 => ?_) (fun c70 => ?_)
        rotate_left
        · exact absurd c70 (by decide)
        refine lv_iconst (v := 0) hx hb dX10_odds_44 (by decide) ?_
        refine lv_istore (lv' := [(7, .int 0), (6, .int 1), (0, .ref p0), (1, .int p1), (2, .int p2), (3, .int p3), (4, .int p4), (5, .int p5)]) hx hb dX10_odds_45 hl (by decide) rfl (fun ls hl => ?_)
        refine lv_iconst (v := 0) hx hb dX10_odds_47 (by decide) ?_
        refine lv_istore (lv' := [(8, .int 0), (7, .int 0), (6, .int 1), (0, .ref p0), (1, .int p1), (2, .int p2), (3, .int p3), (4, .int p4), (5, .int p5)]) hx hb dX10_odds_48 hl (by decide) rfl (fun ls hl => ?_)
        refine w_loop (σ := Int32 × Int32) (fun xx H locs ls => match xx with | (v75, v76) => va_P D vwCl w62 H ∧ va_D A w62 ∧ va_S A s.heap H locs ∧ lv_has ls 9 [(8, .int v75), (7, .int v76), (6, .int 1), (0, .ref p0), (1, .int p1), (2, .int p2), (3, .int p3), (4, .int p4), (5, .int p5)] ∧ TW Y Z T63 g q w62 ∧ (0 ≤ v75.toInt ∧ v75.toInt ≤ 5)) (fun xx => match xx with | (v75, v76) => (5 - v75.toInt).toNat) (0, 0) ⟨hP, hD, hS, lv_sub hl [0, 1, 2, 3, 4, 5, 6, 7, 8] rfl, hT, by omega⟩ (fun xx H locs ls hI ih => ?_)
        obtain ⟨v75, v76⟩ := xx
        obtain ⟨hP, hD, hS, hl, hT, hq81⟩ := hI
        have ih82 := ih
        refine lv_iload hx hb dX10_odds_50 (lv_at hl 0 rfl) ?_
        refine lv_iconst (v := 5) hx hb dX10_odds_52 (by decide) ?_
        refine lv_icmp_ge (tgt := 74) hx hb dX10_odds_53 (by decide) (fun c83 => ?_) (fun c83 => ?_)
        · skip
          have c83 := i_le (show (5 : Int32).toInt = 5 by decide) (Eq.refl v75.toInt) c83
          refine lv_aload_n hx hb dX10_odds_74 rfl (lv_at hl 3 rfl) ?_
          refine va_get (D := D) (ci := 10) (v := .ref a35) (C := RX10) (T := TX10) (N := 20) hx hb hg inGX10 hown hKN.1 hP p57 hk67 rfl 19 (by decide) (hg _ kw_368) (fun _ h9 => h9) rfl dX10_odds_75 ?_
          refine lv_iload hx hb dX10_odds_78 (lv_at hl 7 rfl) ?_
          refine tr_ld12 hx hb hKN hP hT (le64.up h56) (vp_in_iff.mpr ⟨by omega, by omega⟩) dX10_odds_80 (fun v84 => ?_)
          refine lv_iload hx hb dX10_odds_81 (lv_at hl 1 rfl) ?_
          refine lv_iload hx hb dX10_odds_83 (lv_at hl 8 rfl) ?_
          refine cg0 (rn_S (As := [.int v84, .int v76, .int p5]) (rest := []) (x_X10_partOf l D Y Z H.size v84 v76 p5) ⟨hx, hb, hml, hown, hg⟩ lk_X10_307 ⟨CP.blind, CP.at nilP hKN (nilD (A := fun _ => True))⟩ ⟨⟨rfl, rfl⟩, ⟨Nat.le_of_ble_eq_true rfl, Nat.le_of_ble_eq_true rfl⟩, ⟨(Nat.le_of_ble_eq_true rfl), (Nat.le_of_ble_eq_true rfl)⟩⟩ hl.1 rfl (Nat.le_of_ble_eq_true rfl) dX10_odds_85) hP hS hA (fun u85 H locs hw86 hP hS => ?_)
          refine W.eq (g2 := F0 m 88 ls [.int u85]) rfl ?_
          refine W.widen (k := 13) (n := 91) (Nat.le_of_ble_eq_true rfl) (Nat.le_of_ble_eq_true rfl) ?_
          exact W.iret (v := u85) hx hb hr (fun t ht hW => ⟨⟨(u85, w62, T63), rfl, ⟨le64, hT, ke68⟩, CB.mk ht hP hD⟩, hS.F ht⟩) hS.2.2 dX10_odds_88
        · skip
          have c83 := i_nle (show (5 : Int32).toInt = 5 by decide) (Eq.refl v75.toInt) c83
          refine lv_iload hx hb dX10_odds_56 (lv_at hl 1 rfl) ?_
          refine lv_aload_n hx hb dX10_odds_58 rfl (lv_at hl 3 rfl) ?_
          refine va_get (D := D) (ci := 10) (v := .ref a35) (C := RX10) (T := TX10) (N := 20) hx hb hg inGX10 hown hKN.1 hP p57 hk67 rfl 19 (by decide) (hg _ kw_368) (fun _ h9 => h9) rfl dX10_odds_59 ?_
          refine lv_iload hx hb dX10_odds_62 (lv_at hl 0 rfl) ?_
          refine tr_ld12 hx hb hKN hP hT (le64.up h56) (vp_in_iff.mpr ⟨by omega, by omega⟩) dX10_odds_64 (fun v88 => ?_)
          refine lv_iadd hx hb dX10_odds_65 ?_
          refine lv_topi (fun v89 ev89 => ?_)
          refine lv_istore (lv' := [(7, .int v89), (8, .int v75), (6, .int 1), (0, .ref p0), (1, .int p1), (2, .int p2), (3, .int p3), (4, .int p4), (5, .int p5)]) hx hb dX10_odds_66 hl (by decide) rfl (fun ls hl => ?_)
          obtain ⟨v90, ev90⟩ : ∃ y : Int32, y = v75 + 1 := ⟨_, rfl⟩
          have hv90 := i_add (Eq.refl v75.toInt) (show (1 : Int32).toInt = 1 by decide) ev90 (by omega) (by omega)
          refine lv_iinc (v := v90) (lv' := [(8, .int v90), (7, .int v89), (6, .int 1), (0, .ref p0), (1, .int p1), (2, .int p2), (3, .int p3), (4, .int p4), (5, .int p5)]) hx hb dX10_odds_68 hl (k := 1) rfl (by rw [ev90]; rfl) (by decide) rfl (fun ls hl => ?_)
          refine lv_goto (tgt := 50) hx hb dX10_odds_71 (by decide) ?_
          exact ih82 (v90, v89) H locs ls (by show (5 - v90.toInt).toNat < (5 - v75.toInt).toNat; omega) ⟨hP, hD, hS, lv_sub hl [0, 1, 2, 3, 4, 5, 6, 7, 8] rfl, hT, by omega⟩
      · obtain rfl : u61 = 0 := i_is c69 (by decide)
        refine W.eq (g2 := F0 m 39 ls [.int 0]) rfl ?_
        refine lv_if_ne (tgt := 44) hx hb dX10_odds_39 (by decide) (fun c91 => ?_) (fun c91 => ?_)
        · exact absurd c91 (by decide)
        refine lv_iconst (v := (-1)) hx hb dX10_odds_42 (by decide) ?_
        refine W.widen (k := 13) (n := 91) (Nat.le_of_ble_eq_true rfl) (Nat.le_of_ble_eq_true rfl) ?_
        have zim1 : ((-1) : Int32).toInt = -1 := by decide
        exact W.iret (v := (-1)) hx hb hr (fun t ht hW => ⟨⟨(((-1)), w62, T63), rfl, ⟨le64, hT, ke68⟩, CB.mk ht hP hD⟩, hS.F ht⟩) hS.2.2 dX10_odds_43
    · obtain rfl : u8 = 0 := i_is c13 (by decide)
      refine W.eq (g2 := F0 m 17 ls [.int 0]) rfl ?_
      refine lv_if_eq (tgt := 24) hx hb dX10_odds_17 (by decide) (fun c92 => ?_) (fun c92 => ?_)
      rotate_left
      · exact absurd c92 (by decide)
      refine lv_iconst (v := 0) hx hb dX10_odds_24 (by decide) ?_
      refine lv_istore (lv' := [(6, .int 0), (0, .ref p0), (1, .int p1), (2, .int p2), (3, .int p3), (4, .int p4), (5, .int p5)]) hx hb dX10_odds_25 hl (by decide) rfl (fun ls hl => ?_)
      refine lv_iload hx hb dX10_odds_27 (lv_at hl 0 rfl) ?_
      refine lv_if_eq (tgt := 42) hx hb dX10_odds_29 (by decide) (fun c93 => ?_) (fun c93 => ?_)
      rotate_left
      · exact absurd c93 (by decide)
      refine lv_iconst (v := (-1)) hx hb dX10_odds_42 (by decide) ?_
      refine W.widen (k := 13) (n := 91) (Nat.le_of_ble_eq_true rfl) (Nat.le_of_ble_eq_true rfl) ?_
      have zim1 : ((-1) : Int32).toInt = -1 := by decide
      exact W.iret (v := (-1)) hx hb hr (fun t ht hW => ⟨⟨(((-1)), ws, T), rfl, ⟨TLe.rf, hT, KF.rf⟩, CB.mk ht hP hD⟩, hS.F ht⟩) hS.2.2 dX10_odds_43
  · obtain rfl : u1 = 0 := i_is c6 (by decide)
    refine W.eq (g2 := F0 m 7 ls [.int 0]) rfl ?_
    refine lv_if_eq (tgt := 24) hx hb dX10_odds_7 (by decide) (fun c94 => ?_) (fun c94 => ?_)
    rotate_left
    · exact absurd c94 (by decide)
    refine lv_iconst (v := 0) hx hb dX10_odds_24 (by decide) ?_
    refine lv_istore (lv' := [(6, .int 0), (0, .ref p0), (1, .int p1), (2, .int p2), (3, .int p3), (4, .int p4), (5, .int p5)]) hx hb dX10_odds_25 hl (by decide) rfl (fun ls hl => ?_)
    refine lv_iload hx hb dX10_odds_27 (lv_at hl 0 rfl) ?_
    refine lv_if_eq (tgt := 42) hx hb dX10_odds_29 (by decide) (fun c95 => ?_) (fun c95 => ?_)
    rotate_left
    · exact absurd c95 (by decide)
    refine lv_iconst (v := (-1)) hx hb dX10_odds_42 (by decide) ?_
    refine W.widen (k := 13) (n := 91) (Nat.le_of_ble_eq_true rfl) (Nat.le_of_ble_eq_true rfl) ?_
    have zim1 : ((-1) : Int32).toInt = -1 := by decide
    exact W.iret (v := (-1)) hx hb hr (fun t ht hW => ⟨⟨(((-1)), ws, T), rfl, ⟨TLe.rf, hT, KF.rf⟩, CB.mk ht hP hD⟩, hS.F ht⟩) hS.2.2 dX10_odds_43
