set_option maxHeartbeats 4000000 in
set_option maxRecDepth 100000 in
theorem x_X10_tried (l : Launch) (D : va_G) (Y : Nat → ClassId) (Z : Nat → Nat) (sz : Nat) (ws : va_W) (T : RT) (g : GN) (q : GQ)  (p0 : Nat) (p1 : Int32) (p2 : Int32) (p3 : Int32) (p4 : Int32) (p5 : Int32) (p6 : Int32) (hT : TW Y Z T g q ws) (ht0 : T p0 = (1, 0, 0)) : Met l yX10_tried (.code yX10_tried cX10_tried 8 (some .long) :: GW) ({ frames := 4, cells := 0, slots := 0, locals := 101 }) (va_Pc [.ref p0, .int p1, .int p2, .int p3, .int p4, .int p5, .int p6] (CPC D Y Z ws sz)) (QG (S := Int64 × va_W) (fun u => some (.long u.1)) (fun u => TW Y Z T g q u.2 ∧ KF 1 T ws u.2 ∧ KF 6 T ws u.2) (fun u => CB D u.2 (va_A ws sz)) (va_A ws sz)) 0 0 (va_A ws sz) := by
  refine Met.ofW (cc := cX10_tried) (maxL := 8) (ret := (some .long)) (by decide) rfl ?_
  intro p e s m args below meth c s₁ B hml hv
  obtain ⟨rfl, ⟨hsz, hP, hKN, hD0⟩, hSZ⟩ := hv
  have hx := B.exec
  have hb := B.bytes
  have hr := B.returns
  have hts := atoms_spec (ws := .code yX10_tried cX10_tried 8 (some .long) :: GW) B.pre
  have hg : ∀ w ∈ GW, w.before _ s = true := fun w h => hts w (List.mem_cons_of_mem _ h)
  have hown : s.vm.findClass RX10 = some m.cls := findClass_of_methodNamed B.named
  have hlocks := B.notSynchronized
  subst hsz
  have hD := hD0.self (sz := s.heap.size)
  generalize hAe : va_A ws s.heap.size = A at hD hSZ ⊢
  have hA : ∀ q : Nat, s.heap.size ≤ q → A q := fun q h => by rw [← hAe]; exact Or.inr h
  clear hAe hD0 hts B
  have hl := lv_entry ([.ref p0, .int p1, .int p2, .int p3, .int p4, .int p5, .int p6]) (n := 8) (Nat.le_of_ble_eq_true rfl)
  rw [lg_entry_eq]
  generalize (lg_sl ([.ref p0, .int p1, .int p2, .int p3, .int p4, .int p5, .int p6]) ++ List.replicate (8 - (lg_sl ([.ref p0, .int p1, .int p2, .int p3, .int p4, .int p5, .int p6])).length) Slot.unset).toArray = ls at hl ⊢
  have hl : lv_has ls 8 [(0, .ref p0), (1, .int p1), (2, .int p2), (3, .int p3), (4, .int p4), (5, .int p5), (6, .int p6)] := hl
  refine w_start (A0 := A) hP (fun H locs hP hS => ?_)
  refine lv_iload_n hx hb dX10_tried_0 rfl (lv_at hl 3 rfl) ?_
  refine cg0 (rn_S (As := [.int p3]) (rest := []) (x_X10_isBeat l D Y Z H.size p3) ⟨hx, hb, hml, hown, hg⟩ lk_X10_234 ⟨CP.blind, CP.at nilP hKN (nilD (A := fun _ => True))⟩ ⟨⟨rfl, rfl⟩, ⟨Nat.le_of_ble_eq_true rfl, Nat.le_of_ble_eq_true rfl⟩, ⟨(Nat.le_of_ble_eq_true rfl), (Nat.le_of_ble_eq_true rfl)⟩⟩ hl.1 rfl (Nat.le_of_ble_eq_true rfl) dX10_tried_1) hP hS hA (fun u1 H locs hw2 hP hS => ?_)
  obtain ⟨hw4, hw5⟩ : ((2 ≤ p3.toInt ∧ p3.toInt ≤ 200 ∧ u1.toInt = 1) ∨ (¬ (2 ≤ p3.toInt ∧ p3.toInt ≤ 200) ∧ u1.toInt = 0)) ∧ (0 ≤ u1.toInt ∧ u1.toInt ≤ 1) := hw2
  refine W.eq (g2 := F0 m 4 ls [.int u1]) rfl ?_
  rcases (show u1.toInt = 1 ∨ u1.toInt = 0 by omega) with c6 | c6
  · obtain rfl : u1 = 1 := i_is c6 (by decide)
    have zi1 : (1 : Int32).toInt = 1 := by decide
    refine W.eq (g2 := F0 m 4 ls [.int 1]) rfl ?_
    refine lv_if_eq (tgt := 40) hx hb dX10_tried_4 (by decide) (fun c7 => ?_) (fun c7 => ?_)
    · exact absurd c7 (by decide)
    refine lv_iload hx hb dX10_tried_7 (lv_at hl 4 rfl) ?_
    refine lv_iconst (v := 1) hx hb dX10_tried_9 (by decide) ?_
    refine lv_bipush (v := 10) hx hb dX10_tried_10 (by decide) ?_
    have zi10 : (10 : Int32).toInt = 10 := by decide
    refine cg0 (rn_S (As := [.int p4, .int 1, .int 10]) (rest := []) (x_X10_isWithin l D Y Z H.size p4 1 10) ⟨hx, hb, hml, hown, hg⟩ lk_X10_100 ⟨CP.blind, CP.at nilP hKN (nilD (A := fun _ => True))⟩ ⟨⟨rfl, rfl⟩, ⟨Nat.le_of_ble_eq_true rfl, Nat.le_of_ble_eq_true rfl⟩, ⟨(Nat.le_of_ble_eq_true rfl), (Nat.le_of_ble_eq_true rfl)⟩⟩ hl.1 rfl (Nat.le_of_ble_eq_true rfl) dX10_tried_12) hP hS hA (fun u8 H locs hw9 hP hS => ?_)
    obtain ⟨hw11, hw12⟩ : (((1 : Int32).toInt ≤ p4.toInt ∧ p4.toInt ≤ (10 : Int32).toInt ∧ u8.toInt = 1) ∨ (¬ ((1 : Int32).toInt ≤ p4.toInt ∧ p4.toInt ≤ (10 : Int32).toInt) ∧ u8.toInt = 0)) ∧ (0 ≤ u8.toInt ∧ u8.toInt ≤ 1) := hw9
    refine W.eq (g2 := F0 m 15 ls [.int u8]) rfl ?_
    rcases (show u8.toInt = 1 ∨ u8.toInt = 0 by omega) with c13 | c13
    · obtain rfl : u8 = 1 := i_is c13 (by decide)
      refine W.eq (g2 := F0 m 15 ls [.int 1]) rfl ?_
      refine lv_if_eq (tgt := 40) hx hb dX10_tried_15 (by decide) (fun c14 => ?_) (fun c14 => ?_)
      · exact absurd c14 (by decide)
      refine lv_iload hx hb dX10_tried_18 (lv_at hl 4 rfl) ?_
      refine lv_iload_n hx hb dX10_tried_20 rfl (lv_at hl 3 rfl) ?_
      refine lv_icmp_ge (tgt := 40) hx hb dX10_tried_21 (by decide) (fun c15 => ?_) (fun c15 => ?_)
      · skip
        have c15 := i_le (Eq.refl p3.toInt) (Eq.refl p4.toInt) c15
        refine lv_iconst (v := 0) hx hb dX10_tried_40 (by decide) ?_
        refine lv_istore (lv' := [(7, .int 0), (0, .ref p0), (1, .int p1), (2, .int p2), (3, .int p3), (4, .int p4), (5, .int p5), (6, .int p6)]) hx hb dX10_tried_41 hl (by decide) rfl (fun ls hl => ?_)
        refine lv_aload_n hx hb dX10_tried_43 rfl (lv_at hl 1 rfl) ?_
        refine lv_iload_n hx hb dX10_tried_44 rfl (lv_at hl 2 rfl) ?_
        obtain ⟨p57, _, hk58, a16, a17, a18, a19, a20, x21, x22, x23, a24, a25, a26, a27, a28, a29, a30, a31, a32, x33, a34, a35, rfl, h36, h37, h38, h39, h40, h41, h42, h43, h44, h45, h46, h47, h48, h49, h50, h51, h52, h53, h54, h55, h56⟩ := op1 hT ht0
        refine cga (rn_V (As := [.int p1]) (rest := []) (b := p0) (x_X10_isStar l D Y Z H.size ws T g q p0 p1 hT ht0) ⟨hx, hb, hml, hown, hg⟩ lk_X10_137 ⟨CPC.blind, va_recv hKN.1 hP (ci := 10) (q0 := p57) rfl hk58, CPC.at hP hKN hD hSZ hS hA⟩ ⟨⟨rfl, rfl⟩, ⟨Nat.le_of_ble_eq_true rfl, Nat.le_of_ble_eq_true rfl⟩, ⟨(Nat.le_of_ble_eq_true rfl), (Nat.le_of_ble_eq_true rfl)⟩⟩ hl.1 rfl (Nat.le_of_ble_eq_true rfl) dX10_tried_45) hP hD hS hA (fun u59 H locs hw60 hP hD hS => ?_)
        obtain ⟨hw62, hw63⟩ : (0 ≤ u59.toInt ∧ u59.toInt ≤ 1) ∧ (u59.toInt = 1 → (0 ≤ p1.toInt ∧ p1.toInt ≤ 11)) := hw60
        refine W.eq (g2 := F0 m 48 ls [.int u59]) rfl ?_
        rcases (show u59.toInt = 1 ∨ u59.toInt = 0 by omega) with c64 | c64
        · obtain rfl : u59 = 1 := i_is c64 (by decide)
          replace hw63 := hw63 (by decide)
          refine W.eq (g2 := F0 m 48 ls [.int 1]) rfl ?_
          refine lv_if_eq (tgt := 73) hx hb dX10_tried_48 (by decide) (fun c65 => ?_) (fun c65 => ?_)
          · exact absurd c65 (by decide)
          refine lv_iload_n hx hb dX10_tried_51 rfl (lv_at hl 3 rfl) ?_
          refine cg0 (rn_S (As := [.int p2]) (rest := []) (x_X10_isWay l D Y Z H.size p2) ⟨hx, hb, hml, hown, hg⟩ lk_X10_140 ⟨CP.blind, CP.at nilP hKN (nilD (A := fun _ => True))⟩ ⟨⟨rfl, rfl⟩, ⟨Nat.le_of_ble_eq_true rfl, Nat.le_of_ble_eq_true rfl⟩, ⟨(Nat.le_of_ble_eq_true rfl), (Nat.le_of_ble_eq_true rfl)⟩⟩ hl.1 rfl (Nat.le_of_ble_eq_true rfl) dX10_tried_52) hP hS hA (fun u66 H locs hw67 hP hS => ?_)
          obtain ⟨hw69, hw70⟩ : ((0 ≤ p2.toInt ∧ p2.toInt ≤ 5 ∧ u66.toInt = 1) ∨ (¬ (0 ≤ p2.toInt ∧ p2.toInt ≤ 5) ∧ u66.toInt = 0)) ∧ (0 ≤ u66.toInt ∧ u66.toInt ≤ 1) := hw67
          refine W.eq (g2 := F0 m 55 ls [.int u66]) rfl ?_
          rcases (show u66.toInt = 1 ∨ u66.toInt = 0 by omega) with c71 | c71
          · obtain rfl : u66 = 1 := i_is c71 (by decide)
            refine W.eq (g2 := F0 m 55 ls [.int 1]) rfl ?_
            refine lv_if_eq (tgt := 73) hx hb dX10_tried_55 (by decide) (fun c72 => ?_) (fun c72 => ?_)
            · exact absurd c72 (by decide)
            refine lv_iload hx hb dX10_tried_58 (lv_at hl 0 rfl) ?_
            refine lv_if_eq (tgt := 73) hx hb dX10_tried_60 (by decide) (fun c73 => ?_) (fun c73 => ?_)
            rotate_left
            · exact absurd c73 (by decide)
            refine lv_ldc2 (v := (-200000)) hx hb hown (hg _ kw_817) dX10_tried_73 ?_
            refine W.widen (k := 0) (n := 0) (Nat.le_of_ble_eq_true rfl) (Nat.le_of_ble_eq_true rfl) ?_
            have zlm200000 : ((-200000) : Int64).toInt = -200000 := by decide
            have zi0 : (0 : Int32).toInt = 0 := by decide
            exact W.lret (v := (-200000)) hx hb hr (fun t ht hW => ⟨⟨(((-200000)), ws), rfl, ⟨hT, KF.rf, KF.rf⟩, CB.mk ht hP hD⟩, hS.F ht⟩) hS.2.2 dX10_tried_76
          · obtain rfl : u66 = 0 := i_is c71 (by decide)
            have zi0 : (0 : Int32).toInt = 0 := by decide
            refine W.eq (g2 := F0 m 55 ls [.int 0]) rfl ?_
            refine lv_if_eq (tgt := 73) hx hb dX10_tried_55 (by decide) (fun c74 => ?_) (fun c74 => ?_)
            rotate_left
            · exact absurd c74 (by decide)
            refine lv_ldc2 (v := (-200000)) hx hb hown (hg _ kw_817) dX10_tried_73 ?_
            refine W.widen (k := 0) (n := 0) (Nat.le_of_ble_eq_true rfl) (Nat.le_of_ble_eq_true rfl) ?_
            have zlm200000 : ((-200000) : Int64).toInt = -200000 := by decide
            exact W.lret (v := (-200000)) hx hb hr (fun t ht hW => ⟨⟨(((-200000)), ws), rfl, ⟨hT, KF.rf, KF.rf⟩, CB.mk ht hP hD⟩, hS.F ht⟩) hS.2.2 dX10_tried_76
        · obtain rfl : u59 = 0 := i_is c64 (by decide)
          have zi0 : (0 : Int32).toInt = 0 := by decide
          clear hw63
          refine W.eq (g2 := F0 m 48 ls [.int 0]) rfl ?_
          refine lv_if_eq (tgt := 73) hx hb dX10_tried_48 (by decide) (fun c75 => ?_) (fun c75 => ?_)
          rotate_left
          · exact absurd c75 (by decide)
          refine lv_ldc2 (v := (-200000)) hx hb hown (hg _ kw_817) dX10_tried_73 ?_
          refine W.widen (k := 0) (n := 0) (Nat.le_of_ble_eq_true rfl) (Nat.le_of_ble_eq_true rfl) ?_
          have zlm200000 : ((-200000) : Int64).toInt = -200000 := by decide
          exact W.lret (v := (-200000)) hx hb hr (fun t ht hW => ⟨⟨(((-200000)), ws), rfl, ⟨hT, KF.rf, KF.rf⟩, CB.mk ht hP hD⟩, hS.F ht⟩) hS.2.2 dX10_tried_76
      · skip
        have c15 := i_nle (Eq.refl p3.toInt) (Eq.refl p4.toInt) c15
        refine lv_iload hx hb dX10_tried_24 (lv_at hl 5 rfl) ?_
        refine lv_iconst (v := 0) hx hb dX10_tried_26 (by decide) ?_
        refine lv_iload_n hx hb dX10_tried_27 rfl (lv_at hl 3 rfl) ?_
        refine lv_iconst (v := 1) hx hb dX10_tried_28 (by decide) ?_
        refine lv_isub hx hb dX10_tried_29 ?_
        refine lv_topi (fun v76 ev76 => ?_)
        have hv76 := i_sub (Eq.refl p3.toInt) (show (1 : Int32).toInt = 1 by decide) ev76 (by omega) (by omega)
        have zi0 : (0 : Int32).toInt = 0 := by decide
        refine cg0 (rn_S (As := [.int p5, .int 0, .int v76]) (rest := []) (x_X10_isWithin l D Y Z H.size p5 0 v76) ⟨hx, hb, hml, hown, hg⟩ lk_X10_100 ⟨CP.blind, CP.at nilP hKN (nilD (A := fun _ => True))⟩ ⟨⟨rfl, rfl⟩, ⟨Nat.le_of_ble_eq_true rfl, Nat.le_of_ble_eq_true rfl⟩, ⟨(Nat.le_of_ble_eq_true rfl), (Nat.le_of_ble_eq_true rfl)⟩⟩ hl.1 rfl (Nat.le_of_ble_eq_true rfl) dX10_tried_30) hP hS hA (fun u77 H locs hw78 hP hS => ?_)
        obtain ⟨hw80, hw81⟩ : (((0 : Int32).toInt ≤ p5.toInt ∧ p5.toInt ≤ v76.toInt ∧ u77.toInt = 1) ∨ (¬ ((0 : Int32).toInt ≤ p5.toInt ∧ p5.toInt ≤ v76.toInt) ∧ u77.toInt = 0)) ∧ (0 ≤ u77.toInt ∧ u77.toInt ≤ 1) := hw78
        refine W.eq (g2 := F0 m 33 ls [.int u77]) rfl ?_
        rcases (show u77.toInt = 1 ∨ u77.toInt = 0 by omega) with c82 | c82
        · obtain rfl : u77 = 1 := i_is c82 (by decide)
          refine W.eq (g2 := F0 m 33 ls [.int 1]) rfl ?_
          refine lv_if_eq (tgt := 40) hx hb dX10_tried_33 (by decide) (fun c83 => ?_) (fun c83 => ?_)
          · exact absurd c83 (by decide)
          refine lv_iconst (v := 1) hx hb dX10_tried_36 (by decide) ?_
          refine lv_goto (tgt := 41) hx hb dX10_tried_37 (by decide) ?_
          refine lv_istore (lv' := [(7, .int 1), (0, .ref p0), (1, .int p1), (2, .int p2), (3, .int p3), (4, .int p4), (5, .int p5), (6, .int p6)]) hx hb dX10_tried_41 hl (by decide) rfl (fun ls hl => ?_)
          refine lv_aload_n hx hb dX10_tried_43 rfl (lv_at hl 1 rfl) ?_
          refine lv_iload_n hx hb dX10_tried_44 rfl (lv_at hl 2 rfl) ?_
          obtain ⟨p125, _, hk126, a84, a85, a86, a87, a88, x89, x90, x91, a92, a93, a94, a95, a96, a97, a98, a99, a100, x101, a102, a103, rfl, h104, h105, h106, h107, h108, h109, h110, h111, h112, h113, h114, h115, h116, h117, h118, h119, h120, h121, h122, h123, h124⟩ := op1 hT ht0
          refine cga (rn_V (As := [.int p1]) (rest := []) (b := p0) (x_X10_isStar l D Y Z H.size ws T g q p0 p1 hT ht0) ⟨hx, hb, hml, hown, hg⟩ lk_X10_137 ⟨CPC.blind, va_recv hKN.1 hP (ci := 10) (q0 := p125) rfl hk126, CPC.at hP hKN hD hSZ hS hA⟩ ⟨⟨rfl, rfl⟩, ⟨Nat.le_of_ble_eq_true rfl, Nat.le_of_ble_eq_true rfl⟩, ⟨(Nat.le_of_ble_eq_true rfl), (Nat.le_of_ble_eq_true rfl)⟩⟩ hl.1 rfl (Nat.le_of_ble_eq_true rfl) dX10_tried_45) hP hD hS hA (fun u127 H locs hw128 hP hD hS => ?_)
          obtain ⟨hw130, hw131⟩ : (0 ≤ u127.toInt ∧ u127.toInt ≤ 1) ∧ (u127.toInt = 1 → (0 ≤ p1.toInt ∧ p1.toInt ≤ 11)) := hw128
          refine W.eq (g2 := F0 m 48 ls [.int u127]) rfl ?_
          rcases (show u127.toInt = 1 ∨ u127.toInt = 0 by omega) with c132 | c132
          · obtain rfl : u127 = 1 := i_is c132 (by decide)
            replace hw131 := hw131 (by decide)
            refine W.eq (g2 := F0 m 48 ls [.int 1]) rfl ?_
            refine lv_if_eq (tgt := 73) hx hb dX10_tried_48 (by decide) (fun c133 => ?_) (fun c133 => ?_)
            · exact absurd c133 (by decide)
            refine lv_iload_n hx hb dX10_tried_51 rfl (lv_at hl 3 rfl) ?_
            refine cg0 (rn_S (As := [.int p2]) (rest := []) (x_X10_isWay l D Y Z H.size p2) ⟨hx, hb, hml, hown, hg⟩ lk_X10_140 ⟨CP.blind, CP.at nilP hKN (nilD (A := fun _ => True))⟩ ⟨⟨rfl, rfl⟩, ⟨Nat.le_of_ble_eq_true rfl, Nat.le_of_ble_eq_true rfl⟩, ⟨(Nat.le_of_ble_eq_true rfl), (Nat.le_of_ble_eq_true rfl)⟩⟩ hl.1 rfl (Nat.le_of_ble_eq_true rfl) dX10_tried_52) hP hS hA (fun u134 H locs hw135 hP hS => ?_)
            obtain ⟨hw137, hw138⟩ : ((0 ≤ p2.toInt ∧ p2.toInt ≤ 5 ∧ u134.toInt = 1) ∨ (¬ (0 ≤ p2.toInt ∧ p2.toInt ≤ 5) ∧ u134.toInt = 0)) ∧ (0 ≤ u134.toInt ∧ u134.toInt ≤ 1) := hw135
            refine W.eq (g2 := F0 m 55 ls [.int u134]) rfl ?_
            rcases (show u134.toInt = 1 ∨ u134.toInt = 0 by omega) with c139 | c139
            · obtain rfl : u134 = 1 := i_is c139 (by decide)
              refine W.eq (g2 := F0 m 55 ls [.int 1]) rfl ?_
              refine lv_if_eq (tgt := 73) hx hb dX10_tried_55 (by decide) (fun c140 => ?_) (fun c140 => ?_)
              · exact absurd c140 (by decide)
              refine lv_iload hx hb dX10_tried_58 (lv_at hl 0 rfl) ?_
              refine lv_if_eq (tgt := 73) hx hb dX10_tried_60 (by decide) (fun c141 => ?_) (fun c141 => ?_)
              · exact absurd c141 (by decide)
              refine lv_iload hx hb dX10_tried_63 (lv_at hl 7 rfl) ?_
              refine lv_iconst (v := 0) hx hb dX10_tried_65 (by decide) ?_
              refine lv_iconst (v := 4) hx hb dX10_tried_66 (by decide) ?_
              have zi4 : (4 : Int32).toInt = 4 := by decide
              refine cg0 (rn_S (As := [.int p6, .int 0, .int 4]) (rest := []) (x_X10_isWithin l D Y Z H.size p6 0 4) ⟨hx, hb, hml, hown, hg⟩ lk_X10_100 ⟨CP.blind, CP.at nilP hKN (nilD (A := fun _ => True))⟩ ⟨⟨rfl, rfl⟩, ⟨Nat.le_of_ble_eq_true rfl, Nat.le_of_ble_eq_true rfl⟩, ⟨(Nat.le_of_ble_eq_true rfl), (Nat.le_of_ble_eq_true rfl)⟩⟩ hl.1 rfl (Nat.le_of_ble_eq_true rfl) dX10_tried_67) hP hS hA (fun u142 H locs hw143 hP hS => ?_)
              obtain ⟨hw145, hw146⟩ : (((0 : Int32).toInt ≤ p6.toInt ∧ p6.toInt ≤ (4 : Int32).toInt ∧ u142.toInt = 1) ∨ (¬ ((0 : Int32).toInt ≤ p6.toInt ∧ p6.toInt ≤ (4 : Int32).toInt) ∧ u142.toInt = 0)) ∧ (0 ≤ u142.toInt ∧ u142.toInt ≤ 1) := hw143
              refine W.eq (g2 := F0 m 70 ls [.int u142]) rfl ?_
              rcases (show u142.toInt = 1 ∨ u142.toInt = 0 by omega) with c147 | c147
              · obtain rfl : u142 = 1 := i_is c147 (by decide)
                refine W.eq (g2 := F0 m 70 ls [.int 1]) rfl ?_
                refine lv_if_ne (tgt := 77) hx hb dX10_tried_70 (by decide) (fun c148 => ?_) (fun c148 => ?_)
                rotate_left
                · exact absurd c148 (by decide)
                refine lv_aload_n hx hb dX10_tried_77 rfl (lv_at hl 1 rfl) ?_
                refine va_get (D := D) (ci := 10) (v := .ref a94) (C := RX10) (T := TX10) (N := 20) hx hb hg inGX10 hown hKN.1 hP p125 hk126 rfl 10 (by decide) (hg _ kw_359) (fun _ h9 => h9) rfl dX10_tried_78 ?_
                refine lv_aload_n hx hb dX10_tried_81 rfl (lv_at hl 1 rfl) ?_
                refine va_get (D := D) (ci := 10) (v := .ref a84) (C := RX10) (T := TX10) (N := 20) hx hb hg inGX10 hown hKN.1 hP p125 hk126 rfl 0 (by decide) (hg _ kw_349) (fun _ h9 => h9) rfl dX10_tried_82 ?_
                refine lv_iload_n hx hb dX10_tried_85 rfl (lv_at hl 2 rfl) ?_
                refine lv_iload_n hx hb dX10_tried_86 rfl (lv_at hl 3 rfl) ?_
                obtain ⟨p161, _, hk162, a149, a150, a151, x152, y153, y154, x155, y156, rfl, h157, h158, h159, h160⟩ := op9 hT h116
                refine cga (rn_NV (As := [.ref a84, .int p1, .int p2]) (rest := []) (b := a94) (x_X2_see l D Y Z H.size ws T g q 0 a94 a84 p1 p2 hT h116 h104) ⟨hx, hb, hml, hown, hg⟩ hKN lk_X10_143 ⟨CPC.blind, va_recv hKN.1 hP (ci := 2) (q0 := p161) rfl hk162, CPC.at hP hKN hD hSZ hS hA⟩ ⟨⟨rfl, rfl⟩, ⟨Nat.le_of_ble_eq_true rfl, Nat.le_of_ble_eq_true rfl⟩, ⟨(Nat.le_of_ble_eq_true rfl), (Nat.le_of_ble_eq_true rfl)⟩⟩ hl.1 rfl (Nat.le_of_ble_eq_true rfl) dX10_tried_87) hP hD hS hA (fun u163 H locs hw164 hP hD hS => ?_)
                obtain ⟨hT, ke166, ke167⟩ : TW Y Z T g q u163 ∧ KF 1 T ws u163 ∧ KF 6 T ws u163 := hw164
                have hk168 := ke166 _ _ hk126 (show (T p0).1 = 1 by rw [ht0])
                have ke169 : KF 1 T ws u163 := KF.tr KF.rf ke166
                have ke170 : KF 6 T ws u163 := KF.tr KF.rf ke167
                refine W.eq (g2 := F0 m 90 ls []) rfl ?_
                refine lv_aload_n hx hb dX10_tried_90 rfl (lv_at hl 1 rfl) ?_
                refine va_get (D := D) (ci := 10) (v := .ref a94) (C := RX10) (T := TX10) (N := 20) hx hb hg inGX10 hown hKN.1 hP p125 hk168 rfl 10 (by decide) (hg _ kw_359) (fun _ h9 => h9) rfl dX10_tried_91 ?_
                refine lv_iload_n hx hb dX10_tried_94 rfl (lv_at hl 4 rfl) ?_
                refine lv_iload hx hb dX10_tried_95 (lv_at hl 5 rfl) ?_
                refine lv_iload hx hb dX10_tried_97 (lv_at hl 6 rfl) ?_
                obtain ⟨p183, _, hk184, a171, a172, a173, x174, y175, y176, x177, y178, rfl, h179, h180, h181, h182⟩ := op9 hT h116
                refine cga (rn_NV (As := [.int p3, .int p4, .int p5]) (rest := []) (b := a94) (x_X2_tally l D Y Z H.size u163 T g q a94 p3 p4 p5 hT h116) ⟨hx, hb, hml, hown, hg⟩ hKN lk_X10_239 ⟨CPC.blind, va_recv hKN.1 hP (ci := 2) (q0 := p183) rfl hk184, CPC.at hP hKN hD hSZ hS hA⟩ ⟨⟨rfl, rfl⟩, ⟨Nat.le_of_ble_eq_true rfl, Nat.le_of_ble_eq_true rfl⟩, ⟨(Nat.le_of_ble_eq_true rfl), (Nat.le_of_ble_eq_true rfl)⟩⟩ hl.1 rfl (Nat.le_of_ble_eq_true rfl) dX10_tried_99) hP hD hS hA (fun u185 H locs hw186 hP hD hS => ?_)
                obtain ⟨hT, ke188, ke189⟩ : TW Y Z T g q u185 ∧ KF 1 T u163 u185 ∧ KF 6 T u163 u185 := hw186
                have hk190 := ke188 _ _ hk168 (show (T p0).1 = 1 by rw [ht0])
                have ke191 : KF 1 T ws u185 := KF.tr ke169 ke188
                have ke192 : KF 6 T ws u185 := KF.tr ke170 ke189
                refine W.eq (g2 := F0 m 102 ls []) rfl ?_
                refine lv_iload hx hb dX10_tried_102 (lv_at hl 7 rfl) ?_
                rcases (show 3 < p6.toInt ∨ p6.toInt = 0 ∨ p6.toInt = 1 ∨ p6.toInt = 2 ∨ p6.toInt = 3 by omega) with c193 | c193 | c193 | c193 | c193
                · refine lv_tableOut (tgt := 184) hx hb dX10_tried_104 (Or.inr c193) (by decide) ?_
                  refine lv_aload_n hx hb dX10_tried_184 rfl (lv_at hl 1 rfl) ?_
                  refine va_get (D := D) (ci := 10) (v := .ref a94) (C := RX10) (T := TX10) (N := 20) hx hb hg inGX10 hown hKN.1 hP p125 hk190 rfl 10 (by decide) (hg _ kw_359) (fun _ h9 => h9) rfl dX10_tried_185 ?_
                  obtain ⟨p206, _, hk207, a194, a195, a196, x197, y198, y199, x200, y201, rfl, h202, h203, h204, h205⟩ := op9 hT h116
                  refine cga (rn_NV (As := []) (rest := []) (b := a94) (x_X2_score l D Y Z H.size u185 T g q a94 hT h116) ⟨hx, hb, hml, hown, hg⟩ hKN lk_X10_256 ⟨CPC.blind, va_recv hKN.1 hP (ci := 2) (q0 := p206) rfl hk207, CPC.at hP hKN hD hSZ hS hA⟩ ⟨⟨rfl, rfl⟩, ⟨Nat.le_of_ble_eq_true rfl, Nat.le_of_ble_eq_true rfl⟩, ⟨(Nat.le_of_ble_eq_true rfl), (Nat.le_of_ble_eq_true rfl)⟩⟩ hl.1 rfl (Nat.le_of_ble_eq_true rfl) dX10_tried_188) hP hD hS hA (fun u208 H locs hw209 hP hD hS => ?_)
                  refine W.eq (g2 := F0 m 191 ls [.long u208]) rfl ?_
                  refine W.widen (k := 0) (n := 0) (Nat.le_of_ble_eq_true rfl) (Nat.le_of_ble_eq_true rfl) ?_
                  exact W.lret (v := u208) hx hb hr (fun t ht hW => ⟨⟨(u208, u185), rfl, ⟨hT, ke191, ke192⟩, CB.mk ht hP hD⟩, hS.F ht⟩) hS.2.2 dX10_tried_191
                · refine lv_tableIn (off := 32) (tgt := 136) hx hb dX10_tried_104 (by rw [c193]; decide) (by rw [c193]; decide) (by rw [c193]; rfl) (by decide) ?_
                  refine lv_aload_n hx hb dX10_tried_136 rfl (lv_at hl 1 rfl) ?_
                  refine va_get (D := D) (ci := 10) (v := .ref a94) (C := RX10) (T := TX10) (N := 20) hx hb hg inGX10 hown hKN.1 hP p125 hk190 rfl 10 (by decide) (hg _ kw_359) (fun _ h9 => h9) rfl dX10_tried_137 ?_
                  obtain ⟨p223, _, hk224, a211, a212, a213, x214, y215, y216, x217, y218, rfl, h219, h220, h221, h222⟩ := op9 hT h116
                  refine va_getN (D := D) (ci := 2) (v := .int x217) (C := RX2) (T := TX2) (N := 8) hx hb hg inGX2 hown hKN.1 hP p223 hk224 rfl 6 (by decide) (va_Nw.use rfl (hKN.2.1 _ kn_249 rfl)) (fun _ h9 => h9) rfl dX10_tried_140 ?_
                  have j225 := rgI x217
                  have j226 := Int32.toInt_toInt64 x217
                  refine lv_i2l (v := x217.toInt64) hx hb dX10_tried_143 (rfl) ?_
                  refine W.widen (k := 0) (n := 0) (Nat.le_of_ble_eq_true rfl) (Nat.le_of_ble_eq_true rfl) ?_
                  exact W.lret (v := x217.toInt64) hx hb hr (fun t ht hW => ⟨⟨(x217.toInt64, u185), rfl, ⟨hT, ke191, ke192⟩, CB.mk ht hP hD⟩, hS.F ht⟩) hS.2.2 dX10_tried_144
                · refine lv_tableIn (off := 41) (tgt := 145) hx hb dX10_tried_104 (by rw [c193]; decide) (by rw [c193]; decide) (by rw [c193]; rfl) (by decide) ?_
                  refine lv_aload_n hx hb dX10_tried_145 rfl (lv_at hl 1 rfl) ?_
                  refine va_get (D := D) (ci := 10) (v := .ref a94) (C := RX10) (T := TX10) (N := 20) hx hb hg inGX10 hown hKN.1 hP p125 hk190 rfl 10 (by decide) (hg _ kw_359) (fun _ h9 => h9) rfl dX10_tried_146 ?_
                  obtain ⟨p239, _, hk240, a227, a228, a229, x230, y231, y232, x233, y234, rfl, h235, h236, h237, h238⟩ := op9 hT h116
                  refine va_getN (D := D) (ci := 2) (v := .int x230) (C := RX2) (T := TX2) (N := 8) hx hb hg inGX2 hown hKN.1 hP p239 hk240 rfl 3 (by decide) (va_Nw.use rfl (hKN.2.1 _ kn_243 rfl)) (fun _ h9 => h9) rfl dX10_tried_149 ?_
                  refine lv_aload_n hx hb dX10_tried_152 rfl (lv_at hl 1 rfl) ?_
                  refine va_get (D := D) (ci := 10) (v := .ref a94) (C := RX10) (T := TX10) (N := 20) hx hb hg inGX10 hown hKN.1 hP p125 hk190 rfl 10 (by decide) (hg _ kw_359) (fun _ h9 => h9) rfl dX10_tried_153 ?_
                  refine va_getN (D := D) (ci := 2) (v := .int x233) (C := RX2) (T := TX2) (N := 8) hx hb hg inGX2 hown hKN.1 hP p239 hk240 rfl 6 (by decide) (va_Nw.use rfl (hKN.2.1 _ kn_249 rfl)) (fun _ h9 => h9) rfl dX10_tried_156 ?_
                  refine lv_isub hx hb dX10_tried_159 ?_
                  refine lv_topi (fun v241 ev241 => ?_)
                  have j242 := rgI v241
                  have j243 := Int32.toInt_toInt64 v241
                  refine lv_i2l (v := v241.toInt64) hx hb dX10_tried_160 (rfl) ?_
                  refine W.widen (k := 0) (n := 0) (Nat.le_of_ble_eq_true rfl) (Nat.le_of_ble_eq_true rfl) ?_
                  exact W.lret (v := v241.toInt64) hx hb hr (fun t ht hW => ⟨⟨(v241.toInt64, u185), rfl, ⟨hT, ke191, ke192⟩, CB.mk ht hP hD⟩, hS.F ht⟩) hS.2.2 dX10_tried_161
                · refine lv_tableIn (off := 58) (tgt := 162) hx hb dX10_tried_104 (by rw [c193]; decide) (by rw [c193]; decide) (by rw [c193]; rfl) (by decide) ?_
                  refine lv_aload_n hx hb dX10_tried_162 rfl (lv_at hl 1 rfl) ?_
                  refine va_get (D := D) (ci := 10) (v := .ref a94) (C := RX10) (T := TX10) (N := 20) hx hb hg inGX10 hown hKN.1 hP p125 hk190 rfl 10 (by decide) (hg _ kw_359) (fun _ h9 => h9) rfl dX10_tried_163 ?_
                  obtain ⟨p256, _, hk257, a244, a245, a246, x247, y248, y249, x250, y251, rfl, h252, h253, h254, h255⟩ := op9 hT h116
                  refine cga (rn_NV (As := []) (rest := []) (b := a94) (x_X2_deep l D Y Z H.size u185 T g q a94 hT h116) ⟨hx, hb, hml, hown, hg⟩ hKN lk_X10_249 ⟨CPC.blind, va_recv hKN.1 hP (ci := 2) (q0 := p256) rfl hk257, CPC.at hP hKN hD hSZ hS hA⟩ ⟨⟨rfl, rfl⟩, ⟨Nat.le_of_ble_eq_true rfl, Nat.le_of_ble_eq_true rfl⟩, ⟨(Nat.le_of_ble_eq_true rfl), (Nat.le_of_ble_eq_true rfl)⟩⟩ hl.1 rfl (Nat.le_of_ble_eq_true rfl) dX10_tried_166) hP hD hS hA (fun u258 H locs hw259 hP hD hS => ?_)
                  refine W.eq (g2 := F0 m 169 ls [.long u258]) rfl ?_
                  refine W.widen (k := 0) (n := 0) (Nat.le_of_ble_eq_true rfl) (Nat.le_of_ble_eq_true rfl) ?_
                  exact W.lret (v := u258) hx hb hr (fun t ht hW => ⟨⟨(u258, u185), rfl, ⟨hT, ke191, ke192⟩, CB.mk ht hP hD⟩, hS.F ht⟩) hS.2.2 dX10_tried_169
                · refine lv_tableIn (off := 66) (tgt := 170) hx hb dX10_tried_104 (by rw [c193]; decide) (by rw [c193]; decide) (by rw [c193]; rfl) (by decide) ?_
                  refine lv_aload_n hx hb dX10_tried_170 rfl (lv_at hl 1 rfl) ?_
                  refine va_get (D := D) (ci := 10) (v := .ref a94) (C := RX10) (T := TX10) (N := 20) hx hb hg inGX10 hown hKN.1 hP p125 hk190 rfl 10 (by decide) (hg _ kw_359) (fun _ h9 => h9) rfl dX10_tried_171 ?_
                  refine lv_iload_n hx hb dX10_tried_174 rfl (lv_at hl 4 rfl) ?_
                  refine lv_iload hx hb dX10_tried_175 (lv_at hl 5 rfl) ?_
                  refine lv_iload hx hb dX10_tried_177 (lv_at hl 6 rfl) ?_
                  obtain ⟨p273, _, hk274, a261, a262, a263, x264, y265, y266, x267, y268, rfl, h269, h270, h271, h272⟩ := op9 hT h116
                  refine cga (rn_NV (As := [.int p3, .int p4, .int p5]) (rest := []) (b := a94) (x_X2_dips l D Y Z H.size u185 T g q a94 p3 p4 p5 hT h116 (show (p3.toInt ≤ 200) by omega)) ⟨hx, hb, hml, hown, hg⟩ hKN lk_X10_253 ⟨CPC.blind, va_recv hKN.1 hP (ci := 2) (q0 := p273) rfl hk274, CPC.at hP hKN hD hSZ hS hA⟩ ⟨⟨rfl, rfl⟩, ⟨Nat.le_of_ble_eq_true rfl, Nat.le_of_ble_eq_true rfl⟩, ⟨(Nat.le_of_ble_eq_true rfl), (Nat.le_of_ble_eq_true rfl)⟩⟩ hl.1 rfl (Nat.le_of_ble_eq_true rfl) dX10_tried_179) hP hD hS hA (fun u275 H locs hw276 hP hD hS => ?_)
                  refine W.eq (g2 := F0 m 182 ls [.int u275]) rfl ?_
                  have j278 := rgI u275
                  have j279 := Int32.toInt_toInt64 u275
                  refine lv_i2l (v := u275.toInt64) hx hb dX10_tried_182 (rfl) ?_
                  refine W.widen (k := 0) (n := 0) (Nat.le_of_ble_eq_true rfl) (Nat.le_of_ble_eq_true rfl) ?_
                  exact W.lret (v := u275.toInt64) hx hb hr (fun t ht hW => ⟨⟨(u275.toInt64, u185), rfl, ⟨hT, ke191, ke192⟩, CB.mk ht hP hD⟩, hS.F ht⟩) hS.2.2 dX10_tried_183
              · obtain rfl : u142 = 0 := i_is c147 (by decide)
                refine W.eq (g2 := F0 m 70 ls [.int 0]) rfl ?_
                refine lv_if_ne (tgt := 77) hx hb dX10_tried_70 (by decide) (fun c280 => ?_) (fun c280 => ?_)
                · exact absurd c280 (by decide)
                refine lv_ldc2 (v := (-200000)) hx hb hown (hg _ kw_817) dX10_tried_73 ?_
                refine W.widen (k := 0) (n := 0) (Nat.le_of_ble_eq_true rfl) (Nat.le_of_ble_eq_true rfl) ?_
                have zlm200000 : ((-200000) : Int64).toInt = -200000 := by decide
                exact W.lret (v := (-200000)) hx hb hr (fun t ht hW => ⟨⟨(((-200000)), ws), rfl, ⟨hT, KF.rf, KF.rf⟩, CB.mk ht hP hD⟩, hS.F ht⟩) hS.2.2 dX10_tried_76
            · obtain rfl : u134 = 0 := i_is c139 (by decide)
              refine W.eq (g2 := F0 m 55 ls [.int 0]) rfl ?_
              refine lv_if_eq (tgt := 73) hx hb dX10_tried_55 (by decide) (fun c281 => ?_) (fun c281 => ?_)
              rotate_left
              · exact absurd c281 (by decide)
              refine lv_ldc2 (v := (-200000)) hx hb hown (hg _ kw_817) dX10_tried_73 ?_
              refine W.widen (k := 0) (n := 0) (Nat.le_of_ble_eq_true rfl) (Nat.le_of_ble_eq_true rfl) ?_
              have zlm200000 : ((-200000) : Int64).toInt = -200000 := by decide
              exact W.lret (v := (-200000)) hx hb hr (fun t ht hW => ⟨⟨(((-200000)), ws), rfl, ⟨hT, KF.rf, KF.rf⟩, CB.mk ht hP hD⟩, hS.F ht⟩) hS.2.2 dX10_tried_76
          · obtain rfl : u127 = 0 := i_is c132 (by decide)
            clear hw131
            refine W.eq (g2 := F0 m 48 ls [.int 0]) rfl ?_
            refine lv_if_eq (tgt := 73) hx hb dX10_tried_48 (by decide) (fun c282 => ?_) (fun c282 => ?_)
            rotate_left
            · exact absurd c282 (by decide)
            refine lv_ldc2 (v := (-200000)) hx hb hown (hg _ kw_817) dX10_tried_73 ?_
            refine W.widen (k := 0) (n := 0) (Nat.le_of_ble_eq_true rfl) (Nat.le_of_ble_eq_true rfl) ?_
            have zlm200000 : ((-200000) : Int64).toInt = -200000 := by decide
            exact W.lret (v := (-200000)) hx hb hr (fun t ht hW => ⟨⟨(((-200000)), ws), rfl, ⟨hT, KF.rf, KF.rf⟩, CB.mk ht hP hD⟩, hS.F ht⟩) hS.2.2 dX10_tried_76
        · obtain rfl : u77 = 0 := i_is c82 (by decide)
          refine W.eq (g2 := F0 m 33 ls [.int 0]) rfl ?_
          refine lv_if_eq (tgt := 40) hx hb dX10_tried_33 (by decide) (fun c283 => ?_) (fun c283 => ?_)
          rotate_left
          · exact absurd c283 (by decide)
          refine lv_iconst (v := 0) hx hb dX10_tried_40 (by decide) ?_
          refine lv_istore (lv' := [(7, .int 0), (0, .ref p0), (1, .int p1), (2, .int p2), (3, .int p3), (4, .int p4), (5, .int p5), (6, .int p6)]) hx hb dX10_tried_41 hl (by decide) rfl (fun ls hl => ?_)
          refine lv_aload_n hx hb dX10_tried_43 rfl (lv_at hl 1 rfl) ?_
          refine lv_iload_n hx hb dX10_tried_44 rfl (lv_at hl 2 rfl) ?_
          obtain ⟨p325, _, hk326, a284, a285, a286, a287, a288, x289, x290, x291, a292, a293, a294, a295, a296, a297, a298, a299, a300, x301, a302, a303, rfl, h304, h305, h306, h307, h308, h309, h310, h311, h312, h313, h314, h315, h316, h317, h318, h319, h320, h321, h322, h323, h324⟩ := op1 hT ht0
          refine cga (rn_V (As := [.int p1]) (rest := []) (b := p0) (x_X10_isStar l D Y Z H.size ws T g q p0 p1 hT ht0) ⟨hx, hb, hml, hown, hg⟩ lk_X10_137 ⟨CPC.blind, va_recv hKN.1 hP (ci := 10) (q0 := p325) rfl hk326, CPC.at hP hKN hD hSZ hS hA⟩ ⟨⟨rfl, rfl⟩, ⟨Nat.le_of_ble_eq_true rfl, Nat.le_of_ble_eq_true rfl⟩, ⟨(Nat.le_of_ble_eq_true rfl), (Nat.le_of_ble_eq_true rfl)⟩⟩ hl.1 rfl (Nat.le_of_ble_eq_true rfl) dX10_tried_45) hP hD hS hA (fun u327 H locs hw328 hP hD hS => ?_)
          obtain ⟨hw330, hw331⟩ : (0 ≤ u327.toInt ∧ u327.toInt ≤ 1) ∧ (u327.toInt = 1 → (0 ≤ p1.toInt ∧ p1.toInt ≤ 11)) := hw328
          refine W.eq (g2 := F0 m 48 ls [.int u327]) rfl ?_
          rcases (show u327.toInt = 1 ∨ u327.toInt = 0 by omega) with c332 | c332
          · obtain rfl : u327 = 1 := i_is c332 (by decide)
            replace hw331 := hw331 (by decide)
            refine W.eq (g2 := F0 m 48 ls [.int 1]) rfl ?_
            refine lv_if_eq (tgt := 73) hx hb dX10_tried_48 (by decide) (fun c333 => ?_) (fun c333 => ?_)
            · exact absurd c333 (by decide)
            refine lv_iload_n hx hb dX10_tried_51 rfl (lv_at hl 3 rfl) ?_
            refine cg0 (rn_S (As := [.int p2]) (rest := []) (x_X10_isWay l D Y Z H.size p2) ⟨hx, hb, hml, hown, hg⟩ lk_X10_140 ⟨CP.blind, CP.at nilP hKN (nilD (A := fun _ => True))⟩ ⟨⟨rfl, rfl⟩, ⟨Nat.le_of_ble_eq_true rfl, Nat.le_of_ble_eq_true rfl⟩, ⟨(Nat.le_of_ble_eq_true rfl), (Nat.le_of_ble_eq_true rfl)⟩⟩ hl.1 rfl (Nat.le_of_ble_eq_true rfl) dX10_tried_52) hP hS hA (fun u334 H locs hw335 hP hS => ?_)
            obtain ⟨hw337, hw338⟩ : ((0 ≤ p2.toInt ∧ p2.toInt ≤ 5 ∧ u334.toInt = 1) ∨ (¬ (0 ≤ p2.toInt ∧ p2.toInt ≤ 5) ∧ u334.toInt = 0)) ∧ (0 ≤ u334.toInt ∧ u334.toInt ≤ 1) := hw335
            refine W.eq (g2 := F0 m 55 ls [.int u334]) rfl ?_
            rcases (show u334.toInt = 1 ∨ u334.toInt = 0 by omega) with c339 | c339
            · obtain rfl : u334 = 1 := i_is c339 (by decide)
              refine W.eq (g2 := F0 m 55 ls [.int 1]) rfl ?_
              refine lv_if_eq (tgt := 73) hx hb dX10_tried_55 (by decide) (fun c340 => ?_) (fun c340 => ?_)
              · exact absurd c340 (by decide)
              refine lv_iload hx hb dX10_tried_58 (lv_at hl 0 rfl) ?_
              refine lv_if_eq (tgt := 73) hx hb dX10_tried_60 (by decide) (fun c341 => ?_) (fun c341 => ?_)
              rotate_left
              · exact absurd c341 (by decide)
              refine lv_ldc2 (v := (-200000)) hx hb hown (hg _ kw_817) dX10_tried_73 ?_
              refine W.widen (k := 0) (n := 0) (Nat.le_of_ble_eq_true rfl) (Nat.le_of_ble_eq_true rfl) ?_
              have zlm200000 : ((-200000) : Int64).toInt = -200000 := by decide
              exact W.lret (v := (-200000)) hx hb hr (fun t ht hW => ⟨⟨(((-200000)), ws), rfl, ⟨hT, KF.rf, KF.rf⟩, CB.mk ht hP hD⟩, hS.F ht⟩) hS.2.2 dX10_tried_76
            · obtain rfl : u334 = 0 := i_is c339 (by decide)
              refine W.eq (g2 := F0 m 55 ls [.int 0]) rfl ?_
              refine lv_if_eq (tgt := 73) hx hb dX10_tried_55 (by decide) (fun c342 => ?_) (fun c342 => ?_)
              rotate_left
              · exact absurd c342 (by decide)
              refine lv_ldc2 (v := (-200000)) hx hb hown (hg _ kw_817) dX10_tried_73 ?_
              refine W.widen (k := 0) (n := 0) (Nat.le_of_ble_eq_true rfl) (Nat.le_of_ble_eq_true rfl) ?_
              have zlm200000 : ((-200000) : Int64).toInt = -200000 := by decide
              exact W.lret (v := (-200000)) hx hb hr (fun t ht hW => ⟨⟨(((-200000)), ws), rfl, ⟨hT, KF.rf, KF.rf⟩, CB.mk ht hP hD⟩, hS.F ht⟩) hS.2.2 dX10_tried_76
          · obtain rfl : u327 = 0 := i_is c332 (by decide)
            clear hw331
            refine W.eq (g2 := F0 m 48 ls [.int 0]) rfl ?_
            refine lv_if_eq (tgt := 73) hx hb dX10_tried_48 (by decide) (fun c343 => ?_) (fun c343 => ?_)
            rotate_left
            · exact absurd c343 (by decide)
            refine lv_ldc2 (v := (-200000)) hx hb hown (hg _ kw_817) dX10_tried_73 ?_
            refine W.widen (k := 0) (n := 0) (Nat.le_of_ble_eq_true rfl) (Nat.le_of_ble_eq_true rfl) ?_
            have zlm200000 : ((-200000) : Int64).toInt = -200000 := by decide
            exact W.lret (v := (-200000)) hx hb hr (fun t ht hW => ⟨⟨(((-200000)), ws), rfl, ⟨hT, KF.rf, KF.rf⟩, CB.mk ht hP hD⟩, hS.F ht⟩) hS.2.2 dX10_tried_76
    · obtain rfl : u8 = 0 := i_is c13 (by decide)
      have zi0 : (0 : Int32).toInt = 0 := by decide
      refine W.eq (g2 := F0 m 15 ls [.int 0]) rfl ?_
      refine lv_if_eq (tgt := 40) hx hb dX10_tried_15 (by decide) (fun c344 => ?_) (fun c344 => ?_)
      rotate_left
      · exact absurd c344 (by decide)
      refine lv_iconst (v := 0) hx hb dX10_tried_40 (by decide) ?_
      refine lv_istore (lv' := [(7, .int 0), (0, .ref p0), (1, .int p1), (2, .int p2), (3, .int p3), (4, .int p4), (5, .int p5), (6, .int p6)]) hx hb dX10_tried_41 hl (by decide) rfl (fun ls hl => ?_)
      refine lv_aload_n hx hb dX10_tried_43 rfl (lv_at hl 1 rfl) ?_
      refine lv_iload_n hx hb dX10_tried_44 rfl (lv_at hl 2 rfl) ?_
      obtain ⟨p386, _, hk387, a345, a346, a347, a348, a349, x350, x351, x352, a353, a354, a355, a356, a357, a358, a359, a360, a361, x362, a363, a364, rfl, h365, h366, h367, h368, h369, h370, h371, h372, h373, h374, h375, h376, h377, h378, h379, h380, h381, h382, h383, h384, h385⟩ := op1 hT ht0
      refine cga (rn_V (As := [.int p1]) (rest := []) (b := p0) (x_X10_isStar l D Y Z H.size ws T g q p0 p1 hT ht0) ⟨hx, hb, hml, hown, hg⟩ lk_X10_137 ⟨CPC.blind, va_recv hKN.1 hP (ci := 10) (q0 := p386) rfl hk387, CPC.at hP hKN hD hSZ hS hA⟩ ⟨⟨rfl, rfl⟩, ⟨Nat.le_of_ble_eq_true rfl, Nat.le_of_ble_eq_true rfl⟩, ⟨(Nat.le_of_ble_eq_true rfl), (Nat.le_of_ble_eq_true rfl)⟩⟩ hl.1 rfl (Nat.le_of_ble_eq_true rfl) dX10_tried_45) hP hD hS hA (fun u388 H locs hw389 hP hD hS => ?_)
      obtain ⟨hw391, hw392⟩ : (0 ≤ u388.toInt ∧ u388.toInt ≤ 1) ∧ (u388.toInt = 1 → (0 ≤ p1.toInt ∧ p1.toInt ≤ 11)) := hw389
      refine W.eq (g2 := F0 m 48 ls [.int u388]) rfl ?_
      rcases (show u388.toInt = 1 ∨ u388.toInt = 0 by omega) with c393 | c393
      · obtain rfl : u388 = 1 := i_is c393 (by decide)
        replace hw392 := hw392 (by decide)
        refine W.eq (g2 := F0 m 48 ls [.int 1]) rfl ?_
        refine lv_if_eq (tgt := 73) hx hb dX10_tried_48 (by decide) (fun c394 => ?_) (fun c394 => ?_)
        · exact absurd c394 (by decide)
        refine lv_iload_n hx hb dX10_tried_51 rfl (lv_at hl 3 rfl) ?_
        refine cg0 (rn_S (As := [.int p2]) (rest := []) (x_X10_isWay l D Y Z H.size p2) ⟨hx, hb, hml, hown, hg⟩ lk_X10_140 ⟨CP.blind, CP.at nilP hKN (nilD (A := fun _ => True))⟩ ⟨⟨rfl, rfl⟩, ⟨Nat.le_of_ble_eq_true rfl, Nat.le_of_ble_eq_true rfl⟩, ⟨(Nat.le_of_ble_eq_true rfl), (Nat.le_of_ble_eq_true rfl)⟩⟩ hl.1 rfl (Nat.le_of_ble_eq_true rfl) dX10_tried_52) hP hS hA (fun u395 H locs hw396 hP hS => ?_)
        obtain ⟨hw398, hw399⟩ : ((0 ≤ p2.toInt ∧ p2.toInt ≤ 5 ∧ u395.toInt = 1) ∨ (¬ (0 ≤ p2.toInt ∧ p2.toInt ≤ 5) ∧ u395.toInt = 0)) ∧ (0 ≤ u395.toInt ∧ u395.toInt ≤ 1) := hw396
        refine W.eq (g2 := F0 m 55 ls [.int u395]) rfl ?_
        rcases (show u395.toInt = 1 ∨ u395.toInt = 0 by omega) with c400 | c400
        · obtain rfl : u395 = 1 := i_is c400 (by decide)
          refine W.eq (g2 := F0 m 55 ls [.int 1]) rfl ?_
          refine lv_if_eq (tgt := 73) hx hb dX10_tried_55 (by decide) (fun c401 => ?_) (fun c401 => ?_)
          · exact absurd c401 (by decide)
          refine lv_iload hx hb dX10_tried_58 (lv_at hl 0 rfl) ?_
          refine lv_if_eq (tgt := 73) hx hb dX10_tried_60 (by decide) (fun c402 => ?_) (fun c402 => ?_)
          rotate_left
          · exact absurd c402 (by decide)
          refine lv_ldc2 (v := (-200000)) hx hb hown (hg _ kw_817) dX10_tried_73 ?_
          refine W.widen (k := 0) (n := 0) (Nat.le_of_ble_eq_true rfl) (Nat.le_of_ble_eq_true rfl) ?_
          have zlm200000 : ((-200000) : Int64).toInt = -200000 := by decide
          exact W.lret (v := (-200000)) hx hb hr (fun t ht hW => ⟨⟨(((-200000)), ws), rfl, ⟨hT, KF.rf, KF.rf⟩, CB.mk ht hP hD⟩, hS.F ht⟩) hS.2.2 dX10_tried_76
        · obtain rfl : u395 = 0 := i_is c400 (by decide)
          refine W.eq (g2 := F0 m 55 ls [.int 0]) rfl ?_
          refine lv_if_eq (tgt := 73) hx hb dX10_tried_55 (by decide) (fun c403 => ?_) (fun c403 => ?_)
          rotate_left
          · exact absurd c403 (by decide)
          refine lv_ldc2 (v := (-200000)) hx hb hown (hg _ kw_817) dX10_tried_73 ?_
          refine W.widen (k := 0) (n := 0) (Nat.le_of_ble_eq_true rfl) (Nat.le_of_ble_eq_true rfl) ?_
          have zlm200000 : ((-200000) : Int64).toInt = -200000 := by decide
          exact W.lret (v := (-200000)) hx hb hr (fun t ht hW => ⟨⟨(((-200000)), ws), rfl, ⟨hT, KF.rf, KF.rf⟩, CB.mk ht hP hD⟩, hS.F ht⟩) hS.2.2 dX10_tried_76
      · obtain rfl : u388 = 0 := i_is c393 (by decide)
        clear hw392
        refine W.eq (g2 := F0 m 48 ls [.int 0]) rfl ?_
        refine lv_if_eq (tgt := 73) hx hb dX10_tried_48 (by decide) (fun c404 => ?_) (fun c404 => ?_)
        rotate_left
        · exact absurd c404 (by decide)
        refine lv_ldc2 (v := (-200000)) hx hb hown (hg _ kw_817) dX10_tried_73 ?_
        refine W.widen (k := 0) (n := 0) (Nat.le_of_ble_eq_true rfl) (Nat.le_of_ble_eq_true rfl) ?_
        have zlm200000 : ((-200000) : Int64).toInt = -200000 := by decide
        exact W.lret (v := (-200000)) hx hb hr (fun t ht hW => ⟨⟨(((-200000)), ws), rfl, ⟨hT, KF.rf, KF.rf⟩, CB.mk ht hP hD⟩, hS.F ht⟩) hS.2.2 dX10_tried_76
  · obtain rfl : u1 = 0 := i_is c6 (by decide)
    have zi0 : (0 : Int32).toInt = 0 := by decide
    refine W.eq (g2 := F0 m 4 ls [.int 0]) rfl ?_
    refine lv_if_eq (tgt := 40) hx hb dX10_tried_4 (by decide) (fun c405 => ?_) (fun c405 => ?_)
    rotate_left
    · exact absurd c405 (by decide)
    refine lv_iconst (v := 0) hx hb dX10_tried_40 (by decide) ?_
    refine lv_istore (lv' := [(7, .int 0), (0, .ref p0), (1, .int p1), (2, .int p2), (3, .int p3), (4, .int p4), (5, .int p5), (6, .int p6)]) hx hb dX10_tried_41 hl (by decide) rfl (fun ls hl => ?_)
    refine lv_aload_n hx hb dX10_tried_43 rfl (lv_at hl 1 rfl) ?_
    refine lv_iload_n hx hb dX10_tried_44 rfl (lv_at hl 2 rfl) ?_
    obtain ⟨p447, _, hk448, a406, a407, a408, a409, a410, x411, x412, x413, a414, a415, a416, a417, a418, a419, a420, a421, a422, x423, a424, a425, rfl, h426, h427, h428, h429, h430, h431, h432, h433, h434, h435, h436, h437, h438, h439, h440, h441, h442, h443, h444, h445, h446⟩ := op1 hT ht0
    refine cga (rn_V (As := [.int p1]) (rest := []) (b := p0) (x_X10_isStar l D Y Z H.size ws T g q p0 p1 hT ht0) ⟨hx, hb, hml, hown, hg⟩ lk_X10_137 ⟨CPC.blind, va_recv hKN.1 hP (ci := 10) (q0 := p447) rfl hk448, CPC.at hP hKN hD hSZ hS hA⟩ ⟨⟨rfl, rfl⟩, ⟨Nat.le_of_ble_eq_true rfl, Nat.le_of_ble_eq_true rfl⟩, ⟨(Nat.le_of_ble_eq_true rfl), (Nat.le_of_ble_eq_true rfl)⟩⟩ hl.1 rfl (Nat.le_of_ble_eq_true rfl) dX10_tried_45) hP hD hS hA (fun u449 H locs hw450 hP hD hS => ?_)
    obtain ⟨hw452, hw453⟩ : (0 ≤ u449.toInt ∧ u449.toInt ≤ 1) ∧ (u449.toInt = 1 → (0 ≤ p1.toInt ∧ p1.toInt ≤ 11)) := hw450
    refine W.eq (g2 := F0 m 48 ls [.int u449]) rfl ?_
    rcases (show u449.toInt = 1 ∨ u449.toInt = 0 by omega) with c454 | c454
    · obtain rfl : u449 = 1 := i_is c454 (by decide)
      have zi1 : (1 : Int32).toInt = 1 := by decide
      replace hw453 := hw453 (by decide)
      refine W.eq (g2 := F0 m 48 ls [.int 1]) rfl ?_
      refine lv_if_eq (tgt := 73) hx hb dX10_tried_48 (by decide) (fun c455 => ?_) (fun c455 => ?_)
      · exact absurd c455 (by decide)
      refine lv_iload_n hx hb dX10_tried_51 rfl (lv_at hl 3 rfl) ?_
      refine cg0 (rn_S (As := [.int p2]) (rest := []) (x_X10_isWay l D Y Z H.size p2) ⟨hx, hb, hml, hown, hg⟩ lk_X10_140 ⟨CP.blind, CP.at nilP hKN (nilD (A := fun _ => True))⟩ ⟨⟨rfl, rfl⟩, ⟨Nat.le_of_ble_eq_true rfl, Nat.le_of_ble_eq_true rfl⟩, ⟨(Nat.le_of_ble_eq_true rfl), (Nat.le_of_ble_eq_true rfl)⟩⟩ hl.1 rfl (Nat.le_of_ble_eq_true rfl) dX10_tried_52) hP hS hA (fun u456 H locs hw457 hP hS => ?_)
      obtain ⟨hw459, hw460⟩ : ((0 ≤ p2.toInt ∧ p2.toInt ≤ 5 ∧ u456.toInt = 1) ∨ (¬ (0 ≤ p2.toInt ∧ p2.toInt ≤ 5) ∧ u456.toInt = 0)) ∧ (0 ≤ u456.toInt ∧ u456.toInt ≤ 1) := hw457
      refine W.eq (g2 := F0 m 55 ls [.int u456]) rfl ?_
      rcases (show u456.toInt = 1 ∨ u456.toInt = 0 by omega) with c461 | c461
      · obtain rfl : u456 = 1 := i_is c461 (by decide)
        refine W.eq (g2 := F0 m 55 ls [.int 1]) rfl ?_
        refine lv_if_eq (tgt := 73) hx hb dX10_tried_55 (by decide) (fun c462 => ?_) (fun c462 => ?_)
        · exact absurd c462 (by decide)
        refine lv_iload hx hb dX10_tried_58 (lv_at hl 0 rfl) ?_
        refine lv_if_eq (tgt := 73) hx hb dX10_tried_60 (by decide) (fun c463 => ?_) (fun c463 => ?_)
        rotate_left
        · exact absurd c463 (by decide)
        refine lv_ldc2 (v := (-200000)) hx hb hown (hg _ kw_817) dX10_tried_73 ?_
        refine W.widen (k := 0) (n := 0) (Nat.le_of_ble_eq_true rfl) (Nat.le_of_ble_eq_true rfl) ?_
        have zlm200000 : ((-200000) : Int64).toInt = -200000 := by decide
        exact W.lret (v := (-200000)) hx hb hr (fun t ht hW => ⟨⟨(((-200000)), ws), rfl, ⟨hT, KF.rf, KF.rf⟩, CB.mk ht hP hD⟩, hS.F ht⟩) hS.2.2 dX10_tried_76
      · obtain rfl : u456 = 0 := i_is c461 (by decide)
        refine W.eq (g2 := F0 m 55 ls [.int 0]) rfl ?_
        refine lv_if_eq (tgt := 73) hx hb dX10_tried_55 (by decide) (fun c464 => ?_) (fun c464 => ?_)
        rotate_left
        · exact absurd c464 (by decide)
        refine lv_ldc2 (v := (-200000)) hx hb hown (hg _ kw_817) dX10_tried_73 ?_
        refine W.widen (k := 0) (n := 0) (Nat.le_of_ble_eq_true rfl) (Nat.le_of_ble_eq_true rfl) ?_
        have zlm200000 : ((-200000) : Int64).toInt = -200000 := by decide
        exact W.lret (v := (-200000)) hx hb hr (fun t ht hW => ⟨⟨(((-200000)), ws), rfl, ⟨hT, KF.rf, KF.rf⟩, CB.mk ht hP hD⟩, hS.F ht⟩) hS.2.2 dX10_tried_76
    · obtain rfl : u449 = 0 := i_is c454 (by decide)
      clear hw453
      refine W.eq (g2 := F0 m 48 ls [.int 0]) rfl ?_
      refine lv_if_eq (tgt := 73) hx hb dX10_tried_48 (by decide) (fun c465 => ?_) (fun c465 => ?_)
      rotate_left
      · exact absurd c465 (by decide)
      refine lv_ldc2 (v := (-200000)) hx hb hown (hg _ kw_817) dX10_tried_73 ?_
      refine W.widen (k := 0) (n := 0) (Nat.le_of_ble_eq_true rfl) (Nat.le_of_ble_eq_true rfl) ?_
      have zlm200000 : ((-200000) : Int64).toInt = -200000 := by decide
      exact W.lret (v := (-200000)) hx hb hr (fun t ht hW => ⟨⟨(((-200000)), ws), rfl, ⟨hT, KF.rf, KF.rf⟩, CB.mk ht hP hD⟩, hS.F ht⟩) hS.2.2 dX10_tried_76
set_option maxHeartbeats 4000000 in
set_option maxRecDepth 100000 in
theorem x_X10_found (l : Launch) (D : va_G) (Y : Nat → ClassId) (Z : Nat → Nat) (sz : Nat) (ws : va_W) (T : RT) (g : GN) (q : GQ)  (p0 : Nat) (p1 : Int32) (p2 : Int32) (p3 : Int32) (p4 : Int32) (hT : TW Y Z T g q ws) (ht0 : T p0 = (1, 0, 0)) : Met l yX10_found (.code yX10_found cX10_found 6 (some .long) :: GW) ({ frames := 5, cells := 1, slots := 7, locals := 133 }) (va_Pc [.ref p0, .int p1, .int p2, .int p3, .int p4] (CPC D Y Z ws sz)) (QG (S := Int64 × va_W × RT) (fun u => some (.long u.1)) (fun u => TLe T u.2.2 ∧ TW Y Z u.2.2 g q u.2.1 ∧ KF 1 T ws u.2.1) (fun u => CB D u.2.1 (va_A ws sz)) (va_A ws sz)) 1 7 (va_A ws sz) := by
  refine Met.ofW (cc := cX10_found) (maxL := 6) (ret := (some .long)) (by decide) rfl ?_
  intro p e s m args below meth c s₁ B hml hv
  obtain ⟨rfl, ⟨hsz, hP, hKN, hD0⟩, hSZ⟩ := hv
  have hx := B.exec
  have hb := B.bytes
  have hr := B.returns
  have hts := atoms_spec (ws := .code yX10_found cX10_found 6 (some .long) :: GW) B.pre
  have hg : ∀ w ∈ GW, w.before _ s = true := fun w h => hts w (List.mem_cons_of_mem _ h)
  have hown : s.vm.findClass RX10 = some m.cls := findClass_of_methodNamed B.named
  have hlocks := B.notSynchronized
  subst hsz
  have hD := hD0.self (sz := s.heap.size)
  generalize hAe : va_A ws s.heap.size = A at hD hSZ ⊢
  have hA : ∀ q : Nat, s.heap.size ≤ q → A q := fun q h => by rw [← hAe]; exact Or.inr h
  clear hAe hD0 hts B
  have hl := lv_entry ([.ref p0, .int p1, .int p2, .int p3, .int p4]) (n := 6) (Nat.le_of_ble_eq_true rfl)
  rw [lg_entry_eq]
  generalize (lg_sl ([.ref p0, .int p1, .int p2, .int p3, .int p4]) ++ List.replicate (6 - (lg_sl ([.ref p0, .int p1, .int p2, .int p3, .int p4])).length) Slot.unset).toArray = ls at hl ⊢
  have hl : lv_has ls 6 [(0, .ref p0), (1, .int p1), (2, .int p2), (3, .int p3), (4, .int p4)] := hl
  refine w_start (A0 := A) hP (fun H locs hP hS => ?_)
  refine lv_aload_n hx hb dX10_found_0 rfl (lv_at hl 0 rfl) ?_
  refine lv_iload_n hx hb dX10_found_1 rfl (lv_at hl 1 rfl) ?_
  obtain ⟨p42, _, hk43, a1, a2, a3, a4, a5, x6, x7, x8, a9, a10, a11, a12, a13, a14, a15, a16, a17, x18, a19, a20, rfl, h21, h22, h23, h24, h25, h26, h27, h28, h29, h30, h31, h32, h33, h34, h35, h36, h37, h38, h39, h40, h41⟩ := op1 hT ht0
  refine cga (rn_V (As := [.int p1]) (rest := []) (b := p0) (x_X10_searchAt l D Y Z H.size ws T g q p0 p1 hT ht0) ⟨hx, hb, hml, hown, hg⟩ lk_X10_259 ⟨CPC.blind, va_recv hKN.1 hP (ci := 10) (q0 := p42) rfl hk43, CPC.at hP hKN hD hSZ hS hA⟩ ⟨⟨rfl, rfl⟩, ⟨Nat.le_of_ble_eq_true rfl, Nat.le_of_ble_eq_true rfl⟩, ⟨(Nat.le_of_ble_eq_true rfl), (Nat.le_of_ble_eq_true rfl)⟩⟩ hl.1 rfl (Nat.le_of_ble_eq_true rfl) dX10_found_2) hP hD hS hA (fun u44 H locs hw45 hP hD hS => ?_)
  obtain ⟨ht47, hw48⟩ : (∀ b, u44 = some b → T b = (5, 0, 0)) ∧ (∀ b, u44 = some b → 0 ≤ p1.toInt ∧ p1.toInt ≤ 5) := hw45
  refine W.eq (g2 := F0 m 5 ls [va_rf u44]) rfl ?_
  rcases u44 with _ | b49
  · skip
    refine W.eq (g2 := F0 m 5 ls [.null]) rfl ?_
    refine lv_astoreN (lv' := [(5, .null), (0, .ref p0), (1, .int p1), (2, .int p2), (3, .int p3), (4, .int p4)]) hx hb dX10_found_5 hl (by decide) rfl (fun ls hl => ?_)
    refine lv_aloadN hx hb dX10_found_7 (lv_at hl 0 rfl) ?_
    refine lv_ifnullN (tgt := 38) hx hb dX10_found_9 (by decide) ?_
    refine lv_ldc2 (v := (-2)) hx hb hown (hg _ kw_852) dX10_found_38 ?_
    refine W.widen (k := 1) (n := 7) (Nat.le_of_ble_eq_true rfl) (Nat.le_of_ble_eq_true rfl) ?_
    have zlm2 : ((-2) : Int64).toInt = -2 := by decide
    exact W.lret (v := (-2)) hx hb hr (fun t ht hW => ⟨⟨(((-2)), ws, T), rfl, ⟨TLe.rf, hT, KF.rf⟩, CB.mk ht hP hD⟩, hS.F ht⟩) hS.2.2 dX10_found_41
  · skip
    have ht50 := ht47 b49 rfl
    have h51 := hw48 b49 rfl
    refine W.eq (g2 := F0 m 5 ls [.ref b49]) rfl ?_
    refine lv_astore (lv' := [(5, .ref b49), (0, .ref p0), (1, .int p1), (2, .int p2), (3, .int p3), (4, .int p4)]) hx hb dX10_found_5 hl (by decide) rfl (fun ls hl => ?_)
    refine lv_aload hx hb dX10_found_7 (lv_at hl 0 rfl) ?_
    refine lv_ifnull hx hb dX10_found_9 ?_
    refine lv_aload_n hx hb dX10_found_12 rfl (lv_at hl 1 rfl) ?_
    refine lv_iload_n hx hb dX10_found_13 rfl (lv_at hl 3 rfl) ?_
    refine cga (rn_V (As := [.int p2]) (rest := []) (b := p0) (x_X10_isStar l D Y Z H.size ws T g q p0 p2 hT ht0) ⟨hx, hb, hml, hown, hg⟩ lk_X10_137 ⟨CPC.blind, va_recv hKN.1 hP (ci := 10) (q0 := p42) rfl hk43, CPC.at hP hKN hD hSZ hS hA⟩ ⟨⟨rfl, rfl⟩, ⟨Nat.le_of_ble_eq_true rfl, Nat.le_of_ble_eq_true rfl⟩, ⟨(Nat.le_of_ble_eq_true rfl), (Nat.le_of_ble_eq_true rfl)⟩⟩ hl.1 rfl (Nat.le_of_ble_eq_true rfl) dX10_found_14) hP hD hS hA (fun u52 H locs hw53 hP hD hS => ?_)
    obtain ⟨hw55, hw56⟩ : (0 ≤ u52.toInt ∧ u52.toInt ≤ 1) ∧ (u52.toInt = 1 → (0 ≤ p2.toInt ∧ p2.toInt ≤ 11)) := hw53
    refine W.eq (g2 := F0 m 17 ls [.int u52]) rfl ?_
    rcases (show u52.toInt = 1 ∨ u52.toInt = 0 by omega) with c57 | c57
    · obtain rfl : u52 = 1 := i_is c57 (by decide)
      have zi1 : (1 : Int32).toInt = 1 := by decide
      replace hw56 := hw56 (by decide)
      refine W.eq (g2 := F0 m 17 ls [.int 1]) rfl ?_
      refine lv_if_eq (tgt := 38) hx hb dX10_found_17 (by decide) (fun c58 => ?_) (fun c58 => ?_)
      · exact absurd c58 (by decide)
      refine lv_iload_n hx hb dX10_found_20 rfl (lv_at hl 4 rfl) ?_
      refine cg0 (rn_S (As := [.int p3]) (rest := []) (x_X10_isWay l D Y Z H.size p3) ⟨hx, hb, hml, hown, hg⟩ lk_X10_140 ⟨CP.blind, CP.at nilP hKN (nilD (A := fun _ => True))⟩ ⟨⟨rfl, rfl⟩, ⟨Nat.le_of_ble_eq_true rfl, Nat.le_of_ble_eq_true rfl⟩, ⟨(Nat.le_of_ble_eq_true rfl), (Nat.le_of_ble_eq_true rfl)⟩⟩ hl.1 rfl (Nat.le_of_ble_eq_true rfl) dX10_found_21) hP hS hA (fun u59 H locs hw60 hP hS => ?_)
      obtain ⟨hw62, hw63⟩ : ((0 ≤ p3.toInt ∧ p3.toInt ≤ 5 ∧ u59.toInt = 1) ∨ (¬ (0 ≤ p3.toInt ∧ p3.toInt ≤ 5) ∧ u59.toInt = 0)) ∧ (0 ≤ u59.toInt ∧ u59.toInt ≤ 1) := hw60
      refine W.eq (g2 := F0 m 24 ls [.int u59]) rfl ?_
      rcases (show u59.toInt = 1 ∨ u59.toInt = 0 by omega) with c64 | c64
      · obtain rfl : u59 = 1 := i_is c64 (by decide)
        refine W.eq (g2 := F0 m 24 ls [.int 1]) rfl ?_
        refine lv_if_eq (tgt := 38) hx hb dX10_found_24 (by decide) (fun c65 => ?_) (fun c65 => ?_)
        · exact absurd c65 (by decide)
        refine lv_iload hx hb dX10_found_27 (lv_at hl 5 rfl) ?_
        refine lv_iconst (v := 0) hx hb dX10_found_29 (by decide) ?_
        refine lv_bipush (v := 6) hx hb dX10_found_30 (by decide) ?_
        have zi0 : (0 : Int32).toInt = 0 := by decide
        have zi6 : (6 : Int32).toInt = 6 := by decide
        refine cg0 (rn_S (As := [.int p4, .int 0, .int 6]) (rest := []) (x_X10_isWithin l D Y Z H.size p4 0 6) ⟨hx, hb, hml, hown, hg⟩ lk_X10_100 ⟨CP.blind, CP.at nilP hKN (nilD (A := fun _ => True))⟩ ⟨⟨rfl, rfl⟩, ⟨Nat.le_of_ble_eq_true rfl, Nat.le_of_ble_eq_true rfl⟩, ⟨(Nat.le_of_ble_eq_true rfl), (Nat.le_of_ble_eq_true rfl)⟩⟩ hl.1 rfl (Nat.le_of_ble_eq_true rfl) dX10_found_32) hP hS hA (fun u66 H locs hw67 hP hS => ?_)
        obtain ⟨hw69, hw70⟩ : (((0 : Int32).toInt ≤ p4.toInt ∧ p4.toInt ≤ (6 : Int32).toInt ∧ u66.toInt = 1) ∨ (¬ ((0 : Int32).toInt ≤ p4.toInt ∧ p4.toInt ≤ (6 : Int32).toInt) ∧ u66.toInt = 0)) ∧ (0 ≤ u66.toInt ∧ u66.toInt ≤ 1) := hw67
        refine W.eq (g2 := F0 m 35 ls [.int u66]) rfl ?_
        rcases (show u66.toInt = 1 ∨ u66.toInt = 0 by omega) with c71 | c71
        · obtain rfl : u66 = 1 := i_is c71 (by decide)
          refine W.eq (g2 := F0 m 35 ls [.int 1]) rfl ?_
          refine lv_if_ne (tgt := 42) hx hb dX10_found_35 (by decide) (fun c72 => ?_) (fun c72 => ?_)
          rotate_left
          · exact absurd c72 (by decide)
          refine lv_aload_n hx hb dX10_found_42 rfl (lv_at hl 1 rfl) ?_
          refine lv_iload_n hx hb dX10_found_43 rfl (lv_at hl 2 rfl) ?_
          refine lv_iload_n hx hb dX10_found_44 rfl (lv_at hl 3 rfl) ?_
          refine lv_iload_n hx hb dX10_found_45 rfl (lv_at hl 4 rfl) ?_
          refine cga (rn_V (As := [.int p1, .int p2, .int p3]) (rest := []) (b := p0) (x_X10_findingOf l D Y Z H.size ws T g q p0 p1 p2 p3 hT ht0) ⟨hx, hb, hml, hown, hg⟩ lk_X10_264 ⟨CPC.blind, va_recv hKN.1 hP (ci := 10) (q0 := p42) rfl hk43, CPC.at hP hKN hD hSZ hS hA⟩ ⟨⟨rfl, rfl⟩, ⟨Nat.le_of_ble_eq_true rfl, Nat.le_of_ble_eq_true rfl⟩, ⟨(Nat.le_of_ble_eq_true rfl), (Nat.le_of_ble_eq_true rfl)⟩⟩ hl.1 rfl (Nat.le_of_ble_eq_true rfl) dX10_found_46) hP hD hS hA (fun u73 H locs hw74 hP hD hS => ?_)
          refine W.widen (k := 1) (n := 7) (Nat.le_of_ble_eq_true rfl) (Nat.le_of_ble_eq_true rfl) ?_
          obtain ⟨b75, w76, T77⟩ := u73
          obtain ⟨le78, hT, ke79, ht80⟩ : TLe T T77 ∧ TW Y Z T77 g q w76 ∧ KF 1 T ws w76 ∧ T77 b75 = (6, 0, 0) := hw74
          have hk81 := ke79 _ _ hk43 (show (T p0).1 = 1 by rw [ht0])
          have ke82 : KF 1 T ws w76 := KF.tr KF.rf ke79
          refine W.eq (g2 := F0 m 49 ls [.ref b75]) rfl ?_
          refine lv_iload hx hb dX10_found_49 (lv_at hl 5 rfl) ?_
          refine lv_aload hx hb dX10_found_51 (lv_at hl 0 rfl) ?_
          obtain ⟨p104, _, hk105, x83, x84, x85, x86, x87, x88, x89, x90, a91, a92, a93, a94, a95, x96, rfl, h97, h98, h99, h100, h101, h102, h103⟩ := op5 hT (le78.up ht50)
          refine va_getN (D := D) (ci := 8) (v := .int x89) (C := RX8) (T := TX8) (N := 14) hx hb hg inGX8 hown hKN.1 hP p104 hk105 rfl 6 (by decide) (va_Nw.use rfl (hKN.2.1 _ kn_135 rfl)) (fun _ h9 => h9) rfl dX10_found_53 ?_
          obtain ⟨p114, _, hk115, x106, x107, x108, x109, x110, y111, y112, rfl, h113⟩ := op6 hT ht80
          refine cga (rn_NV (As := [.int p4, .int x89]) (rest := []) (b := b75) (x_X1_part l D Y Z H.size w76 T77 g q b75 p4 x89 hT ht80) ⟨hx, hb, hml, hown, hg⟩ hKN lk_X10_271 ⟨CPC.blind, va_recv hKN.1 hP (ci := 1) (q0 := p114) rfl hk115, CPC.at hP hKN hD hSZ hS hA⟩ ⟨⟨rfl, rfl⟩, ⟨Nat.le_of_ble_eq_true rfl, Nat.le_of_ble_eq_true rfl⟩, ⟨(Nat.le_of_ble_eq_true rfl), (Nat.le_of_ble_eq_true rfl)⟩⟩ hl.1 rfl (Nat.le_of_ble_eq_true rfl) dX10_found_56) hP hD hS hA (fun u116 H locs hw117 hP hD hS => ?_)
          refine W.eq (g2 := F0 m 59 ls [.long u116]) rfl ?_
          refine W.widen (k := 1) (n := 7) (Nat.le_of_ble_eq_true rfl) (Nat.le_of_ble_eq_true rfl) ?_
          exact W.lret (v := u116) hx hb hr (fun t ht hW => ⟨⟨(u116, w76, T77), rfl, ⟨le78, hT, ke82⟩, CB.mk ht hP hD⟩, hS.F ht⟩) hS.2.2 dX10_found_59
        · obtain rfl : u66 = 0 := i_is c71 (by decide)
          refine W.eq (g2 := F0 m 35 ls [.int 0]) rfl ?_
          refine lv_if_ne (tgt := 42) hx hb dX10_found_35 (by decide) (fun c119 => ?_) (fun c119 => ?_)
          · exact absurd c119 (by decide)
          refine lv_ldc2 (v := (-2)) hx hb hown (hg _ kw_852) dX10_found_38 ?_
          refine W.widen (k := 1) (n := 7) (Nat.le_of_ble_eq_true rfl) (Nat.le_of_ble_eq_true rfl) ?_
          have zlm2 : ((-2) : Int64).toInt = -2 := by decide
          exact W.lret (v := (-2)) hx hb hr (fun t ht hW => ⟨⟨(((-2)), ws, T), rfl, ⟨TLe.rf, hT, KF.rf⟩, CB.mk ht hP hD⟩, hS.F ht⟩) hS.2.2 dX10_found_41
      · obtain rfl : u59 = 0 := i_is c64 (by decide)
        have zi0 : (0 : Int32).toInt = 0 := by decide
        refine W.eq (g2 := F0 m 24 ls [.int 0]) rfl ?_
        refine lv_if_eq (tgt := 38) hx hb dX10_found_24 (by decide) (fun c120 => ?_) (fun c120 => ?_)
        rotate_left
        · exact absurd c120 (by decide)
        refine lv_ldc2 (v := (-2)) hx hb hown (hg _ kw_852) dX10_found_38 ?_
        refine W.widen (k := 1) (n := 7) (Nat.le_of_ble_eq_true rfl) (Nat.le_of_ble_eq_true rfl) ?_
        have zlm2 : ((-2) : Int64).toInt = -2 := by decide
        exact W.lret (v := (-2)) hx hb hr (fun t ht hW => ⟨⟨(((-2)), ws, T), rfl, ⟨TLe.rf, hT, KF.rf⟩, CB.mk ht hP hD⟩, hS.F ht⟩) hS.2.2 dX10_found_41
    · obtain rfl : u52 = 0 := i_is c57 (by decide)
      have zi0 : (0 : Int32).toInt = 0 := by decide
      clear hw56
      refine W.eq (g2 := F0 m 17 ls [.int 0]) rfl ?_
      refine lv_if_eq (tgt := 38) hx hb dX10_found_17 (by decide) (fun c121 => ?_) (fun c121 => ?_)
      rotate_left
      · exact absurd c121 (by decide)
      refine lv_ldc2 (v := (-2)) hx hb hown (hg _ kw_852) dX10_found_38 ?_
      refine W.widen (k := 1) (n := 7) (Nat.le_of_ble_eq_true rfl) (Nat.le_of_ble_eq_true rfl) ?_
      have zlm2 : ((-2) : Int64).toInt = -2 := by decide
      exact W.lret (v := (-2)) hx hb hr (fun t ht hW => ⟨⟨(((-2)), ws, T), rfl, ⟨TLe.rf, hT, KF.rf⟩, CB.mk ht hP hD⟩, hS.F ht⟩) hS.2.2 dX10_found_41
set_option maxHeartbeats 4000000 in
set_option maxRecDepth 100000 in
theorem x_X10_spread (l : Launch) (D : va_G) (Y : Nat → ClassId) (Z : Nat → Nat) (sz : Nat) (ws : va_W) (T : RT) (g : GN) (q : GQ)  (p0 : Nat) (p1 : Int32) (hT : TW Y Z T g q ws) (ht0 : T p0 = (1, 0, 0)) : Met l yX10_spread (.code yX10_spread cX10_spread 2 (some .long) :: GW) ({ frames := 4, cells := 0, slots := 0, locals := 101 }) (va_Pc [.ref p0, .int p1] (CPC D Y Z ws sz)) (QG (S := Int64 × va_W) (fun u => some (.long u.1)) (fun u => TW Y Z T g q u.2 ∧ KF 1 T ws u.2 ∧ KF 6 T ws u.2) (fun u => CB D u.2 (va_A ws sz)) (va_A ws sz)) 0 0 (va_A ws sz) := by
  refine Met.ofW (cc := cX10_spread) (maxL := 2) (ret := (some .long)) (by decide) rfl ?_
  intro p e s m args below meth c s₁ B hml hv
  obtain ⟨rfl, ⟨hsz, hP, hKN, hD0⟩, hSZ⟩ := hv
  have hx := B.exec
  have hb := B.bytes
  have hr := B.returns
  have hts := atoms_spec (ws := .code yX10_spread cX10_spread 2 (some .long) :: GW) B.pre
  have hg : ∀ w ∈ GW, w.before _ s = true := fun w h => hts w (List.mem_cons_of_mem _ h)
  have hown : s.vm.findClass RX10 = some m.cls := findClass_of_methodNamed B.named
  have hlocks := B.notSynchronized
  subst hsz
  have hD := hD0.self (sz := s.heap.size)
  generalize hAe : va_A ws s.heap.size = A at hD hSZ ⊢
  have hA : ∀ q : Nat, s.heap.size ≤ q → A q := fun q h => by rw [← hAe]; exact Or.inr h
  clear hAe hD0 hts B
  have hl := lv_entry ([.ref p0, .int p1]) (n := 2) (Nat.le_of_ble_eq_true rfl)
  rw [lg_entry_eq]
  generalize (lg_sl ([.ref p0, .int p1]) ++ List.replicate (2 - (lg_sl ([.ref p0, .int p1])).length) Slot.unset).toArray = ls at hl ⊢
  have hl : lv_has ls 2 [(0, .ref p0), (1, .int p1)] := hl
  refine w_start (A0 := A) hP (fun H locs hP hS => ?_)
  refine lv_aload_n hx hb dX10_spread_0 rfl (lv_at hl 0 rfl) ?_
  refine lv_iload_n hx hb dX10_spread_1 rfl (lv_at hl 1 rfl) ?_
  obtain ⟨p42, _, hk43, a1, a2, a3, a4, a5, x6, x7, x8, a9, a10, a11, a12, a13, a14, a15, a16, a17, x18, a19, a20, rfl, h21, h22, h23, h24, h25, h26, h27, h28, h29, h30, h31, h32, h33, h34, h35, h36, h37, h38, h39, h40, h41⟩ := op1 hT ht0
  refine cga (rn_V (As := [.int p1]) (rest := []) (b := p0) (x_X10_isStar l D Y Z H.size ws T g q p0 p1 hT ht0) ⟨hx, hb, hml, hown, hg⟩ lk_X10_137 ⟨CPC.blind, va_recv hKN.1 hP (ci := 10) (q0 := p42) rfl hk43, CPC.at hP hKN hD hSZ hS hA⟩ ⟨⟨rfl, rfl⟩, ⟨Nat.le_of_ble_eq_true rfl, Nat.le_of_ble_eq_true rfl⟩, ⟨(Nat.le_of_ble_eq_true rfl), (Nat.le_of_ble_eq_true rfl)⟩⟩ hl.1 rfl (Nat.le_of_ble_eq_true rfl) dX10_spread_2) hP hD hS hA (fun u44 H locs hw45 hP hD hS => ?_)
  obtain ⟨hw47, hw48⟩ : (0 ≤ u44.toInt ∧ u44.toInt ≤ 1) ∧ (u44.toInt = 1 → (0 ≤ p1.toInt ∧ p1.toInt ≤ 11)) := hw45
  refine W.eq (g2 := F0 m 5 ls [.int u44]) rfl ?_
  rcases (show u44.toInt = 1 ∨ u44.toInt = 0 by omega) with c49 | c49
  · obtain rfl : u44 = 1 := i_is c49 (by decide)
    have zi1 : (1 : Int32).toInt = 1 := by decide
    replace hw48 := hw48 (by decide)
    refine W.eq (g2 := F0 m 5 ls [.int 1]) rfl ?_
    refine lv_if_ne (tgt := 12) hx hb dX10_spread_5 (by decide) (fun c50 => ?_) (fun c50 => ?_)
    rotate_left
    · exact absurd c50 (by decide)
    refine lv_aload_n hx hb dX10_spread_12 rfl (lv_at hl 0 rfl) ?_
    refine va_get (D := D) (ci := 10) (v := .ref a11) (C := RX10) (T := TX10) (N := 20) hx hb hg inGX10 hown hKN.1 hP p42 hk43 rfl 10 (by decide) (hg _ kw_359) (fun _ h9 => h9) rfl dX10_spread_13 ?_
    refine lv_aload_n hx hb dX10_spread_16 rfl (lv_at hl 0 rfl) ?_
    refine va_get (D := D) (ci := 10) (v := .ref a1) (C := RX10) (T := TX10) (N := 20) hx hb hg inGX10 hown hKN.1 hP p42 hk43 rfl 0 (by decide) (hg _ kw_349) (fun _ h9 => h9) rfl dX10_spread_17 ?_
    refine lv_iload_n hx hb dX10_spread_20 rfl (lv_at hl 1 rfl) ?_
    refine lv_iconst (v := 0) hx hb dX10_spread_21 (by decide) ?_
    have zi0 : (0 : Int32).toInt = 0 := by decide
    obtain ⟨p63, _, hk64, a51, a52, a53, x54, y55, y56, x57, y58, rfl, h59, h60, h61, h62⟩ := op9 hT h33
    refine cga (rn_NV (As := [.ref a1, .int p1, .int 0]) (rest := []) (b := a11) (x_X2_see l D Y Z H.size ws T g q 0 a11 a1 p1 0 hT h33 h21) ⟨hx, hb, hml, hown, hg⟩ hKN lk_X10_143 ⟨CPC.blind, va_recv hKN.1 hP (ci := 2) (q0 := p63) rfl hk64, CPC.at hP hKN hD hSZ hS hA⟩ ⟨⟨rfl, rfl⟩, ⟨Nat.le_of_ble_eq_true rfl, Nat.le_of_ble_eq_true rfl⟩, ⟨(Nat.le_of_ble_eq_true rfl), (Nat.le_of_ble_eq_true rfl)⟩⟩ hl.1 rfl (Nat.le_of_ble_eq_true rfl) dX10_spread_22) hP hD hS hA (fun u65 H locs hw66 hP hD hS => ?_)
    obtain ⟨hT, ke68, ke69⟩ : TW Y Z T g q u65 ∧ KF 1 T ws u65 ∧ KF 6 T ws u65 := hw66
    have hk70 := ke68 _ _ hk43 (show (T p0).1 = 1 by rw [ht0])
    have ke71 : KF 1 T ws u65 := KF.tr KF.rf ke68
    have ke72 : KF 6 T ws u65 := KF.tr KF.rf ke69
    refine W.eq (g2 := F0 m 25 ls []) rfl ?_
    refine lv_aload_n hx hb dX10_spread_25 rfl (lv_at hl 0 rfl) ?_
    refine va_get (D := D) (ci := 10) (v := .ref a11) (C := RX10) (T := TX10) (N := 20) hx hb hg inGX10 hown hKN.1 hP p42 hk70 rfl 10 (by decide) (hg _ kw_359) (fun _ h9 => h9) rfl dX10_spread_26 ?_
    obtain ⟨p85, _, hk86, a73, a74, a75, x76, y77, y78, x79, y80, rfl, h81, h82, h83, h84⟩ := op9 hT h33
    refine va_getN (D := D) (ci := 2) (v := .int x76) (C := RX2) (T := TX2) (N := 8) hx hb hg inGX2 hown hKN.1 hP p85 hk86 rfl 3 (by decide) (va_Nw.use rfl (hKN.2.1 _ kn_243 rfl)) (fun _ h9 => h9) rfl dX10_spread_29 ?_
    refine lv_if_ne (tgt := 41) hx hb dX10_spread_32 (by decide) (fun c87 => ?_) (fun c87 => ?_)
    · skip
      have c87 := i_ne (Eq.refl x76.toInt) (show (0 : Int32).toInt = 0 by decide) c87
      refine lv_aload_n hx hb dX10_spread_41 rfl (lv_at hl 0 rfl) ?_
      refine va_get (D := D) (ci := 10) (v := .ref a11) (C := RX10) (T := TX10) (N := 20) hx hb hg inGX10 hown hKN.1 hP p42 hk70 rfl 10 (by decide) (hg _ kw_359) (fun _ h9 => h9) rfl dX10_spread_42 ?_
      refine va_getN (D := D) (ci := 2) (v := .long y78) (C := RX2) (T := TX2) (N := 8) hx hb hg inGX2 hown hKN.1 hP p85 hk86 rfl 5 (by decide) (va_Nw.use rfl (hKN.2.1 _ kn_246 rfl)) (fun _ h9 => h9) rfl dX10_spread_45 ?_
      refine W.widen (k := 0) (n := 0) (Nat.le_of_ble_eq_true rfl) (Nat.le_of_ble_eq_true rfl) ?_
      exact W.lret (v := y78) hx hb hr (fun t ht hW => ⟨⟨(y78, u65), rfl, ⟨hT, ke71, ke72⟩, CB.mk ht hP hD⟩, hS.F ht⟩) hS.2.2 dX10_spread_48
    · skip
      have c87 := i_eq (Eq.refl x76.toInt) (show (0 : Int32).toInt = 0 by decide) c87
      refine lv_ldc2 (v := (-1)) hx hb hown (hg _ kw_899) dX10_spread_35 ?_
      refine lv_goto (tgt := 48) hx hb dX10_spread_38 (by decide) ?_
      refine W.widen (k := 0) (n := 0) (Nat.le_of_ble_eq_true rfl) (Nat.le_of_ble_eq_true rfl) ?_
      have zlm1 : ((-1) : Int64).toInt = -1 := by decide
      exact W.lret (v := (-1)) hx hb hr (fun t ht hW => ⟨⟨(((-1)), u65), rfl, ⟨hT, ke71, ke72⟩, CB.mk ht hP hD⟩, hS.F ht⟩) hS.2.2 dX10_spread_48
  · obtain rfl : u44 = 0 := i_is c49 (by decide)
    have zi0 : (0 : Int32).toInt = 0 := by decide
    clear hw48
    refine W.eq (g2 := F0 m 5 ls [.int 0]) rfl ?_
    refine lv_if_ne (tgt := 12) hx hb dX10_spread_5 (by decide) (fun c88 => ?_) (fun c88 => ?_)
    · exact absurd c88 (by decide)
    refine lv_ldc2 (v := (-1)) hx hb hown (hg _ kw_899) dX10_spread_8 ?_
    refine W.widen (k := 0) (n := 0) (Nat.le_of_ble_eq_true rfl) (Nat.le_of_ble_eq_true rfl) ?_
    have zlm1 : ((-1) : Int64).toInt = -1 := by decide
    exact W.lret (v := (-1)) hx hb hr (fun t ht hW => ⟨⟨(((-1)), ws), rfl, ⟨hT, KF.rf, KF.rf⟩, CB.mk ht hP hD⟩, hS.F ht⟩) hS.2.2 dX10_spread_11
set_option maxHeartbeats 4000000 in
set_option maxRecDepth 100000 in
theorem x_X10_catches (l : Launch) (D : va_G) (Y : Nat → ClassId) (Z : Nat → Nat) (sz : Nat) (ws : va_W) (T : RT) (g : GN) (q : GQ)  (p0 : Nat) (p1 : Int32) (p2 : Int32) (hT : TW Y Z T g q ws) (ht0 : T p0 = (1, 0, 0)) : Met l yX10_catches (.code yX10_catches cX10_catches 5 (some .int) :: GW) ({ frames := 5, cells := 1, slots := 7, locals := 132 }) (va_Pc [.ref p0, .int p1, .int p2] (CPC D Y Z ws sz)) (QG (S := Int32 × va_W × RT) (fun u => some (.int u.1)) (fun u => TLe T u.2.2 ∧ TW Y Z u.2.2 g q u.2.1 ∧ KF 1 T ws u.2.1) (fun u => CB D u.2.1 (va_A ws sz)) (va_A ws sz)) 1 7 (va_A ws sz) := by
  refine Met.ofW (cc := cX10_catches) (maxL := 5) (ret := (some .int)) (by decide) rfl ?_
  intro p e s m args below meth c s₁ B hml hv
  obtain ⟨rfl, ⟨hsz, hP, hKN, hD0⟩, hSZ⟩ := hv
  have hx := B.exec
  have hb := B.bytes
  have hr := B.returns
  have hts := atoms_spec (ws := .code yX10_catches cX10_catches 5 (some .int) :: GW) B.pre
  have hg : ∀ w ∈ GW, w.before _ s = true := fun w h => hts w (List.mem_cons_of_mem _ h)
  have hown : s.vm.findClass RX10 = some m.cls := findClass_of_methodNamed B.named
  have hlocks := B.notSynchronized
  subst hsz
  have hD := hD0.self (sz := s.heap.size)
  generalize hAe : va_A ws s.heap.size = A at hD hSZ ⊢
  have hA : ∀ q : Nat, s.heap.size ≤ q → A q := fun q h => by rw [← hAe]; exact Or.inr h
  clear hAe hD0 hts B
  have hl := lv_entry ([.ref p0, .int p1, .int p2]) (n := 5) (Nat.le_of_ble_eq_true rfl)
  rw [lg_entry_eq]
  generalize (lg_sl ([.ref p0, .int p1, .int p2]) ++ List.replicate (5 - (lg_sl ([.ref p0, .int p1, .int p2])).length) Slot.unset).toArray = ls at hl ⊢
  have hl : lv_has ls 5 [(0, .ref p0), (1, .int p1), (2, .int p2)] := hl
  refine w_start (A0 := A) hP (fun H locs hP hS => ?_)
  refine lv_aload_n hx hb dX10_catches_0 rfl (lv_at hl 0 rfl) ?_
  refine lv_iload_n hx hb dX10_catches_1 rfl (lv_at hl 1 rfl) ?_
  obtain ⟨p42, _, hk43, a1, a2, a3, a4, a5, x6, x7, x8, a9, a10, a11, a12, a13, a14, a15, a16, a17, x18, a19, a20, rfl, h21, h22, h23, h24, h25, h26, h27, h28, h29, h30, h31, h32, h33, h34, h35, h36, h37, h38, h39, h40, h41⟩ := op1 hT ht0
  refine cga (rn_V (As := [.int p1]) (rest := []) (b := p0) (x_X10_searchAt l D Y Z H.size ws T g q p0 p1 hT ht0) ⟨hx, hb, hml, hown, hg⟩ lk_X10_259 ⟨CPC.blind, va_recv hKN.1 hP (ci := 10) (q0 := p42) rfl hk43, CPC.at hP hKN hD hSZ hS hA⟩ ⟨⟨rfl, rfl⟩, ⟨Nat.le_of_ble_eq_true rfl, Nat.le_of_ble_eq_true rfl⟩, ⟨(Nat.le_of_ble_eq_true rfl), (Nat.le_of_ble_eq_true rfl)⟩⟩ hl.1 rfl (Nat.le_of_ble_eq_true rfl) dX10_catches_2) hP hD hS hA (fun u44 H locs hw45 hP hD hS => ?_)
  obtain ⟨ht47, hw48⟩ : (∀ b, u44 = some b → T b = (5, 0, 0)) ∧ (∀ b, u44 = some b → 0 ≤ p1.toInt ∧ p1.toInt ≤ 5) := hw45
  refine W.eq (g2 := F0 m 5 ls [va_rf u44]) rfl ?_
  rcases u44 with _ | b49
  · skip
    refine W.eq (g2 := F0 m 5 ls [.null]) rfl ?_
    refine lv_astore_nN (lv' := [(3, .null), (0, .ref p0), (1, .int p1), (2, .int p2)]) hx hb dX10_catches_5 rfl hl (by decide) rfl (fun ls hl => ?_)
    refine lv_aload_n hx hb dX10_catches_6 rfl (lv_at hl 1 rfl) ?_
    refine va_get (D := D) (ci := 10) (v := .ref a1) (C := RX10) (T := TX10) (N := 20) hx hb hg inGX10 hown hKN.1 hP p42 hk43 rfl 0 (by decide) (hg _ kw_349) (fun _ h9 => h9) rfl dX10_catches_7 ?_
    refine lv_iload_n hx hb dX10_catches_10 rfl (lv_at hl 3 rfl) ?_
    obtain ⟨p84, _, hk85, x50, a51, x52, a53, x54, a55, a56, x57, a58, a59, x60, a61, x62, rfl, h63, h64, h65, h66, h67, h68, h69, h70, h71, h72, h73, h74, h75, h76, h77, h78, h79, h80, h81, h82, h83⟩ := op2 hT h21
    refine cga (rn_NV (As := [.int p2]) (rest := []) (b := a1) (x_X6_worldAt l D Y Z H.size ws T g q 0 a1 p2 hT h21) ⟨hx, hb, hml, hown, hg⟩ hKN lk_X10_280 ⟨CPC.blind, va_recv hKN.1 hP (ci := 6) (q0 := p84) rfl hk85, CPC.at hP hKN hD hSZ hS hA⟩ ⟨⟨rfl, rfl⟩, ⟨Nat.le_of_ble_eq_true rfl, Nat.le_of_ble_eq_true rfl⟩, ⟨(Nat.le_of_ble_eq_true rfl), (Nat.le_of_ble_eq_true rfl)⟩⟩ hl.1 rfl (Nat.le_of_ble_eq_true rfl) dX10_catches_11) hP hD hS hA (fun u86 H locs hw87 hP hD hS => ?_)
    obtain ⟨ht89, hw90⟩ : (∀ b, u86 = some b → T b = (4, 0, 0)) ∧ (∀ b, u86 = some b → 0 ≤ p2.toInt ∧ p2.toInt ≤ 39) := hw87
    refine W.eq (g2 := F0 m 14 ls [va_rf u86]) rfl ?_
    rcases u86 with _ | b91
    · skip
      refine W.eq (g2 := F0 m 14 ls [.null]) rfl ?_
      refine lv_astoreN (lv' := [(4, .null), (3, .null), (0, .ref p0), (1, .int p1), (2, .int p2)]) hx hb dX10_catches_14 hl (by decide) rfl (fun ls hl => ?_)
      refine lv_aload_nN hx hb dX10_catches_16 rfl (lv_at hl 1 rfl) ?_
      refine lv_ifnullN (tgt := 33) hx hb dX10_catches_17 (by decide) ?_
      refine lv_iconst (v := (-1)) hx hb dX10_catches_33 (by decide) ?_
      refine W.widen (k := 1) (n := 7) (Nat.le_of_ble_eq_true rfl) (Nat.le_of_ble_eq_true rfl) ?_
      have zim1 : ((-1) : Int32).toInt = -1 := by decide
      exact W.iret (v := (-1)) hx hb hr (fun t ht hW => ⟨⟨(((-1)), ws, T), rfl, ⟨TLe.rf, hT, KF.rf⟩, CB.mk ht hP hD⟩, hS.F ht⟩) hS.2.2 dX10_catches_34
    · skip
      have ht92 := ht89 b91 rfl
      have h93 := hw90 b91 rfl
      refine W.eq (g2 := F0 m 14 ls [.ref b91]) rfl ?_
      refine lv_astore (lv' := [(4, .ref b91), (3, .null), (0, .ref p0), (1, .int p1), (2, .int p2)]) hx hb dX10_catches_14 hl (by decide) rfl (fun ls hl => ?_)
      refine lv_aload_nN hx hb dX10_catches_16 rfl (lv_at hl 1 rfl) ?_
      refine lv_ifnullN (tgt := 33) hx hb dX10_catches_17 (by decide) ?_
      refine lv_iconst (v := (-1)) hx hb dX10_catches_33 (by decide) ?_
      refine W.widen (k := 1) (n := 7) (Nat.le_of_ble_eq_true rfl) (Nat.le_of_ble_eq_true rfl) ?_
      have zim1 : ((-1) : Int32).toInt = -1 := by decide
      exact W.iret (v := (-1)) hx hb hr (fun t ht hW => ⟨⟨(((-1)), ws, T), rfl, ⟨TLe.rf, hT, KF.rf⟩, CB.mk ht hP hD⟩, hS.F ht⟩) hS.2.2 dX10_catches_34
  · skip
    have ht94 := ht47 b49 rfl
    have h95 := hw48 b49 rfl
    refine W.eq (g2 := F0 m 5 ls [.ref b49]) rfl ?_
    refine lv_astore_n (lv' := [(3, .ref b49), (0, .ref p0), (1, .int p1), (2, .int p2)]) hx hb dX10_catches_5 rfl hl (by decide) rfl (fun ls hl => ?_)
    refine lv_aload_n hx hb dX10_catches_6 rfl (lv_at hl 1 rfl) ?_
    refine va_get (D := D) (ci := 10) (v := .ref a1) (C := RX10) (T := TX10) (N := 20) hx hb hg inGX10 hown hKN.1 hP p42 hk43 rfl 0 (by decide) (hg _ kw_349) (fun _ h9 => h9) rfl dX10_catches_7 ?_
    refine lv_iload_n hx hb dX10_catches_10 rfl (lv_at hl 3 rfl) ?_
    obtain ⟨p130, _, hk131, x96, a97, x98, a99, x100, a101, a102, x103, a104, a105, x106, a107, x108, rfl, h109, h110, h111, h112, h113, h114, h115, h116, h117, h118, h119, h120, h121, h122, h123, h124, h125, h126, h127, h128, h129⟩ := op2 hT h21
    refine cga (rn_NV (As := [.int p2]) (rest := []) (b := a1) (x_X6_worldAt l D Y Z H.size ws T g q 0 a1 p2 hT h21) ⟨hx, hb, hml, hown, hg⟩ hKN lk_X10_280 ⟨CPC.blind, va_recv hKN.1 hP (ci := 6) (q0 := p130) rfl hk131, CPC.at hP hKN hD hSZ hS hA⟩ ⟨⟨rfl, rfl⟩, ⟨Nat.le_of_ble_eq_true rfl, Nat.le_of_ble_eq_true rfl⟩, ⟨(Nat.le_of_ble_eq_true rfl), (Nat.le_of_ble_eq_true rfl)⟩⟩ hl.1 rfl (Nat.le_of_ble_eq_true rfl) dX10_catches_11) hP hD hS hA (fun u132 H locs hw133 hP hD hS => ?_)
    obtain ⟨ht135, hw136⟩ : (∀ b, u132 = some b → T b = (4, 0, 0)) ∧ (∀ b, u132 = some b → 0 ≤ p2.toInt ∧ p2.toInt ≤ 39) := hw133
    refine W.eq (g2 := F0 m 14 ls [va_rf u132]) rfl ?_
    rcases u132 with _ | b137
    · skip
      refine W.eq (g2 := F0 m 14 ls [.null]) rfl ?_
      refine lv_astoreN (lv' := [(4, .null), (3, .ref b49), (0, .ref p0), (1, .int p1), (2, .int p2)]) hx hb dX10_catches_14 hl (by decide) rfl (fun ls hl => ?_)
      refine lv_aload_n hx hb dX10_catches_16 rfl (lv_at hl 1 rfl) ?_
      refine lv_ifnull hx hb dX10_catches_17 ?_
      refine lv_aloadN hx hb dX10_catches_20 (lv_at hl 0 rfl) ?_
      refine lv_ifnullN (tgt := 33) hx hb dX10_catches_22 (by decide) ?_
      refine lv_iconst (v := (-1)) hx hb dX10_catches_33 (by decide) ?_
      refine W.widen (k := 1) (n := 7) (Nat.le_of_ble_eq_true rfl) (Nat.le_of_ble_eq_true rfl) ?_
      have zim1 : ((-1) : Int32).toInt = -1 := by decide
      exact W.iret (v := (-1)) hx hb hr (fun t ht hW => ⟨⟨(((-1)), ws, T), rfl, ⟨TLe.rf, hT, KF.rf⟩, CB.mk ht hP hD⟩, hS.F ht⟩) hS.2.2 dX10_catches_34
    · skip
      have ht138 := ht135 b137 rfl
      have h139 := hw136 b137 rfl
      refine W.eq (g2 := F0 m 14 ls [.ref b137]) rfl ?_
      refine lv_astore (lv' := [(4, .ref b137), (3, .ref b49), (0, .ref p0), (1, .int p1), (2, .int p2)]) hx hb dX10_catches_14 hl (by decide) rfl (fun ls hl => ?_)
      refine lv_aload_n hx hb dX10_catches_16 rfl (lv_at hl 1 rfl) ?_
      refine lv_ifnull hx hb dX10_catches_17 ?_
      refine lv_aload hx hb dX10_catches_20 (lv_at hl 0 rfl) ?_
      refine lv_ifnull hx hb dX10_catches_22 ?_
      refine lv_aload hx hb dX10_catches_25 (lv_at hl 0 rfl) ?_
      obtain ⟨p147, _, hk148, x140, x141, x142, x143, x144, x145, rfl, h146⟩ := op4 hT ht138
      refine va_getN (D := D) (ci := 9) (v := .int x145) (C := RX9) (T := TX9) (N := 6) hx hb hg inGX9 hown hKN.1 hP p147 hk148 rfl 5 (by decide) (va_Nw.use rfl (hKN.2.1 _ kn_581 rfl)) (fun _ h9 => h9) rfl dX10_catches_27 ?_
      refine lv_if_ne (tgt := 35) hx hb dX10_catches_30 (by decide) (fun c149 => ?_) (fun c149 => ?_)
      · skip
        have c149 := i_ne (Eq.refl x145.toInt) (show (0 : Int32).toInt = 0 by decide) c149
        refine lv_aload_n hx hb dX10_catches_35 rfl (lv_at hl 2 rfl) ?_
        refine lv_iload_n hx hb dX10_catches_36 rfl (lv_at hl 3 rfl) ?_
        refine lv_iload_n hx hb dX10_catches_37 rfl (lv_at hl 4 rfl) ?_
        refine cga (rn_V (As := [.int p1, .int p2]) (rest := []) (b := p0) (x_X10_findingWith l D Y Z H.size ws T g q p0 p1 p2 hT ht0) ⟨hx, hb, hml, hown, hg⟩ lk_X10_288 ⟨CPC.blind, va_recv hKN.1 hP (ci := 10) (q0 := p42) rfl hk43, CPC.at hP hKN hD hSZ hS hA⟩ ⟨⟨rfl, rfl⟩, ⟨Nat.le_of_ble_eq_true rfl, Nat.le_of_ble_eq_true rfl⟩, ⟨(Nat.le_of_ble_eq_true rfl), (Nat.le_of_ble_eq_true rfl)⟩⟩ hl.1 rfl (Nat.le_of_ble_eq_true rfl) dX10_catches_38) hP hD hS hA (fun u150 H locs hw151 hP hD hS => ?_)
        refine W.widen (k := 1) (n := 7) (Nat.le_of_ble_eq_true rfl) (Nat.le_of_ble_eq_true rfl) ?_
        obtain ⟨b152, w153, T154⟩ := u150
        obtain ⟨le155, hT, ke156, ht157⟩ : TLe T T154 ∧ TW Y Z T154 g q w153 ∧ KF 1 T ws w153 ∧ T154 b152 = (6, 0, 0) := hw151
        have hk158 := ke156 _ _ hk43 (show (T p0).1 = 1 by rw [ht0])
        have ke159 : KF 1 T ws w153 := KF.tr KF.rf ke156
        refine W.eq (g2 := F0 m 41 ls [.ref b152]) rfl ?_
        refine lv_aload hx hb dX10_catches_41 (lv_at hl 0 rfl) ?_
        obtain ⟨p167, _, hk168, x160, x161, x162, x163, x164, x165, rfl, h166⟩ := op4 hT (le155.up ht138)
        refine va_getN (D := D) (ci := 9) (v := .int x161) (C := RX9) (T := TX9) (N := 6) hx hb hg inGX9 hown hKN.1 hP p167 hk168 rfl 1 (by decide) (va_Nw.use rfl (hKN.2.1 _ kn_572 rfl)) (fun _ h9 => h9) rfl dX10_catches_43 ?_
        refine lv_aload_n hx hb dX10_catches_46 rfl (lv_at hl 1 rfl) ?_
        obtain ⟨p190, _, hk191, x169, x170, x171, x172, x173, x174, x175, x176, a177, a178, a179, a180, a181, x182, rfl, h183, h184, h185, h186, h187, h188, h189⟩ := op5 hT (le155.up ht94)
        refine va_getN (D := D) (ci := 8) (v := .int x175) (C := RX8) (T := TX8) (N := 14) hx hb hg inGX8 hown hKN.1 hP p190 hk191 rfl 6 (by decide) (va_Nw.use rfl (hKN.2.1 _ kn_135 rfl)) (fun _ h9 => h9) rfl dX10_catches_47 ?_
        obtain ⟨p200, _, hk201, x192, x193, x194, x195, x196, y197, y198, rfl, h199⟩ := op6 hT ht157
        refine cga (rn_NV (As := [.int x161, .int x175]) (rest := []) (b := b152) (x_X1_isSeenWith l D Y Z H.size w153 T154 g q b152 x161 x175 hT ht157) ⟨hx, hb, hml, hown, hg⟩ hKN lk_X10_295 ⟨CPC.blind, va_recv hKN.1 hP (ci := 1) (q0 := p200) rfl hk201, CPC.at hP hKN hD hSZ hS hA⟩ ⟨⟨rfl, rfl⟩, ⟨Nat.le_of_ble_eq_true rfl, Nat.le_of_ble_eq_true rfl⟩, ⟨(Nat.le_of_ble_eq_true rfl), (Nat.le_of_ble_eq_true rfl)⟩⟩ hl.1 rfl (Nat.le_of_ble_eq_true rfl) dX10_catches_50) hP hD hS hA (fun u202 H locs hw203 hP hD hS => ?_)
        have hw205 : (0 ≤ u202.toInt ∧ u202.toInt ≤ 1) := hw203
        refine W.eq (g2 := F0 m 53 ls [.int u202]) rfl ?_
        rcases (show u202.toInt = 1 ∨ u202.toInt = 0 by omega) with c206 | c206
        · obtain rfl : u202 = 1 := i_is c206 (by decide)
          have zi1 : (1 : Int32).toInt = 1 := by decide
          refine W.eq (g2 := F0 m 53 ls [.int 1]) rfl ?_
          refine lv_if_eq (tgt := 60) hx hb dX10_catches_53 (by decide) (fun c207 => ?_) (fun c207 => ?_)
          · exact absurd c207 (by decide)
          refine lv_iconst (v := 1) hx hb dX10_catches_56 (by decide) ?_
          refine lv_goto (tgt := 61) hx hb dX10_catches_57 (by decide) ?_
          refine W.widen (k := 1) (n := 7) (Nat.le_of_ble_eq_true rfl) (Nat.le_of_ble_eq_true rfl) ?_
          exact W.iret (v := 1) hx hb hr (fun t ht hW => ⟨⟨((1), w153, T154), rfl, ⟨le155, hT, ke159⟩, CB.mk ht hP hD⟩, hS.F ht⟩) hS.2.2 dX10_catches_61
        · obtain rfl : u202 = 0 := i_is c206 (by decide)
          have zi0 : (0 : Int32).toInt = 0 := by decide
          refine W.eq (g2 := F0 m 53 ls [.int 0]) rfl ?_
          refine lv_if_eq (tgt := 60) hx hb dX10_catches_53 (by decide) (fun c208 => ?_) (fun c208 => ?_)
          rotate_left
          · exact absurd c208 (by decide)
          refine lv_iconst (v := 0) hx hb dX10_catches_60 (by decide) ?_
          refine W.widen (k := 1) (n := 7) (Nat.le_of_ble_eq_true rfl) (Nat.le_of_ble_eq_true rfl) ?_
          exact W.iret (v := 0) hx hb hr (fun t ht hW => ⟨⟨((0), w153, T154), rfl, ⟨le155, hT, ke159⟩, CB.mk ht hP hD⟩, hS.F ht⟩) hS.2.2 dX10_catches_61
      · skip
        have c149 := i_eq (Eq.refl x145.toInt) (show (0 : Int32).toInt = 0 by decide) c149
        refine lv_iconst (v := (-1)) hx hb dX10_catches_33 (by decide) ?_
        refine W.widen (k := 1) (n := 7) (Nat.le_of_ble_eq_true rfl) (Nat.le_of_ble_eq_true rfl) ?_
        have zim1 : ((-1) : Int32).toInt = -1 := by decide
        exact W.iret (v := (-1)) hx hb hr (fun t ht hW => ⟨⟨(((-1)), ws, T), rfl, ⟨TLe.rf, hT, KF.rf⟩, CB.mk ht hP hD⟩, hS.F ht⟩) hS.2.2 dX10_catches_34
set_option maxHeartbeats 4000000 in
set_option maxRecDepth 100000 in
theorem x_X10_share (l : Launch) (D : va_G) (Y : Nat → ClassId) (Z : Nat → Nat) (sz : Nat) (ws : va_W) (T : RT) (g : GN) (q : GQ)  (p0 : Nat) (p1 : Int32) (p2 : Int32) (hT : TW Y Z T g q ws) (ht0 : T p0 = (1, 0, 0)) : Met l yX10_share (.code yX10_share cX10_share 4 (some .int) :: GW) ({ frames := 6, cells := 40, slots := 280, locals := 157 }) (va_Pc [.ref p0, .int p1, .int p2] (CPC D Y Z ws sz)) (QG (S := Int32 × va_W × RT) (fun u => some (.int u.1)) (fun u => TLe T u.2.2 ∧ TW Y Z u.2.2 g q u.2.1 ∧ KF 1 T ws u.2.1) (fun u => CB D u.2.1 (va_A ws sz)) (va_A ws sz)) 40 280 (va_A ws sz) := by
  refine Met.ofW (cc := cX10_share) (maxL := 4) (ret := (some .int)) (by decide) rfl ?_
  intro p e s m args below meth c s₁ B hml hv
  obtain ⟨rfl, ⟨hsz, hP, hKN, hD0⟩, hSZ⟩ := hv
  have hx := B.exec
  have hb := B.bytes
  have hr := B.returns
  have hts := atoms_spec (ws := .code yX10_share cX10_share 4 (some .int) :: GW) B.pre
  have hg : ∀ w ∈ GW, w.before _ s = true := fun w h => hts w (List.mem_cons_of_mem _ h)
  have hown : s.vm.findClass RX10 = some m.cls := findClass_of_methodNamed B.named
  have hlocks := B.notSynchronized
  subst hsz
  have hD := hD0.self (sz := s.heap.size)
  generalize hAe : va_A ws s.heap.size = A at hD hSZ ⊢
  have hA : ∀ q : Nat, s.heap.size ≤ q → A q := fun q h => by rw [← hAe]; exact Or.inr h
  clear hAe hD0 hts B
  have hl := lv_entry ([.ref p0, .int p1, .int p2]) (n := 4) (Nat.le_of_ble_eq_true rfl)
  rw [lg_entry_eq]
  generalize (lg_sl ([.ref p0, .int p1, .int p2]) ++ List.replicate (4 - (lg_sl ([.ref p0, .int p1, .int p2])).length) Slot.unset).toArray = ls at hl ⊢
  have hl : lv_has ls 4 [(0, .ref p0), (1, .int p1), (2, .int p2)] := hl
  refine w_start (A0 := A) hP (fun H locs hP hS => ?_)
  refine lv_aload_n hx hb dX10_share_0 rfl (lv_at hl 0 rfl) ?_
  refine lv_iload_n hx hb dX10_share_1 rfl (lv_at hl 1 rfl) ?_
  obtain ⟨p42, _, hk43, a1, a2, a3, a4, a5, x6, x7, x8, a9, a10, a11, a12, a13, a14, a15, a16, a17, x18, a19, a20, rfl, h21, h22, h23, h24, h25, h26, h27, h28, h29, h30, h31, h32, h33, h34, h35, h36, h37, h38, h39, h40, h41⟩ := op1 hT ht0
  refine cga (rn_V (As := [.int p1]) (rest := []) (b := p0) (x_X10_searchAt l D Y Z H.size ws T g q p0 p1 hT ht0) ⟨hx, hb, hml, hown, hg⟩ lk_X10_259 ⟨CPC.blind, va_recv hKN.1 hP (ci := 10) (q0 := p42) rfl hk43, CPC.at hP hKN hD hSZ hS hA⟩ ⟨⟨rfl, rfl⟩, ⟨Nat.le_of_ble_eq_true rfl, Nat.le_of_ble_eq_true rfl⟩, ⟨(Nat.le_of_ble_eq_true rfl), (Nat.le_of_ble_eq_true rfl)⟩⟩ hl.1 rfl (Nat.le_of_ble_eq_true rfl) dX10_share_2) hP hD hS hA (fun u44 H locs hw45 hP hD hS => ?_)
  obtain ⟨ht47, hw48⟩ : (∀ b, u44 = some b → T b = (5, 0, 0)) ∧ (∀ b, u44 = some b → 0 ≤ p1.toInt ∧ p1.toInt ≤ 5) := hw45
  refine W.eq (g2 := F0 m 5 ls [va_rf u44]) rfl ?_
  rcases u44 with _ | b49
  · skip
    refine W.eq (g2 := F0 m 5 ls [.null]) rfl ?_
    refine lv_astore_nN (lv' := [(3, .null), (0, .ref p0), (1, .int p1), (2, .int p2)]) hx hb dX10_share_5 rfl hl (by decide) rfl (fun ls hl => ?_)
    refine lv_aload_nN hx hb dX10_share_6 rfl (lv_at hl 0 rfl) ?_
    refine lv_ifnullN (tgt := 19) hx hb dX10_share_7 (by decide) ?_
    refine lv_iconst (v := (-1)) hx hb dX10_share_19 (by decide) ?_
    refine W.widen (k := 40) (n := 280) (Nat.le_of_ble_eq_true rfl) (Nat.le_of_ble_eq_true rfl) ?_
    have zim1 : ((-1) : Int32).toInt = -1 := by decide
    exact W.iret (v := (-1)) hx hb hr (fun t ht hW => ⟨⟨(((-1)), ws, T), rfl, ⟨TLe.rf, hT, KF.rf⟩, CB.mk ht hP hD⟩, hS.F ht⟩) hS.2.2 dX10_share_20
  · skip
    have ht50 := ht47 b49 rfl
    have h51 := hw48 b49 rfl
    refine W.eq (g2 := F0 m 5 ls [.ref b49]) rfl ?_
    refine lv_astore_n (lv' := [(3, .ref b49), (0, .ref p0), (1, .int p1), (2, .int p2)]) hx hb dX10_share_5 rfl hl (by decide) rfl (fun ls hl => ?_)
    refine lv_aload_n hx hb dX10_share_6 rfl (lv_at hl 0 rfl) ?_
    refine lv_ifnull hx hb dX10_share_7 ?_
    refine lv_iload_n hx hb dX10_share_10 rfl (lv_at hl 3 rfl) ?_
    refine lv_iconst (v := 0) hx hb dX10_share_11 (by decide) ?_
    refine lv_iconst (v := 1) hx hb dX10_share_12 (by decide) ?_
    have zi0 : (0 : Int32).toInt = 0 := by decide
    have zi1 : (1 : Int32).toInt = 1 := by decide
    refine cg0 (rn_S (As := [.int p2, .int 0, .int 1]) (rest := []) (x_X10_isWithin l D Y Z H.size p2 0 1) ⟨hx, hb, hml, hown, hg⟩ lk_X10_100 ⟨CP.blind, CP.at nilP hKN (nilD (A := fun _ => True))⟩ ⟨⟨rfl, rfl⟩, ⟨Nat.le_of_ble_eq_true rfl, Nat.le_of_ble_eq_true rfl⟩, ⟨(Nat.le_of_ble_eq_true rfl), (Nat.le_of_ble_eq_true rfl)⟩⟩ hl.1 rfl (Nat.le_of_ble_eq_true rfl) dX10_share_13) hP hS hA (fun u52 H locs hw53 hP hS => ?_)
    obtain ⟨hw55, hw56⟩ : (((0 : Int32).toInt ≤ p2.toInt ∧ p2.toInt ≤ (1 : Int32).toInt ∧ u52.toInt = 1) ∨ (¬ ((0 : Int32).toInt ≤ p2.toInt ∧ p2.toInt ≤ (1 : Int32).toInt) ∧ u52.toInt = 0)) ∧ (0 ≤ u52.toInt ∧ u52.toInt ≤ 1) := hw53
    refine W.eq (g2 := F0 m 16 ls [.int u52]) rfl ?_
    rcases (show u52.toInt = 1 ∨ u52.toInt = 0 by omega) with c57 | c57
    · obtain rfl : u52 = 1 := i_is c57 (by decide)
      refine W.eq (g2 := F0 m 16 ls [.int 1]) rfl ?_
      refine lv_if_ne (tgt := 21) hx hb dX10_share_16 (by decide) (fun c58 => ?_) (fun c58 => ?_)
      rotate_left
      · exact absurd c58 (by decide)
      refine lv_aload_n hx hb dX10_share_21 rfl (lv_at hl 1 rfl) ?_
      refine lv_iload_n hx hb dX10_share_22 rfl (lv_at hl 2 rfl) ?_
      refine lv_aload_n hx hb dX10_share_23 rfl (lv_at hl 0 rfl) ?_
      obtain ⟨p80, _, hk81, x59, x60, x61, x62, x63, x64, x65, x66, a67, a68, a69, a70, a71, x72, rfl, h73, h74, h75, h76, h77, h78, h79⟩ := op5 hT ht50
      refine va_getN (D := D) (ci := 8) (v := .int x65) (C := RX8) (T := TX8) (N := 14) hx hb hg inGX8 hown hKN.1 hP p80 hk81 rfl 6 (by decide) (va_Nw.use rfl (hKN.2.1 _ kn_135 rfl)) (fun _ h9 => h9) rfl dX10_share_24 ?_
      refine cga (rn_V (As := [.int p1, .int x65]) (rest := []) (b := p0) (x_X10_caughtFrom l D Y Z H.size ws T g q p0 p1 x65 hT ht0) ⟨hx, hb, hml, hown, hg⟩ lk_X10_299 ⟨CPC.blind, va_recv hKN.1 hP (ci := 10) (q0 := p42) rfl hk43, CPC.at hP hKN hD hSZ hS hA⟩ ⟨⟨rfl, rfl⟩, ⟨Nat.le_of_ble_eq_true rfl, Nat.le_of_ble_eq_true rfl⟩, ⟨(Nat.le_of_ble_eq_true rfl), (Nat.le_of_ble_eq_true rfl)⟩⟩ hl.1 rfl (Nat.le_of_ble_eq_true rfl) dX10_share_27) hP hD hS hA (fun u82 H locs hw83 hP hD hS => ?_)
      refine W.widen (k := 40) (n := 280) (Nat.le_of_ble_eq_true rfl) (Nat.le_of_ble_eq_true rfl) ?_
      obtain ⟨u84, w85, T86⟩ := u82
      obtain ⟨le87, hT, ke88⟩ : TLe T T86 ∧ TW Y Z T86 g q w85 ∧ KF 1 T ws w85 := hw83
      have hk89 := ke88 _ _ hk43 (show (T p0).1 = 1 by rw [ht0])
      have ke90 : KF 1 T ws w85 := KF.tr KF.rf ke88
      refine W.eq (g2 := F0 m 30 ls [.int u84]) rfl ?_
      refine lv_aload_n hx hb dX10_share_30 rfl (lv_at hl 1 rfl) ?_
      refine va_get (D := D) (ci := 10) (v := .ref a1) (C := RX10) (T := TX10) (N := 20) hx hb hg inGX10 hown hKN.1 hP p42 hk89 rfl 0 (by decide) (hg _ kw_349) (fun _ h9 => h9) rfl dX10_share_31 ?_
      obtain ⟨p125, _, hk126, x91, a92, x93, a94, x95, a96, a97, x98, a99, a100, x101, a102, x103, rfl, h104, h105, h106, h107, h108, h109, h110, h111, h112, h113, h114, h115, h116, h117, h118, h119, h120, h121, h122, h123, h124⟩ := op2 hT (le87.up h21)
      refine cga (rn_NV (As := []) (rest := [.int u84]) (b := a1) (x_X6_putIn l D Y Z H.size w85 T86 g q 0 a1 hT (le87.up h21)) ⟨hx, hb, hml, hown, hg⟩ hKN lk_X10_303 ⟨CPC.blind, va_recv hKN.1 hP (ci := 6) (q0 := p125) rfl hk126, CPC.at hP hKN hD hSZ hS hA⟩ ⟨⟨rfl, rfl⟩, ⟨Nat.le_of_ble_eq_true rfl, Nat.le_of_ble_eq_true rfl⟩, ⟨(Nat.le_of_ble_eq_true rfl), (Nat.le_of_ble_eq_true rfl)⟩⟩ hl.1 rfl (Nat.le_of_ble_eq_true rfl) dX10_share_34) hP hD hS hA (fun u127 H locs hw128 hP hD hS => ?_)
      refine W.eq (g2 := F0 m 37 ls [.int u127, .int u84]) rfl ?_
      refine lv_iload_n hx hb dX10_share_37 rfl (lv_at hl 3 rfl) ?_
      refine cg0 (rn_S (As := [.int u84, .int u127, .int p2]) (rest := []) (x_X10_partOf l D Y Z H.size u84 u127 p2) ⟨hx, hb, hml, hown, hg⟩ lk_X10_307 ⟨CP.blind, CP.at nilP hKN (nilD (A := fun _ => True))⟩ ⟨⟨rfl, rfl⟩, ⟨Nat.le_of_ble_eq_true rfl, Nat.le_of_ble_eq_true rfl⟩, ⟨(Nat.le_of_ble_eq_true rfl), (Nat.le_of_ble_eq_true rfl)⟩⟩ hl.1 rfl (Nat.le_of_ble_eq_true rfl) dX10_share_38) hP hS hA (fun u130 H locs hw131 hP hS => ?_)
      refine W.eq (g2 := F0 m 41 ls [.int u130]) rfl ?_
      refine W.widen (k := 40) (n := 280) (Nat.le_of_ble_eq_true rfl) (Nat.le_of_ble_eq_true rfl) ?_
      exact W.iret (v := u130) hx hb hr (fun t ht hW => ⟨⟨(u130, w85, T86), rfl, ⟨le87, hT, ke90⟩, CB.mk ht hP hD⟩, hS.F ht⟩) hS.2.2 dX10_share_41
    · obtain rfl : u52 = 0 := i_is c57 (by decide)
      refine W.eq (g2 := F0 m 16 ls [.int 0]) rfl ?_
      refine lv_if_ne (tgt := 21) hx hb dX10_share_16 (by decide) (fun c133 => ?_) (fun c133 => ?_)
      · exact absurd c133 (by decide)
      refine lv_iconst (v := (-1)) hx hb dX10_share_19 (by decide) ?_
      refine W.widen (k := 40) (n := 280) (Nat.le_of_ble_eq_true rfl) (Nat.le_of_ble_eq_true rfl) ?_
      have zim1 : ((-1) : Int32).toInt = -1 := by decide
      exact W.iret (v := (-1)) hx hb hr (fun t ht hW => ⟨⟨(((-1)), ws, T), rfl, ⟨TLe.rf, hT, KF.rf⟩, CB.mk ht hP hD⟩, hS.F ht⟩) hS.2.2 dX10_share_20
set_option maxHeartbeats 4000000 in
set_option maxRecDepth 100000 in
theorem x_X10_chance (l : Launch) (D : va_G) (Y : Nat → ClassId) (Z : Nat → Nat) (sz : Nat) (ws : va_W) (T : RT) (g : GN) (q : GQ)  (p0 : Nat) (p1 : Int32) (p2 : Int32) (p3 : Int32) (hT : TW Y Z T g q ws) (ht0 : T p0 = (1, 0, 0)) : Met l yX10_chance (.code yX10_chance cX10_chance 4 (some .int) :: GW) ({ frames := 6, cells := 12, slots := 84, locals := 158 }) (va_Pc [.ref p0, .int p1, .int p2, .int p3] (CPC D Y Z ws sz)) (QG (S := Int32 × va_W × RT) (fun u => some (.int u.1)) (fun u => TLe T u.2.2 ∧ TW Y Z u.2.2 g q u.2.1 ∧ KF 1 T ws u.2.1) (fun u => CB D u.2.1 (va_A ws sz)) (va_A ws sz)) 12 84 (va_A ws sz) := by
  refine Met.ofW (cc := cX10_chance) (maxL := 4) (ret := (some .int)) (by decide) rfl ?_
  intro p e s m args below meth c s₁ B hml hv
  obtain ⟨rfl, ⟨hsz, hP, hKN, hD0⟩, hSZ⟩ := hv
  have hx := B.exec
  have hb := B.bytes
  have hr := B.returns
  have hts := atoms_spec (ws := .code yX10_chance cX10_chance 4 (some .int) :: GW) B.pre
  have hg : ∀ w ∈ GW, w.before _ s = true := fun w h => hts w (List.mem_cons_of_mem _ h)
  have hown : s.vm.findClass RX10 = some m.cls := findClass_of_methodNamed B.named
  have hlocks := B.notSynchronized
  subst hsz
  have hD := hD0.self (sz := s.heap.size)
  generalize hAe : va_A ws s.heap.size = A at hD hSZ ⊢
  have hA : ∀ q : Nat, s.heap.size ≤ q → A q := fun q h => by rw [← hAe]; exact Or.inr h
  clear hAe hD0 hts B
  have hl := lv_entry ([.ref p0, .int p1, .int p2, .int p3]) (n := 4) (Nat.le_of_ble_eq_true rfl)
  rw [lg_entry_eq]
  generalize (lg_sl ([.ref p0, .int p1, .int p2, .int p3]) ++ List.replicate (4 - (lg_sl ([.ref p0, .int p1, .int p2, .int p3])).length) Slot.unset).toArray = ls at hl ⊢
  have hl : lv_has ls 4 [(0, .ref p0), (1, .int p1), (2, .int p2), (3, .int p3)] := hl
  refine w_start (A0 := A) hP (fun H locs hP hS => ?_)
  refine lv_aload_n hx hb dX10_chance_0 rfl (lv_at hl 0 rfl) ?_
  refine lv_iload_n hx hb dX10_chance_1 rfl (lv_at hl 1 rfl) ?_
  obtain ⟨p42, _, hk43, a1, a2, a3, a4, a5, x6, x7, x8, a9, a10, a11, a12, a13, a14, a15, a16, a17, x18, a19, a20, rfl, h21, h22, h23, h24, h25, h26, h27, h28, h29, h30, h31, h32, h33, h34, h35, h36, h37, h38, h39, h40, h41⟩ := op1 hT ht0
  refine cga (rn_V (As := [.int p1]) (rest := []) (b := p0) (x_X10_searchAt l D Y Z H.size ws T g q p0 p1 hT ht0) ⟨hx, hb, hml, hown, hg⟩ lk_X10_259 ⟨CPC.blind, va_recv hKN.1 hP (ci := 10) (q0 := p42) rfl hk43, CPC.at hP hKN hD hSZ hS hA⟩ ⟨⟨rfl, rfl⟩, ⟨Nat.le_of_ble_eq_true rfl, Nat.le_of_ble_eq_true rfl⟩, ⟨(Nat.le_of_ble_eq_true rfl), (Nat.le_of_ble_eq_true rfl)⟩⟩ hl.1 rfl (Nat.le_of_ble_eq_true rfl) dX10_chance_2) hP hD hS hA (fun u44 H locs hw45 hP hD hS => ?_)
  obtain ⟨ht47, hw48⟩ : (∀ b, u44 = some b → T b = (5, 0, 0)) ∧ (∀ b, u44 = some b → 0 ≤ p1.toInt ∧ p1.toInt ≤ 5) := hw45
  refine W.eq (g2 := F0 m 5 ls [va_rf u44]) rfl ?_
  rcases u44 with _ | b49
  · skip
    refine W.eq (g2 := F0 m 5 ls [.null]) rfl ?_
    refine lv_ifnullN (tgt := 26) hx hb dX10_chance_5 (by decide) ?_
    refine lv_iconst (v := (-1)) hx hb dX10_chance_26 (by decide) ?_
    refine W.widen (k := 12) (n := 84) (Nat.le_of_ble_eq_true rfl) (Nat.le_of_ble_eq_true rfl) ?_
    have zim1 : ((-1) : Int32).toInt = -1 := by decide
    exact W.iret (v := (-1)) hx hb hr (fun t ht hW => ⟨⟨(((-1)), ws, T), rfl, ⟨TLe.rf, hT, KF.rf⟩, CB.mk ht hP hD⟩, hS.F ht⟩) hS.2.2 dX10_chance_27
  · skip
    have ht50 := ht47 b49 rfl
    have h51 := hw48 b49 rfl
    refine W.eq (g2 := F0 m 5 ls [.ref b49]) rfl ?_
    refine lv_ifnull hx hb dX10_chance_5 ?_
    refine lv_iload_n hx hb dX10_chance_8 rfl (lv_at hl 2 rfl) ?_
    refine lv_iconst (v := 0) hx hb dX10_chance_9 (by decide) ?_
    refine lv_ldcw (v := 999999) hx hb hown (hg _ kw_938) dX10_chance_10 ?_
    have zi0 : (0 : Int32).toInt = 0 := by decide
    have zi999999 : (999999 : Int32).toInt = 999999 := by decide
    refine cg0 (rn_S (As := [.int p2, .int 0, .int 999999]) (rest := []) (x_X10_isWithin l D Y Z H.size p2 0 999999) ⟨hx, hb, hml, hown, hg⟩ lk_X10_100 ⟨CP.blind, CP.at nilP hKN (nilD (A := fun _ => True))⟩ ⟨⟨rfl, rfl⟩, ⟨Nat.le_of_ble_eq_true rfl, Nat.le_of_ble_eq_true rfl⟩, ⟨(Nat.le_of_ble_eq_true rfl), (Nat.le_of_ble_eq_true rfl)⟩⟩ hl.1 rfl (Nat.le_of_ble_eq_true rfl) dX10_chance_13) hP hS hA (fun u52 H locs hw53 hP hS => ?_)
    obtain ⟨hw55, hw56⟩ : (((0 : Int32).toInt ≤ p2.toInt ∧ p2.toInt ≤ (999999 : Int32).toInt ∧ u52.toInt = 1) ∨ (¬ ((0 : Int32).toInt ≤ p2.toInt ∧ p2.toInt ≤ (999999 : Int32).toInt) ∧ u52.toInt = 0)) ∧ (0 ≤ u52.toInt ∧ u52.toInt ≤ 1) := hw53
    refine W.eq (g2 := F0 m 16 ls [.int u52]) rfl ?_
    rcases (show u52.toInt = 1 ∨ u52.toInt = 0 by omega) with c57 | c57
    · obtain rfl : u52 = 1 := i_is c57 (by decide)
      have zi1 : (1 : Int32).toInt = 1 := by decide
      refine W.eq (g2 := F0 m 16 ls [.int 1]) rfl ?_
      refine lv_if_eq (tgt := 26) hx hb dX10_chance_16 (by decide) (fun c58 => ?_) (fun c58 => ?_)
      · exact absurd c58 (by decide)
      refine lv_iload_n hx hb dX10_chance_19 rfl (lv_at hl 3 rfl) ?_
      refine cg0 (rn_S (As := [.int p3]) (rest := []) (x_X10_isWay l D Y Z H.size p3) ⟨hx, hb, hml, hown, hg⟩ lk_X10_140 ⟨CP.blind, CP.at nilP hKN (nilD (A := fun _ => True))⟩ ⟨⟨rfl, rfl⟩, ⟨Nat.le_of_ble_eq_true rfl, Nat.le_of_ble_eq_true rfl⟩, ⟨(Nat.le_of_ble_eq_true rfl), (Nat.le_of_ble_eq_true rfl)⟩⟩ hl.1 rfl (Nat.le_of_ble_eq_true rfl) dX10_chance_20) hP hS hA (fun u59 H locs hw60 hP hS => ?_)
      obtain ⟨hw62, hw63⟩ : ((0 ≤ p3.toInt ∧ p3.toInt ≤ 5 ∧ u59.toInt = 1) ∨ (¬ (0 ≤ p3.toInt ∧ p3.toInt ≤ 5) ∧ u59.toInt = 0)) ∧ (0 ≤ u59.toInt ∧ u59.toInt ≤ 1) := hw60
      refine W.eq (g2 := F0 m 23 ls [.int u59]) rfl ?_
      rcases (show u59.toInt = 1 ∨ u59.toInt = 0 by omega) with c64 | c64
      · obtain rfl : u59 = 1 := i_is c64 (by decide)
        refine W.eq (g2 := F0 m 23 ls [.int 1]) rfl ?_
        refine lv_if_ne (tgt := 28) hx hb dX10_chance_23 (by decide) (fun c65 => ?_) (fun c65 => ?_)
        rotate_left
        · exact absurd c65 (by decide)
        refine lv_aload_n hx hb dX10_chance_28 rfl (lv_at hl 0 rfl) ?_
        refine lv_iload_n hx hb dX10_chance_29 rfl (lv_at hl 1 rfl) ?_
        refine lv_iload_n hx hb dX10_chance_30 rfl (lv_at hl 3 rfl) ?_
        refine lv_iload_n hx hb dX10_chance_31 rfl (lv_at hl 2 rfl) ?_
        refine cga (rn_V (As := [.int p1, .int p3, .int p2]) (rest := []) (b := p0) (x_X10_foundFrom l D Y Z H.size ws T g q p0 p1 p3 p2 hT ht0) ⟨hx, hb, hml, hown, hg⟩ lk_X10_311 ⟨CPC.blind, va_recv hKN.1 hP (ci := 10) (q0 := p42) rfl hk43, CPC.at hP hKN hD hSZ hS hA⟩ ⟨⟨rfl, rfl⟩, ⟨Nat.le_of_ble_eq_true rfl, Nat.le_of_ble_eq_true rfl⟩, ⟨(Nat.le_of_ble_eq_true rfl), (Nat.le_of_ble_eq_true rfl)⟩⟩ hl.1 rfl (Nat.le_of_ble_eq_true rfl) dX10_chance_32) hP hD hS hA (fun u66 H locs hw67 hP hD hS => ?_)
        refine W.widen (k := 12) (n := 84) (Nat.le_of_ble_eq_true rfl) (Nat.le_of_ble_eq_true rfl) ?_
        obtain ⟨u68, w69, T70⟩ := u66
        obtain ⟨le71, hT, ke72⟩ : TLe T T70 ∧ TW Y Z T70 g q w69 ∧ KF 1 T ws w69 := hw67
        have hk73 := ke72 _ _ hk43 (show (T p0).1 = 1 by rw [ht0])
        have ke74 : KF 1 T ws w69 := KF.tr KF.rf ke72
        refine W.eq (g2 := F0 m 35 ls [.int u68]) rfl ?_
        refine W.widen (k := 12) (n := 84) (Nat.le_of_ble_eq_true rfl) (Nat.le_of_ble_eq_true rfl) ?_
        exact W.iret (v := u68) hx hb hr (fun t ht hW => ⟨⟨(u68, w69, T70), rfl, ⟨le71, hT, ke74⟩, CB.mk ht hP hD⟩, hS.F ht⟩) hS.2.2 dX10_chance_35
      · obtain rfl : u59 = 0 := i_is c64 (by decide)
        refine W.eq (g2 := F0 m 23 ls [.int 0]) rfl ?_
        refine lv_if_ne (tgt := 28) hx hb dX10_chance_23 (by decide) (fun c75 => ?_) (fun c75 => ?_)
        · exact absurd c75 (by decide)
        refine lv_iconst (v := (-1)) hx hb dX10_chance_26 (by decide) ?_
        refine W.widen (k := 12) (n := 84) (Nat.le_of_ble_eq_true rfl) (Nat.le_of_ble_eq_true rfl) ?_
        have zim1 : ((-1) : Int32).toInt = -1 := by decide
        exact W.iret (v := (-1)) hx hb hr (fun t ht hW => ⟨⟨(((-1)), ws, T), rfl, ⟨TLe.rf, hT, KF.rf⟩, CB.mk ht hP hD⟩, hS.F ht⟩) hS.2.2 dX10_chance_27
    · obtain rfl : u52 = 0 := i_is c57 (by decide)
      refine W.eq (g2 := F0 m 16 ls [.int 0]) rfl ?_
      refine lv_if_eq (tgt := 26) hx hb dX10_chance_16 (by decide) (fun c76 => ?_) (fun c76 => ?_)
      rotate_left
      · exact absurd c76 (by decide)
      refine lv_iconst (v := (-1)) hx hb dX10_chance_26 (by decide) ?_
      refine W.widen (k := 12) (n := 84) (Nat.le_of_ble_eq_true rfl) (Nat.le_of_ble_eq_true rfl) ?_
      have zim1 : ((-1) : Int32).toInt = -1 := by decide
      exact W.iret (v := (-1)) hx hb hr (fun t ht hW => ⟨⟨(((-1)), ws, T), rfl, ⟨TLe.rf, hT, KF.rf⟩, CB.mk ht hP hD⟩, hS.F ht⟩) hS.2.2 dX10_chance_27
