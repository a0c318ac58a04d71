set_option maxHeartbeats 4000000 in
set_option maxRecDepth 100000 in
theorem m_meanOf (l : Launch) (D : va_G) (Y : Nat → ClassId) (Z : Nat → Nat) (sz : Nat) (o : Nat) (a : Nat → Nat) (I : Nat → Int32) (J : Nat → Int64) (F : Nat → Nat → Int32) (G : Nat → Nat → Int64) (p1 : Int32) (p2 : Int32) (p3 : Int32) (hk_0 : (0 ≤ p1.toInt ∧ p1.toInt ≤ 11)) (hk0 : TO (F 0)) : Met l yX11_meanOf (.code yX11_meanOf cX11_meanOf 8 (some .int) :: GW) ({ frames := 1, cells := 0, slots := 0, locals := 25 }) (va_Pc [.ref o, .int p1, .int p2, .int p3] (CP D Y Z (MW Y o a I J F G) sz)) (QG (S := Int32) (fun u => some (.int u)) (fun u => (0 = 0)) (fun u => CB D (MW Y o a I J F G) (va_A (MW Y o a I J F G) sz)) (va_A (MW Y o a I J F G) sz)) 0 0 (va_A (MW Y o a I J F G) sz) := by
  refine Met.ofW (cc := cX11_meanOf) (maxL := 8) (ret := (some .int)) (by decide) rfl ?_
  intro p e s m args below meth c s₁ B hml hv
  obtain ⟨rfl, hsz, hP, hKN, hD0⟩ := hv
  have hx := B.exec
  have hb := B.bytes
  have hr := B.returns
  have hts := atoms_spec (ws := .code yX11_meanOf cX11_meanOf 8 (some .int) :: GW) B.pre
  have hg : ∀ w ∈ GW, w.before _ s = true := fun w h => hts w (List.mem_cons_of_mem _ h)
  have hown : s.vm.findClass RX11 = some m.cls := findClass_of_methodNamed B.named
  have hlocks := B.notSynchronized
  subst hsz
  have hD := hD0.self (sz := s.heap.size)
  generalize hAe : va_A (MW Y o a I J F G) s.heap.size = A at hD ⊢
  have hA : ∀ q : Nat, s.heap.size ≤ q → A q := fun q h => by rw [← hAe]; exact Or.inr h
  clear hAe hD0 hts B
  have hl := lv_entry ([.ref o, .int p1, .int p2, .int p3]) (n := 8) (Nat.le_of_ble_eq_true rfl)
  rw [lg_entry_eq]
  generalize (lg_sl ([.ref o, .int p1, .int p2, .int p3]) ++ List.replicate (8 - (lg_sl ([.ref o, .int p1, .int p2, .int p3])).length) Slot.unset).toArray = ls at hl ⊢
  have hl : lv_has ls 8 [(0, .ref o), (1, .int p1), (2, .int p2), (3, .int p3)] := hl
  refine w_start (A0 := A) hP (fun H locs hP hS => ?_)
  refine lv_lconst (v := 0) hx hb dX11_meanOf_0 (by decide) ?_
  refine lv_lstore (lv' := [(4, .long 0), (0, .ref o), (1, .int p1), (2, .int p2), (3, .int p3)]) hx hb dX11_meanOf_1 hl (by decide) rfl (fun ls hl => ?_)
  refine lv_iconst (v := 0) hx hb dX11_meanOf_3 (by decide) ?_
  refine lv_istore (lv' := [(6, .int 0), (4, .long 0), (0, .ref o), (1, .int p1), (2, .int p2), (3, .int p3)]) hx hb dX11_meanOf_4 hl (by decide) rfl (fun ls hl => ?_)
  refine lv_iload_n hx hb dX11_meanOf_6 rfl (lv_at hl 4 rfl) ?_
  refine w_join (σ := Int32 × Int32 × Int32 × Int32) (pcJ := 15) (kJ := 0) (nJ := 0) (stk := fun xx => match xx with | (g3, g4, g5, g6) => [.int g6]) (fun xx H locs ls => match xx with | (g3, g4, g5, g6) => va_P D vwCl (MW Y o a I J F G) H ∧ va_D A (MW Y o a I J F G) ∧ va_S A s.heap H locs ∧ lv_has ls 8 [(6, .int 0), (4, .long 0), (0, .ref o), (1, .int g3), (2, .int g4), (3, .int g5)] ∧ (0 ≤ g3.toInt ∧ g3.toInt ≤ 11) ∧ (0 ≤ g6.toInt)) (fun xx H locs ls hI => ?_) (fun jn7 => ?_)
  · skip
    obtain ⟨g3, g4, g5, g6⟩ := xx
    obtain ⟨hP, hD, hS, hl, hq8, hq9⟩ := hI
    refine W.eq (g2 := F0 m 15 ls [.int g6]) rfl ?_
    refine lv_istore (lv' := [(7, .int g6), (6, .int 0), (4, .long 0), (0, .ref o), (1, .int g3), (2, .int g4), (3, .int g5)]) hx hb dX11_meanOf_15 hl (by decide) rfl (fun ls hl => ?_)
    have zi0 : (0 : Int32).toInt = 0 := by decide
    have zl0 : (0 : Int64).toInt = 0 := by decide
    refine w_loop (σ := Int32 × Int32 × Int64) (fun xx H locs ls => match xx with | (g67, g68, g69) => va_P D vwCl (MW Y o a I J F G) H ∧ va_D A (MW Y o a I J F G) ∧ va_S A s.heap H locs ∧ lv_has ls 8 [(7, .int g67), (6, .int g68), (4, .long g69), (0, .ref o), (1, .int g3), (2, .int g4), (3, .int g5)] ∧ (0 ≤ g67.toInt)) (fun xx => match xx with | (g67, g68, g69) => (600 - g67.toInt).toNat) (g6, 0, 0) ⟨hP, hD, hS, lv_sub hl [0, 1, 2, 3, 4, 5, 6] rfl, by omega⟩ (fun xx H locs ls hI ih => ?_)
    obtain ⟨g67, g68, g69⟩ := xx
    obtain ⟨hP, hD, hS, hl, hq127⟩ := hI
    have ih128 := ih
    refine lv_iload hx hb dX11_meanOf_17 (lv_at hl 0 rfl) ?_
    refine lv_iload_n hx hb dX11_meanOf_19 rfl (lv_at hl 6 rfl) ?_
    refine w_join (σ := Unit) (pcJ := 68) (kJ := 0) (nJ := 0) (stk := fun xx => match xx with | _ => []) (fun xx H locs ls => match xx with | _ => va_P D vwCl (MW Y o a I J F G) H ∧ va_D A (MW Y o a I J F G) ∧ va_S A s.heap H locs ∧ lv_has ls 8 [(7, .int g67), (6, .int g68), (4, .long g69), (0, .ref o), (1, .int g3), (2, .int g4), (3, .int g5)]) (fun xx H locs ls hI => ?_) (fun jn157 => ?_)
    · skip
      obtain ⟨hP, hD, hS, hl⟩ := hI
      refine W.eq (g2 := F0 m 68 ls []) rfl ?_
      refine lv_iload hx hb dX11_meanOf_68 (lv_at hl 1 rfl) ?_
      have j165 := rgI g68
      refine lv_if_ne (tgt := 77) hx hb dX11_meanOf_70 (by decide) (fun c166 => ?_) (fun c166 => ?_)
      · skip
        have c166 := i_ne (Eq.refl g68.toInt) (show (0 : Int32).toInt = 0 by decide) c166
        refine lv_lload hx hb dX11_meanOf_77 (lv_at hl 2 rfl) ?_
        refine lv_iload hx hb dX11_meanOf_79 (lv_at hl 1 rfl) ?_
        have j167 := Int32.toInt_toInt64 g68
        refine lv_i2l (v := g68.toInt64) hx hb dX11_meanOf_81 (rfl) ?_
        refine cg0 (rn_S (As := [.long g69, .long g68.toInt64]) (rest := []) (m_down l D Y Z H.size   g69 g68.toInt64 (show (g68.toInt64.toInt ≠ 0) by omega)) ⟨hx, hb, hml, hown, hg⟩ lk_X11_133 ⟨CP.blind, CP.at nilP hKN (nilD (A := fun _ => True))⟩ ⟨⟨rfl, rfl⟩, ⟨Nat.le_of_ble_eq_true rfl, Nat.le_of_ble_eq_true rfl⟩, ⟨Nat.le_of_ble_eq_true rfl, Nat.le_of_ble_eq_true rfl⟩⟩ hl.1 rfl (Nat.le_of_ble_eq_true rfl) dX11_meanOf_82) hP hS hA (fun u168 H locs w169 hP hS => ?_)
        refine W.eq (g2 := F0 m 85 ls [.long u168]) rfl ?_
        refine lv_l2i (v := u168.toInt32) hx hb dX11_meanOf_85 rfl ?_
        refine lv_topi (fun v171 ev171 => ?_)
        refine W.widen (k := 0) (n := 0) (Nat.le_of_ble_eq_true rfl) (Nat.le_of_ble_eq_true rfl) ?_
        exact W.iret (v := v171) hx hb hr (fun t ht hW => ⟨⟨v171, rfl, ((show (0 = 0) by omega)), CB.mk ht hP hD⟩, hS.F ht⟩) hS.2.2 dX11_meanOf_86
      · skip
        have c166 := i_eq (Eq.refl g68.toInt) (show (0 : Int32).toInt = 0 by decide) c166
        refine lv_iconst (v := 0) hx hb dX11_meanOf_73 (by decide) ?_
        refine lv_goto (tgt := 86) hx hb dX11_meanOf_74 (by decide) ?_
        refine W.widen (k := 0) (n := 0) (Nat.le_of_ble_eq_true rfl) (Nat.le_of_ble_eq_true rfl) ?_
        have zi0 : (0 : Int32).toInt = 0 := by decide
        exact W.iret (v := 0) hx hb hr (fun t ht hW => ⟨⟨0, rfl, ((show (0 = 0) by omega)), CB.mk ht hP hD⟩, hS.F ht⟩) hS.2.2 dX11_meanOf_86
    · skip
      have j172 := rgI g67
      have j173 := rgI g5
      refine lv_icmp_gt (tgt := 68) hx hb dX11_meanOf_20 (by decide) (fun c174 => ?_) (fun c174 => ?_)
      · skip
        have c174 := i_lt (Eq.refl g5.toInt) (Eq.refl g67.toInt) c174
        refine W.widen (k := 0) (n := 0) (Nat.le_of_ble_eq_true rfl) (Nat.le_of_ble_eq_true rfl) ?_
        exact jn157 (()) H locs ls ⟨hP, hD, hS, lv_sub hl [0, 1, 2, 3, 4, 5, 6] rfl⟩
      · skip
        have c174 := i_nlt (Eq.refl g5.toInt) (Eq.refl g67.toInt) c174
        refine lv_iload hx hb dX11_meanOf_23 (lv_at hl 0 rfl) ?_
        refine lv_sipush (v := 600) hx hb dX11_meanOf_25 (by decide) ?_
        refine lv_icmp_ge (tgt := 68) hx hb dX11_meanOf_28 (by decide) (fun c175 => ?_) (fun c175 => ?_)
        · skip
          have c175 := i_le (show (600 : Int32).toInt = 600 by decide) (Eq.refl g67.toInt) c175
          refine W.widen (k := 0) (n := 0) (Nat.le_of_ble_eq_true rfl) (Nat.le_of_ble_eq_true rfl) ?_
          exact jn157 (()) H locs ls ⟨hP, hD, hS, lv_sub hl [0, 1, 2, 3, 4, 5, 6] rfl⟩
        · skip
          have c175 := i_nle (show (600 : Int32).toInt = 600 by decide) (Eq.refl g67.toInt) c175
          refine lv_aload_n hx hb dX11_meanOf_31 rfl (lv_at hl 3 rfl) ?_
          refine lv_iload_n hx hb dX11_meanOf_32 rfl (lv_at hl 4 rfl) ?_
          refine lv_iload hx hb dX11_meanOf_33 (lv_at hl 0 rfl) ?_
          refine cga (rn_V (As := [.int g3, .int g67]) (rest := []) (b := o) (m_rowAt l D Y Z H.size o a I J F G  g3 g67 (show (0 ≤ g3.toInt ∧ g3.toInt ≤ 11) by omega) (show (0 ≤ g67.toInt ∧ g67.toInt ≤ 599) by omega) hk0) ⟨hx, hb, hml, hown, hg⟩ lk_X11_130 ⟨CP.blind, va_recv hKN.1 hP (ci := 11) (q0 := 0) rfl rfl, CP.at hP hKN hD⟩ ⟨⟨rfl, rfl⟩, ⟨Nat.le_of_ble_eq_true rfl, Nat.le_of_ble_eq_true rfl⟩, ⟨Nat.le_of_ble_eq_true rfl, Nat.le_of_ble_eq_true rfl⟩⟩ hl.1 rfl (Nat.le_of_ble_eq_true rfl) dX11_meanOf_35) hP hD hS hA (fun u176 H locs w177 hP hD hS => ?_)
          have w177 : (-100000 ≤ u176.toInt ∧ u176.toInt ≤ 100000) := w177
          have hw179 := w177
          refine W.eq (g2 := F0 m 38 ls [.int u176]) rfl ?_
          have hP : va_P D vwCl (MW Y o a I J F G) H := hP
          have hD : va_D A (MW Y o a I J F G) := hD
          refine lv_ldc (v := (-100000)) hx hb hown (hg _ kw_1367) dX11_meanOf_38 ?_
          refine w_join (σ := Int32 × Int64) (pcJ := 62) (kJ := 0) (nJ := 0) (stk := fun xx => match xx with | (g188, g189) => []) (fun xx H locs ls => match xx with | (g188, g189) => va_P D vwCl (MW Y o a I J F G) H ∧ va_D A (MW Y o a I J F G) ∧ va_S A s.heap H locs ∧ lv_has ls 8 [(6, .int g188), (4, .long g189), (7, .int g67), (0, .ref o), (1, .int g3), (2, .int g4), (3, .int g5)]) (fun xx H locs ls hI => ?_) (fun jn190 => ?_)
          · skip
            obtain ⟨g188, g189⟩ := xx
            obtain ⟨hP, hD, hS, hl⟩ := hI
            refine W.eq (g2 := F0 m 62 ls []) rfl ?_
            obtain ⟨v191, ev191⟩ : ∃ y : Int32, y = g67 + 1 := ⟨_, rfl⟩
            have hv191 := i_add (Eq.refl g67.toInt) (show (1 : Int32).toInt = 1 by decide) ev191 (by omega) (by omega)
            refine lv_iinc (v := v191) (lv' := [(7, .int v191), (6, .int g188), (4, .long g189), (0, .ref o), (1, .int g3), (2, .int g4), (3, .int g5)]) hx hb dX11_meanOf_62 hl (k := 2) rfl (by rw [ev191]; rfl) (by decide) rfl (fun ls hl => ?_)
            refine lv_goto (tgt := 17) hx hb dX11_meanOf_65 (by decide) ?_
            exact ih128 (v191, g188, g189) H locs ls (by show (600 - v191.toInt).toNat < (600 - g67.toInt).toNat; omega) ⟨hP, hD, hS, lv_sub hl [0, 1, 2, 3, 4, 5, 6] rfl, by omega⟩
          · skip
            refine lv_icmp_ne (tgt := 46) hx hb dX11_meanOf_40 (by decide) (fun c192 => ?_) (fun c192 => ?_)
            · skip
              have c192 := i_ne (Eq.refl u176.toInt) (show ((-100000) : Int32).toInt = -100000 by decide) c192
              refine lv_lload hx hb dX11_meanOf_46 (lv_at hl 2 rfl) ?_
              refine lv_aload_n hx hb dX11_meanOf_48 rfl (lv_at hl 3 rfl) ?_
              refine lv_iload_n hx hb dX11_meanOf_49 rfl (lv_at hl 4 rfl) ?_
              refine lv_iload hx hb dX11_meanOf_50 (lv_at hl 0 rfl) ?_
              refine cga (rn_V (As := [.int g3, .int g67]) (rest := [.long g69]) (b := o) (m_rowAt l D Y Z H.size o a I J F G  g3 g67 (show (0 ≤ g3.toInt ∧ g3.toInt ≤ 11) by omega) (show (0 ≤ g67.toInt ∧ g67.toInt ≤ 599) by omega) hk0) ⟨hx, hb, hml, hown, hg⟩ lk_X11_130 ⟨CP.blind, va_recv hKN.1 hP (ci := 11) (q0 := 0) rfl rfl, CP.at hP hKN hD⟩ ⟨⟨rfl, rfl⟩, ⟨Nat.le_of_ble_eq_true rfl, Nat.le_of_ble_eq_true rfl⟩, ⟨Nat.le_of_ble_eq_true rfl, Nat.le_of_ble_eq_true rfl⟩⟩ hl.1 rfl (Nat.le_of_ble_eq_true rfl) dX11_meanOf_52) hP hD hS hA (fun u193 H locs w194 hP hD hS => ?_)
              have w194 : (-100000 ≤ u193.toInt ∧ u193.toInt ≤ 100000) := w194
              have hw196 := w194
              refine W.eq (g2 := F0 m 55 ls [.int u193, .long g69]) rfl ?_
              have hP : va_P D vwCl (MW Y o a I J F G) H := hP
              have hD : va_D A (MW Y o a I J F G) := hD
              have j197 := Int32.toInt_toInt64 u193
              refine lv_i2l (v := u193.toInt64) hx hb dX11_meanOf_55 (rfl) ?_
              refine lv_ladd hx hb dX11_meanOf_56 ?_
              refine lv_topl (fun v198 ev198 => ?_)
              refine lv_lstore (lv' := [(4, .long v198), (7, .int g67), (6, .int g68), (0, .ref o), (1, .int g3), (2, .int g4), (3, .int g5)]) hx hb dX11_meanOf_57 hl (by decide) rfl (fun ls hl => ?_)
              obtain ⟨v199, ev199⟩ : ∃ y : Int32, y = g68 + 1 := ⟨_, rfl⟩
              refine lv_iinc (v := v199) (lv' := [(6, .int v199), (4, .long v198), (7, .int g67), (0, .ref o), (1, .int g3), (2, .int g4), (3, .int g5)]) hx hb dX11_meanOf_59 hl (k := 2) rfl (by rw [ev199]; rfl) (by decide) rfl (fun ls hl => ?_)
              refine W.widen (k := 0) (n := 0) (Nat.le_of_ble_eq_true rfl) (Nat.le_of_ble_eq_true rfl) ?_
              exact jn190 (v199, v198) H locs ls ⟨hP, hD, hS, lv_sub hl [0, 1, 2, 3, 4, 5, 6] rfl⟩
            · skip
              have c192 := i_eq (Eq.refl u176.toInt) (show ((-100000) : Int32).toInt = -100000 by decide) c192
              refine lv_goto (tgt := 62) hx hb dX11_meanOf_43 (by decide) ?_
              refine W.widen (k := 0) (n := 0) (Nat.le_of_ble_eq_true rfl) (Nat.le_of_ble_eq_true rfl) ?_
              exact jn190 (g68, g69) H locs ls ⟨hP, hD, hS, lv_sub hl [1, 2, 0, 3, 4, 5, 6] rfl⟩
  · skip
    have j200 := rgI p2
    refine lv_if_ge (tgt := 14) hx hb dX11_meanOf_7 (by decide) (fun c201 => ?_) (fun c201 => ?_)
    · skip
      have c201 := i_le (show (0 : Int32).toInt = 0 by decide) (Eq.refl p2.toInt) c201
      refine lv_iload_n hx hb dX11_meanOf_14 rfl (lv_at hl 4 rfl) ?_
      have zi0 : (0 : Int32).toInt = 0 := by decide
      have zl0 : (0 : Int64).toInt = 0 := by decide
      refine W.widen (k := 0) (n := 0) (Nat.le_of_ble_eq_true rfl) (Nat.le_of_ble_eq_true rfl) ?_
      exact jn7 (p1, p2, p3, p2) H locs ls ⟨hP, hD, hS, lv_sub hl [0, 1, 2, 3, 4, 5] rfl, by omega, by omega⟩
    · skip
      have c201 := i_nle (show (0 : Int32).toInt = 0 by decide) (Eq.refl p2.toInt) c201
      refine lv_iconst (v := 0) hx hb dX11_meanOf_10 (by decide) ?_
      refine lv_goto (tgt := 15) hx hb dX11_meanOf_11 (by decide) ?_
      have zi0 : (0 : Int32).toInt = 0 := by decide
      have zl0 : (0 : Int64).toInt = 0 := by decide
      refine W.widen (k := 0) (n := 0) (Nat.le_of_ble_eq_true rfl) (Nat.le_of_ble_eq_true rfl) ?_
      exact jn7 (p1, p2, p3, 0) H locs ls ⟨hP, hD, hS, lv_sub hl [0, 1, 2, 3, 4, 5] rfl, by omega, by omega⟩
