set_option maxHeartbeats 4000000 in
set_option maxRecDepth 100000 in
theorem m_nights (l : Launch) (D : va_G) (Y : Nat → ClassId) (Z : Nat → Nat) (sz : Nat) (o : Nat) (a : Nat → Nat) (I : Nat → Int32) (J : Nat → Int64) (F : Nat → Nat → Int32) (G : Nat → Nat → Int64) (p1 : Int32) (p2 : Int32) (hk0 : TO (F 0)) : Met l yX11_nights (.code yX11_nights cX11_nights 10 (some .int) :: GW) ({ frames := 1, cells := 0, slots := 0, locals := 25 }) (va_Pc [.ref o, .int p1, .int p2] (CP D Y Z (MW Y o a I J F G) sz)) (QG (S := Int32) (fun u => some (.int u)) (fun u => True) (fun u => CB D (MW Y o a I J F G) (va_A (MW Y o a I J F G) sz)) (va_A (MW Y o a I J F G) sz)) 0 0 (va_A (MW Y o a I J F G) sz) := by
  refine Met.ofW (cc := cX11_nights) (maxL := 10) (ret := (some .int)) (by decide) rfl ?_
  intro p e s m args below meth c s₁ B hml hv
  obtain ⟨rfl, hsz, hP, hKN, hD0⟩ := hv
  have hx := B.exec
  have hb := B.bytes
  have hr := B.returns
  have hts := atoms_spec (ws := .code yX11_nights cX11_nights 10 (some .int) :: GW) B.pre
  have hg : ∀ w ∈ GW, w.before _ s = true := fun w h => hts w (List.mem_cons_of_mem _ h)
  have hown : s.vm.findClass RX11 = some m.cls := findClass_of_methodNamed B.named
  have hlocks := B.notSynchronized
  subst hsz
  have hD := hD0.self (sz := s.heap.size)
  generalize hAe : va_A (MW Y o a I J F G) s.heap.size = A at hD ⊢
  have hA : ∀ q : Nat, s.heap.size ≤ q → A q := fun q h => by rw [← hAe]; exact Or.inr h
  clear hAe hD0 hts B
  have hl := lv_entry ([.ref o, .int p1, .int p2]) (n := 10) (Nat.le_of_ble_eq_true rfl)
  rw [lg_entry_eq]
  generalize (lg_sl ([.ref o, .int p1, .int p2]) ++ List.replicate (10 - (lg_sl ([.ref o, .int p1, .int p2])).length) Slot.unset).toArray = ls at hl ⊢
  have hl : lv_has ls 10 [(0, .ref o), (1, .int p1), (2, .int p2)] := hl
  refine w_start (A0 := A) hP (fun H locs hP hS => ?_)
  refine lv_iload_n hx hb dX11_nights_0 rfl (lv_at hl 1 rfl) ?_
  have j1 := rgI p1
  have j2 := Int32.toInt_toInt64 p1
  refine lv_i2l (v := p1.toInt64) hx hb dX11_nights_1 (rfl) ?_
  refine lv_lconst (v := 0) hx hb dX11_nights_2 (by decide) ?_
  refine lv_ldc2 (v := 9999) hx hb hown (hg _ kw_1899) dX11_nights_3 ?_
  have zl0 : (0 : Int64).toInt = 0 := by decide
  have zl9999 : (9999 : Int64).toInt = 9999 := by decide
  refine cg0 (rn_S (As := [.long p1.toInt64, .long 0, .long 9999]) (rest := []) (m_in l D Y Z H.size   p1.toInt64 0 9999 ) ⟨hx, hb, hml, hown, hg⟩ lk_X11_99 ⟨CP.blind, CP.at nilP hKN (nilD (A := fun _ => True))⟩ ⟨⟨rfl, rfl⟩, ⟨Nat.le_of_ble_eq_true rfl, Nat.le_of_ble_eq_true rfl⟩, ⟨Nat.le_of_ble_eq_true rfl, Nat.le_of_ble_eq_true rfl⟩⟩ hl.1 rfl (Nat.le_of_ble_eq_true rfl) dX11_nights_6) hP hS hA (fun u3 H locs w4 hP hS => ?_)
  have w4 : (((0 : Int64).toInt ≤ p1.toInt64.toInt ∧ p1.toInt64.toInt ≤ (9999 : Int64).toInt ∧ u3.toInt = 1) ∨ (¬ ((0 : Int64).toInt ≤ p1.toInt64.toInt ∧ p1.toInt64.toInt ≤ (9999 : Int64).toInt) ∧ u3.toInt = 0)) ∧ (0 ≤ u3.toInt ∧ u3.toInt ≤ 1) := w4
  obtain ⟨hw6, hw7⟩ := w4
  refine W.eq (g2 := F0 m 9 ls [.int u3]) rfl ?_
  rcases (show u3.toInt = 1 ∨ u3.toInt = 0 by omega) with c8 | c8
  · obtain rfl : u3 = 1 := i_is c8 (by decide)
    have zi1 : (1 : Int32).toInt = 1 := by decide
    refine W.eq (g2 := F0 m 9 ls [.int 1]) rfl ?_
    refine lv_if_eq (tgt := 22) hx hb dX11_nights_9 (by decide) (fun c9 => ?_) (fun c9 => ?_)
    · exact absurd c9 (by decide)
    refine lv_iload_n hx hb dX11_nights_12 rfl (lv_at hl 2 rfl) ?_
    have j10 := rgI p2
    have j11 := Int32.toInt_toInt64 p2
    refine lv_i2l (v := p2.toInt64) hx hb dX11_nights_13 (rfl) ?_
    refine lv_lconst (v := 0) hx hb dX11_nights_14 (by decide) ?_
    refine lv_lconst (v := 1) hx hb dX11_nights_15 (by decide) ?_
    have zl1 : (1 : Int64).toInt = 1 := by decide
    refine cg0 (rn_S (As := [.long p2.toInt64, .long 0, .long 1]) (rest := []) (m_in l D Y Z H.size   p2.toInt64 0 1 ) ⟨hx, hb, hml, hown, hg⟩ lk_X11_99 ⟨CP.blind, CP.at nilP hKN (nilD (A := fun _ => True))⟩ ⟨⟨rfl, rfl⟩, ⟨Nat.le_of_ble_eq_true rfl, Nat.le_of_ble_eq_true rfl⟩, ⟨Nat.le_of_ble_eq_true rfl, Nat.le_of_ble_eq_true rfl⟩⟩ hl.1 rfl (Nat.le_of_ble_eq_true rfl) dX11_nights_16) hP hS hA (fun u12 H locs w13 hP hS => ?_)
    have w13 : (((0 : Int64).toInt ≤ p2.toInt64.toInt ∧ p2.toInt64.toInt ≤ (1 : Int64).toInt ∧ u12.toInt = 1) ∨ (¬ ((0 : Int64).toInt ≤ p2.toInt64.toInt ∧ p2.toInt64.toInt ≤ (1 : Int64).toInt) ∧ u12.toInt = 0)) ∧ (0 ≤ u12.toInt ∧ u12.toInt ≤ 1) := w13
    obtain ⟨hw15, hw16⟩ := w13
    refine W.eq (g2 := F0 m 19 ls [.int u12]) rfl ?_
    rcases (show u12.toInt = 1 ∨ u12.toInt = 0 by omega) with c17 | c17
    · obtain rfl : u12 = 1 := i_is c17 (by decide)
      refine W.eq (g2 := F0 m 19 ls [.int 1]) rfl ?_
      refine lv_if_ne (tgt := 24) hx hb dX11_nights_19 (by decide) (fun c18 => ?_) (fun c18 => ?_)
      rotate_left
      · exact absurd c18 (by decide)
      refine lv_iconst (v := 0) hx hb dX11_nights_24 (by decide) ?_
      refine lv_istore_n (lv' := [(3, .int 0), (0, .ref o), (1, .int p1), (2, .int p2)]) hx hb dX11_nights_25 rfl hl (by decide) rfl (fun ls hl => ?_)
      refine lv_iconst (v := 0) hx hb dX11_nights_26 (by decide) ?_
      refine lv_istore (lv' := [(4, .int 0), (3, .int 0), (0, .ref o), (1, .int p1), (2, .int p2)]) hx hb dX11_nights_27 hl (by decide) rfl (fun ls hl => ?_)
      refine lv_iconst (v := 0) hx hb dX11_nights_29 (by decide) ?_
      refine lv_istore (lv' := [(5, .int 0), (4, .int 0), (3, .int 0), (0, .ref o), (1, .int p1), (2, .int p2)]) hx hb dX11_nights_30 hl (by decide) rfl (fun ls hl => ?_)
      refine lv_iconst (v := 1) hx hb dX11_nights_32 (by decide) ?_
      refine lv_istore (lv' := [(6, .int 1), (5, .int 0), (4, .int 0), (3, .int 0), (0, .ref o), (1, .int p1), (2, .int p2)]) hx hb dX11_nights_33 hl (by decide) rfl (fun ls hl => ?_)
      have zi0 : (0 : Int32).toInt = 0 := by decide
      refine w_loop (σ := Int32 × Int32 × Int32 × Int32) (fun xx H locs ls => match xx with | (g323, g324, g325, g326) => va_P D vwCl (MW Y o a I J F G) H ∧ va_D A (MW Y o a I J F G) ∧ va_S A s.heap H locs ∧ lv_has ls 10 [(6, .int g323), (5, .int g324), (4, .int g325), (3, .int g326), (0, .ref o), (1, .int p1), (2, .int p2)] ∧ (1 ≤ g323.toInt)) (fun xx => match xx with | (g323, g324, g325, g326) => (2147483647 - g323.toInt).toNat) (1, 0, 0, 0) ⟨hP, hD, hS, lv_sub hl [0, 1, 2, 3, 4, 5, 6] rfl, by omega⟩ (fun xx H locs ls hI ih => ?_)
      obtain ⟨g323, g324, g325, g326⟩ := xx
      obtain ⟨hP, hD, hS, hl, hq637⟩ := hI
      have ih638 := ih
      refine lv_iload hx hb dX11_nights_35 (lv_at hl 0 rfl) ?_
      refine lv_iconst (v := 1) hx hb dX11_nights_37 (by decide) ?_
      refine lv_aload_n hx hb dX11_nights_38 rfl (lv_at hl 4 rfl) ?_
      refine va_get (D := D) (ci := 11) (v := .ref (a 0)) (C := RX11) (T := TX11) (N := 49) hx hb hg inGX11 hown hKN.1 hP 0 rfl rfl 0 (by decide) (hg _ kw_1208) (fun _ h9 => h9) rfl dX11_nights_39 ?_
      refine lv_iconst (v := 2) hx hb dX11_nights_42 (by decide) ?_
      refine va_iald hx hb hKN.1 hP 1 0 rfl rfl (show ¬ ((2 : Int32) < 0 ∨ 7533 ≤ (2 : Int32).toNatClampNeg) by decide) dX11_nights_43 ?_
      refine lv_topi (fun v639 ev639 => ?_)
      have ev639 : v639 = (F 0) 2 := ev639
      have kv639 := TO_2 hk0
      rw [← ev639] at kv639
      have qv639 := congrArg Int32.toInt ev639
      refine lv_ishl hx hb dX11_nights_44 ?_
      refine lv_topi (fun v640 ev640 => ?_)
      have j795 := rgI g323
      have j796 := rgI v640
      refine lv_icmp_ge (tgt := 177) hx hb dX11_nights_45 (by decide) (fun c797 => ?_) (fun c797 => ?_)
      · skip
        have c797 := i_le (Eq.refl v640.toInt) (Eq.refl g323.toInt) c797
        refine lv_iload_n hx hb dX11_nights_177 rfl (lv_at hl 6 rfl) ?_
        refine lv_if_ne (tgt := 185) hx hb dX11_nights_178 (by decide) (fun c799 => ?_) (fun c799 => ?_)
        · skip
          have c799 := i_ne (Eq.refl p2.toInt) (show (0 : Int32).toInt = 0 by decide) c799
          refine lv_iload hx hb dX11_nights_185 (lv_at hl 2 rfl) ?_
          refine W.widen (k := 0) (n := 0) (Nat.le_of_ble_eq_true rfl) (Nat.le_of_ble_eq_true rfl) ?_
          exact W.iret (v := g325) hx hb hr (fun t ht hW => ⟨⟨g325, rfl, trivial, CB.mk ht hP hD⟩, hS.F ht⟩) hS.2.2 dX11_nights_187
        · skip
          have c799 := i_eq (Eq.refl p2.toInt) (show (0 : Int32).toInt = 0 by decide) c799
          refine lv_iload_n hx hb dX11_nights_181 rfl (lv_at hl 3 rfl) ?_
          refine lv_goto (tgt := 187) hx hb dX11_nights_182 (by decide) ?_
          refine W.widen (k := 0) (n := 0) (Nat.le_of_ble_eq_true rfl) (Nat.le_of_ble_eq_true rfl) ?_
          exact W.iret (v := g326) hx hb hr (fun t ht hW => ⟨⟨g326, rfl, trivial, CB.mk ht hP hD⟩, hS.F ht⟩) hS.2.2 dX11_nights_187
      · skip
        have c797 := i_nle (Eq.refl v640.toInt) (Eq.refl g323.toInt) c797
        refine lv_iconst (v := 0) hx hb dX11_nights_48 (by decide) ?_
        refine lv_istore (lv' := [(7, .int 0), (6, .int g323), (5, .int g324), (4, .int g325), (3, .int g326), (0, .ref o), (1, .int p1), (2, .int p2)]) hx hb dX11_nights_49 hl (by decide) rfl (fun ls hl => ?_)
        refine lv_iconst (v := 0) hx hb dX11_nights_51 (by decide) ?_
        refine lv_istore (lv' := [(8, .int 0), (7, .int 0), (6, .int g323), (5, .int g324), (4, .int g325), (3, .int g326), (0, .ref o), (1, .int p1), (2, .int p2)]) hx hb dX11_nights_52 hl (by decide) rfl (fun ls hl => ?_)
        refine lv_iconst (v := 0) hx hb dX11_nights_54 (by decide) ?_
        refine lv_istore (lv' := [(9, .int 0), (8, .int 0), (7, .int 0), (6, .int g323), (5, .int g324), (4, .int g325), (3, .int g326), (0, .ref o), (1, .int p1), (2, .int p2)]) hx hb dX11_nights_55 hl (by decide) rfl (fun ls hl => ?_)
        have zi0 : (0 : Int32).toInt = 0 := by decide
        refine w_loop (σ := Int32 × Int32 × Int32) (fun xx H locs ls => match xx with | (g843, g844, g845) => va_P D vwCl (MW Y o a I J F G) H ∧ va_D A (MW Y o a I J F G) ∧ va_S A s.heap H locs ∧ lv_has ls 10 [(9, .int g843), (8, .int g844), (7, .int g845), (6, .int g323), (5, .int g324), (4, .int g325), (3, .int g326), (0, .ref o), (1, .int p1), (2, .int p2)] ∧ (0 ≤ g843.toInt ∧ g843.toInt ≤ 12)) (fun xx => match xx with | (g843, g844, g845) => (12 - g843.toInt).toNat) (0, 0, 0) ⟨hP, hD, hS, lv_sub hl [0, 1, 2, 3, 4, 5, 6, 7, 8, 9] rfl, by omega⟩ (fun xx H locs ls hI ih => ?_)
        obtain ⟨g843, g844, g845⟩ := xx
        obtain ⟨hP, hD, hS, hl, hq887⟩ := hI
        have ih888 := ih
        refine lv_iload hx hb dX11_nights_57 (lv_at hl 0 rfl) ?_
        refine lv_aload_n hx hb dX11_nights_59 rfl (lv_at hl 7 rfl) ?_
        refine va_get (D := D) (ci := 11) (v := .ref (a 0)) (C := RX11) (T := TX11) (N := 49) hx hb hg inGX11 hown hKN.1 hP 0 rfl rfl 0 (by decide) (hg _ kw_1208) (fun _ h9 => h9) rfl dX11_nights_60 ?_
        refine lv_iconst (v := 2) hx hb dX11_nights_63 (by decide) ?_
        refine va_iald hx hb hKN.1 hP 1 0 rfl rfl (show ¬ ((2 : Int32) < 0 ∨ 7533 ≤ (2 : Int32).toNatClampNeg) by decide) dX11_nights_64 ?_
        refine lv_topi (fun v889 ev889 => ?_)
        have ev889 : v889 = (F 0) 2 := ev889
        have kv889 := TO_2 hk0
        rw [← ev889] at kv889
        have qv889 := congrArg Int32.toInt ev889
        refine lv_icmp_ge (tgt := 130) hx hb dX11_nights_65 (by decide) (fun c910 => ?_) (fun c910 => ?_)
        · skip
          have c910 := i_le (Eq.refl v889.toInt) (Eq.refl g843.toInt) c910
          refine lv_iload hx hb dX11_nights_130 (lv_at hl 2 rfl) ?_
          refine lv_iload_n hx hb dX11_nights_132 rfl (lv_at hl 8 rfl) ?_
          refine w_join (σ := Int32 × Int32 × Int32) (pcJ := 171) (kJ := 0) (nJ := 0) (stk := fun xx => match xx with | (g919, g920, g921) => []) (fun xx H locs ls => match xx with | (g919, g920, g921) => va_P D vwCl (MW Y o a I J F G) H ∧ va_D A (MW Y o a I J F G) ∧ va_S A s.heap H locs ∧ lv_has ls 10 [(9, .int g843), (8, .int g844), (7, .int g845), (6, .int g323), (5, .int g919), (4, .int g920), (3, .int g921), (0, .ref o), (1, .int p1), (2, .int p2)]) (fun xx H locs ls hI => ?_) (fun jn922 => ?_)
          · skip
            obtain ⟨g919, g920, g921⟩ := xx
            obtain ⟨hP, hD, hS, hl⟩ := hI
            refine W.eq (g2 := F0 m 171 ls []) rfl ?_
            obtain ⟨v923, ev923⟩ : ∃ y : Int32, y = g323 + 1 := ⟨_, rfl⟩
            have hv923 := i_add (Eq.refl g323.toInt) (show (1 : Int32).toInt = 1 by decide) ev923 (by omega) (by omega)
            refine lv_iinc (v := v923) (lv' := [(6, .int v923), (9, .int g843), (8, .int g844), (7, .int g845), (5, .int g919), (4, .int g920), (3, .int g921), (0, .ref o), (1, .int p1), (2, .int p2)]) hx hb dX11_nights_171 hl (k := 3) rfl (by rw [ev923]; rfl) (by decide) rfl (fun ls hl => ?_)
            refine lv_goto (tgt := 35) hx hb dX11_nights_174 (by decide) ?_
            exact ih638 (v923, g919, g920, g921) H locs ls (by show (2147483647 - v923.toInt).toNat < (2147483647 - g323.toInt).toNat; omega) ⟨hP, hD, hS, lv_sub hl [0, 4, 5, 6, 7, 8, 9] rfl, by omega⟩
          · skip
            have j924 := rgI g845
            refine lv_icmp_gt (tgt := 171) hx hb dX11_nights_133 (by decide) (fun c925 => ?_) (fun c925 => ?_)
            · skip
              have c925 := i_lt (Eq.refl p1.toInt) (Eq.refl g845.toInt) c925
              refine W.widen (k := 0) (n := 0) (Nat.le_of_ble_eq_true rfl) (Nat.le_of_ble_eq_true rfl) ?_
              exact jn922 (g324, g325, g326) H locs ls ⟨hP, hD, hS, lv_sub hl [0, 1, 2, 3, 4, 5, 6, 7, 8, 9] rfl⟩
            · skip
              have c925 := i_nlt (Eq.refl p1.toInt) (Eq.refl g845.toInt) c925
              refine lv_iload hx hb dX11_nights_136 (lv_at hl 1 rfl) ?_
              refine lv_iload hx hb dX11_nights_138 (lv_at hl 5 rfl) ?_
              have j926 := rgI g844
              have j927 := rgI g325
              refine lv_icmp_lt (tgt := 171) hx hb dX11_nights_140 (by decide) (fun c928 => ?_) (fun c928 => ?_)
              · skip
                have c928 := i_lt (Eq.refl g844.toInt) (Eq.refl g325.toInt) c928
                refine W.widen (k := 0) (n := 0) (Nat.le_of_ble_eq_true rfl) (Nat.le_of_ble_eq_true rfl) ?_
                exact jn922 (g324, g325, g326) H locs ls ⟨hP, hD, hS, lv_sub hl [0, 1, 2, 3, 4, 5, 6, 7, 8, 9] rfl⟩
              · skip
                have c928 := i_nlt (Eq.refl g844.toInt) (Eq.refl g325.toInt) c928
                refine lv_iload hx hb dX11_nights_143 (lv_at hl 1 rfl) ?_
                refine lv_iload hx hb dX11_nights_145 (lv_at hl 5 rfl) ?_
                refine lv_icmp_ne (tgt := 160) hx hb dX11_nights_147 (by decide) (fun c929 => ?_) (fun c929 => ?_)
                · skip
                  have c929 := i_ne (Eq.refl g844.toInt) (Eq.refl g325.toInt) c929
                  refine lv_iload hx hb dX11_nights_160 (lv_at hl 3 rfl) ?_
                  refine lv_istore_n (lv' := [(3, .int g323), (9, .int g843), (8, .int g844), (7, .int g845), (6, .int g323), (5, .int g324), (4, .int g325), (0, .ref o), (1, .int p1), (2, .int p2)]) hx hb dX11_nights_162 rfl hl (by decide) rfl (fun ls hl => ?_)
                  refine lv_iload hx hb dX11_nights_163 (lv_at hl 2 rfl) ?_
                  refine lv_istore (lv' := [(4, .int g844), (3, .int g323), (9, .int g843), (8, .int g844), (7, .int g845), (6, .int g323), (5, .int g324), (0, .ref o), (1, .int p1), (2, .int p2)]) hx hb dX11_nights_165 hl (by decide) rfl (fun ls hl => ?_)
                  refine lv_iload hx hb dX11_nights_167 (lv_at hl 4 rfl) ?_
                  refine lv_istore (lv' := [(5, .int g845), (4, .int g844), (3, .int g323), (9, .int g843), (8, .int g844), (7, .int g845), (6, .int g323), (0, .ref o), (1, .int p1), (2, .int p2)]) hx hb dX11_nights_169 hl (by decide) rfl (fun ls hl => ?_)
                  refine W.widen (k := 0) (n := 0) (Nat.le_of_ble_eq_true rfl) (Nat.le_of_ble_eq_true rfl) ?_
                  exact jn922 (g845, g844, g323) H locs ls ⟨hP, hD, hS, lv_sub hl [3, 4, 5, 6, 0, 1, 2, 7, 8, 9] rfl⟩
                · skip
                  have c929 := i_eq (Eq.refl g844.toInt) (Eq.refl g325.toInt) c929
                  refine lv_iload hx hb dX11_nights_150 (lv_at hl 2 rfl) ?_
                  refine lv_iload hx hb dX11_nights_152 (lv_at hl 4 rfl) ?_
                  have j930 := rgI g324
                  refine lv_icmp_lt (tgt := 160) hx hb dX11_nights_154 (by decide) (fun c931 => ?_) (fun c931 => ?_)
                  · skip
                    have c931 := i_lt (Eq.refl g845.toInt) (Eq.refl g324.toInt) c931
                    refine lv_iload hx hb dX11_nights_160 (lv_at hl 3 rfl) ?_
                    refine lv_istore_n (lv' := [(3, .int g323), (9, .int g843), (8, .int g844), (7, .int g845), (6, .int g323), (5, .int g324), (4, .int g325), (0, .ref o), (1, .int p1), (2, .int p2)]) hx hb dX11_nights_162 rfl hl (by decide) rfl (fun ls hl => ?_)
                    refine lv_iload hx hb dX11_nights_163 (lv_at hl 2 rfl) ?_
                    refine lv_istore (lv' := [(4, .int g844), (3, .int g323), (9, .int g843), (8, .int g844), (7, .int g845), (6, .int g323), (5, .int g324), (0, .ref o), (1, .int p1), (2, .int p2)]) hx hb dX11_nights_165 hl (by decide) rfl (fun ls hl => ?_)
                    refine lv_iload hx hb dX11_nights_167 (lv_at hl 4 rfl) ?_
                    refine lv_istore (lv' := [(5, .int g845), (4, .int g844), (3, .int g323), (9, .int g843), (8, .int g844), (7, .int g845), (6, .int g323), (0, .ref o), (1, .int p1), (2, .int p2)]) hx hb dX11_nights_169 hl (by decide) rfl (fun ls hl => ?_)
                    refine W.widen (k := 0) (n := 0) (Nat.le_of_ble_eq_true rfl) (Nat.le_of_ble_eq_true rfl) ?_
                    exact jn922 (g845, g844, g323) H locs ls ⟨hP, hD, hS, lv_sub hl [3, 4, 5, 6, 0, 1, 2, 7, 8, 9] rfl⟩
                  · skip
                    have c931 := i_nlt (Eq.refl g845.toInt) (Eq.refl g324.toInt) c931
                    refine lv_goto (tgt := 171) hx hb dX11_nights_157 (by decide) ?_
                    refine W.widen (k := 0) (n := 0) (Nat.le_of_ble_eq_true rfl) (Nat.le_of_ble_eq_true rfl) ?_
                    exact jn922 (g324, g325, g326) H locs ls ⟨hP, hD, hS, lv_sub hl [0, 1, 2, 3, 4, 5, 6, 7, 8, 9] rfl⟩
        · skip
          have c910 := i_nle (Eq.refl v889.toInt) (Eq.refl g843.toInt) c910
          refine lv_iload hx hb dX11_nights_68 (lv_at hl 2 rfl) ?_
          refine lv_iload hx hb dX11_nights_70 (lv_at hl 3 rfl) ?_
          refine lv_iload hx hb dX11_nights_72 (lv_at hl 0 rfl) ?_
          refine lv_ishr hx hb dX11_nights_74 ?_
          refine lv_topi (fun v932 ev932 => ?_)
          refine lv_iconst (v := 1) hx hb dX11_nights_75 (by decide) ?_
          refine lv_iand hx hb dX11_nights_76 ?_
          refine lv_topi (fun v933 ev933 => ?_)
          have hv933 := i_and (show (1 : Int32).toInt = 1 by decide) ev933 (by decide)
          refine lv_aload_n hx hb dX11_nights_77 rfl (lv_at hl 7 rfl) ?_
          refine va_get (D := D) (ci := 11) (v := .ref (a 0)) (C := RX11) (T := TX11) (N := 49) hx hb hg inGX11 hown hKN.1 hP 0 rfl rfl 0 (by decide) (hg _ kw_1208) (fun _ h9 => h9) rfl dX11_nights_78 ?_
          refine lv_sipush (v := 279) hx hb dX11_nights_81 (by decide) ?_
          refine lv_iconst (v := 3) hx hb dX11_nights_84 (by decide) ?_
          refine lv_iload hx hb dX11_nights_85 (lv_at hl 0 rfl) ?_
          refine lv_imul hx hb dX11_nights_87 ?_
          refine lv_topi (fun v934 ev934 => ?_)
          have hv934 := i_mul (show (3 : Int32).toInt = 3 by decide) (Eq.refl g843.toInt) ev934 (by omega) (by omega)
          refine lv_iadd hx hb dX11_nights_88 ?_
          refine lv_topi (fun v935 ev935 => ?_)
          have hv935 := i_add (show (279 : Int32).toInt = 279 by decide) (Eq.refl v934.toInt) ev935 (by omega) (by omega)
          refine lv_iconst (v := 1) hx hb dX11_nights_89 (by decide) ?_
          refine lv_iadd hx hb dX11_nights_90 ?_
          refine lv_topi (fun v936 ev936 => ?_)
          have hv936 := i_add (Eq.refl v935.toInt) (show (1 : Int32).toInt = 1 by decide) ev936 (by omega) (by omega)
          refine va_iald hx hb hKN.1 hP 1 0 rfl rfl (vp_in_iff.mpr ⟨by omega, by omega⟩) dX11_nights_91 ?_
          refine lv_topi (fun v937 ev937 => ?_)
          have ev937 : v937 = (F 0) v936.toNatClampNeg := ev937
          refine lv_imul hx hb dX11_nights_92 ?_
          refine lv_topi (fun v938 ev938 => ?_)
          have j939 := rgI v937
          have hv938 := i_mulR (a := 0) (b := 1) (c := -2147483648) (d := 2147483647) (lo := -2147483648) (hi := 2147483647) (Eq.refl v933.toInt) (Eq.refl v937.toInt) ev938 (by omega) (by omega) (by decide) (by decide)
          refine lv_iadd hx hb dX11_nights_93 ?_
          refine lv_topi (fun v940 ev940 => ?_)
          refine lv_istore (lv' := [(7, .int v940), (9, .int g843), (8, .int g844), (6, .int g323), (5, .int g324), (4, .int g325), (3, .int g326), (0, .ref o), (1, .int p1), (2, .int p2)]) hx hb dX11_nights_94 hl (by decide) rfl (fun ls hl => ?_)
          refine lv_iload hx hb dX11_nights_96 (lv_at hl 2 rfl) ?_
          refine lv_iload hx hb dX11_nights_98 (lv_at hl 3 rfl) ?_
          refine lv_iload hx hb dX11_nights_100 (lv_at hl 1 rfl) ?_
          refine lv_ishr hx hb dX11_nights_102 ?_
          refine lv_topi (fun v941 ev941 => ?_)
          refine lv_iconst (v := 1) hx hb dX11_nights_103 (by decide) ?_
          refine lv_iand hx hb dX11_nights_104 ?_
          refine lv_topi (fun v942 ev942 => ?_)
          have hv942 := i_and (show (1 : Int32).toInt = 1 by decide) ev942 (by decide)
          refine lv_aload_n hx hb dX11_nights_105 rfl (lv_at hl 7 rfl) ?_
          refine va_get (D := D) (ci := 11) (v := .ref (a 0)) (C := RX11) (T := TX11) (N := 49) hx hb hg inGX11 hown hKN.1 hP 0 rfl rfl 0 (by decide) (hg _ kw_1208) (fun _ h9 => h9) rfl dX11_nights_106 ?_
          refine lv_sipush (v := 279) hx hb dX11_nights_109 (by decide) ?_
          refine lv_iconst (v := 3) hx hb dX11_nights_112 (by decide) ?_
          refine lv_iload hx hb dX11_nights_113 (lv_at hl 1 rfl) ?_
          refine lv_imul hx hb dX11_nights_115 ?_
          refine lv_topi (fun v943 ev943 => ?_)
          have hv943 := i_mul (show (3 : Int32).toInt = 3 by decide) (Eq.refl g843.toInt) ev943 (by omega) (by omega)
          refine lv_iadd hx hb dX11_nights_116 ?_
          refine lv_topi (fun v944 ev944 => ?_)
          have hv944 := i_add (show (279 : Int32).toInt = 279 by decide) (Eq.refl v943.toInt) ev944 (by omega) (by omega)
          refine lv_iconst (v := 2) hx hb dX11_nights_117 (by decide) ?_
          refine lv_iadd hx hb dX11_nights_118 ?_
          refine lv_topi (fun v945 ev945 => ?_)
          have hv945 := i_add (Eq.refl v944.toInt) (show (2 : Int32).toInt = 2 by decide) ev945 (by omega) (by omega)
          refine va_iald hx hb hKN.1 hP 1 0 rfl rfl (vp_in_iff.mpr ⟨by omega, by omega⟩) dX11_nights_119 ?_
          refine lv_topi (fun v946 ev946 => ?_)
          have ev946 : v946 = (F 0) v945.toNatClampNeg := ev946
          refine lv_imul hx hb dX11_nights_120 ?_
          refine lv_topi (fun v947 ev947 => ?_)
          have j948 := rgI v946
          have hv947 := i_mulR (a := 0) (b := 1) (c := -2147483648) (d := 2147483647) (lo := -2147483648) (hi := 2147483647) (Eq.refl v942.toInt) (Eq.refl v946.toInt) ev947 (by omega) (by omega) (by decide) (by decide)
          refine lv_iadd hx hb dX11_nights_121 ?_
          refine lv_topi (fun v949 ev949 => ?_)
          refine lv_istore (lv' := [(8, .int v949), (7, .int v940), (9, .int g843), (6, .int g323), (5, .int g324), (4, .int g325), (3, .int g326), (0, .ref o), (1, .int p1), (2, .int p2)]) hx hb dX11_nights_122 hl (by decide) rfl (fun ls hl => ?_)
          obtain ⟨v950, ev950⟩ : ∃ y : Int32, y = g843 + 1 := ⟨_, rfl⟩
          have hv950 := i_add (Eq.refl g843.toInt) (show (1 : Int32).toInt = 1 by decide) ev950 (by omega) (by omega)
          refine lv_iinc (v := v950) (lv' := [(9, .int v950), (8, .int v949), (7, .int v940), (6, .int g323), (5, .int g324), (4, .int g325), (3, .int g326), (0, .ref o), (1, .int p1), (2, .int p2)]) hx hb dX11_nights_124 hl (k := 2) rfl (by rw [ev950]; rfl) (by decide) rfl (fun ls hl => ?_)
          refine lv_goto (tgt := 57) hx hb dX11_nights_127 (by decide) ?_
          exact ih888 (v950, v949, v940) H locs ls (by show (12 - v950.toInt).toNat < (12 - g843.toInt).toNat; omega) ⟨hP, hD, hS, lv_sub hl [0, 1, 2, 3, 4, 5, 6, 7, 8, 9] rfl, by omega⟩
    · obtain rfl : u12 = 0 := i_is c17 (by decide)
      have zi0 : (0 : Int32).toInt = 0 := by decide
      refine W.eq (g2 := F0 m 19 ls [.int 0]) rfl ?_
      refine lv_if_ne (tgt := 24) hx hb dX11_nights_19 (by decide) (fun c951 => ?_) (fun c951 => ?_)
      · exact absurd c951 (by decide)
      refine lv_iconst (v := (-1)) hx hb dX11_nights_22 (by decide) ?_
      refine W.widen (k := 0) (n := 0) (Nat.le_of_ble_eq_true rfl) (Nat.le_of_ble_eq_true rfl) ?_
      have zim1 : ((-1) : Int32).toInt = -1 := by decide
      exact W.iret (v := (-1)) hx hb hr (fun t ht hW => ⟨⟨(-1), rfl, trivial, CB.mk ht hP hD⟩, hS.F ht⟩) hS.2.2 dX11_nights_23
  · obtain rfl : u3 = 0 := i_is c8 (by decide)
    have zi0 : (0 : Int32).toInt = 0 := by decide
    refine W.eq (g2 := F0 m 9 ls [.int 0]) rfl ?_
    refine lv_if_eq (tgt := 22) hx hb dX11_nights_9 (by decide) (fun c952 => ?_) (fun c952 => ?_)
    rotate_left
    · exact absurd c952 (by decide)
    refine lv_iconst (v := (-1)) hx hb dX11_nights_22 (by decide) ?_
    refine W.widen (k := 0) (n := 0) (Nat.le_of_ble_eq_true rfl) (Nat.le_of_ble_eq_true rfl) ?_
    have zim1 : ((-1) : Int32).toInt = -1 := by decide
    exact W.iret (v := (-1)) hx hb hr (fun t ht hW => ⟨⟨(-1), rfl, trivial, CB.mk ht hP hD⟩, hS.F ht⟩) hS.2.2 dX11_nights_23

