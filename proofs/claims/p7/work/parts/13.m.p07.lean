set_option maxHeartbeats 4000000 in
set_option maxRecDepth 100000 in
theorem m_nights (l : Launch) (D : va_G) (Y : Nat → ClassId) (Z : Nat → Nat) (sz : Nat) (o : Nat) (a : Nat → Nat) (I : Nat → Int32) (J : Nat → Int64) (F : Nat → Nat → Int32) (G : Nat → Nat → Int64) (p1 : Int32) (p2 : Int32) (hk0 : TO (F 0)) : Met l yX11_nights (.code yX11_nights cX11_nights 10 (some .int) :: GW) ({ frames := 1, cells := 0, slots := 0, locals := 25 }) (va_Pc [.ref o, .int p1, .int p2] (CP D Y Z (MW Y o a I J F G) sz)) (QG (S := Int32) (fun u => some (.int u)) (fun u => True) (fun u => CB D (MW Y o a I J F G) (va_A (MW Y o a I J F G) sz)) (va_A (MW Y o a I J F G) sz)) 0 0 (va_A (MW Y o a I J F G) sz) := by
  refine Met.ofW (cc := cX11_nights) (maxL := 10) (ret := (some .int)) (by decide) rfl ?_
  intro p e s m args below meth c s₁ B hml hv
  obtain ⟨rfl, hsz, hP, hKN, hD0⟩ := hv
  have hx := B.exec
  have hb := B.bytes
  have hr := B.returns
  have hts := atoms_spec (ws := .code yX11_nights cX11_nights 10 (some .int) :: GW) B.pre
  have hg : ∀ w ∈ GW, w.before _ s = true := fun w h => hts w (List.mem_cons_of_mem _ h)
  have hown : s.vm.findClass RX11 = some m.cls := findClass_of_methodNamed B.named
  have hlocks := B.notSynchronized
  subst hsz
  have hD := hD0.self (sz := s.heap.size)
  generalize hAe : va_A (MW Y o a I J F G) s.heap.size = A at hD ⊢
  have hA : ∀ q : Nat, s.heap.size ≤ q → A q := fun q h => by rw [← hAe]; exact Or.inr h
  clear hAe hD0 hts B
  have hl := lv_entry ([.ref o, .int p1, .int p2]) (n := 10) (Nat.le_of_ble_eq_true rfl)
  rw [lg_entry_eq]
  generalize (lg_sl ([.ref o, .int p1, .int p2]) ++ List.replicate (10 - (lg_sl ([.ref o, .int p1, .int p2])).length) Slot.unset).toArray = ls at hl ⊢
  have hl : lv_has ls 10 [(0, .ref o), (1, .int p1), (2, .int p2)] := hl
  refine w_start (A0 := A) hP (fun H locs hP hS => ?_)
  refine lv_iload_n hx hb dX11_nights_0 rfl (lv_at hl 1 rfl) ?_
  have j1 := rgI p1
  have j2 := Int32.toInt_toInt64 p1
  refine lv_i2l (v := p1.toInt64) hx hb dX11_nights_1 (rfl) ?_
  refine lv_lconst (v := 0) hx hb dX11_nights_2 (by decide) ?_
  refine lv_ldc2 (v := 9999) hx hb hown (hg _ kw_1899) dX11_nights_3 ?_
  have zl0 : (0 : Int64).toInt = 0 := by decide
  have zl9999 : (9999 : Int64).toInt = 9999 := by decide
  refine cg0 (rn_S (As := [.long p1.toInt64, .long 0, .long 9999]) (rest := []) (m_in l D Y Z H.size   p1.toInt64 0 9999 ) ⟨hx, hb, hml, hown, hg⟩ lk_X11_99 ⟨CP.blind, CP.at nilP hKN (nilD (A := fun _ => True))⟩ ⟨⟨rfl, rfl⟩, ⟨Nat.le_of_ble_eq_true rfl, Nat.le_of_ble_eq_true rfl⟩, ⟨Nat.le_of_ble_eq_true rfl, Nat.le_of_ble_eq_true rfl⟩⟩ hl.1 rfl (Nat.le_of_ble_eq_true rfl) dX11_nights_6) hP hS hA (fun u3 H locs w4 hP hS => ?_)
  have w4 : (((0 : Int64).toInt ≤ p1.toInt64.toInt ∧ p1.toInt64.toInt ≤ (9999 : Int64).toInt ∧ u3.toInt = 1) ∨ (¬ ((0 : Int64).toInt ≤ p1.toInt64.toInt ∧ p1.toInt64.toInt ≤ (9999 : Int64).toInt) ∧ u3.toInt = 0)) ∧ (0 ≤ u3.toInt ∧ u3.toInt ≤ 1) := w4
  obtain ⟨hw6, hw7⟩ := w4
  refine W.eq (g2 := F0 m 9 ls [.int u3]) rfl ?_
  rcases (show u3.toInt = 1 ∨ u3.toInt = 0 by omega) with c8 | c8
  · obtain rfl : u3 = 1 := i_is c8 (by decide)
    have zi1 : (1 : Int32).toInt = 1 := by decide
    refine W.eq (g2 := F0 m 9 ls [.int 1]) rfl ?_
    refine lv_if_eq (tgt := 22) hx hb dX11_nights_9 (by decide) (fun c9 => ?_) (fun c9 => ?_)
    · exact absurd c9 (by decide)
    refine lv_iload_n hx hb dX11_nights_12 rfl (lv_at hl 2 rfl) ?_
    have j10 := rgI p2
    have j11 := Int32.toInt_toInt64 p2
    refine lv_i2l (v := p2.toInt64) hx hb dX11_nights_13 (rfl) ?_
    refine lv_lconst (v := 0) hx hb dX11_nights_14 (by decide) ?_
    refine lv_lconst (v := 1) hx hb dX11_nights_15 (by decide) ?_
    have zl1 : (1 : Int64).toInt = 1 := by decide
    refine cg0 (rn_S (As := [.long p2.toInt64, .long 0, .long 1]) (rest := []) (m_in l D Y Z H.size   p2.toInt64 0 1 ) ⟨hx, hb, hml, hown, hg⟩ lk_X11_99 ⟨CP.blind, CP.at nilP hKN (nilD (A := fun _ => True))⟩ ⟨⟨rfl, rfl⟩, ⟨Nat.le_of_ble_eq_true rfl, Nat.le_of_ble_eq_true rfl⟩, ⟨Nat.le_of_ble_eq_true rfl, Nat.le_of_ble_eq_true rfl⟩⟩ hl.1 rfl (Nat.le_of_ble_eq_true rfl) dX11_nights_16) hP hS hA (fun u12 H locs w13 hP hS => ?_)
    have w13 : (((0 : Int64).toInt ≤ p2.toInt64.toInt ∧ p2.toInt64.toInt ≤ (1 : Int64).toInt ∧ u12.toInt = 1) ∨ (¬ ((0 : Int64).toInt ≤ p2.toInt64.toInt ∧ p2.toInt64.toInt ≤ (1 : Int64).toInt) ∧ u12.toInt = 0)) ∧ (0 ≤ u12.toInt ∧ u12.toInt ≤ 1) := w13
    obtain ⟨hw15, hw16⟩ := w13
    refine W.eq (g2 := F0 m 19 ls [.int u12]) rfl ?_
    rcases (show u12.toInt = 1 ∨ u12.toInt = 0 by omega) with c17 | c17
    · obtain rfl : u12 = 1 := i_is c17 (by decide)
      refine W.eq (g2 := F0 m 19 ls [.int 1]) rfl ?_
      refine lv_if_ne (tgt := 24) hx hb dX11_nights_19 (by decide) (fun c18 => ?_) (fun c18 => ?_)
      rotate_left
      · exact absurd c18 (by decide)
      refine lv_iconst (v := 0) hx hb dX11_nights_24 (by decide) ?_
      refine lv_istore_n (lv' := [(3, .int 0), (0, .ref o), (1, .int p1), (2, .int p2)]) hx hb dX11_nights_25 rfl hl (by decide) rfl (fun ls hl => ?_)
      refine lv_iconst (v := 0) hx hb dX11_nights_26 (by decide) ?_
      refine lv_istore (lv' := [(4, .int 0), (3, .int 0), (0, .ref o), (1, .int p1), (2, .int p2)]) hx hb dX11_nights_27 hl (by decide) rfl (fun ls hl => ?_)
      refine lv_iconst (v := 0) hx hb dX11_nights_29 (by decide) ?_
      refine lv_istore (lv' := [(5, .int 0), (4, .int 0), (3, .int 0), (0, .ref o), (1, .int p1), (2, .int p2)]) hx hb dX11_nights_30 hl (by decide) rfl (fun ls hl => ?_)
      refine lv_iconst (v := 1) hx hb dX11_nights_32 (by decide) ?_
      refine lv_istore (lv' := [(6, .int 1), (5, .int 0), (4, .int 0), (3, .int 0), (0, .ref o), (1, .int p1), (2, .int p2)]) hx hb dX11_nights_33 hl (by decide) rfl (fun ls hl => ?_)
      have zi0 : (0 : Int32).toInt = 0 := by decide
      refine w_loop (σ := Int32 × Int32 × Int32 × Int32) (fun xx H locs ls => match xx with | (g323, g324, g325, g326) => va_P D vwCl (MW Y o a I J F G) H ∧ va_D A (MW Y o a I J F G) ∧ va_S A s.heap H locs ∧ lv_has ls 10 [(6, .int g323), (5, .int g324), (4, .int g325), (3, .int g326), (0, .ref o), (1, .int p1), (2, .int p2)] ∧ (1 ≤ g323.toInt)) (fun xx => match xx with | (g323, g324, g325, g326) => (2147483647 - g323.toInt).toNat) (1, 0, 0, 0) ⟨hP, hD, hS, lv_sub hl [0, 1, 2, 3, 4, 5, 6] rfl, by omega⟩ (fun xx H locs ls hI ih => ?_)
      obtain ⟨g323, g324, g325, g326⟩ := xx
      obtain ⟨hP, hD, hS, hl, hq637⟩ := hI
      have ih638 := ih
      refine lv_iload hx hb dX11_nights_35 (lv_at hl 0 rfl) ?_
      refine lv_iconst (v := 1) hx hb dX11_nights_37 (by decide) ?_
      refine lv_aload_n hx hb dX11_nights_38 rfl (lv_at hl 4 rfl) ?_
      refine va_get (D := D) (ci := 11) (v := .ref (a 0)) (C := RX11) (T := TX11) (N := 49) hx hb hg inGX11 hown hKN.1 hP 0 rfl rfl 0 (by decide) (hg _ kw_1208) (fun _ h9 => h9) rfl dX11_nights_39 ?_
      refine lv_iconst (v := 2) hx hb dX11_nights_42 (by decide) ?_
      refine va_iald hx hb hKN.1 hP 1 0 rfl rfl (show ¬ ((2 : Int32) < 0 ∨ 7533 ≤ (2 : Int32).toNatClampNeg) by decide) dX11_nights_43 ?_
      refine lv_topi (fun v639 ev639 => ?_)
      have ev639 : v639 = (F 0) 2 := ev639
      have kv639 := TO_2 hk0
      rw [← ev639] at kv639
      have qv639 := congrArg Int32.toInt ev639
      refine lv_ishl hx hb dX11_nights_44 ?_
      refine lv_topi (fun v640 ev640 => ?_)
      have j795 := rgI g323
      have j796 := rgI v640
      refine lv_icmp_ge (tgt := 177) hx hb dX11_nights_45 (by decide) (fun c797 => ?_) (fun c797 => ?_)
      · skip
        have c797 := i_le (Eq.refl v640.toInt) (Eq.refl g323.toInt) c797
        refine lv_iload_n hx hb dX11_nights_177 rfl (lv_at hl 6 rfl) ?_
        refine lv_if_ne (tgt := 185) hx hb dX11_nights_178 (by decide) (fun c799 => ?_) (fun c799 => ?_)
        · skip
          have c799 := i_ne (Eq.refl p2.toInt) (show (0 : Int32).toInt = 0 by decide) c799
          refine lv_iload hx hb dX11_nights_185 (lv_at hl 2 rfl) ?_
          refine W.widen (k := 0) (n := 0) (Nat.le_of_ble_eq_true rfl) (Nat.le_of_ble_eq_true rfl) ?_
          exact W.iret (v := g325) hx hb hr (fun t ht hW => ⟨⟨g325, rfl, trivial, CB.mk ht hP hD⟩, hS.F ht⟩) hS.2.2 dX11_nights_187
        · skip
          have c799 := i_eq (Eq.refl p2.toInt) (show (0 : Int32).toInt = 0 by decide) c799
          refine lv_iload_n hx hb dX11_nights_181 rfl (lv_at hl 3 rfl) ?_
          refine lv_goto (tgt := 187) hx hb dX11_nights_182 (by decide) ?_
          refine W.widen (k := 0) (n := 0) (Nat.le_of_ble_eq_true rfl) (Nat.le_of_ble_eq_true rfl) ?_
          exact W.iret (v := g326) hx hb hr (fun t ht hW => ⟨⟨g326, rfl, trivial, CB.mk ht hP hD⟩, hS.F ht⟩) hS.2.2 dX11_nights_187
      · skip
        have c797 := i_nle (Eq.refl v640.toInt) (Eq.refl g323.toInt) c797
        refine lv_iconst (v := 0) hx hb dX11_nights_48 (by decide) ?_
        refine lv_istore (lv' := [(7, .int 0), (6, .int g323), (5, .int g324), (4, .int g325), (3, .int g326), (0, .ref o), (1, .int p1), (2, .int p2)]) hx hb dX11_nights_49 hl (by decide) rfl (fun ls hl => ?_)
        refine lv_iconst (v := 0) hx hb dX11_nights_51 (by decide) ?_
        refine lv_istore (lv' := [(8, .int 0), (7, .int 0), (6, .int g323), (5, .int g324), (4, .int g325), (3, .int g326), (0, .ref o), (1, .int p1), (2, .int p2)]) hx hb dX11_nights_52 hl (by decide) rfl (fun ls hl => ?_)
        refine lv_iconst (v := 0) hx hb dX11_nights_54 (by decide) ?_
        refine lv_istore (lv' := [(9, .int 0), (8, .int 0), (7, .int 0), (6, .int g323), (5, .int g324), (4, .int g325), (3, .int g326), (0, .ref o), (1, .int p1), (2, .int p2)]) hx hb dX11_nights_55 hl (by decide) rfl (fun ls hl => ?_)
        have zi0 : (0 : Int32).toInt = 0 := by decide
        refine w_loop (σ := Int32 × Int32 × Int32) (fun xx H locs ls => match xx with | (g843, g844, g845) => va_P D vwCl (MW Y o a I J F G) H ∧ va_D A (MW Y o a I J F G) ∧ va_S A s.heap H locs ∧ lv_has ls 10 [(9, .int g843), (8, .int g844), (7, .int g845), (6, .int g323), (5, .int g324), (4, .int g325), (3, .int g326), (0, .ref o), (1, .int p1), (2, .int p2)] ∧ (0 ≤ g843.toInt ∧ g843.toInt ≤ 12)) (fun xx => match xx with | (g843, g844, g845) => (12 - g843.toInt).toNat) (0, 0, 0) ⟨hP, hD, hS, lv_sub hl [0, 1, 2, 3, 4, 5, 6, 7, 8, 9] rfl, by omega⟩ (fun xx H locs ls hI ih => ?_)
        obtain ⟨g843, g844, g845⟩ := xx
        obtain ⟨hP, hD, hS, hl, hq887⟩ := hI
        have ih888 := ih
        refine lv_iload hx hb dX11_nights_57 (lv_at hl 0 rfl) ?_
        refine lv_aload_n hx hb dX11_nights_59 rfl (lv_at hl 7 rfl) ?_
        refine va_get (D := D) (ci := 11) (v := .ref (a 0)) (C := RX11) (T := TX11) (N := 49) hx hb hg inGX11 hown hKN.1 hP 0 rfl rfl 0 (by decide) (hg _ kw_1208) (fun _ h9 => h9) rfl dX11_nights_60 ?_
        refine lv_iconst (v := 2) hx hb dX11_nights_63 (by decide) ?_
        refine va_iald hx hb hKN.1 hP 1 0 rfl rfl (show ¬ ((2 : Int32) < 0 ∨ 7533 ≤ (2 : Int32).toNatClampNeg) by decide) dX11_nights_64 ?_
        refine lv_topi (fun v889 ev889 => ?_)
        have ev889 : v889 = (F 0) 2 := ev889
        have kv889 := TO_2 hk0
        rw [← ev889] at kv889
        have qv889 := congrArg Int32.toInt ev889
        refine lv_icmp_ge (tgt := 130) hx hb dX11_nights_65 (by decide) (fun c910 => ?_) (fun c910 => ?_)
        · skip
          have c910 := i_le (Eq.refl v889.toInt) (Eq.refl g843.toInt) c910
          refine lv_iload hx hb dX11_nights_130 (lv_at hl 2 rfl) ?_
          refine lv_iload_n hx hb dX11_nights_132 rfl (lv_at hl 8 rfl) ?_
          refine w_join (σ := Int32 × Int32 × Int32) (pcJ := 171) (kJ := 0) (nJ := 0) (stk := fun xx => match xx with | (g919, g920, g921) => []) (fun xx H locs ls => match xx with | (g919, g920, g921) => va_P D vwCl (MW Y o a I J F G) H ∧ va_D A (MW Y o a I J F G) ∧ va_S A s.heap H locs ∧ lv_has ls 10 [(9, .int g843), (8, .int g844), (7, .int g845), (6, .int g323), (5, .int g919), (4, .int g920), (3, .int g921), (0, .ref o), (1, .int p1), (2, .int p2)]) (fun xx H locs ls hI => ?_) (fun jn922 => ?_)
          · skip
            obtain ⟨g919, g920, g921⟩ := xx
            obtain ⟨hP, hD, hS, hl⟩ := hI
            refine W.eq (g2 := F0 m 171 ls []) rfl ?_
            obtain ⟨v923, ev923⟩ : ∃ y : Int32, y = g323 + 1 := ⟨_, rfl⟩
            have hv923 := i_add (Eq.refl g323.toInt) (show (1 : Int32).toInt = 1 by decide) ev923 (by omega) (by omega)
            refine lv_iinc (v := v923) (lv' := [(6, .int v923), (9, .int g843), (8, .int g844), (7, .int g845), (5, .int g919), (4, .int g920), (3, .int g921), (0, .ref o), (1, .int p1), (2, .int p2)]) hx hb dX11_nights_171 hl (k := 3) rfl (by rw [ev923]; rfl) (by decide) rfl (fun ls hl => ?_)
            refine lv_goto (tgt := 35) hx hb dX11_nights_174 (by decide) ?_
            exact ih638 (v923, g919, g920, g921) H locs ls (by show (2147483647 - v923.toInt).toNat < (2147483647 - g323.toInt).toNat; omega) ⟨hP, hD, hS, lv_sub hl [0, 4, 5, 6, 7, 8, 9] rfl, by omega⟩
          · skip
            have j924 := rgI g845
            refine lv_icmp_gt (tgt := 171) hx hb dX11_nights_133 (by decide) (fun c925 => ?_) (fun c925 => ?_)
            · skip
              have c925 := i_lt (Eq.refl p1.toInt) (Eq.refl g845.toInt) c925
              refine W.widen (k := 0) (n := 0) (Nat.le_of_ble_eq_true rfl) (Nat.le_of_ble_eq_true rfl) ?_
              exact jn922 (g324, g325, g326) H locs ls ⟨hP, hD, hS, lv_sub hl [0, 1, 2, 3, 4, 5, 6, 7, 8, 9] rfl⟩
            · skip
              have c925 := i_nlt (Eq.refl p1.toInt) (Eq.refl g845.toInt) c925
              refine lv_iload hx hb dX11_nights_136 (lv_at hl 1 rfl) ?_
              refine lv_iload hx hb dX11_nights_138 (lv_at hl 5 rfl) ?_
              have j926 := rgI g844
              have j927 := rgI g325
              refine lv_icmp_lt (tgt := 171) hx hb dX11_nights_140 (by decide) (fun c928 => ?_) (fun c928 => ?_)
              · skip
                have c928 := i_lt (Eq.refl g844.toInt) (Eq.refl g325.toInt) c928
                refine W.widen (k := 0) (n := 0) (Nat.le_of_ble_eq_true rfl) (Nat.le_of_ble_eq_true rfl) ?_
                exact jn922 (g324, g325, g326) H locs ls ⟨hP, hD, hS, lv_sub hl [0, 1, 2, 3, 4, 5, 6, 7, 8, 9] rfl⟩
              · skip
                have c928 := i_nlt (Eq.refl g844.toInt) (Eq.refl g325.toInt) c928
                refine lv_iload hx hb dX11_nights_143 (lv_at hl 1 rfl) ?_
                refine lv_iload hx hb dX11_nights_145 (lv_at hl 5 rfl) ?_
                refine lv_icmp_ne (tgt := 160) hx hb dX11_nights_147 (by decide) (fun c929 => ?_) (fun c929 => ?_)
                · skip
                  have c929 := i_ne (Eq.refl g844.toInt) (Eq.refl g325.toInt) c929
                  refine lv_iload hx hb dX11_nights_160 (lv_at hl 3 rfl) ?_
                  refine lv_istore_n (lv' := [(3, .int g323), (9, .int g843), (8, .int g844), (7, .int g845), (6, .int g323), (5, .int g324), (4, .int g325), (0, .ref o), (1, .int p1), (2, .int p2)]) hx hb dX11_nights_162 rfl hl (by decide) rfl (fun ls hl => ?_)
                  refine lv_iload hx hb dX11_nights_163 (lv_at hl 2 rfl) ?_
                  refine lv_istore (lv' := [(4, .int g844), (3, .int g323), (9, .int g843), (8, .int g844), (7, .int g845), (6, .int g323), (5, .int g324), (0, .ref o), (1, .int p1), (2, .int p2)]) hx hb dX11_nights_165 hl (by decide) rfl (fun ls hl => ?_)
                  refine lv_iload hx hb dX11_nights_167 (lv_at hl 4 rfl) ?_
                  refine lv_istore (lv' := [(5, .int g845), (4, .int g844), (3, .int g323), (9, .int g843), (8, .int g844), (7, .int g845), (6, .int g323), (0, .ref o), (1, .int p1), (2, .int p2)]) hx hb dX11_nights_169 hl (by decide) rfl (fun ls hl => ?_)
                  refine W.widen (k := 0) (n := 0) (Nat.le_of_ble_eq_true rfl) (Nat.le_of_ble_eq_true rfl) ?_
                  exact jn922 (g845, g844, g323) H locs ls ⟨hP, hD, hS, lv_sub hl [3, 4, 5, 6, 0, 1, 2, 7, 8, 9] rfl⟩
                · skip
                  have c929 := i_eq (Eq.refl g844.toInt) (Eq.refl g325.toInt) c929
                  refine lv_iload hx hb dX11_nights_150 (lv_at hl 2 rfl) ?_
                  refine lv_iload hx hb dX11_nights_152 (lv_at hl 4 rfl) ?_
                  have j930 := rgI g324
                  refine lv_icmp_lt (tgt := 160) hx hb dX11_nights_154 (by decide) (fun c931 => ?_) (fun c931 => ?_)
                  · skip
                    have c931 := i_lt (Eq.refl g845.toInt) (Eq.refl g324.toInt) c931
                    refine lv_iload hx hb dX11_nights_160 (lv_at hl 3 rfl) ?_
                    refine lv_istore_n (lv' := [(3, .int g323), (9, .int g843), (8, .int g844), (7, .int g845), (6, .int g323), (5, .int g324), (4, .int g325), (0, .ref o), (1, .int p1), (2, .int p2)]) hx hb dX11_nights_162 rfl hl (by decide) rfl (fun ls hl => ?_)
                    refine lv_iload hx hb dX11_nights_163 (lv_at hl 2 rfl) ?_
                    refine lv_istore (lv' := [(4, .int g844), (3, .int g323), (9, .int g843), (8, .int g844), (7, .int g845), (6, .int g323), (5, .int g324), (0, .ref o), (1, .int p1), (2, .int p2)]) hx hb dX11_nights_165 hl (by decide) rfl (fun ls hl => ?_)
                    refine lv_iload hx hb dX11_nights_167 (lv_at hl 4 rfl) ?_
                    refine lv_istore (lv' := [(5, .int g845), (4, .int g844), (3, .int g323), (9, .int g843), (8, .int g844), (7, .int g845), (6, .int g323), (0, .ref o), (1, .int p1), (2, .int p2)]) hx hb dX11_nights_169 hl (by decide) rfl (fun ls hl => ?_)
                    refine W.widen (k := 0) (n := 0) (Nat.le_of_ble_eq_true rfl) (Nat.le_of_ble_eq_true rfl) ?_
                    exact jn922 (g845, g844, g323) H locs ls ⟨hP, hD, hS, lv_sub hl [3, 4, 5, 6, 0, 1, 2, 7, 8, 9] rfl⟩
                  · skip
                    have c931 := i_nlt (Eq.refl g845.toInt) (Eq.refl g324.toInt) c931
                    refine lv_goto (tgt := 171) hx hb dX11_nights_157 (by decide) ?_
                    refine W.widen (k := 0) (n := 0) (Nat.le_of_ble_eq_true rfl) (Nat.le_of_ble_eq_true rfl) ?_
                    exact jn922 (g324, g325, g326) H locs ls ⟨hP, hD, hS, lv_sub hl [0, 1, 2, 3, 4, 5, 6, 7, 8, 9] rfl⟩
        · skip
          have c910 := i_nle (Eq.refl v889.toInt) (Eq.refl g843.toInt) c910
          refine lv_iload hx hb dX11_nights_68 (lv_at hl 2 rfl) ?_
          refine lv_iload hx hb dX11_nights_70 (lv_at hl 3 rfl) ?_
          refine lv_iload hx hb dX11_nights_72 (lv_at hl 0 rfl) ?_
          refine lv_ishr hx hb dX11_nights_74 ?_
          refine lv_topi (fun v932 ev932 => ?_)
          refine lv_iconst (v := 1) hx hb dX11_nights_75 (by decide) ?_
          refine lv_iand hx hb dX11_nights_76 ?_
          refine lv_topi (fun v933 ev933 => ?_)
          have hv933 := i_and (show (1 : Int32).toInt = 1 by decide) ev933 (by decide)
          refine lv_aload_n hx hb dX11_nights_77 rfl (lv_at hl 7 rfl) ?_
          refine va_get (D := D) (ci := 11) (v := .ref (a 0)) (C := RX11) (T := TX11) (N := 49) hx hb hg inGX11 hown hKN.1 hP 0 rfl rfl 0 (by decide) (hg _ kw_1208) (fun _ h9 => h9) rfl dX11_nights_78 ?_
          refine lv_sipush (v := 279) hx hb dX11_nights_81 (by decide) ?_
          refine lv_iconst (v := 3) hx hb dX11_nights_84 (by decide) ?_
          refine lv_iload hx hb dX11_nights_85 (lv_at hl 0 rfl) ?_
          refine lv_imul hx hb dX11_nights_87 ?_
          refine lv_topi (fun v934 ev934 => ?_)
          have hv934 := i_mul (show (3 : Int32).toInt = 3 by decide) (Eq.refl g843.toInt) ev934 (by omega) (by omega)
          refine lv_iadd hx hb dX11_nights_88 ?_
          refine lv_topi (fun v935 ev935 => ?_)
          have hv935 := i_add (show (279 : Int32).toInt = 279 by decide) (Eq.refl v934.toInt) ev935 (by omega) (by omega)
          refine lv_iconst (v := 1) hx hb dX11_nights_89 (by decide) ?_
          refine lv_iadd hx hb dX11_nights_90 ?_
          refine lv_topi (fun v936 ev936 => ?_)
          have hv936 := i_add (Eq.refl v935.toInt) (show (1 : Int32).toInt = 1 by decide) ev936 (by omega) (by omega)
          refine va_iald hx hb hKN.1 hP 1 0 rfl rfl (vp_in_iff.mpr ⟨by omega, by omega⟩) dX11_nights_91 ?_
          refine lv_topi (fun v937 ev937 => ?_)
          have ev937 : v937 = (F 0) v936.toNatClampNeg := ev937
          refine lv_imul hx hb dX11_nights_92 ?_
          refine lv_topi (fun v938 ev938 => ?_)
          have j939 := rgI v937
          have hv938 := i_mulR (a := 0) (b := 1) (c := -2147483648) (d := 2147483647) (lo := -2147483648) (hi := 2147483647) (Eq.refl v933.toInt) (Eq.refl v937.toInt) ev938 (by omega) (by omega) (by decide) (by decide)
          refine lv_iadd hx hb dX11_nights_93 ?_
          refine lv_topi (fun v940 ev940 => ?_)
          refine lv_istore (lv' := [(7, .int v940), (9, .int g843), (8, .int g844), (6, .int g323), (5, .int g324), (4, .int g325), (3, .int g326), (0, .ref o), (1, .int p1), (2, .int p2)]) hx hb dX11_nights_94 hl (by decide) rfl (fun ls hl => ?_)
          refine lv_iload hx hb dX11_nights_96 (lv_at hl 2 rfl) ?_
          refine lv_iload hx hb dX11_nights_98 (lv_at hl 3 rfl) ?_
          refine lv_iload hx hb dX11_nights_100 (lv_at hl 1 rfl) ?_
          refine lv_ishr hx hb dX11_nights_102 ?_
          refine lv_topi (fun v941 ev941 => ?_)
          refine lv_iconst (v := 1) hx hb dX11_nights_103 (by decide) ?_
          refine lv_iand hx hb dX11_nights_104 ?_
          refine lv_topi (fun v942 ev942 => ?_)
          have hv942 := i_and (show (1 : Int32).toInt = 1 by decide) ev942 (by decide)
          refine lv_aload_n hx hb dX11_nights_105 rfl (lv_at hl 7 rfl) ?_
          refine va_get (D := D) (ci := 11) (v := .ref (a 0)) (C := RX11) (T := TX11) (N := 49) hx hb hg inGX11 hown hKN.1 hP 0 rfl rfl 0 (by decide) (hg _ kw_1208) (fun _ h9 => h9) rfl dX11_nights_106 ?_
          refine lv_sipush (v := 279) hx hb dX11_nights_109 (by decide) ?_
          refine lv_iconst (v := 3) hx hb dX11_nights_112 (by decide) ?_
          refine lv_iload hx hb dX11_nights_113 (lv_at hl 1 rfl) ?_
          refine lv_imul hx hb dX11_nights_115 ?_
          refine lv_topi (fun v943 ev943 => ?_)
          have hv943 := i_mul (show (3 : Int32).toInt = 3 by decide) (Eq.refl g843.toInt) ev943 (by omega) (by omega)
          refine lv_iadd hx hb dX11_nights_116 ?_
          refine lv_topi (fun v944 ev944 => ?_)
          have hv944 := i_add (show (279 : Int32).toInt = 279 by decide) (Eq.refl v943.toInt) ev944 (by omega) (by omega)
          refine lv_iconst (v := 2) hx hb dX11_nights_117 (by decide) ?_
          refine lv_iadd hx hb dX11_nights_118 ?_
          refine lv_topi (fun v945 ev945 => ?_)
          have hv945 := i_add (Eq.refl v944.toInt) (show (2 : Int32).toInt = 2 by decide) ev945 (by omega) (by omega)
          refine va_iald hx hb hKN.1 hP 1 0 rfl rfl (vp_in_iff.mpr ⟨by omega, by omega⟩) dX11_nights_119 ?_
          refine lv_topi (fun v946 ev946 => ?_)
          have ev946 : v946 = (F 0) v945.toNatClampNeg := ev946
          refine lv_imul hx hb dX11_nights_120 ?_
          refine lv_topi (fun v947 ev947 => ?_)
          have j948 := rgI v946
          have hv947 := i_mulR (a := 0) (b := 1) (c := -2147483648) (d := 2147483647) (lo := -2147483648) (hi := 2147483647) (Eq.refl v942.toInt) (Eq.refl v946.toInt) ev947 (by omega) (by omega) (by decide) (by decide)
          refine lv_iadd hx hb dX11_nights_121 ?_
          refine lv_topi (fun v949 ev949 => ?_)
          refine lv_istore (lv' := [(8, .int v949), (7, .int v940), (9, .int g843), (6, .int g323), (5, .int g324), (4, .int g325), (3, .int g326), (0, .ref o), (1, .int p1), (2, .int p2)]) hx hb dX11_nights_122 hl (by decide) rfl (fun ls hl => ?_)
          obtain ⟨v950, ev950⟩ : ∃ y : Int32, y = g843 + 1 := ⟨_, rfl⟩
          have hv950 := i_add (Eq.refl g843.toInt) (show (1 : Int32).toInt = 1 by decide) ev950 (by omega) (by omega)
          refine lv_iinc (v := v950) (lv' := [(9, .int v950), (8, .int v949), (7, .int v940), (6, .int g323), (5, .int g324), (4, .int g325), (3, .int g326), (0, .ref o), (1, .int p1), (2, .int p2)]) hx hb dX11_nights_124 hl (k := 2) rfl (by rw [ev950]; rfl) (by decide) rfl (fun ls hl => ?_)
          refine lv_goto (tgt := 57) hx hb dX11_nights_127 (by decide) ?_
          exact ih888 (v950, v949, v940) H locs ls (by show (12 - v950.toInt).toNat < (12 - g843.toInt).toNat; omega) ⟨hP, hD, hS, lv_sub hl [0, 1, 2, 3, 4, 5, 6, 7, 8, 9] rfl, by omega⟩
    · obtain rfl : u12 = 0 := i_is c17 (by decide)
      have zi0 : (0 : Int32).toInt = 0 := by decide
      refine W.eq (g2 := F0 m 19 ls [.int 0]) rfl ?_
      refine lv_if_ne (tgt := 24) hx hb dX11_nights_19 (by decide) (fun c951 => ?_) (fun c951 => ?_)
      · exact absurd c951 (by decide)
      refine lv_iconst (v := (-1)) hx hb dX11_nights_22 (by decide) ?_
      refine W.widen (k := 0) (n := 0) (Nat.le_of_ble_eq_true rfl) (Nat.le_of_ble_eq_true rfl) ?_
      have zim1 : ((-1) : Int32).toInt = -1 := by decide
      exact W.iret (v := (-1)) hx hb hr (fun t ht hW => ⟨⟨(-1), rfl, trivial, CB.mk ht hP hD⟩, hS.F ht⟩) hS.2.2 dX11_nights_23
  · obtain rfl : u3 = 0 := i_is c8 (by decide)
    have zi0 : (0 : Int32).toInt = 0 := by decide
    refine W.eq (g2 := F0 m 9 ls [.int 0]) rfl ?_
    refine lv_if_eq (tgt := 22) hx hb dX11_nights_9 (by decide) (fun c952 => ?_) (fun c952 => ?_)
    rotate_left
    · exact absurd c952 (by decide)
    refine lv_iconst (v := (-1)) hx hb dX11_nights_22 (by decide) ?_
    refine W.widen (k := 0) (n := 0) (Nat.le_of_ble_eq_true rfl) (Nat.le_of_ble_eq_true rfl) ?_
    have zim1 : ((-1) : Int32).toInt = -1 := by decide
    exact W.iret (v := (-1)) hx hb hr (fun t ht hW => ⟨⟨(-1), rfl, trivial, CB.mk ht hP hD⟩, hS.F ht⟩) hS.2.2 dX11_nights_23
set_option maxHeartbeats 4000000 in
set_option maxRecDepth 100000 in
theorem m_candidate (l : Launch) (D : va_G) (Y : Nat → ClassId) (Z : Nat → Nat) (sz : Nat) (o : Nat) (a : Nat → Nat) (I : Nat → Int32) (J : Nat → Int64) (F : Nat → Nat → Int32) (G : Nat → Nat → Int64) (p1 : Int32) (p2 : Int32) (p3 : Int32) (hk0 : TO (F 0)) : Met l yX11_candidate (.code yX11_candidate cX11_candidate 5 (some .int) :: GW) ({ frames := 1, cells := 0, slots := 0, locals := 25 }) (va_Pc [.ref o, .int p1, .int p2, .int p3] (CP D Y Z (MW Y o a I J F G) sz)) (QG (S := Int32 × (Nat → Int32)) (fun u => some (.int u.1)) (fun u => TO u.2) (fun u => CB D (MW Y o a I J (vf_upd F 0 u.2) G) (va_A (MW Y o a I J F G) sz)) (va_A (MW Y o a I J F G) sz)) 0 0 (va_A (MW Y o a I J F G) sz) := by
  refine Met.ofW (cc := cX11_candidate) (maxL := 5) (ret := (some .int)) (by decide) rfl ?_
  intro p e s m args below meth c s₁ B hml hv
  obtain ⟨rfl, hsz, hP, hKN, hD0⟩ := hv
  have hx := B.exec
  have hb := B.bytes
  have hr := B.returns
  have hts := atoms_spec (ws := .code yX11_candidate cX11_candidate 5 (some .int) :: GW) B.pre
  have hg : ∀ w ∈ GW, w.before _ s = true := fun w h => hts w (List.mem_cons_of_mem _ h)
  have hown : s.vm.findClass RX11 = some m.cls := findClass_of_methodNamed B.named
  have hlocks := B.notSynchronized
  subst hsz
  have hD := hD0.self (sz := s.heap.size)
  generalize hAe : va_A (MW Y o a I J F G) s.heap.size = A at hD ⊢
  have hA : ∀ q : Nat, s.heap.size ≤ q → A q := fun q h => by rw [← hAe]; exact Or.inr h
  clear hAe hD0 hts B
  have hl := lv_entry ([.ref o, .int p1, .int p2, .int p3]) (n := 5) (Nat.le_of_ble_eq_true rfl)
  rw [lg_entry_eq]
  generalize (lg_sl ([.ref o, .int p1, .int p2, .int p3]) ++ List.replicate (5 - (lg_sl ([.ref o, .int p1, .int p2, .int p3])).length) Slot.unset).toArray = ls at hl ⊢
  have hl : lv_has ls 5 [(0, .ref o), (1, .int p1), (2, .int p2), (3, .int p3)] := hl
  refine w_start (A0 := A) hP (fun H locs hP hS => ?_)
  refine lv_aload_n hx hb dX11_candidate_0 rfl (lv_at hl 0 rfl) ?_
  refine va_get (D := D) (ci := 11) (v := .ref (a 0)) (C := RX11) (T := TX11) (N := 49) hx hb hg inGX11 hown hKN.1 hP 0 rfl rfl 0 (by decide) (hg _ kw_1208) (fun _ h9 => h9) rfl dX11_candidate_1 ?_
  refine lv_iconst (v := 2) hx hb dX11_candidate_4 (by decide) ?_
  refine va_iald hx hb hKN.1 hP 1 0 rfl rfl (show ¬ ((2 : Int32) < 0 ∨ 7533 ≤ (2 : Int32).toNatClampNeg) by decide) dX11_candidate_5 ?_
  refine lv_topi (fun v1 ev1 => ?_)
  have ev1 : v1 = (F 0) 2 := ev1
  have kv1 := TO_2 hk0
  rw [← ev1] at kv1
  have qv1 := congrArg Int32.toInt ev1
  refine lv_bipush (v := 12) hx hb dX11_candidate_6 (by decide) ?_
  refine lv_icmp_eq (tgt := 43) hx hb dX11_candidate_8 (by decide) (fun c2 => ?_) (fun c2 => ?_)
  · skip
    have c2 := i_eq (Eq.refl v1.toInt) (show (12 : Int32).toInt = 12 by decide) c2
    refine lv_iconst (v := (-1)) hx hb dX11_candidate_43 (by decide) ?_
    refine W.widen (k := 0) (n := 0) (Nat.le_of_ble_eq_true rfl) (Nat.le_of_ble_eq_true rfl) ?_
    have zim1 : ((-1) : Int32).toInt = -1 := by decide
    exact W.iret (v := (-1)) hx hb hr (fun t ht hW => ⟨⟨((-1), (F 0)), rfl, (hk0), CB.mk ht hP hD⟩, hS.F ht⟩) hS.2.2 dX11_candidate_44
  · skip
    have c2 := i_ne (Eq.refl v1.toInt) (show (12 : Int32).toInt = 12 by decide) c2
    refine lv_aload_n hx hb dX11_candidate_11 rfl (lv_at hl 0 rfl) ?_
    refine lv_iload_n hx hb dX11_candidate_12 rfl (lv_at hl 1 rfl) ?_
    refine cga (rn_V (As := [.int p1]) (rest := []) (b := o) (m_isStar l D Y Z H.size o a I J F G  p1 hk0) ⟨hx, hb, hml, hown, hg⟩ lk_X11_108 ⟨CP.blind, va_recv hKN.1 hP (ci := 11) (q0 := 0) rfl rfl, CP.at hP hKN hD⟩ ⟨⟨rfl, rfl⟩, ⟨Nat.le_of_ble_eq_true rfl, Nat.le_of_ble_eq_true rfl⟩, ⟨Nat.le_of_ble_eq_true rfl, Nat.le_of_ble_eq_true rfl⟩⟩ hl.1 rfl (Nat.le_of_ble_eq_true rfl) dX11_candidate_13) hP hD hS hA (fun u3 H locs w4 hP hD hS => ?_)
    have w4 : ((0 ≤ p1.toInt ∧ p1.toInt ≤ 11 ∧ p1.toInt < ((F 0) 0).toInt ∧ u3.toInt = 1) ∨ (¬ (0 ≤ p1.toInt ∧ p1.toInt < ((F 0) 0).toInt) ∧ u3.toInt = 0)) ∧ (0 ≤ u3.toInt ∧ u3.toInt ≤ 1) := w4
    obtain ⟨hw6, hw7⟩ := w4
    refine W.eq (g2 := F0 m 16 ls [.int u3]) rfl ?_
    have hP : va_P D vwCl (MW Y o a I J F G) H := hP
    have hD : va_D A (MW Y o a I J F G) := hD
    rcases (show u3.toInt = 1 ∨ u3.toInt = 0 by omega) with c8 | c8
    · obtain rfl : u3 = 1 := i_is c8 (by decide)
      have zi1 : (1 : Int32).toInt = 1 := by decide
      refine W.eq (g2 := F0 m 16 ls [.int 1]) rfl ?_
      refine lv_if_eq (tgt := 43) hx hb dX11_candidate_16 (by decide) (fun c9 => ?_) (fun c9 => ?_)
      · exact absurd c9 (by decide)
      refine lv_iload_n hx hb dX11_candidate_19 rfl (lv_at hl 2 rfl) ?_
      have j10 := rgI p2
      have j11 := Int32.toInt_toInt64 p2
      refine lv_i2l (v := p2.toInt64) hx hb dX11_candidate_20 (rfl) ?_
      refine lv_lconst (v := 1) hx hb dX11_candidate_21 (by decide) ?_
      refine lv_ldc2 (v := 99) hx hb hown (hg _ kw_1898) dX11_candidate_22 ?_
      have zl1 : (1 : Int64).toInt = 1 := by decide
      have zl99 : (99 : Int64).toInt = 99 := by decide
      refine cg0 (rn_S (As := [.long p2.toInt64, .long 1, .long 99]) (rest := []) (m_in l D Y Z H.size   p2.toInt64 1 99 ) ⟨hx, hb, hml, hown, hg⟩ lk_X11_99 ⟨CP.blind, CP.at nilP hKN (nilD (A := fun _ => True))⟩ ⟨⟨rfl, rfl⟩, ⟨Nat.le_of_ble_eq_true rfl, Nat.le_of_ble_eq_true rfl⟩, ⟨Nat.le_of_ble_eq_true rfl, Nat.le_of_ble_eq_true rfl⟩⟩ hl.1 rfl (Nat.le_of_ble_eq_true rfl) dX11_candidate_25) hP hS hA (fun u12 H locs w13 hP hS => ?_)
      have w13 : (((1 : Int64).toInt ≤ p2.toInt64.toInt ∧ p2.toInt64.toInt ≤ (99 : Int64).toInt ∧ u12.toInt = 1) ∨ (¬ ((1 : Int64).toInt ≤ p2.toInt64.toInt ∧ p2.toInt64.toInt ≤ (99 : Int64).toInt) ∧ u12.toInt = 0)) ∧ (0 ≤ u12.toInt ∧ u12.toInt ≤ 1) := w13
      obtain ⟨hw15, hw16⟩ := w13
      refine W.eq (g2 := F0 m 28 ls [.int u12]) rfl ?_
      rcases (show u12.toInt = 1 ∨ u12.toInt = 0 by omega) with c17 | c17
      · obtain rfl : u12 = 1 := i_is c17 (by decide)
        refine W.eq (g2 := F0 m 28 ls [.int 1]) rfl ?_
        refine lv_if_eq (tgt := 43) hx hb dX11_candidate_28 (by decide) (fun c18 => ?_) (fun c18 => ?_)
        · exact absurd c18 (by decide)
        refine lv_iload_n hx hb dX11_candidate_31 rfl (lv_at hl 3 rfl) ?_
        have j19 := rgI p3
        have j20 := Int32.toInt_toInt64 p3
        refine lv_i2l (v := p3.toInt64) hx hb dX11_candidate_32 (rfl) ?_
        refine lv_lconst (v := 0) hx hb dX11_candidate_33 (by decide) ?_
        refine lv_ldc2 (v := 9999) hx hb hown (hg _ kw_1899) dX11_candidate_34 ?_
        have zl0 : (0 : Int64).toInt = 0 := by decide
        have zl9999 : (9999 : Int64).toInt = 9999 := by decide
        refine cg0 (rn_S (As := [.long p3.toInt64, .long 0, .long 9999]) (rest := []) (m_in l D Y Z H.size   p3.toInt64 0 9999 ) ⟨hx, hb, hml, hown, hg⟩ lk_X11_99 ⟨CP.blind, CP.at nilP hKN (nilD (A := fun _ => True))⟩ ⟨⟨rfl, rfl⟩, ⟨Nat.le_of_ble_eq_true rfl, Nat.le_of_ble_eq_true rfl⟩, ⟨Nat.le_of_ble_eq_true rfl, Nat.le_of_ble_eq_true rfl⟩⟩ hl.1 rfl (Nat.le_of_ble_eq_true rfl) dX11_candidate_37) hP hS hA (fun u21 H locs w22 hP hS => ?_)
        have w22 : (((0 : Int64).toInt ≤ p3.toInt64.toInt ∧ p3.toInt64.toInt ≤ (9999 : Int64).toInt ∧ u21.toInt = 1) ∨ (¬ ((0 : Int64).toInt ≤ p3.toInt64.toInt ∧ p3.toInt64.toInt ≤ (9999 : Int64).toInt) ∧ u21.toInt = 0)) ∧ (0 ≤ u21.toInt ∧ u21.toInt ≤ 1) := w22
        obtain ⟨hw24, hw25⟩ := w22
        refine W.eq (g2 := F0 m 40 ls [.int u21]) rfl ?_
        rcases (show u21.toInt = 1 ∨ u21.toInt = 0 by omega) with c26 | c26
        · obtain rfl : u21 = 1 := i_is c26 (by decide)
          refine W.eq (g2 := F0 m 40 ls [.int 1]) rfl ?_
          refine lv_if_ne (tgt := 45) hx hb dX11_candidate_40 (by decide) (fun c27 => ?_) (fun c27 => ?_)
          rotate_left
          · exact absurd c27 (by decide)
          refine lv_sipush (v := 279) hx hb dX11_candidate_45 (by decide) ?_
          refine lv_iconst (v := 3) hx hb dX11_candidate_48 (by decide) ?_
          refine lv_aload_n hx hb dX11_candidate_49 rfl (lv_at hl 0 rfl) ?_
          refine va_get (D := D) (ci := 11) (v := .ref (a 0)) (C := RX11) (T := TX11) (N := 49) hx hb hg inGX11 hown hKN.1 hP 0 rfl rfl 0 (by decide) (hg _ kw_1208) (fun _ h9 => h9) rfl dX11_candidate_50 ?_
          refine lv_iconst (v := 2) hx hb dX11_candidate_53 (by decide) ?_
          refine va_iald hx hb hKN.1 hP 1 0 rfl rfl (show ¬ ((2 : Int32) < 0 ∨ 7533 ≤ (2 : Int32).toNatClampNeg) by decide) dX11_candidate_54 ?_
          refine lv_topi (fun v28 ev28 => ?_)
          have ev28 : v28 = (F 0) 2 := ev28
          have kv28 := TO_2 hk0
          rw [← ev28] at kv28
          have qv28 := congrArg Int32.toInt ev28
          refine lv_imul hx hb dX11_candidate_55 ?_
          refine lv_topi (fun v29 ev29 => ?_)
          have hv29 := i_mul (show (3 : Int32).toInt = 3 by decide) (Eq.refl v28.toInt) ev29 (by omega) (by omega)
          refine lv_iadd hx hb dX11_candidate_56 ?_
          refine lv_topi (fun v30 ev30 => ?_)
          have hv30 := i_add (show (279 : Int32).toInt = 279 by decide) (Eq.refl v29.toInt) ev30 (by omega) (by omega)
          refine lv_istore (lv' := [(4, .int v30), (0, .ref o), (1, .int p1), (2, .int p2), (3, .int p3)]) hx hb dX11_candidate_57 hl (by decide) rfl (fun ls hl => ?_)
          refine lv_aload_n hx hb dX11_candidate_59 rfl (lv_at hl 1 rfl) ?_
          refine va_get (D := D) (ci := 11) (v := .ref (a 0)) (C := RX11) (T := TX11) (N := 49) hx hb hg inGX11 hown hKN.1 hP 0 rfl rfl 0 (by decide) (hg _ kw_1208) (fun _ h9 => h9) rfl dX11_candidate_60 ?_
          refine lv_iload hx hb dX11_candidate_63 (lv_at hl 0 rfl) ?_
          refine lv_iload_n hx hb dX11_candidate_65 rfl (lv_at hl 2 rfl) ?_
          refine va_iast hx hb hKN.1 hP hD hS 1 0 rfl rfl (vp_in_iff.mpr ⟨by omega, by omega⟩) dX11_candidate_66 (fun H locs hP hD hS => ?_)
          obtain ⟨f31, ef31, hP, hD⟩ : ∃ f31 : Nat → Int32, f31 = upd (F 0) v30.toNatClampNeg p1 ∧ va_P D vwCl (MW Y o a I J (vf_upd F 0 f31) G) H ∧ va_D A (MW Y o a I J (vf_upd F 0 f31) G) := ⟨_, rfl, hP, hD⟩
          have ct32 := clampI (x := v30) (by omega)
          have t32 : TO f31 := by rw [ef31]; exact TO_set hk0 (by unfold trow; omega) (by omega) (by omega) (by omega) (by omega)
          have t33 : (f31 (2)).toInt = ((F 0) (2)).toInt := by rw [ef31, up_ne (by omega)]
          refine lv_aload_n hx hb dX11_candidate_67 rfl (lv_at hl 1 rfl) ?_
          refine va_get (D := D) (ci := 11) (v := .ref (a 0)) (C := RX11) (T := TX11) (N := 49) hx hb hg inGX11 hown hKN.1 hP 0 rfl rfl 0 (by decide) (hg _ kw_1208) (fun _ h9 => h9) rfl dX11_candidate_68 ?_
          refine lv_iload hx hb dX11_candidate_71 (lv_at hl 0 rfl) ?_
          refine lv_iconst (v := 1) hx hb dX11_candidate_73 (by decide) ?_
          refine lv_iadd hx hb dX11_candidate_74 ?_
          refine lv_topi (fun v34 ev34 => ?_)
          have hv34 := i_add (Eq.refl v30.toInt) (show (1 : Int32).toInt = 1 by decide) ev34 (by omega) (by omega)
          refine lv_iload_n hx hb dX11_candidate_75 rfl (lv_at hl 3 rfl) ?_
          refine va_iast hx hb hKN.1 hP hD hS 1 0 rfl rfl (vp_in_iff.mpr ⟨by omega, by omega⟩) dX11_candidate_76 (fun H locs hP hD hS => ?_)
          obtain ⟨f35, ef35, hP, hD⟩ : ∃ f35 : Nat → Int32, f35 = upd f31 v34.toNatClampNeg p2 ∧ va_P D vwCl (MW Y o a I J (vf_upd F 0 f35) G) H ∧ va_D A (MW Y o a I J (vf_upd F 0 f35) G) := ⟨_, rfl, hP, hD⟩
          have ct36 := clampI (x := v34) (by omega)
          have t36 : TO f35 := by rw [ef35]; exact TO_set t32 (by unfold trow; omega) (by omega) (by omega) (by omega) (by omega)
          have t37 : (f35 (2)).toInt = (f31 (2)).toInt := by rw [ef35, up_ne (by omega)]
          refine lv_aload_n hx hb dX11_candidate_77 rfl (lv_at hl 1 rfl) ?_
          refine va_get (D := D) (ci := 11) (v := .ref (a 0)) (C := RX11) (T := TX11) (N := 49) hx hb hg inGX11 hown hKN.1 hP 0 rfl rfl 0 (by decide) (hg _ kw_1208) (fun _ h9 => h9) rfl dX11_candidate_78 ?_
          refine lv_iload hx hb dX11_candidate_81 (lv_at hl 0 rfl) ?_
          refine lv_iconst (v := 2) hx hb dX11_candidate_83 (by decide) ?_
          refine lv_iadd hx hb dX11_candidate_84 ?_
          refine lv_topi (fun v38 ev38 => ?_)
          have hv38 := i_add (Eq.refl v30.toInt) (show (2 : Int32).toInt = 2 by decide) ev38 (by omega) (by omega)
          refine lv_iload_n hx hb dX11_candidate_85 rfl (lv_at hl 4 rfl) ?_
          refine va_iast hx hb hKN.1 hP hD hS 1 0 rfl rfl (vp_in_iff.mpr ⟨by omega, by omega⟩) dX11_candidate_86 (fun H locs hP hD hS => ?_)
          obtain ⟨f39, ef39, hP, hD⟩ : ∃ f39 : Nat → Int32, f39 = upd f35 v38.toNatClampNeg p3 ∧ va_P D vwCl (MW Y o a I J (vf_upd F 0 f39) G) H ∧ va_D A (MW Y o a I J (vf_upd F 0 f39) G) := ⟨_, rfl, hP, hD⟩
          have ct40 := clampI (x := v38) (by omega)
          have t40 : TO f39 := by rw [ef39]; exact TO_set t36 (by unfold trow; omega) (by omega) (by omega) (by omega) (by omega)
          have t41 : (f39 (2)).toInt = (f35 (2)).toInt := by rw [ef39, up_ne (by omega)]
          refine lv_aload_n hx hb dX11_candidate_87 rfl (lv_at hl 1 rfl) ?_
          refine va_get (D := D) (ci := 11) (v := .ref (a 0)) (C := RX11) (T := TX11) (N := 49) hx hb hg inGX11 hown hKN.1 hP 0 rfl rfl 0 (by decide) (hg _ kw_1208) (fun _ h9 => h9) rfl dX11_candidate_88 ?_
          refine lv_iconst (v := 2) hx hb dX11_candidate_91 (by decide) ?_
          refine lv_dup2_11 hx hb dX11_candidate_92 rfl rfl ?_
          refine va_iald hx hb hKN.1 hP 1 0 rfl rfl (show ¬ ((2 : Int32) < 0 ∨ 7533 ≤ (2 : Int32).toNatClampNeg) by decide) dX11_candidate_93 ?_
          refine lv_topi (fun v42 ev42 => ?_)
          have ev42 : v42 = f39 2 := ev42
          have kv42 := TO_2 t40
          rw [← ev42] at kv42
          have qv42 := congrArg Int32.toInt ev42
          refine lv_iconst (v := 1) hx hb dX11_candidate_94 (by decide) ?_
          refine lv_iadd hx hb dX11_candidate_95 ?_
          refine lv_topi (fun v43 ev43 => ?_)
          have hv43 := i_add (Eq.refl v42.toInt) (show (1 : Int32).toInt = 1 by decide) ev43 (by omega) (by omega)
          refine va_iast hx hb hKN.1 hP hD hS 1 0 rfl rfl (show ¬ ((2 : Int32) < 0 ∨ 7533 ≤ (2 : Int32).toNatClampNeg) by decide) dX11_candidate_96 (fun H locs hP hD hS => ?_)
          obtain ⟨f44, ef44, hP, hD⟩ : ∃ f44 : Nat → Int32, f44 = upd f39 2 v43 ∧ va_P D vwCl (MW Y o a I J (vf_upd F 0 f44) G) H ∧ va_D A (MW Y o a I J (vf_upd F 0 f44) G) := ⟨_, rfl, hP, hD⟩
          have t45 : TO f44 := by rw [ef44]; exact TO_set t40 (by unfold trow; omega) (by omega) (by omega) (by omega) (by omega)
          refine lv_aload_n hx hb dX11_candidate_97 rfl (lv_at hl 1 rfl) ?_
          refine va_get (D := D) (ci := 11) (v := .ref (a 0)) (C := RX11) (T := TX11) (N := 49) hx hb hg inGX11 hown hKN.1 hP 0 rfl rfl 0 (by decide) (hg _ kw_1208) (fun _ h9 => h9) rfl dX11_candidate_98 ?_
          refine lv_iconst (v := 2) hx hb dX11_candidate_101 (by decide) ?_
          refine va_iald hx hb hKN.1 hP 1 0 rfl rfl (show ¬ ((2 : Int32) < 0 ∨ 7533 ≤ (2 : Int32).toNatClampNeg) by decide) dX11_candidate_102 ?_
          refine lv_topi (fun v46 ev46 => ?_)
          have ev46 : v46 = f44 2 := ev46
          have kv46 := TO_2 t45
          rw [← ev46] at kv46
          have qv46 := congrArg Int32.toInt ev46
          refine lv_iconst (v := 1) hx hb dX11_candidate_103 (by decide) ?_
          refine lv_isub hx hb dX11_candidate_104 ?_
          refine lv_topi (fun v47 ev47 => ?_)
          have hv47 := i_sub (Eq.refl v46.toInt) (show (1 : Int32).toInt = 1 by decide) ev47 (by omega) (by omega)
          refine W.widen (k := 0) (n := 0) (Nat.le_of_ble_eq_true rfl) (Nat.le_of_ble_eq_true rfl) ?_
          exact W.iret (v := v47) hx hb hr (fun t ht hW => ⟨⟨(v47, f44), rfl, (t45), CB.mk ht hP hD⟩, hS.F ht⟩) hS.2.2 dX11_candidate_105
        · obtain rfl : u21 = 0 := i_is c26 (by decide)
          have zi0 : (0 : Int32).toInt = 0 := by decide
          refine W.eq (g2 := F0 m 40 ls [.int 0]) rfl ?_
          refine lv_if_ne (tgt := 45) hx hb dX11_candidate_40 (by decide) (fun c48 => ?_) (fun c48 => ?_)
          · exact absurd c48 (by decide)
          refine lv_iconst (v := (-1)) hx hb dX11_candidate_43 (by decide) ?_
          refine W.widen (k := 0) (n := 0) (Nat.le_of_ble_eq_true rfl) (Nat.le_of_ble_eq_true rfl) ?_
          have zim1 : ((-1) : Int32).toInt = -1 := by decide
          exact W.iret (v := (-1)) hx hb hr (fun t ht hW => ⟨⟨((-1), (F 0)), rfl, (hk0), CB.mk ht hP hD⟩, hS.F ht⟩) hS.2.2 dX11_candidate_44
      · obtain rfl : u12 = 0 := i_is c17 (by decide)
        have zi0 : (0 : Int32).toInt = 0 := by decide
        refine W.eq (g2 := F0 m 28 ls [.int 0]) rfl ?_
        refine lv_if_eq (tgt := 43) hx hb dX11_candidate_28 (by decide) (fun c49 => ?_) (fun c49 => ?_)
        rotate_left
        · exact absurd c49 (by decide)
        refine lv_iconst (v := (-1)) hx hb dX11_candidate_43 (by decide) ?_
        refine W.widen (k := 0) (n := 0) (Nat.le_of_ble_eq_true rfl) (Nat.le_of_ble_eq_true rfl) ?_
        have zim1 : ((-1) : Int32).toInt = -1 := by decide
        exact W.iret (v := (-1)) hx hb hr (fun t ht hW => ⟨⟨((-1), (F 0)), rfl, (hk0), CB.mk ht hP hD⟩, hS.F ht⟩) hS.2.2 dX11_candidate_44
    · obtain rfl : u3 = 0 := i_is c8 (by decide)
      have zi0 : (0 : Int32).toInt = 0 := by decide
      refine W.eq (g2 := F0 m 16 ls [.int 0]) rfl ?_
      refine lv_if_eq (tgt := 43) hx hb dX11_candidate_16 (by decide) (fun c50 => ?_) (fun c50 => ?_)
      rotate_left
      · exact absurd c50 (by decide)
      refine lv_iconst (v := (-1)) hx hb dX11_candidate_43 (by decide) ?_
      refine W.widen (k := 0) (n := 0) (Nat.le_of_ble_eq_true rfl) (Nat.le_of_ble_eq_true rfl) ?_
      have zim1 : ((-1) : Int32).toInt = -1 := by decide
      exact W.iret (v := (-1)) hx hb hr (fun t ht hW => ⟨⟨((-1), (F 0)), rfl, (hk0), CB.mk ht hP hD⟩, hS.F ht⟩) hS.2.2 dX11_candidate_44
set_option maxHeartbeats 4000000 in
set_option maxRecDepth 100000 in
theorem m_world (l : Launch) (D : va_G) (Y : Nat → ClassId) (Z : Nat → Nat) (sz : Nat) (o : Nat) (a : Nat → Nat) (I : Nat → Int32) (J : Nat → Int64) (F : Nat → Nat → Int32) (G : Nat → Nat → Int64) (p1 : Int32) (p2 : Int32) (p3 : Int32) (p4 : Int32) (p5 : Int32) (p6 : Int32) (hk0 : TO (F 0)) : Met l yX11_world (.code yX11_world cX11_world 8 (some .int) :: GW) ({ frames := 1, cells := 0, slots := 0, locals := 25 }) (va_Pc [.ref o, .int p1, .int p2, .int p3, .int p4, .int p5, .int p6] (CP D Y Z (MW Y o a I J F G) sz)) (QG (S := Int32 × (Nat → Int32)) (fun u => some (.int u.1)) (fun u => TO u.2) (fun u => CB D (MW Y o a I J (vf_upd F 0 u.2) G) (va_A (MW Y o a I J F G) sz)) (va_A (MW Y o a I J F G) sz)) 0 0 (va_A (MW Y o a I J F G) sz) := by
  refine Met.ofW (cc := cX11_world) (maxL := 8) (ret := (some .int)) (by decide) rfl ?_
  intro p e s m args below meth c s₁ B hml hv
  obtain ⟨rfl, hsz, hP, hKN, hD0⟩ := hv
  have hx := B.exec
  have hb := B.bytes
  have hr := B.returns
  have hts := atoms_spec (ws := .code yX11_world cX11_world 8 (some .int) :: GW) B.pre
  have hg : ∀ w ∈ GW, w.before _ s = true := fun w h => hts w (List.mem_cons_of_mem _ h)
  have hown : s.vm.findClass RX11 = some m.cls := findClass_of_methodNamed B.named
  have hlocks := B.notSynchronized
  subst hsz
  have hD := hD0.self (sz := s.heap.size)
  generalize hAe : va_A (MW Y o a I J F G) s.heap.size = A at hD ⊢
  have hA : ∀ q : Nat, s.heap.size ≤ q → A q := fun q h => by rw [← hAe]; exact Or.inr h
  clear hAe hD0 hts B
  have hl := lv_entry ([.ref o, .int p1, .int p2, .int p3, .int p4, .int p5, .int p6]) (n := 8) (Nat.le_of_ble_eq_true rfl)
  rw [lg_entry_eq]
  generalize (lg_sl ([.ref o, .int p1, .int p2, .int p3, .int p4, .int p5, .int p6]) ++ List.replicate (8 - (lg_sl ([.ref o, .int p1, .int p2, .int p3, .int p4, .int p5, .int p6])).length) Slot.unset).toArray = ls at hl ⊢
  have hl : lv_has ls 8 [(0, .ref o), (1, .int p1), (2, .int p2), (3, .int p3), (4, .int p4), (5, .int p5), (6, .int p6)] := hl
  refine w_start (A0 := A) hP (fun H locs hP hS => ?_)
  refine lv_aload_n hx hb dX11_world_0 rfl (lv_at hl 0 rfl) ?_
  refine va_get (D := D) (ci := 11) (v := .ref (a 0)) (C := RX11) (T := TX11) (N := 49) hx hb hg inGX11 hown hKN.1 hP 0 rfl rfl 0 (by decide) (hg _ kw_1208) (fun _ h9 => h9) rfl dX11_world_1 ?_
  refine lv_iconst (v := 1) hx hb dX11_world_4 (by decide) ?_
  refine va_iald hx hb hKN.1 hP 1 0 rfl rfl (show ¬ ((1 : Int32) < 0 ∨ 7533 ≤ (1 : Int32).toNatClampNeg) by decide) dX11_world_5 ?_
  refine lv_topi (fun v1 ev1 => ?_)
  have ev1 : v1 = (F 0) 1 := ev1
  have kv1 := TO_1 hk0
  rw [← ev1] at kv1
  have qv1 := congrArg Int32.toInt ev1
  refine lv_bipush (v := 40) hx hb dX11_world_6 (by decide) ?_
  refine lv_icmp_eq (tgt := 77) hx hb dX11_world_8 (by decide) (fun c2 => ?_) (fun c2 => ?_)
  · skip
    have c2 := i_eq (Eq.refl v1.toInt) (show (40 : Int32).toInt = 40 by decide) c2
    refine lv_iconst (v := (-1)) hx hb dX11_world_77 (by decide) ?_
    refine W.widen (k := 0) (n := 0) (Nat.le_of_ble_eq_true rfl) (Nat.le_of_ble_eq_true rfl) ?_
    have zim1 : ((-1) : Int32).toInt = -1 := by decide
    exact W.iret (v := (-1)) hx hb hr (fun t ht hW => ⟨⟨((-1), (F 0)), rfl, (hk0), CB.mk ht hP hD⟩, hS.F ht⟩) hS.2.2 dX11_world_78
  · skip
    have c2 := i_ne (Eq.refl v1.toInt) (show (40 : Int32).toInt = 40 by decide) c2
    refine lv_aload_n hx hb dX11_world_11 rfl (lv_at hl 0 rfl) ?_
    refine lv_iload_n hx hb dX11_world_12 rfl (lv_at hl 1 rfl) ?_
    refine cga (rn_V (As := [.int p1]) (rest := []) (b := o) (m_isStar l D Y Z H.size o a I J F G  p1 hk0) ⟨hx, hb, hml, hown, hg⟩ lk_X11_108 ⟨CP.blind, va_recv hKN.1 hP (ci := 11) (q0 := 0) rfl rfl, CP.at hP hKN hD⟩ ⟨⟨rfl, rfl⟩, ⟨Nat.le_of_ble_eq_true rfl, Nat.le_of_ble_eq_true rfl⟩, ⟨Nat.le_of_ble_eq_true rfl, Nat.le_of_ble_eq_true rfl⟩⟩ hl.1 rfl (Nat.le_of_ble_eq_true rfl) dX11_world_13) hP hD hS hA (fun u3 H locs w4 hP hD hS => ?_)
    have w4 : ((0 ≤ p1.toInt ∧ p1.toInt ≤ 11 ∧ p1.toInt < ((F 0) 0).toInt ∧ u3.toInt = 1) ∨ (¬ (0 ≤ p1.toInt ∧ p1.toInt < ((F 0) 0).toInt) ∧ u3.toInt = 0)) ∧ (0 ≤ u3.toInt ∧ u3.toInt ≤ 1) := w4
    obtain ⟨hw6, hw7⟩ := w4
    refine W.eq (g2 := F0 m 16 ls [.int u3]) rfl ?_
    have hP : va_P D vwCl (MW Y o a I J F G) H := hP
    have hD : va_D A (MW Y o a I J F G) := hD
    rcases (show u3.toInt = 1 ∨ u3.toInt = 0 by omega) with c8 | c8
    · obtain rfl : u3 = 1 := i_is c8 (by decide)
      have zi1 : (1 : Int32).toInt = 1 := by decide
      refine W.eq (g2 := F0 m 16 ls [.int 1]) rfl ?_
      refine lv_if_eq (tgt := 77) hx hb dX11_world_16 (by decide) (fun c9 => ?_) (fun c9 => ?_)
      · exact absurd c9 (by decide)
      refine lv_iload_n hx hb dX11_world_19 rfl (lv_at hl 2 rfl) ?_
      have j10 := rgI p2
      have j11 := Int32.toInt_toInt64 p2
      refine lv_i2l (v := p2.toInt64) hx hb dX11_world_20 (rfl) ?_
      refine lv_ldc2 (v := 2) hx hb hown (hg _ kw_1443) dX11_world_21 ?_
      refine lv_ldc2 (v := 599) hx hb hown (hg _ kw_1444) dX11_world_24 ?_
      have zl2 : (2 : Int64).toInt = 2 := by decide
      have zl599 : (599 : Int64).toInt = 599 := by decide
      refine cg0 (rn_S (As := [.long p2.toInt64, .long 2, .long 599]) (rest := []) (m_in l D Y Z H.size   p2.toInt64 2 599 ) ⟨hx, hb, hml, hown, hg⟩ lk_X11_99 ⟨CP.blind, CP.at nilP hKN (nilD (A := fun _ => True))⟩ ⟨⟨rfl, rfl⟩, ⟨Nat.le_of_ble_eq_true rfl, Nat.le_of_ble_eq_true rfl⟩, ⟨Nat.le_of_ble_eq_true rfl, Nat.le_of_ble_eq_true rfl⟩⟩ hl.1 rfl (Nat.le_of_ble_eq_true rfl) dX11_world_27) hP hS hA (fun u12 H locs w13 hP hS => ?_)
      have w13 : (((2 : Int64).toInt ≤ p2.toInt64.toInt ∧ p2.toInt64.toInt ≤ (599 : Int64).toInt ∧ u12.toInt = 1) ∨ (¬ ((2 : Int64).toInt ≤ p2.toInt64.toInt ∧ p2.toInt64.toInt ≤ (599 : Int64).toInt) ∧ u12.toInt = 0)) ∧ (0 ≤ u12.toInt ∧ u12.toInt ≤ 1) := w13
      obtain ⟨hw15, hw16⟩ := w13
      refine W.eq (g2 := F0 m 30 ls [.int u12]) rfl ?_
      rcases (show u12.toInt = 1 ∨ u12.toInt = 0 by omega) with c17 | c17
      · obtain rfl : u12 = 1 := i_is c17 (by decide)
        refine W.eq (g2 := F0 m 30 ls [.int 1]) rfl ?_
        refine lv_if_eq (tgt := 77) hx hb dX11_world_30 (by decide) (fun c18 => ?_) (fun c18 => ?_)
        · exact absurd c18 (by decide)
        refine lv_iload_n hx hb dX11_world_33 rfl (lv_at hl 3 rfl) ?_
        have j19 := rgI p3
        have j20 := Int32.toInt_toInt64 p3
        refine lv_i2l (v := p3.toInt64) hx hb dX11_world_34 (rfl) ?_
        refine lv_lconst (v := 0) hx hb dX11_world_35 (by decide) ?_
        refine lv_ldc2 (v := 599) hx hb hown (hg _ kw_1444) dX11_world_36 ?_
        have zl0 : (0 : Int64).toInt = 0 := by decide
        refine cg0 (rn_S (As := [.long p3.toInt64, .long 0, .long 599]) (rest := []) (m_in l D Y Z H.size   p3.toInt64 0 599 ) ⟨hx, hb, hml, hown, hg⟩ lk_X11_99 ⟨CP.blind, CP.at nilP hKN (nilD (A := fun _ => True))⟩ ⟨⟨rfl, rfl⟩, ⟨Nat.le_of_ble_eq_true rfl, Nat.le_of_ble_eq_true rfl⟩, ⟨Nat.le_of_ble_eq_true rfl, Nat.le_of_ble_eq_true rfl⟩⟩ hl.1 rfl (Nat.le_of_ble_eq_true rfl) dX11_world_39) hP hS hA (fun u21 H locs w22 hP hS => ?_)
        have w22 : (((0 : Int64).toInt ≤ p3.toInt64.toInt ∧ p3.toInt64.toInt ≤ (599 : Int64).toInt ∧ u21.toInt = 1) ∨ (¬ ((0 : Int64).toInt ≤ p3.toInt64.toInt ∧ p3.toInt64.toInt ≤ (599 : Int64).toInt) ∧ u21.toInt = 0)) ∧ (0 ≤ u21.toInt ∧ u21.toInt ≤ 1) := w22
        obtain ⟨hw24, hw25⟩ := w22
        refine W.eq (g2 := F0 m 42 ls [.int u21]) rfl ?_
        rcases (show u21.toInt = 1 ∨ u21.toInt = 0 by omega) with c26 | c26
        · obtain rfl : u21 = 1 := i_is c26 (by decide)
          refine W.eq (g2 := F0 m 42 ls [.int 1]) rfl ?_
          refine lv_if_eq (tgt := 77) hx hb dX11_world_42 (by decide) (fun c27 => ?_) (fun c27 => ?_)
          · exact absurd c27 (by decide)
          refine lv_iload hx hb dX11_world_45 (lv_at hl 4 rfl) ?_
          have j28 := rgI p4
          have j29 := Int32.toInt_toInt64 p4
          refine lv_i2l (v := p4.toInt64) hx hb dX11_world_47 (rfl) ?_
          refine lv_lconst (v := 1) hx hb dX11_world_48 (by decide) ?_
          refine lv_ldc2 (v := 30) hx hb hown (hg _ kw_1445) dX11_world_49 ?_
          have zl1 : (1 : Int64).toInt = 1 := by decide
          have zl30 : (30 : Int64).toInt = 30 := by decide
          refine cg0 (rn_S (As := [.long p4.toInt64, .long 1, .long 30]) (rest := []) (m_in l D Y Z H.size   p4.toInt64 1 30 ) ⟨hx, hb, hml, hown, hg⟩ lk_X11_99 ⟨CP.blind, CP.at nilP hKN (nilD (A := fun _ => True))⟩ ⟨⟨rfl, rfl⟩, ⟨Nat.le_of_ble_eq_true rfl, Nat.le_of_ble_eq_true rfl⟩, ⟨Nat.le_of_ble_eq_true rfl, Nat.le_of_ble_eq_true rfl⟩⟩ hl.1 rfl (Nat.le_of_ble_eq_true rfl) dX11_world_52) hP hS hA (fun u30 H locs w31 hP hS => ?_)
          have w31 : (((1 : Int64).toInt ≤ p4.toInt64.toInt ∧ p4.toInt64.toInt ≤ (30 : Int64).toInt ∧ u30.toInt = 1) ∨ (¬ ((1 : Int64).toInt ≤ p4.toInt64.toInt ∧ p4.toInt64.toInt ≤ (30 : Int64).toInt) ∧ u30.toInt = 0)) ∧ (0 ≤ u30.toInt ∧ u30.toInt ≤ 1) := w31
          obtain ⟨hw33, hw34⟩ := w31
          refine W.eq (g2 := F0 m 55 ls [.int u30]) rfl ?_
          rcases (show u30.toInt = 1 ∨ u30.toInt = 0 by omega) with c35 | c35
          · obtain rfl : u30 = 1 := i_is c35 (by decide)
            refine W.eq (g2 := F0 m 55 ls [.int 1]) rfl ?_
            refine lv_if_eq (tgt := 77) hx hb dX11_world_55 (by decide) (fun c36 => ?_) (fun c36 => ?_)
            · exact absurd c36 (by decide)
            refine lv_iload hx hb dX11_world_58 (lv_at hl 4 rfl) ?_
            refine lv_iload_n hx hb dX11_world_60 rfl (lv_at hl 2 rfl) ?_
            refine lv_icmp_ge (tgt := 77) hx hb dX11_world_61 (by decide) (fun c37 => ?_) (fun c37 => ?_)
            · skip
              have c37 := i_le (Eq.refl p2.toInt) (Eq.refl p4.toInt) c37
              refine lv_iconst (v := (-1)) hx hb dX11_world_77 (by decide) ?_
              refine W.widen (k := 0) (n := 0) (Nat.le_of_ble_eq_true rfl) (Nat.le_of_ble_eq_true rfl) ?_
              have zim1 : ((-1) : Int32).toInt = -1 := by decide
              exact W.iret (v := (-1)) hx hb hr (fun t ht hW => ⟨⟨((-1), (F 0)), rfl, (hk0), CB.mk ht hP hD⟩, hS.F ht⟩) hS.2.2 dX11_world_78
            · skip
              have c37 := i_nle (Eq.refl p2.toInt) (Eq.refl p4.toInt) c37
              refine lv_iload hx hb dX11_world_64 (lv_at hl 5 rfl) ?_
              have j38 := rgI p5
              have j39 := Int32.toInt_toInt64 p5
              refine lv_i2l (v := p5.toInt64) hx hb dX11_world_66 (rfl) ?_
              refine lv_lconst (v := 1) hx hb dX11_world_67 (by decide) ?_
              refine lv_ldc2 (v := 30000) hx hb hown (hg _ kw_1380) dX11_world_68 ?_
              have zl30000 : (30000 : Int64).toInt = 30000 := by decide
              refine cg0 (rn_S (As := [.long p5.toInt64, .long 1, .long 30000]) (rest := []) (m_in l D Y Z H.size   p5.toInt64 1 30000 ) ⟨hx, hb, hml, hown, hg⟩ lk_X11_99 ⟨CP.blind, CP.at nilP hKN (nilD (A := fun _ => True))⟩ ⟨⟨rfl, rfl⟩, ⟨Nat.le_of_ble_eq_true rfl, Nat.le_of_ble_eq_true rfl⟩, ⟨Nat.le_of_ble_eq_true rfl, Nat.le_of_ble_eq_true rfl⟩⟩ hl.1 rfl (Nat.le_of_ble_eq_true rfl) dX11_world_71) hP hS hA (fun u40 H locs w41 hP hS => ?_)
              have w41 : (((1 : Int64).toInt ≤ p5.toInt64.toInt ∧ p5.toInt64.toInt ≤ (30000 : Int64).toInt ∧ u40.toInt = 1) ∨ (¬ ((1 : Int64).toInt ≤ p5.toInt64.toInt ∧ p5.toInt64.toInt ≤ (30000 : Int64).toInt) ∧ u40.toInt = 0)) ∧ (0 ≤ u40.toInt ∧ u40.toInt ≤ 1) := w41
              obtain ⟨hw43, hw44⟩ := w41
              refine W.eq (g2 := F0 m 74 ls [.int u40]) rfl ?_
              rcases (show u40.toInt = 1 ∨ u40.toInt = 0 by omega) with c45 | c45
              · obtain rfl : u40 = 1 := i_is c45 (by decide)
                refine W.eq (g2 := F0 m 74 ls [.int 1]) rfl ?_
                refine lv_if_ne (tgt := 79) hx hb dX11_world_74 (by decide) (fun c46 => ?_) (fun c46 => ?_)
                rotate_left
                · exact absurd c46 (by decide)
                refine lv_bipush (v := 39) hx hb dX11_world_79 (by decide) ?_
                refine lv_bipush (v := 6) hx hb dX11_world_81 (by decide) ?_
                refine lv_aload_n hx hb dX11_world_83 rfl (lv_at hl 0 rfl) ?_
                refine va_get (D := D) (ci := 11) (v := .ref (a 0)) (C := RX11) (T := TX11) (N := 49) hx hb hg inGX11 hown hKN.1 hP 0 rfl rfl 0 (by decide) (hg _ kw_1208) (fun _ h9 => h9) rfl dX11_world_84 ?_
                refine lv_iconst (v := 1) hx hb dX11_world_87 (by decide) ?_
                refine va_iald hx hb hKN.1 hP 1 0 rfl rfl (show ¬ ((1 : Int32) < 0 ∨ 7533 ≤ (1 : Int32).toNatClampNeg) by decide) dX11_world_88 ?_
                refine lv_topi (fun v47 ev47 => ?_)
                have ev47 : v47 = (F 0) 1 := ev47
                have kv47 := TO_1 hk0
                rw [← ev47] at kv47
                have qv47 := congrArg Int32.toInt ev47
                refine lv_imul hx hb dX11_world_89 ?_
                refine lv_topi (fun v48 ev48 => ?_)
                have hv48 := i_mul (show (6 : Int32).toInt = 6 by decide) (Eq.refl v47.toInt) ev48 (by omega) (by omega)
                refine lv_iadd hx hb dX11_world_90 ?_
                refine lv_topi (fun v49 ev49 => ?_)
                have hv49 := i_add (show (39 : Int32).toInt = 39 by decide) (Eq.refl v48.toInt) ev49 (by omega) (by omega)
                refine lv_istore (lv' := [(7, .int v49), (0, .ref o), (1, .int p1), (2, .int p2), (3, .int p3), (4, .int p4), (5, .int p5), (6, .int p6)]) hx hb dX11_world_91 hl (by decide) rfl (fun ls hl => ?_)
                refine lv_aload_n hx hb dX11_world_93 rfl (lv_at hl 1 rfl) ?_
                refine va_get (D := D) (ci := 11) (v := .ref (a 0)) (C := RX11) (T := TX11) (N := 49) hx hb hg inGX11 hown hKN.1 hP 0 rfl rfl 0 (by decide) (hg _ kw_1208) (fun _ h9 => h9) rfl dX11_world_94 ?_
                refine lv_iload hx hb dX11_world_97 (lv_at hl 0 rfl) ?_
                refine lv_iload_n hx hb dX11_world_99 rfl (lv_at hl 2 rfl) ?_
                refine va_iast hx hb hKN.1 hP hD hS 1 0 rfl rfl (vp_in_iff.mpr ⟨by omega, by omega⟩) dX11_world_100 (fun H locs hP hD hS => ?_)
                obtain ⟨f50, ef50, hP, hD⟩ : ∃ f50 : Nat → Int32, f50 = upd (F 0) v49.toNatClampNeg p1 ∧ va_P D vwCl (MW Y o a I J (vf_upd F 0 f50) G) H ∧ va_D A (MW Y o a I J (vf_upd F 0 f50) G) := ⟨_, rfl, hP, hD⟩
                have ct51 := clampI (x := v49) (by omega)
                have t51 : TO f50 := by rw [ef50]; exact TO_set hk0 (by unfold trow; omega) (by omega) (by omega) (by omega) (by omega)
                have t52 : (f50 (1)).toInt = ((F 0) (1)).toInt := by rw [ef50, up_ne (by omega)]
                refine lv_aload_n hx hb dX11_world_101 rfl (lv_at hl 1 rfl) ?_
                refine va_get (D := D) (ci := 11) (v := .ref (a 0)) (C := RX11) (T := TX11) (N := 49) hx hb hg inGX11 hown hKN.1 hP 0 rfl rfl 0 (by decide) (hg _ kw_1208) (fun _ h9 => h9) rfl dX11_world_102 ?_
                refine lv_iload hx hb dX11_world_105 (lv_at hl 0 rfl) ?_
                refine lv_iconst (v := 1) hx hb dX11_world_107 (by decide) ?_
                refine lv_iadd hx hb dX11_world_108 ?_
                refine lv_topi (fun v53 ev53 => ?_)
                have hv53 := i_add (Eq.refl v49.toInt) (show (1 : Int32).toInt = 1 by decide) ev53 (by omega) (by omega)
                refine lv_iload_n hx hb dX11_world_109 rfl (lv_at hl 3 rfl) ?_
                refine va_iast hx hb hKN.1 hP hD hS 1 0 rfl rfl (vp_in_iff.mpr ⟨by omega, by omega⟩) dX11_world_110 (fun H locs hP hD hS => ?_)
                obtain ⟨f54, ef54, hP, hD⟩ : ∃ f54 : Nat → Int32, f54 = upd f50 v53.toNatClampNeg p2 ∧ va_P D vwCl (MW Y o a I J (vf_upd F 0 f54) G) H ∧ va_D A (MW Y o a I J (vf_upd F 0 f54) G) := ⟨_, rfl, hP, hD⟩
                have ct55 := clampI (x := v53) (by omega)
                have t55 : TO f54 := by rw [ef54]; exact TO_set t51 (by unfold trow; omega) (by omega) (by omega) (by omega) (by omega)
                have t56 : (f54 (1)).toInt = (f50 (1)).toInt := by rw [ef54, up_ne (by omega)]
                have t57 : (f54 (40 + 6 * (F 0 1).toInt.toNat)).toInt = p2.toInt := by rw [ef54, up_eq (by omega)]
                refine lv_aload_n hx hb dX11_world_111 rfl (lv_at hl 1 rfl) ?_
                refine va_get (D := D) (ci := 11) (v := .ref (a 0)) (C := RX11) (T := TX11) (N := 49) hx hb hg inGX11 hown hKN.1 hP 0 rfl rfl 0 (by decide) (hg _ kw_1208) (fun _ h9 => h9) rfl dX11_world_112 ?_
                refine lv_iload hx hb dX11_world_115 (lv_at hl 0 rfl) ?_
                refine lv_iconst (v := 2) hx hb dX11_world_117 (by decide) ?_
                refine lv_iadd hx hb dX11_world_118 ?_
                refine lv_topi (fun v58 ev58 => ?_)
                have hv58 := i_add (Eq.refl v49.toInt) (show (2 : Int32).toInt = 2 by decide) ev58 (by omega) (by omega)
                refine lv_iload_n hx hb dX11_world_119 rfl (lv_at hl 4 rfl) ?_
                refine va_iast hx hb hKN.1 hP hD hS 1 0 rfl rfl (vp_in_iff.mpr ⟨by omega, by omega⟩) dX11_world_120 (fun H locs hP hD hS => ?_)
                obtain ⟨f59, ef59, hP, hD⟩ : ∃ f59 : Nat → Int32, f59 = upd f54 v58.toNatClampNeg p3 ∧ va_P D vwCl (MW Y o a I J (vf_upd F 0 f59) G) H ∧ va_D A (MW Y o a I J (vf_upd F 0 f59) G) := ⟨_, rfl, hP, hD⟩
                have ct60 := clampI (x := v58) (by omega)
                have t60 : TO f59 := by rw [ef59]; exact TO_set t55 (by unfold trow; omega) (by omega) (by omega) (by omega) (by omega)
                have t61 : (f59 (1)).toInt = (f54 (1)).toInt := by rw [ef59, up_ne (by omega)]
                have t62 : (f59 (40 + 6 * (F 0 1).toInt.toNat)).toInt = (f54 (40 + 6 * (F 0 1).toInt.toNat)).toInt := by rw [ef59, up_ne (by omega)]
                refine lv_aload_n hx hb dX11_world_121 rfl (lv_at hl 1 rfl) ?_
                refine va_get (D := D) (ci := 11) (v := .ref (a 0)) (C := RX11) (T := TX11) (N := 49) hx hb hg inGX11 hown hKN.1 hP 0 rfl rfl 0 (by decide) (hg _ kw_1208) (fun _ h9 => h9) rfl dX11_world_122 ?_
                refine lv_iload hx hb dX11_world_125 (lv_at hl 0 rfl) ?_
                refine lv_iconst (v := 3) hx hb dX11_world_127 (by decide) ?_
                refine lv_iadd hx hb dX11_world_128 ?_
                refine lv_topi (fun v63 ev63 => ?_)
                have hv63 := i_add (Eq.refl v49.toInt) (show (3 : Int32).toInt = 3 by decide) ev63 (by omega) (by omega)
                refine lv_iload hx hb dX11_world_129 (lv_at hl 5 rfl) ?_
                refine va_iast hx hb hKN.1 hP hD hS 1 0 rfl rfl (vp_in_iff.mpr ⟨by omega, by omega⟩) dX11_world_131 (fun H locs hP hD hS => ?_)
                obtain ⟨f64, ef64, hP, hD⟩ : ∃ f64 : Nat → Int32, f64 = upd f59 v63.toNatClampNeg p4 ∧ va_P D vwCl (MW Y o a I J (vf_upd F 0 f64) G) H ∧ va_D A (MW Y o a I J (vf_upd F 0 f64) G) := ⟨_, rfl, hP, hD⟩
                have ct65 := clampI (x := v63) (by omega)
                have t65 : TO f64 := by rw [ef64]; exact TO_set t60 (by unfold trow; omega) (by omega) (by omega) (by omega) (by omega)
                have t66 : (f64 (1)).toInt = (f59 (1)).toInt := by rw [ef64, up_ne (by omega)]
                have t67 : (f64 (40 + 6 * (F 0 1).toInt.toNat)).toInt = (f59 (40 + 6 * (F 0 1).toInt.toNat)).toInt := by rw [ef64, up_ne (by omega)]
                refine lv_aload_n hx hb dX11_world_132 rfl (lv_at hl 1 rfl) ?_
                refine va_get (D := D) (ci := 11) (v := .ref (a 0)) (C := RX11) (T := TX11) (N := 49) hx hb hg inGX11 hown hKN.1 hP 0 rfl rfl 0 (by decide) (hg _ kw_1208) (fun _ h9 => h9) rfl dX11_world_133 ?_
                refine lv_iload hx hb dX11_world_136 (lv_at hl 0 rfl) ?_
                refine lv_iconst (v := 4) hx hb dX11_world_138 (by decide) ?_
                refine lv_iadd hx hb dX11_world_139 ?_
                refine lv_topi (fun v68 ev68 => ?_)
                have hv68 := i_add (Eq.refl v49.toInt) (show (4 : Int32).toInt = 4 by decide) ev68 (by omega) (by omega)
                refine lv_iload hx hb dX11_world_140 (lv_at hl 6 rfl) ?_
                refine va_iast hx hb hKN.1 hP hD hS 1 0 rfl rfl (vp_in_iff.mpr ⟨by omega, by omega⟩) dX11_world_142 (fun H locs hP hD hS => ?_)
                obtain ⟨f69, ef69, hP, hD⟩ : ∃ f69 : Nat → Int32, f69 = upd f64 v68.toNatClampNeg p5 ∧ va_P D vwCl (MW Y o a I J (vf_upd F 0 f69) G) H ∧ va_D A (MW Y o a I J (vf_upd F 0 f69) G) := ⟨_, rfl, hP, hD⟩
                have ct70 := clampI (x := v68) (by omega)
                have t70 : TO f69 := by rw [ef69]; exact TO_set t65 (by unfold trow; omega) (by omega) (by omega) (by omega) (by omega)
                have t71 : (f69 (1)).toInt = (f64 (1)).toInt := by rw [ef69, up_ne (by omega)]
                have t72 : (f69 (40 + 6 * (F 0 1).toInt.toNat)).toInt = (f64 (40 + 6 * (F 0 1).toInt.toNat)).toInt := by rw [ef69, up_ne (by omega)]
                refine lv_aload_n hx hb dX11_world_143 rfl (lv_at hl 1 rfl) ?_
                refine va_get (D := D) (ci := 11) (v := .ref (a 0)) (C := RX11) (T := TX11) (N := 49) hx hb hg inGX11 hown hKN.1 hP 0 rfl rfl 0 (by decide) (hg _ kw_1208) (fun _ h9 => h9) rfl dX11_world_144 ?_
                refine lv_iload hx hb dX11_world_147 (lv_at hl 0 rfl) ?_
                refine lv_iconst (v := 5) hx hb dX11_world_149 (by decide) ?_
                refine lv_iadd hx hb dX11_world_150 ?_
                refine lv_topi (fun v73 ev73 => ?_)
                have hv73 := i_add (Eq.refl v49.toInt) (show (5 : Int32).toInt = 5 by decide) ev73 (by omega) (by omega)
                refine lv_iload hx hb dX11_world_151 (lv_at hl 7 rfl) ?_
                have j76 := rgI p6
                refine lv_if_eq (tgt := 160) hx hb dX11_world_153 (by decide) (fun c77 => ?_) (fun c77 => ?_)
                · skip
                  have c77 := i_eq (Eq.refl p6.toInt) (show (0 : Int32).toInt = 0 by decide) c77
                  refine lv_iconst (v := 0) hx hb dX11_world_160 (by decide) ?_
                  refine va_iast hx hb hKN.1 hP hD hS 1 0 rfl rfl (vp_in_iff.mpr ⟨by omega, by omega⟩) dX11_world_161 (fun H locs hP hD hS => ?_)
                  obtain ⟨f78, ef78, hP, hD⟩ : ∃ f78 : Nat → Int32, f78 = upd f69 v73.toNatClampNeg 0 ∧ va_P D vwCl (MW Y o a I J (vf_upd F 0 f78) G) H ∧ va_D A (MW Y o a I J (vf_upd F 0 f78) G) := ⟨_, rfl, hP, hD⟩
                  have zi0 : (0 : Int32).toInt = 0 := by decide
                  have ct79 := clampI (x := v73) (by omega)
                  have t79 : TO f78 := by rw [ef78]; exact TO_set t70 (by unfold trow; omega) (by omega) (by omega) (by omega) (by omega)
                  have t80 : (f78 (1)).toInt = (f69 (1)).toInt := by rw [ef78, up_ne (by omega)]
                  have t81 : (f78 (40 + 6 * (F 0 1).toInt.toNat)).toInt = (f69 (40 + 6 * (F 0 1).toInt.toNat)).toInt := by rw [ef78, up_ne (by omega)]
                  refine lv_aload_n hx hb dX11_world_162 rfl (lv_at hl 1 rfl) ?_
                  refine va_get (D := D) (ci := 11) (v := .ref (a 0)) (C := RX11) (T := TX11) (N := 49) hx hb hg inGX11 hown hKN.1 hP 0 rfl rfl 0 (by decide) (hg _ kw_1208) (fun _ h9 => h9) rfl dX11_world_163 ?_
                  refine lv_iconst (v := 1) hx hb dX11_world_166 (by decide) ?_
                  refine lv_dup2_11 hx hb dX11_world_167 rfl rfl ?_
                  refine va_iald hx hb hKN.1 hP 1 0 rfl rfl (show ¬ ((1 : Int32) < 0 ∨ 7533 ≤ (1 : Int32).toNatClampNeg) by decide) dX11_world_168 ?_
                  refine lv_topi (fun v82 ev82 => ?_)
                  have ev82 : v82 = f78 1 := ev82
                  have kv82 := TO_1 t79
                  rw [← ev82] at kv82
                  have qv82 := congrArg Int32.toInt ev82
                  refine lv_iconst (v := 1) hx hb dX11_world_169 (by decide) ?_
                  refine lv_iadd hx hb dX11_world_170 ?_
                  refine lv_topi (fun v83 ev83 => ?_)
                  have hv83 := i_add (Eq.refl v82.toInt) (show (1 : Int32).toInt = 1 by decide) ev83 (by omega) (by omega)
                  refine va_iast hx hb hKN.1 hP hD hS 1 0 rfl rfl (show ¬ ((1 : Int32) < 0 ∨ 7533 ≤ (1 : Int32).toNatClampNeg) by decide) dX11_world_171 (fun H locs hP hD hS => ?_)
                  obtain ⟨f84, ef84, hP, hD⟩ : ∃ f84 : Nat → Int32, f84 = upd f78 1 v83 ∧ va_P D vwCl (MW Y o a I J (vf_upd F 0 f84) G) H ∧ va_D A (MW Y o a I J (vf_upd F 0 f84) G) := ⟨_, rfl, hP, hD⟩
                  have t85 : TO f84 := by rw [ef84]; exact TO_cnt1n t79 (n := (F 0 1).toInt) (by omega) (by omega) (by omega) (by omega)
                  refine lv_aload_n hx hb dX11_world_172 rfl (lv_at hl 1 rfl) ?_
                  refine va_get (D := D) (ci := 11) (v := .ref (a 0)) (C := RX11) (T := TX11) (N := 49) hx hb hg inGX11 hown hKN.1 hP 0 rfl rfl 0 (by decide) (hg _ kw_1208) (fun _ h9 => h9) rfl dX11_world_173 ?_
                  refine lv_iconst (v := 1) hx hb dX11_world_176 (by decide) ?_
                  refine va_iald hx hb hKN.1 hP 1 0 rfl rfl (show ¬ ((1 : Int32) < 0 ∨ 7533 ≤ (1 : Int32).toNatClampNeg) by decide) dX11_world_177 ?_
                  refine lv_topi (fun v86 ev86 => ?_)
                  have ev86 : v86 = f84 1 := ev86
                  have kv86 := TO_1 t85
                  rw [← ev86] at kv86
                  have qv86 := congrArg Int32.toInt ev86
                  refine lv_iconst (v := 1) hx hb dX11_world_178 (by decide) ?_
                  refine lv_isub hx hb dX11_world_179 ?_
                  refine lv_topi (fun v87 ev87 => ?_)
                  have hv87 := i_sub (Eq.refl v86.toInt) (show (1 : Int32).toInt = 1 by decide) ev87 (by omega) (by omega)
                  refine W.widen (k := 0) (n := 0) (Nat.le_of_ble_eq_true rfl) (Nat.le_of_ble_eq_true rfl) ?_
                  exact W.iret (v := v87) hx hb hr (fun t ht hW => ⟨⟨(v87, f84), rfl, (t85), CB.mk ht hP hD⟩, hS.F ht⟩) hS.2.2 dX11_world_180
                · skip
                  have c77 := i_ne (Eq.refl p6.toInt) (show (0 : Int32).toInt = 0 by decide) c77
                  refine lv_iconst (v := 1) hx hb dX11_world_156 (by decide) ?_
                  refine lv_goto (tgt := 161) hx hb dX11_world_157 (by decide) ?_
                  refine va_iast hx hb hKN.1 hP hD hS 1 0 rfl rfl (vp_in_iff.mpr ⟨by omega, by omega⟩) dX11_world_161 (fun H locs hP hD hS => ?_)
                  obtain ⟨f88, ef88, hP, hD⟩ : ∃ f88 : Nat → Int32, f88 = upd f69 v73.toNatClampNeg 1 ∧ va_P D vwCl (MW Y o a I J (vf_upd F 0 f88) G) H ∧ va_D A (MW Y o a I J (vf_upd F 0 f88) G) := ⟨_, rfl, hP, hD⟩
                  have ct89 := clampI (x := v73) (by omega)
                  have t89 : TO f88 := by rw [ef88]; exact TO_set t70 (by unfold trow; omega) (by omega) (by omega) (by omega) (by omega)
                  have t90 : (f88 (1)).toInt = (f69 (1)).toInt := by rw [ef88, up_ne (by omega)]
                  have t91 : (f88 (40 + 6 * (F 0 1).toInt.toNat)).toInt = (f69 (40 + 6 * (F 0 1).toInt.toNat)).toInt := by rw [ef88, up_ne (by omega)]
                  refine lv_aload_n hx hb dX11_world_162 rfl (lv_at hl 1 rfl) ?_
                  refine va_get (D := D) (ci := 11) (v := .ref (a 0)) (C := RX11) (T := TX11) (N := 49) hx hb hg inGX11 hown hKN.1 hP 0 rfl rfl 0 (by decide) (hg _ kw_1208) (fun _ h9 => h9) rfl dX11_world_163 ?_
                  refine lv_iconst (v := 1) hx hb dX11_world_166 (by decide) ?_
                  refine lv_dup2_11 hx hb dX11_world_167 rfl rfl ?_
                  refine va_iald hx hb hKN.1 hP 1 0 rfl rfl (show ¬ ((1 : Int32) < 0 ∨ 7533 ≤ (1 : Int32).toNatClampNeg) by decide) dX11_world_168 ?_
                  refine lv_topi (fun v92 ev92 => ?_)
                  have ev92 : v92 = f88 1 := ev92
                  have kv92 := TO_1 t89
                  rw [← ev92] at kv92
                  have qv92 := congrArg Int32.toInt ev92
                  refine lv_iconst (v := 1) hx hb dX11_world_169 (by decide) ?_
                  refine lv_iadd hx hb dX11_world_170 ?_
                  refine lv_topi (fun v93 ev93 => ?_)
                  have hv93 := i_add (Eq.refl v92.toInt) (show (1 : Int32).toInt = 1 by decide) ev93 (by omega) (by omega)
                  refine va_iast hx hb hKN.1 hP hD hS 1 0 rfl rfl (show ¬ ((1 : Int32) < 0 ∨ 7533 ≤ (1 : Int32).toNatClampNeg) by decide) dX11_world_171 (fun H locs hP hD hS => ?_)
                  obtain ⟨f94, ef94, hP, hD⟩ : ∃ f94 : Nat → Int32, f94 = upd f88 1 v93 ∧ va_P D vwCl (MW Y o a I J (vf_upd F 0 f94) G) H ∧ va_D A (MW Y o a I J (vf_upd F 0 f94) G) := ⟨_, rfl, hP, hD⟩
                  have t95 : TO f94 := by rw [ef94]; exact TO_cnt1n t89 (n := (F 0 1).toInt) (by omega) (by omega) (by omega) (by omega)
                  refine lv_aload_n hx hb dX11_world_172 rfl (lv_at hl 1 rfl) ?_
                  refine va_get (D := D) (ci := 11) (v := .ref (a 0)) (C := RX11) (T := TX11) (N := 49) hx hb hg inGX11 hown hKN.1 hP 0 rfl rfl 0 (by decide) (hg _ kw_1208) (fun _ h9 => h9) rfl dX11_world_173 ?_
                  refine lv_iconst (v := 1) hx hb dX11_world_176 (by decide) ?_
                  refine va_iald hx hb hKN.1 hP 1 0 rfl rfl (show ¬ ((1 : Int32) < 0 ∨ 7533 ≤ (1 : Int32).toNatClampNeg) by decide) dX11_world_177 ?_
                  refine lv_topi (fun v96 ev96 => ?_)
                  have ev96 : v96 = f94 1 := ev96
                  have kv96 := TO_1 t95
                  rw [← ev96] at kv96
                  have qv96 := congrArg Int32.toInt ev96
                  refine lv_iconst (v := 1) hx hb dX11_world_178 (by decide) ?_
                  refine lv_isub hx hb dX11_world_179 ?_
                  refine lv_topi (fun v97 ev97 => ?_)
                  have hv97 := i_sub (Eq.refl v96.toInt) (show (1 : Int32).toInt = 1 by decide) ev97 (by omega) (by omega)
                  refine W.widen (k := 0) (n := 0) (Nat.le_of_ble_eq_true rfl) (Nat.le_of_ble_eq_true rfl) ?_
                  exact W.iret (v := v97) hx hb hr (fun t ht hW => ⟨⟨(v97, f94), rfl, (t95), CB.mk ht hP hD⟩, hS.F ht⟩) hS.2.2 dX11_world_180
              · obtain rfl : u40 = 0 := i_is c45 (by decide)
                have zi0 : (0 : Int32).toInt = 0 := by decide
                refine W.eq (g2 := F0 m 74 ls [.int 0]) rfl ?_
                refine lv_if_ne (tgt := 79) hx hb dX11_world_74 (by decide) (fun c98 => ?_) (fun c98 => ?_)
                · exact absurd c98 (by decide)
                refine lv_iconst (v := (-1)) hx hb dX11_world_77 (by decide) ?_
                refine W.widen (k := 0) (n := 0) (Nat.le_of_ble_eq_true rfl) (Nat.le_of_ble_eq_true rfl) ?_
                have zim1 : ((-1) : Int32).toInt = -1 := by decide
                exact W.iret (v := (-1)) hx hb hr (fun t ht hW => ⟨⟨((-1), (F 0)), rfl, (hk0), CB.mk ht hP hD⟩, hS.F ht⟩) hS.2.2 dX11_world_78
          · obtain rfl : u30 = 0 := i_is c35 (by decide)
            have zi0 : (0 : Int32).toInt = 0 := by decide
            refine W.eq (g2 := F0 m 55 ls [.int 0]) rfl ?_
            refine lv_if_eq (tgt := 77) hx hb dX11_world_55 (by decide) (fun c99 => ?_) (fun c99 => ?_)
            rotate_left
            · exact absurd c99 (by decide)
            refine lv_iconst (v := (-1)) hx hb dX11_world_77 (by decide) ?_
            refine W.widen (k := 0) (n := 0) (Nat.le_of_ble_eq_true rfl) (Nat.le_of_ble_eq_true rfl) ?_
            have zim1 : ((-1) : Int32).toInt = -1 := by decide
            exact W.iret (v := (-1)) hx hb hr (fun t ht hW => ⟨⟨((-1), (F 0)), rfl, (hk0), CB.mk ht hP hD⟩, hS.F ht⟩) hS.2.2 dX11_world_78
        · obtain rfl : u21 = 0 := i_is c26 (by decide)
          have zi0 : (0 : Int32).toInt = 0 := by decide
          refine W.eq (g2 := F0 m 42 ls [.int 0]) rfl ?_
          refine lv_if_eq (tgt := 77) hx hb dX11_world_42 (by decide) (fun c100 => ?_) (fun c100 => ?_)
          rotate_left
          · exact absurd c100 (by decide)
          refine lv_iconst (v := (-1)) hx hb dX11_world_77 (by decide) ?_
          refine W.widen (k := 0) (n := 0) (Nat.le_of_ble_eq_true rfl) (Nat.le_of_ble_eq_true rfl) ?_
          have zim1 : ((-1) : Int32).toInt = -1 := by decide
          exact W.iret (v := (-1)) hx hb hr (fun t ht hW => ⟨⟨((-1), (F 0)), rfl, (hk0), CB.mk ht hP hD⟩, hS.F ht⟩) hS.2.2 dX11_world_78
      · obtain rfl : u12 = 0 := i_is c17 (by decide)
        have zi0 : (0 : Int32).toInt = 0 := by decide
        refine W.eq (g2 := F0 m 30 ls [.int 0]) rfl ?_
        refine lv_if_eq (tgt := 77) hx hb dX11_world_30 (by decide) (fun c101 => ?_) (fun c101 => ?_)
        rotate_left
        · exact absurd c101 (by decide)
        refine lv_iconst (v := (-1)) hx hb dX11_world_77 (by decide) ?_
        refine W.widen (k := 0) (n := 0) (Nat.le_of_ble_eq_true rfl) (Nat.le_of_ble_eq_true rfl) ?_
        have zim1 : ((-1) : Int32).toInt = -1 := by decide
        exact W.iret (v := (-1)) hx hb hr (fun t ht hW => ⟨⟨((-1), (F 0)), rfl, (hk0), CB.mk ht hP hD⟩, hS.F ht⟩) hS.2.2 dX11_world_78
    · obtain rfl : u3 = 0 := i_is c8 (by decide)
      have zi0 : (0 : Int32).toInt = 0 := by decide
      refine W.eq (g2 := F0 m 16 ls [.int 0]) rfl ?_
      refine lv_if_eq (tgt := 77) hx hb dX11_world_16 (by decide) (fun c102 => ?_) (fun c102 => ?_)
      rotate_left
      · exact absurd c102 (by decide)
      refine lv_iconst (v := (-1)) hx hb dX11_world_77 (by decide) ?_
      refine W.widen (k := 0) (n := 0) (Nat.le_of_ble_eq_true rfl) (Nat.le_of_ble_eq_true rfl) ?_
      have zim1 : ((-1) : Int32).toInt = -1 := by decide
      exact W.iret (v := (-1)) hx hb hr (fun t ht hW => ⟨⟨((-1), (F 0)), rfl, (hk0), CB.mk ht hP hD⟩, hS.F ht⟩) hS.2.2 dX11_world_78
set_option maxHeartbeats 4000000 in
set_option maxRecDepth 100000 in
theorem m_star (l : Launch) (D : va_G) (Y : Nat → ClassId) (Z : Nat → Nat) (sz : Nat) (o : Nat) (a : Nat → Nat) (I : Nat → Int32) (J : Nat → Int64) (F : Nat → Nat → Int32) (G : Nat → Nat → Int64) (p1 : Int32) (p2 : Int32) (p3 : Int32) (hk0 : TO (F 0)) : Met l yX11_star (.code yX11_star cX11_star 6 (some .int) :: GW) ({ frames := 1, cells := 0, slots := 0, locals := 25 }) (va_Pc [.ref o, .int p1, .int p2, .int p3] (CP D Y Z (MW Y o a I J F G) sz)) (QG (S := Int32 × (Nat → Int32)) (fun u => some (.int u.1)) (fun u => TO u.2) (fun u => CB D (MW Y o a I J (vf_upd F 0 u.2) G) (va_A (MW Y o a I J F G) sz)) (va_A (MW Y o a I J F G) sz)) 0 0 (va_A (MW Y o a I J F G) sz) := by
  refine Met.ofW (cc := cX11_star) (maxL := 6) (ret := (some .int)) (by decide) rfl ?_
  intro p e s m args below meth c s₁ B hml hv
  obtain ⟨rfl, hsz, hP, hKN, hD0⟩ := hv
  have hx := B.exec
  have hb := B.bytes
  have hr := B.returns
  have hts := atoms_spec (ws := .code yX11_star cX11_star 6 (some .int) :: GW) B.pre
  have hg : ∀ w ∈ GW, w.before _ s = true := fun w h => hts w (List.mem_cons_of_mem _ h)
  have hown : s.vm.findClass RX11 = some m.cls := findClass_of_methodNamed B.named
  have hlocks := B.notSynchronized
  subst hsz
  have hD := hD0.self (sz := s.heap.size)
  generalize hAe : va_A (MW Y o a I J F G) s.heap.size = A at hD ⊢
  have hA : ∀ q : Nat, s.heap.size ≤ q → A q := fun q h => by rw [← hAe]; exact Or.inr h
  clear hAe hD0 hts B
  have hl := lv_entry ([.ref o, .int p1, .int p2, .int p3]) (n := 6) (Nat.le_of_ble_eq_true rfl)
  rw [lg_entry_eq]
  generalize (lg_sl ([.ref o, .int p1, .int p2, .int p3]) ++ List.replicate (6 - (lg_sl ([.ref o, .int p1, .int p2, .int p3])).length) Slot.unset).toArray = ls at hl ⊢
  have hl : lv_has ls 6 [(0, .ref o), (1, .int p1), (2, .int p2), (3, .int p3)] := hl
  refine w_start (A0 := A) hP (fun H locs hP hS => ?_)
  refine lv_aload_n hx hb dX11_star_0 rfl (lv_at hl 0 rfl) ?_
  refine va_get (D := D) (ci := 11) (v := .ref (a 0)) (C := RX11) (T := TX11) (N := 49) hx hb hg inGX11 hown hKN.1 hP 0 rfl rfl 0 (by decide) (hg _ kw_1208) (fun _ h9 => h9) rfl dX11_star_1 ?_
  refine lv_iconst (v := 0) hx hb dX11_star_4 (by decide) ?_
  refine va_iald hx hb hKN.1 hP 1 0 rfl rfl (show ¬ ((0 : Int32) < 0 ∨ 7533 ≤ (0 : Int32).toNatClampNeg) by decide) dX11_star_5 ?_
  refine lv_topi (fun v1 ev1 => ?_)
  have ev1 : v1 = (F 0) 0 := ev1
  have kv1 := TO_0 hk0
  rw [← ev1] at kv1
  have qv1 := congrArg Int32.toInt ev1
  refine lv_bipush (v := 12) hx hb dX11_star_6 (by decide) ?_
  refine lv_icmp_eq (tgt := 47) hx hb dX11_star_8 (by decide) (fun c2 => ?_) (fun c2 => ?_)
  · skip
    have c2 := i_eq (Eq.refl v1.toInt) (show (12 : Int32).toInt = 12 by decide) c2
    refine lv_iconst (v := (-1)) hx hb dX11_star_47 (by decide) ?_
    refine W.widen (k := 0) (n := 0) (Nat.le_of_ble_eq_true rfl) (Nat.le_of_ble_eq_true rfl) ?_
    have zim1 : ((-1) : Int32).toInt = -1 := by decide
    exact W.iret (v := (-1)) hx hb hr (fun t ht hW => ⟨⟨((-1), (F 0)), rfl, (hk0), CB.mk ht hP hD⟩, hS.F ht⟩) hS.2.2 dX11_star_48
  · skip
    have c2 := i_ne (Eq.refl v1.toInt) (show (12 : Int32).toInt = 12 by decide) c2
    refine lv_iload_n hx hb dX11_star_11 rfl (lv_at hl 1 rfl) ?_
    have j3 := rgI p1
    have j4 := Int32.toInt_toInt64 p1
    refine lv_i2l (v := p1.toInt64) hx hb dX11_star_12 (rfl) ?_
    refine lv_lconst (v := 1) hx hb dX11_star_13 (by decide) ?_
    refine lv_ldc2 (v := 999) hx hb hown (hg _ kw_1361) dX11_star_14 ?_
    have zl1 : (1 : Int64).toInt = 1 := by decide
    have zl999 : (999 : Int64).toInt = 999 := by decide
    refine cg0 (rn_S (As := [.long p1.toInt64, .long 1, .long 999]) (rest := []) (m_in l D Y Z H.size   p1.toInt64 1 999 ) ⟨hx, hb, hml, hown, hg⟩ lk_X11_99 ⟨CP.blind, CP.at nilP hKN (nilD (A := fun _ => True))⟩ ⟨⟨rfl, rfl⟩, ⟨Nat.le_of_ble_eq_true rfl, Nat.le_of_ble_eq_true rfl⟩, ⟨Nat.le_of_ble_eq_true rfl, Nat.le_of_ble_eq_true rfl⟩⟩ hl.1 rfl (Nat.le_of_ble_eq_true rfl) dX11_star_17) hP hS hA (fun u5 H locs w6 hP hS => ?_)
    have w6 : (((1 : Int64).toInt ≤ p1.toInt64.toInt ∧ p1.toInt64.toInt ≤ (999 : Int64).toInt ∧ u5.toInt = 1) ∨ (¬ ((1 : Int64).toInt ≤ p1.toInt64.toInt ∧ p1.toInt64.toInt ≤ (999 : Int64).toInt) ∧ u5.toInt = 0)) ∧ (0 ≤ u5.toInt ∧ u5.toInt ≤ 1) := w6
    obtain ⟨hw8, hw9⟩ := w6
    refine W.eq (g2 := F0 m 20 ls [.int u5]) rfl ?_
    rcases (show u5.toInt = 1 ∨ u5.toInt = 0 by omega) with c10 | c10
    · obtain rfl : u5 = 1 := i_is c10 (by decide)
      have zi1 : (1 : Int32).toInt = 1 := by decide
      refine W.eq (g2 := F0 m 20 ls [.int 1]) rfl ?_
      refine lv_if_eq (tgt := 47) hx hb dX11_star_20 (by decide) (fun c11 => ?_) (fun c11 => ?_)
      · exact absurd c11 (by decide)
      refine lv_iload_n hx hb dX11_star_23 rfl (lv_at hl 2 rfl) ?_
      have j12 := rgI p2
      have j13 := Int32.toInt_toInt64 p2
      refine lv_i2l (v := p2.toInt64) hx hb dX11_star_24 (rfl) ?_
      refine lv_lconst (v := 0) hx hb dX11_star_25 (by decide) ?_
      refine lv_ldc2 (v := 7) hx hb hown (hg _ kw_1365) dX11_star_26 ?_
      have zl0 : (0 : Int64).toInt = 0 := by decide
      have zl7 : (7 : Int64).toInt = 7 := by decide
      refine cg0 (rn_S (As := [.long p2.toInt64, .long 0, .long 7]) (rest := []) (m_in l D Y Z H.size   p2.toInt64 0 7 ) ⟨hx, hb, hml, hown, hg⟩ lk_X11_99 ⟨CP.blind, CP.at nilP hKN (nilD (A := fun _ => True))⟩ ⟨⟨rfl, rfl⟩, ⟨Nat.le_of_ble_eq_true rfl, Nat.le_of_ble_eq_true rfl⟩, ⟨Nat.le_of_ble_eq_true rfl, Nat.le_of_ble_eq_true rfl⟩⟩ hl.1 rfl (Nat.le_of_ble_eq_true rfl) dX11_star_29) hP hS hA (fun u14 H locs w15 hP hS => ?_)
      have w15 : (((0 : Int64).toInt ≤ p2.toInt64.toInt ∧ p2.toInt64.toInt ≤ (7 : Int64).toInt ∧ u14.toInt = 1) ∨ (¬ ((0 : Int64).toInt ≤ p2.toInt64.toInt ∧ p2.toInt64.toInt ≤ (7 : Int64).toInt) ∧ u14.toInt = 0)) ∧ (0 ≤ u14.toInt ∧ u14.toInt ≤ 1) := w15
      obtain ⟨hw17, hw18⟩ := w15
      refine W.eq (g2 := F0 m 32 ls [.int u14]) rfl ?_
      rcases (show u14.toInt = 1 ∨ u14.toInt = 0 by omega) with c19 | c19
      · obtain rfl : u14 = 1 := i_is c19 (by decide)
        refine W.eq (g2 := F0 m 32 ls [.int 1]) rfl ?_
        refine lv_if_eq (tgt := 47) hx hb dX11_star_32 (by decide) (fun c20 => ?_) (fun c20 => ?_)
        · exact absurd c20 (by decide)
        refine lv_iload_n hx hb dX11_star_35 rfl (lv_at hl 3 rfl) ?_
        have j21 := rgI p3
        have j22 := Int32.toInt_toInt64 p3
        refine lv_i2l (v := p3.toInt64) hx hb dX11_star_36 (rfl) ?_
        refine lv_lconst (v := 1) hx hb dX11_star_37 (by decide) ?_
        refine lv_ldc2 (v := 1000) hx hb hown (hg _ kw_1366) dX11_star_38 ?_
        have zl1000 : (1000 : Int64).toInt = 1000 := by decide
        refine cg0 (rn_S (As := [.long p3.toInt64, .long 1, .long 1000]) (rest := []) (m_in l D Y Z H.size   p3.toInt64 1 1000 ) ⟨hx, hb, hml, hown, hg⟩ lk_X11_99 ⟨CP.blind, CP.at nilP hKN (nilD (A := fun _ => True))⟩ ⟨⟨rfl, rfl⟩, ⟨Nat.le_of_ble_eq_true rfl, Nat.le_of_ble_eq_true rfl⟩, ⟨Nat.le_of_ble_eq_true rfl, Nat.le_of_ble_eq_true rfl⟩⟩ hl.1 rfl (Nat.le_of_ble_eq_true rfl) dX11_star_41) hP hS hA (fun u23 H locs w24 hP hS => ?_)
        have w24 : (((1 : Int64).toInt ≤ p3.toInt64.toInt ∧ p3.toInt64.toInt ≤ (1000 : Int64).toInt ∧ u23.toInt = 1) ∨ (¬ ((1 : Int64).toInt ≤ p3.toInt64.toInt ∧ p3.toInt64.toInt ≤ (1000 : Int64).toInt) ∧ u23.toInt = 0)) ∧ (0 ≤ u23.toInt ∧ u23.toInt ≤ 1) := w24
        obtain ⟨hw26, hw27⟩ := w24
        refine W.eq (g2 := F0 m 44 ls [.int u23]) rfl ?_
        rcases (show u23.toInt = 1 ∨ u23.toInt = 0 by omega) with c28 | c28
        · obtain rfl : u23 = 1 := i_is c28 (by decide)
          refine W.eq (g2 := F0 m 44 ls [.int 1]) rfl ?_
          refine lv_if_ne (tgt := 49) hx hb dX11_star_44 (by decide) (fun c29 => ?_) (fun c29 => ?_)
          rotate_left
          · exact absurd c29 (by decide)
          refine lv_aload_n hx hb dX11_star_49 rfl (lv_at hl 0 rfl) ?_
          refine va_get (D := D) (ci := 11) (v := .ref (a 0)) (C := RX11) (T := TX11) (N := 49) hx hb hg inGX11 hown hKN.1 hP 0 rfl rfl 0 (by decide) (hg _ kw_1208) (fun _ h9 => h9) rfl dX11_star_50 ?_
          refine lv_iconst (v := 0) hx hb dX11_star_53 (by decide) ?_
          refine va_iald hx hb hKN.1 hP 1 0 rfl rfl (show ¬ ((0 : Int32) < 0 ∨ 7533 ≤ (0 : Int32).toNatClampNeg) by decide) dX11_star_54 ?_
          refine lv_topi (fun v30 ev30 => ?_)
          have ev30 : v30 = (F 0) 0 := ev30
          have kv30 := TO_0 hk0
          rw [← ev30] at kv30
          have qv30 := congrArg Int32.toInt ev30
          refine lv_istore (lv' := [(4, .int v30), (0, .ref o), (1, .int p1), (2, .int p2), (3, .int p3)]) hx hb dX11_star_55 hl (by decide) rfl (fun ls hl => ?_)
          refine lv_aload_n hx hb dX11_star_57 rfl (lv_at hl 1 rfl) ?_
          refine va_get (D := D) (ci := 11) (v := .ref (a 0)) (C := RX11) (T := TX11) (N := 49) hx hb hg inGX11 hown hKN.1 hP 0 rfl rfl 0 (by decide) (hg _ kw_1208) (fun _ h9 => h9) rfl dX11_star_58 ?_
          refine lv_iconst (v := 3) hx hb dX11_star_61 (by decide) ?_
          refine lv_iconst (v := 3) hx hb dX11_star_62 (by decide) ?_
          refine lv_iload hx hb dX11_star_63 (lv_at hl 0 rfl) ?_
          refine lv_imul hx hb dX11_star_65 ?_
          refine lv_topi (fun v31 ev31 => ?_)
          have hv31 := i_mul (show (3 : Int32).toInt = 3 by decide) (Eq.refl v30.toInt) ev31 (by omega) (by omega)
          refine lv_iadd hx hb dX11_star_66 ?_
          refine lv_topi (fun v32 ev32 => ?_)
          have hv32 := i_add (show (3 : Int32).toInt = 3 by decide) (Eq.refl v31.toInt) ev32 (by omega) (by omega)
          refine lv_iload_n hx hb dX11_star_67 rfl (lv_at hl 2 rfl) ?_
          refine va_iast hx hb hKN.1 hP hD hS 1 0 rfl rfl (vp_in_iff.mpr ⟨by omega, by omega⟩) dX11_star_68 (fun H locs hP hD hS => ?_)
          obtain ⟨f33, ef33, hP, hD⟩ : ∃ f33 : Nat → Int32, f33 = upd (F 0) v32.toNatClampNeg p1 ∧ va_P D vwCl (MW Y o a I J (vf_upd F 0 f33) G) H ∧ va_D A (MW Y o a I J (vf_upd F 0 f33) G) := ⟨_, rfl, hP, hD⟩
          have ct34 := clampI (x := v32) (by omega)
          have t34 : TO f33 := by rw [ef33]; exact TO_set hk0 (by unfold trow; omega) (by omega) (by omega) (by omega) (by omega)
          have t35 : (f33 (0)).toInt = ((F 0) (0)).toInt := by rw [ef33, up_ne (by omega)]
          refine lv_aload_n hx hb dX11_star_69 rfl (lv_at hl 1 rfl) ?_
          refine va_get (D := D) (ci := 11) (v := .ref (a 0)) (C := RX11) (T := TX11) (N := 49) hx hb hg inGX11 hown hKN.1 hP 0 rfl rfl 0 (by decide) (hg _ kw_1208) (fun _ h9 => h9) rfl dX11_star_70 ?_
          refine lv_iconst (v := 3) hx hb dX11_star_73 (by decide) ?_
          refine lv_iconst (v := 3) hx hb dX11_star_74 (by decide) ?_
          refine lv_iload hx hb dX11_star_75 (lv_at hl 0 rfl) ?_
          refine lv_imul hx hb dX11_star_77 ?_
          refine lv_topi (fun v36 ev36 => ?_)
          have hv36 := i_mul (show (3 : Int32).toInt = 3 by decide) (Eq.refl v30.toInt) ev36 (by omega) (by omega)
          refine lv_iadd hx hb dX11_star_78 ?_
          refine lv_topi (fun v37 ev37 => ?_)
          have hv37 := i_add (show (3 : Int32).toInt = 3 by decide) (Eq.refl v36.toInt) ev37 (by omega) (by omega)
          refine lv_iconst (v := 1) hx hb dX11_star_79 (by decide) ?_
          refine lv_iadd hx hb dX11_star_80 ?_
          refine lv_topi (fun v38 ev38 => ?_)
          have hv38 := i_add (Eq.refl v37.toInt) (show (1 : Int32).toInt = 1 by decide) ev38 (by omega) (by omega)
          refine lv_iload_n hx hb dX11_star_81 rfl (lv_at hl 3 rfl) ?_
          refine va_iast hx hb hKN.1 hP hD hS 1 0 rfl rfl (vp_in_iff.mpr ⟨by omega, by omega⟩) dX11_star_82 (fun H locs hP hD hS => ?_)
          obtain ⟨f39, ef39, hP, hD⟩ : ∃ f39 : Nat → Int32, f39 = upd f33 v38.toNatClampNeg p2 ∧ va_P D vwCl (MW Y o a I J (vf_upd F 0 f39) G) H ∧ va_D A (MW Y o a I J (vf_upd F 0 f39) G) := ⟨_, rfl, hP, hD⟩
          have ct40 := clampI (x := v38) (by omega)
          have t40 : TO f39 := by rw [ef39]; exact TO_set t34 (by unfold trow; omega) (by omega) (by omega) (by omega) (by omega)
          have t41 : (f39 (0)).toInt = (f33 (0)).toInt := by rw [ef39, up_ne (by omega)]
          refine lv_aload_n hx hb dX11_star_83 rfl (lv_at hl 1 rfl) ?_
          refine va_get (D := D) (ci := 11) (v := .ref (a 0)) (C := RX11) (T := TX11) (N := 49) hx hb hg inGX11 hown hKN.1 hP 0 rfl rfl 0 (by decide) (hg _ kw_1208) (fun _ h9 => h9) rfl dX11_star_84 ?_
          refine lv_iconst (v := 3) hx hb dX11_star_87 (by decide) ?_
          refine lv_iconst (v := 3) hx hb dX11_star_88 (by decide) ?_
          refine lv_iload hx hb dX11_star_89 (lv_at hl 0 rfl) ?_
          refine lv_imul hx hb dX11_star_91 ?_
          refine lv_topi (fun v42 ev42 => ?_)
          have hv42 := i_mul (show (3 : Int32).toInt = 3 by decide) (Eq.refl v30.toInt) ev42 (by omega) (by omega)
          refine lv_iadd hx hb dX11_star_92 ?_
          refine lv_topi (fun v43 ev43 => ?_)
          have hv43 := i_add (show (3 : Int32).toInt = 3 by decide) (Eq.refl v42.toInt) ev43 (by omega) (by omega)
          refine lv_iconst (v := 2) hx hb dX11_star_93 (by decide) ?_
          refine lv_iadd hx hb dX11_star_94 ?_
          refine lv_topi (fun v44 ev44 => ?_)
          have hv44 := i_add (Eq.refl v43.toInt) (show (2 : Int32).toInt = 2 by decide) ev44 (by omega) (by omega)
          refine lv_iload_n hx hb dX11_star_95 rfl (lv_at hl 4 rfl) ?_
          refine va_iast hx hb hKN.1 hP hD hS 1 0 rfl rfl (vp_in_iff.mpr ⟨by omega, by omega⟩) dX11_star_96 (fun H locs hP hD hS => ?_)
          obtain ⟨f45, ef45, hP, hD⟩ : ∃ f45 : Nat → Int32, f45 = upd f39 v44.toNatClampNeg p3 ∧ va_P D vwCl (MW Y o a I J (vf_upd F 0 f45) G) H ∧ va_D A (MW Y o a I J (vf_upd F 0 f45) G) := ⟨_, rfl, hP, hD⟩
          have ct46 := clampI (x := v44) (by omega)
          have t46 : TO f45 := by rw [ef45]; exact TO_set t40 (by unfold trow; omega) (by omega) (by omega) (by omega) (by omega)
          have t47 : (f45 (0)).toInt = (f39 (0)).toInt := by rw [ef45, up_ne (by omega)]
          have t48 : (f45 (5 + 3 * (F 0 0).toInt.toNat)).toInt = p3.toInt := by rw [ef45, up_eq (by omega)]
          refine lv_iconst (v := 0) hx hb dX11_star_97 (by decide) ?_
          refine lv_istore (lv' := [(5, .int 0), (4, .int v30), (0, .ref o), (1, .int p1), (2, .int p2), (3, .int p3)]) hx hb dX11_star_98 hl (by decide) rfl (fun ls hl => ?_)
          have zi0 : (0 : Int32).toInt = 0 := by decide
          refine w_loop (σ := Int32 × (Nat → Int32)) (fun xx H locs ls => match xx with | (g65, f66) => va_P D vwCl (MW Y o a I J (vf_upd F 0 f66) G) H ∧ va_D A (MW Y o a I J (vf_upd F 0 f66) G) ∧ va_S A s.heap H locs ∧ lv_has ls 6 [(5, .int g65), (4, .int v30), (0, .ref o), (1, .int p1), (2, .int p2), (3, .int p3)] ∧ (0 ≤ g65.toInt ∧ g65.toInt ≤ 600) ∧ ((f66 0).toInt = (F 0 0).toInt) ∧ (1 ≤ (f66 (5 + 3 * (F 0 0).toInt.toNat)).toInt) ∧ TO f66) (fun xx => match xx with | (g65, f66) => (600 - g65.toInt).toNat) (0, f45) ⟨hP, hD, hS, lv_sub hl [0, 1, 2, 3, 4, 5] rfl, by omega, by omega, by omega, t46⟩ (fun xx H locs ls hI ih => ?_)
          obtain ⟨g65, f66⟩ := xx
          obtain ⟨hP, hD, hS, hl, hq85, hq86, hq87, hp88⟩ := hI
          have ih89 := ih
          refine lv_iload hx hb dX11_star_100 (lv_at hl 0 rfl) ?_
          refine lv_sipush (v := 600) hx hb dX11_star_102 (by decide) ?_
          refine lv_icmp_ge (tgt := 134) hx hb dX11_star_105 (by decide) (fun c99 => ?_) (fun c99 => ?_)
          · skip
            have c99 := i_le (show (600 : Int32).toInt = 600 by decide) (Eq.refl g65.toInt) c99
            refine lv_aload_n hx hb dX11_star_134 rfl (lv_at hl 2 rfl) ?_
            refine va_get (D := D) (ci := 11) (v := .ref (a 0)) (C := RX11) (T := TX11) (N := 49) hx hb hg inGX11 hown hKN.1 hP 0 rfl rfl 0 (by decide) (hg _ kw_1208) (fun _ h9 => h9) rfl dX11_star_135 ?_
            refine lv_iconst (v := 0) hx hb dX11_star_138 (by decide) ?_
            refine lv_dup2_11 hx hb dX11_star_139 rfl rfl ?_
            refine va_iald hx hb hKN.1 hP 1 0 rfl rfl (show ¬ ((0 : Int32) < 0 ∨ 7533 ≤ (0 : Int32).toNatClampNeg) by decide) dX11_star_140 ?_
            refine lv_topi (fun v100 ev100 => ?_)
            have ev100 : v100 = f66 0 := ev100
            have kv100 := TO_0 hp88
            rw [← ev100] at kv100
            have qv100 := congrArg Int32.toInt ev100
            refine lv_iconst (v := 1) hx hb dX11_star_141 (by decide) ?_
            refine lv_iadd hx hb dX11_star_142 ?_
            refine lv_topi (fun v101 ev101 => ?_)
            have hv101 := i_add (Eq.refl v100.toInt) (show (1 : Int32).toInt = 1 by decide) ev101 (by omega) (by omega)
            refine va_iast hx hb hKN.1 hP hD hS 1 0 rfl rfl (show ¬ ((0 : Int32) < 0 ∨ 7533 ≤ (0 : Int32).toNatClampNeg) by decide) dX11_star_143 (fun H locs hP hD hS => ?_)
            obtain ⟨f102, ef102, hP, hD⟩ : ∃ f102 : Nat → Int32, f102 = upd f66 0 v101 ∧ va_P D vwCl (MW Y o a I J (vf_upd F 0 f102) G) H ∧ va_D A (MW Y o a I J (vf_upd F 0 f102) G) := ⟨_, rfl, hP, hD⟩
            have t103 : TO f102 := by rw [ef102]; exact TO_cnt0n hp88 (n := (F 0 0).toInt) (by omega) (by omega) (by omega) (by omega)
            refine lv_iload hx hb dX11_star_144 (lv_at hl 1 rfl) ?_
            refine W.widen (k := 0) (n := 0) (Nat.le_of_ble_eq_true rfl) (Nat.le_of_ble_eq_true rfl) ?_
            exact W.iret (v := v30) hx hb hr (fun t ht hW => ⟨⟨(v30, f102), rfl, (t103), CB.mk ht hP hD⟩, hS.F ht⟩) hS.2.2 dX11_star_146
          · skip
            have c99 := i_nle (show (600 : Int32).toInt = 600 by decide) (Eq.refl g65.toInt) c99
            refine lv_aload_n hx hb dX11_star_108 rfl (lv_at hl 2 rfl) ?_
            refine va_get (D := D) (ci := 11) (v := .ref (a 0)) (C := RX11) (T := TX11) (N := 49) hx hb hg inGX11 hown hKN.1 hP 0 rfl rfl 0 (by decide) (hg _ kw_1208) (fun _ h9 => h9) rfl dX11_star_109 ?_
            refine lv_sipush (v := 315) hx hb dX11_star_112 (by decide) ?_
            refine lv_sipush (v := 600) hx hb dX11_star_115 (by decide) ?_
            refine lv_iload hx hb dX11_star_118 (lv_at hl 1 rfl) ?_
            refine lv_imul hx hb dX11_star_120 ?_
            refine lv_topi (fun v104 ev104 => ?_)
            have hv104 := i_mul (show (600 : Int32).toInt = 600 by decide) (Eq.refl v30.toInt) ev104 (by omega) (by omega)
            refine lv_iadd hx hb dX11_star_121 ?_
            refine lv_topi (fun v105 ev105 => ?_)
            have hv105 := i_add (show (315 : Int32).toInt = 315 by decide) (Eq.refl v104.toInt) ev105 (by omega) (by omega)
            refine lv_iload hx hb dX11_star_122 (lv_at hl 0 rfl) ?_
            refine lv_iadd hx hb dX11_star_124 ?_
            refine lv_topi (fun v106 ev106 => ?_)
            have hv106 := i_add (Eq.refl v105.toInt) (Eq.refl g65.toInt) ev106 (by omega) (by omega)
            refine lv_ldc (v := (-100000)) hx hb hown (hg _ kw_1367) dX11_star_125 ?_
            refine va_iast hx hb hKN.1 hP hD hS 1 0 rfl rfl (vp_in_iff.mpr ⟨by omega, by omega⟩) dX11_star_127 (fun H locs hP hD hS => ?_)
            obtain ⟨f107, ef107, hP, hD⟩ : ∃ f107 : Nat → Int32, f107 = upd f66 v106.toNatClampNeg (-100000) ∧ va_P D vwCl (MW Y o a I J (vf_upd F 0 f107) G) H ∧ va_D A (MW Y o a I J (vf_upd F 0 f107) G) := ⟨_, rfl, hP, hD⟩
            have zim100000 : ((-100000) : Int32).toInt = -100000 := by decide
            have ct108 := clampI (x := v106) (by omega)
            have t108 : TO f107 := by rw [ef107]; exact TO_set hp88 (by unfold trow; omega) (by omega) (by omega) (by omega) (by omega)
            have t109 : (f107 (0)).toInt = (f66 (0)).toInt := by rw [ef107, up_ne (by omega)]
            have t110 : (f107 (5 + 3 * (F 0 0).toInt.toNat)).toInt = (f66 (5 + 3 * (F 0 0).toInt.toNat)).toInt := by rw [ef107, up_ne (by omega)]
            obtain ⟨v111, ev111⟩ : ∃ y : Int32, y = g65 + 1 := ⟨_, rfl⟩
            have hv111 := i_add (Eq.refl g65.toInt) (show (1 : Int32).toInt = 1 by decide) ev111 (by omega) (by omega)
            refine lv_iinc (v := v111) (lv' := [(5, .int v111), (4, .int v30), (0, .ref o), (1, .int p1), (2, .int p2), (3, .int p3)]) hx hb dX11_star_128 hl (k := 0) rfl (by rw [ev111]; rfl) (by decide) rfl (fun ls hl => ?_)
            refine lv_goto (tgt := 100) hx hb dX11_star_131 (by decide) ?_
            exact ih89 (v111, f107) H locs ls (by show (600 - v111.toInt).toNat < (600 - g65.toInt).toNat; omega) ⟨hP, hD, hS, lv_sub hl [0, 1, 2, 3, 4, 5] rfl, by omega, by omega, by omega, t108⟩
        · obtain rfl : u23 = 0 := i_is c28 (by decide)
          have zi0 : (0 : Int32).toInt = 0 := by decide
          refine W.eq (g2 := F0 m 44 ls [.int 0]) rfl ?_
          refine lv_if_ne (tgt := 49) hx hb dX11_star_44 (by decide) (fun c112 => ?_) (fun c112 => ?_)
          · exact absurd c112 (by decide)
          refine lv_iconst (v := (-1)) hx hb dX11_star_47 (by decide) ?_
          refine W.widen (k := 0) (n := 0) (Nat.le_of_ble_eq_true rfl) (Nat.le_of_ble_eq_true rfl) ?_
          have zim1 : ((-1) : Int32).toInt = -1 := by decide
          exact W.iret (v := (-1)) hx hb hr (fun t ht hW => ⟨⟨((-1), (F 0)), rfl, (hk0), CB.mk ht hP hD⟩, hS.F ht⟩) hS.2.2 dX11_star_48
      · obtain rfl : u14 = 0 := i_is c19 (by decide)
        have zi0 : (0 : Int32).toInt = 0 := by decide
        refine W.eq (g2 := F0 m 32 ls [.int 0]) rfl ?_
        refine lv_if_eq (tgt := 47) hx hb dX11_star_32 (by decide) (fun c113 => ?_) (fun c113 => ?_)
        rotate_left
        · exact absurd c113 (by decide)
        refine lv_iconst (v := (-1)) hx hb dX11_star_47 (by decide) ?_
        refine W.widen (k := 0) (n := 0) (Nat.le_of_ble_eq_true rfl) (Nat.le_of_ble_eq_true rfl) ?_
        have zim1 : ((-1) : Int32).toInt = -1 := by decide
        exact W.iret (v := (-1)) hx hb hr (fun t ht hW => ⟨⟨((-1), (F 0)), rfl, (hk0), CB.mk ht hP hD⟩, hS.F ht⟩) hS.2.2 dX11_star_48
    · obtain rfl : u5 = 0 := i_is c10 (by decide)
      have zi0 : (0 : Int32).toInt = 0 := by decide
      refine W.eq (g2 := F0 m 20 ls [.int 0]) rfl ?_
      refine lv_if_eq (tgt := 47) hx hb dX11_star_20 (by decide) (fun c114 => ?_) (fun c114 => ?_)
      rotate_left
      · exact absurd c114 (by decide)
      refine lv_iconst (v := (-1)) hx hb dX11_star_47 (by decide) ?_
      refine W.widen (k := 0) (n := 0) (Nat.le_of_ble_eq_true rfl) (Nat.le_of_ble_eq_true rfl) ?_
      have zim1 : ((-1) : Int32).toInt = -1 := by decide
      exact W.iret (v := (-1)) hx hb hr (fun t ht hW => ⟨⟨((-1), (F 0)), rfl, (hk0), CB.mk ht hP hD⟩, hS.F ht⟩) hS.2.2 dX11_star_48
