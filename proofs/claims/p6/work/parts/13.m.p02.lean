set_option maxHeartbeats 4000000 in
set_option maxRecDepth 100000 in
theorem m_gathers4 (l : Launch) (D : va_G) (Y : Nat → ClassId) (Z : Nat → Nat) (sz : Nat) (o : Nat) (a : Nat → Nat) (I : Nat → Int32) (J : Nat → Int64) (F : Nat → Nat → Int32) (G : Nat → Nat → Int64) (hk_0 : (2 ≤ (I 34).toInt ∧ (I 34).toInt ≤ 200)) (hk_1 : (1 ≤ (I 35).toInt ∧ (I 35).toInt ≤ 10)) (hk_2 : (0 ≤ (I 36).toInt ∧ (I 36).toInt ≤ 199)) (hk_3 : ((I 36).toInt < (I 34).toInt)) : Met l yX11_gathers (.code yX11_gathers cX11_gathers 7 none :: GW) ({ frames := 2, cells := 0, slots := 0, locals := 44 }) (va_Pc [.ref o, .int 4] (CP D Y Z (MW Y o a I J F G) sz)) (QG (S := Int32 × Int64) (fun _ => none) (fun u => (u.1.toInt = (cin (F 28) ((I 34).toInt).toNat ((I 35).toInt).toNat ((I 36).toInt).toNat 600 : Int))) (fun u => CB D (MW Y o a (upd I 32 u.1) (vp_updL J 33 u.2) F G) (va_A (MW Y o a I J F G) sz)) (va_A (MW Y o a I J F G) sz)) 0 0 (va_A (MW Y o a I J F G) sz) := by
  refine Met.ofW (cc := cX11_gathers) (maxL := 7) (ret := none) (by decide) rfl ?_
  intro p e s m args below meth c s₁ B hml hv
  obtain ⟨rfl, hsz, hP, hKN, hD0⟩ := hv
  have hx := B.exec
  have hb := B.bytes
  have hr := B.returns
  have hts := atoms_spec (ws := .code yX11_gathers cX11_gathers 7 none :: GW) B.pre
  have hg : ∀ w ∈ GW, w.before _ s = true := fun w h => hts w (List.mem_cons_of_mem _ h)
  have hown : s.vm.findClass RX11 = some m.cls := findClass_of_methodNamed B.named
  have hlocks := B.notSynchronized
  subst hsz
  have hD := hD0.self (sz := s.heap.size)
  generalize hAe : va_A (MW Y o a I J F G) s.heap.size = A at hD ⊢
  have hA : ∀ q : Nat, s.heap.size ≤ q → A q := fun q h => by rw [← hAe]; exact Or.inr h
  clear hAe hD0 hts B
  have hl := lv_entry ([.ref o, .int 4]) (n := 7) (Nat.le_of_ble_eq_true rfl)
  rw [lg_entry_eq]
  generalize (lg_sl ([.ref o, .int 4]) ++ List.replicate (7 - (lg_sl ([.ref o, .int 4])).length) Slot.unset).toArray = ls at hl ⊢
  have hl : lv_has ls 7 [(0, .ref o), (1, .int 4)] := hl
  refine w_start (A0 := A) hP (fun H locs hP hS => ?_)
  refine lv_aload_n hx hb dX11_gathers_0 rfl (lv_at hl 0 rfl) ?_
  refine lv_iconst (v := 0) hx hb dX11_gathers_1 (by decide) ?_
  refine va_put (D := D) (ci := 11) (v := .int 0) (ty := .int) (C := RX11) (T := TX11) (N := 49) hx hb hg inGX11 tyX11 tyX11_ok nmX11 hown hKN.1 hP hD hS 0 rfl rfl 32 (by decide) (hg _ kw_1240) (fun _ h9 => h9) rfl (by decide +kernel) rfl rfl (Nat.le_of_ble_eq_true rfl) dX11_gathers_2 (fun H locs hP hD hS => ?_)
  have hP : va_P D vwCl (MW Y o a (upd I 32 0) J F G) H := hP
  have hD : va_D A (MW Y o a (upd I 32 0) J F G) := hD
  refine lv_aload_n hx hb dX11_gathers_5 rfl (lv_at hl 0 rfl) ?_
  refine lv_lconst (v := 0) hx hb dX11_gathers_6 (by decide) ?_
  refine va_put (D := D) (ci := 11) (v := .long 0) (ty := .long) (C := RX11) (T := TX11) (N := 49) hx hb hg inGX11 tyX11 tyX11_ok nmX11 hown hKN.1 hP hD hS 0 rfl rfl 33 (by decide) (hg _ kw_1241) (fun _ h9 => h9) rfl (by decide +kernel) rfl rfl (Nat.le_of_ble_eq_true rfl) dX11_gathers_7 (fun H locs hP hD hS => ?_)
  have hP : va_P D vwCl (MW Y o a (upd I 32 0) (vp_updL J 33 0) F G) H := hP
  have hD : va_D A (MW Y o a (upd I 32 0) (vp_updL J 33 0) F G) := hD
  refine lv_iconst (v := 0) hx hb dX11_gathers_10 (by decide) ?_
  refine lv_istore_n (lv' := [(2, .int 0), (0, .ref o), (1, .int 4)]) hx hb dX11_gathers_11 rfl hl (by decide) rfl (fun ls hl => ?_)
  have zi0 : (0 : Int32).toInt = 0 := by decide
  have zi4 : (4 : Int32).toInt = 4 := by decide
  have zl0 : (0 : Int64).toInt = 0 := by decide
  refine w_loop (σ := Int32 × Int32 × Int64) (fun xx H locs ls => match xx with | (g63, g64, g65) => va_P D vwCl (MW Y o a (upd I 32 g64) (vp_updL J 33 g65) F G) H ∧ va_D A (MW Y o a (upd I 32 g64) (vp_updL J 33 g65) F G) ∧ va_S A s.heap H locs ∧ lv_has ls 7 [(2, .int g63), (0, .ref o), (1, .int 4)] ∧ (0 ≤ g63.toInt ∧ g63.toInt ≤ 600) ∧ (0 ≤ g64.toInt ∧ g64.toInt ≤ 600) ∧ (g64.toInt = (cin (F 28) ((I 34).toInt).toNat ((I 35).toInt).toNat ((I 36).toInt).toNat (g63.toInt).toNat : Int)) ∧ (g64.toInt ≤ g63.toInt)) (fun xx => match xx with | (g63, g64, g65) => (600 - g63.toInt).toNat) (0, 0, 0) ⟨hP, hD, hS, lv_sub hl [0, 1, 2] rfl, by omega, by omega, by omega, by omega⟩ (fun xx H locs ls hI ih => ?_)
  obtain ⟨g63, g64, g65⟩ := xx
  obtain ⟨hP, hD, hS, hl, hq133, hq134, hq135, hq136⟩ := hI
  have ih137 := ih
  refine lv_iload_n hx hb dX11_gathers_12 rfl (lv_at hl 0 rfl) ?_
  refine lv_sipush (v := 600) hx hb dX11_gathers_13 (by decide) ?_
  refine lv_icmp_ge (tgt := 185) hx hb dX11_gathers_16 (by decide) (fun c138 => ?_) (fun c138 => ?_)
  · skip
    have c138 := i_le (show (600 : Int32).toInt = 600 by decide) (Eq.refl g63.toInt) c138
    refine W.widen (k := 0) (n := 0) (Nat.le_of_ble_eq_true rfl) (Nat.le_of_ble_eq_true rfl) ?_
    have zi4 : (4 : Int32).toInt = 4 := by decide
    exact W.vret hx hb hr (fun t ht hW => ⟨⟨(g64, g65), rfl, ((show (g64.toInt = (cin (F 28) ((I 34).toInt).toNat ((I 35).toInt).toNat ((I 36).toInt).toNat 600 : Int)) by omega)), CB.mk ht hP hD⟩, hS.F ht⟩) hS.2.2 dX11_gathers_185
  · skip
    have c138 := i_nle (show (600 : Int32).toInt = 600 by decide) (Eq.refl g63.toInt) c138
    refine lv_aload_n hx hb dX11_gathers_19 rfl (lv_at hl 1 rfl) ?_
    refine lv_iload_n hx hb dX11_gathers_20 rfl (lv_at hl 0 rfl) ?_
    refine cga (rn_V (As := [.int g63]) (rest := []) (b := o) (m_isNumber l D Y Z H.size o a (upd I 32 g64) (vp_updL J 33 g65) F G  g63 ) ⟨hx, hb, hml, hown, hg⟩ lk_X11_409 ⟨CP.blind, va_recv hKN.1 hP (ci := 11) (q0 := 0) rfl rfl, CP.at hP hKN hD⟩ ⟨⟨rfl, rfl⟩, ⟨Nat.le_of_ble_eq_true rfl, Nat.le_of_ble_eq_true rfl⟩, ⟨Nat.le_of_ble_eq_true rfl, Nat.le_of_ble_eq_true rfl⟩⟩ hl.1 rfl (Nat.le_of_ble_eq_true rfl) dX11_gathers_21) hP hD hS hA (fun u139 H locs w140 hP hD hS => ?_)
    have w140 : ((0 ≤ g63.toInt ∧ g63.toInt ≤ 599 ∧ u139.toInt = 1 ∧ ((F 28) g63.toNatClampNeg).toInt ≠ -100000) ∨ (u139.toInt = 0 ∧ (0 ≤ g63.toInt → g63.toInt ≤ 599 → ((F 28) g63.toNatClampNeg).toInt = -100000))) ∧ (0 ≤ u139.toInt ∧ u139.toInt ≤ 1) := w140
    obtain ⟨hw142, hw143⟩ := w140
    refine W.eq (g2 := F0 m 24 ls [.int u139]) rfl ?_
    have hP : va_P D vwCl (MW Y o a (upd I 32 g64) (vp_updL J 33 g65) F G) H := hP
    have hD : va_D A (MW Y o a (upd I 32 g64) (vp_updL J 33 g65) F G) := hD
    rcases (show u139.toInt = 1 ∨ u139.toInt = 0 by omega) with c144 | c144
    · obtain rfl : u139 = 1 := i_is c144 (by decide)
      have zi1 : (1 : Int32).toInt = 1 := by decide
      refine W.eq (g2 := F0 m 24 ls [.int 1]) rfl ?_
      refine lv_if_ne (tgt := 30) hx hb dX11_gathers_24 (by decide) (fun c145 => ?_) (fun c145 => ?_)
      rotate_left
      · exact absurd c145 (by decide)
      refine lv_iload_n hx hb dX11_gathers_30 rfl (lv_at hl 0 rfl) ?_
      refine lv_aload_n hx hb dX11_gathers_31 rfl (lv_at hl 1 rfl) ?_
      refine va_get (D := D) (ci := 11) (v := .int (I 34)) (C := RX11) (T := TX11) (N := 49) hx hb hg inGX11 hown hKN.1 hP 0 rfl rfl 34 (by decide) (hg _ kw_1242) (fun _ h9 => h9) rfl dX11_gathers_32 ?_
      refine lv_aload_n hx hb dX11_gathers_35 rfl (lv_at hl 1 rfl) ?_
      refine va_get (D := D) (ci := 11) (v := .int (I 36)) (C := RX11) (T := TX11) (N := 49) hx hb hg inGX11 hown hKN.1 hP 0 rfl rfl 36 (by decide) (hg _ kw_1244) (fun _ h9 => h9) rfl dX11_gathers_36 ?_
      refine cg0 (rn_S (As := [.int g63, .int (I 34), .int (I 36)]) (rest := []) (m_placeAt l D Y Z H.size   g63 (I 34) (I 36) (show (0 ≤ g63.toInt ∧ g63.toInt ≤ 599) by omega) (show (1 ≤ (I 34).toInt ∧ (I 34).toInt ≤ 400) by omega) (show (0 ≤ (I 36).toInt ∧ (I 36).toInt ≤ 400) by omega) (show ((I 36).toInt ≤ (I 34).toInt) by omega)) ⟨hx, hb, hml, hown, hg⟩ lk_X11_448 ⟨CP.blind, CP.at nilP hKN (nilD (A := fun _ => True))⟩ ⟨⟨rfl, rfl⟩, ⟨Nat.le_of_ble_eq_true rfl, Nat.le_of_ble_eq_true rfl⟩, ⟨Nat.le_of_ble_eq_true rfl, Nat.le_of_ble_eq_true rfl⟩⟩ hl.1 rfl (Nat.le_of_ble_eq_true rfl) dX11_gathers_39) hP hS hA (fun u146 H locs w147 hP hS => ?_)
      have w147 : (u146.toInt = (plc ((I 34).toInt).toNat ((I 36).toInt).toNat (g63.toInt).toNat : Int)) := w147
      have hw149 := w147
      refine W.eq (g2 := F0 m 42 ls [.int u146]) rfl ?_
      refine lv_istore_n (lv' := [(3, .int u146), (2, .int g63), (0, .ref o), (1, .int 4)]) hx hb dX11_gathers_42 rfl hl (by decide) rfl (fun ls hl => ?_)
      refine lv_iload_n hx hb dX11_gathers_43 rfl (lv_at hl 0 rfl) ?_
      refine lv_aload_n hx hb dX11_gathers_44 rfl (lv_at hl 2 rfl) ?_
      refine va_get (D := D) (ci := 11) (v := .int (I 35)) (C := RX11) (T := TX11) (N := 49) hx hb hg inGX11 hown hKN.1 hP 0 rfl rfl 35 (by decide) (hg _ kw_1243) (fun _ h9 => h9) rfl dX11_gathers_45 ?_
      have j150 := rgI u146
      refine lv_icmp_lt (tgt := 54) hx hb dX11_gathers_48 (by decide) (fun c151 => ?_) (fun c151 => ?_)
      · skip
        have c151 := i_lt (Eq.refl u146.toInt) (Eq.refl (I 35).toInt) c151
        refine lv_iload_n hx hb dX11_gathers_54 rfl (lv_at hl 0 rfl) ?_
        refine lv_aload_n hx hb dX11_gathers_55 rfl (lv_at hl 2 rfl) ?_
        refine va_get (D := D) (ci := 11) (v := .int (I 35)) (C := RX11) (T := TX11) (N := 49) hx hb hg inGX11 hown hKN.1 hP 0 rfl rfl 35 (by decide) (hg _ kw_1243) (fun _ h9 => h9) rfl dX11_gathers_56 ?_
        refine lv_iconst (v := 3) hx hb dX11_gathers_59 (by decide) ?_
        have zi3 : (3 : Int32).toInt = 3 := by decide
        refine lv_idiv hx hb dX11_gathers_60 (i_nz (show (3 : Int32).toInt = 3 by decide) (by omega)) ?_
        refine lv_topi (fun v152 ev152 => ?_)
        have hv152 := i_div (Eq.refl (I 35).toInt) (show (3 : Int32).toInt = 3 by decide) ev152 (by omega) (by omega)
        refine lv_icmp_lt (tgt := 85) hx hb dX11_gathers_61 (by decide) (fun c153 => ?_) (fun c153 => ?_)
        · skip
          have c153 := i_lt (Eq.refl u146.toInt) (Eq.refl v152.toInt) c153
          refine lv_iconst (v := 0) hx hb dX11_gathers_85 (by decide) ?_
          refine lv_istore (lv' := [(4, .int 0), (3, .int u146), (2, .int g63), (0, .ref o), (1, .int 4)]) hx hb dX11_gathers_86 hl (by decide) rfl (fun ls hl => ?_)
          refine lv_iload_n hx hb dX11_gathers_88 rfl (lv_at hl 2 rfl) ?_
          refine lv_aload_n hx hb dX11_gathers_89 rfl (lv_at hl 3 rfl) ?_
          refine va_get (D := D) (ci := 11) (v := .int (I 34)) (C := RX11) (T := TX11) (N := 49) hx hb hg inGX11 hown hKN.1 hP 0 rfl rfl 34 (by decide) (hg _ kw_1242) (fun _ h9 => h9) rfl dX11_gathers_90 ?_
          refine lv_aload_n hx hb dX11_gathers_93 rfl (lv_at hl 3 rfl) ?_
          refine va_get (D := D) (ci := 11) (v := .int (I 36)) (C := RX11) (T := TX11) (N := 49) hx hb hg inGX11 hown hKN.1 hP 0 rfl rfl 36 (by decide) (hg _ kw_1244) (fun _ h9 => h9) rfl dX11_gathers_94 ?_
          refine cg0 (rn_S (As := [.int g63, .int (I 34), .int (I 36)]) (rest := []) (m_dipAt l D Y Z H.size   g63 (I 34) (I 36) (show (0 ≤ g63.toInt ∧ g63.toInt ≤ 599) by omega) (show (1 ≤ (I 34).toInt ∧ (I 34).toInt ≤ 400) by omega) (show (0 ≤ (I 36).toInt ∧ (I 36).toInt ≤ 400) by omega)) ⟨hx, hb, hml, hown, hg⟩ lk_X11_415 ⟨CP.blind, CP.at nilP hKN (nilD (A := fun _ => True))⟩ ⟨⟨rfl, rfl⟩, ⟨Nat.le_of_ble_eq_true rfl, Nat.le_of_ble_eq_true rfl⟩, ⟨Nat.le_of_ble_eq_true rfl, Nat.le_of_ble_eq_true rfl⟩⟩ hl.1 rfl (Nat.le_of_ble_eq_true rfl) dX11_gathers_97) hP hS hA (fun u154 H locs w155 hP hS => ?_)
          have w155 : (-1 ≤ u154.toInt ∧ u154.toInt ≤ 599) ∧ ((g63.toInt < (I 36).toInt ∧ u154.toInt = -1) ∨ ((I 36).toInt ≤ g63.toInt ∧ u154.toInt = (g63.toInt - (I 36).toInt) / (I 34).toInt)) := w155
          obtain ⟨hw157, hw158⟩ := w155
          refine W.eq (g2 := F0 m 100 ls [.int u154]) rfl ?_
          refine lv_istore (lv' := [(5, .int u154), (4, .int 0), (3, .int u146), (2, .int g63), (0, .ref o), (1, .int 4)]) hx hb dX11_gathers_100 hl (by decide) rfl (fun ls hl => ?_)
          refine lv_iload_n hx hb dX11_gathers_102 rfl (lv_at hl 5 rfl) ?_
          refine lv_iconst (v := 4) hx hb dX11_gathers_103 (by decide) ?_
          refine lv_icmp_eq (tgt := 138) hx hb dX11_gathers_104 (by decide) (fun c159 => ?_) (fun c159 => ?_)
          rotate_left
          · exact absurd c159 (by decide)
          refine lv_iconst (v := 1) hx hb dX11_gathers_138 (by decide) ?_
          refine lv_goto (tgt := 143) hx hb dX11_gathers_139 (by decide) ?_
          refine lv_istore (lv' := [(6, .int 1), (5, .int u154), (4, .int 0), (3, .int u146), (2, .int g63), (0, .ref o), (1, .int 4)]) hx hb dX11_gathers_143 hl (by decide) rfl (fun ls hl => ?_)
          refine lv_iload hx hb dX11_gathers_145 (lv_at hl 0 rfl) ?_
          refine lv_if_ne (tgt := 153) hx hb dX11_gathers_147 (by decide) (fun c160 => ?_) (fun c160 => ?_)
          rotate_left
          · exact absurd c160 (by decide)
          refine lv_aload_n hx hb dX11_gathers_153 rfl (lv_at hl 5 rfl) ?_
          refine lv_dup hx hb dX11_gathers_154 rfl ?_
          refine va_get (D := D) (ci := 11) (v := .int g64) (C := RX11) (T := TX11) (N := 49) hx hb hg inGX11 hown hKN.1 hP 0 rfl rfl 32 (by decide) (hg _ kw_1240) (fun _ h9 => h9) rfl dX11_gathers_155 ?_
          refine lv_iconst (v := 1) hx hb dX11_gathers_158 (by decide) ?_
          refine lv_iadd hx hb dX11_gathers_159 ?_
          refine lv_topi (fun v161 ev161 => ?_)
          have hv161 := i_add (Eq.refl g64.toInt) (show (1 : Int32).toInt = 1 by decide) ev161 (by omega) (by omega)
          refine va_put (D := D) (ci := 11) (v := .int v161) (ty := .int) (C := RX11) (T := TX11) (N := 49) hx hb hg inGX11 tyX11 tyX11_ok nmX11 hown hKN.1 hP hD hS 0 rfl rfl 32 (by decide) (hg _ kw_1240) (fun _ h9 => h9) rfl (by decide +kernel) rfl rfl (Nat.le_of_ble_eq_true rfl) dX11_gathers_160 (fun H locs hP hD hS => ?_)
          have hP : va_P D vwCl (MW Y o a (upd I 32 v161) (vp_updL J 33 g65) F G) H := hP
          have hD : va_D A (MW Y o a (upd I 32 v161) (vp_updL J 33 g65) F G) := hD
          refine lv_aload_n hx hb dX11_gathers_163 rfl (lv_at hl 5 rfl) ?_
          refine lv_dup hx hb dX11_gathers_164 rfl ?_
          refine va_get (D := D) (ci := 11) (v := .long g65) (C := RX11) (T := TX11) (N := 49) hx hb hg inGX11 hown hKN.1 hP 0 rfl rfl 33 (by decide) (hg _ kw_1241) (fun _ h9 => h9) rfl dX11_gathers_165 ?_
          refine lv_aload_n hx hb dX11_gathers_168 rfl (lv_at hl 5 rfl) ?_
          refine va_get (D := D) (ci := 11) (v := .ref (a 28)) (C := RX11) (T := TX11) (N := 49) hx hb hg inGX11 hown hKN.1 hP 0 rfl rfl 28 (by decide) (hg _ kw_1236) (fun _ h9 => h9) rfl dX11_gathers_169 ?_
          refine lv_iload_n hx hb dX11_gathers_172 rfl (lv_at hl 4 rfl) ?_
          refine va_iald hx hb hKN.1 hP 19 0 rfl rfl (vp_in_iff.mpr ⟨by omega, by omega⟩) dX11_gathers_173 ?_
          refine lv_topi (fun v162 ev162 => ?_)
          have qv162 := congrArg Int32.toInt ev162
          have j163 := rgI v162
          have j164 := Int32.toInt_toInt64 v162
          refine lv_i2l (v := v162.toInt64) hx hb dX11_gathers_174 (rfl) ?_
          refine lv_ladd hx hb dX11_gathers_175 ?_
          refine lv_topl (fun v165 ev165 => ?_)
          refine va_put (D := D) (ci := 11) (v := .long v165) (ty := .long) (C := RX11) (T := TX11) (N := 49) hx hb hg inGX11 tyX11 tyX11_ok nmX11 hown hKN.1 hP hD hS 0 rfl rfl 33 (by decide) (hg _ kw_1241) (fun _ h9 => h9) rfl (by decide +kernel) rfl rfl (Nat.le_of_ble_eq_true rfl) dX11_gathers_176 (fun H locs hP hD hS => ?_)
          have hP : va_P D vwCl (MW Y o a (upd I 32 v161) (vp_updL J 33 v165) F G) H := hP
          have hD : va_D A (MW Y o a (upd I 32 v161) (vp_updL J 33 v165) F G) := hD
          obtain ⟨v166, ev166⟩ : ∃ y : Int32, y = g63 + 1 := ⟨_, rfl⟩
          have hv166 := i_add (Eq.refl g63.toInt) (show (1 : Int32).toInt = 1 by decide) ev166 (by omega) (by omega)
          refine lv_iinc (v := v166) (lv' := [(2, .int v166), (6, .int 1), (5, .int u154), (4, .int 0), (3, .int u146), (0, .ref o), (1, .int 4)]) hx hb dX11_gathers_179 hl (k := 4) rfl (by rw [ev166]; rfl) (by decide) rfl (fun ls hl => ?_)
          have t167 := cin_st (F 28) ((I 34).toInt).toNat ((I 35).toInt).toNat ((I 36).toInt).toNat (i := g63) (j := v166.toInt) (by omega) (by omega)
          refine lv_goto (tgt := 12) hx hb dX11_gathers_182 (by decide) ?_
          have zi0 : (0 : Int32).toInt = 0 := by decide
          have zi4 : (4 : Int32).toInt = 4 := by decide
          exact ih137 (v166, v161, v165) H locs ls (by show (600 - v166.toInt).toNat < (600 - g63.toInt).toNat; omega) ⟨hP, hD, hS, lv_sub hl [0, 5, 6] rfl, by omega, by omega, by omega, by omega⟩
        · skip
          have c153 := i_nlt (Eq.refl u146.toInt) (Eq.refl v152.toInt) c153
          refine lv_iload_n hx hb dX11_gathers_64 rfl (lv_at hl 0 rfl) ?_
          refine lv_aload_n hx hb dX11_gathers_65 rfl (lv_at hl 2 rfl) ?_
          refine va_get (D := D) (ci := 11) (v := .int (I 35)) (C := RX11) (T := TX11) (N := 49) hx hb hg inGX11 hown hKN.1 hP 0 rfl rfl 35 (by decide) (hg _ kw_1243) (fun _ h9 => h9) rfl dX11_gathers_66 ?_
          refine lv_iconst (v := 1) hx hb dX11_gathers_69 (by decide) ?_
          refine lv_isub hx hb dX11_gathers_70 ?_
          refine lv_topi (fun v168 ev168 => ?_)
          have hv168 := i_sub (Eq.refl (I 35).toInt) (show (1 : Int32).toInt = 1 by decide) ev168 (by omega) (by omega)
          refine lv_aload_n hx hb dX11_gathers_71 rfl (lv_at hl 2 rfl) ?_
          refine va_get (D := D) (ci := 11) (v := .int (I 35)) (C := RX11) (T := TX11) (N := 49) hx hb hg inGX11 hown hKN.1 hP 0 rfl rfl 35 (by decide) (hg _ kw_1243) (fun _ h9 => h9) rfl dX11_gathers_72 ?_
          refine lv_iconst (v := 3) hx hb dX11_gathers_75 (by decide) ?_
          refine lv_idiv hx hb dX11_gathers_76 (i_nz (show (3 : Int32).toInt = 3 by decide) (by omega)) ?_
          refine lv_topi (fun v169 ev169 => ?_)
          have hv169 := i_div (Eq.refl (I 35).toInt) (show (3 : Int32).toInt = 3 by decide) ev169 (by omega) (by omega)
          refine lv_isub hx hb dX11_gathers_77 ?_
          refine lv_topi (fun v170 ev170 => ?_)
          have hv170 := i_sub (Eq.refl v168.toInt) (Eq.refl v169.toInt) ev170 (by omega) (by omega)
          refine lv_icmp_gt (tgt := 85) hx hb dX11_gathers_78 (by decide) (fun c171 => ?_) (fun c171 => ?_)
          · skip
            have c171 := i_lt (Eq.refl v170.toInt) (Eq.refl u146.toInt) c171
            refine lv_iconst (v := 0) hx hb dX11_gathers_85 (by decide) ?_
            refine lv_istore (lv' := [(4, .int 0), (3, .int u146), (2, .int g63), (0, .ref o), (1, .int 4)]) hx hb dX11_gathers_86 hl (by decide) rfl (fun ls hl => ?_)
            refine lv_iload_n hx hb dX11_gathers_88 rfl (lv_at hl 2 rfl) ?_
            refine lv_aload_n hx hb dX11_gathers_89 rfl (lv_at hl 3 rfl) ?_
            refine va_get (D := D) (ci := 11) (v := .int (I 34)) (C := RX11) (T := TX11) (N := 49) hx hb hg inGX11 hown hKN.1 hP 0 rfl rfl 34 (by decide) (hg _ kw_1242) (fun _ h9 => h9) rfl dX11_gathers_90 ?_
            refine lv_aload_n hx hb dX11_gathers_93 rfl (lv_at hl 3 rfl) ?_
            refine va_get (D := D) (ci := 11) (v := .int (I 36)) (C := RX11) (T := TX11) (N := 49) hx hb hg inGX11 hown hKN.1 hP 0 rfl rfl 36 (by decide) (hg _ kw_1244) (fun _ h9 => h9) rfl dX11_gathers_94 ?_
            refine cg0 (rn_S (As := [.int g63, .int (I 34), .int (I 36)]) (rest := []) (m_dipAt l D Y Z H.size   g63 (I 34) (I 36) (show (0 ≤ g63.toInt ∧ g63.toInt ≤ 599) by omega) (show (1 ≤ (I 34).toInt ∧ (I 34).toInt ≤ 400) by omega) (show (0 ≤ (I 36).toInt ∧ (I 36).toInt ≤ 400) by omega)) ⟨hx, hb, hml, hown, hg⟩ lk_X11_415 ⟨CP.blind, CP.at nilP hKN (nilD (A := fun _ => True))⟩ ⟨⟨rfl, rfl⟩, ⟨Nat.le_of_ble_eq_true rfl, Nat.le_of_ble_eq_true rfl⟩, ⟨Nat.le_of_ble_eq_true rfl, Nat.le_of_ble_eq_true rfl⟩⟩ hl.1 rfl (Nat.le_of_ble_eq_true rfl) dX11_gathers_97) hP hS hA (fun u172 H locs w173 hP hS => ?_)
            have w173 : (-1 ≤ u172.toInt ∧ u172.toInt ≤ 599) ∧ ((g63.toInt < (I 36).toInt ∧ u172.toInt = -1) ∨ ((I 36).toInt ≤ g63.toInt ∧ u172.toInt = (g63.toInt - (I 36).toInt) / (I 34).toInt)) := w173
            obtain ⟨hw175, hw176⟩ := w173
            refine W.eq (g2 := F0 m 100 ls [.int u172]) rfl ?_
            refine lv_istore (lv' := [(5, .int u172), (4, .int 0), (3, .int u146), (2, .int g63), (0, .ref o), (1, .int 4)]) hx hb dX11_gathers_100 hl (by decide) rfl (fun ls hl => ?_)
            refine lv_iload_n hx hb dX11_gathers_102 rfl (lv_at hl 5 rfl) ?_
            refine lv_iconst (v := 4) hx hb dX11_gathers_103 (by decide) ?_
            refine lv_icmp_eq (tgt := 138) hx hb dX11_gathers_104 (by decide) (fun c177 => ?_) (fun c177 => ?_)
            rotate_left
            · exact absurd c177 (by decide)
            refine lv_iconst (v := 1) hx hb dX11_gathers_138 (by decide) ?_
            refine lv_goto (tgt := 143) hx hb dX11_gathers_139 (by decide) ?_
            refine lv_istore (lv' := [(6, .int 1), (5, .int u172), (4, .int 0), (3, .int u146), (2, .int g63), (0, .ref o), (1, .int 4)]) hx hb dX11_gathers_143 hl (by decide) rfl (fun ls hl => ?_)
            refine lv_iload hx hb dX11_gathers_145 (lv_at hl 0 rfl) ?_
            refine lv_if_ne (tgt := 153) hx hb dX11_gathers_147 (by decide) (fun c178 => ?_) (fun c178 => ?_)
            rotate_left
            · exact absurd c178 (by decide)
            refine lv_aload_n hx hb dX11_gathers_153 rfl (lv_at hl 5 rfl) ?_
            refine lv_dup hx hb dX11_gathers_154 rfl ?_
            refine va_get (D := D) (ci := 11) (v := .int g64) (C := RX11) (T := TX11) (N := 49) hx hb hg inGX11 hown hKN.1 hP 0 rfl rfl 32 (by decide) (hg _ kw_1240) (fun _ h9 => h9) rfl dX11_gathers_155 ?_
            refine lv_iconst (v := 1) hx hb dX11_gathers_158 (by decide) ?_
            refine lv_iadd hx hb dX11_gathers_159 ?_
            refine lv_topi (fun v179 ev179 => ?_)
            have hv179 := i_add (Eq.refl g64.toInt) (show (1 : Int32).toInt = 1 by decide) ev179 (by omega) (by omega)
            refine va_put (D := D) (ci := 11) (v := .int v179) (ty := .int) (C := RX11) (T := TX11) (N := 49) hx hb hg inGX11 tyX11 tyX11_ok nmX11 hown hKN.1 hP hD hS 0 rfl rfl 32 (by decide) (hg _ kw_1240) (fun _ h9 => h9) rfl (by decide +kernel) rfl rfl (Nat.le_of_ble_eq_true rfl) dX11_gathers_160 (fun H locs hP hD hS => ?_)
            have hP : va_P D vwCl (MW Y o a (upd I 32 v179) (vp_updL J 33 g65) F G) H := hP
            have hD : va_D A (MW Y o a (upd I 32 v179) (vp_updL J 33 g65) F G) := hD
            refine lv_aload_n hx hb dX11_gathers_163 rfl (lv_at hl 5 rfl) ?_
            refine lv_dup hx hb dX11_gathers_164 rfl ?_
            refine va_get (D := D) (ci := 11) (v := .long g65) (C := RX11) (T := TX11) (N := 49) hx hb hg inGX11 hown hKN.1 hP 0 rfl rfl 33 (by decide) (hg _ kw_1241) (fun _ h9 => h9) rfl dX11_gathers_165 ?_
            refine lv_aload_n hx hb dX11_gathers_168 rfl (lv_at hl 5 rfl) ?_
            refine va_get (D := D) (ci := 11) (v := .ref (a 28)) (C := RX11) (T := TX11) (N := 49) hx hb hg inGX11 hown hKN.1 hP 0 rfl rfl 28 (by decide) (hg _ kw_1236) (fun _ h9 => h9) rfl dX11_gathers_169 ?_
            refine lv_iload_n hx hb dX11_gathers_172 rfl (lv_at hl 4 rfl) ?_
            refine va_iald hx hb hKN.1 hP 19 0 rfl rfl (vp_in_iff.mpr ⟨by omega, by omega⟩) dX11_gathers_173 ?_
            refine lv_topi (fun v180 ev180 => ?_)
            have qv180 := congrArg Int32.toInt ev180
            have j181 := rgI v180
            have j182 := Int32.toInt_toInt64 v180
            refine lv_i2l (v := v180.toInt64) hx hb dX11_gathers_174 (rfl) ?_
            refine lv_ladd hx hb dX11_gathers_175 ?_
            refine lv_topl (fun v183 ev183 => ?_)
            refine va_put (D := D) (ci := 11) (v := .long v183) (ty := .long) (C := RX11) (T := TX11) (N := 49) hx hb hg inGX11 tyX11 tyX11_ok nmX11 hown hKN.1 hP hD hS 0 rfl rfl 33 (by decide) (hg _ kw_1241) (fun _ h9 => h9) rfl (by decide +kernel) rfl rfl (Nat.le_of_ble_eq_true rfl) dX11_gathers_176 (fun H locs hP hD hS => ?_)
            have hP : va_P D vwCl (MW Y o a (upd I 32 v179) (vp_updL J 33 v183) F G) H := hP
            have hD : va_D A (MW Y o a (upd I 32 v179) (vp_updL J 33 v183) F G) := hD
            obtain ⟨v184, ev184⟩ : ∃ y : Int32, y = g63 + 1 := ⟨_, rfl⟩
            have hv184 := i_add (Eq.refl g63.toInt) (show (1 : Int32).toInt = 1 by decide) ev184 (by omega) (by omega)
            refine lv_iinc (v := v184) (lv' := [(2, .int v184), (6, .int 1), (5, .int u172), (4, .int 0), (3, .int u146), (0, .ref o), (1, .int 4)]) hx hb dX11_gathers_179 hl (k := 4) rfl (by rw [ev184]; rfl) (by decide) rfl (fun ls hl => ?_)
            have t185 := cin_st (F 28) ((I 34).toInt).toNat ((I 35).toInt).toNat ((I 36).toInt).toNat (i := g63) (j := v184.toInt) (by omega) (by omega)
            refine lv_goto (tgt := 12) hx hb dX11_gathers_182 (by decide) ?_
            have zi0 : (0 : Int32).toInt = 0 := by decide
            have zi4 : (4 : Int32).toInt = 4 := by decide
            exact ih137 (v184, v179, v183) H locs ls (by show (600 - v184.toInt).toNat < (600 - g63.toInt).toNat; omega) ⟨hP, hD, hS, lv_sub hl [0, 5, 6] rfl, by omega, by omega, by omega, by omega⟩
          · skip
            have c171 := i_nlt (Eq.refl v170.toInt) (Eq.refl u146.toInt) c171
            refine lv_iconst (v := 1) hx hb dX11_gathers_81 (by decide) ?_
            refine lv_goto (tgt := 86) hx hb dX11_gathers_82 (by decide) ?_
            refine lv_istore (lv' := [(4, .int 1), (3, .int u146), (2, .int g63), (0, .ref o), (1, .int 4)]) hx hb dX11_gathers_86 hl (by decide) rfl (fun ls hl => ?_)
            refine lv_iload_n hx hb dX11_gathers_88 rfl (lv_at hl 2 rfl) ?_
            refine lv_aload_n hx hb dX11_gathers_89 rfl (lv_at hl 3 rfl) ?_
            refine va_get (D := D) (ci := 11) (v := .int (I 34)) (C := RX11) (T := TX11) (N := 49) hx hb hg inGX11 hown hKN.1 hP 0 rfl rfl 34 (by decide) (hg _ kw_1242) (fun _ h9 => h9) rfl dX11_gathers_90 ?_
            refine lv_aload_n hx hb dX11_gathers_93 rfl (lv_at hl 3 rfl) ?_
            refine va_get (D := D) (ci := 11) (v := .int (I 36)) (C := RX11) (T := TX11) (N := 49) hx hb hg inGX11 hown hKN.1 hP 0 rfl rfl 36 (by decide) (hg _ kw_1244) (fun _ h9 => h9) rfl dX11_gathers_94 ?_
            refine cg0 (rn_S (As := [.int g63, .int (I 34), .int (I 36)]) (rest := []) (m_dipAt l D Y Z H.size   g63 (I 34) (I 36) (show (0 ≤ g63.toInt ∧ g63.toInt ≤ 599) by omega) (show (1 ≤ (I 34).toInt ∧ (I 34).toInt ≤ 400) by omega) (show (0 ≤ (I 36).toInt ∧ (I 36).toInt ≤ 400) by omega)) ⟨hx, hb, hml, hown, hg⟩ lk_X11_415 ⟨CP.blind, CP.at nilP hKN (nilD (A := fun _ => True))⟩ ⟨⟨rfl, rfl⟩, ⟨Nat.le_of_ble_eq_true rfl, Nat.le_of_ble_eq_true rfl⟩, ⟨Nat.le_of_ble_eq_true rfl, Nat.le_of_ble_eq_true rfl⟩⟩ hl.1 rfl (Nat.le_of_ble_eq_true rfl) dX11_gathers_97) hP hS hA (fun u186 H locs w187 hP hS => ?_)
            have w187 : (-1 ≤ u186.toInt ∧ u186.toInt ≤ 599) ∧ ((g63.toInt < (I 36).toInt ∧ u186.toInt = -1) ∨ ((I 36).toInt ≤ g63.toInt ∧ u186.toInt = (g63.toInt - (I 36).toInt) / (I 34).toInt)) := w187
            obtain ⟨hw189, hw190⟩ := w187
            refine W.eq (g2 := F0 m 100 ls [.int u186]) rfl ?_
            refine lv_istore (lv' := [(5, .int u186), (4, .int 1), (3, .int u146), (2, .int g63), (0, .ref o), (1, .int 4)]) hx hb dX11_gathers_100 hl (by decide) rfl (fun ls hl => ?_)
            refine lv_iload_n hx hb dX11_gathers_102 rfl (lv_at hl 5 rfl) ?_
            refine lv_iconst (v := 4) hx hb dX11_gathers_103 (by decide) ?_
            refine lv_icmp_eq (tgt := 138) hx hb dX11_gathers_104 (by decide) (fun c191 => ?_) (fun c191 => ?_)
            rotate_left
            · exact absurd c191 (by decide)
            refine lv_iconst (v := 1) hx hb dX11_gathers_138 (by decide) ?_
            refine lv_goto (tgt := 143) hx hb dX11_gathers_139 (by decide) ?_
            refine lv_istore (lv' := [(6, .int 1), (5, .int u186), (4, .int 1), (3, .int u146), (2, .int g63), (0, .ref o), (1, .int 4)]) hx hb dX11_gathers_143 hl (by decide) rfl (fun ls hl => ?_)
            refine lv_iload hx hb dX11_gathers_145 (lv_at hl 0 rfl) ?_
            refine lv_if_ne (tgt := 153) hx hb dX11_gathers_147 (by decide) (fun c192 => ?_) (fun c192 => ?_)
            rotate_left
            · exact absurd c192 (by decide)
            refine lv_aload_n hx hb dX11_gathers_153 rfl (lv_at hl 5 rfl) ?_
            refine lv_dup hx hb dX11_gathers_154 rfl ?_
            refine va_get (D := D) (ci := 11) (v := .int g64) (C := RX11) (T := TX11) (N := 49) hx hb hg inGX11 hown hKN.1 hP 0 rfl rfl 32 (by decide) (hg _ kw_1240) (fun _ h9 => h9) rfl dX11_gathers_155 ?_
            refine lv_iconst (v := 1) hx hb dX11_gathers_158 (by decide) ?_
            refine lv_iadd hx hb dX11_gathers_159 ?_
            refine lv_topi (fun v193 ev193 => ?_)
            have hv193 := i_add (Eq.refl g64.toInt) (show (1 : Int32).toInt = 1 by decide) ev193 (by omega) (by omega)
            refine va_put (D := D) (ci := 11) (v := .int v193) (ty := .int) (C := RX11) (T := TX11) (N := 49) hx hb hg inGX11 tyX11 tyX11_ok nmX11 hown hKN.1 hP hD hS 0 rfl rfl 32 (by decide) (hg _ kw_1240) (fun _ h9 => h9) rfl (by decide +kernel) rfl rfl (Nat.le_of_ble_eq_true rfl) dX11_gathers_160 (fun H locs hP hD hS => ?_)
            have hP : va_P D vwCl (MW Y o a (upd I 32 v193) (vp_updL J 33 g65) F G) H := hP
            have hD : va_D A (MW Y o a (upd I 32 v193) (vp_updL J 33 g65) F G) := hD
            refine lv_aload_n hx hb dX11_gathers_163 rfl (lv_at hl 5 rfl) ?_
            refine lv_dup hx hb dX11_gathers_164 rfl ?_
            refine va_get (D := D) (ci := 11) (v := .long g65) (C := RX11) (T := TX11) (N := 49) hx hb hg inGX11 hown hKN.1 hP 0 rfl rfl 33 (by decide) (hg _ kw_1241) (fun _ h9 => h9) rfl dX11_gathers_165 ?_
            refine lv_aload_n hx hb dX11_gathers_168 rfl (lv_at hl 5 rfl) ?_
            refine va_get (D := D) (ci := 11) (v := .ref (a 28)) (C := RX11) (T := TX11) (N := 49) hx hb hg inGX11 hown hKN.1 hP 0 rfl rfl 28 (by decide) (hg _ kw_1236) (fun _ h9 => h9) rfl dX11_gathers_169 ?_
            refine lv_iload_n hx hb dX11_gathers_172 rfl (lv_at hl 4 rfl) ?_
            refine va_iald hx hb hKN.1 hP 19 0 rfl rfl (vp_in_iff.mpr ⟨by omega, by omega⟩) dX11_gathers_173 ?_
            refine lv_topi (fun v194 ev194 => ?_)
            have qv194 := congrArg Int32.toInt ev194
            have j195 := rgI v194
            have j196 := Int32.toInt_toInt64 v194
            refine lv_i2l (v := v194.toInt64) hx hb dX11_gathers_174 (rfl) ?_
            refine lv_ladd hx hb dX11_gathers_175 ?_
            refine lv_topl (fun v197 ev197 => ?_)
            refine va_put (D := D) (ci := 11) (v := .long v197) (ty := .long) (C := RX11) (T := TX11) (N := 49) hx hb hg inGX11 tyX11 tyX11_ok nmX11 hown hKN.1 hP hD hS 0 rfl rfl 33 (by decide) (hg _ kw_1241) (fun _ h9 => h9) rfl (by decide +kernel) rfl rfl (Nat.le_of_ble_eq_true rfl) dX11_gathers_176 (fun H locs hP hD hS => ?_)
            have hP : va_P D vwCl (MW Y o a (upd I 32 v193) (vp_updL J 33 v197) F G) H := hP
            have hD : va_D A (MW Y o a (upd I 32 v193) (vp_updL J 33 v197) F G) := hD
            obtain ⟨v198, ev198⟩ : ∃ y : Int32, y = g63 + 1 := ⟨_, rfl⟩
            have hv198 := i_add (Eq.refl g63.toInt) (show (1 : Int32).toInt = 1 by decide) ev198 (by omega) (by omega)
            refine lv_iinc (v := v198) (lv' := [(2, .int v198), (6, .int 1), (5, .int u186), (4, .int 1), (3, .int u146), (0, .ref o), (1, .int 4)]) hx hb dX11_gathers_179 hl (k := 4) rfl (by rw [ev198]; rfl) (by decide) rfl (fun ls hl => ?_)
            have t199 := cin_st (F 28) ((I 34).toInt).toNat ((I 35).toInt).toNat ((I 36).toInt).toNat (i := g63) (j := v198.toInt) (by omega) (by omega)
            refine lv_goto (tgt := 12) hx hb dX11_gathers_182 (by decide) ?_
            have zi4 : (4 : Int32).toInt = 4 := by decide
            exact ih137 (v198, v193, v197) H locs ls (by show (600 - v198.toInt).toNat < (600 - g63.toInt).toNat; omega) ⟨hP, hD, hS, lv_sub hl [0, 5, 6] rfl, by omega, by omega, by omega, by omega⟩
      · skip
        have c151 := i_nlt (Eq.refl u146.toInt) (Eq.refl (I 35).toInt) c151
        refine lv_goto (tgt := 179) hx hb dX11_gathers_51 (by decide) ?_
        obtain ⟨v200, ev200⟩ : ∃ y : Int32, y = g63 + 1 := ⟨_, rfl⟩
        have hv200 := i_add (Eq.refl g63.toInt) (show (1 : Int32).toInt = 1 by decide) ev200 (by omega) (by omega)
        refine lv_iinc (v := v200) (lv' := [(2, .int v200), (3, .int u146), (0, .ref o), (1, .int 4)]) hx hb dX11_gathers_179 hl (k := 1) rfl (by rw [ev200]; rfl) (by decide) rfl (fun ls hl => ?_)
        have t201 := cin_st (F 28) ((I 34).toInt).toNat ((I 35).toInt).toNat ((I 36).toInt).toNat (i := g63) (j := v200.toInt) (by omega) (by omega)
        refine lv_goto (tgt := 12) hx hb dX11_gathers_182 (by decide) ?_
        have zi4 : (4 : Int32).toInt = 4 := by decide
        exact ih137 (v200, g64, g65) H locs ls (by show (600 - v200.toInt).toNat < (600 - g63.toInt).toNat; omega) ⟨hP, hD, hS, lv_sub hl [0, 2, 3] rfl, by omega, by omega, by omega, by omega⟩
    · obtain rfl : u139 = 0 := i_is c144 (by decide)
      have zi0 : (0 : Int32).toInt = 0 := by decide
      refine W.eq (g2 := F0 m 24 ls [.int 0]) rfl ?_
      refine lv_if_ne (tgt := 30) hx hb dX11_gathers_24 (by decide) (fun c202 => ?_) (fun c202 => ?_)
      · exact absurd c202 (by decide)
      refine lv_goto (tgt := 179) hx hb dX11_gathers_27 (by decide) ?_
      obtain ⟨v203, ev203⟩ : ∃ y : Int32, y = g63 + 1 := ⟨_, rfl⟩
      have hv203 := i_add (Eq.refl g63.toInt) (show (1 : Int32).toInt = 1 by decide) ev203 (by omega) (by omega)
      refine lv_iinc (v := v203) (lv' := [(2, .int v203), (0, .ref o), (1, .int 4)]) hx hb dX11_gathers_179 hl (k := 0) rfl (by rw [ev203]; rfl) (by decide) rfl (fun ls hl => ?_)
      have t204 := cin_st (F 28) ((I 34).toInt).toNat ((I 35).toInt).toNat ((I 36).toInt).toNat (i := g63) (j := v203.toInt) (by omega) (by omega)
      refine lv_goto (tgt := 12) hx hb dX11_gathers_182 (by decide) ?_
      have zi4 : (4 : Int32).toInt = 4 := by decide
      exact ih137 (v203, g64, g65) H locs ls (by show (600 - v203.toInt).toNat < (600 - g63.toInt).toNat; omega) ⟨hP, hD, hS, lv_sub hl [0, 1, 2] rfl, by omega, by omega, by omega, by omega⟩
set_option maxHeartbeats 4000000 in
set_option maxRecDepth 100000 in
theorem m_gathers (l : Launch) (D : va_G) (Y : Nat → ClassId) (Z : Nat → Nat) (sz : Nat) (o : Nat) (a : Nat → Nat) (I : Nat → Int32) (J : Nat → Int64) (F : Nat → Nat → Int32) (G : Nat → Nat → Int64) (p1 : Int32) (hk_0 : (2 ≤ (I 34).toInt ∧ (I 34).toInt ≤ 200)) (hk_1 : (1 ≤ (I 35).toInt ∧ (I 35).toInt ≤ 10)) (hk_2 : (0 ≤ (I 36).toInt ∧ (I 36).toInt ≤ 199)) (hk_3 : ((I 36).toInt < (I 34).toInt)) : Met l yX11_gathers (.code yX11_gathers cX11_gathers 7 none :: GW) ({ frames := 2, cells := 0, slots := 0, locals := 44 }) (va_Pc [.ref o, .int p1] (CP D Y Z (MW Y o a I J F G) sz)) (QG (S := Int32 × Int64) (fun _ => none) (fun u => True) (fun u => CB D (MW Y o a (upd I 32 u.1) (vp_updL J 33 u.2) F G) (va_A (MW Y o a I J F G) sz)) (va_A (MW Y o a I J F G) sz)) 0 0 (va_A (MW Y o a I J F G) sz) := by
  refine Met.ofW (cc := cX11_gathers) (maxL := 7) (ret := none) (by decide) rfl ?_
  intro p e s m args below meth c s₁ B hml hv
  obtain ⟨rfl, hsz, hP, hKN, hD0⟩ := hv
  have hx := B.exec
  have hb := B.bytes
  have hr := B.returns
  have hts := atoms_spec (ws := .code yX11_gathers cX11_gathers 7 none :: GW) B.pre
  have hg : ∀ w ∈ GW, w.before _ s = true := fun w h => hts w (List.mem_cons_of_mem _ h)
  have hown : s.vm.findClass RX11 = some m.cls := findClass_of_methodNamed B.named
  have hlocks := B.notSynchronized
  subst hsz
  have hD := hD0.self (sz := s.heap.size)
  generalize hAe : va_A (MW Y o a I J F G) s.heap.size = A at hD ⊢
  have hA : ∀ q : Nat, s.heap.size ≤ q → A q := fun q h => by rw [← hAe]; exact Or.inr h
  clear hAe hD0 hts B
  have hl := lv_entry ([.ref o, .int p1]) (n := 7) (Nat.le_of_ble_eq_true rfl)
  rw [lg_entry_eq]
  generalize (lg_sl ([.ref o, .int p1]) ++ List.replicate (7 - (lg_sl ([.ref o, .int p1])).length) Slot.unset).toArray = ls at hl ⊢
  have hl : lv_has ls 7 [(0, .ref o), (1, .int p1)] := hl
  refine w_start (A0 := A) hP (fun H locs hP hS => ?_)
  refine lv_aload_n hx hb dX11_gathers_0 rfl (lv_at hl 0 rfl) ?_
  refine lv_iconst (v := 0) hx hb dX11_gathers_1 (by decide) ?_
  refine va_put (D := D) (ci := 11) (v := .int 0) (ty := .int) (C := RX11) (T := TX11) (N := 49) hx hb hg inGX11 tyX11 tyX11_ok nmX11 hown hKN.1 hP hD hS 0 rfl rfl 32 (by decide) (hg _ kw_1240) (fun _ h9 => h9) rfl (by decide +kernel) rfl rfl (Nat.le_of_ble_eq_true rfl) dX11_gathers_2 (fun H locs hP hD hS => ?_)
  have hP : va_P D vwCl (MW Y o a (upd I 32 0) J F G) H := hP
  have hD : va_D A (MW Y o a (upd I 32 0) J F G) := hD
  refine lv_aload_n hx hb dX11_gathers_5 rfl (lv_at hl 0 rfl) ?_
  refine lv_lconst (v := 0) hx hb dX11_gathers_6 (by decide) ?_
  refine va_put (D := D) (ci := 11) (v := .long 0) (ty := .long) (C := RX11) (T := TX11) (N := 49) hx hb hg inGX11 tyX11 tyX11_ok nmX11 hown hKN.1 hP hD hS 0 rfl rfl 33 (by decide) (hg _ kw_1241) (fun _ h9 => h9) rfl (by decide +kernel) rfl rfl (Nat.le_of_ble_eq_true rfl) dX11_gathers_7 (fun H locs hP hD hS => ?_)
  have hP : va_P D vwCl (MW Y o a (upd I 32 0) (vp_updL J 33 0) F G) H := hP
  have hD : va_D A (MW Y o a (upd I 32 0) (vp_updL J 33 0) F G) := hD
  refine lv_iconst (v := 0) hx hb dX11_gathers_10 (by decide) ?_
  refine lv_istore_n (lv' := [(2, .int 0), (0, .ref o), (1, .int p1)]) hx hb dX11_gathers_11 rfl hl (by decide) rfl (fun ls hl => ?_)
  have zi0 : (0 : Int32).toInt = 0 := by decide
  have zl0 : (0 : Int64).toInt = 0 := by decide
  refine w_loop (σ := Int32 × Int32 × Int64) (fun xx H locs ls => match xx with | (g741, g742, g743) => va_P D vwCl (MW Y o a (upd I 32 g742) (vp_updL J 33 g743) F G) H ∧ va_D A (MW Y o a (upd I 32 g742) (vp_updL J 33 g743) F G) ∧ va_S A s.heap H locs ∧ lv_has ls 7 [(2, .int g741), (0, .ref o), (1, .int p1)] ∧ (0 ≤ g741.toInt ∧ g741.toInt ≤ 600)) (fun xx => match xx with | (g741, g742, g743) => (600 - g741.toInt).toNat) (0, 0, 0) ⟨hP, hD, hS, lv_sub hl [0, 1, 2] rfl, by omega⟩ (fun xx H locs ls hI ih => ?_)
  obtain ⟨g741, g742, g743⟩ := xx
  obtain ⟨hP, hD, hS, hl, hq1484⟩ := hI
  have ih1485 := ih
  refine lv_iload_n hx hb dX11_gathers_12 rfl (lv_at hl 0 rfl) ?_
  refine lv_sipush (v := 600) hx hb dX11_gathers_13 (by decide) ?_
  refine lv_icmp_ge (tgt := 185) hx hb dX11_gathers_16 (by decide) (fun c1856 => ?_) (fun c1856 => ?_)
  · skip
    have c1856 := i_le (show (600 : Int32).toInt = 600 by decide) (Eq.refl g741.toInt) c1856
    refine W.widen (k := 0) (n := 0) (Nat.le_of_ble_eq_true rfl) (Nat.le_of_ble_eq_true rfl) ?_
    exact W.vret hx hb hr (fun t ht hW => ⟨⟨(g742, g743), rfl, trivial, CB.mk ht hP hD⟩, hS.F ht⟩) hS.2.2 dX11_gathers_185
  · skip
    have c1856 := i_nle (show (600 : Int32).toInt = 600 by decide) (Eq.refl g741.toInt) c1856
    refine lv_aload_n hx hb dX11_gathers_19 rfl (lv_at hl 1 rfl) ?_
    refine lv_iload_n hx hb dX11_gathers_20 rfl (lv_at hl 0 rfl) ?_
    refine cga (rn_V (As := [.int g741]) (rest := []) (b := o) (m_isNumber l D Y Z H.size o a (upd I 32 g742) (vp_updL J 33 g743) F G  g741 ) ⟨hx, hb, hml, hown, hg⟩ lk_X11_409 ⟨CP.blind, va_recv hKN.1 hP (ci := 11) (q0 := 0) rfl rfl, CP.at hP hKN hD⟩ ⟨⟨rfl, rfl⟩, ⟨Nat.le_of_ble_eq_true rfl, Nat.le_of_ble_eq_true rfl⟩, ⟨Nat.le_of_ble_eq_true rfl, Nat.le_of_ble_eq_true rfl⟩⟩ hl.1 rfl (Nat.le_of_ble_eq_true rfl) dX11_gathers_21) hP hD hS hA (fun u1857 H locs w1858 hP hD hS => ?_)
    have w1858 : ((0 ≤ g741.toInt ∧ g741.toInt ≤ 599 ∧ u1857.toInt = 1 ∧ ((F 28) g741.toNatClampNeg).toInt ≠ -100000) ∨ (u1857.toInt = 0 ∧ (0 ≤ g741.toInt → g741.toInt ≤ 599 → ((F 28) g741.toNatClampNeg).toInt = -100000))) ∧ (0 ≤ u1857.toInt ∧ u1857.toInt ≤ 1) := w1858
    obtain ⟨hw1860, hw1861⟩ := w1858
    refine W.eq (g2 := F0 m 24 ls [.int u1857]) rfl ?_
    have hP : va_P D vwCl (MW Y o a (upd I 32 g742) (vp_updL J 33 g743) F G) H := hP
    have hD : va_D A (MW Y o a (upd I 32 g742) (vp_updL J 33 g743) F G) := hD
    rcases (show u1857.toInt = 1 ∨ u1857.toInt = 0 by omega) with c1862 | c1862
    · obtain rfl : u1857 = 1 := i_is c1862 (by decide)
      have zi1 : (1 : Int32).toInt = 1 := by decide
      refine W.eq (g2 := F0 m 24 ls [.int 1]) rfl ?_
      refine w_join (σ := Int32 × Int64) (pcJ := 179) (kJ := 0) (nJ := 0) (stk := fun xx => match xx with | (g2041, g2042) => []) (fun xx H locs ls => match xx with | (g2041, g2042) => va_P D vwCl (MW Y o a (upd I 32 g2041) (vp_updL J 33 g2042) F G) H ∧ va_D A (MW Y o a (upd I 32 g2041) (vp_updL J 33 g2042) F G) ∧ va_S A s.heap H locs ∧ lv_has ls 7 [(3, .int u1864), (2, .int g741), (0, .ref o), (1, .int p1)]) (fun xx H locs ls hI => ?_) (fun jn2043 => ?_)
      · skip
        obtain ⟨g2041, g2042⟩ := xx
        obtain ⟨hP, hD, hS, hl⟩ := hI
        refine W.eq (g2 := F0 m 179 ls []) rfl ?_
        obtain ⟨v2044, ev2044⟩ : ∃ y : Int32, y = g741 + 1 := ⟨_, rfl⟩
        have hv2044 := i_add (Eq.refl g741.toInt) (show (1 : Int32).toInt = 1 by decide) ev2044 (by omega) (by omega)
        refine lv_iinc (v := v2044) (lv' := [(2, .int v2044), (3, .int u1864), (0, .ref o), (1, .int p1)]) hx hb dX11_gathers_179 hl (k := 1) rfl (by rw [ev2044]; rfl) (by decide) rfl (fun ls hl => ?_)
        refine lv_goto (tgt := 12) hx hb dX11_gathers_182 (by decide) ?_
        exact ih1485 (v2044, g2041, g2042) H locs ls (by show (600 - v2044.toInt).toNat < (600 - g741.toInt).toNat; omega) ⟨hP, hD, hS, lv_sub hl [0, 2, 3] rfl, by omega⟩
      · skip
        refine lv_if_ne (tgt := 30) hx hb dX11_gathers_24 (by decide) (fun c2045 => ?_) (fun c2045 => ?_)
        rotate_left
        · exact absurd c2045 (by decide)
        refine lv_iload_n hx hb dX11_gathers_30 rfl (lv_at hl 0 rfl) ?_
        refine lv_aload_n hx hb dX11_gathers_31 rfl (lv_at hl 1 rfl) ?_
        refine va_get (D := D) (ci := 11) (v := .int (I 34)) (C := RX11) (T := TX11) (N := 49) hx hb hg inGX11 hown hKN.1 hP 0 rfl rfl 34 (by decide) (hg _ kw_1242) (fun _ h9 => h9) rfl dX11_gathers_32 ?_
        refine lv_aload_n hx hb dX11_gathers_35 rfl (lv_at hl 1 rfl) ?_
        refine va_get (D := D) (ci := 11) (v := .int (I 36)) (C := RX11) (T := TX11) (N := 49) hx hb hg inGX11 hown hKN.1 hP 0 rfl rfl 36 (by decide) (hg _ kw_1244) (fun _ h9 => h9) rfl dX11_gathers_36 ?_
        refine cg0 (rn_S (As := [.int g741, .int (I 34), .int (I 36)]) (rest := []) (m_placeAt l D Y Z H.size   g741 (I 34) (I 36) (show (0 ≤ g741.toInt ∧ g741.toInt ≤ 599) by omega) (show (1 ≤ (I 34).toInt ∧ (I 34).toInt ≤ 400) by omega) (show (0 ≤ (I 36).toInt ∧ (I 36).toInt ≤ 400) by omega) (show ((I 36).toInt ≤ (I 34).toInt) by omega)) ⟨hx, hb, hml, hown, hg⟩ lk_X11_448 ⟨CP.blind, CP.at nilP hKN (nilD (A := fun _ => True))⟩ ⟨⟨rfl, rfl⟩, ⟨Nat.le_of_ble_eq_true rfl, Nat.le_of_ble_eq_true rfl⟩, ⟨Nat.le_of_ble_eq_true rfl, Nat.le_of_ble_eq_true rfl⟩⟩ hl.1 rfl (Nat.le_of_ble_eq_true rfl) dX11_gathers_39) hP hS hA (fun u2046 H locs w2047 hP hS => ?_)
        have w2047 : (u2046.toInt = (plc ((I 34).toInt).toNat ((I 36).toInt).toNat (g741.toInt).toNat : Int)) := w2047
        have hw2049 := w2047
        refine W.eq (g2 := F0 m 42 ls [.int u2046]) rfl ?_
        refine lv_istore_n (lv' := [(3, .int u2046), (2, .int g741), (0, .ref o), (1, .int p1)]) hx hb dX11_gathers_42 rfl hl (by decide) rfl (fun ls hl => ?_)
        refine lv_iload_n hx hb dX11_gathers_43 rfl (lv_at hl 0 rfl) ?_
        refine lv_aload_n hx hb dX11_gathers_44 rfl (lv_at hl 2 rfl) ?_
        refine va_get (D := D) (ci := 11) (v := .int (I 35)) (C := RX11) (T := TX11) (N := 49) hx hb hg inGX11 hown hKN.1 hP 0 rfl rfl 35 (by decide) (hg _ kw_1243) (fun _ h9 => h9) rfl dX11_gathers_45 ?_
        have j2050 := rgI u2046
        refine lv_icmp_lt (tgt := 54) hx hb dX11_gathers_48 (by decide) (fun c2051 => ?_) (fun c2051 => ?_)
        · skip
          have c2051 := i_lt (Eq.refl u2046.toInt) (Eq.refl (I 35).toInt) c2051
          refine lv_iload_n hx hb dX11_gathers_54 rfl (lv_at hl 0 rfl) ?_
          refine lv_aload_n hx hb dX11_gathers_55 rfl (lv_at hl 2 rfl) ?_
          refine va_get (D := D) (ci := 11) (v := .int (I 35)) (C := RX11) (T := TX11) (N := 49) hx hb hg inGX11 hown hKN.1 hP 0 rfl rfl 35 (by decide) (hg _ kw_1243) (fun _ h9 => h9) rfl dX11_gathers_56 ?_
          refine lv_iconst (v := 3) hx hb dX11_gathers_59 (by decide) ?_
          have zi3 : (3 : Int32).toInt = 3 := by decide
          refine lv_idiv hx hb dX11_gathers_60 (i_nz (show (3 : Int32).toInt = 3 by decide) (by omega)) ?_
          refine lv_topi (fun v2052 ev2052 => ?_)
          have hv2052 := i_div (Eq.refl (I 35).toInt) (show (3 : Int32).toInt = 3 by decide) ev2052 (by omega) (by omega)
          refine lv_icmp_lt (tgt := 85) hx hb dX11_gathers_61 (by decide) (fun c2058 => ?_) (fun c2058 => ?_)
          · skip
            have c2058 := i_lt (Eq.refl u2046.toInt) (Eq.refl v2052.toInt) c2058
            refine lv_iconst (v := 0) hx hb dX11_gathers_85 (by decide) ?_
            refine lv_istore (lv' := [(4, .int 0), (3, .int u2046), (2, .int g741), (0, .ref o), (1, .int p1)]) hx hb dX11_gathers_86 hl (by decide) rfl (fun ls hl => ?_)
            refine lv_iload_n hx hb dX11_gathers_88 rfl (lv_at hl 2 rfl) ?_
            refine lv_aload_n hx hb dX11_gathers_89 rfl (lv_at hl 3 rfl) ?_
            refine va_get (D := D) (ci := 11) (v := .int (I 34)) (C := RX11) (T := TX11) (N := 49) hx hb hg inGX11 hown hKN.1 hP 0 rfl rfl 34 (by decide) (hg _ kw_1242) (fun _ h9 => h9) rfl dX11_gathers_90 ?_
            refine lv_aload_n hx hb dX11_gathers_93 rfl (lv_at hl 3 rfl) ?_
            refine va_get (D := D) (ci := 11) (v := .int (I 36)) (C := RX11) (T := TX11) (N := 49) hx hb hg inGX11 hown hKN.1 hP 0 rfl rfl 36 (by decide) (hg _ kw_1244) (fun _ h9 => h9) rfl dX11_gathers_94 ?_
            refine cg0 (rn_S (As := [.int g741, .int (I 34), .int (I 36)]) (rest := []) (m_dipAt l D Y Z H.size   g741 (I 34) (I 36) (show (0 ≤ g741.toInt ∧ g741.toInt ≤ 599) by omega) (show (1 ≤ (I 34).toInt ∧ (I 34).toInt ≤ 400) by omega) (show (0 ≤ (I 36).toInt ∧ (I 36).toInt ≤ 400) by omega)) ⟨hx, hb, hml, hown, hg⟩ lk_X11_415 ⟨CP.blind, CP.at nilP hKN (nilD (A := fun _ => True))⟩ ⟨⟨rfl, rfl⟩, ⟨Nat.le_of_ble_eq_true rfl, Nat.le_of_ble_eq_true rfl⟩, ⟨Nat.le_of_ble_eq_true rfl, Nat.le_of_ble_eq_true rfl⟩⟩ hl.1 rfl (Nat.le_of_ble_eq_true rfl) dX11_gathers_97) hP hS hA (fun u2059 H locs w2060 hP hS => ?_)
            have w2060 : (-1 ≤ u2059.toInt ∧ u2059.toInt ≤ 599) ∧ ((g741.toInt < (I 36).toInt ∧ u2059.toInt = -1) ∨ ((I 36).toInt ≤ g741.toInt ∧ u2059.toInt = (g741.toInt - (I 36).toInt) / (I 34).toInt)) := w2060
            obtain ⟨hw2062, hw2063⟩ := w2060
            refine W.eq (g2 := F0 m 100 ls [.int u2059]) rfl ?_
            refine lv_istore (lv' := [(5, .int u2059), (4, .int 0), (3, .int u2046), (2, .int g741), (0, .ref o), (1, .int p1)]) hx hb dX11_gathers_100 hl (by decide) rfl (fun ls hl => ?_)
            refine lv_iload_n hx hb dX11_gathers_102 rfl (lv_at hl 5 rfl) ?_
            refine lv_iconst (v := 4) hx hb dX11_gathers_103 (by decide) ?_
            have j2073 := rgI p1
            refine lv_icmp_eq (tgt := 138) hx hb dX11_gathers_104 (by decide) (fun c2074 => ?_) (fun c2074 => ?_)
            · skip
              have c2074 := i_eq (Eq.refl p1.toInt) (show (4 : Int32).toInt = 4 by decide) c2074
              refine lv_iconst (v := 1) hx hb dX11_gathers_138 (by decide) ?_
              refine lv_goto (tgt := 143) hx hb dX11_gathers_139 (by decide) ?_
              refine lv_istore (lv' := [(6, .int 1), (5, .int u2059), (4, .int 0), (3, .int u2046), (2, .int g741), (0, .ref o), (1, .int p1)]) hx hb dX11_gathers_143 hl (by decide) rfl (fun ls hl => ?_)
              refine lv_iload hx hb dX11_gathers_145 (lv_at hl 0 rfl) ?_
              refine lv_if_ne (tgt := 153) hx hb dX11_gathers_147 (by decide) (fun c2075 => ?_) (fun c2075 => ?_)
              rotate_left
              · exact absurd c2075 (by decide)
              refine lv_aload_n hx hb dX11_gathers_153 rfl (lv_at hl 5 rfl) ?_
              refine lv_dup hx hb dX11_gathers_154 rfl ?_
              refine va_get (D := D) (ci := 11) (v := .int g742) (C := RX11) (T := TX11) (N := 49) hx hb hg inGX11 hown hKN.1 hP 0 rfl rfl 32 (by decide) (hg _ kw_1240) (fun _ h9 => h9) rfl dX11_gathers_155 ?_
              refine lv_iconst (v := 1) hx hb dX11_gathers_158 (by decide) ?_
              refine lv_iadd hx hb dX11_gathers_159 ?_
              refine lv_topi (fun v2076 ev2076 => ?_)
              refine va_put (D := D) (ci := 11) (v := .int v2076) (ty := .int) (C := RX11) (T := TX11) (N := 49) hx hb hg inGX11 tyX11 tyX11_ok nmX11 hown hKN.1 hP hD hS 0 rfl rfl 32 (by decide) (hg _ kw_1240) (fun _ h9 => h9) rfl (by decide +kernel) rfl rfl (Nat.le_of_ble_eq_true rfl) dX11_gathers_160 (fun H locs hP hD hS => ?_)
              have hP : va_P D vwCl (MW Y o a (upd I 32 v2076) (vp_updL J 33 g743) F G) H := hP
              have hD : va_D A (MW Y o a (upd I 32 v2076) (vp_updL J 33 g743) F G) := hD
              refine lv_aload_n hx hb dX11_gathers_163 rfl (lv_at hl 5 rfl) ?_
              refine lv_dup hx hb dX11_gathers_164 rfl ?_
              refine va_get (D := D) (ci := 11) (v := .long g743) (C := RX11) (T := TX11) (N := 49) hx hb hg inGX11 hown hKN.1 hP 0 rfl rfl 33 (by decide) (hg _ kw_1241) (fun _ h9 => h9) rfl dX11_gathers_165 ?_
              refine lv_aload_n hx hb dX11_gathers_168 rfl (lv_at hl 5 rfl) ?_
              refine va_get (D := D) (ci := 11) (v := .ref (a 28)) (C := RX11) (T := TX11) (N := 49) hx hb hg inGX11 hown hKN.1 hP 0 rfl rfl 28 (by decide) (hg _ kw_1236) (fun _ h9 => h9) rfl dX11_gathers_169 ?_
              refine lv_iload_n hx hb dX11_gathers_172 rfl (lv_at hl 4 rfl) ?_
              refine va_iald hx hb hKN.1 hP 19 0 rfl rfl (vp_in_iff.mpr ⟨by omega, by omega⟩) dX11_gathers_173 ?_
              refine lv_topi (fun v2077 ev2077 => ?_)
              have qv2077 := congrArg Int32.toInt ev2077
              have j2078 := rgI v2077
              have j2079 := Int32.toInt_toInt64 v2077
              refine lv_i2l (v := v2077.toInt64) hx hb dX11_gathers_174 (rfl) ?_
              refine lv_ladd hx hb dX11_gathers_175 ?_
              refine lv_topl (fun v2080 ev2080 => ?_)
              refine va_put (D := D) (ci := 11) (v := .long v2080) (ty := .long) (C := RX11) (T := TX11) (N := 49) hx hb hg inGX11 tyX11 tyX11_ok nmX11 hown hKN.1 hP hD hS 0 rfl rfl 33 (by decide) (hg _ kw_1241) (fun _ h9 => h9) rfl (by decide +kernel) rfl rfl (Nat.le_of_ble_eq_true rfl) dX11_gathers_176 (fun H locs hP hD hS => ?_)
              have hP : va_P D vwCl (MW Y o a (upd I 32 v2076) (vp_updL J 33 v2080) F G) H := hP
              have hD : va_D A (MW Y o a (upd I 32 v2076) (vp_updL J 33 v2080) F G) := hD
              have zi0 : (0 : Int32).toInt = 0 := by decide
              refine W.widen (k := 0) (n := 0) (Nat.le_of_ble_eq_true rfl) (Nat.le_of_ble_eq_true rfl) ?_
              exact jn2043 (v2076, v2080) H locs ls ⟨hP, hD, hS, lv_sub hl [3, 4, 5, 6] rfl⟩
            · skip
              have c2074 := i_ne (Eq.refl p1.toInt) (show (4 : Int32).toInt = 4 by decide) c2074
              refine lv_iload_n hx hb dX11_gathers_107 rfl (lv_at hl 5 rfl) ?_
              refine lv_iconst (v := 2) hx hb dX11_gathers_108 (by decide) ?_
              refine lv_icmp_ge (tgt := 123) hx hb dX11_gathers_109 (by decide) (fun c2088 => ?_) (fun c2088 => ?_)
              · skip
                have c2088 := i_le (show (2 : Int32).toInt = 2 by decide) (Eq.refl p1.toInt) c2088
                refine lv_iload hx hb dX11_gathers_123 (lv_at hl 1 rfl) ?_
                refine lv_iload_n hx hb dX11_gathers_125 rfl (lv_at hl 5 rfl) ?_
                refine lv_iconst (v := 2) hx hb dX11_gathers_126 (by decide) ?_
                refine lv_icmp_ne (tgt := 134) hx hb dX11_gathers_127 (by decide) (fun c2090 => ?_) (fun c2090 => ?_)
                · skip
                  have c2090 := i_ne (Eq.refl p1.toInt) (show (2 : Int32).toInt = 2 by decide) c2090
                  refine lv_iconst (v := 0) hx hb dX11_gathers_134 (by decide) ?_
                  refine lv_icmp_ne (tgt := 142) hx hb dX11_gathers_135 (by decide) (fun c2092 => ?_) (fun c2092 => ?_)
                  · exact absurd c2092 (by decide)
                  refine lv_iconst (v := 1) hx hb dX11_gathers_138 (by decide) ?_
                  refine lv_goto (tgt := 143) hx hb dX11_gathers_139 (by decide) ?_
                  refine lv_istore (lv' := [(6, .int 1), (5, .int u2059), (4, .int 0), (3, .int u2046), (2, .int g741), (0, .ref o), (1, .int p1)]) hx hb dX11_gathers_143 hl (by decide) rfl (fun ls hl => ?_)
                  refine lv_iload hx hb dX11_gathers_145 (lv_at hl 0 rfl) ?_
                  refine lv_if_ne (tgt := 153) hx hb dX11_gathers_147 (by decide) (fun c2093 => ?_) (fun c2093 => ?_)
                  rotate_left
                  · exact absurd c2093 (by decide)
                  refine lv_aload_n hx hb dX11_gathers_153 rfl (lv_at hl 5 rfl) ?_
                  refine lv_dup hx hb dX11_gathers_154 rfl ?_
                  refine va_get (D := D) (ci := 11) (v := .int g742) (C := RX11) (T := TX11) (N := 49) hx hb hg inGX11 hown hKN.1 hP 0 rfl rfl 32 (by decide) (hg _ kw_1240) (fun _ h9 => h9) rfl dX11_gathers_155 ?_
                  refine lv_iconst (v := 1) hx hb dX11_gathers_158 (by decide) ?_
                  refine lv_iadd hx hb dX11_gathers_159 ?_
                  refine lv_topi (fun v2094 ev2094 => ?_)
                  refine va_put (D := D) (ci := 11) (v := .int v2094) (ty := .int) (C := RX11) (T := TX11) (N := 49) hx hb hg inGX11 tyX11 tyX11_ok nmX11 hown hKN.1 hP hD hS 0 rfl rfl 32 (by decide) (hg _ kw_1240) (fun _ h9 => h9) rfl (by decide +kernel) rfl rfl (Nat.le_of_ble_eq_true rfl) dX11_gathers_160 (fun H locs hP hD hS => ?_)
                  have hP : va_P D vwCl (MW Y o a (upd I 32 v2094) (vp_updL J 33 g743) F G) H := hP
                  have hD : va_D A (MW Y o a (upd I 32 v2094) (vp_updL J 33 g743) F G) := hD
                  refine lv_aload_n hx hb dX11_gathers_163 rfl (lv_at hl 5 rfl) ?_
                  refine lv_dup hx hb dX11_gathers_164 rfl ?_
                  refine va_get (D := D) (ci := 11) (v := .long g743) (C := RX11) (T := TX11) (N := 49) hx hb hg inGX11 hown hKN.1 hP 0 rfl rfl 33 (by decide) (hg _ kw_1241) (fun _ h9 => h9) rfl dX11_gathers_165 ?_
                  refine lv_aload_n hx hb dX11_gathers_168 rfl (lv_at hl 5 rfl) ?_
                  refine va_get (D := D) (ci := 11) (v := .ref (a 28)) (C := RX11) (T := TX11) (N := 49) hx hb hg inGX11 hown hKN.1 hP 0 rfl rfl 28 (by decide) (hg _ kw_1236) (fun _ h9 => h9) rfl dX11_gathers_169 ?_
                  refine lv_iload_n hx hb dX11_gathers_172 rfl (lv_at hl 4 rfl) ?_
                  refine va_iald hx hb hKN.1 hP 19 0 rfl rfl (vp_in_iff.mpr ⟨by omega, by omega⟩) dX11_gathers_173 ?_
                  refine lv_topi (fun v2095 ev2095 => ?_)
                  have qv2095 := congrArg Int32.toInt ev2095
                  have j2096 := rgI v2095
                  have j2097 := Int32.toInt_toInt64 v2095
                  refine lv_i2l (v := v2095.toInt64) hx hb dX11_gathers_174 (rfl) ?_
                  refine lv_ladd hx hb dX11_gathers_175 ?_
                  refine lv_topl (fun v2098 ev2098 => ?_)
                  refine va_put (D := D) (ci := 11) (v := .long v2098) (ty := .long) (C := RX11) (T := TX11) (N := 49) hx hb hg inGX11 tyX11 tyX11_ok nmX11 hown hKN.1 hP hD hS 0 rfl rfl 33 (by decide) (hg _ kw_1241) (fun _ h9 => h9) rfl (by decide +kernel) rfl rfl (Nat.le_of_ble_eq_true rfl) dX11_gathers_176 (fun H locs hP hD hS => ?_)
                  have hP : va_P D vwCl (MW Y o a (upd I 32 v2094) (vp_updL J 33 v2098) F G) H := hP
                  have hD : va_D A (MW Y o a (upd I 32 v2094) (vp_updL J 33 v2098) F G) := hD
                  have zi0 : (0 : Int32).toInt = 0 := by decide
                  refine W.widen (k := 0) (n := 0) (Nat.le_of_ble_eq_true rfl) (Nat.le_of_ble_eq_true rfl) ?_
                  exact jn2043 (v2094, v2098) H locs ls ⟨hP, hD, hS, lv_sub hl [3, 4, 5, 6] rfl⟩
                · skip
                  have c2090 := i_eq (Eq.refl p1.toInt) (show (2 : Int32).toInt = 2 by decide) c2090
                  refine lv_iconst (v := 1) hx hb dX11_gathers_130 (by decide) ?_
                  refine lv_goto (tgt := 135) hx hb dX11_gathers_131 (by decide) ?_
                  refine lv_icmp_ne (tgt := 142) hx hb dX11_gathers_135 (by decide) (fun c2100 => ?_) (fun c2100 => ?_)
                  rotate_left
                  · exact absurd c2100 (by decide)
                  refine lv_iconst (v := 0) hx hb dX11_gathers_142 (by decide) ?_
                  refine lv_istore (lv' := [(6, .int 0), (5, .int u2059), (4, .int 0), (3, .int u2046), (2, .int g741), (0, .ref o), (1, .int p1)]) hx hb dX11_gathers_143 hl (by decide) rfl (fun ls hl => ?_)
                  refine lv_iload hx hb dX11_gathers_145 (lv_at hl 0 rfl) ?_
                  refine lv_if_ne (tgt := 153) hx hb dX11_gathers_147 (by decide) (fun c2101 => ?_) (fun c2101 => ?_)
                  · exact absurd c2101 (by decide)
                  refine lv_goto (tgt := 179) hx hb dX11_gathers_150 (by decide) ?_
                  have zi0 : (0 : Int32).toInt = 0 := by decide
                  refine W.widen (k := 0) (n := 0) (Nat.le_of_ble_eq_true rfl) (Nat.le_of_ble_eq_true rfl) ?_
                  exact jn2043 (g742, g743) H locs ls ⟨hP, hD, hS, lv_sub hl [3, 4, 5, 6] rfl⟩
              · skip
                have c2088 := i_nle (show (2 : Int32).toInt = 2 by decide) (Eq.refl p1.toInt) c2088
                refine lv_iload hx hb dX11_gathers_112 (lv_at hl 0 rfl) ?_
                refine lv_iconst (v := 1) hx hb dX11_gathers_114 (by decide) ?_
                refine lv_iand hx hb dX11_gathers_115 ?_
                refine lv_topi (fun v2102 ev2102 => ?_)
                have hv2102 := i_and (show (1 : Int32).toInt = 1 by decide) ev2102 (by decide)
                refine lv_iload_n hx hb dX11_gathers_116 rfl (lv_at hl 5 rfl) ?_
                refine lv_icmp_ne (tgt := 142) hx hb dX11_gathers_117 (by decide) (fun c2104 => ?_) (fun c2104 => ?_)
                · skip
                  have c2104 := i_ne (Eq.refl v2102.toInt) (Eq.refl p1.toInt) c2104
                  refine lv_iconst (v := 0) hx hb dX11_gathers_142 (by decide) ?_
                  refine lv_istore (lv' := [(6, .int 0), (5, .int u2059), (4, .int 0), (3, .int u2046), (2, .int g741), (0, .ref o), (1, .int p1)]) hx hb dX11_gathers_143 hl (by decide) rfl (fun ls hl => ?_)
                  refine lv_iload hx hb dX11_gathers_145 (lv_at hl 0 rfl) ?_
                  refine lv_if_ne (tgt := 153) hx hb dX11_gathers_147 (by decide) (fun c2105 => ?_) (fun c2105 => ?_)
                  · exact absurd c2105 (by decide)
                  refine lv_goto (tgt := 179) hx hb dX11_gathers_150 (by decide) ?_
                  have zi0 : (0 : Int32).toInt = 0 := by decide
                  refine W.widen (k := 0) (n := 0) (Nat.le_of_ble_eq_true rfl) (Nat.le_of_ble_eq_true rfl) ?_
                  exact jn2043 (g742, g743) H locs ls ⟨hP, hD, hS, lv_sub hl [3, 4, 5, 6] rfl⟩
                · skip
                  have c2104 := i_eq (Eq.refl v2102.toInt) (Eq.refl p1.toInt) c2104
                  refine lv_goto (tgt := 138) hx hb dX11_gathers_120 (by decide) ?_
                  refine lv_iconst (v := 1) hx hb dX11_gathers_138 (by decide) ?_
                  refine lv_goto (tgt := 143) hx hb dX11_gathers_139 (by decide) ?_
                  refine lv_istore (lv' := [(6, .int 1), (5, .int u2059), (4, .int 0), (3, .int u2046), (2, .int g741), (0, .ref o), (1, .int p1)]) hx hb dX11_gathers_143 hl (by decide) rfl (fun ls hl => ?_)
                  refine lv_iload hx hb dX11_gathers_145 (lv_at hl 0 rfl) ?_
                  refine lv_if_ne (tgt := 153) hx hb dX11_gathers_147 (by decide) (fun c2106 => ?_) (fun c2106 => ?_)
                  rotate_left
                  · exact absurd c2106 (by decide)
                  refine lv_aload_n hx hb dX11_gathers_153 rfl (lv_at hl 5 rfl) ?_
                  refine lv_dup hx hb dX11_gathers_154 rfl ?_
                  refine va_get (D := D) (ci := 11) (v := .int g742) (C := RX11) (T := TX11) (N := 49) hx hb hg inGX11 hown hKN.1 hP 0 rfl rfl 32 (by decide) (hg _ kw_1240) (fun _ h9 => h9) rfl dX11_gathers_155 ?_
                  refine lv_iconst (v := 1) hx hb dX11_gathers_158 (by decide) ?_
                  refine lv_iadd hx hb dX11_gathers_159 ?_
                  refine lv_topi (fun v2107 ev2107 => ?_)
                  refine va_put (D := D) (ci := 11) (v := .int v2107) (ty := .int) (C := RX11) (T := TX11) (N := 49) hx hb hg inGX11 tyX11 tyX11_ok nmX11 hown hKN.1 hP hD hS 0 rfl rfl 32 (by decide) (hg _ kw_1240) (fun _ h9 => h9) rfl (by decide +kernel) rfl rfl (Nat.le_of_ble_eq_true rfl) dX11_gathers_160 (fun H locs hP hD hS => ?_)
                  have hP : va_P D vwCl (MW Y o a (upd I 32 v2107) (vp_updL J 33 g743) F G) H := hP
                  have hD : va_D A (MW Y o a (upd I 32 v2107) (vp_updL J 33 g743) F G) := hD
                  refine lv_aload_n hx hb dX11_gathers_163 rfl (lv_at hl 5 rfl) ?_
                  refine lv_dup hx hb dX11_gathers_164 rfl ?_
                  refine va_get (D := D) (ci := 11) (v := .long g743) (C := RX11) (T := TX11) (N := 49) hx hb hg inGX11 hown hKN.1 hP 0 rfl rfl 33 (by decide) (hg _ kw_1241) (fun _ h9 => h9) rfl dX11_gathers_165 ?_
                  refine lv_aload_n hx hb dX11_gathers_168 rfl (lv_at hl 5 rfl) ?_
                  refine va_get (D := D) (ci := 11) (v := .ref (a 28)) (C := RX11) (T := TX11) (N := 49) hx hb hg inGX11 hown hKN.1 hP 0 rfl rfl 28 (by decide) (hg _ kw_1236) (fun _ h9 => h9) rfl dX11_gathers_169 ?_
                  refine lv_iload_n hx hb dX11_gathers_172 rfl (lv_at hl 4 rfl) ?_
                  refine va_iald hx hb hKN.1 hP 19 0 rfl rfl (vp_in_iff.mpr ⟨by omega, by omega⟩) dX11_gathers_173 ?_
                  refine lv_topi (fun v2108 ev2108 => ?_)
                  have qv2108 := congrArg Int32.toInt ev2108
                  have j2109 := rgI v2108
                  have j2110 := Int32.toInt_toInt64 v2108
                  refine lv_i2l (v := v2108.toInt64) hx hb dX11_gathers_174 (rfl) ?_
                  refine lv_ladd hx hb dX11_gathers_175 ?_
                  refine lv_topl (fun v2111 ev2111 => ?_)
                  refine va_put (D := D) (ci := 11) (v := .long v2111) (ty := .long) (C := RX11) (T := TX11) (N := 49) hx hb hg inGX11 tyX11 tyX11_ok nmX11 hown hKN.1 hP hD hS 0 rfl rfl 33 (by decide) (hg _ kw_1241) (fun _ h9 => h9) rfl (by decide +kernel) rfl rfl (Nat.le_of_ble_eq_true rfl) dX11_gathers_176 (fun H locs hP hD hS => ?_)
                  have hP : va_P D vwCl (MW Y o a (upd I 32 v2107) (vp_updL J 33 v2111) F G) H := hP
                  have hD : va_D A (MW Y o a (upd I 32 v2107) (vp_updL J 33 v2111) F G) := hD
                  have zi0 : (0 : Int32).toInt = 0 := by decide
                  refine W.widen (k := 0) (n := 0) (Nat.le_of_ble_eq_true rfl) (Nat.le_of_ble_eq_true rfl) ?_
                  exact jn2043 (v2107, v2111) H locs ls ⟨hP, hD, hS, lv_sub hl [3, 4, 5, 6] rfl⟩
          · skip
            have c2058 := i_nlt (Eq.refl u2046.toInt) (Eq.refl v2052.toInt) c2058
            refine lv_iload_n hx hb dX11_gathers_64 rfl (lv_at hl 0 rfl) ?_
            refine lv_aload_n hx hb dX11_gathers_65 rfl (lv_at hl 2 rfl) ?_
            refine va_get (D := D) (ci := 11) (v := .int (I 35)) (C := RX11) (T := TX11) (N := 49) hx hb hg inGX11 hown hKN.1 hP 0 rfl rfl 35 (by decide) (hg _ kw_1243) (fun _ h9 => h9) rfl dX11_gathers_66 ?_
            refine lv_iconst (v := 1) hx hb dX11_gathers_69 (by decide) ?_
            refine lv_isub hx hb dX11_gathers_70 ?_
            refine lv_topi (fun v2112 ev2112 => ?_)
            have hv2112 := i_sub (Eq.refl (I 35).toInt) (show (1 : Int32).toInt = 1 by decide) ev2112 (by omega) (by omega)
            refine lv_aload_n hx hb dX11_gathers_71 rfl (lv_at hl 2 rfl) ?_
            refine va_get (D := D) (ci := 11) (v := .int (I 35)) (C := RX11) (T := TX11) (N := 49) hx hb hg inGX11 hown hKN.1 hP 0 rfl rfl 35 (by decide) (hg _ kw_1243) (fun _ h9 => h9) rfl dX11_gathers_72 ?_
            refine lv_iconst (v := 3) hx hb dX11_gathers_75 (by decide) ?_
            refine lv_idiv hx hb dX11_gathers_76 (i_nz (show (3 : Int32).toInt = 3 by decide) (by omega)) ?_
            refine lv_topi (fun v2113 ev2113 => ?_)
            have hv2113 := i_div (Eq.refl (I 35).toInt) (show (3 : Int32).toInt = 3 by decide) ev2113 (by omega) (by omega)
            refine lv_isub hx hb dX11_gathers_77 ?_
            refine lv_topi (fun v2114 ev2114 => ?_)
            have hv2114 := i_sub (Eq.refl v2112.toInt) (Eq.refl v2113.toInt) ev2114 (by omega) (by omega)
            refine lv_icmp_gt (tgt := 85) hx hb dX11_gathers_78 (by decide) (fun c2116 => ?_) (fun c2116 => ?_)
            · skip
              have c2116 := i_lt (Eq.refl v2114.toInt) (Eq.refl u2046.toInt) c2116
              refine lv_iconst (v := 0) hx hb dX11_gathers_85 (by decide) ?_
              refine lv_istore (lv' := [(4, .int 0), (3, .int u2046), (2, .int g741), (0, .ref o), (1, .int p1)]) hx hb dX11_gathers_86 hl (by decide) rfl (fun ls hl => ?_)
              refine lv_iload_n hx hb dX11_gathers_88 rfl (lv_at hl 2 rfl) ?_
              refine lv_aload_n hx hb dX11_gathers_89 rfl (lv_at hl 3 rfl) ?_
              refine va_get (D := D) (ci := 11) (v := .int (I 34)) (C := RX11) (T := TX11) (N := 49) hx hb hg inGX11 hown hKN.1 hP 0 rfl rfl 34 (by decide) (hg _ kw_1242) (fun _ h9 => h9) rfl dX11_gathers_90 ?_
              refine lv_aload_n hx hb dX11_gathers_93 rfl (lv_at hl 3 rfl) ?_
              refine va_get (D := D) (ci := 11) (v := .int (I 36)) (C := RX11) (T := TX11) (N := 49) hx hb hg inGX11 hown hKN.1 hP 0 rfl rfl 36 (by decide) (hg _ kw_1244) (fun _ h9 => h9) rfl dX11_gathers_94 ?_
              refine cg0 (rn_S (As := [.int g741, .int (I 34), .int (I 36)]) (rest := []) (m_dipAt l D Y Z H.size   g741 (I 34) (I 36) (show (0 ≤ g741.toInt ∧ g741.toInt ≤ 599) by omega) (show (1 ≤ (I 34).toInt ∧ (I 34).toInt ≤ 400) by omega) (show (0 ≤ (I 36).toInt ∧ (I 36).toInt ≤ 400) by omega)) ⟨hx, hb, hml, hown, hg⟩ lk_X11_415 ⟨CP.blind, CP.at nilP hKN (nilD (A := fun _ => True))⟩ ⟨⟨rfl, rfl⟩, ⟨Nat.le_of_ble_eq_true rfl, Nat.le_of_ble_eq_true rfl⟩, ⟨Nat.le_of_ble_eq_true rfl, Nat.le_of_ble_eq_true rfl⟩⟩ hl.1 rfl (Nat.le_of_ble_eq_true rfl) dX11_gathers_97) hP hS hA (fun u2117 H locs w2118 hP hS => ?_)
              have w2118 : (-1 ≤ u2117.toInt ∧ u2117.toInt ≤ 599) ∧ ((g741.toInt < (I 36).toInt ∧ u2117.toInt = -1) ∨ ((I 36).toInt ≤ g741.toInt ∧ u2117.toInt = (g741.toInt - (I 36).toInt) / (I 34).toInt)) := w2118
              obtain ⟨hw2120, hw2121⟩ := w2118
              refine W.eq (g2 := F0 m 100 ls [.int u2117]) rfl ?_
              refine lv_istore (lv' := [(5, .int u2117), (4, .int 0), (3, .int u2046), (2, .int g741), (0, .ref o), (1, .int p1)]) hx hb dX11_gathers_100 hl (by decide) rfl (fun ls hl => ?_)
              refine lv_iload_n hx hb dX11_gathers_102 rfl (lv_at hl 5 rfl) ?_
              refine lv_iconst (v := 4) hx hb dX11_gathers_103 (by decide) ?_
              have j2131 := rgI p1
              refine lv_icmp_eq (tgt := 138) hx hb dX11_gathers_104 (by decide) (fun c2132 => ?_) (fun c2132 => ?_)
              · skip
                have c2132 := i_eq (Eq.refl p1.toInt) (show (4 : Int32).toInt = 4 by decide) c2132
                refine lv_iconst (v := 1) hx hb dX11_gathers_138 (by decide) ?_
                refine lv_goto (tgt := 143) hx hb dX11_gathers_139 (by decide) ?_
                refine lv_istore (lv' := [(6, .int 1), (5, .int u2117), (4, .int 0), (3, .int u2046), (2, .int g741), (0, .ref o), (1, .int p1)]) hx hb dX11_gathers_143 hl (by decide) rfl (fun ls hl => ?_)
                refine lv_iload hx hb dX11_gathers_145 (lv_at hl 0 rfl) ?_
                refine lv_if_ne (tgt := 153) hx hb dX11_gathers_147 (by decide) (fun c2133 => ?_) (fun c2133 => ?_)
                rotate_left
                · exact absurd c2133 (by decide)
                refine lv_aload_n hx hb dX11_gathers_153 rfl (lv_at hl 5 rfl) ?_
                refine lv_dup hx hb dX11_gathers_154 rfl ?_
                refine va_get (D := D) (ci := 11) (v := .int g742) (C := RX11) (T := TX11) (N := 49) hx hb hg inGX11 hown hKN.1 hP 0 rfl rfl 32 (by decide) (hg _ kw_1240) (fun _ h9 => h9) rfl dX11_gathers_155 ?_
                refine lv_iconst (v := 1) hx hb dX11_gathers_158 (by decide) ?_
                refine lv_iadd hx hb dX11_gathers_159 ?_
                refine lv_topi (fun v2134 ev2134 => ?_)
                refine va_put (D := D) (ci := 11) (v := .int v2134) (ty := .int) (C := RX11) (T := TX11) (N := 49) hx hb hg inGX11 tyX11 tyX11_ok nmX11 hown hKN.1 hP hD hS 0 rfl rfl 32 (by decide) (hg _ kw_1240) (fun _ h9 => h9) rfl (by decide +kernel) rfl rfl (Nat.le_of_ble_eq_true rfl) dX11_gathers_160 (fun H locs hP hD hS => ?_)
                have hP : va_P D vwCl (MW Y o a (upd I 32 v2134) (vp_updL J 33 g743) F G) H := hP
                have hD : va_D A (MW Y o a (upd I 32 v2134) (vp_updL J 33 g743) F G) := hD
                refine lv_aload_n hx hb dX11_gathers_163 rfl (lv_at hl 5 rfl) ?_
                refine lv_dup hx hb dX11_gathers_164 rfl ?_
                refine va_get (D := D) (ci := 11) (v := .long g743) (C := RX11) (T := TX11) (N := 49) hx hb hg inGX11 hown hKN.1 hP 0 rfl rfl 33 (by decide) (hg _ kw_1241) (fun _ h9 => h9) rfl dX11_gathers_165 ?_
                refine lv_aload_n hx hb dX11_gathers_168 rfl (lv_at hl 5 rfl) ?_
                refine va_get (D := D) (ci := 11) (v := .ref (a 28)) (C := RX11) (T := TX11) (N := 49) hx hb hg inGX11 hown hKN.1 hP 0 rfl rfl 28 (by decide) (hg _ kw_1236) (fun _ h9 => h9) rfl dX11_gathers_169 ?_
                refine lv_iload_n hx hb dX11_gathers_172 rfl (lv_at hl 4 rfl) ?_
                refine va_iald hx hb hKN.1 hP 19 0 rfl rfl (vp_in_iff.mpr ⟨by omega, by omega⟩) dX11_gathers_173 ?_
                refine lv_topi (fun v2135 ev2135 => ?_)
                have qv2135 := congrArg Int32.toInt ev2135
                have j2136 := rgI v2135
                have j2137 := Int32.toInt_toInt64 v2135
                refine lv_i2l (v := v2135.toInt64) hx hb dX11_gathers_174 (rfl) ?_
                refine lv_ladd hx hb dX11_gathers_175 ?_
                refine lv_topl (fun v2138 ev2138 => ?_)
                refine va_put (D := D) (ci := 11) (v := .long v2138) (ty := .long) (C := RX11) (T := TX11) (N := 49) hx hb hg inGX11 tyX11 tyX11_ok nmX11 hown hKN.1 hP hD hS 0 rfl rfl 33 (by decide) (hg _ kw_1241) (fun _ h9 => h9) rfl (by decide +kernel) rfl rfl (Nat.le_of_ble_eq_true rfl) dX11_gathers_176 (fun H locs hP hD hS => ?_)
                have hP : va_P D vwCl (MW Y o a (upd I 32 v2134) (vp_updL J 33 v2138) F G) H := hP
                have hD : va_D A (MW Y o a (upd I 32 v2134) (vp_updL J 33 v2138) F G) := hD
                have zi0 : (0 : Int32).toInt = 0 := by decide
                refine W.widen (k := 0) (n := 0) (Nat.le_of_ble_eq_true rfl) (Nat.le_of_ble_eq_true rfl) ?_
                exact jn2043 (v2134, v2138) H locs ls ⟨hP, hD, hS, lv_sub hl [3, 4, 5, 6] rfl⟩
              · skip
                have c2132 := i_ne (Eq.refl p1.toInt) (show (4 : Int32).toInt = 4 by decide) c2132
                refine lv_iload_n hx hb dX11_gathers_107 rfl (lv_at hl 5 rfl) ?_
                refine lv_iconst (v := 2) hx hb dX11_gathers_108 (by decide) ?_
                refine lv_icmp_ge (tgt := 123) hx hb dX11_gathers_109 (by decide) (fun c2146 => ?_) (fun c2146 => ?_)
                · skip
                  have c2146 := i_le (show (2 : Int32).toInt = 2 by decide) (Eq.refl p1.toInt) c2146
                  refine lv_iload hx hb dX11_gathers_123 (lv_at hl 1 rfl) ?_
                  refine lv_iload_n hx hb dX11_gathers_125 rfl (lv_at hl 5 rfl) ?_
                  refine lv_iconst (v := 2) hx hb dX11_gathers_126 (by decide) ?_
                  refine lv_icmp_ne (tgt := 134) hx hb dX11_gathers_127 (by decide) (fun c2148 => ?_) (fun c2148 => ?_)
                  · skip
                    have c2148 := i_ne (Eq.refl p1.toInt) (show (2 : Int32).toInt = 2 by decide) c2148
                    refine lv_iconst (v := 0) hx hb dX11_gathers_134 (by decide) ?_
                    refine lv_icmp_ne (tgt := 142) hx hb dX11_gathers_135 (by decide) (fun c2150 => ?_) (fun c2150 => ?_)
                    · exact absurd c2150 (by decide)
                    refine lv_iconst (v := 1) hx hb dX11_gathers_138 (by decide) ?_
                    refine lv_goto (tgt := 143) hx hb dX11_gathers_139 (by decide) ?_
                    refine lv_istore (lv' := [(6, .int 1), (5, .int u2117), (4, .int 0), (3, .int u2046), (2, .int g741), (0, .ref o), (1, .int p1)]) hx hb dX11_gathers_143 hl (by decide) rfl (fun ls hl => ?_)
                    refine lv_iload hx hb dX11_gathers_145 (lv_at hl 0 rfl) ?_
                    refine lv_if_ne (tgt := 153) hx hb dX11_gathers_147 (by decide) (fun c2151 => ?_) (fun c2151 => ?_)
                    rotate_left
                    · exact absurd c2151 (by decide)
                    refine lv_aload_n hx hb dX11_gathers_153 rfl (lv_at hl 5 rfl) ?_
                    refine lv_dup hx hb dX11_gathers_154 rfl ?_
                    refine va_get (D := D) (ci := 11) (v := .int g742) (C := RX11) (T := TX11) (N := 49) hx hb hg inGX11 hown hKN.1 hP 0 rfl rfl 32 (by decide) (hg _ kw_1240) (fun _ h9 => h9) rfl dX11_gathers_155 ?_
                    refine lv_iconst (v := 1) hx hb dX11_gathers_158 (by decide) ?_
                    refine lv_iadd hx hb dX11_gathers_159 ?_
                    refine lv_topi (fun v2152 ev2152 => ?_)
                    refine va_put (D := D) (ci := 11) (v := .int v2152) (ty := .int) (C := RX11) (T := TX11) (N := 49) hx hb hg inGX11 tyX11 tyX11_ok nmX11 hown hKN.1 hP hD hS 0 rfl rfl 32 (by decide) (hg _ kw_1240) (fun _ h9 => h9) rfl (by decide +kernel) rfl rfl (Nat.le_of_ble_eq_true rfl) dX11_gathers_160 (fun H locs hP hD hS => ?_)
                    have hP : va_P D vwCl (MW Y o a (upd I 32 v2152) (vp_updL J 33 g743) F G) H := hP
                    have hD : va_D A (MW Y o a (upd I 32 v2152) (vp_updL J 33 g743) F G) := hD
                    refine lv_aload_n hx hb dX11_gathers_163 rfl (lv_at hl 5 rfl) ?_
                    refine lv_dup hx hb dX11_gathers_164 rfl ?_
                    refine va_get (D := D) (ci := 11) (v := .long g743) (C := RX11) (T := TX11) (N := 49) hx hb hg inGX11 hown hKN.1 hP 0 rfl rfl 33 (by decide) (hg _ kw_1241) (fun _ h9 => h9) rfl dX11_gathers_165 ?_
                    refine lv_aload_n hx hb dX11_gathers_168 rfl (lv_at hl 5 rfl) ?_
                    refine va_get (D := D) (ci := 11) (v := .ref (a 28)) (C := RX11) (T := TX11) (N := 49) hx hb hg inGX11 hown hKN.1 hP 0 rfl rfl 28 (by decide) (hg _ kw_1236) (fun _ h9 => h9) rfl dX11_gathers_169 ?_
                    refine lv_iload_n hx hb dX11_gathers_172 rfl (lv_at hl 4 rfl) ?_
                    refine va_iald hx hb hKN.1 hP 19 0 rfl rfl (vp_in_iff.mpr ⟨by omega, by omega⟩) dX11_gathers_173 ?_
                    refine lv_topi (fun v2153 ev2153 => ?_)
                    have qv2153 := congrArg Int32.toInt ev2153
                    have j2154 := rgI v2153
                    have j2155 := Int32.toInt_toInt64 v2153
                    refine lv_i2l (v := v2153.toInt64) hx hb dX11_gathers_174 (rfl) ?_
                    refine lv_ladd hx hb dX11_gathers_175 ?_
                    refine lv_topl (fun v2156 ev2156 => ?_)
                    refine va_put (D := D) (ci := 11) (v := .long v2156) (ty := .long) (C := RX11) (T := TX11) (N := 49) hx hb hg inGX11 tyX11 tyX11_ok nmX11 hown hKN.1 hP hD hS 0 rfl rfl 33 (by decide) (hg _ kw_1241) (fun _ h9 => h9) rfl (by decide +kernel) rfl rfl (Nat.le_of_ble_eq_true rfl) dX11_gathers_176 (fun H locs hP hD hS => ?_)
                    have hP : va_P D vwCl (MW Y o a (upd I 32 v2152) (vp_updL J 33 v2156) F G) H := hP
                    have hD : va_D A (MW Y o a (upd I 32 v2152) (vp_updL J 33 v2156) F G) := hD
                    have zi0 : (0 : Int32).toInt = 0 := by decide
                    refine W.widen (k := 0) (n := 0) (Nat.le_of_ble_eq_true rfl) (Nat.le_of_ble_eq_true rfl) ?_
                    exact jn2043 (v2152, v2156) H locs ls ⟨hP, hD, hS, lv_sub hl [3, 4, 5, 6] rfl⟩
                  · skip
                    have c2148 := i_eq (Eq.refl p1.toInt) (show (2 : Int32).toInt = 2 by decide) c2148
                    refine lv_iconst (v := 1) hx hb dX11_gathers_130 (by decide) ?_
                    refine lv_goto (tgt := 135) hx hb dX11_gathers_131 (by decide) ?_
                    refine lv_icmp_ne (tgt := 142) hx hb dX11_gathers_135 (by decide) (fun c2158 => ?_) (fun c2158 => ?_)
                    rotate_left
                    · exact absurd c2158 (by decide)
                    refine lv_iconst (v := 0) hx hb dX11_gathers_142 (by decide) ?_
                    refine lv_istore (lv' := [(6, .int 0), (5, .int u2117), (4, .int 0), (3, .int u2046), (2, .int g741), (0, .ref o), (1, .int p1)]) hx hb dX11_gathers_143 hl (by decide) rfl (fun ls hl => ?_)
                    refine lv_iload hx hb dX11_gathers_145 (lv_at hl 0 rfl) ?_
                    refine lv_if_ne (tgt := 153) hx hb dX11_gathers_147 (by decide) (fun c2159 => ?_) (fun c2159 => ?_)
                    · exact absurd c2159 (by decide)
                    refine lv_goto (tgt := 179) hx hb dX11_gathers_150 (by decide) ?_
                    have zi0 : (0 : Int32).toInt = 0 := by decide
                    refine W.widen (k := 0) (n := 0) (Nat.le_of_ble_eq_true rfl) (Nat.le_of_ble_eq_true rfl) ?_
                    exact jn2043 (g742, g743) H locs ls ⟨hP, hD, hS, lv_sub hl [3, 4, 5, 6] rfl⟩
                · skip
                  have c2146 := i_nle (show (2 : Int32).toInt = 2 by decide) (Eq.refl p1.toInt) c2146
                  refine lv_iload hx hb dX11_gathers_112 (lv_at hl 0 rfl) ?_
                  refine lv_iconst (v := 1) hx hb dX11_gathers_114 (by decide) ?_
                  refine lv_iand hx hb dX11_gathers_115 ?_
                  refine lv_topi (fun v2160 ev2160 => ?_)
                  have hv2160 := i_and (show (1 : Int32).toInt = 1 by decide) ev2160 (by decide)
                  refine lv_iload_n hx hb dX11_gathers_116 rfl (lv_at hl 5 rfl) ?_
                  refine lv_icmp_ne (tgt := 142) hx hb dX11_gathers_117 (by decide) (fun c2162 => ?_) (fun c2162 => ?_)
                  · skip
                    have c2162 := i_ne (Eq.refl v2160.toInt) (Eq.refl p1.toInt) c2162
                    refine lv_iconst (v := 0) hx hb dX11_gathers_142 (by decide) ?_
                    refine lv_istore (lv' := [(6, .int 0), (5, .int u2117), (4, .int 0), (3, .int u2046), (2, .int g741), (0, .ref o), (1, .int p1)]) hx hb dX11_gathers_143 hl (by decide) rfl (fun ls hl => ?_)
                    refine lv_iload hx hb dX11_gathers_145 (lv_at hl 0 rfl) ?_
                    refine lv_if_ne (tgt := 153) hx hb dX11_gathers_147 (by decide) (fun c2163 => ?_) (fun c2163 => ?_)
                    · exact absurd c2163 (by decide)
                    refine lv_goto (tgt := 179) hx hb dX11_gathers_150 (by decide) ?_
                    have zi0 : (0 : Int32).toInt = 0 := by decide
                    refine W.widen (k := 0) (n := 0) (Nat.le_of_ble_eq_true rfl) (Nat.le_of_ble_eq_true rfl) ?_
                    exact jn2043 (g742, g743) H locs ls ⟨hP, hD, hS, lv_sub hl [3, 4, 5, 6] rfl⟩
                  · skip
                    have c2162 := i_eq (Eq.refl v2160.toInt) (Eq.refl p1.toInt) c2162
                    refine lv_goto (tgt := 138) hx hb dX11_gathers_120 (by decide) ?_
                    refine lv_iconst (v := 1) hx hb dX11_gathers_138 (by decide) ?_
                    refine lv_goto (tgt := 143) hx hb dX11_gathers_139 (by decide) ?_
                    refine lv_istore (lv' := [(6, .int 1), (5, .int u2117), (4, .int 0), (3, .int u2046), (2, .int g741), (0, .ref o), (1, .int p1)]) hx hb dX11_gathers_143 hl (by decide) rfl (fun ls hl => ?_)
                    refine lv_iload hx hb dX11_gathers_145 (lv_at hl 0 rfl) ?_
                    refine lv_if_ne (tgt := 153) hx hb dX11_gathers_147 (by decide) (fun c2164 => ?_) (fun c2164 => ?_)
                    rotate_left
                    · exact absurd c2164 (by decide)
                    refine lv_aload_n hx hb dX11_gathers_153 rfl (lv_at hl 5 rfl) ?_
                    refine lv_dup hx hb dX11_gathers_154 rfl ?_
                    refine va_get (D := D) (ci := 11) (v := .int g742) (C := RX11) (T := TX11) (N := 49) hx hb hg inGX11 hown hKN.1 hP 0 rfl rfl 32 (by decide) (hg _ kw_1240) (fun _ h9 => h9) rfl dX11_gathers_155 ?_
                    refine lv_iconst (v := 1) hx hb dX11_gathers_158 (by decide) ?_
                    refine lv_iadd hx hb dX11_gathers_159 ?_
                    refine lv_topi (fun v2165 ev2165 => ?_)
                    refine va_put (D := D) (ci := 11) (v := .int v2165) (ty := .int) (C := RX11) (T := TX11) (N := 49) hx hb hg inGX11 tyX11 tyX11_ok nmX11 hown hKN.1 hP hD hS 0 rfl rfl 32 (by decide) (hg _ kw_1240) (fun _ h9 => h9) rfl (by decide +kernel) rfl rfl (Nat.le_of_ble_eq_true rfl) dX11_gathers_160 (fun H locs hP hD hS => ?_)
                    have hP : va_P D vwCl (MW Y o a (upd I 32 v2165) (vp_updL J 33 g743) F G) H := hP
                    have hD : va_D A (MW Y o a (upd I 32 v2165) (vp_updL J 33 g743) F G) := hD
                    refine lv_aload_n hx hb dX11_gathers_163 rfl (lv_at hl 5 rfl) ?_
                    refine lv_dup hx hb dX11_gathers_164 rfl ?_
                    refine va_get (D := D) (ci := 11) (v := .long g743) (C := RX11) (T := TX11) (N := 49) hx hb hg inGX11 hown hKN.1 hP 0 rfl rfl 33 (by decide) (hg _ kw_1241) (fun _ h9 => h9) rfl dX11_gathers_165 ?_
                    refine lv_aload_n hx hb dX11_gathers_168 rfl (lv_at hl 5 rfl) ?_
                    refine va_get (D := D) (ci := 11) (v := .ref (a 28)) (C := RX11) (T := TX11) (N := 49) hx hb hg inGX11 hown hKN.1 hP 0 rfl rfl 28 (by decide) (hg _ kw_1236) (fun _ h9 => h9) rfl dX11_gathers_169 ?_
                    refine lv_iload_n hx hb dX11_gathers_172 rfl (lv_at hl 4 rfl) ?_
                    refine va_iald hx hb hKN.1 hP 19 0 rfl rfl (vp_in_iff.mpr ⟨by omega, by omega⟩) dX11_gathers_173 ?_
                    refine lv_topi (fun v2166 ev2166 => ?_)
                    have qv2166 := congrArg Int32.toInt ev2166
                    have j2167 := rgI v2166
                    have j2168 := Int32.toInt_toInt64 v2166
                    refine lv_i2l (v := v2166.toInt64) hx hb dX11_gathers_174 (rfl) ?_
                    refine lv_ladd hx hb dX11_gathers_175 ?_
                    refine lv_topl (fun v2169 ev2169 => ?_)
                    refine va_put (D := D) (ci := 11) (v := .long v2169) (ty := .long) (C := RX11) (T := TX11) (N := 49) hx hb hg inGX11 tyX11 tyX11_ok nmX11 hown hKN.1 hP hD hS 0 rfl rfl 33 (by decide) (hg _ kw_1241) (fun _ h9 => h9) rfl (by decide +kernel) rfl rfl (Nat.le_of_ble_eq_true rfl) dX11_gathers_176 (fun H locs hP hD hS => ?_)
                    have hP : va_P D vwCl (MW Y o a (upd I 32 v2165) (vp_updL J 33 v2169) F G) H := hP
                    have hD : va_D A (MW Y o a (upd I 32 v2165) (vp_updL J 33 v2169) F G) := hD
                    have zi0 : (0 : Int32).toInt = 0 := by decide
                    refine W.widen (k := 0) (n := 0) (Nat.le_of_ble_eq_true rfl) (Nat.le_of_ble_eq_true rfl) ?_
                    exact jn2043 (v2165, v2169) H locs ls ⟨hP, hD, hS, lv_sub hl [3, 4, 5, 6] rfl⟩
            · skip
              have c2116 := i_nlt (Eq.refl v2114.toInt) (Eq.refl u2046.toInt) c2116
              refine lv_iconst (v := 1) hx hb dX11_gathers_81 (by decide) ?_
              refine lv_goto (tgt := 86) hx hb dX11_gathers_82 (by decide) ?_
              refine lv_istore (lv' := [(4, .int 1), (3, .int u2046), (2, .int g741), (0, .ref o), (1, .int p1)]) hx hb dX11_gathers_86 hl (by decide) rfl (fun ls hl => ?_)
              refine lv_iload_n hx hb dX11_gathers_88 rfl (lv_at hl 2 rfl) ?_
              refine lv_aload_n hx hb dX11_gathers_89 rfl (lv_at hl 3 rfl) ?_
              refine va_get (D := D) (ci := 11) (v := .int (I 34)) (C := RX11) (T := TX11) (N := 49) hx hb hg inGX11 hown hKN.1 hP 0 rfl rfl 34 (by decide) (hg _ kw_1242) (fun _ h9 => h9) rfl dX11_gathers_90 ?_
              refine lv_aload_n hx hb dX11_gathers_93 rfl (lv_at hl 3 rfl) ?_
              refine va_get (D := D) (ci := 11) (v := .int (I 36)) (C := RX11) (T := TX11) (N := 49) hx hb hg inGX11 hown hKN.1 hP 0 rfl rfl 36 (by decide) (hg _ kw_1244) (fun _ h9 => h9) rfl dX11_gathers_94 ?_
              refine cg0 (rn_S (As := [.int g741, .int (I 34), .int (I 36)]) (rest := []) (m_dipAt l D Y Z H.size   g741 (I 34) (I 36) (show (0 ≤ g741.toInt ∧ g741.toInt ≤ 599) by omega) (show (1 ≤ (I 34).toInt ∧ (I 34).toInt ≤ 400) by omega) (show (0 ≤ (I 36).toInt ∧ (I 36).toInt ≤ 400) by omega)) ⟨hx, hb, hml, hown, hg⟩ lk_X11_415 ⟨CP.blind, CP.at nilP hKN (nilD (A := fun _ => True))⟩ ⟨⟨rfl, rfl⟩, ⟨Nat.le_of_ble_eq_true rfl, Nat.le_of_ble_eq_true rfl⟩, ⟨Nat.le_of_ble_eq_true rfl, Nat.le_of_ble_eq_true rfl⟩⟩ hl.1 rfl (Nat.le_of_ble_eq_true rfl) dX11_gathers_97) hP hS hA (fun u2170 H locs w2171 hP hS => ?_)
              have w2171 : (-1 ≤ u2170.toInt ∧ u2170.toInt ≤ 599) ∧ ((g741.toInt < (I 36).toInt ∧ u2170.toInt = -1) ∨ ((I 36).toInt ≤ g741.toInt ∧ u2170.toInt = (g741.toInt - (I 36).toInt) / (I 34).toInt)) := w2171
              obtain ⟨hw2173, hw2174⟩ := w2171
              refine W.eq (g2 := F0 m 100 ls [.int u2170]) rfl ?_
              refine lv_istore (lv' := [(5, .int u2170), (4, .int 1), (3, .int u2046), (2, .int g741), (0, .ref o), (1, .int p1)]) hx hb dX11_gathers_100 hl (by decide) rfl (fun ls hl => ?_)
              refine lv_iload_n hx hb dX11_gathers_102 rfl (lv_at hl 5 rfl) ?_
              refine lv_iconst (v := 4) hx hb dX11_gathers_103 (by decide) ?_
              have j2184 := rgI p1
              refine lv_icmp_eq (tgt := 138) hx hb dX11_gathers_104 (by decide) (fun c2185 => ?_) (fun c2185 => ?_)
              · skip
                have c2185 := i_eq (Eq.refl p1.toInt) (show (4 : Int32).toInt = 4 by decide) c2185
                refine lv_iconst (v := 1) hx hb dX11_gathers_138 (by decide) ?_
                refine lv_goto (tgt := 143) hx hb dX11_gathers_139 (by decide) ?_
                refine lv_istore (lv' := [(6, .int 1), (5, .int u2170), (4, .int 1), (3, .int u2046), (2, .int g741), (0, .ref o), (1, .int p1)]) hx hb dX11_gathers_143 hl (by decide) rfl (fun ls hl => ?_)
                refine lv_iload hx hb dX11_gathers_145 (lv_at hl 0 rfl) ?_
                refine lv_if_ne (tgt := 153) hx hb dX11_gathers_147 (by decide) (fun c2186 => ?_) (fun c2186 => ?_)
                rotate_left
                · exact absurd c2186 (by decide)
                refine lv_aload_n hx hb dX11_gathers_153 rfl (lv_at hl 5 rfl) ?_
                refine lv_dup hx hb dX11_gathers_154 rfl ?_
                refine va_get (D := D) (ci := 11) (v := .int g742) (C := RX11) (T := TX11) (N := 49) hx hb hg inGX11 hown hKN.1 hP 0 rfl rfl 32 (by decide) (hg _ kw_1240) (fun _ h9 => h9) rfl dX11_gathers_155 ?_
                refine lv_iconst (v := 1) hx hb dX11_gathers_158 (by decide) ?_
                refine lv_iadd hx hb dX11_gathers_159 ?_
                refine lv_topi (fun v2187 ev2187 => ?_)
                refine va_put (D := D) (ci := 11) (v := .int v2187) (ty := .int) (C := RX11) (T := TX11) (N := 49) hx hb hg inGX11 tyX11 tyX11_ok nmX11 hown hKN.1 hP hD hS 0 rfl rfl 32 (by decide) (hg _ kw_1240) (fun _ h9 => h9) rfl (by decide +kernel) rfl rfl (Nat.le_of_ble_eq_true rfl) dX11_gathers_160 (fun H locs hP hD hS => ?_)
                have hP : va_P D vwCl (MW Y o a (upd I 32 v2187) (vp_updL J 33 g743) F G) H := hP
                have hD : va_D A (MW Y o a (upd I 32 v2187) (vp_updL J 33 g743) F G) := hD
                refine lv_aload_n hx hb dX11_gathers_163 rfl (lv_at hl 5 rfl) ?_
                refine lv_dup hx hb dX11_gathers_164 rfl ?_
                refine va_get (D := D) (ci := 11) (v := .long g743) (C := RX11) (T := TX11) (N := 49) hx hb hg inGX11 hown hKN.1 hP 0 rfl rfl 33 (by decide) (hg _ kw_1241) (fun _ h9 => h9) rfl dX11_gathers_165 ?_
                refine lv_aload_n hx hb dX11_gathers_168 rfl (lv_at hl 5 rfl) ?_
                refine va_get (D := D) (ci := 11) (v := .ref (a 28)) (C := RX11) (T := TX11) (N := 49) hx hb hg inGX11 hown hKN.1 hP 0 rfl rfl 28 (by decide) (hg _ kw_1236) (fun _ h9 => h9) rfl dX11_gathers_169 ?_
                refine lv_iload_n hx hb dX11_gathers_172 rfl (lv_at hl 4 rfl) ?_
                refine va_iald hx hb hKN.1 hP 19 0 rfl rfl (vp_in_iff.mpr ⟨by omega, by omega⟩) dX11_gathers_173 ?_
                refine lv_topi (fun v2188 ev2188 => ?_)
                have qv2188 := congrArg Int32.toInt ev2188
                have j2189 := rgI v2188
                have j2190 := Int32.toInt_toInt64 v2188
                refine lv_i2l (v := v2188.toInt64) hx hb dX11_gathers_174 (rfl) ?_
                refine lv_ladd hx hb dX11_gathers_175 ?_
                refine lv_topl (fun v2191 ev2191 => ?_)
                refine va_put (D := D) (ci := 11) (v := .long v2191) (ty := .long) (C := RX11) (T := TX11) (N := 49) hx hb hg inGX11 tyX11 tyX11_ok nmX11 hown hKN.1 hP hD hS 0 rfl rfl 33 (by decide) (hg _ kw_1241) (fun _ h9 => h9) rfl (by decide +kernel) rfl rfl (Nat.le_of_ble_eq_true rfl) dX11_gathers_176 (fun H locs hP hD hS => ?_)
                have hP : va_P D vwCl (MW Y o a (upd I 32 v2187) (vp_updL J 33 v2191) F G) H := hP
                have hD : va_D A (MW Y o a (upd I 32 v2187) (vp_updL J 33 v2191) F G) := hD
                refine W.widen (k := 0) (n := 0) (Nat.le_of_ble_eq_true rfl) (Nat.le_of_ble_eq_true rfl) ?_
                exact jn2043 (v2187, v2191) H locs ls ⟨hP, hD, hS, lv_sub hl [3, 4, 5, 6] rfl⟩
              · skip
                have c2185 := i_ne (Eq.refl p1.toInt) (show (4 : Int32).toInt = 4 by decide) c2185
                refine lv_iload_n hx hb dX11_gathers_107 rfl (lv_at hl 5 rfl) ?_
                refine lv_iconst (v := 2) hx hb dX11_gathers_108 (by decide) ?_
                refine lv_icmp_ge (tgt := 123) hx hb dX11_gathers_109 (by decide) (fun c2199 => ?_) (fun c2199 => ?_)
                · skip
                  have c2199 := i_le (show (2 : Int32).toInt = 2 by decide) (Eq.refl p1.toInt) c2199
                  refine lv_iload hx hb dX11_gathers_123 (lv_at hl 1 rfl) ?_
                  refine lv_iload_n hx hb dX11_gathers_125 rfl (lv_at hl 5 rfl) ?_
                  refine lv_iconst (v := 2) hx hb dX11_gathers_126 (by decide) ?_
                  refine lv_icmp_ne (tgt := 134) hx hb dX11_gathers_127 (by decide) (fun c2201 => ?_) (fun c2201 => ?_)
                  · skip
                    have c2201 := i_ne (Eq.refl p1.toInt) (show (2 : Int32).toInt = 2 by decide) c2201
                    refine lv_iconst (v := 0) hx hb dX11_gathers_134 (by decide) ?_
                    refine lv_icmp_ne (tgt := 142) hx hb dX11_gathers_135 (by decide) (fun c2203 => ?_) (fun c2203 => ?_)
                    rotate_left
                    · exact absurd c2203 (by decide)
                    refine lv_iconst (v := 0) hx hb dX11_gathers_142 (by decide) ?_
                    refine lv_istore (lv' := [(6, .int 0), (5, .int u2170), (4, .int 1), (3, .int u2046), (2, .int g741), (0, .ref o), (1, .int p1)]) hx hb dX11_gathers_143 hl (by decide) rfl (fun ls hl => ?_)
                    refine lv_iload hx hb dX11_gathers_145 (lv_at hl 0 rfl) ?_
                    refine lv_if_ne (tgt := 153) hx hb dX11_gathers_147 (by decide) (fun c2204 => ?_) (fun c2204 => ?_)
                    · exact absurd c2204 (by decide)
                    refine lv_goto (tgt := 179) hx hb dX11_gathers_150 (by decide) ?_
                    have zi0 : (0 : Int32).toInt = 0 := by decide
                    refine W.widen (k := 0) (n := 0) (Nat.le_of_ble_eq_true rfl) (Nat.le_of_ble_eq_true rfl) ?_
                    exact jn2043 (g742, g743) H locs ls ⟨hP, hD, hS, lv_sub hl [3, 4, 5, 6] rfl⟩
                  · skip
                    have c2201 := i_eq (Eq.refl p1.toInt) (show (2 : Int32).toInt = 2 by decide) c2201
                    refine lv_iconst (v := 1) hx hb dX11_gathers_130 (by decide) ?_
                    refine lv_goto (tgt := 135) hx hb dX11_gathers_131 (by decide) ?_
                    refine lv_icmp_ne (tgt := 142) hx hb dX11_gathers_135 (by decide) (fun c2206 => ?_) (fun c2206 => ?_)
                    · exact absurd c2206 (by decide)
                    refine lv_iconst (v := 1) hx hb dX11_gathers_138 (by decide) ?_
                    refine lv_goto (tgt := 143) hx hb dX11_gathers_139 (by decide) ?_
                    refine lv_istore (lv' := [(6, .int 1), (5, .int u2170), (4, .int 1), (3, .int u2046), (2, .int g741), (0, .ref o), (1, .int p1)]) hx hb dX11_gathers_143 hl (by decide) rfl (fun ls hl => ?_)
                    refine lv_iload hx hb dX11_gathers_145 (lv_at hl 0 rfl) ?_
                    refine lv_if_ne (tgt := 153) hx hb dX11_gathers_147 (by decide) (fun c2207 => ?_) (fun c2207 => ?_)
                    rotate_left
                    · exact absurd c2207 (by decide)
                    refine lv_aload_n hx hb dX11_gathers_153 rfl (lv_at hl 5 rfl) ?_
                    refine lv_dup hx hb dX11_gathers_154 rfl ?_
                    refine va_get (D := D) (ci := 11) (v := .int g742) (C := RX11) (T := TX11) (N := 49) hx hb hg inGX11 hown hKN.1 hP 0 rfl rfl 32 (by decide) (hg _ kw_1240) (fun _ h9 => h9) rfl dX11_gathers_155 ?_
                    refine lv_iconst (v := 1) hx hb dX11_gathers_158 (by decide) ?_
                    refine lv_iadd hx hb dX11_gathers_159 ?_
                    refine lv_topi (fun v2208 ev2208 => ?_)
                    refine va_put (D := D) (ci := 11) (v := .int v2208) (ty := .int) (C := RX11) (T := TX11) (N := 49) hx hb hg inGX11 tyX11 tyX11_ok nmX11 hown hKN.1 hP hD hS 0 rfl rfl 32 (by decide) (hg _ kw_1240) (fun _ h9 => h9) rfl (by decide +kernel) rfl rfl (Nat.le_of_ble_eq_true rfl) dX11_gathers_160 (fun H locs hP hD hS => ?_)
                    have hP : va_P D vwCl (MW Y o a (upd I 32 v2208) (vp_updL J 33 g743) F G) H := hP
                    have hD : va_D A (MW Y o a (upd I 32 v2208) (vp_updL J 33 g743) F G) := hD
                    refine lv_aload_n hx hb dX11_gathers_163 rfl (lv_at hl 5 rfl) ?_
                    refine lv_dup hx hb dX11_gathers_164 rfl ?_
                    refine va_get (D := D) (ci := 11) (v := .long g743) (C := RX11) (T := TX11) (N := 49) hx hb hg inGX11 hown hKN.1 hP 0 rfl rfl 33 (by decide) (hg _ kw_1241) (fun _ h9 => h9) rfl dX11_gathers_165 ?_
                    refine lv_aload_n hx hb dX11_gathers_168 rfl (lv_at hl 5 rfl) ?_
                    refine va_get (D := D) (ci := 11) (v := .ref (a 28)) (C := RX11) (T := TX11) (N := 49) hx hb hg inGX11 hown hKN.1 hP 0 rfl rfl 28 (by decide) (hg _ kw_1236) (fun _ h9 => h9) rfl dX11_gathers_169 ?_
                    refine lv_iload_n hx hb dX11_gathers_172 rfl (lv_at hl 4 rfl) ?_
                    refine va_iald hx hb hKN.1 hP 19 0 rfl rfl (vp_in_iff.mpr ⟨by omega, by omega⟩) dX11_gathers_173 ?_
                    refine lv_topi (fun v2209 ev2209 => ?_)
                    have qv2209 := congrArg Int32.toInt ev2209
                    have j2210 := rgI v2209
                    have j2211 := Int32.toInt_toInt64 v2209
                    refine lv_i2l (v := v2209.toInt64) hx hb dX11_gathers_174 (rfl) ?_
                    refine lv_ladd hx hb dX11_gathers_175 ?_
                    refine lv_topl (fun v2212 ev2212 => ?_)
                    refine va_put (D := D) (ci := 11) (v := .long v2212) (ty := .long) (C := RX11) (T := TX11) (N := 49) hx hb hg inGX11 tyX11 tyX11_ok nmX11 hown hKN.1 hP hD hS 0 rfl rfl 33 (by decide) (hg _ kw_1241) (fun _ h9 => h9) rfl (by decide +kernel) rfl rfl (Nat.le_of_ble_eq_true rfl) dX11_gathers_176 (fun H locs hP hD hS => ?_)
                    have hP : va_P D vwCl (MW Y o a (upd I 32 v2208) (vp_updL J 33 v2212) F G) H := hP
                    have hD : va_D A (MW Y o a (upd I 32 v2208) (vp_updL J 33 v2212) F G) := hD
                    refine W.widen (k := 0) (n := 0) (Nat.le_of_ble_eq_true rfl) (Nat.le_of_ble_eq_true rfl) ?_
                    exact jn2043 (v2208, v2212) H locs ls ⟨hP, hD, hS, lv_sub hl [3, 4, 5, 6] rfl⟩
                · skip
                  have c2199 := i_nle (show (2 : Int32).toInt = 2 by decide) (Eq.refl p1.toInt) c2199
                  refine lv_iload hx hb dX11_gathers_112 (lv_at hl 0 rfl) ?_
                  refine lv_iconst (v := 1) hx hb dX11_gathers_114 (by decide) ?_
                  refine lv_iand hx hb dX11_gathers_115 ?_
                  refine lv_topi (fun v2213 ev2213 => ?_)
                  have hv2213 := i_and (show (1 : Int32).toInt = 1 by decide) ev2213 (by decide)
                  refine lv_iload_n hx hb dX11_gathers_116 rfl (lv_at hl 5 rfl) ?_
                  refine lv_icmp_ne (tgt := 142) hx hb dX11_gathers_117 (by decide) (fun c2215 => ?_) (fun c2215 => ?_)
                  · skip
                    have c2215 := i_ne (Eq.refl v2213.toInt) (Eq.refl p1.toInt) c2215
                    refine lv_iconst (v := 0) hx hb dX11_gathers_142 (by decide) ?_
                    refine lv_istore (lv' := [(6, .int 0), (5, .int u2170), (4, .int 1), (3, .int u2046), (2, .int g741), (0, .ref o), (1, .int p1)]) hx hb dX11_gathers_143 hl (by decide) rfl (fun ls hl => ?_)
                    refine lv_iload hx hb dX11_gathers_145 (lv_at hl 0 rfl) ?_
                    refine lv_if_ne (tgt := 153) hx hb dX11_gathers_147 (by decide) (fun c2216 => ?_) (fun c2216 => ?_)
                    · exact absurd c2216 (by decide)
                    refine lv_goto (tgt := 179) hx hb dX11_gathers_150 (by decide) ?_
                    have zi0 : (0 : Int32).toInt = 0 := by decide
                    refine W.widen (k := 0) (n := 0) (Nat.le_of_ble_eq_true rfl) (Nat.le_of_ble_eq_true rfl) ?_
                    exact jn2043 (g742, g743) H locs ls ⟨hP, hD, hS, lv_sub hl [3, 4, 5, 6] rfl⟩
                  · skip
                    have c2215 := i_eq (Eq.refl v2213.toInt) (Eq.refl p1.toInt) c2215
                    refine lv_goto (tgt := 138) hx hb dX11_gathers_120 (by decide) ?_
                    refine lv_iconst (v := 1) hx hb dX11_gathers_138 (by decide) ?_
                    refine lv_goto (tgt := 143) hx hb dX11_gathers_139 (by decide) ?_
                    refine lv_istore (lv' := [(6, .int 1), (5, .int u2170), (4, .int 1), (3, .int u2046), (2, .int g741), (0, .ref o), (1, .int p1)]) hx hb dX11_gathers_143 hl (by decide) rfl (fun ls hl => ?_)
                    refine lv_iload hx hb dX11_gathers_145 (lv_at hl 0 rfl) ?_
                    refine lv_if_ne (tgt := 153) hx hb dX11_gathers_147 (by decide) (fun c2217 => ?_) (fun c2217 => ?_)
                    rotate_left
                    · exact absurd c2217 (by decide)
                    refine lv_aload_n hx hb dX11_gathers_153 rfl (lv_at hl 5 rfl) ?_
                    refine lv_dup hx hb dX11_gathers_154 rfl ?_
                    refine va_get (D := D) (ci := 11) (v := .int g742) (C := RX11) (T := TX11) (N := 49) hx hb hg inGX11 hown hKN.1 hP 0 rfl rfl 32 (by decide) (hg _ kw_1240) (fun _ h9 => h9) rfl dX11_gathers_155 ?_
                    refine lv_iconst (v := 1) hx hb dX11_gathers_158 (by decide) ?_
                    refine lv_iadd hx hb dX11_gathers_159 ?_
                    refine lv_topi (fun v2218 ev2218 => ?_)
                    refine va_put (D := D) (ci := 11) (v := .int v2218) (ty := .int) (C := RX11) (T := TX11) (N := 49) hx hb hg inGX11 tyX11 tyX11_ok nmX11 hown hKN.1 hP hD hS 0 rfl rfl 32 (by decide) (hg _ kw_1240) (fun _ h9 => h9) rfl (by decide +kernel) rfl rfl (Nat.le_of_ble_eq_true rfl) dX11_gathers_160 (fun H locs hP hD hS => ?_)
                    have hP : va_P D vwCl (MW Y o a (upd I 32 v2218) (vp_updL J 33 g743) F G) H := hP
                    have hD : va_D A (MW Y o a (upd I 32 v2218) (vp_updL J 33 g743) F G) := hD
                    refine lv_aload_n hx hb dX11_gathers_163 rfl (lv_at hl 5 rfl) ?_
                    refine lv_dup hx hb dX11_gathers_164 rfl ?_
                    refine va_get (D := D) (ci := 11) (v := .long g743) (C := RX11) (T := TX11) (N := 49) hx hb hg inGX11 hown hKN.1 hP 0 rfl rfl 33 (by decide) (hg _ kw_1241) (fun _ h9 => h9) rfl dX11_gathers_165 ?_
                    refine lv_aload_n hx hb dX11_gathers_168 rfl (lv_at hl 5 rfl) ?_
                    refine va_get (D := D) (ci := 11) (v := .ref (a 28)) (C := RX11) (T := TX11) (N := 49) hx hb hg inGX11 hown hKN.1 hP 0 rfl rfl 28 (by decide) (hg _ kw_1236) (fun _ h9 => h9) rfl dX11_gathers_169 ?_
                    refine lv_iload_n hx hb dX11_gathers_172 rfl (lv_at hl 4 rfl) ?_
                    refine va_iald hx hb hKN.1 hP 19 0 rfl rfl (vp_in_iff.mpr ⟨by omega, by omega⟩) dX11_gathers_173 ?_
                    refine lv_topi (fun v2219 ev2219 => ?_)
                    have qv2219 := congrArg Int32.toInt ev2219
                    have j2220 := rgI v2219
                    have j2221 := Int32.toInt_toInt64 v2219
                    refine lv_i2l (v := v2219.toInt64) hx hb dX11_gathers_174 (rfl) ?_
                    refine lv_ladd hx hb dX11_gathers_175 ?_
                    refine lv_topl (fun v2222 ev2222 => ?_)
                    refine va_put (D := D) (ci := 11) (v := .long v2222) (ty := .long) (C := RX11) (T := TX11) (N := 49) hx hb hg inGX11 tyX11 tyX11_ok nmX11 hown hKN.1 hP hD hS 0 rfl rfl 33 (by decide) (hg _ kw_1241) (fun _ h9 => h9) rfl (by decide +kernel) rfl rfl (Nat.le_of_ble_eq_true rfl) dX11_gathers_176 (fun H locs hP hD hS => ?_)
                    have hP : va_P D vwCl (MW Y o a (upd I 32 v2218) (vp_updL J 33 v2222) F G) H := hP
                    have hD : va_D A (MW Y o a (upd I 32 v2218) (vp_updL J 33 v2222) F G) := hD
                    refine W.widen (k := 0) (n := 0) (Nat.le_of_ble_eq_true rfl) (Nat.le_of_ble_eq_true rfl) ?_
                    exact jn2043 (v2218, v2222) H locs ls ⟨hP, hD, hS, lv_sub hl [3, 4, 5, 6] rfl⟩
        · skip
          have c2051 := i_nlt (Eq.refl u2046.toInt) (Eq.refl (I 35).toInt) c2051
          refine lv_goto (tgt := 179) hx hb dX11_gathers_51 (by decide) ?_
          refine W.widen (k := 0) (n := 0) (Nat.le_of_ble_eq_true rfl) (Nat.le_of_ble_eq_true rfl) ?_
          exact jn2043 (g742, g743) H locs ls ⟨hP, hD, hS, lv_sub hl [0, 1, 2, 3] rfl⟩
    · obtain rfl : u1857 = 0 := i_is c1862 (by decide)
      have zi0 : (0 : Int32).toInt = 0 := by decide
      refine W.eq (g2 := F0 m 24 ls [.int 0]) rfl ?_
      refine lv_if_ne (tgt := 30) hx hb dX11_gathers_24 (by decide) (fun c2224 => ?_) (fun c2224 => ?_)
      · exact absurd c2224 (by decide)
      refine lv_goto (tgt := 179) hx hb dX11_gathers_27 (by decide) ?_
      obtain ⟨v2225, ev2225⟩ : ∃ y : Int32, y = g741 + 1 := ⟨_, rfl⟩
      have hv2225 := i_add (Eq.refl g741.toInt) (show (1 : Int32).toInt = 1 by decide) ev2225 (by omega) (by omega)
      refine lv_iinc (v := v2225) (lv' := [(2, .int v2225), (0, .ref o), (1, .int p1)]) hx hb dX11_gathers_179 hl (k := 0) rfl (by rw [ev2225]; rfl) (by decide) rfl (fun ls hl => ?_)
      refine lv_goto (tgt := 12) hx hb dX11_gathers_182 (by decide) ?_
      exact ih1485 (v2225, g742, g743) H locs ls (by show (600 - v2225.toInt).toNat < (600 - g741.toInt).toNat; omega) ⟨hP, hD, hS, lv_sub hl [0, 1, 2] rfl, by omega⟩
