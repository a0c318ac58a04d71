set_option maxHeartbeats 4000000 in
set_option maxRecDepth 100000 in
theorem m_gathers4 (l : Launch) (D : va_G) (Y : Nat → ClassId) (Z : Nat → Nat) (sz : Nat) (o : Nat) (a : Nat → Nat) (I : Nat → Int32) (J : Nat → Int64) (F : Nat → Nat → Int32) (G : Nat → Nat → Int64) (hk_0 : (2 ≤ (I 34).toInt ∧ (I 34).toInt ≤ 200)) (hk_1 : (1 ≤ (I 35).toInt ∧ (I 35).toInt ≤ 10)) (hk_2 : (0 ≤ (I 36).toInt ∧ (I 36).toInt ≤ 199)) (hk_3 : ((I 36).toInt < (I 34).toInt)) : Met l yX11_gathers (.code yX11_gathers cX11_gathers 7 none :: GW) ({ frames := 2, cells := 0, slots := 0, locals := 44 }) (va_Pc [.ref o, .int 4] (CP D Y Z (MW Y o a I J F G) sz)) (QG (S := Int32 × Int64) (fun _ => none) (fun u => (0 ≤ u.1.toInt ∧ u.1.toInt ≤ 600) ∧ (u.1.toInt = (cin (F 28) ((I 34).toInt).toNat ((I 35).toInt).toNat ((I 36).toInt).toNat 600 : Int))) (fun u => CB D (MW Y o a (upd I 32 u.1) (vp_updL J 33 u.2) F G) (va_A (MW Y o a I J F G) sz)) (va_A (MW Y o a I J F G) sz)) 0 0 (va_A (MW Y o a I J F G) sz) := by
  refine Met.ofW (cc := cX11_gathers) (maxL := 7) (ret := none) (by decide) rfl ?_
  intro p e s m args below meth c s₁ B hml hv
  obtain ⟨rfl, hsz, hP, hKN, hD0⟩ := hv
  have hx := B.exec
  have hb := B.bytes
  have hr := B.returns
  have hts := atoms_spec (ws := .code yX11_gathers cX11_gathers 7 none :: GW) B.pre
  have hg : ∀ w ∈ GW, w.before _ s = true := fun w h => hts w (List.mem_cons_of_mem _ h)
  have hown : s.vm.findClass RX11 = some m.cls := findClass_of_methodNamed B.named
  have hlocks := B.notSynchronized
  subst hsz
  have hD := hD0.self (sz := s.heap.size)
  generalize hAe : va_A (MW Y o a I J F G) s.heap.size = A at hD ⊢
  have hA : ∀ q : Nat, s.heap.size ≤ q → A q := fun q h => by rw [← hAe]; exact Or.inr h
  clear hAe hD0 hts B
  have hl := lv_entry ([.ref o, .int 4]) (n := 7) (Nat.le_of_ble_eq_true rfl)
  rw [lg_entry_eq]
  generalize (lg_sl ([.ref o, .int 4]) ++ List.replicate (7 - (lg_sl ([.ref o, .int 4])).length) Slot.unset).toArray = ls at hl ⊢
  have hl : lv_has ls 7 [(0, .ref o), (1, .int 4)] := hl
  refine w_start (A0 := A) hP (fun H locs hP hS => ?_)
  refine lv_aload_n hx hb dX11_gathers_0 rfl (lv_at hl 0 rfl) ?_
  refine lv_iconst (v := 0) hx hb dX11_gathers_1 (by decide) ?_
  refine va_put (D := D) (ci := 11) (v := .int 0) (ty := .int) (C := RX11) (T := TX11) (N := 49) hx hb hg inGX11 tyX11 tyX11_ok nmX11 hown hKN.1 hP hD hS 0 rfl rfl 32 (by decide) (hg _ kw_1240) (fun _ h9 => h9) rfl (by decide +kernel) rfl rfl (Nat.le_of_ble_eq_true rfl) dX11_gathers_2 (fun H locs hP hD hS => ?_)
  have hP : va_P D vwCl (MW Y o a (upd I 32 0) J F G) H := hP
  have hD : va_D A (MW Y o a (upd I 32 0) J F G) := hD
  refine lv_aload_n hx hb dX11_gathers_5 rfl (lv_at hl 0 rfl) ?_
  refine lv_lconst (v := 0) hx hb dX11_gathers_6 (by decide) ?_
  refine va_put (D := D) (ci := 11) (v := .long 0) (ty := .long) (C := RX11) (T := TX11) (N := 49) hx hb hg inGX11 tyX11 tyX11_ok nmX11 hown hKN.1 hP hD hS 0 rfl rfl 33 (by decide) (hg _ kw_1241) (fun _ h9 => h9) rfl (by decide +kernel) rfl rfl (Nat.le_of_ble_eq_true rfl) dX11_gathers_7 (fun H locs hP hD hS => ?_)
  have hP : va_P D vwCl (MW Y o a (upd I 32 0) (vp_updL J 33 0) F G) H := hP
  have hD : va_D A (MW Y o a (upd I 32 0) (vp_updL J 33 0) F G) := hD
  refine lv_iconst (v := 0) hx hb dX11_gathers_10 (by decide) ?_
  have t1 : (cin (F 28) ((I 34).toInt).toNat ((I 35).toInt).toNat ((I 36).toInt).toNat ((0 : Int32).toInt).toNat : Int) = 0 := rfl
  refine lv_istore_n (lv' := [(2, .int 0), (0, .ref o), (1, .int 4)]) hx hb dX11_gathers_11 rfl hl (by decide) rfl (fun ls hl => ?_)
  have zi0 : (0 : Int32).toInt = 0 := by decide
  have zi4 : (4 : Int32).toInt = 4 := by decide
  have zl0 : (0 : Int64).toInt = 0 := by decide
  refine w_loop (σ := Int32 × Int32 × Int64) (fun xx H locs ls => match xx with | (g64, g65, g66) => va_P D vwCl (MW Y o a (upd I 32 g65) (vp_updL J 33 g66) F G) H ∧ va_D A (MW Y o a (upd I 32 g65) (vp_updL J 33 g66) F G) ∧ va_S A s.heap H locs ∧ lv_has ls 7 [(2, .int g64), (0, .ref o), (1, .int 4)] ∧ (0 ≤ g64.toInt ∧ g64.toInt ≤ 600) ∧ (0 ≤ g65.toInt ∧ g65.toInt ≤ 600) ∧ (g65.toInt = (cin (F 28) ((I 34).toInt).toNat ((I 35).toInt).toNat ((I 36).toInt).toNat (g64.toInt).toNat : Int)) ∧ (g65.toInt ≤ g64.toInt)) (fun xx => match xx with | (g64, g65, g66) => (600 - g64.toInt).toNat) (0, 0, 0) ⟨hP, hD, hS, lv_sub hl [0, 1, 2] rfl, by omega, by omega, by omega, by omega⟩ (fun xx H locs ls hI ih => ?_)
  obtain ⟨g64, g65, g66⟩ := xx
  obtain ⟨hP, hD, hS, hl, hq135, hq136, hq137, hq138⟩ := hI
  have ih139 := ih
  refine lv_iload_n hx hb dX11_gathers_12 rfl (lv_at hl 0 rfl) ?_
  refine lv_sipush (v := 600) hx hb dX11_gathers_13 (by decide) ?_
  refine lv_icmp_ge (tgt := 185) hx hb dX11_gathers_16 (by decide) (fun c140 => ?_) (fun c140 => ?_)
  · skip
    have c140 := i_le (show (600 : Int32).toInt = 600 by decide) (Eq.refl g64.toInt) c140
    have t141 : (cin (F 28) ((I 34).toInt).toNat ((I 35).toInt).toNat ((I 36).toInt).toNat (g64.toInt).toNat : Int) = (cin (F 28) ((I 34).toInt).toNat ((I 35).toInt).toNat ((I 36).toInt).toNat 600 : Int) := by rw [show g64.toInt.toNat = 600 by omega]
    refine W.widen (k := 0) (n := 0) (Nat.le_of_ble_eq_true rfl) (Nat.le_of_ble_eq_true rfl) ?_
    have zi4 : (4 : Int32).toInt = 4 := by decide
    exact W.vret hx hb hr (fun t ht hW => ⟨⟨(g65, g66), rfl, ⟨(show (0 ≤ g65.toInt ∧ g65.toInt ≤ 600) by omega), (show (g65.toInt = (cin (F 28) ((I 34).toInt).toNat ((I 35).toInt).toNat ((I 36).toInt).toNat 600 : Int)) by omega)⟩, CB.mk ht hP hD⟩, hS.F ht⟩) hS.2.2 dX11_gathers_185
  · skip
    have c140 := i_nle (show (600 : Int32).toInt = 600 by decide) (Eq.refl g64.toInt) c140
    refine lv_aload_n hx hb dX11_gathers_19 rfl (lv_at hl 1 rfl) ?_
    refine lv_iload_n hx hb dX11_gathers_20 rfl (lv_at hl 0 rfl) ?_
    refine cga (rn_V (As := [.int g64]) (rest := []) (b := o) (m_isNumber l D Y Z H.size o a (upd I 32 g65) (vp_updL J 33 g66) F G  g64 ) ⟨hx, hb, hml, hown, hg⟩ lk_X11_409 ⟨CP.blind, va_recv hKN.1 hP (ci := 11) (q0 := 0) rfl rfl, CP.at hP hKN hD⟩ ⟨⟨rfl, rfl⟩, ⟨Nat.le_of_ble_eq_true rfl, Nat.le_of_ble_eq_true rfl⟩, ⟨Nat.le_of_ble_eq_true rfl, Nat.le_of_ble_eq_true rfl⟩⟩ hl.1 rfl (Nat.le_of_ble_eq_true rfl) dX11_gathers_21) hP hD hS hA (fun u142 H locs w143 hP hD hS => ?_)
    have w143 : ((0 ≤ g64.toInt ∧ g64.toInt ≤ 599 ∧ u142.toInt = 1 ∧ ((F 28) g64.toNatClampNeg).toInt ≠ -100000) ∨ (u142.toInt = 0 ∧ (0 ≤ g64.toInt → g64.toInt ≤ 599 → ((F 28) g64.toNatClampNeg).toInt = -100000))) ∧ (0 ≤ u142.toInt ∧ u142.toInt ≤ 1) := w143
    obtain ⟨hw145, hw146⟩ := w143
    refine W.eq (g2 := F0 m 24 ls [.int u142]) rfl ?_
    have hP : va_P D vwCl (MW Y o a (upd I 32 g65) (vp_updL J 33 g66) F G) H := hP
    have hD : va_D A (MW Y o a (upd I 32 g65) (vp_updL J 33 g66) F G) := hD
    rcases (show u142.toInt = 1 ∨ u142.toInt = 0 by omega) with c147 | c147
    · obtain rfl : u142 = 1 := i_is c147 (by decide)
      have zi1 : (1 : Int32).toInt = 1 := by decide
      refine W.eq (g2 := F0 m 24 ls [.int 1]) rfl ?_
      refine lv_if_ne (tgt := 30) hx hb dX11_gathers_24 (by decide) (fun c148 => ?_) (fun c148 => ?_)
      rotate_left
      · exact absurd c148 (by decide)
      refine lv_iload_n hx hb dX11_gathers_30 rfl (lv_at hl 0 rfl) ?_
      refine lv_aload_n hx hb dX11_gathers_31 rfl (lv_at hl 1 rfl) ?_
      refine va_get (D := D) (ci := 11) (v := .int (I 34)) (C := RX11) (T := TX11) (N := 49) hx hb hg inGX11 hown hKN.1 hP 0 rfl rfl 34 (by decide) (hg _ kw_1242) (fun _ h9 => h9) rfl dX11_gathers_32 ?_
      refine lv_aload_n hx hb dX11_gathers_35 rfl (lv_at hl 1 rfl) ?_
      refine va_get (D := D) (ci := 11) (v := .int (I 36)) (C := RX11) (T := TX11) (N := 49) hx hb hg inGX11 hown hKN.1 hP 0 rfl rfl 36 (by decide) (hg _ kw_1244) (fun _ h9 => h9) rfl dX11_gathers_36 ?_
      refine cg0 (rn_S (As := [.int g64, .int (I 34), .int (I 36)]) (rest := []) (m_placeAt l D Y Z H.size   g64 (I 34) (I 36) (show (0 ≤ g64.toInt ∧ g64.toInt ≤ 599) by omega) (show (1 ≤ (I 34).toInt ∧ (I 34).toInt ≤ 400) by omega) (show (0 ≤ (I 36).toInt ∧ (I 36).toInt ≤ 400) by omega) (show ((I 36).toInt ≤ (I 34).toInt) by omega)) ⟨hx, hb, hml, hown, hg⟩ lk_X11_448 ⟨CP.blind, CP.at nilP hKN (nilD (A := fun _ => True))⟩ ⟨⟨rfl, rfl⟩, ⟨Nat.le_of_ble_eq_true rfl, Nat.le_of_ble_eq_true rfl⟩, ⟨Nat.le_of_ble_eq_true rfl, Nat.le_of_ble_eq_true rfl⟩⟩ hl.1 rfl (Nat.le_of_ble_eq_true rfl) dX11_gathers_39) hP hS hA (fun u149 H locs w150 hP hS => ?_)
      have w150 : (u149.toInt = (plc ((I 34).toInt).toNat ((I 36).toInt).toNat (g64.toInt).toNat : Int)) := w150
      have hw152 := w150
      refine W.eq (g2 := F0 m 42 ls [.int u149]) rfl ?_
      refine lv_istore_n (lv' := [(3, .int u149), (2, .int g64), (0, .ref o), (1, .int 4)]) hx hb dX11_gathers_42 rfl hl (by decide) rfl (fun ls hl => ?_)
      refine lv_iload_n hx hb dX11_gathers_43 rfl (lv_at hl 0 rfl) ?_
      refine lv_aload_n hx hb dX11_gathers_44 rfl (lv_at hl 2 rfl) ?_
      refine va_get (D := D) (ci := 11) (v := .int (I 35)) (C := RX11) (T := TX11) (N := 49) hx hb hg inGX11 hown hKN.1 hP 0 rfl rfl 35 (by decide) (hg _ kw_1243) (fun _ h9 => h9) rfl dX11_gathers_45 ?_
      have j153 := rgI u149
      refine lv_icmp_lt (tgt := 54) hx hb dX11_gathers_48 (by decide) (fun c154 => ?_) (fun c154 => ?_)
      · skip
        have c154 := i_lt (Eq.refl u149.toInt) (Eq.refl (I 35).toInt) c154
        refine lv_iload_n hx hb dX11_gathers_54 rfl (lv_at hl 0 rfl) ?_
        refine lv_aload_n hx hb dX11_gathers_55 rfl (lv_at hl 2 rfl) ?_
        refine va_get (D := D) (ci := 11) (v := .int (I 35)) (C := RX11) (T := TX11) (N := 49) hx hb hg inGX11 hown hKN.1 hP 0 rfl rfl 35 (by decide) (hg _ kw_1243) (fun _ h9 => h9) rfl dX11_gathers_56 ?_
        refine lv_iconst (v := 3) hx hb dX11_gathers_59 (by decide) ?_
        have zi3 : (3 : Int32).toInt = 3 := by decide
        refine lv_idiv hx hb dX11_gathers_60 (i_nz (show (3 : Int32).toInt = 3 by decide) (by omega)) ?_
        refine lv_topi (fun v155 ev155 => ?_)
        have hv155 := i_div (Eq.refl (I 35).toInt) (show (3 : Int32).toInt = 3 by decide) ev155 (by omega) (by omega)
        refine lv_icmp_lt (tgt := 85) hx hb dX11_gathers_61 (by decide) (fun c156 => ?_) (fun c156 => ?_)
        · skip
          have c156 := i_lt (Eq.refl u149.toInt) (Eq.refl v155.toInt) c156
          refine lv_iconst (v := 0) hx hb dX11_gathers_85 (by decide) ?_
          refine lv_istore (lv' := [(4, .int 0), (3, .int u149), (2, .int g64), (0, .ref o), (1, .int 4)]) hx hb dX11_gathers_86 hl (by decide) rfl (fun ls hl => ?_)
          refine lv_iload_n hx hb dX11_gathers_88 rfl (lv_at hl 2 rfl) ?_
          refine lv_aload_n hx hb dX11_gathers_89 rfl (lv_at hl 3 rfl) ?_
          refine va_get (D := D) (ci := 11) (v := .int (I 34)) (C := RX11) (T := TX11) (N := 49) hx hb hg inGX11 hown hKN.1 hP 0 rfl rfl 34 (by decide) (hg _ kw_1242) (fun _ h9 => h9) rfl dX11_gathers_90 ?_
          refine lv_aload_n hx hb dX11_gathers_93 rfl (lv_at hl 3 rfl) ?_
          refine va_get (D := D) (ci := 11) (v := .int (I 36)) (C := RX11) (T := TX11) (N := 49) hx hb hg inGX11 hown hKN.1 hP 0 rfl rfl 36 (by decide) (hg _ kw_1244) (fun _ h9 => h9) rfl dX11_gathers_94 ?_
          refine cg0 (rn_S (As := [.int g64, .int (I 34), .int (I 36)]) (rest := []) (m_dipAt l D Y Z H.size   g64 (I 34) (I 36) (show (0 ≤ g64.toInt ∧ g64.toInt ≤ 599) by omega) (show (1 ≤ (I 34).toInt ∧ (I 34).toInt ≤ 400) by omega) (show (0 ≤ (I 36).toInt ∧ (I 36).toInt ≤ 400) by omega)) ⟨hx, hb, hml, hown, hg⟩ lk_X11_415 ⟨CP.blind, CP.at nilP hKN (nilD (A := fun _ => True))⟩ ⟨⟨rfl, rfl⟩, ⟨Nat.le_of_ble_eq_true rfl, Nat.le_of_ble_eq_true rfl⟩, ⟨Nat.le_of_ble_eq_true rfl, Nat.le_of_ble_eq_true rfl⟩⟩ hl.1 rfl (Nat.le_of_ble_eq_true rfl) dX11_gathers_97) hP hS hA (fun u157 H locs w158 hP hS => ?_)
          have w158 : (-1 ≤ u157.toInt ∧ u157.toInt ≤ 599) ∧ ((g64.toInt < (I 36).toInt ∧ u157.toInt = -1) ∨ ((I 36).toInt ≤ g64.toInt ∧ u157.toInt = (g64.toInt - (I 36).toInt) / (I 34).toInt)) := w158
          obtain ⟨hw160, hw161⟩ := w158
          refine W.eq (g2 := F0 m 100 ls [.int u157]) rfl ?_
          refine lv_istore (lv' := [(5, .int u157), (4, .int 0), (3, .int u149), (2, .int g64), (0, .ref o), (1, .int 4)]) hx hb dX11_gathers_100 hl (by decide) rfl (fun ls hl => ?_)
          refine lv_iload_n hx hb dX11_gathers_102 rfl (lv_at hl 5 rfl) ?_
          refine lv_iconst (v := 4) hx hb dX11_gathers_103 (by decide) ?_
          refine lv_icmp_eq (tgt := 138) hx hb dX11_gathers_104 (by decide) (fun c162 => ?_) (fun c162 => ?_)
          rotate_left
          · exact absurd c162 (by decide)
          refine lv_iconst (v := 1) hx hb dX11_gathers_138 (by decide) ?_
          refine lv_goto (tgt := 143) hx hb dX11_gathers_139 (by decide) ?_
          refine lv_istore (lv' := [(6, .int 1), (5, .int u157), (4, .int 0), (3, .int u149), (2, .int g64), (0, .ref o), (1, .int 4)]) hx hb dX11_gathers_143 hl (by decide) rfl (fun ls hl => ?_)
          refine lv_iload hx hb dX11_gathers_145 (lv_at hl 0 rfl) ?_
          refine lv_if_ne (tgt := 153) hx hb dX11_gathers_147 (by decide) (fun c163 => ?_) (fun c163 => ?_)
          rotate_left
          · exact absurd c163 (by decide)
          refine lv_aload_n hx hb dX11_gathers_153 rfl (lv_at hl 5 rfl) ?_
          refine lv_dup hx hb dX11_gathers_154 rfl ?_
          refine va_get (D := D) (ci := 11) (v := .int g65) (C := RX11) (T := TX11) (N := 49) hx hb hg inGX11 hown hKN.1 hP 0 rfl rfl 32 (by decide) (hg _ kw_1240) (fun _ h9 => h9) rfl dX11_gathers_155 ?_
          refine lv_iconst (v := 1) hx hb dX11_gathers_158 (by decide) ?_
          refine lv_iadd hx hb dX11_gathers_159 ?_
          refine lv_topi (fun v164 ev164 => ?_)
          have hv164 := i_add (Eq.refl g65.toInt) (show (1 : Int32).toInt = 1 by decide) ev164 (by omega) (by omega)
          refine va_put (D := D) (ci := 11) (v := .int v164) (ty := .int) (C := RX11) (T := TX11) (N := 49) hx hb hg inGX11 tyX11 tyX11_ok nmX11 hown hKN.1 hP hD hS 0 rfl rfl 32 (by decide) (hg _ kw_1240) (fun _ h9 => h9) rfl (by decide +kernel) rfl rfl (Nat.le_of_ble_eq_true rfl) dX11_gathers_160 (fun H locs hP hD hS => ?_)
          have hP : va_P D vwCl (MW Y o a (upd I 32 v164) (vp_updL J 33 g66) F G) H := hP
          have hD : va_D A (MW Y o a (upd I 32 v164) (vp_updL J 33 g66) F G) := hD
          refine lv_aload_n hx hb dX11_gathers_163 rfl (lv_at hl 5 rfl) ?_
          refine lv_dup hx hb dX11_gathers_164 rfl ?_
          refine va_get (D := D) (ci := 11) (v := .long g66) (C := RX11) (T := TX11) (N := 49) hx hb hg inGX11 hown hKN.1 hP 0 rfl rfl 33 (by decide) (hg _ kw_1241) (fun _ h9 => h9) rfl dX11_gathers_165 ?_
          refine lv_aload_n hx hb dX11_gathers_168 rfl (lv_at hl 5 rfl) ?_
          refine va_get (D := D) (ci := 11) (v := .ref (a 28)) (C := RX11) (T := TX11) (N := 49) hx hb hg inGX11 hown hKN.1 hP 0 rfl rfl 28 (by decide) (hg _ kw_1236) (fun _ h9 => h9) rfl dX11_gathers_169 ?_
          refine lv_iload_n hx hb dX11_gathers_172 rfl (lv_at hl 4 rfl) ?_
          refine va_iald hx hb hKN.1 hP 19 0 rfl rfl (vp_in_iff.mpr ⟨by omega, by omega⟩) dX11_gathers_173 ?_
          refine lv_topi (fun v165 ev165 => ?_)
          have ev165 : v165 = (F 28) g64.toNatClampNeg := ev165
          have qv165 := congrArg Int32.toInt ev165
          have j166 := rgI v165
          have j167 := Int32.toInt_toInt64 v165
          refine lv_i2l (v := v165.toInt64) hx hb dX11_gathers_174 (rfl) ?_
          refine lv_ladd hx hb dX11_gathers_175 ?_
          refine lv_topl (fun v168 ev168 => ?_)
          refine va_put (D := D) (ci := 11) (v := .long v168) (ty := .long) (C := RX11) (T := TX11) (N := 49) hx hb hg inGX11 tyX11 tyX11_ok nmX11 hown hKN.1 hP hD hS 0 rfl rfl 33 (by decide) (hg _ kw_1241) (fun _ h9 => h9) rfl (by decide +kernel) rfl rfl (Nat.le_of_ble_eq_true rfl) dX11_gathers_176 (fun H locs hP hD hS => ?_)
          have hP : va_P D vwCl (MW Y o a (upd I 32 v164) (vp_updL J 33 v168) F G) H := hP
          have hD : va_D A (MW Y o a (upd I 32 v164) (vp_updL J 33 v168) F G) := hD
          obtain ⟨v169, ev169⟩ : ∃ y : Int32, y = g64 + 1 := ⟨_, rfl⟩
          have hv169 := i_add (Eq.refl g64.toInt) (show (1 : Int32).toInt = 1 by decide) ev169 (by omega) (by omega)
          refine lv_iinc (v := v169) (lv' := [(2, .int v169), (6, .int 1), (5, .int u157), (4, .int 0), (3, .int u149), (0, .ref o), (1, .int 4)]) hx hb dX11_gathers_179 hl (k := 4) rfl (by rw [ev169]; rfl) (by decide) rfl (fun ls hl => ?_)
          have t170 := cin_st (F 28) ((I 34).toInt).toNat ((I 35).toInt).toNat ((I 36).toInt).toNat (i := g64) (j := v169.toInt) (by omega) (by omega)
          refine lv_goto (tgt := 12) hx hb dX11_gathers_182 (by decide) ?_
          have zi0 : (0 : Int32).toInt = 0 := by decide
          have zi4 : (4 : Int32).toInt = 4 := by decide
          exact ih139 (v169, v164, v168) H locs ls (by show (600 - v169.toInt).toNat < (600 - g64.toInt).toNat; omega) ⟨hP, hD, hS, lv_sub hl [0, 5, 6] rfl, by omega, by omega, by omega, by omega⟩
        · skip
          have c156 := i_nlt (Eq.refl u149.toInt) (Eq.refl v155.toInt) c156
          refine lv_iload_n hx hb dX11_gathers_64 rfl (lv_at hl 0 rfl) ?_
          refine lv_aload_n hx hb dX11_gathers_65 rfl (lv_at hl 2 rfl) ?_
          refine va_get (D := D) (ci := 11) (v := .int (I 35)) (C := RX11) (T := TX11) (N := 49) hx hb hg inGX11 hown hKN.1 hP 0 rfl rfl 35 (by decide) (hg _ kw_1243) (fun _ h9 => h9) rfl dX11_gathers_66 ?_
          refine lv_iconst (v := 1) hx hb dX11_gathers_69 (by decide) ?_
          refine lv_isub hx hb dX11_gathers_70 ?_
          refine lv_topi (fun v171 ev171 => ?_)
          have hv171 := i_sub (Eq.refl (I 35).toInt) (show (1 : Int32).toInt = 1 by decide) ev171 (by omega) (by omega)
          refine lv_aload_n hx hb dX11_gathers_71 rfl (lv_at hl 2 rfl) ?_
          refine va_get (D := D) (ci := 11) (v := .int (I 35)) (C := RX11) (T := TX11) (N := 49) hx hb hg inGX11 hown hKN.1 hP 0 rfl rfl 35 (by decide) (hg _ kw_1243) (fun _ h9 => h9) rfl dX11_gathers_72 ?_
          refine lv_iconst (v := 3) hx hb dX11_gathers_75 (by decide) ?_
          refine lv_idiv hx hb dX11_gathers_76 (i_nz (show (3 : Int32).toInt = 3 by decide) (by omega)) ?_
          refine lv_topi (fun v172 ev172 => ?_)
          have hv172 := i_div (Eq.refl (I 35).toInt) (show (3 : Int32).toInt = 3 by decide) ev172 (by omega) (by omega)
          refine lv_isub hx hb dX11_gathers_77 ?_
          refine lv_topi (fun v173 ev173 => ?_)
          have hv173 := i_sub (Eq.refl v171.toInt) (Eq.refl v172.toInt) ev173 (by omega) (by omega)
          refine lv_icmp_gt (tgt := 85) hx hb dX11_gathers_78 (by decide) (fun c174 => ?_) (fun c174 => ?_)
          · skip
            have c174 := i_lt (Eq.refl v173.toInt) (Eq.refl u149.toInt) c174
            refine lv_iconst (v := 0) hx hb dX11_gathers_85 (by decide) ?_
            refine lv_istore (lv' := [(4, .int 0), (3, .int u149), (2, .int g64), (0, .ref o), (1, .int 4)]) hx hb dX11_gathers_86 hl (by decide) rfl (fun ls hl => ?_)
            refine lv_iload_n hx hb dX11_gathers_88 rfl (lv_at hl 2 rfl) ?_
            refine lv_aload_n hx hb dX11_gathers_89 rfl (lv_at hl 3 rfl) ?_
            refine va_get (D := D) (ci := 11) (v := .int (I 34)) (C := RX11) (T := TX11) (N := 49) hx hb hg inGX11 hown hKN.1 hP 0 rfl rfl 34 (by decide) (hg _ kw_1242) (fun _ h9 => h9) rfl dX11_gathers_90 ?_
            refine lv_aload_n hx hb dX11_gathers_93 rfl (lv_at hl 3 rfl) ?_
            refine va_get (D := D) (ci := 11) (v := .int (I 36)) (C := RX11) (T := TX11) (N := 49) hx hb hg inGX11 hown hKN.1 hP 0 rfl rfl 36 (by decide) (hg _ kw_1244) (fun _ h9 => h9) rfl dX11_gathers_94 ?_
            refine cg0 (rn_S (As := [.int g64, .int (I 34), .int (I 36)]) (rest := []) (m_dipAt l D Y Z H.size   g64 (I 34) (I 36) (show (0 ≤ g64.toInt ∧ g64.toInt ≤ 599) by omega) (show (1 ≤ (I 34).toInt ∧ (I 34).toInt ≤ 400) by omega) (show (0 ≤ (I 36).toInt ∧ (I 36).toInt ≤ 400) by omega)) ⟨hx, hb, hml, hown, hg⟩ lk_X11_415 ⟨CP.blind, CP.at nilP hKN (nilD (A := fun _ => True))⟩ ⟨⟨rfl, rfl⟩, ⟨Nat.le_of_ble_eq_true rfl, Nat.le_of_ble_eq_true rfl⟩, ⟨Nat.le_of_ble_eq_true rfl, Nat.le_of_ble_eq_true rfl⟩⟩ hl.1 rfl (Nat.le_of_ble_eq_true rfl) dX11_gathers_97) hP hS hA (fun u175 H locs w176 hP hS => ?_)
            have w176 : (-1 ≤ u175.toInt ∧ u175.toInt ≤ 599) ∧ ((g64.toInt < (I 36).toInt ∧ u175.toInt = -1) ∨ ((I 36).toInt ≤ g64.toInt ∧ u175.toInt = (g64.toInt - (I 36).toInt) / (I 34).toInt)) := w176
            obtain ⟨hw178, hw179⟩ := w176
            refine W.eq (g2 := F0 m 100 ls [.int u175]) rfl ?_
            refine lv_istore (lv' := [(5, .int u175), (4, .int 0), (3, .int u149), (2, .int g64), (0, .ref o), (1, .int 4)]) hx hb dX11_gathers_100 hl (by decide) rfl (fun ls hl => ?_)
            refine lv_iload_n hx hb dX11_gathers_102 rfl (lv_at hl 5 rfl) ?_
            refine lv_iconst (v := 4) hx hb dX11_gathers_103 (by decide) ?_
            refine lv_icmp_eq (tgt := 138) hx hb dX11_gathers_104 (by decide) (fun c180 => ?_) (fun c180 => ?_)
            rotate_left
            · exact absurd c180 (by decide)
            refine lv_iconst (v := 1) hx hb dX11_gathers_138 (by decide) ?_
            refine lv_goto (tgt := 143) hx hb dX11_gathers_139 (by decide) ?_
            refine lv_istore (lv' := [(6, .int 1), (5, .int u175), (4, .int 0), (3, .int u149), (2, .int g64), (0, .ref o), (1, .int 4)]) hx hb dX11_gathers_143 hl (by decide) rfl (fun ls hl => ?_)
            refine lv_iload hx hb dX11_gathers_145 (lv_at hl 0 rfl) ?_
            refine lv_if_ne (tgt := 153) hx hb dX11_gathers_147 (by decide) (fun c181 => ?_) (fun c181 => ?_)
            rotate_left
            · exact absurd c181 (by decide)
            refine lv_aload_n hx hb dX11_gathers_153 rfl (lv_at hl 5 rfl) ?_
            refine lv_dup hx hb dX11_gathers_154 rfl ?_
            refine va_get (D := D) (ci := 11) (v := .int g65) (C := RX11) (T := TX11) (N := 49) hx hb hg inGX11 hown hKN.1 hP 0 rfl rfl 32 (by decide) (hg _ kw_1240) (fun _ h9 => h9) rfl dX11_gathers_155 ?_
            refine lv_iconst (v := 1) hx hb dX11_gathers_158 (by decide) ?_
            refine lv_iadd hx hb dX11_gathers_159 ?_
            refine lv_topi (fun v182 ev182 => ?_)
            have hv182 := i_add (Eq.refl g65.toInt) (show (1 : Int32).toInt = 1 by decide) ev182 (by omega) (by omega)
            refine va_put (D := D) (ci := 11) (v := .int v182) (ty := .int) (C := RX11) (T := TX11) (N := 49) hx hb hg inGX11 tyX11 tyX11_ok nmX11 hown hKN.1 hP hD hS 0 rfl rfl 32 (by decide) (hg _ kw_1240) (fun _ h9 => h9) rfl (by decide +kernel) rfl rfl (Nat.le_of_ble_eq_true rfl) dX11_gathers_160 (fun H locs hP hD hS => ?_)
            have hP : va_P D vwCl (MW Y o a (upd I 32 v182) (vp_updL J 33 g66) F G) H := hP
            have hD : va_D A (MW Y o a (upd I 32 v182) (vp_updL J 33 g66) F G) := hD
            refine lv_aload_n hx hb dX11_gathers_163 rfl (lv_at hl 5 rfl) ?_
            refine lv_dup hx hb dX11_gathers_164 rfl ?_
            refine va_get (D := D) (ci := 11) (v := .long g66) (C := RX11) (T := TX11) (N := 49) hx hb hg inGX11 hown hKN.1 hP 0 rfl rfl 33 (by decide) (hg _ kw_1241) (fun _ h9 => h9) rfl dX11_gathers_165 ?_
            refine lv_aload_n hx hb dX11_gathers_168 rfl (lv_at hl 5 rfl) ?_
            refine va_get (D := D) (ci := 11) (v := .ref (a 28)) (C := RX11) (T := TX11) (N := 49) hx hb hg inGX11 hown hKN.1 hP 0 rfl rfl 28 (by decide) (hg _ kw_1236) (fun _ h9 => h9) rfl dX11_gathers_169 ?_
            refine lv_iload_n hx hb dX11_gathers_172 rfl (lv_at hl 4 rfl) ?_
            refine va_iald hx hb hKN.1 hP 19 0 rfl rfl (vp_in_iff.mpr ⟨by omega, by omega⟩) dX11_gathers_173 ?_
            refine lv_topi (fun v183 ev183 => ?_)
            have ev183 : v183 = (F 28) g64.toNatClampNeg := ev183
            have qv183 := congrArg Int32.toInt ev183
            have j184 := rgI v183
            have j185 := Int32.toInt_toInt64 v183
            refine lv_i2l (v := v183.toInt64) hx hb dX11_gathers_174 (rfl) ?_
            refine lv_ladd hx hb dX11_gathers_175 ?_
            refine lv_topl (fun v186 ev186 => ?_)
            refine va_put (D := D) (ci := 11) (v := .long v186) (ty := .long) (C := RX11) (T := TX11) (N := 49) hx hb hg inGX11 tyX11 tyX11_ok nmX11 hown hKN.1 hP hD hS 0 rfl rfl 33 (by decide) (hg _ kw_1241) (fun _ h9 => h9) rfl (by decide +kernel) rfl rfl (Nat.le_of_ble_eq_true rfl) dX11_gathers_176 (fun H locs hP hD hS => ?_)
            have hP : va_P D vwCl (MW Y o a (upd I 32 v182) (vp_updL J 33 v186) F G) H := hP
            have hD : va_D A (MW Y o a (upd I 32 v182) (vp_updL J 33 v186) F G) := hD
            obtain ⟨v187, ev187⟩ : ∃ y : Int32, y = g64 + 1 := ⟨_, rfl⟩
            have hv187 := i_add (Eq.refl g64.toInt) (show (1 : Int32).toInt = 1 by decide) ev187 (by omega) (by omega)
            refine lv_iinc (v := v187) (lv' := [(2, .int v187), (6, .int 1), (5, .int u175), (4, .int 0), (3, .int u149), (0, .ref o), (1, .int 4)]) hx hb dX11_gathers_179 hl (k := 4) rfl (by rw [ev187]; rfl) (by decide) rfl (fun ls hl => ?_)
            have t188 := cin_st (F 28) ((I 34).toInt).toNat ((I 35).toInt).toNat ((I 36).toInt).toNat (i := g64) (j := v187.toInt) (by omega) (by omega)
            refine lv_goto (tgt := 12) hx hb dX11_gathers_182 (by decide) ?_
            have zi0 : (0 : Int32).toInt = 0 := by decide
            have zi4 : (4 : Int32).toInt = 4 := by decide
            exact ih139 (v187, v182, v186) H locs ls (by show (600 - v187.toInt).toNat < (600 - g64.toInt).toNat; omega) ⟨hP, hD, hS, lv_sub hl [0, 5, 6] rfl, by omega, by omega, by omega, by omega⟩
          · skip
            have c174 := i_nlt (Eq.refl v173.toInt) (Eq.refl u149.toInt) c174
            refine lv_iconst (v := 1) hx hb dX11_gathers_81 (by decide) ?_
            refine lv_goto (tgt := 86) hx hb dX11_gathers_82 (by decide) ?_
            refine lv_istore (lv' := [(4, .int 1), (3, .int u149), (2, .int g64), (0, .ref o), (1, .int 4)]) hx hb dX11_gathers_86 hl (by decide) rfl (fun ls hl => ?_)
            refine lv_iload_n hx hb dX11_gathers_88 rfl (lv_at hl 2 rfl) ?_
            refine lv_aload_n hx hb dX11_gathers_89 rfl (lv_at hl 3 rfl) ?_
            refine va_get (D := D) (ci := 11) (v := .int (I 34)) (C := RX11) (T := TX11) (N := 49) hx hb hg inGX11 hown hKN.1 hP 0 rfl rfl 34 (by decide) (hg _ kw_1242) (fun _ h9 => h9) rfl dX11_gathers_90 ?_
            refine lv_aload_n hx hb dX11_gathers_93 rfl (lv_at hl 3 rfl) ?_
            refine va_get (D := D) (ci := 11) (v := .int (I 36)) (C := RX11) (T := TX11) (N := 49) hx hb hg inGX11 hown hKN.1 hP 0 rfl rfl 36 (by decide) (hg _ kw_1244) (fun _ h9 => h9) rfl dX11_gathers_94 ?_
            refine cg0 (rn_S (As := [.int g64, .int (I 34), .int (I 36)]) (rest := []) (m_dipAt l D Y Z H.size   g64 (I 34) (I 36) (show (0 ≤ g64.toInt ∧ g64.toInt ≤ 599) by omega) (show (1 ≤ (I 34).toInt ∧ (I 34).toInt ≤ 400) by omega) (show (0 ≤ (I 36).toInt ∧ (I 36).toInt ≤ 400) by omega)) ⟨hx, hb, hml, hown, hg⟩ lk_X11_415 ⟨CP.blind, CP.at nilP hKN (nilD (A := fun _ => True))⟩ ⟨⟨rfl, rfl⟩, ⟨Nat.le_of_ble_eq_true rfl, Nat.le_of_ble_eq_true rfl⟩, ⟨Nat.le_of_ble_eq_true rfl, Nat.le_of_ble_eq_true rfl⟩⟩ hl.1 rfl (Nat.le_of_ble_eq_true rfl) dX11_gathers_97) hP hS hA (fun u189 H locs w190 hP hS => ?_)
            have w190 : (-1 ≤ u189.toInt ∧ u189.toInt ≤ 599) ∧ ((g64.toInt < (I 36).toInt ∧ u189.toInt = -1) ∨ ((I 36).toInt ≤ g64.toInt ∧ u189.toInt = (g64.toInt - (I 36).toInt) / (I 34).toInt)) := w190
            obtain ⟨hw192, hw193⟩ := w190
            refine W.eq (g2 := F0 m 100 ls [.int u189]) rfl ?_
            refine lv_istore (lv' := [(5, .int u189), (4, .int 1), (3, .int u149), (2, .int g64), (0, .ref o), (1, .int 4)]) hx hb dX11_gathers_100 hl (by decide) rfl (fun ls hl => ?_)
            refine lv_iload_n hx hb dX11_gathers_102 rfl (lv_at hl 5 rfl) ?_
            refine lv_iconst (v := 4) hx hb dX11_gathers_103 (by decide) ?_
            refine lv_icmp_eq (tgt := 138) hx hb dX11_gathers_104 (by decide) (fun c194 => ?_) (fun c194 => ?_)
            rotate_left
            · exact absurd c194 (by decide)
            refine lv_iconst (v := 1) hx hb dX11_gathers_138 (by decide) ?_
            refine lv_goto (tgt := 143) hx hb dX11_gathers_139 (by decide) ?_
            refine lv_istore (lv' := [(6, .int 1), (5, .int u189), (4, .int 1), (3, .int u149), (2, .int g64), (0, .ref o), (1, .int 4)]) hx hb dX11_gathers_143 hl (by decide) rfl (fun ls hl => ?_)
            refine lv_iload hx hb dX11_gathers_145 (lv_at hl 0 rfl) ?_
            refine lv_if_ne (tgt := 153) hx hb dX11_gathers_147 (by decide) (fun c195 => ?_) (fun c195 => ?_)
            rotate_left
            · exact absurd c195 (by decide)
            refine lv_aload_n hx hb dX11_gathers_153 rfl (lv_at hl 5 rfl) ?_
            refine lv_dup hx hb dX11_gathers_154 rfl ?_
            refine va_get (D := D) (ci := 11) (v := .int g65) (C := RX11) (T := TX11) (N := 49) hx hb hg inGX11 hown hKN.1 hP 0 rfl rfl 32 (by decide) (hg _ kw_1240) (fun _ h9 => h9) rfl dX11_gathers_155 ?_
            refine lv_iconst (v := 1) hx hb dX11_gathers_158 (by decide) ?_
            refine lv_iadd hx hb dX11_gathers_159 ?_
            refine lv_topi (fun v196 ev196 => ?_)
            have hv196 := i_add (Eq.refl g65.toInt) (show (1 : Int32).toInt = 1 by decide) ev196 (by omega) (by omega)
            refine va_put (D := D) (ci := 11) (v := .int v196) (ty := .int) (C := RX11) (T := TX11) (N := 49) hx hb hg inGX11 tyX11 tyX11_ok nmX11 hown hKN.1 hP hD hS 0 rfl rfl 32 (by decide) (hg _ kw_1240) (fun _ h9 => h9) rfl (by decide +kernel) rfl rfl (Nat.le_of_ble_eq_true rfl) dX11_gathers_160 (fun H locs hP hD hS => ?_)
            have hP : va_P D vwCl (MW Y o a (upd I 32 v196) (vp_updL J 33 g66) F G) H := hP
            have hD : va_D A (MW Y o a (upd I 32 v196) (vp_updL J 33 g66) F G) := hD
            refine lv_aload_n hx hb dX11_gathers_163 rfl (lv_at hl 5 rfl) ?_
            refine lv_dup hx hb dX11_gathers_164 rfl ?_
            refine va_get (D := D) (ci := 11) (v := .long g66) (C := RX11) (T := TX11) (N := 49) hx hb hg inGX11 hown hKN.1 hP 0 rfl rfl 33 (by decide) (hg _ kw_1241) (fun _ h9 => h9) rfl dX11_gathers_165 ?_
            refine lv_aload_n hx hb dX11_gathers_168 rfl (lv_at hl 5 rfl) ?_
            refine va_get (D := D) (ci := 11) (v := .ref (a 28)) (C := RX11) (T := TX11) (N := 49) hx hb hg inGX11 hown hKN.1 hP 0 rfl rfl 28 (by decide) (hg _ kw_1236) (fun _ h9 => h9) rfl dX11_gathers_169 ?_
            refine lv_iload_n hx hb dX11_gathers_172 rfl (lv_at hl 4 rfl) ?_
            refine va_iald hx hb hKN.1 hP 19 0 rfl rfl (vp_in_iff.mpr ⟨by omega, by omega⟩) dX11_gathers_173 ?_
            refine lv_topi (fun v197 ev197 => ?_)
            have ev197 : v197 = (F 28) g64.toNatClampNeg := ev197
            have qv197 := congrArg Int32.toInt ev197
            have j198 := rgI v197
            have j199 := Int32.toInt_toInt64 v197
            refine lv_i2l (v := v197.toInt64) hx hb dX11_gathers_174 (rfl) ?_
            refine lv_ladd hx hb dX11_gathers_175 ?_
            refine lv_topl (fun v200 ev200 => ?_)
            refine va_put (D := D) (ci := 11) (v := .long v200) (ty := .long) (C := RX11) (T := TX11) (N := 49) hx hb hg inGX11 tyX11 tyX11_ok nmX11 hown hKN.1 hP hD hS 0 rfl rfl 33 (by decide) (hg _ kw_1241) (fun _ h9 => h9) rfl (by decide +kernel) rfl rfl (Nat.le_of_ble_eq_true rfl) dX11_gathers_176 (fun H locs hP hD hS => ?_)
            have hP : va_P D vwCl (MW Y o a (upd I 32 v196) (vp_updL J 33 v200) F G) H := hP
            have hD : va_D A (MW Y o a (upd I 32 v196) (vp_updL J 33 v200) F G) := hD
            obtain ⟨v201, ev201⟩ : ∃ y : Int32, y = g64 + 1 := ⟨_, rfl⟩
            have hv201 := i_add (Eq.refl g64.toInt) (show (1 : Int32).toInt = 1 by decide) ev201 (by omega) (by omega)
            refine lv_iinc (v := v201) (lv' := [(2, .int v201), (6, .int 1), (5, .int u189), (4, .int 1), (3, .int u149), (0, .ref o), (1, .int 4)]) hx hb dX11_gathers_179 hl (k := 4) rfl (by rw [ev201]; rfl) (by decide) rfl (fun ls hl => ?_)
            have t202 := cin_st (F 28) ((I 34).toInt).toNat ((I 35).toInt).toNat ((I 36).toInt).toNat (i := g64) (j := v201.toInt) (by omega) (by omega)
            refine lv_goto (tgt := 12) hx hb dX11_gathers_182 (by decide) ?_
            have zi4 : (4 : Int32).toInt = 4 := by decide
            exact ih139 (v201, v196, v200) H locs ls (by show (600 - v201.toInt).toNat < (600 - g64.toInt).toNat; omega) ⟨hP, hD, hS, lv_sub hl [0, 5, 6] rfl, by omega, by omega, by omega, by omega⟩
      · skip
        have c154 := i_nlt (Eq.refl u149.toInt) (Eq.refl (I 35).toInt) c154
        refine lv_goto (tgt := 179) hx hb dX11_gathers_51 (by decide) ?_
        obtain ⟨v203, ev203⟩ : ∃ y : Int32, y = g64 + 1 := ⟨_, rfl⟩
        have hv203 := i_add (Eq.refl g64.toInt) (show (1 : Int32).toInt = 1 by decide) ev203 (by omega) (by omega)
        refine lv_iinc (v := v203) (lv' := [(2, .int v203), (3, .int u149), (0, .ref o), (1, .int 4)]) hx hb dX11_gathers_179 hl (k := 1) rfl (by rw [ev203]; rfl) (by decide) rfl (fun ls hl => ?_)
        have t204 := cin_st (F 28) ((I 34).toInt).toNat ((I 35).toInt).toNat ((I 36).toInt).toNat (i := g64) (j := v203.toInt) (by omega) (by omega)
        refine lv_goto (tgt := 12) hx hb dX11_gathers_182 (by decide) ?_
        have zi4 : (4 : Int32).toInt = 4 := by decide
        exact ih139 (v203, g65, g66) H locs ls (by show (600 - v203.toInt).toNat < (600 - g64.toInt).toNat; omega) ⟨hP, hD, hS, lv_sub hl [0, 2, 3] rfl, by omega, by omega, by omega, by omega⟩
    · obtain rfl : u142 = 0 := i_is c147 (by decide)
      have zi0 : (0 : Int32).toInt = 0 := by decide
      refine W.eq (g2 := F0 m 24 ls [.int 0]) rfl ?_
      refine lv_if_ne (tgt := 30) hx hb dX11_gathers_24 (by decide) (fun c205 => ?_) (fun c205 => ?_)
      · exact absurd c205 (by decide)
      refine lv_goto (tgt := 179) hx hb dX11_gathers_27 (by decide) ?_
      obtain ⟨v206, ev206⟩ : ∃ y : Int32, y = g64 + 1 := ⟨_, rfl⟩
      have hv206 := i_add (Eq.refl g64.toInt) (show (1 : Int32).toInt = 1 by decide) ev206 (by omega) (by omega)
      refine lv_iinc (v := v206) (lv' := [(2, .int v206), (0, .ref o), (1, .int 4)]) hx hb dX11_gathers_179 hl (k := 0) rfl (by rw [ev206]; rfl) (by decide) rfl (fun ls hl => ?_)
      have t207 := cin_st (F 28) ((I 34).toInt).toNat ((I 35).toInt).toNat ((I 36).toInt).toNat (i := g64) (j := v206.toInt) (by omega) (by omega)
      refine lv_goto (tgt := 12) hx hb dX11_gathers_182 (by decide) ?_
      have zi4 : (4 : Int32).toInt = 4 := by decide
      exact ih139 (v206, g65, g66) H locs ls (by show (600 - v206.toInt).toNat < (600 - g64.toInt).toNat; omega) ⟨hP, hD, hS, lv_sub hl [0, 1, 2] rfl, by omega, by omega, by omega, by omega⟩
set_option maxHeartbeats 4000000 in
set_option maxRecDepth 100000 in
theorem m_gathers (l : Launch) (D : va_G) (Y : Nat → ClassId) (Z : Nat → Nat) (sz : Nat) (o : Nat) (a : Nat → Nat) (I : Nat → Int32) (J : Nat → Int64) (F : Nat → Nat → Int32) (G : Nat → Nat → Int64) (p1 : Int32) (hk_0 : (2 ≤ (I 34).toInt ∧ (I 34).toInt ≤ 200)) (hk_1 : (1 ≤ (I 35).toInt ∧ (I 35).toInt ≤ 10)) (hk_2 : (0 ≤ (I 36).toInt ∧ (I 36).toInt ≤ 199)) (hk_3 : ((I 36).toInt < (I 34).toInt)) : Met l yX11_gathers (.code yX11_gathers cX11_gathers 7 none :: GW) ({ frames := 2, cells := 0, slots := 0, locals := 44 }) (va_Pc [.ref o, .int p1] (CP D Y Z (MW Y o a I J F G) sz)) (QG (S := Int32 × Int64) (fun _ => none) (fun u => True) (fun u => CB D (MW Y o a (upd I 32 u.1) (vp_updL J 33 u.2) F G) (va_A (MW Y o a I J F G) sz)) (va_A (MW Y o a I J F G) sz)) 0 0 (va_A (MW Y o a I J F G) sz) := by
  refine Met.ofW (cc := cX11_gathers) (maxL := 7) (ret := none) (by decide) rfl ?_
  intro p e s m args below meth c s₁ B hml hv
  obtain ⟨rfl, hsz, hP, hKN, hD0⟩ := hv
  have hx := B.exec
  have hb := B.bytes
  have hr := B.returns
  have hts := atoms_spec (ws := .code yX11_gathers cX11_gathers 7 none :: GW) B.pre
  have hg : ∀ w ∈ GW, w.before _ s = true := fun w h => hts w (List.mem_cons_of_mem _ h)
  have hown : s.vm.findClass RX11 = some m.cls := findClass_of_methodNamed B.named
  have hlocks := B.notSynchronized
  subst hsz
  have hD := hD0.self (sz := s.heap.size)
  generalize hAe : va_A (MW Y o a I J F G) s.heap.size = A at hD ⊢
  have hA : ∀ q : Nat, s.heap.size ≤ q → A q := fun q h => by rw [← hAe]; exact Or.inr h
  clear hAe hD0 hts B
  have hl := lv_entry ([.ref o, .int p1]) (n := 7) (Nat.le_of_ble_eq_true rfl)
  rw [lg_entry_eq]
  generalize (lg_sl ([.ref o, .int p1]) ++ List.replicate (7 - (lg_sl ([.ref o, .int p1])).length) Slot.unset).toArray = ls at hl ⊢
  have hl : lv_has ls 7 [(0, .ref o), (1, .int p1)] := hl
  refine w_start (A0 := A) hP (fun H locs hP hS => ?_)
  refine lv_aload_n hx hb dX11_gathers_0 rfl (lv_at hl 0 rfl) ?_
  refine lv_iconst (v := 0) hx hb dX11_gathers_1 (by decide) ?_
  refine va_put (D := D) (ci := 11) (v := .int 0) (ty := .int) (C := RX11) (T := TX11) (N := 49) hx hb hg inGX11 tyX11 tyX11_ok nmX11 hown hKN.1 hP hD hS 0 rfl rfl 32 (by decide) (hg _ kw_1240) (fun _ h9 => h9) rfl (by decide +kernel) rfl rfl (Nat.le_of_ble_eq_true rfl) dX11_gathers_2 (fun H locs hP hD hS => ?_)
  have hP : va_P D vwCl (MW Y o a (upd I 32 0) J F G) H := hP
  have hD : va_D A (MW Y o a (upd I 32 0) J F G) := hD
  refine lv_aload_n hx hb dX11_gathers_5 rfl (lv_at hl 0 rfl) ?_
  refine lv_lconst (v := 0) hx hb dX11_gathers_6 (by decide) ?_
  refine va_put (D := D) (ci := 11) (v := .long 0) (ty := .long) (C := RX11) (T := TX11) (N := 49) hx hb hg inGX11 tyX11 tyX11_ok nmX11 hown hKN.1 hP hD hS 0 rfl rfl 33 (by decide) (hg _ kw_1241) (fun _ h9 => h9) rfl (by decide +kernel) rfl rfl (Nat.le_of_ble_eq_true rfl) dX11_gathers_7 (fun H locs hP hD hS => ?_)
  have hP : va_P D vwCl (MW Y o a (upd I 32 0) (vp_updL J 33 0) F G) H := hP
  have hD : va_D A (MW Y o a (upd I 32 0) (vp_updL J 33 0) F G) := hD
  refine lv_iconst (v := 0) hx hb dX11_gathers_10 (by decide) ?_
  refine lv_istore_n (lv' := [(2, .int 0), (0, .ref o), (1, .int p1)]) hx hb dX11_gathers_11 rfl hl (by decide) rfl (fun ls hl => ?_)
  have zi0 : (0 : Int32).toInt = 0 := by decide
  have zl0 : (0 : Int64).toInt = 0 := by decide
  refine w_loop (σ := Int32 × Int32 × Int64) (fun xx H locs ls => match xx with | (g743, g744, g745) => va_P D vwCl (MW Y o a (upd I 32 g744) (vp_updL J 33 g745) F G) H ∧ va_D A (MW Y o a (upd I 32 g744) (vp_updL J 33 g745) F G) ∧ va_S A s.heap H locs ∧ lv_has ls 7 [(2, .int g743), (0, .ref o), (1, .int p1)] ∧ (0 ≤ g743.toInt ∧ g743.toInt ≤ 600)) (fun xx => match xx with | (g743, g744, g745) => (600 - g743.toInt).toNat) (0, 0, 0) ⟨hP, hD, hS, lv_sub hl [0, 1, 2] rfl, by omega⟩ (fun xx H locs ls hI ih => ?_)
  obtain ⟨g743, g744, g745⟩ := xx
  obtain ⟨hP, hD, hS, hl, hq1488⟩ := hI
  have ih1489 := ih
  refine lv_iload_n hx hb dX11_gathers_12 rfl (lv_at hl 0 rfl) ?_
  refine lv_sipush (v := 600) hx hb dX11_gathers_13 (by decide) ?_
  refine lv_icmp_ge (tgt := 185) hx hb dX11_gathers_16 (by decide) (fun c1861 => ?_) (fun c1861 => ?_)
  · skip
    have c1861 := i_le (show (600 : Int32).toInt = 600 by decide) (Eq.refl g743.toInt) c1861
    refine W.widen (k := 0) (n := 0) (Nat.le_of_ble_eq_true rfl) (Nat.le_of_ble_eq_true rfl) ?_
    exact W.vret hx hb hr (fun t ht hW => ⟨⟨(g744, g745), rfl, trivial, CB.mk ht hP hD⟩, hS.F ht⟩) hS.2.2 dX11_gathers_185
  · skip
    have c1861 := i_nle (show (600 : Int32).toInt = 600 by decide) (Eq.refl g743.toInt) c1861
    refine lv_aload_n hx hb dX11_gathers_19 rfl (lv_at hl 1 rfl) ?_
    refine lv_iload_n hx hb dX11_gathers_20 rfl (lv_at hl 0 rfl) ?_
    refine cga (rn_V (As := [.int g743]) (rest := []) (b := o) (m_isNumber l D Y Z H.size o a (upd I 32 g744) (vp_updL J 33 g745) F G  g743 ) ⟨hx, hb, hml, hown, hg⟩ lk_X11_409 ⟨CP.blind, va_recv hKN.1 hP (ci := 11) (q0 := 0) rfl rfl, CP.at hP hKN hD⟩ ⟨⟨rfl, rfl⟩, ⟨Nat.le_of_ble_eq_true rfl, Nat.le_of_ble_eq_true rfl⟩, ⟨Nat.le_of_ble_eq_true rfl, Nat.le_of_ble_eq_true rfl⟩⟩ hl.1 rfl (Nat.le_of_ble_eq_true rfl) dX11_gathers_21) hP hD hS hA (fun u1862 H locs w1863 hP hD hS => ?_)
    have w1863 : ((0 ≤ g743.toInt ∧ g743.toInt ≤ 599 ∧ u1862.toInt = 1 ∧ ((F 28) g743.toNatClampNeg).toInt ≠ -100000) ∨ (u1862.toInt = 0 ∧ (0 ≤ g743.toInt → g743.toInt ≤ 599 → ((F 28) g743.toNatClampNeg).toInt = -100000))) ∧ (0 ≤ u1862.toInt ∧ u1862.toInt ≤ 1) := w1863
    obtain ⟨hw1865, hw1866⟩ := w1863
    refine W.eq (g2 := F0 m 24 ls [.int u1862]) rfl ?_
    have hP : va_P D vwCl (MW Y o a (upd I 32 g744) (vp_updL J 33 g745) F G) H := hP
    have hD : va_D A (MW Y o a (upd I 32 g744) (vp_updL J 33 g745) F G) := hD
    rcases (show u1862.toInt = 1 ∨ u1862.toInt = 0 by omega) with c1867 | c1867
    · obtain rfl : u1862 = 1 := i_is c1867 (by decide)
      have zi1 : (1 : Int32).toInt = 1 := by decide
      refine W.eq (g2 := F0 m 24 ls [.int 1]) rfl ?_
      refine w_join (σ := Int32 × Int32 × Int64) (pcJ := 179) (kJ := 0) (nJ := 0) (stk := fun xx => match xx with | (g2046, g2047, g2048) => []) (fun xx H locs ls => match xx with | (g2046, g2047, g2048) => va_P D vwCl (MW Y o a (upd I 32 g2047) (vp_updL J 33 g2048) F G) H ∧ va_D A (MW Y o a (upd I 32 g2047) (vp_updL J 33 g2048) F G) ∧ va_S A s.heap H locs ∧ lv_has ls 7 [(3, .int g2046), (2, .int g743), (0, .ref o), (1, .int p1)]) (fun xx H locs ls hI => ?_) (fun jn2049 => ?_)
      · skip
        obtain ⟨g2046, g2047, g2048⟩ := xx
        obtain ⟨hP, hD, hS, hl⟩ := hI
        refine W.eq (g2 := F0 m 179 ls []) rfl ?_
        obtain ⟨v2050, ev2050⟩ : ∃ y : Int32, y = g743 + 1 := ⟨_, rfl⟩
        have hv2050 := i_add (Eq.refl g743.toInt) (show (1 : Int32).toInt = 1 by decide) ev2050 (by omega) (by omega)
        refine lv_iinc (v := v2050) (lv' := [(2, .int v2050), (3, .int g2046), (0, .ref o), (1, .int p1)]) hx hb dX11_gathers_179 hl (k := 1) rfl (by rw [ev2050]; rfl) (by decide) rfl (fun ls hl => ?_)
        refine lv_goto (tgt := 12) hx hb dX11_gathers_182 (by decide) ?_
        exact ih1489 (v2050, g2047, g2048) H locs ls (by show (600 - v2050.toInt).toNat < (600 - g743.toInt).toNat; omega) ⟨hP, hD, hS, lv_sub hl [0, 2, 3] rfl, by omega⟩
      · skip
        refine lv_if_ne (tgt := 30) hx hb dX11_gathers_24 (by decide) (fun c2051 => ?_) (fun c2051 => ?_)
        rotate_left
        · exact absurd c2051 (by decide)
        refine lv_iload_n hx hb dX11_gathers_30 rfl (lv_at hl 0 rfl) ?_
        refine lv_aload_n hx hb dX11_gathers_31 rfl (lv_at hl 1 rfl) ?_
        refine va_get (D := D) (ci := 11) (v := .int (I 34)) (C := RX11) (T := TX11) (N := 49) hx hb hg inGX11 hown hKN.1 hP 0 rfl rfl 34 (by decide) (hg _ kw_1242) (fun _ h9 => h9) rfl dX11_gathers_32 ?_
        refine lv_aload_n hx hb dX11_gathers_35 rfl (lv_at hl 1 rfl) ?_
        refine va_get (D := D) (ci := 11) (v := .int (I 36)) (C := RX11) (T := TX11) (N := 49) hx hb hg inGX11 hown hKN.1 hP 0 rfl rfl 36 (by decide) (hg _ kw_1244) (fun _ h9 => h9) rfl dX11_gathers_36 ?_
        refine cg0 (rn_S (As := [.int g743, .int (I 34), .int (I 36)]) (rest := []) (m_placeAt l D Y Z H.size   g743 (I 34) (I 36) (show (0 ≤ g743.toInt ∧ g743.toInt ≤ 599) by omega) (show (1 ≤ (I 34).toInt ∧ (I 34).toInt ≤ 400) by omega) (show (0 ≤ (I 36).toInt ∧ (I 36).toInt ≤ 400) by omega) (show ((I 36).toInt ≤ (I 34).toInt) by omega)) ⟨hx, hb, hml, hown, hg⟩ lk_X11_448 ⟨CP.blind, CP.at nilP hKN (nilD (A := fun _ => True))⟩ ⟨⟨rfl, rfl⟩, ⟨Nat.le_of_ble_eq_true rfl, Nat.le_of_ble_eq_true rfl⟩, ⟨Nat.le_of_ble_eq_true rfl, Nat.le_of_ble_eq_true rfl⟩⟩ hl.1 rfl (Nat.le_of_ble_eq_true rfl) dX11_gathers_39) hP hS hA (fun u2052 H locs w2053 hP hS => ?_)
        have w2053 : (u2052.toInt = (plc ((I 34).toInt).toNat ((I 36).toInt).toNat (g743.toInt).toNat : Int)) := w2053
        have hw2055 := w2053
        refine W.eq (g2 := F0 m 42 ls [.int u2052]) rfl ?_
        refine lv_istore_n (lv' := [(3, .int u2052), (2, .int g743), (0, .ref o), (1, .int p1)]) hx hb dX11_gathers_42 rfl hl (by decide) rfl (fun ls hl => ?_)
        refine lv_iload_n hx hb dX11_gathers_43 rfl (lv_at hl 0 rfl) ?_
        refine lv_aload_n hx hb dX11_gathers_44 rfl (lv_at hl 2 rfl) ?_
        refine va_get (D := D) (ci := 11) (v := .int (I 35)) (C := RX11) (T := TX11) (N := 49) hx hb hg inGX11 hown hKN.1 hP 0 rfl rfl 35 (by decide) (hg _ kw_1243) (fun _ h9 => h9) rfl dX11_gathers_45 ?_
        have j2056 := rgI u2052
        refine lv_icmp_lt (tgt := 54) hx hb dX11_gathers_48 (by decide) (fun c2057 => ?_) (fun c2057 => ?_)
        · skip
          have c2057 := i_lt (Eq.refl u2052.toInt) (Eq.refl (I 35).toInt) c2057
          refine lv_iload_n hx hb dX11_gathers_54 rfl (lv_at hl 0 rfl) ?_
          refine lv_aload_n hx hb dX11_gathers_55 rfl (lv_at hl 2 rfl) ?_
          refine va_get (D := D) (ci := 11) (v := .int (I 35)) (C := RX11) (T := TX11) (N := 49) hx hb hg inGX11 hown hKN.1 hP 0 rfl rfl 35 (by decide) (hg _ kw_1243) (fun _ h9 => h9) rfl dX11_gathers_56 ?_
          refine lv_iconst (v := 3) hx hb dX11_gathers_59 (by decide) ?_
          have zi3 : (3 : Int32).toInt = 3 := by decide
          refine lv_idiv hx hb dX11_gathers_60 (i_nz (show (3 : Int32).toInt = 3 by decide) (by omega)) ?_
          refine lv_topi (fun v2058 ev2058 => ?_)
          have hv2058 := i_div (Eq.refl (I 35).toInt) (show (3 : Int32).toInt = 3 by decide) ev2058 (by omega) (by omega)
          refine lv_icmp_lt (tgt := 85) hx hb dX11_gathers_61 (by decide) (fun c2064 => ?_) (fun c2064 => ?_)
          · skip
            have c2064 := i_lt (Eq.refl u2052.toInt) (Eq.refl v2058.toInt) c2064
            refine lv_iconst (v := 0) hx hb dX11_gathers_85 (by decide) ?_
            refine lv_istore (lv' := [(4, .int 0), (3, .int u2052), (2, .int g743), (0, .ref o), (1, .int p1)]) hx hb dX11_gathers_86 hl (by decide) rfl (fun ls hl => ?_)
            refine lv_iload_n hx hb dX11_gathers_88 rfl (lv_at hl 2 rfl) ?_
            refine lv_aload_n hx hb dX11_gathers_89 rfl (lv_at hl 3 rfl) ?_
            refine va_get (D := D) (ci := 11) (v := .int (I 34)) (C := RX11) (T := TX11) (N := 49) hx hb hg inGX11 hown hKN.1 hP 0 rfl rfl 34 (by decide) (hg _ kw_1242) (fun _ h9 => h9) rfl dX11_gathers_90 ?_
            refine lv_aload_n hx hb dX11_gathers_93 rfl (lv_at hl 3 rfl) ?_
            refine va_get (D := D) (ci := 11) (v := .int (I 36)) (C := RX11) (T := TX11) (N := 49) hx hb hg inGX11 hown hKN.1 hP 0 rfl rfl 36 (by decide) (hg _ kw_1244) (fun _ h9 => h9) rfl dX11_gathers_94 ?_
            refine cg0 (rn_S (As := [.int g743, .int (I 34), .int (I 36)]) (rest := []) (m_dipAt l D Y Z H.size   g743 (I 34) (I 36) (show (0 ≤ g743.toInt ∧ g743.toInt ≤ 599) by omega) (show (1 ≤ (I 34).toInt ∧ (I 34).toInt ≤ 400) by omega) (show (0 ≤ (I 36).toInt ∧ (I 36).toInt ≤ 400) by omega)) ⟨hx, hb, hml, hown, hg⟩ lk_X11_415 ⟨CP.blind, CP.at nilP hKN (nilD (A := fun _ => True))⟩ ⟨⟨rfl, rfl⟩, ⟨Nat.le_of_ble_eq_true rfl, Nat.le_of_ble_eq_true rfl⟩, ⟨Nat.le_of_ble_eq_true rfl, Nat.le_of_ble_eq_true rfl⟩⟩ hl.1 rfl (Nat.le_of_ble_eq_true rfl) dX11_gathers_97) hP hS hA (fun u2065 H locs w2066 hP hS => ?_)
            have w2066 : (-1 ≤ u2065.toInt ∧ u2065.toInt ≤ 599) ∧ ((g743.toInt < (I 36).toInt ∧ u2065.toInt = -1) ∨ ((I 36).toInt ≤ g743.toInt ∧ u2065.toInt = (g743.toInt - (I 36).toInt) / (I 34).toInt)) := w2066
            obtain ⟨hw2068, hw2069⟩ := w2066
            refine W.eq (g2 := F0 m 100 ls [.int u2065]) rfl ?_
            refine lv_istore (lv' := [(5, .int u2065), (4, .int 0), (3, .int u2052), (2, .int g743), (0, .ref o), (1, .int p1)]) hx hb dX11_gathers_100 hl (by decide) rfl (fun ls hl => ?_)
            refine lv_iload_n hx hb dX11_gathers_102 rfl (lv_at hl 5 rfl) ?_
            refine lv_iconst (v := 4) hx hb dX11_gathers_103 (by decide) ?_
            have j2079 := rgI p1
            refine lv_icmp_eq (tgt := 138) hx hb dX11_gathers_104 (by decide) (fun c2080 => ?_) (fun c2080 => ?_)
            · skip
              have c2080 := i_eq (Eq.refl p1.toInt) (show (4 : Int32).toInt = 4 by decide) c2080
              refine lv_iconst (v := 1) hx hb dX11_gathers_138 (by decide) ?_
              refine lv_goto (tgt := 143) hx hb dX11_gathers_139 (by decide) ?_
              refine lv_istore (lv' := [(6, .int 1), (5, .int u2065), (4, .int 0), (3, .int u2052), (2, .int g743), (0, .ref o), (1, .int p1)]) hx hb dX11_gathers_143 hl (by decide) rfl (fun ls hl => ?_)
              refine lv_iload hx hb dX11_gathers_145 (lv_at hl 0 rfl) ?_
              refine lv_if_ne (tgt := 153) hx hb dX11_gathers_147 (by decide) (fun c2081 => ?_) (fun c2081 => ?_)
              rotate_left
              · exact absurd c2081 (by decide)
              refine lv_aload_n hx hb dX11_gathers_153 rfl (lv_at hl 5 rfl) ?_
              refine lv_dup hx hb dX11_gathers_154 rfl ?_
              refine va_get (D := D) (ci := 11) (v := .int g744) (C := RX11) (T := TX11) (N := 49) hx hb hg inGX11 hown hKN.1 hP 0 rfl rfl 32 (by decide) (hg _ kw_1240) (fun _ h9 => h9) rfl dX11_gathers_155 ?_
              refine lv_iconst (v := 1) hx hb dX11_gathers_158 (by decide) ?_
              refine lv_iadd hx hb dX11_gathers_159 ?_
              refine lv_topi (fun v2082 ev2082 => ?_)
              refine va_put (D := D) (ci := 11) (v := .int v2082) (ty := .int) (C := RX11) (T := TX11) (N := 49) hx hb hg inGX11 tyX11 tyX11_ok nmX11 hown hKN.1 hP hD hS 0 rfl rfl 32 (by decide) (hg _ kw_1240) (fun _ h9 => h9) rfl (by decide +kernel) rfl rfl (Nat.le_of_ble_eq_true rfl) dX11_gathers_160 (fun H locs hP hD hS => ?_)
              have hP : va_P D vwCl (MW Y o a (upd I 32 v2082) (vp_updL J 33 g745) F G) H := hP
              have hD : va_D A (MW Y o a (upd I 32 v2082) (vp_updL J 33 g745) F G) := hD
              refine lv_aload_n hx hb dX11_gathers_163 rfl (lv_at hl 5 rfl) ?_
              refine lv_dup hx hb dX11_gathers_164 rfl ?_
              refine va_get (D := D) (ci := 11) (v := .long g745) (C := RX11) (T := TX11) (N := 49) hx hb hg inGX11 hown hKN.1 hP 0 rfl rfl 33 (by decide) (hg _ kw_1241) (fun _ h9 => h9) rfl dX11_gathers_165 ?_
              refine lv_aload_n hx hb dX11_gathers_168 rfl (lv_at hl 5 rfl) ?_
              refine va_get (D := D) (ci := 11) (v := .ref (a 28)) (C := RX11) (T := TX11) (N := 49) hx hb hg inGX11 hown hKN.1 hP 0 rfl rfl 28 (by decide) (hg _ kw_1236) (fun _ h9 => h9) rfl dX11_gathers_169 ?_
              refine lv_iload_n hx hb dX11_gathers_172 rfl (lv_at hl 4 rfl) ?_
              refine va_iald hx hb hKN.1 hP 19 0 rfl rfl (vp_in_iff.mpr ⟨by omega, by omega⟩) dX11_gathers_173 ?_
              refine lv_topi (fun v2083 ev2083 => ?_)
              have ev2083 : v2083 = (F 28) g743.toNatClampNeg := ev2083
              have qv2083 := congrArg Int32.toInt ev2083
              have j2084 := rgI v2083
              have j2085 := Int32.toInt_toInt64 v2083
              refine lv_i2l (v := v2083.toInt64) hx hb dX11_gathers_174 (rfl) ?_
              refine lv_ladd hx hb dX11_gathers_175 ?_
              refine lv_topl (fun v2086 ev2086 => ?_)
              refine va_put (D := D) (ci := 11) (v := .long v2086) (ty := .long) (C := RX11) (T := TX11) (N := 49) hx hb hg inGX11 tyX11 tyX11_ok nmX11 hown hKN.1 hP hD hS 0 rfl rfl 33 (by decide) (hg _ kw_1241) (fun _ h9 => h9) rfl (by decide +kernel) rfl rfl (Nat.le_of_ble_eq_true rfl) dX11_gathers_176 (fun H locs hP hD hS => ?_)
              have hP : va_P D vwCl (MW Y o a (upd I 32 v2082) (vp_updL J 33 v2086) F G) H := hP
              have hD : va_D A (MW Y o a (upd I 32 v2082) (vp_updL J 33 v2086) F G) := hD
              have zi0 : (0 : Int32).toInt = 0 := by decide
              refine W.widen (k := 0) (n := 0) (Nat.le_of_ble_eq_true rfl) (Nat.le_of_ble_eq_true rfl) ?_
              exact jn2049 (u2052, v2082, v2086) H locs ls ⟨hP, hD, hS, lv_sub hl [3, 4, 5, 6] rfl⟩
            · skip
              have c2080 := i_ne (Eq.refl p1.toInt) (show (4 : Int32).toInt = 4 by decide) c2080
              refine lv_iload_n hx hb dX11_gathers_107 rfl (lv_at hl 5 rfl) ?_
              refine lv_iconst (v := 2) hx hb dX11_gathers_108 (by decide) ?_
              refine lv_icmp_ge (tgt := 123) hx hb dX11_gathers_109 (by decide) (fun c2094 => ?_) (fun c2094 => ?_)
              · skip
                have c2094 := i_le (show (2 : Int32).toInt = 2 by decide) (Eq.refl p1.toInt) c2094
                refine lv_iload hx hb dX11_gathers_123 (lv_at hl 1 rfl) ?_
                refine lv_iload_n hx hb dX11_gathers_125 rfl (lv_at hl 5 rfl) ?_
                refine lv_iconst (v := 2) hx hb dX11_gathers_126 (by decide) ?_
                refine lv_icmp_ne (tgt := 134) hx hb dX11_gathers_127 (by decide) (fun c2096 => ?_) (fun c2096 => ?_)
                · skip
                  have c2096 := i_ne (Eq.refl p1.toInt) (show (2 : Int32).toInt = 2 by decide) c2096
                  refine lv_iconst (v := 0) hx hb dX11_gathers_134 (by decide) ?_
                  refine lv_icmp_ne (tgt := 142) hx hb dX11_gathers_135 (by decide) (fun c2098 => ?_) (fun c2098 => ?_)
                  · exact absurd c2098 (by decide)
                  refine lv_iconst (v := 1) hx hb dX11_gathers_138 (by decide) ?_
                  refine lv_goto (tgt := 143) hx hb dX11_gathers_139 (by decide) ?_
                  refine lv_istore (lv' := [(6, .int 1), (5, .int u2065), (4, .int 0), (3, .int u2052), (2, .int g743), (0, .ref o), (1, .int p1)]) hx hb dX11_gathers_143 hl (by decide) rfl (fun ls hl => ?_)
                  refine lv_iload hx hb dX11_gathers_145 (lv_at hl 0 rfl) ?_
                  refine lv_if_ne (tgt := 153) hx hb dX11_gathers_147 (by decide) (fun c2099 => ?_) (fun c2099 => ?_)
                  rotate_left
                  · exact absurd c2099 (by decide)
                  refine lv_aload_n hx hb dX11_gathers_153 rfl (lv_at hl 5 rfl) ?_
                  refine lv_dup hx hb dX11_gathers_154 rfl ?_
                  refine va_get (D := D) (ci := 11) (v := .int g744) (C := RX11) (T := TX11) (N := 49) hx hb hg inGX11 hown hKN.1 hP 0 rfl rfl 32 (by decide) (hg _ kw_1240) (fun _ h9 => h9) rfl dX11_gathers_155 ?_
                  refine lv_iconst (v := 1) hx hb dX11_gathers_158 (by decide) ?_
                  refine lv_iadd hx hb dX11_gathers_159 ?_
                  refine lv_topi (fun v2100 ev2100 => ?_)
                  refine va_put (D := D) (ci := 11) (v := .int v2100) (ty := .int) (C := RX11) (T := TX11) (N := 49) hx hb hg inGX11 tyX11 tyX11_ok nmX11 hown hKN.1 hP hD hS 0 rfl rfl 32 (by decide) (hg _ kw_1240) (fun _ h9 => h9) rfl (by decide +kernel) rfl rfl (Nat.le_of_ble_eq_true rfl) dX11_gathers_160 (fun H locs hP hD hS => ?_)
                  have hP : va_P D vwCl (MW Y o a (upd I 32 v2100) (vp_updL J 33 g745) F G) H := hP
                  have hD : va_D A (MW Y o a (upd I 32 v2100) (vp_updL J 33 g745) F G) := hD
                  refine lv_aload_n hx hb dX11_gathers_163 rfl (lv_at hl 5 rfl) ?_
                  refine lv_dup hx hb dX11_gathers_164 rfl ?_
                  refine va_get (D := D) (ci := 11) (v := .long g745) (C := RX11) (T := TX11) (N := 49) hx hb hg inGX11 hown hKN.1 hP 0 rfl rfl 33 (by decide) (hg _ kw_1241) (fun _ h9 => h9) rfl dX11_gathers_165 ?_
                  refine lv_aload_n hx hb dX11_gathers_168 rfl (lv_at hl 5 rfl) ?_
                  refine va_get (D := D) (ci := 11) (v := .ref (a 28)) (C := RX11) (T := TX11) (N := 49) hx hb hg inGX11 hown hKN.1 hP 0 rfl rfl 28 (by decide) (hg _ kw_1236) (fun _ h9 => h9) rfl dX11_gathers_169 ?_
                  refine lv_iload_n hx hb dX11_gathers_172 rfl (lv_at hl 4 rfl) ?_
                  refine va_iald hx hb hKN.1 hP 19 0 rfl rfl (vp_in_iff.mpr ⟨by omega, by omega⟩) dX11_gathers_173 ?_
                  refine lv_topi (fun v2101 ev2101 => ?_)
                  have ev2101 : v2101 = (F 28) g743.toNatClampNeg := ev2101
                  have qv2101 := congrArg Int32.toInt ev2101
                  have j2102 := rgI v2101
                  have j2103 := Int32.toInt_toInt64 v2101
                  refine lv_i2l (v := v2101.toInt64) hx hb dX11_gathers_174 (rfl) ?_
                  refine lv_ladd hx hb dX11_gathers_175 ?_
                  refine lv_topl (fun v2104 ev2104 => ?_)
                  refine va_put (D := D) (ci := 11) (v := .long v2104) (ty := .long) (C := RX11) (T := TX11) (N := 49) hx hb hg inGX11 tyX11 tyX11_ok nmX11 hown hKN.1 hP hD hS 0 rfl rfl 33 (by decide) (hg _ kw_1241) (fun _ h9 => h9) rfl (by decide +kernel) rfl rfl (Nat.le_of_ble_eq_true rfl) dX11_gathers_176 (fun H locs hP hD hS => ?_)
                  have hP : va_P D vwCl (MW Y o a (upd I 32 v2100) (vp_updL J 33 v2104) F G) H := hP
                  have hD : va_D A (MW Y o a (upd I 32 v2100) (vp_updL J 33 v2104) F G) := hD
                  have zi0 : (0 : Int32).toInt = 0 := by decide
                  refine W.widen (k := 0) (n := 0) (Nat.le_of_ble_eq_true rfl) (Nat.le_of_ble_eq_true rfl) ?_
                  exact jn2049 (u2052, v2100, v2104) H locs ls ⟨hP, hD, hS, lv_sub hl [3, 4, 5, 6] rfl⟩
                · skip
                  have c2096 := i_eq (Eq.refl p1.toInt) (show (2 : Int32).toInt = 2 by decide) c2096
                  refine lv_iconst (v := 1) hx hb dX11_gathers_130 (by decide) ?_
                  refine lv_goto (tgt := 135) hx hb dX11_gathers_131 (by decide) ?_
                  refine lv_icmp_ne (tgt := 142) hx hb dX11_gathers_135 (by decide) (fun c2106 => ?_) (fun c2106 => ?_)
                  rotate_left
                  · exact absurd c2106 (by decide)
                  refine lv_iconst (v := 0) hx hb dX11_gathers_142 (by decide) ?_
                  refine lv_istore (lv' := [(6, .int 0), (5, .int u2065), (4, .int 0), (3, .int u2052), (2, .int g743), (0, .ref o), (1, .int p1)]) hx hb dX11_gathers_143 hl (by decide) rfl (fun ls hl => ?_)
                  refine lv_iload hx hb dX11_gathers_145 (lv_at hl 0 rfl) ?_
                  refine lv_if_ne (tgt := 153) hx hb dX11_gathers_147 (by decide) (fun c2107 => ?_) (fun c2107 => ?_)
                  · exact absurd c2107 (by decide)
                  refine lv_goto (tgt := 179) hx hb dX11_gathers_150 (by decide) ?_
                  have zi0 : (0 : Int32).toInt = 0 := by decide
                  refine W.widen (k := 0) (n := 0) (Nat.le_of_ble_eq_true rfl) (Nat.le_of_ble_eq_true rfl) ?_
                  exact jn2049 (u2052, g744, g745) H locs ls ⟨hP, hD, hS, lv_sub hl [3, 4, 5, 6] rfl⟩
              · skip
                have c2094 := i_nle (show (2 : Int32).toInt = 2 by decide) (Eq.refl p1.toInt) c2094
                refine lv_iload hx hb dX11_gathers_112 (lv_at hl 0 rfl) ?_
                refine lv_iconst (v := 1) hx hb dX11_gathers_114 (by decide) ?_
                refine lv_iand hx hb dX11_gathers_115 ?_
                refine lv_topi (fun v2108 ev2108 => ?_)
                have hv2108 := i_and (show (1 : Int32).toInt = 1 by decide) ev2108 (by decide)
                refine lv_iload_n hx hb dX11_gathers_116 rfl (lv_at hl 5 rfl) ?_
                refine lv_icmp_ne (tgt := 142) hx hb dX11_gathers_117 (by decide) (fun c2110 => ?_) (fun c2110 => ?_)
                · skip
                  have c2110 := i_ne (Eq.refl v2108.toInt) (Eq.refl p1.toInt) c2110
                  refine lv_iconst (v := 0) hx hb dX11_gathers_142 (by decide) ?_
                  refine lv_istore (lv' := [(6, .int 0), (5, .int u2065), (4, .int 0), (3, .int u2052), (2, .int g743), (0, .ref o), (1, .int p1)]) hx hb dX11_gathers_143 hl (by decide) rfl (fun ls hl => ?_)
                  refine lv_iload hx hb dX11_gathers_145 (lv_at hl 0 rfl) ?_
                  refine lv_if_ne (tgt := 153) hx hb dX11_gathers_147 (by decide) (fun c2111 => ?_) (fun c2111 => ?_)
                  · exact absurd c2111 (by decide)
                  refine lv_goto (tgt := 179) hx hb dX11_gathers_150 (by decide) ?_
                  have zi0 : (0 : Int32).toInt = 0 := by decide
                  refine W.widen (k := 0) (n := 0) (Nat.le_of_ble_eq_true rfl) (Nat.le_of_ble_eq_true rfl) ?_
                  exact jn2049 (u2052, g744, g745) H locs ls ⟨hP, hD, hS, lv_sub hl [3, 4, 5, 6] rfl⟩
                · skip
                  have c2110 := i_eq (Eq.refl v2108.toInt) (Eq.refl p1.toInt) c2110
                  refine lv_goto (tgt := 138) hx hb dX11_gathers_120 (by decide) ?_
                  refine lv_iconst (v := 1) hx hb dX11_gathers_138 (by decide) ?_
                  refine lv_goto (tgt := 143) hx hb dX11_gathers_139 (by decide) ?_
                  refine lv_istore (lv' := [(6, .int 1), (5, .int u2065), (4, .int 0), (3, .int u2052), (2, .int g743), (0, .ref o), (1, .int p1)]) hx hb dX11_gathers_143 hl (by decide) rfl (fun ls hl => ?_)
                  refine lv_iload hx hb dX11_gathers_145 (lv_at hl 0 rfl) ?_
                  refine lv_if_ne (tgt := 153) hx hb dX11_gathers_147 (by decide) (fun c2112 => ?_) (fun c2112 => ?_)
                  rotate_left
                  · exact absurd c2112 (by decide)
                  refine lv_aload_n hx hb dX11_gathers_153 rfl (lv_at hl 5 rfl) ?_
                  refine lv_dup hx hb dX11_gathers_154 rfl ?_
                  refine va_get (D := D) (ci := 11) (v := .int g744) (C := RX11) (T := TX11) (N := 49) hx hb hg inGX11 hown hKN.1 hP 0 rfl rfl 32 (by decide) (hg _ kw_1240) (fun _ h9 => h9) rfl dX11_gathers_155 ?_
                  refine lv_iconst (v := 1) hx hb dX11_gathers_158 (by decide) ?_
                  refine lv_iadd hx hb dX11_gathers_159 ?_
                  refine lv_topi (fun v2113 ev2113 => ?_)
                  refine va_put (D := D) (ci := 11) (v := .int v2113) (ty := .int) (C := RX11) (T := TX11) (N := 49) hx hb hg inGX11 tyX11 tyX11_ok nmX11 hown hKN.1 hP hD hS 0 rfl rfl 32 (by decide) (hg _ kw_1240) (fun _ h9 => h9) rfl (by decide +kernel) rfl rfl (Nat.le_of_ble_eq_true rfl) dX11_gathers_160 (fun H locs hP hD hS => ?_)
                  have hP : va_P D vwCl (MW Y o a (upd I 32 v2113) (vp_updL J 33 g745) F G) H := hP
                  have hD : va_D A (MW Y o a (upd I 32 v2113) (vp_updL J 33 g745) F G) := hD
                  refine lv_aload_n hx hb dX11_gathers_163 rfl (lv_at hl 5 rfl) ?_
                  refine lv_dup hx hb dX11_gathers_164 rfl ?_
                  refine va_get (D := D) (ci := 11) (v := .long g745) (C := RX11) (T := TX11) (N := 49) hx hb hg inGX11 hown hKN.1 hP 0 rfl rfl 33 (by decide) (hg _ kw_1241) (fun _ h9 => h9) rfl dX11_gathers_165 ?_
                  refine lv_aload_n hx hb dX11_gathers_168 rfl (lv_at hl 5 rfl) ?_
                  refine va_get (D := D) (ci := 11) (v := .ref (a 28)) (C := RX11) (T := TX11) (N := 49) hx hb hg inGX11 hown hKN.1 hP 0 rfl rfl 28 (by decide) (hg _ kw_1236) (fun _ h9 => h9) rfl dX11_gathers_169 ?_
                  refine lv_iload_n hx hb dX11_gathers_172 rfl (lv_at hl 4 rfl) ?_
                  refine va_iald hx hb hKN.1 hP 19 0 rfl rfl (vp_in_iff.mpr ⟨by omega, by omega⟩) dX11_gathers_173 ?_
                  refine lv_topi (fun v2114 ev2114 => ?_)
                  have ev2114 : v2114 = (F 28) g743.toNatClampNeg := ev2114
                  have qv2114 := congrArg Int32.toInt ev2114
                  have j2115 := rgI v2114
                  have j2116 := Int32.toInt_toInt64 v2114
                  refine lv_i2l (v := v2114.toInt64) hx hb dX11_gathers_174 (rfl) ?_
                  refine lv_ladd hx hb dX11_gathers_175 ?_
                  refine lv_topl (fun v2117 ev2117 => ?_)
                  refine va_put (D := D) (ci := 11) (v := .long v2117) (ty := .long) (C := RX11) (T := TX11) (N := 49) hx hb hg inGX11 tyX11 tyX11_ok nmX11 hown hKN.1 hP hD hS 0 rfl rfl 33 (by decide) (hg _ kw_1241) (fun _ h9 => h9) rfl (by decide +kernel) rfl rfl (Nat.le_of_ble_eq_true rfl) dX11_gathers_176 (fun H locs hP hD hS => ?_)
                  have hP : va_P D vwCl (MW Y o a (upd I 32 v2113) (vp_updL J 33 v2117) F G) H := hP
                  have hD : va_D A (MW Y o a (upd I 32 v2113) (vp_updL J 33 v2117) F G) := hD
                  have zi0 : (0 : Int32).toInt = 0 := by decide
                  refine W.widen (k := 0) (n := 0) (Nat.le_of_ble_eq_true rfl) (Nat.le_of_ble_eq_true rfl) ?_
                  exact jn2049 (u2052, v2113, v2117) H locs ls ⟨hP, hD, hS, lv_sub hl [3, 4, 5, 6] rfl⟩
          · skip
            have c2064 := i_nlt (Eq.refl u2052.toInt) (Eq.refl v2058.toInt) c2064
            refine lv_iload_n hx hb dX11_gathers_64 rfl (lv_at hl 0 rfl) ?_
            refine lv_aload_n hx hb dX11_gathers_65 rfl (lv_at hl 2 rfl) ?_
            refine va_get (D := D) (ci := 11) (v := .int (I 35)) (C := RX11) (T := TX11) (N := 49) hx hb hg inGX11 hown hKN.1 hP 0 rfl rfl 35 (by decide) (hg _ kw_1243) (fun _ h9 => h9) rfl dX11_gathers_66 ?_
            refine lv_iconst (v := 1) hx hb dX11_gathers_69 (by decide) ?_
            refine lv_isub hx hb dX11_gathers_70 ?_
            refine lv_topi (fun v2118 ev2118 => ?_)
            have hv2118 := i_sub (Eq.refl (I 35).toInt) (show (1 : Int32).toInt = 1 by decide) ev2118 (by omega) (by omega)
            refine lv_aload_n hx hb dX11_gathers_71 rfl (lv_at hl 2 rfl) ?_
            refine va_get (D := D) (ci := 11) (v := .int (I 35)) (C := RX11) (T := TX11) (N := 49) hx hb hg inGX11 hown hKN.1 hP 0 rfl rfl 35 (by decide) (hg _ kw_1243) (fun _ h9 => h9) rfl dX11_gathers_72 ?_
            refine lv_iconst (v := 3) hx hb dX11_gathers_75 (by decide) ?_
            refine lv_idiv hx hb dX11_gathers_76 (i_nz (show (3 : Int32).toInt = 3 by decide) (by omega)) ?_
            refine lv_topi (fun v2119 ev2119 => ?_)
            have hv2119 := i_div (Eq.refl (I 35).toInt) (show (3 : Int32).toInt = 3 by decide) ev2119 (by omega) (by omega)
            refine lv_isub hx hb dX11_gathers_77 ?_
            refine lv_topi (fun v2120 ev2120 => ?_)
            have hv2120 := i_sub (Eq.refl v2118.toInt) (Eq.refl v2119.toInt) ev2120 (by omega) (by omega)
            refine lv_icmp_gt (tgt := 85) hx hb dX11_gathers_78 (by decide) (fun c2122 => ?_) (fun c2122 => ?_)
            · skip
              have c2122 := i_lt (Eq.refl v2120.toInt) (Eq.refl u2052.toInt) c2122
              refine lv_iconst (v := 0) hx hb dX11_gathers_85 (by decide) ?_
              refine lv_istore (lv' := [(4, .int 0), (3, .int u2052), (2, .int g743), (0, .ref o), (1, .int p1)]) hx hb dX11_gathers_86 hl (by decide) rfl (fun ls hl => ?_)
              refine lv_iload_n hx hb dX11_gathers_88 rfl (lv_at hl 2 rfl) ?_
              refine lv_aload_n hx hb dX11_gathers_89 rfl (lv_at hl 3 rfl) ?_
              refine va_get (D := D) (ci := 11) (v := .int (I 34)) (C := RX11) (T := TX11) (N := 49) hx hb hg inGX11 hown hKN.1 hP 0 rfl rfl 34 (by decide) (hg _ kw_1242) (fun _ h9 => h9) rfl dX11_gathers_90 ?_
              refine lv_aload_n hx hb dX11_gathers_93 rfl (lv_at hl 3 rfl) ?_
              refine va_get (D := D) (ci := 11) (v := .int (I 36)) (C := RX11) (T := TX11) (N := 49) hx hb hg inGX11 hown hKN.1 hP 0 rfl rfl 36 (by decide) (hg _ kw_1244) (fun _ h9 => h9) rfl dX11_gathers_94 ?_
              refine cg0 (rn_S (As := [.int g743, .int (I 34), .int (I 36)]) (rest := []) (m_dipAt l D Y Z H.size   g743 (I 34) (I 36) (show (0 ≤ g743.toInt ∧ g743.toInt ≤ 599) by omega) (show (1 ≤ (I 34).toInt ∧ (I 34).toInt ≤ 400) by omega) (show (0 ≤ (I 36).toInt ∧ (I 36).toInt ≤ 400) by omega)) ⟨hx, hb, hml, hown, hg⟩ lk_X11_415 ⟨CP.blind, CP.at nilP hKN (nilD (A := fun _ => True))⟩ ⟨⟨rfl, rfl⟩, ⟨Nat.le_of_ble_eq_true rfl, Nat.le_of_ble_eq_true rfl⟩, ⟨Nat.le_of_ble_eq_true rfl, Nat.le_of_ble_eq_true rfl⟩⟩ hl.1 rfl (Nat.le_of_ble_eq_true rfl) dX11_gathers_97) hP hS hA (fun u2123 H locs w2124 hP hS => ?_)
              have w2124 : (-1 ≤ u2123.toInt ∧ u2123.toInt ≤ 599) ∧ ((g743.toInt < (I 36).toInt ∧ u2123.toInt = -1) ∨ ((I 36).toInt ≤ g743.toInt ∧ u2123.toInt = (g743.toInt - (I 36).toInt) / (I 34).toInt)) := w2124
              obtain ⟨hw2126, hw2127⟩ := w2124
              refine W.eq (g2 := F0 m 100 ls [.int u2123]) rfl ?_
              refine lv_istore (lv' := [(5, .int u2123), (4, .int 0), (3, .int u2052), (2, .int g743), (0, .ref o), (1, .int p1)]) hx hb dX11_gathers_100 hl (by decide) rfl (fun ls hl => ?_)
              refine lv_iload_n hx hb dX11_gathers_102 rfl (lv_at hl 5 rfl) ?_
              refine lv_iconst (v := 4) hx hb dX11_gathers_103 (by decide) ?_
              have j2137 := rgI p1
              refine lv_icmp_eq (tgt := 138) hx hb dX11_gathers_104 (by decide) (fun c2138 => ?_) (fun c2138 => ?_)
              · skip
                have c2138 := i_eq (Eq.refl p1.toInt) (show (4 : Int32).toInt = 4 by decide) c2138
                refine lv_iconst (v := 1) hx hb dX11_gathers_138 (by decide) ?_
                refine lv_goto (tgt := 143) hx hb dX11_gathers_139 (by decide) ?_
                refine lv_istore (lv' := [(6, .int 1), (5, .int u2123), (4, .int 0), (3, .int u2052), (2, .int g743), (0, .ref o), (1, .int p1)]) hx hb dX11_gathers_143 hl (by decide) rfl (fun ls hl => ?_)
                refine lv_iload hx hb dX11_gathers_145 (lv_at hl 0 rfl) ?_
                refine lv_if_ne (tgt := 153) hx hb dX11_gathers_147 (by decide) (fun c2139 => ?_) (fun c2139 => ?_)
                rotate_left
                · exact absurd c2139 (by decide)
                refine lv_aload_n hx hb dX11_gathers_153 rfl (lv_at hl 5 rfl) ?_
                refine lv_dup hx hb dX11_gathers_154 rfl ?_
                refine va_get (D := D) (ci := 11) (v := .int g744) (C := RX11) (T := TX11) (N := 49) hx hb hg inGX11 hown hKN.1 hP 0 rfl rfl 32 (by decide) (hg _ kw_1240) (fun _ h9 => h9) rfl dX11_gathers_155 ?_
                refine lv_iconst (v := 1) hx hb dX11_gathers_158 (by decide) ?_
                refine lv_iadd hx hb dX11_gathers_159 ?_
                refine lv_topi (fun v2140 ev2140 => ?_)
                refine va_put (D := D) (ci := 11) (v := .int v2140) (ty := .int) (C := RX11) (T := TX11) (N := 49) hx hb hg inGX11 tyX11 tyX11_ok nmX11 hown hKN.1 hP hD hS 0 rfl rfl 32 (by decide) (hg _ kw_1240) (fun _ h9 => h9) rfl (by decide +kernel) rfl rfl (Nat.le_of_ble_eq_true rfl) dX11_gathers_160 (fun H locs hP hD hS => ?_)
                have hP : va_P D vwCl (MW Y o a (upd I 32 v2140) (vp_updL J 33 g745) F G) H := hP
                have hD : va_D A (MW Y o a (upd I 32 v2140) (vp_updL J 33 g745) F G) := hD
                refine lv_aload_n hx hb dX11_gathers_163 rfl (lv_at hl 5 rfl) ?_
                refine lv_dup hx hb dX11_gathers_164 rfl ?_
                refine va_get (D := D) (ci := 11) (v := .long g745) (C := RX11) (T := TX11) (N := 49) hx hb hg inGX11 hown hKN.1 hP 0 rfl rfl 33 (by decide) (hg _ kw_1241) (fun _ h9 => h9) rfl dX11_gathers_165 ?_
                refine lv_aload_n hx hb dX11_gathers_168 rfl (lv_at hl 5 rfl) ?_
                refine va_get (D := D) (ci := 11) (v := .ref (a 28)) (C := RX11) (T := TX11) (N := 49) hx hb hg inGX11 hown hKN.1 hP 0 rfl rfl 28 (by decide) (hg _ kw_1236) (fun _ h9 => h9) rfl dX11_gathers_169 ?_
                refine lv_iload_n hx hb dX11_gathers_172 rfl (lv_at hl 4 rfl) ?_
                refine va_iald hx hb hKN.1 hP 19 0 rfl rfl (vp_in_iff.mpr ⟨by omega, by omega⟩) dX11_gathers_173 ?_
                refine lv_topi (fun v2141 ev2141 => ?_)
                have ev2141 : v2141 = (F 28) g743.toNatClampNeg := ev2141
                have qv2141 := congrArg Int32.toInt ev2141
                have j2142 := rgI v2141
                have j2143 := Int32.toInt_toInt64 v2141
                refine lv_i2l (v := v2141.toInt64) hx hb dX11_gathers_174 (rfl) ?_
                refine lv_ladd hx hb dX11_gathers_175 ?_
                refine lv_topl (fun v2144 ev2144 => ?_)
                refine va_put (D := D) (ci := 11) (v := .long v2144) (ty := .long) (C := RX11) (T := TX11) (N := 49) hx hb hg inGX11 tyX11 tyX11_ok nmX11 hown hKN.1 hP hD hS 0 rfl rfl 33 (by decide) (hg _ kw_1241) (fun _ h9 => h9) rfl (by decide +kernel) rfl rfl (Nat.le_of_ble_eq_true rfl) dX11_gathers_176 (fun H locs hP hD hS => ?_)
                have hP : va_P D vwCl (MW Y o a (upd I 32 v2140) (vp_updL J 33 v2144) F G) H := hP
                have hD : va_D A (MW Y o a (upd I 32 v2140) (vp_updL J 33 v2144) F G) := hD
                have zi0 : (0 : Int32).toInt = 0 := by decide
                refine W.widen (k := 0) (n := 0) (Nat.le_of_ble_eq_true rfl) (Nat.le_of_ble_eq_true rfl) ?_
                exact jn2049 (u2052, v2140, v2144) H locs ls ⟨hP, hD, hS, lv_sub hl [3, 4, 5, 6] rfl⟩
              · skip
                have c2138 := i_ne (Eq.refl p1.toInt) (show (4 : Int32).toInt = 4 by decide) c2138
                refine lv_iload_n hx hb dX11_gathers_107 rfl (lv_at hl 5 rfl) ?_
                refine lv_iconst (v := 2) hx hb dX11_gathers_108 (by decide) ?_
                refine lv_icmp_ge (tgt := 123) hx hb dX11_gathers_109 (by decide) (fun c2152 => ?_) (fun c2152 => ?_)
                · skip
                  have c2152 := i_le (show (2 : Int32).toInt = 2 by decide) (Eq.refl p1.toInt) c2152
                  refine lv_iload hx hb dX11_gathers_123 (lv_at hl 1 rfl) ?_
                  refine lv_iload_n hx hb dX11_gathers_125 rfl (lv_at hl 5 rfl) ?_
                  refine lv_iconst (v := 2) hx hb dX11_gathers_126 (by decide) ?_
                  refine lv_icmp_ne (tgt := 134) hx hb dX11_gathers_127 (by decide) (fun c2154 => ?_) (fun c2154 => ?_)
                  · skip
                    have c2154 := i_ne (Eq.refl p1.toInt) (show (2 : Int32).toInt = 2 by decide) c2154
                    refine lv_iconst (v := 0) hx hb dX11_gathers_134 (by decide) ?_
                    refine lv_icmp_ne (tgt := 142) hx hb dX11_gathers_135 (by decide) (fun c2156 => ?_) (fun c2156 => ?_)
                    · exact absurd c2156 (by decide)
                    refine lv_iconst (v := 1) hx hb dX11_gathers_138 (by decide) ?_
                    refine lv_goto (tgt := 143) hx hb dX11_gathers_139 (by decide) ?_
                    refine lv_istore (lv' := [(6, .int 1), (5, .int u2123), (4, .int 0), (3, .int u2052), (2, .int g743), (0, .ref o), (1, .int p1)]) hx hb dX11_gathers_143 hl (by decide) rfl (fun ls hl => ?_)
                    refine lv_iload hx hb dX11_gathers_145 (lv_at hl 0 rfl) ?_
                    refine lv_if_ne (tgt := 153) hx hb dX11_gathers_147 (by decide) (fun c2157 => ?_) (fun c2157 => ?_)
                    rotate_left
                    · exact absurd c2157 (by decide)
                    refine lv_aload_n hx hb dX11_gathers_153 rfl (lv_at hl 5 rfl) ?_
                    refine lv_dup hx hb dX11_gathers_154 rfl ?_
                    refine va_get (D := D) (ci := 11) (v := .int g744) (C := RX11) (T := TX11) (N := 49) hx hb hg inGX11 hown hKN.1 hP 0 rfl rfl 32 (by decide) (hg _ kw_1240) (fun _ h9 => h9) rfl dX11_gathers_155 ?_
                    refine lv_iconst (v := 1) hx hb dX11_gathers_158 (by decide) ?_
                    refine lv_iadd hx hb dX11_gathers_159 ?_
                    refine lv_topi (fun v2158 ev2158 => ?_)
                    refine va_put (D := D) (ci := 11) (v := .int v2158) (ty := .int) (C := RX11) (T := TX11) (N := 49) hx hb hg inGX11 tyX11 tyX11_ok nmX11 hown hKN.1 hP hD hS 0 rfl rfl 32 (by decide) (hg _ kw_1240) (fun _ h9 => h9) rfl (by decide +kernel) rfl rfl (Nat.le_of_ble_eq_true rfl) dX11_gathers_160 (fun H locs hP hD hS => ?_)
                    have hP : va_P D vwCl (MW Y o a (upd I 32 v2158) (vp_updL J 33 g745) F G) H := hP
                    have hD : va_D A (MW Y o a (upd I 32 v2158) (vp_updL J 33 g745) F G) := hD
                    refine lv_aload_n hx hb dX11_gathers_163 rfl (lv_at hl 5 rfl) ?_
                    refine lv_dup hx hb dX11_gathers_164 rfl ?_
                    refine va_get (D := D) (ci := 11) (v := .long g745) (C := RX11) (T := TX11) (N := 49) hx hb hg inGX11 hown hKN.1 hP 0 rfl rfl 33 (by decide) (hg _ kw_1241) (fun _ h9 => h9) rfl dX11_gathers_165 ?_
                    refine lv_aload_n hx hb dX11_gathers_168 rfl (lv_at hl 5 rfl) ?_
                    refine va_get (D := D) (ci := 11) (v := .ref (a 28)) (C := RX11) (T := TX11) (N := 49) hx hb hg inGX11 hown hKN.1 hP 0 rfl rfl 28 (by decide) (hg _ kw_1236) (fun _ h9 => h9) rfl dX11_gathers_169 ?_
                    refine lv_iload_n hx hb dX11_gathers_172 rfl (lv_at hl 4 rfl) ?_
                    refine va_iald hx hb hKN.1 hP 19 0 rfl rfl (vp_in_iff.mpr ⟨by omega, by omega⟩) dX11_gathers_173 ?_
                    refine lv_topi (fun v2159 ev2159 => ?_)
                    have ev2159 : v2159 = (F 28) g743.toNatClampNeg := ev2159
                    have qv2159 := congrArg Int32.toInt ev2159
                    have j2160 := rgI v2159
                    have j2161 := Int32.toInt_toInt64 v2159
                    refine lv_i2l (v := v2159.toInt64) hx hb dX11_gathers_174 (rfl) ?_
                    refine lv_ladd hx hb dX11_gathers_175 ?_
                    refine lv_topl (fun v2162 ev2162 => ?_)
                    refine va_put (D := D) (ci := 11) (v := .long v2162) (ty := .long) (C := RX11) (T := TX11) (N := 49) hx hb hg inGX11 tyX11 tyX11_ok nmX11 hown hKN.1 hP hD hS 0 rfl rfl 33 (by decide) (hg _ kw_1241) (fun _ h9 => h9) rfl (by decide +kernel) rfl rfl (Nat.le_of_ble_eq_true rfl) dX11_gathers_176 (fun H locs hP hD hS => ?_)
                    have hP : va_P D vwCl (MW Y o a (upd I 32 v2158) (vp_updL J 33 v2162) F G) H := hP
                    have hD : va_D A (MW Y o a (upd I 32 v2158) (vp_updL J 33 v2162) F G) := hD
                    have zi0 : (0 : Int32).toInt = 0 := by decide
                    refine W.widen (k := 0) (n := 0) (Nat.le_of_ble_eq_true rfl) (Nat.le_of_ble_eq_true rfl) ?_
                    exact jn2049 (u2052, v2158, v2162) H locs ls ⟨hP, hD, hS, lv_sub hl [3, 4, 5, 6] rfl⟩
                  · skip
                    have c2154 := i_eq (Eq.refl p1.toInt) (show (2 : Int32).toInt = 2 by decide) c2154
                    refine lv_iconst (v := 1) hx hb dX11_gathers_130 (by decide) ?_
                    refine lv_goto (tgt := 135) hx hb dX11_gathers_131 (by decide) ?_
                    refine lv_icmp_ne (tgt := 142) hx hb dX11_gathers_135 (by decide) (fun c2164 => ?_) (fun c2164 => ?_)
                    rotate_left
                    · exact absurd c2164 (by decide)
                    refine lv_iconst (v := 0) hx hb dX11_gathers_142 (by decide) ?_
                    refine lv_istore (lv' := [(6, .int 0), (5, .int u2123), (4, .int 0), (3, .int u2052), (2, .int g743), (0, .ref o), (1, .int p1)]) hx hb dX11_gathers_143 hl (by decide) rfl (fun ls hl => ?_)
                    refine lv_iload hx hb dX11_gathers_145 (lv_at hl 0 rfl) ?_
                    refine lv_if_ne (tgt := 153) hx hb dX11_gathers_147 (by decide) (fun c2165 => ?_) (fun c2165 => ?_)
                    · exact absurd c2165 (by decide)
                    refine lv_goto (tgt := 179) hx hb dX11_gathers_150 (by decide) ?_
                    have zi0 : (0 : Int32).toInt = 0 := by decide
                    refine W.widen (k := 0) (n := 0) (Nat.le_of_ble_eq_true rfl) (Nat.le_of_ble_eq_true rfl) ?_
                    exact jn2049 (u2052, g744, g745) H locs ls ⟨hP, hD, hS, lv_sub hl [3, 4, 5, 6] rfl⟩
                · skip
                  have c2152 := i_nle (show (2 : Int32).toInt = 2 by decide) (Eq.refl p1.toInt) c2152
                  refine lv_iload hx hb dX11_gathers_112 (lv_at hl 0 rfl) ?_
                  refine lv_iconst (v := 1) hx hb dX11_gathers_114 (by decide) ?_
                  refine lv_iand hx hb dX11_gathers_115 ?_
                  refine lv_topi (fun v2166 ev2166 => ?_)
                  have hv2166 := i_and (show (1 : Int32).toInt = 1 by decide) ev2166 (by decide)
                  refine lv_iload_n hx hb dX11_gathers_116 rfl (lv_at hl 5 rfl) ?_
                  refine lv_icmp_ne (tgt := 142) hx hb dX11_gathers_117 (by decide) (fun c2168 => ?_) (fun c2168 => ?_)
                  · skip
                    have c2168 := i_ne (Eq.refl v2166.toInt) (Eq.refl p1.toInt) c2168
                    refine lv_iconst (v := 0) hx hb dX11_gathers_142 (by decide) ?_
                    refine lv_istore (lv' := [(6, .int 0), (5, .int u2123), (4, .int 0), (3, .int u2052), (2, .int g743), (0, .ref o), (1, .int p1)]) hx hb dX11_gathers_143 hl (by decide) rfl (fun ls hl => ?_)
                    refine lv_iload hx hb dX11_gathers_145 (lv_at hl 0 rfl) ?_
                    refine lv_if_ne (tgt := 153) hx hb dX11_gathers_147 (by decide) (fun c2169 => ?_) (fun c2169 => ?_)
                    · exact absurd c2169 (by decide)
                    refine lv_goto (tgt := 179) hx hb dX11_gathers_150 (by decide) ?_
                    have zi0 : (0 : Int32).toInt = 0 := by decide
                    refine W.widen (k := 0) (n := 0) (Nat.le_of_ble_eq_true rfl) (Nat.le_of_ble_eq_true rfl) ?_
                    exact jn2049 (u2052, g744, g745) H locs ls ⟨hP, hD, hS, lv_sub hl [3, 4, 5, 6] rfl⟩
                  · skip
                    have c2168 := i_eq (Eq.refl v2166.toInt) (Eq.refl p1.toInt) c2168
                    refine lv_goto (tgt := 138) hx hb dX11_gathers_120 (by decide) ?_
                    refine lv_iconst (v := 1) hx hb dX11_gathers_138 (by decide) ?_
                    refine lv_goto (tgt := 143) hx hb dX11_gathers_139 (by decide) ?_
                    refine lv_istore (lv' := [(6, .int 1), (5, .int u2123), (4, .int 0), (3, .int u2052), (2, .int g743), (0, .ref o), (1, .int p1)]) hx hb dX11_gathers_143 hl (by decide) rfl (fun ls hl => ?_)
                    refine lv_iload hx hb dX11_gathers_145 (lv_at hl 0 rfl) ?_
                    refine lv_if_ne (tgt := 153) hx hb dX11_gathers_147 (by decide) (fun c2170 => ?_) (fun c2170 => ?_)
                    rotate_left
                    · exact absurd c2170 (by decide)
                    refine lv_aload_n hx hb dX11_gathers_153 rfl (lv_at hl 5 rfl) ?_
                    refine lv_dup hx hb dX11_gathers_154 rfl ?_
                    refine va_get (D := D) (ci := 11) (v := .int g744) (C := RX11) (T := TX11) (N := 49) hx hb hg inGX11 hown hKN.1 hP 0 rfl rfl 32 (by decide) (hg _ kw_1240) (fun _ h9 => h9) rfl dX11_gathers_155 ?_
                    refine lv_iconst (v := 1) hx hb dX11_gathers_158 (by decide) ?_
                    refine lv_iadd hx hb dX11_gathers_159 ?_
                    refine lv_topi (fun v2171 ev2171 => ?_)
                    refine va_put (D := D) (ci := 11) (v := .int v2171) (ty := .int) (C := RX11) (T := TX11) (N := 49) hx hb hg inGX11 tyX11 tyX11_ok nmX11 hown hKN.1 hP hD hS 0 rfl rfl 32 (by decide) (hg _ kw_1240) (fun _ h9 => h9) rfl (by decide +kernel) rfl rfl (Nat.le_of_ble_eq_true rfl) dX11_gathers_160 (fun H locs hP hD hS => ?_)
                    have hP : va_P D vwCl (MW Y o a (upd I 32 v2171) (vp_updL J 33 g745) F G) H := hP
                    have hD : va_D A (MW Y o a (upd I 32 v2171) (vp_updL J 33 g745) F G) := hD
                    refine lv_aload_n hx hb dX11_gathers_163 rfl (lv_at hl 5 rfl) ?_
                    refine lv_dup hx hb dX11_gathers_164 rfl ?_
                    refine va_get (D := D) (ci := 11) (v := .long g745) (C := RX11) (T := TX11) (N := 49) hx hb hg inGX11 hown hKN.1 hP 0 rfl rfl 33 (by decide) (hg _ kw_1241) (fun _ h9 => h9) rfl dX11_gathers_165 ?_
                    refine lv_aload_n hx hb dX11_gathers_168 rfl (lv_at hl 5 rfl) ?_
                    refine va_get (D := D) (ci := 11) (v := .ref (a 28)) (C := RX11) (T := TX11) (N := 49) hx hb hg inGX11 hown hKN.1 hP 0 rfl rfl 28 (by decide) (hg _ kw_1236) (fun _ h9 => h9) rfl dX11_gathers_169 ?_
                    refine lv_iload_n hx hb dX11_gathers_172 rfl (lv_at hl 4 rfl) ?_
                    refine va_iald hx hb hKN.1 hP 19 0 rfl rfl (vp_in_iff.mpr ⟨by omega, by omega⟩) dX11_gathers_173 ?_
                    refine lv_topi (fun v2172 ev2172 => ?_)
                    have ev2172 : v2172 = (F 28) g743.toNatClampNeg := ev2172
                    have qv2172 := congrArg Int32.toInt ev2172
                    have j2173 := rgI v2172
                    have j2174 := Int32.toInt_toInt64 v2172
                    refine lv_i2l (v := v2172.toInt64) hx hb dX11_gathers_174 (rfl) ?_
                    refine lv_ladd hx hb dX11_gathers_175 ?_
                    refine lv_topl (fun v2175 ev2175 => ?_)
                    refine va_put (D := D) (ci := 11) (v := .long v2175) (ty := .long) (C := RX11) (T := TX11) (N := 49) hx hb hg inGX11 tyX11 tyX11_ok nmX11 hown hKN.1 hP hD hS 0 rfl rfl 33 (by decide) (hg _ kw_1241) (fun _ h9 => h9) rfl (by decide +kernel) rfl rfl (Nat.le_of_ble_eq_true rfl) dX11_gathers_176 (fun H locs hP hD hS => ?_)
                    have hP : va_P D vwCl (MW Y o a (upd I 32 v2171) (vp_updL J 33 v2175) F G) H := hP
                    have hD : va_D A (MW Y o a (upd I 32 v2171) (vp_updL J 33 v2175) F G) := hD
                    have zi0 : (0 : Int32).toInt = 0 := by decide
                    refine W.widen (k := 0) (n := 0) (Nat.le_of_ble_eq_true rfl) (Nat.le_of_ble_eq_true rfl) ?_
                    exact jn2049 (u2052, v2171, v2175) H locs ls ⟨hP, hD, hS, lv_sub hl [3, 4, 5, 6] rfl⟩
            · skip
              have c2122 := i_nlt (Eq.refl v2120.toInt) (Eq.refl u2052.toInt) c2122
              refine lv_iconst (v := 1) hx hb dX11_gathers_81 (by decide) ?_
              refine lv_goto (tgt := 86) hx hb dX11_gathers_82 (by decide) ?_
              refine lv_istore (lv' := [(4, .int 1), (3, .int u2052), (2, .int g743), (0, .ref o), (1, .int p1)]) hx hb dX11_gathers_86 hl (by decide) rfl (fun ls hl => ?_)
              refine lv_iload_n hx hb dX11_gathers_88 rfl (lv_at hl 2 rfl) ?_
              refine lv_aload_n hx hb dX11_gathers_89 rfl (lv_at hl 3 rfl) ?_
              refine va_get (D := D) (ci := 11) (v := .int (I 34)) (C := RX11) (T := TX11) (N := 49) hx hb hg inGX11 hown hKN.1 hP 0 rfl rfl 34 (by decide) (hg _ kw_1242) (fun _ h9 => h9) rfl dX11_gathers_90 ?_
              refine lv_aload_n hx hb dX11_gathers_93 rfl (lv_at hl 3 rfl) ?_
              refine va_get (D := D) (ci := 11) (v := .int (I 36)) (C := RX11) (T := TX11) (N := 49) hx hb hg inGX11 hown hKN.1 hP 0 rfl rfl 36 (by decide) (hg _ kw_1244) (fun _ h9 => h9) rfl dX11_gathers_94 ?_
              refine cg0 (rn_S (As := [.int g743, .int (I 34), .int (I 36)]) (rest := []) (m_dipAt l D Y Z H.size   g743 (I 34) (I 36) (show (0 ≤ g743.toInt ∧ g743.toInt ≤ 599) by omega) (show (1 ≤ (I 34).toInt ∧ (I 34).toInt ≤ 400) by omega) (show (0 ≤ (I 36).toInt ∧ (I 36).toInt ≤ 400) by omega)) ⟨hx, hb, hml, hown, hg⟩ lk_X11_415 ⟨CP.blind, CP.at nilP hKN (nilD (A := fun _ => True))⟩ ⟨⟨rfl, rfl⟩, ⟨Nat.le_of_ble_eq_true rfl, Nat.le_of_ble_eq_true rfl⟩, ⟨Nat.le_of_ble_eq_true rfl, Nat.le_of_ble_eq_true rfl⟩⟩ hl.1 rfl (Nat.le_of_ble_eq_true rfl) dX11_gathers_97) hP hS hA (fun u2176 H locs w2177 hP hS => ?_)
              have w2177 : (-1 ≤ u2176.toInt ∧ u2176.toInt ≤ 599) ∧ ((g743.toInt < (I 36).toInt ∧ u2176.toInt = -1) ∨ ((I 36).toInt ≤ g743.toInt ∧ u2176.toInt = (g743.toInt - (I 36).toInt) / (I 34).toInt)) := w2177
              obtain ⟨hw2179, hw2180⟩ := w2177
              refine W.eq (g2 := F0 m 100 ls [.int u2176]) rfl ?_
              refine lv_istore (lv' := [(5, .int u2176), (4, .int 1), (3, .int u2052), (2, .int g743), (0, .ref o), (1, .int p1)]) hx hb dX11_gathers_100 hl (by decide) rfl (fun ls hl => ?_)
              refine lv_iload_n hx hb dX11_gathers_102 rfl (lv_at hl 5 rfl) ?_
              refine lv_iconst (v := 4) hx hb dX11_gathers_103 (by decide) ?_
              have j2190 := rgI p1
              refine lv_icmp_eq (tgt := 138) hx hb dX11_gathers_104 (by decide) (fun c2191 => ?_) (fun c2191 => ?_)
              · skip
                have c2191 := i_eq (Eq.refl p1.toInt) (show (4 : Int32).toInt = 4 by decide) c2191
                refine lv_iconst (v := 1) hx hb dX11_gathers_138 (by decide) ?_
                refine lv_goto (tgt := 143) hx hb dX11_gathers_139 (by decide) ?_
                refine lv_istore (lv' := [(6, .int 1), (5, .int u2176), (4, .int 1), (3, .int u2052), (2, .int g743), (0, .ref o), (1, .int p1)]) hx hb dX11_gathers_143 hl (by decide) rfl (fun ls hl => ?_)
                refine lv_iload hx hb dX11_gathers_145 (lv_at hl 0 rfl) ?_
                refine lv_if_ne (tgt := 153) hx hb dX11_gathers_147 (by decide) (fun c2192 => ?_) (fun c2192 => ?_)
                rotate_left
                · exact absurd c2192 (by decide)
                refine lv_aload_n hx hb dX11_gathers_153 rfl (lv_at hl 5 rfl) ?_
                refine lv_dup hx hb dX11_gathers_154 rfl ?_
                refine va_get (D := D) (ci := 11) (v := .int g744) (C := RX11) (T := TX11) (N := 49) hx hb hg inGX11 hown hKN.1 hP 0 rfl rfl 32 (by decide) (hg _ kw_1240) (fun _ h9 => h9) rfl dX11_gathers_155 ?_
                refine lv_iconst (v := 1) hx hb dX11_gathers_158 (by decide) ?_
                refine lv_iadd hx hb dX11_gathers_159 ?_
                refine lv_topi (fun v2193 ev2193 => ?_)
                refine va_put (D := D) (ci := 11) (v := .int v2193) (ty := .int) (C := RX11) (T := TX11) (N := 49) hx hb hg inGX11 tyX11 tyX11_ok nmX11 hown hKN.1 hP hD hS 0 rfl rfl 32 (by decide) (hg _ kw_1240) (fun _ h9 => h9) rfl (by decide +kernel) rfl rfl (Nat.le_of_ble_eq_true rfl) dX11_gathers_160 (fun H locs hP hD hS => ?_)
                have hP : va_P D vwCl (MW Y o a (upd I 32 v2193) (vp_updL J 33 g745) F G) H := hP
                have hD : va_D A (MW Y o a (upd I 32 v2193) (vp_updL J 33 g745) F G) := hD
                refine lv_aload_n hx hb dX11_gathers_163 rfl (lv_at hl 5 rfl) ?_
                refine lv_dup hx hb dX11_gathers_164 rfl ?_
                refine va_get (D := D) (ci := 11) (v := .long g745) (C := RX11) (T := TX11) (N := 49) hx hb hg inGX11 hown hKN.1 hP 0 rfl rfl 33 (by decide) (hg _ kw_1241) (fun _ h9 => h9) rfl dX11_gathers_165 ?_
                refine lv_aload_n hx hb dX11_gathers_168 rfl (lv_at hl 5 rfl) ?_
                refine va_get (D := D) (ci := 11) (v := .ref (a 28)) (C := RX11) (T := TX11) (N := 49) hx hb hg inGX11 hown hKN.1 hP 0 rfl rfl 28 (by decide) (hg _ kw_1236) (fun _ h9 => h9) rfl dX11_gathers_169 ?_
                refine lv_iload_n hx hb dX11_gathers_172 rfl (lv_at hl 4 rfl) ?_
                refine va_iald hx hb hKN.1 hP 19 0 rfl rfl (vp_in_iff.mpr ⟨by omega, by omega⟩) dX11_gathers_173 ?_
                refine lv_topi (fun v2194 ev2194 => ?_)
                have ev2194 : v2194 = (F 28) g743.toNatClampNeg := ev2194
                have qv2194 := congrArg Int32.toInt ev2194
                have j2195 := rgI v2194
                have j2196 := Int32.toInt_toInt64 v2194
                refine lv_i2l (v := v2194.toInt64) hx hb dX11_gathers_174 (rfl) ?_
                refine lv_ladd hx hb dX11_gathers_175 ?_
                refine lv_topl (fun v2197 ev2197 => ?_)
                refine va_put (D := D) (ci := 11) (v := .long v2197) (ty := .long) (C := RX11) (T := TX11) (N := 49) hx hb hg inGX11 tyX11 tyX11_ok nmX11 hown hKN.1 hP hD hS 0 rfl rfl 33 (by decide) (hg _ kw_1241) (fun _ h9 => h9) rfl (by decide +kernel) rfl rfl (Nat.le_of_ble_eq_true rfl) dX11_gathers_176 (fun H locs hP hD hS => ?_)
                have hP : va_P D vwCl (MW Y o a (upd I 32 v2193) (vp_updL J 33 v2197) F G) H := hP
                have hD : va_D A (MW Y o a (upd I 32 v2193) (vp_updL J 33 v2197) F G) := hD
                refine W.widen (k := 0) (n := 0) (Nat.le_of_ble_eq_true rfl) (Nat.le_of_ble_eq_true rfl) ?_
                exact jn2049 (u2052, v2193, v2197) H locs ls ⟨hP, hD, hS, lv_sub hl [3, 4, 5, 6] rfl⟩
              · skip
                have c2191 := i_ne (Eq.refl p1.toInt) (show (4 : Int32).toInt = 4 by decide) c2191
                refine lv_iload_n hx hb dX11_gathers_107 rfl (lv_at hl 5 rfl) ?_
                refine lv_iconst (v := 2) hx hb dX11_gathers_108 (by decide) ?_
                refine lv_icmp_ge (tgt := 123) hx hb dX11_gathers_109 (by decide) (fun c2205 => ?_) (fun c2205 => ?_)
                · skip
                  have c2205 := i_le (show (2 : Int32).toInt = 2 by decide) (Eq.refl p1.toInt) c2205
                  refine lv_iload hx hb dX11_gathers_123 (lv_at hl 1 rfl) ?_
                  refine lv_iload_n hx hb dX11_gathers_125 rfl (lv_at hl 5 rfl) ?_
                  refine lv_iconst (v := 2) hx hb dX11_gathers_126 (by decide) ?_
                  refine lv_icmp_ne (tgt := 134) hx hb dX11_gathers_127 (by decide) (fun c2207 => ?_) (fun c2207 => ?_)
                  · skip
                    have c2207 := i_ne (Eq.refl p1.toInt) (show (2 : Int32).toInt = 2 by decide) c2207
                    refine lv_iconst (v := 0) hx hb dX11_gathers_134 (by decide) ?_
                    refine lv_icmp_ne (tgt := 142) hx hb dX11_gathers_135 (by decide) (fun c2209 => ?_) (fun c2209 => ?_)
                    rotate_left
                    · exact absurd c2209 (by decide)
                    refine lv_iconst (v := 0) hx hb dX11_gathers_142 (by decide) ?_
                    refine lv_istore (lv' := [(6, .int 0), (5, .int u2176), (4, .int 1), (3, .int u2052), (2, .int g743), (0, .ref o), (1, .int p1)]) hx hb dX11_gathers_143 hl (by decide) rfl (fun ls hl => ?_)
                    refine lv_iload hx hb dX11_gathers_145 (lv_at hl 0 rfl) ?_
                    refine lv_if_ne (tgt := 153) hx hb dX11_gathers_147 (by decide) (fun c2210 => ?_) (fun c2210 => ?_)
                    · exact absurd c2210 (by decide)
                    refine lv_goto (tgt := 179) hx hb dX11_gathers_150 (by decide) ?_
                    have zi0 : (0 : Int32).toInt = 0 := by decide
                    refine W.widen (k := 0) (n := 0) (Nat.le_of_ble_eq_true rfl) (Nat.le_of_ble_eq_true rfl) ?_
                    exact jn2049 (u2052, g744, g745) H locs ls ⟨hP, hD, hS, lv_sub hl [3, 4, 5, 6] rfl⟩
                  · skip
                    have c2207 := i_eq (Eq.refl p1.toInt) (show (2 : Int32).toInt = 2 by decide) c2207
                    refine lv_iconst (v := 1) hx hb dX11_gathers_130 (by decide) ?_
                    refine lv_goto (tgt := 135) hx hb dX11_gathers_131 (by decide) ?_
                    refine lv_icmp_ne (tgt := 142) hx hb dX11_gathers_135 (by decide) (fun c2212 => ?_) (fun c2212 => ?_)
                    · exact absurd c2212 (by decide)
                    refine lv_iconst (v := 1) hx hb dX11_gathers_138 (by decide) ?_
                    refine lv_goto (tgt := 143) hx hb dX11_gathers_139 (by decide) ?_
                    refine lv_istore (lv' := [(6, .int 1), (5, .int u2176), (4, .int 1), (3, .int u2052), (2, .int g743), (0, .ref o), (1, .int p1)]) hx hb dX11_gathers_143 hl (by decide) rfl (fun ls hl => ?_)
                    refine lv_iload hx hb dX11_gathers_145 (lv_at hl 0 rfl) ?_
                    refine lv_if_ne (tgt := 153) hx hb dX11_gathers_147 (by decide) (fun c2213 => ?_) (fun c2213 => ?_)
                    rotate_left
                    · exact absurd c2213 (by decide)
                    refine lv_aload_n hx hb dX11_gathers_153 rfl (lv_at hl 5 rfl) ?_
                    refine lv_dup hx hb dX11_gathers_154 rfl ?_
                    refine va_get (D := D) (ci := 11) (v := .int g744) (C := RX11) (T := TX11) (N := 49) hx hb hg inGX11 hown hKN.1 hP 0 rfl rfl 32 (by decide) (hg _ kw_1240) (fun _ h9 => h9) rfl dX11_gathers_155 ?_
                    refine lv_iconst (v := 1) hx hb dX11_gathers_158 (by decide) ?_
                    refine lv_iadd hx hb dX11_gathers_159 ?_
                    refine lv_topi (fun v2214 ev2214 => ?_)
                    refine va_put (D := D) (ci := 11) (v := .int v2214) (ty := .int) (C := RX11) (T := TX11) (N := 49) hx hb hg inGX11 tyX11 tyX11_ok nmX11 hown hKN.1 hP hD hS 0 rfl rfl 32 (by decide) (hg _ kw_1240) (fun _ h9 => h9) rfl (by decide +kernel) rfl rfl (Nat.le_of_ble_eq_true rfl) dX11_gathers_160 (fun H locs hP hD hS => ?_)
                    have hP : va_P D vwCl (MW Y o a (upd I 32 v2214) (vp_updL J 33 g745) F G) H := hP
                    have hD : va_D A (MW Y o a (upd I 32 v2214) (vp_updL J 33 g745) F G) := hD
                    refine lv_aload_n hx hb dX11_gathers_163 rfl (lv_at hl 5 rfl) ?_
                    refine lv_dup hx hb dX11_gathers_164 rfl ?_
                    refine va_get (D := D) (ci := 11) (v := .long g745) (C := RX11) (T := TX11) (N := 49) hx hb hg inGX11 hown hKN.1 hP 0 rfl rfl 33 (by decide) (hg _ kw_1241) (fun _ h9 => h9) rfl dX11_gathers_165 ?_
                    refine lv_aload_n hx hb dX11_gathers_168 rfl (lv_at hl 5 rfl) ?_
                    refine va_get (D := D) (ci := 11) (v := .ref (a 28)) (C := RX11) (T := TX11) (N := 49) hx hb hg inGX11 hown hKN.1 hP 0 rfl rfl 28 (by decide) (hg _ kw_1236) (fun _ h9 => h9) rfl dX11_gathers_169 ?_
                    refine lv_iload_n hx hb dX11_gathers_172 rfl (lv_at hl 4 rfl) ?_
                    refine va_iald hx hb hKN.1 hP 19 0 rfl rfl (vp_in_iff.mpr ⟨by omega, by omega⟩) dX11_gathers_173 ?_
                    refine lv_topi (fun v2215 ev2215 => ?_)
                    have ev2215 : v2215 = (F 28) g743.toNatClampNeg := ev2215
                    have qv2215 := congrArg Int32.toInt ev2215
                    have j2216 := rgI v2215
                    have j2217 := Int32.toInt_toInt64 v2215
                    refine lv_i2l (v := v2215.toInt64) hx hb dX11_gathers_174 (rfl) ?_
                    refine lv_ladd hx hb dX11_gathers_175 ?_
                    refine lv_topl (fun v2218 ev2218 => ?_)
                    refine va_put (D := D) (ci := 11) (v := .long v2218) (ty := .long) (C := RX11) (T := TX11) (N := 49) hx hb hg inGX11 tyX11 tyX11_ok nmX11 hown hKN.1 hP hD hS 0 rfl rfl 33 (by decide) (hg _ kw_1241) (fun _ h9 => h9) rfl (by decide +kernel) rfl rfl (Nat.le_of_ble_eq_true rfl) dX11_gathers_176 (fun H locs hP hD hS => ?_)
                    have hP : va_P D vwCl (MW Y o a (upd I 32 v2214) (vp_updL J 33 v2218) F G) H := hP
                    have hD : va_D A (MW Y o a (upd I 32 v2214) (vp_updL J 33 v2218) F G) := hD
                    refine W.widen (k := 0) (n := 0) (Nat.le_of_ble_eq_true rfl) (Nat.le_of_ble_eq_true rfl) ?_
                    exact jn2049 (u2052, v2214, v2218) H locs ls ⟨hP, hD, hS, lv_sub hl [3, 4, 5, 6] rfl⟩
                · skip
                  have c2205 := i_nle (show (2 : Int32).toInt = 2 by decide) (Eq.refl p1.toInt) c2205
                  refine lv_iload hx hb dX11_gathers_112 (lv_at hl 0 rfl) ?_
                  refine lv_iconst (v := 1) hx hb dX11_gathers_114 (by decide) ?_
                  refine lv_iand hx hb dX11_gathers_115 ?_
                  refine lv_topi (fun v2219 ev2219 => ?_)
                  have hv2219 := i_and (show (1 : Int32).toInt = 1 by decide) ev2219 (by decide)
                  refine lv_iload_n hx hb dX11_gathers_116 rfl (lv_at hl 5 rfl) ?_
                  refine lv_icmp_ne (tgt := 142) hx hb dX11_gathers_117 (by decide) (fun c2221 => ?_) (fun c2221 => ?_)
                  · skip
                    have c2221 := i_ne (Eq.refl v2219.toInt) (Eq.refl p1.toInt) c2221
                    refine lv_iconst (v := 0) hx hb dX11_gathers_142 (by decide) ?_
                    refine lv_istore (lv' := [(6, .int 0), (5, .int u2176), (4, .int 1), (3, .int u2052), (2, .int g743), (0, .ref o), (1, .int p1)]) hx hb dX11_gathers_143 hl (by decide) rfl (fun ls hl => ?_)
                    refine lv_iload hx hb dX11_gathers_145 (lv_at hl 0 rfl) ?_
                    refine lv_if_ne (tgt := 153) hx hb dX11_gathers_147 (by decide) (fun c2222 => ?_) (fun c2222 => ?_)
                    · exact absurd c2222 (by decide)
                    refine lv_goto (tgt := 179) hx hb dX11_gathers_150 (by decide) ?_
                    have zi0 : (0 : Int32).toInt = 0 := by decide
                    refine W.widen (k := 0) (n := 0) (Nat.le_of_ble_eq_true rfl) (Nat.le_of_ble_eq_true rfl) ?_
                    exact jn2049 (u2052, g744, g745) H locs ls ⟨hP, hD, hS, lv_sub hl [3, 4, 5, 6] rfl⟩
                  · skip
                    have c2221 := i_eq (Eq.refl v2219.toInt) (Eq.refl p1.toInt) c2221
                    refine lv_goto (tgt := 138) hx hb dX11_gathers_120 (by decide) ?_
                    refine lv_iconst (v := 1) hx hb dX11_gathers_138 (by decide) ?_
                    refine lv_goto (tgt := 143) hx hb dX11_gathers_139 (by decide) ?_
                    refine lv_istore (lv' := [(6, .int 1), (5, .int u2176), (4, .int 1), (3, .int u2052), (2, .int g743), (0, .ref o), (1, .int p1)]) hx hb dX11_gathers_143 hl (by decide) rfl (fun ls hl => ?_)
                    refine lv_iload hx hb dX11_gathers_145 (lv_at hl 0 rfl) ?_
                    refine lv_if_ne (tgt := 153) hx hb dX11_gathers_147 (by decide) (fun c2223 => ?_) (fun c2223 => ?_)
                    rotate_left
                    · exact absurd c2223 (by decide)
                    refine lv_aload_n hx hb dX11_gathers_153 rfl (lv_at hl 5 rfl) ?_
                    refine lv_dup hx hb dX11_gathers_154 rfl ?_
                    refine va_get (D := D) (ci := 11) (v := .int g744) (C := RX11) (T := TX11) (N := 49) hx hb hg inGX11 hown hKN.1 hP 0 rfl rfl 32 (by decide) (hg _ kw_1240) (fun _ h9 => h9) rfl dX11_gathers_155 ?_
                    refine lv_iconst (v := 1) hx hb dX11_gathers_158 (by decide) ?_
                    refine lv_iadd hx hb dX11_gathers_159 ?_
                    refine lv_topi (fun v2224 ev2224 => ?_)
                    refine va_put (D := D) (ci := 11) (v := .int v2224) (ty := .int) (C := RX11) (T := TX11) (N := 49) hx hb hg inGX11 tyX11 tyX11_ok nmX11 hown hKN.1 hP hD hS 0 rfl rfl 32 (by decide) (hg _ kw_1240) (fun _ h9 => h9) rfl (by decide +kernel) rfl rfl (Nat.le_of_ble_eq_true rfl) dX11_gathers_160 (fun H locs hP hD hS => ?_)
                    have hP : va_P D vwCl (MW Y o a (upd I 32 v2224) (vp_updL J 33 g745) F G) H := hP
                    have hD : va_D A (MW Y o a (upd I 32 v2224) (vp_updL J 33 g745) F G) := hD
                    refine lv_aload_n hx hb dX11_gathers_163 rfl (lv_at hl 5 rfl) ?_
                    refine lv_dup hx hb dX11_gathers_164 rfl ?_
                    refine va_get (D := D) (ci := 11) (v := .long g745) (C := RX11) (T := TX11) (N := 49) hx hb hg inGX11 hown hKN.1 hP 0 rfl rfl 33 (by decide) (hg _ kw_1241) (fun _ h9 => h9) rfl dX11_gathers_165 ?_
                    refine lv_aload_n hx hb dX11_gathers_168 rfl (lv_at hl 5 rfl) ?_
                    refine va_get (D := D) (ci := 11) (v := .ref (a 28)) (C := RX11) (T := TX11) (N := 49) hx hb hg inGX11 hown hKN.1 hP 0 rfl rfl 28 (by decide) (hg _ kw_1236) (fun _ h9 => h9) rfl dX11_gathers_169 ?_
                    refine lv_iload_n hx hb dX11_gathers_172 rfl (lv_at hl 4 rfl) ?_
                    refine va_iald hx hb hKN.1 hP 19 0 rfl rfl (vp_in_iff.mpr ⟨by omega, by omega⟩) dX11_gathers_173 ?_
                    refine lv_topi (fun v2225 ev2225 => ?_)
                    have ev2225 : v2225 = (F 28) g743.toNatClampNeg := ev2225
                    have qv2225 := congrArg Int32.toInt ev2225
                    have j2226 := rgI v2225
                    have j2227 := Int32.toInt_toInt64 v2225
                    refine lv_i2l (v := v2225.toInt64) hx hb dX11_gathers_174 (rfl) ?_
                    refine lv_ladd hx hb dX11_gathers_175 ?_
                    refine lv_topl (fun v2228 ev2228 => ?_)
                    refine va_put (D := D) (ci := 11) (v := .long v2228) (ty := .long) (C := RX11) (T := TX11) (N := 49) hx hb hg inGX11 tyX11 tyX11_ok nmX11 hown hKN.1 hP hD hS 0 rfl rfl 33 (by decide) (hg _ kw_1241) (fun _ h9 => h9) rfl (by decide +kernel) rfl rfl (Nat.le_of_ble_eq_true rfl) dX11_gathers_176 (fun H locs hP hD hS => ?_)
                    have hP : va_P D vwCl (MW Y o a (upd I 32 v2224) (vp_updL J 33 v2228) F G) H := hP
                    have hD : va_D A (MW Y o a (upd I 32 v2224) (vp_updL J 33 v2228) F G) := hD
                    refine W.widen (k := 0) (n := 0) (Nat.le_of_ble_eq_true rfl) (Nat.le_of_ble_eq_true rfl) ?_
                    exact jn2049 (u2052, v2224, v2228) H locs ls ⟨hP, hD, hS, lv_sub hl [3, 4, 5, 6] rfl⟩
        · skip
          have c2057 := i_nlt (Eq.refl u2052.toInt) (Eq.refl (I 35).toInt) c2057
          refine lv_goto (tgt := 179) hx hb dX11_gathers_51 (by decide) ?_
          refine W.widen (k := 0) (n := 0) (Nat.le_of_ble_eq_true rfl) (Nat.le_of_ble_eq_true rfl) ?_
          exact jn2049 (u2052, g744, g745) H locs ls ⟨hP, hD, hS, lv_sub hl [0, 1, 2, 3] rfl⟩
    · obtain rfl : u1862 = 0 := i_is c1867 (by decide)
      have zi0 : (0 : Int32).toInt = 0 := by decide
      refine W.eq (g2 := F0 m 24 ls [.int 0]) rfl ?_
      refine lv_if_ne (tgt := 30) hx hb dX11_gathers_24 (by decide) (fun c2230 => ?_) (fun c2230 => ?_)
      · exact absurd c2230 (by decide)
      refine lv_goto (tgt := 179) hx hb dX11_gathers_27 (by decide) ?_
      obtain ⟨v2231, ev2231⟩ : ∃ y : Int32, y = g743 + 1 := ⟨_, rfl⟩
      have hv2231 := i_add (Eq.refl g743.toInt) (show (1 : Int32).toInt = 1 by decide) ev2231 (by omega) (by omega)
      refine lv_iinc (v := v2231) (lv' := [(2, .int v2231), (0, .ref o), (1, .int p1)]) hx hb dX11_gathers_179 hl (k := 0) rfl (by rw [ev2231]; rfl) (by decide) rfl (fun ls hl => ?_)
      refine lv_goto (tgt := 12) hx hb dX11_gathers_182 (by decide) ?_
      exact ih1489 (v2231, g744, g745) H locs ls (by show (600 - v2231.toInt).toNat < (600 - g743.toInt).toNat; omega) ⟨hP, hD, hS, lv_sub hl [0, 1, 2] rfl, by omega⟩
