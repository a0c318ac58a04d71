set_option maxHeartbeats 4000000 in
set_option maxRecDepth 100000 in
theorem x_X3_readFact_0 (l : Launch) (D : va_G) (Y : Nat → ClassId) (Z : Nat → Nat) (sz : Nat) (ws : va_W) (T : RT) (g : GN) (q : GQ)  (p0 : Nat) (hT : TW Y Z T g q ws) (ht0 : T p0 = (7, 0, 0)) : Met l yX3_readFact (.code yX3_readFact cX3_readFact 4 none :: GW) ({ frames := 27, cells := 0, slots := 0, locals := 626 }) (va_Pc [.ref p0, .int 0] (CPC D Y Z ws sz)) (QG (S := va_W) (fun _ => none) (fun u => TW Y Z T g q u ∧ KF 1 T ws u ∧ KF 6 T ws u) (fun u => CB D u (va_A ws sz)) (va_A ws sz)) 0 0 (va_A ws sz) := by
  refine Met.ofW (cc := cX3_readFact) (maxL := 4) (ret := none) (by decide) rfl ?_
  intro p e s m args below meth c s₁ B hml hv
  obtain ⟨rfl, ⟨hsz, hP, hKN, hD0⟩, hSZ⟩ := hv
  have hx := B.exec
  have hb := B.bytes
  have hr := B.returns
  have hts := atoms_spec (ws := .code yX3_readFact cX3_readFact 4 none :: GW) B.pre
  have hg : ∀ w ∈ GW, w.before _ s = true := fun w h => hts w (List.mem_cons_of_mem _ h)
  have hown : s.vm.findClass RX3 = some m.cls := findClass_of_methodNamed B.named
  have hlocks := B.notSynchronized
  subst hsz
  have hD := hD0.self (sz := s.heap.size)
  generalize hAe : va_A ws s.heap.size = A at hD hSZ ⊢
  have hA : ∀ q : Nat, s.heap.size ≤ q → A q := fun q h => by rw [← hAe]; exact Or.inr h
  clear hAe hD0 hts B
  have hl := lv_entry ([.ref p0, .int 0]) (n := 4) (Nat.le_of_ble_eq_true rfl)
  rw [lg_entry_eq]
  generalize (lg_sl ([.ref p0, .int 0]) ++ List.replicate (4 - (lg_sl ([.ref p0, .int 0])).length) Slot.unset).toArray = ls at hl ⊢
  have hl : lv_has ls 4 [(0, .ref p0), (1, .int 0)] := hl
  refine w_start (A0 := A) hP (fun H locs hP hS => ?_)
  refine lv_aload_n hx hb dX3_readFact_0 rfl (lv_at hl 0 rfl) ?_
  refine va_ldcS (q := Z 8) hx hb hown (hKN.2.2.2 8 (RX3, 158, "not") rfl) dX3_readFact_1 ?_
  refine ok7 hT ht0 (fun p21 n1 a2 x3 x4 x5 x6 x7 x8 x9 x10 a11 a12 x13 hk22 h14 h15 h16 h17 h18 h19 h20 => ?_)
  refine cga (rn_V (As := [.ref (Z 8)]) (rest := []) (b := p0) (x_X3_whichOf l D Y Z H.size ws T g q 8 p0 hT ht0 (by decide)) ⟨hx, hb, hml, hown, hg⟩ lk_X3_99 ⟨CPC.blind, va_recv hKN.1 hP (ci := 3) (q0 := p21) rfl hk22, CPC.at hP hKN hD hSZ hS hA⟩ ⟨⟨rfl, rfl⟩, ⟨Nat.le_of_ble_eq_true rfl, Nat.le_of_ble_eq_true rfl⟩, ⟨(Nat.le_of_ble_eq_true rfl), (Nat.le_of_ble_eq_true rfl)⟩⟩ hl.1 rfl (Nat.le_of_ble_eq_true rfl) dX3_readFact_3) hP hD hS hA (fun u23 H locs hw24 hP hD hS => ?_)
  refine W.eq (g2 := F0 m 6 ls [.int u23]) rfl ?_
  have j26 := rgI u23
  refine lv_if_ne (tgt := 13) hx hb dX3_readFact_6 (by decide) (fun c27 => ?_) (fun c27 => ?_)
  · skip
    have c27 := i_ne (Eq.refl u23.toInt) (show (0 : Int32).toInt = 0 by decide) c27
    refine lv_iconst (v := 0) hx hb dX3_readFact_13 (by decide) ?_
    refine lv_istore_n (lv' := [(2, .int 0), (0, .ref p0), (1, .int 0)]) hx hb dX3_readFact_14 rfl hl (by decide) rfl (fun ls hl => ?_)
    refine lv_iload_n hx hb dX3_readFact_15 rfl (lv_at hl 0 rfl) ?_
    refine lv_if_ne (tgt := 28) hx hb dX3_readFact_16 (by decide) (fun c28 => ?_) (fun c28 => ?_)
    · exact absurd c28 (by decide)
    refine lv_aload_n hx hb dX3_readFact_19 rfl (lv_at hl 1 rfl) ?_
    refine va_get (D := D) (ci := 3) (v := .int x5) (C := RX3) (T := TX3) (N := 12) hx hb hg inGX3 hown hKN.1 hP p21 hk22 rfl 3 (by decide) (hg _ kw_181) (fun _ h9 => h9) rfl dX3_readFact_20 ?_
    refine lv_bipush (v := 91) hx hb dX3_readFact_23 (by decide) ?_
    have j29 := rgI x5
    refine lv_icmp_ne (tgt := 42) hx hb dX3_readFact_25 (by decide) (fun c30 => ?_) (fun c30 => ?_)
    · skip
      have c30 := i_ne (Eq.refl x5.toInt) (show (91 : Int32).toInt = 91 by decide) c30
      refine lv_iload_n hx hb dX3_readFact_42 rfl (lv_at hl 0 rfl) ?_
      refine lv_if_eq (tgt := 69) hx hb dX3_readFact_43 (by decide) (fun c31 => ?_) (fun c31 => ?_)
      rotate_left
      · exact absurd c31 (by decide)
      refine lv_aload_n hx hb dX3_readFact_69 rfl (lv_at hl 1 rfl) ?_
      refine va_get (D := D) (ci := 3) (v := .int x5) (C := RX3) (T := TX3) (N := 12) hx hb hg inGX3 hown hKN.1 hP p21 hk22 rfl 3 (by decide) (hg _ kw_181) (fun _ h9 => h9) rfl dX3_readFact_70 ?_
      refine lv_bipush (v := 91) hx hb dX3_readFact_73 (by decide) ?_
      refine lv_icmp_ne (tgt := 98) hx hb dX3_readFact_75 (by decide) (fun c32 => ?_) (fun c32 => ?_)
      · skip
        have c32 := i_ne (Eq.refl x5.toInt) (show (91 : Int32).toInt = 91 by decide) c32
        refine lv_aload_n hx hb dX3_readFact_98 rfl (lv_at hl 1 rfl) ?_
        refine cga (rn_V (As := []) (rest := []) (b := p0) (x_X3_readSum l D Y Z H.size ws T g q p0 hT ht0) ⟨hx, hb, hml, hown, hg⟩ lk_X3_115 ⟨CPC.blind, va_recv hKN.1 hP (ci := 3) (q0 := p21) rfl hk22, CPC.at hP hKN hD hSZ hS hA⟩ ⟨⟨rfl, rfl⟩, ⟨Nat.le_of_ble_eq_true rfl, Nat.le_of_ble_eq_true rfl⟩, ⟨(Nat.le_of_ble_eq_true rfl), (Nat.le_of_ble_eq_true rfl)⟩⟩ hl.1 rfl (Nat.le_of_ble_eq_true rfl) dX3_readFact_99) hP hD hS hA (fun u33 H locs hw34 hP hD hS => ?_)
        obtain ⟨hT, ke36, ke37⟩ : TW Y Z T g q u33 ∧ KF 1 T ws u33 ∧ KF 6 T ws u33 := hw34
        have ke38 : KF 1 T ws u33 := KF.tr KF.rf ke36
        have ke39 : KF 6 T ws u33 := KF.tr KF.rf ke37
        refine W.eq (g2 := F0 m 102 ls []) rfl ?_
        refine lv_aload_n hx hb dX3_readFact_102 rfl (lv_at hl 1 rfl) ?_
        refine ok7 hT ht0 (fun p60 n40 a41 x42 x43 x44 x45 x46 x47 x48 x49 a50 a51 x52 hk61 h53 h54 h55 h56 h57 h58 h59 => ?_)
        refine va_get (D := D) (ci := 3) (v := .int x44) (C := RX3) (T := TX3) (N := 12) hx hb hg inGX3 hown hKN.1 hP p60 hk61 rfl 3 (by decide) (hg _ kw_181) (fun _ h9 => h9) rfl dX3_readFact_103 ?_
        refine lv_istore_n (lv' := [(3, .int x44), (2, .int 0), (0, .ref p0), (1, .int 0)]) hx hb dX3_readFact_106 rfl hl (by decide) rfl (fun ls hl => ?_)
        refine lv_aload_n hx hb dX3_readFact_107 rfl (lv_at hl 2 rfl) ?_
        refine cga (rn_V (As := []) (rest := []) (b := p0) (x_X3_readSign l D Y Z H.size u33 T g q p0 hT ht0) ⟨hx, hb, hml, hown, hg⟩ lk_X3_161 ⟨CPC.blind, va_recv hKN.1 hP (ci := 3) (q0 := p60) rfl hk61, CPC.at hP hKN hD hSZ hS hA⟩ ⟨⟨rfl, rfl⟩, ⟨Nat.le_of_ble_eq_true rfl, Nat.le_of_ble_eq_true rfl⟩, ⟨(Nat.le_of_ble_eq_true rfl), (Nat.le_of_ble_eq_true rfl)⟩⟩ hl.1 rfl (Nat.le_of_ble_eq_true rfl) dX3_readFact_108) hP hD hS hA (fun u62 H locs hw63 hP hD hS => ?_)
        obtain ⟨hT, ke65, ke66⟩ : TW Y Z T g q u62 ∧ KF 1 T u33 u62 ∧ KF 6 T u33 u62 := hw63
        have ke67 : KF 1 T ws u62 := KF.tr ke38 ke65
        have ke68 : KF 6 T ws u62 := KF.tr ke39 ke66
        refine W.eq (g2 := F0 m 111 ls []) rfl ?_
        refine lv_aload_n hx hb dX3_readFact_111 rfl (lv_at hl 2 rfl) ?_
        refine ok7 hT ht0 (fun p89 n69 a70 x71 x72 x73 x74 x75 x76 x77 x78 a79 a80 x81 hk90 h82 h83 h84 h85 h86 h87 h88 => ?_)
        refine va_get (D := D) (ci := 3) (v := .int x76) (C := RX3) (T := TX3) (N := 12) hx hb hg inGX3 hown hKN.1 hP p89 hk90 rfl 6 (by decide) (hg _ kw_184) (fun _ h9 => h9) rfl dX3_readFact_112 ?_
        have j91 := rgI x76
        refine lv_if_ne (tgt := 133) hx hb dX3_readFact_115 (by decide) (fun c92 => ?_) (fun c92 => ?_)
        · skip
          have c92 := i_ne (Eq.refl x76.toInt) (show (0 : Int32).toInt = 0 by decide) c92
          refine W.widen (k := 0) (n := 0) (Nat.le_of_ble_eq_true rfl) (Nat.le_of_ble_eq_true rfl) ?_
          have zi0 : (0 : Int32).toInt = 0 := by decide
          exact W.vret hx hb hr (fun t ht hW => ⟨⟨u62, rfl, ⟨hT, ke67, ke68⟩, CB.mk ht hP hD⟩, hS.F ht⟩) hS.2.2 dX3_readFact_133
        · skip
          have c92 := i_eq (Eq.refl x76.toInt) (show (0 : Int32).toInt = 0 by decide) c92
          refine lv_aload_n hx hb dX3_readFact_118 rfl (lv_at hl 2 rfl) ?_
          refine cga (rn_V (As := []) (rest := []) (b := p0) (x_X3_readSum l D Y Z H.size u62 T g q p0 hT ht0) ⟨hx, hb, hml, hown, hg⟩ lk_X3_115 ⟨CPC.blind, va_recv hKN.1 hP (ci := 3) (q0 := p89) rfl hk90, CPC.at hP hKN hD hSZ hS hA⟩ ⟨⟨rfl, rfl⟩, ⟨Nat.le_of_ble_eq_true rfl, Nat.le_of_ble_eq_true rfl⟩, ⟨(Nat.le_of_ble_eq_true rfl), (Nat.le_of_ble_eq_true rfl)⟩⟩ hl.1 rfl (Nat.le_of_ble_eq_true rfl) dX3_readFact_119) hP hD hS hA (fun u93 H locs hw94 hP hD hS => ?_)
          obtain ⟨hT, ke96, ke97⟩ : TW Y Z T g q u93 ∧ KF 1 T u62 u93 ∧ KF 6 T u62 u93 := hw94
          have ke98 : KF 1 T ws u93 := KF.tr ke67 ke96
          have ke99 : KF 6 T ws u93 := KF.tr ke68 ke97
          refine W.eq (g2 := F0 m 122 ls []) rfl ?_
          refine lv_aload_n hx hb dX3_readFact_122 rfl (lv_at hl 2 rfl) ?_
          refine ok7 hT ht0 (fun p120 n100 a101 x102 x103 x104 x105 x106 x107 x108 x109 a110 a111 x112 hk121 h113 h114 h115 h116 h117 h118 h119 => ?_)
          refine va_get (D := D) (ci := 3) (v := .ref a111) (C := RX3) (T := TX3) (N := 12) hx hb hg inGX3 hown hKN.1 hP p120 hk121 rfl 10 (by decide) (hg _ kw_188) (fun _ h9 => h9) rfl dX3_readFact_123 ?_
          refine lv_ldc (v := 200000) hx hb hown (hg _ kw_717) dX3_readFact_126 ?_
          refine lv_iload_n hx hb dX3_readFact_128 rfl (lv_at hl 0 rfl) ?_
          refine lv_iadd hx hb dX3_readFact_129 ?_
          refine lv_topi (fun v122 ev122 => ?_)
          refine ok5 hT h117 (fun p144 x123 x124 x125 x126 x127 x128 x129 x130 a131 a132 a133 a134 a135 x136 hk145 h137 h138 h139 h140 h141 h142 h143 => ?_)
          refine cga (rn_NV (As := [.int v122]) (rest := []) (b := a111) (x_X8_addCode l D Y Z H.size u93 T g q a111 v122 hT h117) ⟨hx, hb, hml, hown, hg⟩ hKN lk_X3_154 ⟨CPC.blind, va_recv hKN.1 hP (ci := 8) (q0 := p144) rfl hk145, CPC.at hP hKN hD hSZ hS hA⟩ ⟨⟨rfl, rfl⟩, ⟨Nat.le_of_ble_eq_true rfl, Nat.le_of_ble_eq_true rfl⟩, ⟨(Nat.le_of_ble_eq_true rfl), (Nat.le_of_ble_eq_true rfl)⟩⟩ hl.1 rfl (Nat.le_of_ble_eq_true rfl) dX3_readFact_130) hP hD hS hA (fun u146 H locs hw147 hP hD hS => ?_)
          obtain ⟨hT, ke149, ke150⟩ : TW Y Z T g q u146 ∧ KF 1 T u93 u146 ∧ KF 6 T u93 u146 := hw147
          have ke151 : KF 1 T ws u146 := KF.tr ke98 ke149
          have ke152 : KF 6 T ws u146 := KF.tr ke99 ke150
          refine W.eq (g2 := F0 m 133 ls []) rfl ?_
          refine W.widen (k := 0) (n := 0) (Nat.le_of_ble_eq_true rfl) (Nat.le_of_ble_eq_true rfl) ?_
          have zi0 : (0 : Int32).toInt = 0 := by decide
          exact W.vret hx hb hr (fun t ht hW => ⟨⟨u146, rfl, ⟨hT, ke151, ke152⟩, CB.mk ht hP hD⟩, hS.F ht⟩) hS.2.2 dX3_readFact_133
      · skip
        have c32 := i_eq (Eq.refl x5.toInt) (show (91 : Int32).toInt = 91 by decide) c32
        refine lv_aload_n hx hb dX3_readFact_78 rfl (lv_at hl 1 rfl) ?_
        refine cga (rn_V (As := []) (rest := []) (b := p0) (x_X3_step l D Y Z H.size ws T g q p0 hT ht0) ⟨hx, hb, hml, hown, hg⟩ lk_X3_61 ⟨CPC.blind, va_recv hKN.1 hP (ci := 3) (q0 := p21) rfl hk22, CPC.at hP hKN hD hSZ hS hA⟩ ⟨⟨rfl, rfl⟩, ⟨Nat.le_of_ble_eq_true rfl, Nat.le_of_ble_eq_true rfl⟩, ⟨(Nat.le_of_ble_eq_true rfl), (Nat.le_of_ble_eq_true rfl)⟩⟩ hl.1 rfl (Nat.le_of_ble_eq_true rfl) dX3_readFact_79) hP hD hS hA (fun u153 H locs hw154 hP hD hS => ?_)
        obtain ⟨hT, ke156, ke157⟩ : TW Y Z T g q u153 ∧ KF 1 T ws u153 ∧ KF 6 T ws u153 := hw154
        have ke158 : KF 1 T ws u153 := KF.tr KF.rf ke156
        have ke159 : KF 6 T ws u153 := KF.tr KF.rf ke157
        refine W.eq (g2 := F0 m 82 ls []) rfl ?_
        refine lv_aload_n hx hb dX3_readFact_82 rfl (lv_at hl 1 rfl) ?_
        refine lv_iload_n hx hb dX3_readFact_83 rfl (lv_at hl 2 rfl) ?_
        refine lv_iconst (v := 1) hx hb dX3_readFact_84 (by decide) ?_
        refine lv_iadd hx hb dX3_readFact_85 ?_
        refine lv_topi (fun z160 ez160 => ?_)
        obtain rfl : z160 = 1 := ez160.trans (by decide)
        have zi1 : (1 : Int32).toInt = 1 := by decide
        refine ok7 hT ht0 (fun p181 n161 a162 x163 x164 x165 x166 x167 x168 x169 x170 a171 a172 x173 hk182 h174 h175 h176 h177 h178 h179 h180 => ?_)
        refine cga (rn_V (As := [.int 1]) (rest := []) (b := p0) (x_X3_readTest_1 l D Y Z H.size u153 T g q p0 hT ht0) ⟨hx, hb, hml, hown, hg⟩ lk_X3_123 ⟨CPC.blind, va_recv hKN.1 hP (ci := 3) (q0 := p181) rfl hk182, CPC.at hP hKN hD hSZ hS hA⟩ ⟨⟨rfl, rfl⟩, ⟨Nat.le_of_ble_eq_true rfl, Nat.le_of_ble_eq_true rfl⟩, ⟨(Nat.le_of_ble_eq_true rfl), (Nat.le_of_ble_eq_true rfl)⟩⟩ hl.1 rfl (Nat.le_of_ble_eq_true rfl) dX3_readFact_86) hP hD hS hA (fun u183 H locs hw184 hP hD hS => ?_)
        obtain ⟨hT, ke186, ke187⟩ : TW Y Z T g q u183 ∧ KF 1 T u153 u183 ∧ KF 6 T u153 u183 := hw184
        have ke188 : KF 1 T ws u183 := KF.tr ke158 ke186
        have ke189 : KF 6 T ws u183 := KF.tr ke159 ke187
        refine W.eq (g2 := F0 m 89 ls []) rfl ?_
        refine lv_aload_n hx hb dX3_readFact_89 rfl (lv_at hl 1 rfl) ?_
        refine lv_bipush (v := 93) hx hb dX3_readFact_90 (by decide) ?_
        have zi93 : (93 : Int32).toInt = 93 := by decide
        refine ok7 hT ht0 (fun p210 n190 a191 x192 x193 x194 x195 x196 x197 x198 x199 a200 a201 x202 hk211 h203 h204 h205 h206 h207 h208 h209 => ?_)
        refine cga (rn_V (As := [.int 93]) (rest := []) (b := p0) (x_X3_expect l D Y Z H.size u183 T g q p0 93 hT ht0) ⟨hx, hb, hml, hown, hg⟩ lk_X3_71 ⟨CPC.blind, va_recv hKN.1 hP (ci := 3) (q0 := p210) rfl hk211, CPC.at hP hKN hD hSZ hS hA⟩ ⟨⟨rfl, rfl⟩, ⟨Nat.le_of_ble_eq_true rfl, Nat.le_of_ble_eq_true rfl⟩, ⟨(Nat.le_of_ble_eq_true rfl), (Nat.le_of_ble_eq_true rfl)⟩⟩ hl.1 rfl (Nat.le_of_ble_eq_true rfl) dX3_readFact_92) hP hD hS hA (fun u212 H locs hw213 hP hD hS => ?_)
        obtain ⟨hT, ke215, ke216⟩ : TW Y Z T g q u212 ∧ KF 1 T u183 u212 ∧ KF 6 T u183 u212 := hw213
        have ke217 : KF 1 T ws u212 := KF.tr ke188 ke215
        have ke218 : KF 6 T ws u212 := KF.tr ke189 ke216
        refine W.eq (g2 := F0 m 95 ls []) rfl ?_
        refine lv_goto (tgt := 133) hx hb dX3_readFact_95 (by decide) ?_
        refine W.widen (k := 0) (n := 0) (Nat.le_of_ble_eq_true rfl) (Nat.le_of_ble_eq_true rfl) ?_
        have zi0 : (0 : Int32).toInt = 0 := by decide
        exact W.vret hx hb hr (fun t ht hW => ⟨⟨u212, rfl, ⟨hT, ke217, ke218⟩, CB.mk ht hP hD⟩, hS.F ht⟩) hS.2.2 dX3_readFact_133
    · skip
      have c30 := i_eq (Eq.refl x5.toInt) (show (91 : Int32).toInt = 91 by decide) c30
      refine lv_iload_n hx hb dX3_readFact_28 rfl (lv_at hl 2 rfl) ?_
      refine lv_bipush (v := 10) hx hb dX3_readFact_29 (by decide) ?_
      refine lv_icmp_lt (tgt := 42) hx hb dX3_readFact_31 (by decide) (fun c219 => ?_) (fun c219 => ?_)
      rotate_left
      · exact absurd c219 (by decide)
      refine lv_iload_n hx hb dX3_readFact_42 rfl (lv_at hl 0 rfl) ?_
      refine lv_if_eq (tgt := 69) hx hb dX3_readFact_43 (by decide) (fun c220 => ?_) (fun c220 => ?_)
      rotate_left
      · exact absurd c220 (by decide)
      refine lv_aload_n hx hb dX3_readFact_69 rfl (lv_at hl 1 rfl) ?_
      refine va_get (D := D) (ci := 3) (v := .int x5) (C := RX3) (T := TX3) (N := 12) hx hb hg inGX3 hown hKN.1 hP p21 hk22 rfl 3 (by decide) (hg _ kw_181) (fun _ h9 => h9) rfl dX3_readFact_70 ?_
      refine lv_bipush (v := 91) hx hb dX3_readFact_73 (by decide) ?_
      refine lv_icmp_ne (tgt := 98) hx hb dX3_readFact_75 (by decide) (fun c221 => ?_) (fun c221 => ?_)
      · have c221 := i_ne (Eq.refl x5.toInt) (show (91 : Int32).toInt = 91 by decide) c221; exfalso; omega
      have c221 := i_eq (Eq.refl x5.toInt) (show (91 : Int32).toInt = 91 by decide) c221
      refine lv_aload_n hx hb dX3_readFact_78 rfl (lv_at hl 1 rfl) ?_
      refine cga (rn_V (As := []) (rest := []) (b := p0) (x_X3_step l D Y Z H.size ws T g q p0 hT ht0) ⟨hx, hb, hml, hown, hg⟩ lk_X3_61 ⟨CPC.blind, va_recv hKN.1 hP (ci := 3) (q0 := p21) rfl hk22, CPC.at hP hKN hD hSZ hS hA⟩ ⟨⟨rfl, rfl⟩, ⟨Nat.le_of_ble_eq_true rfl, Nat.le_of_ble_eq_true rfl⟩, ⟨(Nat.le_of_ble_eq_true rfl), (Nat.le_of_ble_eq_true rfl)⟩⟩ hl.1 rfl (Nat.le_of_ble_eq_true rfl) dX3_readFact_79) hP hD hS hA (fun u222 H locs hw223 hP hD hS => ?_)
      obtain ⟨hT, ke225, ke226⟩ : TW Y Z T g q u222 ∧ KF 1 T ws u222 ∧ KF 6 T ws u222 := hw223
      have ke227 : KF 1 T ws u222 := KF.tr KF.rf ke225
      have ke228 : KF 6 T ws u222 := KF.tr KF.rf ke226
      refine W.eq (g2 := F0 m 82 ls []) rfl ?_
      refine lv_aload_n hx hb dX3_readFact_82 rfl (lv_at hl 1 rfl) ?_
      refine lv_iload_n hx hb dX3_readFact_83 rfl (lv_at hl 2 rfl) ?_
      refine lv_iconst (v := 1) hx hb dX3_readFact_84 (by decide) ?_
      refine lv_iadd hx hb dX3_readFact_85 ?_
      refine lv_topi (fun z229 ez229 => ?_)
      obtain rfl : z229 = 1 := ez229.trans (by decide)
      have zi1 : (1 : Int32).toInt = 1 := by decide
      refine ok7 hT ht0 (fun p250 n230 a231 x232 x233 x234 x235 x236 x237 x238 x239 a240 a241 x242 hk251 h243 h244 h245 h246 h247 h248 h249 => ?_)
      refine cga (rn_V (As := [.int 1]) (rest := []) (b := p0) (x_X3_readTest_1 l D Y Z H.size u222 T g q p0 hT ht0) ⟨hx, hb, hml, hown, hg⟩ lk_X3_123 ⟨CPC.blind, va_recv hKN.1 hP (ci := 3) (q0 := p250) rfl hk251, CPC.at hP hKN hD hSZ hS hA⟩ ⟨⟨rfl, rfl⟩, ⟨Nat.le_of_ble_eq_true rfl, Nat.le_of_ble_eq_true rfl⟩, ⟨(Nat.le_of_ble_eq_true rfl), (Nat.le_of_ble_eq_true rfl)⟩⟩ hl.1 rfl (Nat.le_of_ble_eq_true rfl) dX3_readFact_86) hP hD hS hA (fun u252 H locs hw253 hP hD hS => ?_)
      obtain ⟨hT, ke255, ke256⟩ : TW Y Z T g q u252 ∧ KF 1 T u222 u252 ∧ KF 6 T u222 u252 := hw253
      have ke257 : KF 1 T ws u252 := KF.tr ke227 ke255
      have ke258 : KF 6 T ws u252 := KF.tr ke228 ke256
      refine W.eq (g2 := F0 m 89 ls []) rfl ?_
      refine lv_aload_n hx hb dX3_readFact_89 rfl (lv_at hl 1 rfl) ?_
      refine lv_bipush (v := 93) hx hb dX3_readFact_90 (by decide) ?_
      have zi93 : (93 : Int32).toInt = 93 := by decide
      refine ok7 hT ht0 (fun p279 n259 a260 x261 x262 x263 x264 x265 x266 x267 x268 a269 a270 x271 hk280 h272 h273 h274 h275 h276 h277 h278 => ?_)
      refine cga (rn_V (As := [.int 93]) (rest := []) (b := p0) (x_X3_expect l D Y Z H.size u252 T g q p0 93 hT ht0) ⟨hx, hb, hml, hown, hg⟩ lk_X3_71 ⟨CPC.blind, va_recv hKN.1 hP (ci := 3) (q0 := p279) rfl hk280, CPC.at hP hKN hD hSZ hS hA⟩ ⟨⟨rfl, rfl⟩, ⟨Nat.le_of_ble_eq_true rfl, Nat.le_of_ble_eq_true rfl⟩, ⟨(Nat.le_of_ble_eq_true rfl), (Nat.le_of_ble_eq_true rfl)⟩⟩ hl.1 rfl (Nat.le_of_ble_eq_true rfl) dX3_readFact_92) hP hD hS hA (fun u281 H locs hw282 hP hD hS => ?_)
      obtain ⟨hT, ke284, ke285⟩ : TW Y Z T g q u281 ∧ KF 1 T u252 u281 ∧ KF 6 T u252 u281 := hw282
      have ke286 : KF 1 T ws u281 := KF.tr ke257 ke284
      have ke287 : KF 6 T ws u281 := KF.tr ke258 ke285
      refine W.eq (g2 := F0 m 95 ls []) rfl ?_
      refine lv_goto (tgt := 133) hx hb dX3_readFact_95 (by decide) ?_
      refine W.widen (k := 0) (n := 0) (Nat.le_of_ble_eq_true rfl) (Nat.le_of_ble_eq_true rfl) ?_
      have zi0 : (0 : Int32).toInt = 0 := by decide
      exact W.vret hx hb hr (fun t ht hW => ⟨⟨u281, rfl, ⟨hT, ke286, ke287⟩, CB.mk ht hP hD⟩, hS.F ht⟩) hS.2.2 dX3_readFact_133
  · skip
    have c27 := i_eq (Eq.refl u23.toInt) (show (0 : Int32).toInt = 0 by decide) c27
    refine lv_iconst (v := 1) hx hb dX3_readFact_9 (by decide) ?_
    refine lv_goto (tgt := 14) hx hb dX3_readFact_10 (by decide) ?_
    refine lv_istore_n (lv' := [(2, .int 1), (0, .ref p0), (1, .int 0)]) hx hb dX3_readFact_14 rfl hl (by decide) rfl (fun ls hl => ?_)
    refine lv_iload_n hx hb dX3_readFact_15 rfl (lv_at hl 0 rfl) ?_
    refine lv_if_ne (tgt := 28) hx hb dX3_readFact_16 (by decide) (fun c288 => ?_) (fun c288 => ?_)
    rotate_left
    · exact absurd c288 (by decide)
    refine lv_iload_n hx hb dX3_readFact_28 rfl (lv_at hl 2 rfl) ?_
    refine lv_bipush (v := 10) hx hb dX3_readFact_29 (by decide) ?_
    refine lv_icmp_lt (tgt := 42) hx hb dX3_readFact_31 (by decide) (fun c289 => ?_) (fun c289 => ?_)
    rotate_left
    · exact absurd c289 (by decide)
    refine lv_iload_n hx hb dX3_readFact_42 rfl (lv_at hl 0 rfl) ?_
    refine lv_if_eq (tgt := 69) hx hb dX3_readFact_43 (by decide) (fun c290 => ?_) (fun c290 => ?_)
    · exact absurd c290 (by decide)
    refine lv_aload_n hx hb dX3_readFact_46 rfl (lv_at hl 1 rfl) ?_
    refine cga (rn_V (As := []) (rest := []) (b := p0) (x_X3_step l D Y Z H.size ws T g q p0 hT ht0) ⟨hx, hb, hml, hown, hg⟩ lk_X3_61 ⟨CPC.blind, va_recv hKN.1 hP (ci := 3) (q0 := p21) rfl hk22, CPC.at hP hKN hD hSZ hS hA⟩ ⟨⟨rfl, rfl⟩, ⟨Nat.le_of_ble_eq_true rfl, Nat.le_of_ble_eq_true rfl⟩, ⟨(Nat.le_of_ble_eq_true rfl), (Nat.le_of_ble_eq_true rfl)⟩⟩ hl.1 rfl (Nat.le_of_ble_eq_true rfl) dX3_readFact_47) hP hD hS hA (fun u291 H locs hw292 hP hD hS => ?_)
    obtain ⟨hT, ke294, ke295⟩ : TW Y Z T g q u291 ∧ KF 1 T ws u291 ∧ KF 6 T ws u291 := hw292
    have ke296 : KF 1 T ws u291 := KF.tr KF.rf ke294
    have ke297 : KF 6 T ws u291 := KF.tr KF.rf ke295
    refine W.eq (g2 := F0 m 50 ls []) rfl ?_
    refine lv_aload_n hx hb dX3_readFact_50 rfl (lv_at hl 1 rfl) ?_
    refine lv_iload_n hx hb dX3_readFact_51 rfl (lv_at hl 2 rfl) ?_
    refine lv_iconst (v := 1) hx hb dX3_readFact_52 (by decide) ?_
    refine lv_iadd hx hb dX3_readFact_53 ?_
    refine lv_topi (fun z298 ez298 => ?_)
    obtain rfl : z298 = 1 := ez298.trans (by decide)
    have zi1 : (1 : Int32).toInt = 1 := by decide
    refine ok7 hT ht0 (fun p319 n299 a300 x301 x302 x303 x304 x305 x306 x307 x308 a309 a310 x311 hk320 h312 h313 h314 h315 h316 h317 h318 => ?_)
    refine cga (rn_V (As := [.int 1]) (rest := []) (b := p0) (x_X3_readFact_1 l D Y Z H.size u291 T g q p0 hT ht0) ⟨hx, hb, hml, hown, hg⟩ lk_X3_148 ⟨CPC.blind, va_recv hKN.1 hP (ci := 3) (q0 := p319) rfl hk320, CPC.at hP hKN hD hSZ hS hA⟩ ⟨⟨rfl, rfl⟩, ⟨Nat.le_of_ble_eq_true rfl, Nat.le_of_ble_eq_true rfl⟩, ⟨(Nat.le_of_ble_eq_true rfl), (Nat.le_of_ble_eq_true rfl)⟩⟩ hl.1 rfl (Nat.le_of_ble_eq_true rfl) dX3_readFact_54) hP hD hS hA (fun u321 H locs hw322 hP hD hS => ?_)
    obtain ⟨hT, ke324, ke325⟩ : TW Y Z T g q u321 ∧ KF 1 T u291 u321 ∧ KF 6 T u291 u321 := hw322
    have ke326 : KF 1 T ws u321 := KF.tr ke296 ke324
    have ke327 : KF 6 T ws u321 := KF.tr ke297 ke325
    refine W.eq (g2 := F0 m 57 ls []) rfl ?_
    refine lv_aload_n hx hb dX3_readFact_57 rfl (lv_at hl 1 rfl) ?_
    refine ok7 hT ht0 (fun p348 n328 a329 x330 x331 x332 x333 x334 x335 x336 x337 a338 a339 x340 hk349 h341 h342 h343 h344 h345 h346 h347 => ?_)
    refine va_get (D := D) (ci := 3) (v := .ref a339) (C := RX3) (T := TX3) (N := 12) hx hb hg inGX3 hown hKN.1 hP p348 hk349 rfl 10 (by decide) (hg _ kw_188) (fun _ h9 => h9) rfl dX3_readFact_58 ?_
    refine lv_ldc (v := 200261) hx hb hown (hg _ kw_732) dX3_readFact_61 ?_
    have zi200261 : (200261 : Int32).toInt = 200261 := by decide
    refine ok5 hT h345 (fun p371 x350 x351 x352 x353 x354 x355 x356 x357 a358 a359 a360 a361 a362 x363 hk372 h364 h365 h366 h367 h368 h369 h370 => ?_)
    refine cga (rn_NV (As := [.int 200261]) (rest := []) (b := a339) (x_X8_addCode l D Y Z H.size u321 T g q a339 200261 hT h345) ⟨hx, hb, hml, hown, hg⟩ hKN lk_X3_154 ⟨CPC.blind, va_recv hKN.1 hP (ci := 8) (q0 := p371) rfl hk372, CPC.at hP hKN hD hSZ hS hA⟩ ⟨⟨rfl, rfl⟩, ⟨Nat.le_of_ble_eq_true rfl, Nat.le_of_ble_eq_true rfl⟩, ⟨(Nat.le_of_ble_eq_true rfl), (Nat.le_of_ble_eq_true rfl)⟩⟩ hl.1 rfl (Nat.le_of_ble_eq_true rfl) dX3_readFact_63) hP hD hS hA (fun u373 H locs hw374 hP hD hS => ?_)
    obtain ⟨hT, ke376, ke377⟩ : TW Y Z T g q u373 ∧ KF 1 T u321 u373 ∧ KF 6 T u321 u373 := hw374
    have ke378 : KF 1 T ws u373 := KF.tr ke326 ke376
    have ke379 : KF 6 T ws u373 := KF.tr ke327 ke377
    refine W.eq (g2 := F0 m 66 ls []) rfl ?_
    refine lv_goto (tgt := 133) hx hb dX3_readFact_66 (by decide) ?_
    refine W.widen (k := 0) (n := 0) (Nat.le_of_ble_eq_true rfl) (Nat.le_of_ble_eq_true rfl) ?_
    have zi0 : (0 : Int32).toInt = 0 := by decide
    exact W.vret hx hb hr (fun t ht hW => ⟨⟨u373, rfl, ⟨hT, ke378, ke379⟩, CB.mk ht hP hD⟩, hS.F ht⟩) hS.2.2 dX3_readFact_133
set_option maxHeartbeats 4000000 in
set_option maxRecDepth 100000 in
theorem x_X3_readTest_0 (l : Launch) (D : va_G) (Y : Nat → ClassId) (Z : Nat → Nat) (sz : Nat) (ws : va_W) (T : RT) (g : GN) (q : GQ)  (p0 : Nat) (hT : TW Y Z T g q ws) (ht0 : T p0 = (7, 0, 0)) : Met l yX3_readTest (.code yX3_readTest cX3_readTest 5 none :: GW) ({ frames := 28, cells := 0, slots := 0, locals := 649 }) (va_Pc [.ref p0, .int 0] (CPC D Y Z ws sz)) (QG (S := va_W) (fun _ => none) (fun u => TW Y Z T g q u ∧ KF 1 T ws u ∧ KF 6 T ws u) (fun u => CB D u (va_A ws sz)) (va_A ws sz)) 0 0 (va_A ws sz) := by
  refine Met.ofW (cc := cX3_readTest) (maxL := 5) (ret := none) (by decide) rfl ?_
  intro p e s m args below meth c s₁ B hml hv
  obtain ⟨rfl, ⟨hsz, hP, hKN, hD0⟩, hSZ⟩ := hv
  have hx := B.exec
  have hb := B.bytes
  have hr := B.returns
  have hts := atoms_spec (ws := .code yX3_readTest cX3_readTest 5 none :: GW) B.pre
  have hg : ∀ w ∈ GW, w.before _ s = true := fun w h => hts w (List.mem_cons_of_mem _ h)
  have hown : s.vm.findClass RX3 = some m.cls := findClass_of_methodNamed B.named
  have hlocks := B.notSynchronized
  subst hsz
  have hD := hD0.self (sz := s.heap.size)
  generalize hAe : va_A ws s.heap.size = A at hD hSZ ⊢
  have hA : ∀ q : Nat, s.heap.size ≤ q → A q := fun q h => by rw [← hAe]; exact Or.inr h
  clear hAe hD0 hts B
  have hl := lv_entry ([.ref p0, .int 0]) (n := 5) (Nat.le_of_ble_eq_true rfl)
  rw [lg_entry_eq]
  generalize (lg_sl ([.ref p0, .int 0]) ++ List.replicate (5 - (lg_sl ([.ref p0, .int 0])).length) Slot.unset).toArray = ls at hl ⊢
  have hl : lv_has ls 5 [(0, .ref p0), (1, .int 0)] := hl
  refine w_start (A0 := A) hP (fun H locs hP hS => ?_)
  refine lv_iconst (v := 0) hx hb dX3_readTest_0 (by decide) ?_
  refine lv_istore_n (lv' := [(2, .int 0), (0, .ref p0), (1, .int 0)]) hx hb dX3_readTest_1 rfl hl (by decide) rfl (fun ls hl => ?_)
  refine lv_aload_n hx hb dX3_readTest_2 rfl (lv_at hl 1 rfl) ?_
  refine lv_iload_n hx hb dX3_readTest_3 rfl (lv_at hl 2 rfl) ?_
  have zi0 : (0 : Int32).toInt = 0 := by decide
  refine ok7 hT ht0 (fun p21 n1 a2 x3 x4 x5 x6 x7 x8 x9 x10 a11 a12 x13 hk22 h14 h15 h16 h17 h18 h19 h20 => ?_)
  refine cga (rn_V (As := [.int 0]) (rest := []) (b := p0) (x_X3_readFact_0 l D Y Z H.size ws T g q p0 hT ht0) ⟨hx, hb, hml, hown, hg⟩ lk_X3_148 ⟨CPC.blind, va_recv hKN.1 hP (ci := 3) (q0 := p21) rfl hk22, CPC.at hP hKN hD hSZ hS hA⟩ ⟨⟨rfl, rfl⟩, ⟨Nat.le_of_ble_eq_true rfl, Nat.le_of_ble_eq_true rfl⟩, ⟨(Nat.le_of_ble_eq_true rfl), (Nat.le_of_ble_eq_true rfl)⟩⟩ hl.1 rfl (Nat.le_of_ble_eq_true rfl) dX3_readTest_4) hP hD hS hA (fun u23 H locs hw24 hP hD hS => ?_)
  obtain ⟨hT, ke26, ke27⟩ : TW Y Z T g q u23 ∧ KF 1 T ws u23 ∧ KF 6 T ws u23 := hw24
  have ke28 : KF 1 T ws u23 := KF.tr KF.rf ke26
  have ke29 : KF 6 T ws u23 := KF.tr KF.rf ke27
  refine W.eq (g2 := F0 m 7 ls []) rfl ?_
  refine lv_iconst (v := 0) hx hb dX3_readTest_7 (by decide) ?_
  refine lv_istore_n (lv' := [(3, .int 0), (2, .int 0), (0, .ref p0), (1, .int 0)]) hx hb dX3_readTest_8 rfl hl (by decide) rfl (fun ls hl => ?_)
  refine w_loop (σ := Int32 × Int32 × va_W) (fun xx H locs ls => match xx with | (v215, v216, w217) => va_P D vwCl w217 H ∧ va_D A w217 ∧ va_S A s.heap H locs ∧ lv_has ls 5 [(3, .int v215), (2, .int v216), (0, .ref p0), (1, .int 0)] ∧ TW Y Z T g q w217 ∧ KF 1 T ws w217 ∧ KF 6 T ws w217 ∧ (0 ≤ v215.toInt ∧ v215.toInt ≤ 400)) (fun xx => match xx with | (v215, v216, w217) => (400 - v215.toInt).toNat) (0, 0, u23) ⟨hP, hD, hS, lv_sub hl [0, 1, 2, 3] rfl, hT, ke28, ke29, by omega⟩ (fun xx H locs ls hI ih => ?_)
  obtain ⟨v215, v216, w217⟩ := xx
  obtain ⟨hP, hD, hS, hl, hT, ke610, ke611, hq609⟩ := hI
  have ih612 := ih
  refine lv_iload_n hx hb dX3_readTest_9 rfl (lv_at hl 0 rfl) ?_
  refine lv_sipush (v := 400) hx hb dX3_readTest_10 (by decide) ?_
  refine lv_icmp_ge (tgt := 104) hx hb dX3_readTest_13 (by decide) (fun c613 => ?_) (fun c613 => ?_)
  · skip
    have c613 := i_le (show (400 : Int32).toInt = 400 by decide) (Eq.refl v215.toInt) c613
    refine lv_iload_n hx hb dX3_readTest_104 rfl (lv_at hl 1 rfl) ?_
    have j614 := rgI v216
    refine lv_if_eq (tgt := 117) hx hb dX3_readTest_105 (by decide) (fun c615 => ?_) (fun c615 => ?_)
    · skip
      have c615 := i_eq (Eq.refl v216.toInt) (show (0 : Int32).toInt = 0 by decide) c615
      refine W.widen (k := 0) (n := 0) (Nat.le_of_ble_eq_true rfl) (Nat.le_of_ble_eq_true rfl) ?_
      exact W.vret hx hb hr (fun t ht hW => ⟨⟨w217, rfl, ⟨hT, ke610, ke611⟩, CB.mk ht hP hD⟩, hS.F ht⟩) hS.2.2 dX3_readTest_117
    · skip
      have c615 := i_ne (Eq.refl v216.toInt) (show (0 : Int32).toInt = 0 by decide) c615
      refine lv_aload_n hx hb dX3_readTest_108 rfl (lv_at hl 2 rfl) ?_
      refine ok7 hT ht0 (fun p636 n616 a617 x618 x619 x620 x621 x622 x623 x624 x625 a626 a627 x628 hk637 h629 h630 h631 h632 h633 h634 h635 => ?_)
      refine va_get (D := D) (ci := 3) (v := .ref a627) (C := RX3) (T := TX3) (N := 12) hx hb hg inGX3 hown hKN.1 hP p636 hk637 rfl 10 (by decide) (hg _ kw_188) (fun _ h9 => h9) rfl dX3_readTest_109 ?_
      refine lv_ldc (v := 200263) hx hb hown (hg _ kw_742) dX3_readTest_112 ?_
      have zi200263 : (200263 : Int32).toInt = 200263 := by decide
      refine ok5 hT h633 (fun p659 x638 x639 x640 x641 x642 x643 x644 x645 a646 a647 a648 a649 a650 x651 hk660 h652 h653 h654 h655 h656 h657 h658 => ?_)
      refine cga (rn_NV (As := [.int 200263]) (rest := []) (b := a627) (x_X8_addCode l D Y Z H.size w217 T g q a627 200263 hT h633) ⟨hx, hb, hml, hown, hg⟩ hKN lk_X3_154 ⟨CPC.blind, va_recv hKN.1 hP (ci := 8) (q0 := p659) rfl hk660, CPC.at hP hKN hD hSZ hS hA⟩ ⟨⟨rfl, rfl⟩, ⟨Nat.le_of_ble_eq_true rfl, Nat.le_of_ble_eq_true rfl⟩, ⟨(Nat.le_of_ble_eq_true rfl), (Nat.le_of_ble_eq_true rfl)⟩⟩ hl.1 rfl (Nat.le_of_ble_eq_true rfl) dX3_readTest_114) hP hD hS hA (fun u661 H locs hw662 hP hD hS => ?_)
      obtain ⟨hT, ke664, ke665⟩ : TW Y Z T g q u661 ∧ KF 1 T w217 u661 ∧ KF 6 T w217 u661 := hw662
      have ke666 : KF 1 T ws u661 := KF.tr ke610 ke664
      have ke667 : KF 6 T ws u661 := KF.tr ke611 ke665
      refine W.eq (g2 := F0 m 117 ls []) rfl ?_
      refine W.widen (k := 0) (n := 0) (Nat.le_of_ble_eq_true rfl) (Nat.le_of_ble_eq_true rfl) ?_
      exact W.vret hx hb hr (fun t ht hW => ⟨⟨u661, rfl, ⟨hT, ke666, ke667⟩, CB.mk ht hP hD⟩, hS.F ht⟩) hS.2.2 dX3_readTest_117
  · skip
    have c613 := i_nle (show (400 : Int32).toInt = 400 by decide) (Eq.refl v215.toInt) c613
    refine lv_aload_n hx hb dX3_readTest_16 rfl (lv_at hl 2 rfl) ?_
    refine ok7 hT ht0 (fun p688 n668 a669 x670 x671 x672 x673 x674 x675 x676 x677 a678 a679 x680 hk689 h681 h682 h683 h684 h685 h686 h687 => ?_)
    refine va_get (D := D) (ci := 3) (v := .int x675) (C := RX3) (T := TX3) (N := 12) hx hb hg inGX3 hown hKN.1 hP p688 hk689 rfl 6 (by decide) (hg _ kw_184) (fun _ h9 => h9) rfl dX3_readTest_17 ?_
    have j690 := rgI x675
    refine lv_if_ne (tgt := 104) hx hb dX3_readTest_20 (by decide) (fun c691 => ?_) (fun c691 => ?_)
    · skip
      have c691 := i_ne (Eq.refl x675.toInt) (show (0 : Int32).toInt = 0 by decide) c691
      refine lv_iload_n hx hb dX3_readTest_104 rfl (lv_at hl 1 rfl) ?_
      have j692 := rgI v216
      refine lv_if_eq (tgt := 117) hx hb dX3_readTest_105 (by decide) (fun c693 => ?_) (fun c693 => ?_)
      · skip
        have c693 := i_eq (Eq.refl v216.toInt) (show (0 : Int32).toInt = 0 by decide) c693
        refine W.widen (k := 0) (n := 0) (Nat.le_of_ble_eq_true rfl) (Nat.le_of_ble_eq_true rfl) ?_
        exact W.vret hx hb hr (fun t ht hW => ⟨⟨w217, rfl, ⟨hT, ke610, ke611⟩, CB.mk ht hP hD⟩, hS.F ht⟩) hS.2.2 dX3_readTest_117
      · skip
        have c693 := i_ne (Eq.refl v216.toInt) (show (0 : Int32).toInt = 0 by decide) c693
        refine lv_aload_n hx hb dX3_readTest_108 rfl (lv_at hl 2 rfl) ?_
        refine va_get (D := D) (ci := 3) (v := .ref a679) (C := RX3) (T := TX3) (N := 12) hx hb hg inGX3 hown hKN.1 hP p688 hk689 rfl 10 (by decide) (hg _ kw_188) (fun _ h9 => h9) rfl dX3_readTest_109 ?_
        refine lv_ldc (v := 200263) hx hb hown (hg _ kw_742) dX3_readTest_112 ?_
        have zi200263 : (200263 : Int32).toInt = 200263 := by decide
        refine ok5 hT h685 (fun p715 x694 x695 x696 x697 x698 x699 x700 x701 a702 a703 a704 a705 a706 x707 hk716 h708 h709 h710 h711 h712 h713 h714 => ?_)
        refine cga (rn_NV (As := [.int 200263]) (rest := []) (b := a679) (x_X8_addCode l D Y Z H.size w217 T g q a679 200263 hT h685) ⟨hx, hb, hml, hown, hg⟩ hKN lk_X3_154 ⟨CPC.blind, va_recv hKN.1 hP (ci := 8) (q0 := p715) rfl hk716, CPC.at hP hKN hD hSZ hS hA⟩ ⟨⟨rfl, rfl⟩, ⟨Nat.le_of_ble_eq_true rfl, Nat.le_of_ble_eq_true rfl⟩, ⟨(Nat.le_of_ble_eq_true rfl), (Nat.le_of_ble_eq_true rfl)⟩⟩ hl.1 rfl (Nat.le_of_ble_eq_true rfl) dX3_readTest_114) hP hD hS hA (fun u717 H locs hw718 hP hD hS => ?_)
        obtain ⟨hT, ke720, ke721⟩ : TW Y Z T g q u717 ∧ KF 1 T w217 u717 ∧ KF 6 T w217 u717 := hw718
        have ke722 : KF 1 T ws u717 := KF.tr ke610 ke720
        have ke723 : KF 6 T ws u717 := KF.tr ke611 ke721
        refine W.eq (g2 := F0 m 117 ls []) rfl ?_
        refine W.widen (k := 0) (n := 0) (Nat.le_of_ble_eq_true rfl) (Nat.le_of_ble_eq_true rfl) ?_
        exact W.vret hx hb hr (fun t ht hW => ⟨⟨u717, rfl, ⟨hT, ke722, ke723⟩, CB.mk ht hP hD⟩, hS.F ht⟩) hS.2.2 dX3_readTest_117
    · skip
      have c691 := i_eq (Eq.refl x675.toInt) (show (0 : Int32).toInt = 0 by decide) c691
      refine lv_aload_n hx hb dX3_readTest_23 rfl (lv_at hl 2 rfl) ?_
      refine va_ldcS (q := Z 7) hx hb hown (hKN.2.2.2 7 (RX3, 151, "and or") rfl) dX3_readTest_24 ?_
      refine cga (rn_V (As := [.ref (Z 7)]) (rest := []) (b := p0) (x_X3_whichOf l D Y Z H.size w217 T g q 7 p0 hT ht0 (by decide)) ⟨hx, hb, hml, hown, hg⟩ lk_X3_99 ⟨CPC.blind, va_recv hKN.1 hP (ci := 3) (q0 := p688) rfl hk689, CPC.at hP hKN hD hSZ hS hA⟩ ⟨⟨rfl, rfl⟩, ⟨Nat.le_of_ble_eq_true rfl, Nat.le_of_ble_eq_true rfl⟩, ⟨(Nat.le_of_ble_eq_true rfl), (Nat.le_of_ble_eq_true rfl)⟩⟩ hl.1 rfl (Nat.le_of_ble_eq_true rfl) dX3_readTest_26) hP hD hS hA (fun u724 H locs hw725 hP hD hS => ?_)
      refine W.eq (g2 := F0 m 29 ls [.int u724]) rfl ?_
      refine lv_istore (lv' := [(4, .int u724), (3, .int v215), (2, .int v216), (0, .ref p0), (1, .int 0)]) hx hb dX3_readTest_29 hl (by decide) rfl (fun ls hl => ?_)
      refine lv_iload hx hb dX3_readTest_31 (lv_at hl 0 rfl) ?_
      refine lv_iconst (v := (-1)) hx hb dX3_readTest_33 (by decide) ?_
      have j727 := rgI u724
      refine lv_icmp_ne (tgt := 40) hx hb dX3_readTest_34 (by decide) (fun c728 => ?_) (fun c728 => ?_)
      · skip
        have c728 := i_ne (Eq.refl u724.toInt) (show ((-1) : Int32).toInt = -1 by decide) c728
        refine lv_aload_n hx hb dX3_readTest_40 rfl (lv_at hl 3 rfl) ?_
        refine cga (rn_V (As := []) (rest := []) (b := p0) (x_X3_step l D Y Z H.size w217 T g q p0 hT ht0) ⟨hx, hb, hml, hown, hg⟩ lk_X3_61 ⟨CPC.blind, va_recv hKN.1 hP (ci := 3) (q0 := p688) rfl hk689, CPC.at hP hKN hD hSZ hS hA⟩ ⟨⟨rfl, rfl⟩, ⟨Nat.le_of_ble_eq_true rfl, Nat.le_of_ble_eq_true rfl⟩, ⟨(Nat.le_of_ble_eq_true rfl), (Nat.le_of_ble_eq_true rfl)⟩⟩ hl.1 rfl (Nat.le_of_ble_eq_true rfl) dX3_readTest_41) hP hD hS hA (fun u729 H locs hw730 hP hD hS => ?_)
        obtain ⟨hT, ke732, ke733⟩ : TW Y Z T g q u729 ∧ KF 1 T w217 u729 ∧ KF 6 T w217 u729 := hw730
        have ke734 : KF 1 T ws u729 := KF.tr ke610 ke732
        have ke735 : KF 6 T ws u729 := KF.tr ke611 ke733
        refine W.eq (g2 := F0 m 44 ls []) rfl ?_
        refine lv_iload hx hb dX3_readTest_44 (lv_at hl 0 rfl) ?_
        refine lv_iconst (v := 1) hx hb dX3_readTest_46 (by decide) ?_
        refine lv_icmp_ne (tgt := 63) hx hb dX3_readTest_47 (by decide) (fun c736 => ?_) (fun c736 => ?_)
        · skip
          have c736 := i_ne (Eq.refl u724.toInt) (show (1 : Int32).toInt = 1 by decide) c736
          refine lv_iload_n hx hb dX3_readTest_63 rfl (lv_at hl 2 rfl) ?_
          have j737 := rgI v216
          refine lv_if_ne (tgt := 73) hx hb dX3_readTest_64 (by decide) (fun c738 => ?_) (fun c738 => ?_)
          · skip
            have c738 := i_ne (Eq.refl v216.toInt) (show (0 : Int32).toInt = 0 by decide) c738
            refine lv_iconst (v := 1) hx hb dX3_readTest_73 (by decide) ?_
            refine lv_goto (tgt := 78) hx hb dX3_readTest_74 (by decide) ?_
            refine lv_istore_n (lv' := [(2, .int 1), (4, .int u724), (3, .int v215), (0, .ref p0), (1, .int 0)]) hx hb dX3_readTest_78 rfl hl (by decide) rfl (fun ls hl => ?_)
            refine lv_aload_n hx hb dX3_readTest_79 rfl (lv_at hl 3 rfl) ?_
            refine lv_iload_n hx hb dX3_readTest_80 rfl (lv_at hl 4 rfl) ?_
            refine ok7 hT ht0 (fun p759 n739 a740 x741 x742 x743 x744 x745 x746 x747 x748 a749 a750 x751 hk760 h752 h753 h754 h755 h756 h757 h758 => ?_)
            refine cga (rn_V (As := [.int 0]) (rest := []) (b := p0) (x_X3_readFact_0 l D Y Z H.size u729 T g q p0 hT ht0) ⟨hx, hb, hml, hown, hg⟩ lk_X3_148 ⟨CPC.blind, va_recv hKN.1 hP (ci := 3) (q0 := p759) rfl hk760, CPC.at hP hKN hD hSZ hS hA⟩ ⟨⟨rfl, rfl⟩, ⟨Nat.le_of_ble_eq_true rfl, Nat.le_of_ble_eq_true rfl⟩, ⟨(Nat.le_of_ble_eq_true rfl), (Nat.le_of_ble_eq_true rfl)⟩⟩ hl.1 rfl (Nat.le_of_ble_eq_true rfl) dX3_readTest_81) hP hD hS hA (fun u761 H locs hw762 hP hD hS => ?_)
            obtain ⟨hT, ke764, ke765⟩ : TW Y Z T g q u761 ∧ KF 1 T u729 u761 ∧ KF 6 T u729 u761 := hw762
            have ke766 : KF 1 T ws u761 := KF.tr ke734 ke764
            have ke767 : KF 6 T ws u761 := KF.tr ke735 ke765
            refine W.eq (g2 := F0 m 84 ls []) rfl ?_
            refine lv_iload hx hb dX3_readTest_84 (lv_at hl 1 rfl) ?_
            refine lv_if_ne (tgt := 98) hx hb dX3_readTest_86 (by decide) (fun c768 => ?_) (fun c768 => ?_)
            · skip
              have c768 := i_ne (Eq.refl u724.toInt) (show (0 : Int32).toInt = 0 by decide) c768
              obtain ⟨v769, ev769⟩ : ∃ y : Int32, y = v215 + 1 := ⟨_, rfl⟩
              have hv769 := i_add (Eq.refl v215.toInt) (show (1 : Int32).toInt = 1 by decide) ev769 (by omega) (by omega)
              refine lv_iinc (v := v769) (lv' := [(3, .int v769), (2, .int 1), (4, .int u724), (0, .ref p0), (1, .int 0)]) hx hb dX3_readTest_98 hl (k := 2) rfl (by rw [ev769]; rfl) (by decide) rfl (fun ls hl => ?_)
              refine lv_goto (tgt := 9) hx hb dX3_readTest_101 (by decide) ?_
              have zi1 : (1 : Int32).toInt = 1 := by decide
              exact ih612 (v769, 1, u761) H locs ls (by show (400 - v769.toInt).toNat < (400 - v215.toInt).toNat; omega) ⟨hP, hD, hS, lv_sub hl [0, 1, 3, 4] rfl, hT, ke766, ke767, by omega⟩
            · skip
              have c768 := i_eq (Eq.refl u724.toInt) (show (0 : Int32).toInt = 0 by decide) c768
              refine lv_aload_n hx hb dX3_readTest_89 rfl (lv_at hl 3 rfl) ?_
              refine ok7 hT ht0 (fun p790 n770 a771 x772 x773 x774 x775 x776 x777 x778 x779 a780 a781 x782 hk791 h783 h784 h785 h786 h787 h788 h789 => ?_)
              refine va_get (D := D) (ci := 3) (v := .ref a781) (C := RX3) (T := TX3) (N := 12) hx hb hg inGX3 hown hKN.1 hP p790 hk791 rfl 10 (by decide) (hg _ kw_188) (fun _ h9 => h9) rfl dX3_readTest_90 ?_
              refine lv_ldc (v := 200262) hx hb hown (hg _ kw_743) dX3_readTest_93 ?_
              have zi200262 : (200262 : Int32).toInt = 200262 := by decide
              refine ok5 hT h787 (fun p813 x792 x793 x794 x795 x796 x797 x798 x799 a800 a801 a802 a803 a804 x805 hk814 h806 h807 h808 h809 h810 h811 h812 => ?_)
              refine cga (rn_NV (As := [.int 200262]) (rest := []) (b := a781) (x_X8_addCode l D Y Z H.size u761 T g q a781 200262 hT h787) ⟨hx, hb, hml, hown, hg⟩ hKN lk_X3_154 ⟨CPC.blind, va_recv hKN.1 hP (ci := 8) (q0 := p813) rfl hk814, CPC.at hP hKN hD hSZ hS hA⟩ ⟨⟨rfl, rfl⟩, ⟨Nat.le_of_ble_eq_true rfl, Nat.le_of_ble_eq_true rfl⟩, ⟨(Nat.le_of_ble_eq_true rfl), (Nat.le_of_ble_eq_true rfl)⟩⟩ hl.1 rfl (Nat.le_of_ble_eq_true rfl) dX3_readTest_95) hP hD hS hA (fun u815 H locs hw816 hP hD hS => ?_)
              obtain ⟨hT, ke818, ke819⟩ : TW Y Z T g q u815 ∧ KF 1 T u761 u815 ∧ KF 6 T u761 u815 := hw816
              have ke820 : KF 1 T ws u815 := KF.tr ke766 ke818
              have ke821 : KF 6 T ws u815 := KF.tr ke767 ke819
              refine W.eq (g2 := F0 m 98 ls []) rfl ?_
              obtain ⟨v822, ev822⟩ : ∃ y : Int32, y = v215 + 1 := ⟨_, rfl⟩
              have hv822 := i_add (Eq.refl v215.toInt) (show (1 : Int32).toInt = 1 by decide) ev822 (by omega) (by omega)
              refine lv_iinc (v := v822) (lv' := [(3, .int v822), (2, .int 1), (4, .int u724), (0, .ref p0), (1, .int 0)]) hx hb dX3_readTest_98 hl (k := 2) rfl (by rw [ev822]; rfl) (by decide) rfl (fun ls hl => ?_)
              refine lv_goto (tgt := 9) hx hb dX3_readTest_101 (by decide) ?_
              have zi1 : (1 : Int32).toInt = 1 := by decide
              exact ih612 (v822, 1, u815) H locs ls (by show (400 - v822.toInt).toNat < (400 - v215.toInt).toNat; omega) ⟨hP, hD, hS, lv_sub hl [0, 1, 3, 4] rfl, hT, ke820, ke821, by omega⟩
          · skip
            have c738 := i_eq (Eq.refl v216.toInt) (show (0 : Int32).toInt = 0 by decide) c738
            refine lv_iload hx hb dX3_readTest_67 (lv_at hl 0 rfl) ?_
            refine lv_iconst (v := 1) hx hb dX3_readTest_69 (by decide) ?_
            refine lv_icmp_ne (tgt := 77) hx hb dX3_readTest_70 (by decide) (fun c823 => ?_) (fun c823 => ?_)
            · skip
              have c823 := i_ne (Eq.refl u724.toInt) (show (1 : Int32).toInt = 1 by decide) c823
              refine lv_iconst (v := 0) hx hb dX3_readTest_77 (by decide) ?_
              refine lv_istore_n (lv' := [(2, .int 0), (4, .int u724), (3, .int v215), (0, .ref p0), (1, .int 0)]) hx hb dX3_readTest_78 rfl hl (by decide) rfl (fun ls hl => ?_)
              refine lv_aload_n hx hb dX3_readTest_79 rfl (lv_at hl 3 rfl) ?_
              refine lv_iload_n hx hb dX3_readTest_80 rfl (lv_at hl 4 rfl) ?_
              refine ok7 hT ht0 (fun p844 n824 a825 x826 x827 x828 x829 x830 x831 x832 x833 a834 a835 x836 hk845 h837 h838 h839 h840 h841 h842 h843 => ?_)
              refine cga (rn_V (As := [.int 0]) (rest := []) (b := p0) (x_X3_readFact_0 l D Y Z H.size u729 T g q p0 hT ht0) ⟨hx, hb, hml, hown, hg⟩ lk_X3_148 ⟨CPC.blind, va_recv hKN.1 hP (ci := 3) (q0 := p844) rfl hk845, CPC.at hP hKN hD hSZ hS hA⟩ ⟨⟨rfl, rfl⟩, ⟨Nat.le_of_ble_eq_true rfl, Nat.le_of_ble_eq_true rfl⟩, ⟨(Nat.le_of_ble_eq_true rfl), (Nat.le_of_ble_eq_true rfl)⟩⟩ hl.1 rfl (Nat.le_of_ble_eq_true rfl) dX3_readTest_81) hP hD hS hA (fun u846 H locs hw847 hP hD hS => ?_)
              obtain ⟨hT, ke849, ke850⟩ : TW Y Z T g q u846 ∧ KF 1 T u729 u846 ∧ KF 6 T u729 u846 := hw847
              have ke851 : KF 1 T ws u846 := KF.tr ke734 ke849
              have ke852 : KF 6 T ws u846 := KF.tr ke735 ke850
              refine W.eq (g2 := F0 m 84 ls []) rfl ?_
              refine lv_iload hx hb dX3_readTest_84 (lv_at hl 1 rfl) ?_
              refine lv_if_ne (tgt := 98) hx hb dX3_readTest_86 (by decide) (fun c853 => ?_) (fun c853 => ?_)
              · skip
                have c853 := i_ne (Eq.refl u724.toInt) (show (0 : Int32).toInt = 0 by decide) c853
                obtain ⟨v854, ev854⟩ : ∃ y : Int32, y = v215 + 1 := ⟨_, rfl⟩
                have hv854 := i_add (Eq.refl v215.toInt) (show (1 : Int32).toInt = 1 by decide) ev854 (by omega) (by omega)
                refine lv_iinc (v := v854) (lv' := [(3, .int v854), (2, .int 0), (4, .int u724), (0, .ref p0), (1, .int 0)]) hx hb dX3_readTest_98 hl (k := 2) rfl (by rw [ev854]; rfl) (by decide) rfl (fun ls hl => ?_)
                refine lv_goto (tgt := 9) hx hb dX3_readTest_101 (by decide) ?_
                exact ih612 (v854, 0, u846) H locs ls (by show (400 - v854.toInt).toNat < (400 - v215.toInt).toNat; omega) ⟨hP, hD, hS, lv_sub hl [0, 1, 3, 4] rfl, hT, ke851, ke852, by omega⟩
              · skip
                have c853 := i_eq (Eq.refl u724.toInt) (show (0 : Int32).toInt = 0 by decide) c853
                refine lv_aload_n hx hb dX3_readTest_89 rfl (lv_at hl 3 rfl) ?_
                refine ok7 hT ht0 (fun p875 n855 a856 x857 x858 x859 x860 x861 x862 x863 x864 a865 a866 x867 hk876 h868 h869 h870 h871 h872 h873 h874 => ?_)
                refine va_get (D := D) (ci := 3) (v := .ref a866) (C := RX3) (T := TX3) (N := 12) hx hb hg inGX3 hown hKN.1 hP p875 hk876 rfl 10 (by decide) (hg _ kw_188) (fun _ h9 => h9) rfl dX3_readTest_90 ?_
                refine lv_ldc (v := 200262) hx hb hown (hg _ kw_743) dX3_readTest_93 ?_
                have zi200262 : (200262 : Int32).toInt = 200262 := by decide
                refine ok5 hT h872 (fun p898 x877 x878 x879 x880 x881 x882 x883 x884 a885 a886 a887 a888 a889 x890 hk899 h891 h892 h893 h894 h895 h896 h897 => ?_)
                refine cga (rn_NV (As := [.int 200262]) (rest := []) (b := a866) (x_X8_addCode l D Y Z H.size u846 T g q a866 200262 hT h872) ⟨hx, hb, hml, hown, hg⟩ hKN lk_X3_154 ⟨CPC.blind, va_recv hKN.1 hP (ci := 8) (q0 := p898) rfl hk899, CPC.at hP hKN hD hSZ hS hA⟩ ⟨⟨rfl, rfl⟩, ⟨Nat.le_of_ble_eq_true rfl, Nat.le_of_ble_eq_true rfl⟩, ⟨(Nat.le_of_ble_eq_true rfl), (Nat.le_of_ble_eq_true rfl)⟩⟩ hl.1 rfl (Nat.le_of_ble_eq_true rfl) dX3_readTest_95) hP hD hS hA (fun u900 H locs hw901 hP hD hS => ?_)
                obtain ⟨hT, ke903, ke904⟩ : TW Y Z T g q u900 ∧ KF 1 T u846 u900 ∧ KF 6 T u846 u900 := hw901
                have ke905 : KF 1 T ws u900 := KF.tr ke851 ke903
                have ke906 : KF 6 T ws u900 := KF.tr ke852 ke904
                refine W.eq (g2 := F0 m 98 ls []) rfl ?_
                obtain ⟨v907, ev907⟩ : ∃ y : Int32, y = v215 + 1 := ⟨_, rfl⟩
                have hv907 := i_add (Eq.refl v215.toInt) (show (1 : Int32).toInt = 1 by decide) ev907 (by omega) (by omega)
                refine lv_iinc (v := v907) (lv' := [(3, .int v907), (2, .int 0), (4, .int u724), (0, .ref p0), (1, .int 0)]) hx hb dX3_readTest_98 hl (k := 2) rfl (by rw [ev907]; rfl) (by decide) rfl (fun ls hl => ?_)
                refine lv_goto (tgt := 9) hx hb dX3_readTest_101 (by decide) ?_
                exact ih612 (v907, 0, u900) H locs ls (by show (400 - v907.toInt).toNat < (400 - v215.toInt).toNat; omega) ⟨hP, hD, hS, lv_sub hl [0, 1, 3, 4] rfl, hT, ke905, ke906, by omega⟩
            · skip
              have c823 := i_eq (Eq.refl u724.toInt) (show (1 : Int32).toInt = 1 by decide) c823
              refine lv_iconst (v := 1) hx hb dX3_readTest_73 (by decide) ?_
              refine lv_goto (tgt := 78) hx hb dX3_readTest_74 (by decide) ?_
              refine lv_istore_n (lv' := [(2, .int 1), (4, .int u724), (3, .int v215), (0, .ref p0), (1, .int 0)]) hx hb dX3_readTest_78 rfl hl (by decide) rfl (fun ls hl => ?_)
              refine lv_aload_n hx hb dX3_readTest_79 rfl (lv_at hl 3 rfl) ?_
              refine lv_iload_n hx hb dX3_readTest_80 rfl (lv_at hl 4 rfl) ?_
              refine ok7 hT ht0 (fun p928 n908 a909 x910 x911 x912 x913 x914 x915 x916 x917 a918 a919 x920 hk929 h921 h922 h923 h924 h925 h926 h927 => ?_)
              refine cga (rn_V (As := [.int 0]) (rest := []) (b := p0) (x_X3_readFact_0 l D Y Z H.size u729 T g q p0 hT ht0) ⟨hx, hb, hml, hown, hg⟩ lk_X3_148 ⟨CPC.blind, va_recv hKN.1 hP (ci := 3) (q0 := p928) rfl hk929, CPC.at hP hKN hD hSZ hS hA⟩ ⟨⟨rfl, rfl⟩, ⟨Nat.le_of_ble_eq_true rfl, Nat.le_of_ble_eq_true rfl⟩, ⟨(Nat.le_of_ble_eq_true rfl), (Nat.le_of_ble_eq_true rfl)⟩⟩ hl.1 rfl (Nat.le_of_ble_eq_true rfl) dX3_readTest_81) hP hD hS hA (fun u930 H locs hw931 hP hD hS => ?_)
              obtain ⟨hT, ke933, ke934⟩ : TW Y Z T g q u930 ∧ KF 1 T u729 u930 ∧ KF 6 T u729 u930 := hw931
              have ke935 : KF 1 T ws u930 := KF.tr ke734 ke933
              have ke936 : KF 6 T ws u930 := KF.tr ke735 ke934
              refine W.eq (g2 := F0 m 84 ls []) rfl ?_
              refine lv_iload hx hb dX3_readTest_84 (lv_at hl 1 rfl) ?_
              refine lv_if_ne (tgt := 98) hx hb dX3_readTest_86 (by decide) (fun c937 => ?_) (fun c937 => ?_)
              rotate_left
              · have c937 := i_eq (Eq.refl u724.toInt) (show (0 : Int32).toInt = 0 by decide) c937; exfalso; omega
              have c937 := i_ne (Eq.refl u724.toInt) (show (0 : Int32).toInt = 0 by decide) c937
              obtain ⟨v938, ev938⟩ : ∃ y : Int32, y = v215 + 1 := ⟨_, rfl⟩
              have hv938 := i_add (Eq.refl v215.toInt) (show (1 : Int32).toInt = 1 by decide) ev938 (by omega) (by omega)
              refine lv_iinc (v := v938) (lv' := [(3, .int v938), (2, .int 1), (4, .int u724), (0, .ref p0), (1, .int 0)]) hx hb dX3_readTest_98 hl (k := 2) rfl (by rw [ev938]; rfl) (by decide) rfl (fun ls hl => ?_)
              refine lv_goto (tgt := 9) hx hb dX3_readTest_101 (by decide) ?_
              have zi1 : (1 : Int32).toInt = 1 := by decide
              exact ih612 (v938, 1, u930) H locs ls (by show (400 - v938.toInt).toNat < (400 - v215.toInt).toNat; omega) ⟨hP, hD, hS, lv_sub hl [0, 1, 3, 4] rfl, hT, ke935, ke936, by omega⟩
        · skip
          have c736 := i_eq (Eq.refl u724.toInt) (show (1 : Int32).toInt = 1 by decide) c736
          refine lv_iload_n hx hb dX3_readTest_50 rfl (lv_at hl 2 rfl) ?_
          have j939 := rgI v216
          refine lv_if_eq (tgt := 63) hx hb dX3_readTest_51 (by decide) (fun c940 => ?_) (fun c940 => ?_)
          · skip
            have c940 := i_eq (Eq.refl v216.toInt) (show (0 : Int32).toInt = 0 by decide) c940
            refine lv_iload_n hx hb dX3_readTest_63 rfl (lv_at hl 2 rfl) ?_
            refine lv_if_ne (tgt := 73) hx hb dX3_readTest_64 (by decide) (fun c941 => ?_) (fun c941 => ?_)
            · have c941 := i_ne (Eq.refl v216.toInt) (show (0 : Int32).toInt = 0 by decide) c941; exfalso; omega
            have c941 := i_eq (Eq.refl v216.toInt) (show (0 : Int32).toInt = 0 by decide) c941
            refine lv_iload hx hb dX3_readTest_67 (lv_at hl 0 rfl) ?_
            refine lv_iconst (v := 1) hx hb dX3_readTest_69 (by decide) ?_
            refine lv_icmp_ne (tgt := 77) hx hb dX3_readTest_70 (by decide) (fun c942 => ?_) (fun c942 => ?_)
            · have c942 := i_ne (Eq.refl u724.toInt) (show (1 : Int32).toInt = 1 by decide) c942; exfalso; omega
            have c942 := i_eq (Eq.refl u724.toInt) (show (1 : Int32).toInt = 1 by decide) c942
            refine lv_iconst (v := 1) hx hb dX3_readTest_73 (by decide) ?_
            refine lv_goto (tgt := 78) hx hb dX3_readTest_74 (by decide) ?_
            refine lv_istore_n (lv' := [(2, .int 1), (4, .int u724), (3, .int v215), (0, .ref p0), (1, .int 0)]) hx hb dX3_readTest_78 rfl hl (by decide) rfl (fun ls hl => ?_)
            refine lv_aload_n hx hb dX3_readTest_79 rfl (lv_at hl 3 rfl) ?_
            refine lv_iload_n hx hb dX3_readTest_80 rfl (lv_at hl 4 rfl) ?_
            refine ok7 hT ht0 (fun p963 n943 a944 x945 x946 x947 x948 x949 x950 x951 x952 a953 a954 x955 hk964 h956 h957 h958 h959 h960 h961 h962 => ?_)
            refine cga (rn_V (As := [.int 0]) (rest := []) (b := p0) (x_X3_readFact_0 l D Y Z H.size u729 T g q p0 hT ht0) ⟨hx, hb, hml, hown, hg⟩ lk_X3_148 ⟨CPC.blind, va_recv hKN.1 hP (ci := 3) (q0 := p963) rfl hk964, CPC.at hP hKN hD hSZ hS hA⟩ ⟨⟨rfl, rfl⟩, ⟨Nat.le_of_ble_eq_true rfl, Nat.le_of_ble_eq_true rfl⟩, ⟨(Nat.le_of_ble_eq_true rfl), (Nat.le_of_ble_eq_true rfl)⟩⟩ hl.1 rfl (Nat.le_of_ble_eq_true rfl) dX3_readTest_81) hP hD hS hA (fun u965 H locs hw966 hP hD hS => ?_)
            obtain ⟨hT, ke968, ke969⟩ : TW Y Z T g q u965 ∧ KF 1 T u729 u965 ∧ KF 6 T u729 u965 := hw966
            have ke970 : KF 1 T ws u965 := KF.tr ke734 ke968
            have ke971 : KF 6 T ws u965 := KF.tr ke735 ke969
            refine W.eq (g2 := F0 m 84 ls []) rfl ?_
            refine lv_iload hx hb dX3_readTest_84 (lv_at hl 1 rfl) ?_
            refine lv_if_ne (tgt := 98) hx hb dX3_readTest_86 (by decide) (fun c972 => ?_) (fun c972 => ?_)
            rotate_left
            · have c972 := i_eq (Eq.refl u724.toInt) (show (0 : Int32).toInt = 0 by decide) c972; exfalso; omega
            have c972 := i_ne (Eq.refl u724.toInt) (show (0 : Int32).toInt = 0 by decide) c972
            obtain ⟨v973, ev973⟩ : ∃ y : Int32, y = v215 + 1 := ⟨_, rfl⟩
            have hv973 := i_add (Eq.refl v215.toInt) (show (1 : Int32).toInt = 1 by decide) ev973 (by omega) (by omega)
            refine lv_iinc (v := v973) (lv' := [(3, .int v973), (2, .int 1), (4, .int u724), (0, .ref p0), (1, .int 0)]) hx hb dX3_readTest_98 hl (k := 2) rfl (by rw [ev973]; rfl) (by decide) rfl (fun ls hl => ?_)
            refine lv_goto (tgt := 9) hx hb dX3_readTest_101 (by decide) ?_
            have zi1 : (1 : Int32).toInt = 1 := by decide
            exact ih612 (v973, 1, u965) H locs ls (by show (400 - v973.toInt).toNat < (400 - v215.toInt).toNat; omega) ⟨hP, hD, hS, lv_sub hl [0, 1, 3, 4] rfl, hT, ke970, ke971, by omega⟩
          · skip
            have c940 := i_ne (Eq.refl v216.toInt) (show (0 : Int32).toInt = 0 by decide) c940
            refine lv_aload_n hx hb dX3_readTest_54 rfl (lv_at hl 3 rfl) ?_
            refine ok7 hT ht0 (fun p994 n974 a975 x976 x977 x978 x979 x980 x981 x982 x983 a984 a985 x986 hk995 h987 h988 h989 h990 h991 h992 h993 => ?_)
            refine va_get (D := D) (ci := 3) (v := .ref a985) (C := RX3) (T := TX3) (N := 12) hx hb hg inGX3 hown hKN.1 hP p994 hk995 rfl 10 (by decide) (hg _ kw_188) (fun _ h9 => h9) rfl dX3_readTest_55 ?_
            refine lv_ldc (v := 200263) hx hb hown (hg _ kw_742) dX3_readTest_58 ?_
            have zi200263 : (200263 : Int32).toInt = 200263 := by decide
            refine ok5 hT h991 (fun p1017 x996 x997 x998 x999 x1000 x1001 x1002 x1003 a1004 a1005 a1006 a1007 a1008 x1009 hk1018 h1010 h1011 h1012 h1013 h1014 h1015 h1016 => ?_)
            refine cga (rn_NV (As := [.int 200263]) (rest := []) (b := a985) (x_X8_addCode l D Y Z H.size u729 T g q a985 200263 hT h991) ⟨hx, hb, hml, hown, hg⟩ hKN lk_X3_154 ⟨CPC.blind, va_recv hKN.1 hP (ci := 8) (q0 := p1017) rfl hk1018, CPC.at hP hKN hD hSZ hS hA⟩ ⟨⟨rfl, rfl⟩, ⟨Nat.le_of_ble_eq_true rfl, Nat.le_of_ble_eq_true rfl⟩, ⟨(Nat.le_of_ble_eq_true rfl), (Nat.le_of_ble_eq_true rfl)⟩⟩ hl.1 rfl (Nat.le_of_ble_eq_true rfl) dX3_readTest_60) hP hD hS hA (fun u1019 H locs hw1020 hP hD hS => ?_)
            obtain ⟨hT, ke1022, ke1023⟩ : TW Y Z T g q u1019 ∧ KF 1 T u729 u1019 ∧ KF 6 T u729 u1019 := hw1020
            have ke1024 : KF 1 T ws u1019 := KF.tr ke734 ke1022
            have ke1025 : KF 6 T ws u1019 := KF.tr ke735 ke1023
            refine W.eq (g2 := F0 m 63 ls []) rfl ?_
            refine lv_iload_n hx hb dX3_readTest_63 rfl (lv_at hl 2 rfl) ?_
            refine lv_if_ne (tgt := 73) hx hb dX3_readTest_64 (by decide) (fun c1026 => ?_) (fun c1026 => ?_)
            · skip
              have c1026 := i_ne (Eq.refl v216.toInt) (show (0 : Int32).toInt = 0 by decide) c1026
              refine lv_iconst (v := 1) hx hb dX3_readTest_73 (by decide) ?_
              refine lv_goto (tgt := 78) hx hb dX3_readTest_74 (by decide) ?_
              refine lv_istore_n (lv' := [(2, .int 1), (4, .int u724), (3, .int v215), (0, .ref p0), (1, .int 0)]) hx hb dX3_readTest_78 rfl hl (by decide) rfl (fun ls hl => ?_)
              refine lv_aload_n hx hb dX3_readTest_79 rfl (lv_at hl 3 rfl) ?_
              refine lv_iload_n hx hb dX3_readTest_80 rfl (lv_at hl 4 rfl) ?_
              refine ok7 hT ht0 (fun p1047 n1027 a1028 x1029 x1030 x1031 x1032 x1033 x1034 x1035 x1036 a1037 a1038 x1039 hk1048 h1040 h1041 h1042 h1043 h1044 h1045 h1046 => ?_)
              refine cga (rn_V (As := [.int 0]) (rest := []) (b := p0) (x_X3_readFact_0 l D Y Z H.size u1019 T g q p0 hT ht0) ⟨hx, hb, hml, hown, hg⟩ lk_X3_148 ⟨CPC.blind, va_recv hKN.1 hP (ci := 3) (q0 := p1047) rfl hk1048, CPC.at hP hKN hD hSZ hS hA⟩ ⟨⟨rfl, rfl⟩, ⟨Nat.le_of_ble_eq_true rfl, Nat.le_of_ble_eq_true rfl⟩, ⟨(Nat.le_of_ble_eq_true rfl), (Nat.le_of_ble_eq_true rfl)⟩⟩ hl.1 rfl (Nat.le_of_ble_eq_true rfl) dX3_readTest_81) hP hD hS hA (fun u1049 H locs hw1050 hP hD hS => ?_)
              obtain ⟨hT, ke1052, ke1053⟩ : TW Y Z T g q u1049 ∧ KF 1 T u1019 u1049 ∧ KF 6 T u1019 u1049 := hw1050
              have ke1054 : KF 1 T ws u1049 := KF.tr ke1024 ke1052
              have ke1055 : KF 6 T ws u1049 := KF.tr ke1025 ke1053
              refine W.eq (g2 := F0 m 84 ls []) rfl ?_
              refine lv_iload hx hb dX3_readTest_84 (lv_at hl 1 rfl) ?_
              refine lv_if_ne (tgt := 98) hx hb dX3_readTest_86 (by decide) (fun c1056 => ?_) (fun c1056 => ?_)
              rotate_left
              · have c1056 := i_eq (Eq.refl u724.toInt) (show (0 : Int32).toInt = 0 by decide) c1056; exfalso; omega
              have c1056 := i_ne (Eq.refl u724.toInt) (show (0 : Int32).toInt = 0 by decide) c1056
              obtain ⟨v1057, ev1057⟩ : ∃ y : Int32, y = v215 + 1 := ⟨_, rfl⟩
              have hv1057 := i_add (Eq.refl v215.toInt) (show (1 : Int32).toInt = 1 by decide) ev1057 (by omega) (by omega)
              refine lv_iinc (v := v1057) (lv' := [(3, .int v1057), (2, .int 1), (4, .int u724), (0, .ref p0), (1, .int 0)]) hx hb dX3_readTest_98 hl (k := 2) rfl (by rw [ev1057]; rfl) (by decide) rfl (fun ls hl => ?_)
              refine lv_goto (tgt := 9) hx hb dX3_readTest_101 (by decide) ?_
              have zi1 : (1 : Int32).toInt = 1 := by decide
              exact ih612 (v1057, 1, u1049) H locs ls (by show (400 - v1057.toInt).toNat < (400 - v215.toInt).toNat; omega) ⟨hP, hD, hS, lv_sub hl [0, 1, 3, 4] rfl, hT, ke1054, ke1055, by omega⟩
            · skip
              have c1026 := i_eq (Eq.refl v216.toInt) (show (0 : Int32).toInt = 0 by decide) c1026
              refine lv_iload hx hb dX3_readTest_67 (lv_at hl 0 rfl) ?_
              refine lv_iconst (v := 1) hx hb dX3_readTest_69 (by decide) ?_
              refine lv_icmp_ne (tgt := 77) hx hb dX3_readTest_70 (by decide) (fun c1058 => ?_) (fun c1058 => ?_)
              · have c1058 := i_ne (Eq.refl u724.toInt) (show (1 : Int32).toInt = 1 by decide) c1058; exfalso; omega
              have c1058 := i_eq (Eq.refl u724.toInt) (show (1 : Int32).toInt = 1 by decide) c1058
              refine lv_iconst (v := 1) hx hb dX3_readTest_73 (by decide) ?_
              refine lv_goto (tgt := 78) hx hb dX3_readTest_74 (by decide) ?_
              refine lv_istore_n (lv' := [(2, .int 1), (4, .int u724), (3, .int v215), (0, .ref p0), (1, .int 0)]) hx hb dX3_readTest_78 rfl hl (by decide) rfl (fun ls hl => ?_)
              refine lv_aload_n hx hb dX3_readTest_79 rfl (lv_at hl 3 rfl) ?_
              refine lv_iload_n hx hb dX3_readTest_80 rfl (lv_at hl 4 rfl) ?_
              refine ok7 hT ht0 (fun p1079 n1059 a1060 x1061 x1062 x1063 x1064 x1065 x1066 x1067 x1068 a1069 a1070 x1071 hk1080 h1072 h1073 h1074 h1075 h1076 h1077 h1078 => ?_)
              refine cga (rn_V (As := [.int 0]) (rest := []) (b := p0) (x_X3_readFact_0 l D Y Z H.size u1019 T g q p0 hT ht0) ⟨hx, hb, hml, hown, hg⟩ lk_X3_148 ⟨CPC.blind, va_recv hKN.1 hP (ci := 3) (q0 := p1079) rfl hk1080, CPC.at hP hKN hD hSZ hS hA⟩ ⟨⟨rfl, rfl⟩, ⟨Nat.le_of_ble_eq_true rfl, Nat.le_of_ble_eq_true rfl⟩, ⟨(Nat.le_of_ble_eq_true rfl), (Nat.le_of_ble_eq_true rfl)⟩⟩ hl.1 rfl (Nat.le_of_ble_eq_true rfl) dX3_readTest_81) hP hD hS hA (fun u1081 H locs hw1082 hP hD hS => ?_)
              obtain ⟨hT, ke1084, ke1085⟩ : TW Y Z T g q u1081 ∧ KF 1 T u1019 u1081 ∧ KF 6 T u1019 u1081 := hw1082
              have ke1086 : KF 1 T ws u1081 := KF.tr ke1024 ke1084
              have ke1087 : KF 6 T ws u1081 := KF.tr ke1025 ke1085
              refine W.eq (g2 := F0 m 84 ls []) rfl ?_
              refine lv_iload hx hb dX3_readTest_84 (lv_at hl 1 rfl) ?_
              refine lv_if_ne (tgt := 98) hx hb dX3_readTest_86 (by decide) (fun c1088 => ?_) (fun c1088 => ?_)
              rotate_left
              · have c1088 := i_eq (Eq.refl u724.toInt) (show (0 : Int32).toInt = 0 by decide) c1088; exfalso; omega
              have c1088 := i_ne (Eq.refl u724.toInt) (show (0 : Int32).toInt = 0 by decide) c1088
              obtain ⟨v1089, ev1089⟩ : ∃ y : Int32, y = v215 + 1 := ⟨_, rfl⟩
              have hv1089 := i_add (Eq.refl v215.toInt) (show (1 : Int32).toInt = 1 by decide) ev1089 (by omega) (by omega)
              refine lv_iinc (v := v1089) (lv' := [(3, .int v1089), (2, .int 1), (4, .int u724), (0, .ref p0), (1, .int 0)]) hx hb dX3_readTest_98 hl (k := 2) rfl (by rw [ev1089]; rfl) (by decide) rfl (fun ls hl => ?_)
              refine lv_goto (tgt := 9) hx hb dX3_readTest_101 (by decide) ?_
              have zi1 : (1 : Int32).toInt = 1 := by decide
              exact ih612 (v1089, 1, u1081) H locs ls (by show (400 - v1089.toInt).toNat < (400 - v215.toInt).toNat; omega) ⟨hP, hD, hS, lv_sub hl [0, 1, 3, 4] rfl, hT, ke1086, ke1087, by omega⟩
      · skip
        have c728 := i_eq (Eq.refl u724.toInt) (show ((-1) : Int32).toInt = -1 by decide) c728
        refine lv_goto (tgt := 104) hx hb dX3_readTest_37 (by decide) ?_
        refine lv_iload_n hx hb dX3_readTest_104 rfl (lv_at hl 2 rfl) ?_
        have j1090 := rgI v216
        refine lv_if_eq (tgt := 117) hx hb dX3_readTest_105 (by decide) (fun c1091 => ?_) (fun c1091 => ?_)
        · skip
          have c1091 := i_eq (Eq.refl v216.toInt) (show (0 : Int32).toInt = 0 by decide) c1091
          refine W.widen (k := 0) (n := 0) (Nat.le_of_ble_eq_true rfl) (Nat.le_of_ble_eq_true rfl) ?_
          exact W.vret hx hb hr (fun t ht hW => ⟨⟨w217, rfl, ⟨hT, ke610, ke611⟩, CB.mk ht hP hD⟩, hS.F ht⟩) hS.2.2 dX3_readTest_117
        · skip
          have c1091 := i_ne (Eq.refl v216.toInt) (show (0 : Int32).toInt = 0 by decide) c1091
          refine lv_aload_n hx hb dX3_readTest_108 rfl (lv_at hl 3 rfl) ?_
          refine va_get (D := D) (ci := 3) (v := .ref a679) (C := RX3) (T := TX3) (N := 12) hx hb hg inGX3 hown hKN.1 hP p688 hk689 rfl 10 (by decide) (hg _ kw_188) (fun _ h9 => h9) rfl dX3_readTest_109 ?_
          refine lv_ldc (v := 200263) hx hb hown (hg _ kw_742) dX3_readTest_112 ?_
          have zi200263 : (200263 : Int32).toInt = 200263 := by decide
          refine ok5 hT h685 (fun p1113 x1092 x1093 x1094 x1095 x1096 x1097 x1098 x1099 a1100 a1101 a1102 a1103 a1104 x1105 hk1114 h1106 h1107 h1108 h1109 h1110 h1111 h1112 => ?_)
          refine cga (rn_NV (As := [.int 200263]) (rest := []) (b := a679) (x_X8_addCode l D Y Z H.size w217 T g q a679 200263 hT h685) ⟨hx, hb, hml, hown, hg⟩ hKN lk_X3_154 ⟨CPC.blind, va_recv hKN.1 hP (ci := 8) (q0 := p1113) rfl hk1114, CPC.at hP hKN hD hSZ hS hA⟩ ⟨⟨rfl, rfl⟩, ⟨Nat.le_of_ble_eq_true rfl, Nat.le_of_ble_eq_true rfl⟩, ⟨(Nat.le_of_ble_eq_true rfl), (Nat.le_of_ble_eq_true rfl)⟩⟩ hl.1 rfl (Nat.le_of_ble_eq_true rfl) dX3_readTest_114) hP hD hS hA (fun u1115 H locs hw1116 hP hD hS => ?_)
          obtain ⟨hT, ke1118, ke1119⟩ : TW Y Z T g q u1115 ∧ KF 1 T w217 u1115 ∧ KF 6 T w217 u1115 := hw1116
          have ke1120 : KF 1 T ws u1115 := KF.tr ke610 ke1118
          have ke1121 : KF 6 T ws u1115 := KF.tr ke611 ke1119
          refine W.eq (g2 := F0 m 117 ls []) rfl ?_
          refine W.widen (k := 0) (n := 0) (Nat.le_of_ble_eq_true rfl) (Nat.le_of_ble_eq_true rfl) ?_
          exact W.vret hx hb hr (fun t ht hW => ⟨⟨u1115, rfl, ⟨hT, ke1120, ke1121⟩, CB.mk ht hP hD⟩, hS.F ht⟩) hS.2.2 dX3_readTest_117
set_option maxHeartbeats 4000000 in
set_option maxRecDepth 100000 in
theorem x_X3_readSearch (l : Launch) (D : va_G) (Y : Nat → ClassId) (Z : Nat → Nat) (sz : Nat) (ws : va_W) (T : RT) (g : GN) (q : GQ)  (p0 : Nat) (p1 : Int32) (hT : TW Y Z T g q ws) (ht0 : T p0 = (7, 0, 0)) : Met l yX3_readSearch (.code yX3_readSearch cX3_readSearch 2 none :: GW) ({ frames := 2, cells := 0, slots := 0, locals := 45 }) (va_Pc [.ref p0, .int p1] (CPC D Y Z ws sz)) (QG (S := va_W) (fun _ => none) (fun u => TW Y Z T g q u ∧ KF 1 T ws u ∧ KF 6 T ws u) (fun u => CB D u (va_A ws sz)) (va_A ws sz)) 0 0 (va_A ws sz) := by
  refine Met.ofW (cc := cX3_readSearch) (maxL := 2) (ret := none) (by decide) rfl ?_
  intro p e s m args below meth c s₁ B hml hv
  obtain ⟨rfl, ⟨hsz, hP, hKN, hD0⟩, hSZ⟩ := hv
  have hx := B.exec
  have hb := B.bytes
  have hr := B.returns
  have hts := atoms_spec (ws := .code yX3_readSearch cX3_readSearch 2 none :: GW) B.pre
  have hg : ∀ w ∈ GW, w.before _ s = true := fun w h => hts w (List.mem_cons_of_mem _ h)
  have hown : s.vm.findClass RX3 = some m.cls := findClass_of_methodNamed B.named
  have hlocks := B.notSynchronized
  subst hsz
  have hD := hD0.self (sz := s.heap.size)
  generalize hAe : va_A ws s.heap.size = A at hD hSZ ⊢
  have hA : ∀ q : Nat, s.heap.size ≤ q → A q := fun q h => by rw [← hAe]; exact Or.inr h
  clear hAe hD0 hts B
  have hl := lv_entry ([.ref p0, .int p1]) (n := 2) (Nat.le_of_ble_eq_true rfl)
  rw [lg_entry_eq]
  generalize (lg_sl ([.ref p0, .int p1]) ++ List.replicate (2 - (lg_sl ([.ref p0, .int p1])).length) Slot.unset).toArray = ls at hl ⊢
  have hl : lv_has ls 2 [(0, .ref p0), (1, .int p1)] := hl
  refine w_start (A0 := A) hP (fun H locs hP hS => ?_)
  refine lv_iload_n hx hb dX3_readSearch_0 rfl (lv_at hl 1 rfl) ?_
  have j1 := rgI p1
  refine lv_if_ne (tgt := 43) hx hb dX3_readSearch_1 (by decide) (fun c2 => ?_) (fun c2 => ?_)
  · skip
    have c2 := i_ne (Eq.refl p1.toInt) (show (0 : Int32).toInt = 0 by decide) c2
    refine lv_iload_n hx hb dX3_readSearch_43 rfl (lv_at hl 1 rfl) ?_
    refine lv_iconst (v := 1) hx hb dX3_readSearch_44 (by decide) ?_
    refine lv_icmp_ne (tgt := 85) hx hb dX3_readSearch_45 (by decide) (fun c3 => ?_) (fun c3 => ?_)
    · skip
      have c3 := i_ne (Eq.refl p1.toInt) (show (1 : Int32).toInt = 1 by decide) c3
      refine lv_iload_n hx hb dX3_readSearch_85 rfl (lv_at hl 1 rfl) ?_
      refine lv_iconst (v := 2) hx hb dX3_readSearch_86 (by decide) ?_
      refine lv_icmp_ne (tgt := 107) hx hb dX3_readSearch_87 (by decide) (fun c4 => ?_) (fun c4 => ?_)
      · skip
        have c4 := i_ne (Eq.refl p1.toInt) (show (2 : Int32).toInt = 2 by decide) c4
        refine lv_aload_n hx hb dX3_readSearch_107 rfl (lv_at hl 0 rfl) ?_
        refine ok7 hT ht0 (fun p25 n5 a6 x7 x8 x9 x10 x11 x12 x13 x14 a15 a16 x17 hk26 h18 h19 h20 h21 h22 h23 h24 => ?_)
        refine va_get (D := D) (ci := 3) (v := .ref a16) (C := RX3) (T := TX3) (N := 12) hx hb hg inGX3 hown hKN.1 hP p25 hk26 rfl 10 (by decide) (hg _ kw_188) (fun _ h9 => h9) rfl dX3_readSearch_108 ?_
        refine lv_aload_n hx hb dX3_readSearch_111 rfl (lv_at hl 0 rfl) ?_
        refine lv_iconst (v := 0) hx hb dX3_readSearch_112 (by decide) ?_
        refine lv_ldc (v := 99999) hx hb hown (hg _ kw_699) dX3_readSearch_113 ?_
        have zi0 : (0 : Int32).toInt = 0 := by decide
        have zi99999 : (99999 : Int32).toInt = 99999 := by decide
        refine cga (rn_V (As := [.int 0, .int 99999]) (rest := [.ref a16]) (b := p0) (x_X3_readNumber l D Y Z H.size ws T g q p0 0 99999 hT ht0) ⟨hx, hb, hml, hown, hg⟩ lk_X3_106 ⟨CPC.blind, va_recv hKN.1 hP (ci := 3) (q0 := p25) rfl hk26, CPC.at hP hKN hD hSZ hS hA⟩ ⟨⟨rfl, rfl⟩, ⟨Nat.le_of_ble_eq_true rfl, Nat.le_of_ble_eq_true rfl⟩, ⟨(Nat.le_of_ble_eq_true rfl), (Nat.le_of_ble_eq_true rfl)⟩⟩ hl.1 rfl (Nat.le_of_ble_eq_true rfl) dX3_readSearch_115) hP hD hS hA (fun u27 H locs hw28 hP hD hS => ?_)
        obtain ⟨u29, w30⟩ := u27
        obtain ⟨hT, ke31, ke32⟩ : TW Y Z T g q w30 ∧ KF 1 T ws w30 ∧ KF 6 T ws w30 := hw28
        have ke33 : KF 1 T ws w30 := KF.tr KF.rf ke31
        have ke34 : KF 6 T ws w30 := KF.tr KF.rf ke32
        refine W.eq (g2 := F0 m 118 ls [.int u29, .ref a16]) rfl ?_
        refine ok5 hT h22 (fun p56 x35 x36 x37 x38 x39 x40 x41 x42 a43 a44 a45 a46 a47 x48 hk57 h49 h50 h51 h52 h53 h54 h55 => ?_)
        refine va_putN (D := D) (ci := 8) (v := .int u29) (ty := .int) (C := RX8) (T := TX8) (N := 14) hx hb hg inGX8 tyX8 tyX8_ok nmX8 hown hKN.1 hP hD hS p56 hk57 rfl 6 (by decide) (va_Nw.use rfl (hKN.2.1 _ kn_134 rfl)) (fun _ h9 => h9) rfl (by decide +kernel) rfl rfl (Nat.le_of_ble_eq_true rfl) dX3_readSearch_118 (fun H locs hP hD2 hS => ?_)
        obtain ⟨w58, hP, hD, hT, hk60, kp59⟩ : ∃ wz, va_P D vwCl wz H ∧ va_D A wz ∧ TW Y Z T g q wz ∧ wz[p56]? = some (a16, .inr (8, (.int x35 :: .int x36 :: .int x37 :: .int x38 :: .int x39 :: .int x40 :: .int u29 :: .int x42 :: .ref a43 :: .ref a44 :: .ref a45 :: .ref a46 :: .ref a47 :: .int x48 :: []))) ∧ Kp a16 w30 wz := ⟨_, hP, hD2, st5 hT hD hk57 h22 ⟨x35, x36, x37, x38, x39, x40, u29, x42, a43, a44, a45, a46, a47, x48, rfl, by omega, h50, h51, h52, h53, h54, by omega⟩, sw_eq hk57, sw_kp hk57⟩
        have ke61 : KF 1 T ws w58 := KF.tr ke33 (KF.kp kp59 h22 (by decide))
        have ke62 : KF 6 T ws w58 := KF.tr ke34 (KF.kp kp59 h22 (by decide))
        refine W.widen (k := 0) (n := 0) (Nat.le_of_ble_eq_true rfl) (Nat.le_of_ble_eq_true rfl) ?_
        exact W.vret hx hb hr (fun t ht hW => ⟨⟨w58, rfl, ⟨hT, ke61, ke62⟩, CB.mk ht hP hD⟩, hS.F ht⟩) hS.2.2 dX3_readSearch_121
      · skip
        have c4 := i_eq (Eq.refl p1.toInt) (show (2 : Int32).toInt = 2 by decide) c4
        refine lv_aload_n hx hb dX3_readSearch_90 rfl (lv_at hl 0 rfl) ?_
        refine ok7 hT ht0 (fun p83 n63 a64 x65 x66 x67 x68 x69 x70 x71 x72 a73 a74 x75 hk84 h76 h77 h78 h79 h80 h81 h82 => ?_)
        refine va_get (D := D) (ci := 3) (v := .ref a74) (C := RX3) (T := TX3) (N := 12) hx hb hg inGX3 hown hKN.1 hP p83 hk84 rfl 10 (by decide) (hg _ kw_188) (fun _ h9 => h9) rfl dX3_readSearch_91 ?_
        refine lv_aload_n hx hb dX3_readSearch_94 rfl (lv_at hl 0 rfl) ?_
        refine lv_iconst (v := 1) hx hb dX3_readSearch_95 (by decide) ?_
        refine lv_bipush (v := 99) hx hb dX3_readSearch_96 (by decide) ?_
        have zi1 : (1 : Int32).toInt = 1 := by decide
        have zi99 : (99 : Int32).toInt = 99 := by decide
        refine cga (rn_V (As := [.int 1, .int 99]) (rest := [.ref a74]) (b := p0) (x_X3_readNumber l D Y Z H.size ws T g q p0 1 99 hT ht0) ⟨hx, hb, hml, hown, hg⟩ lk_X3_106 ⟨CPC.blind, va_recv hKN.1 hP (ci := 3) (q0 := p83) rfl hk84, CPC.at hP hKN hD hSZ hS hA⟩ ⟨⟨rfl, rfl⟩, ⟨Nat.le_of_ble_eq_true rfl, Nat.le_of_ble_eq_true rfl⟩, ⟨(Nat.le_of_ble_eq_true rfl), (Nat.le_of_ble_eq_true rfl)⟩⟩ hl.1 rfl (Nat.le_of_ble_eq_true rfl) dX3_readSearch_98) hP hD hS hA (fun u85 H locs hw86 hP hD hS => ?_)
        obtain ⟨u87, w88⟩ := u85
        obtain ⟨hT, ke89, ke90⟩ : TW Y Z T g q w88 ∧ KF 1 T ws w88 ∧ KF 6 T ws w88 := hw86
        have ke91 : KF 1 T ws w88 := KF.tr KF.rf ke89
        have ke92 : KF 6 T ws w88 := KF.tr KF.rf ke90
        refine W.eq (g2 := F0 m 101 ls [.int u87, .ref a74]) rfl ?_
        refine ok5 hT h80 (fun p114 x93 x94 x95 x96 x97 x98 x99 x100 a101 a102 a103 a104 a105 x106 hk115 h107 h108 h109 h110 h111 h112 h113 => ?_)
        refine va_putN (D := D) (ci := 8) (v := .int u87) (ty := .int) (C := RX8) (T := TX8) (N := 14) hx hb hg inGX8 tyX8 tyX8_ok nmX8 hown hKN.1 hP hD hS p114 hk115 rfl 5 (by decide) (va_Nw.use rfl (hKN.2.1 _ kn_131 rfl)) (fun _ h9 => h9) rfl (by decide +kernel) rfl rfl (Nat.le_of_ble_eq_true rfl) dX3_readSearch_101 (fun H locs hP hD2 hS => ?_)
        obtain ⟨w116, hP, hD, hT, hk118, kp117⟩ : ∃ wz, va_P D vwCl wz H ∧ va_D A wz ∧ TW Y Z T g q wz ∧ wz[p114]? = some (a74, .inr (8, (.int x93 :: .int x94 :: .int x95 :: .int x96 :: .int x97 :: .int u87 :: .int x99 :: .int x100 :: .ref a101 :: .ref a102 :: .ref a103 :: .ref a104 :: .ref a105 :: .int x106 :: []))) ∧ Kp a74 w88 wz := ⟨_, hP, hD2, st5 hT hD hk115 h80 ⟨x93, x94, x95, x96, x97, u87, x99, x100, a101, a102, a103, a104, a105, x106, rfl, by omega, h108, h109, h110, h111, h112, by omega⟩, sw_eq hk115, sw_kp hk115⟩
        have ke119 : KF 1 T ws w116 := KF.tr ke91 (KF.kp kp117 h80 (by decide))
        have ke120 : KF 6 T ws w116 := KF.tr ke92 (KF.kp kp117 h80 (by decide))
        refine lv_goto (tgt := 121) hx hb dX3_readSearch_104 (by decide) ?_
        refine W.widen (k := 0) (n := 0) (Nat.le_of_ble_eq_true rfl) (Nat.le_of_ble_eq_true rfl) ?_
        exact W.vret hx hb hr (fun t ht hW => ⟨⟨w116, rfl, ⟨hT, ke119, ke120⟩, CB.mk ht hP hD⟩, hS.F ht⟩) hS.2.2 dX3_readSearch_121
    · skip
      have c3 := i_eq (Eq.refl p1.toInt) (show (1 : Int32).toInt = 1 by decide) c3
      refine lv_aload_n hx hb dX3_readSearch_48 rfl (lv_at hl 0 rfl) ?_
      refine ok7 hT ht0 (fun p141 n121 a122 x123 x124 x125 x126 x127 x128 x129 x130 a131 a132 x133 hk142 h134 h135 h136 h137 h138 h139 h140 => ?_)
      refine va_get (D := D) (ci := 3) (v := .ref a132) (C := RX3) (T := TX3) (N := 12) hx hb hg inGX3 hown hKN.1 hP p141 hk142 rfl 10 (by decide) (hg _ kw_188) (fun _ h9 => h9) rfl dX3_readSearch_49 ?_
      refine lv_aload_n hx hb dX3_readSearch_52 rfl (lv_at hl 0 rfl) ?_
      refine lv_iconst (v := 1) hx hb dX3_readSearch_53 (by decide) ?_
      refine lv_bipush (v := 10) hx hb dX3_readSearch_54 (by decide) ?_
      have zi1 : (1 : Int32).toInt = 1 := by decide
      have zi10 : (10 : Int32).toInt = 10 := by decide
      refine cga (rn_V (As := [.int 1, .int 10]) (rest := [.ref a132]) (b := p0) (x_X3_readNumber l D Y Z H.size ws T g q p0 1 10 hT ht0) ⟨hx, hb, hml, hown, hg⟩ lk_X3_106 ⟨CPC.blind, va_recv hKN.1 hP (ci := 3) (q0 := p141) rfl hk142, CPC.at hP hKN hD hSZ hS hA⟩ ⟨⟨rfl, rfl⟩, ⟨Nat.le_of_ble_eq_true rfl, Nat.le_of_ble_eq_true rfl⟩, ⟨(Nat.le_of_ble_eq_true rfl), (Nat.le_of_ble_eq_true rfl)⟩⟩ hl.1 rfl (Nat.le_of_ble_eq_true rfl) dX3_readSearch_56) hP hD hS hA (fun u143 H locs hw144 hP hD hS => ?_)
      obtain ⟨u145, w146⟩ := u143
      obtain ⟨hT, ke147, ke148⟩ : TW Y Z T g q w146 ∧ KF 1 T ws w146 ∧ KF 6 T ws w146 := hw144
      have ke149 : KF 1 T ws w146 := KF.tr KF.rf ke147
      have ke150 : KF 6 T ws w146 := KF.tr KF.rf ke148
      refine W.eq (g2 := F0 m 59 ls [.int u145, .ref a132]) rfl ?_
      refine ok5 hT h138 (fun p172 x151 x152 x153 x154 x155 x156 x157 x158 a159 a160 a161 a162 a163 x164 hk173 h165 h166 h167 h168 h169 h170 h171 => ?_)
      refine va_putN (D := D) (ci := 8) (v := .int u145) (ty := .int) (C := RX8) (T := TX8) (N := 14) hx hb hg inGX8 tyX8 tyX8_ok nmX8 hown hKN.1 hP hD hS p172 hk173 rfl 3 (by decide) (va_Nw.use rfl (hKN.2.1 _ kn_125 rfl)) (fun _ h9 => h9) rfl (by decide +kernel) rfl rfl (Nat.le_of_ble_eq_true rfl) dX3_readSearch_59 (fun H locs hP hD2 hS => ?_)
      obtain ⟨w174, hP, hD, hT, hk176, kp175⟩ : ∃ wz, va_P D vwCl wz H ∧ va_D A wz ∧ TW Y Z T g q wz ∧ wz[p172]? = some (a132, .inr (8, (.int x151 :: .int x152 :: .int x153 :: .int u145 :: .int x155 :: .int x156 :: .int x157 :: .int x158 :: .ref a159 :: .ref a160 :: .ref a161 :: .ref a162 :: .ref a163 :: .int x164 :: []))) ∧ Kp a132 w146 wz := ⟨_, hP, hD2, st5 hT hD hk173 h138 ⟨x151, x152, x153, u145, x155, x156, x157, x158, a159, a160, a161, a162, a163, x164, rfl, by omega, h166, h167, h168, h169, h170, by omega⟩, sw_eq hk173, sw_kp hk173⟩
      have ke177 : KF 1 T ws w174 := KF.tr ke149 (KF.kp kp175 h138 (by decide))
      have ke178 : KF 6 T ws w174 := KF.tr ke150 (KF.kp kp175 h138 (by decide))
      refine lv_aload_n hx hb dX3_readSearch_62 rfl (lv_at hl 0 rfl) ?_
      refine ok7 hT ht0 (fun p199 n179 a180 x181 x182 x183 x184 x185 x186 x187 x188 a189 a190 x191 hk200 h192 h193 h194 h195 h196 h197 h198 => ?_)
      refine va_get (D := D) (ci := 3) (v := .ref a190) (C := RX3) (T := TX3) (N := 12) hx hb hg inGX3 hown hKN.1 hP p199 hk200 rfl 10 (by decide) (hg _ kw_188) (fun _ h9 => h9) rfl dX3_readSearch_63 ?_
      refine lv_aload_n hx hb dX3_readSearch_66 rfl (lv_at hl 0 rfl) ?_
      refine lv_aload_n hx hb dX3_readSearch_67 rfl (lv_at hl 0 rfl) ?_
      refine va_get (D := D) (ci := 3) (v := .ref a190) (C := RX3) (T := TX3) (N := 12) hx hb hg inGX3 hown hKN.1 hP p199 hk200 rfl 10 (by decide) (hg _ kw_188) (fun _ h9 => h9) rfl dX3_readSearch_68 ?_
      refine ok5 hT h196 (fun p222 x201 x202 x203 x204 x205 x206 x207 x208 a209 a210 a211 a212 a213 x214 hk223 h215 h216 h217 h218 h219 h220 h221 => ?_)
      refine va_getN (D := D) (ci := 8) (v := .int x204) (C := RX8) (T := TX8) (N := 14) hx hb hg inGX8 hown hKN.1 hP p222 hk223 rfl 3 (by decide) (va_Nw.use rfl (hKN.2.1 _ kn_125 rfl)) (fun _ h9 => h9) rfl dX3_readSearch_71 ?_
      refine lv_bipush (v := 10) hx hb dX3_readSearch_74 (by decide) ?_
      refine cga (rn_V (As := [.int x204, .int 10]) (rest := [.ref a190]) (b := p0) (x_X3_readNumber l D Y Z H.size w174 T g q p0 x204 10 hT ht0) ⟨hx, hb, hml, hown, hg⟩ lk_X3_106 ⟨CPC.blind, va_recv hKN.1 hP (ci := 3) (q0 := p199) rfl hk200, CPC.at hP hKN hD hSZ hS hA⟩ ⟨⟨rfl, rfl⟩, ⟨Nat.le_of_ble_eq_true rfl, Nat.le_of_ble_eq_true rfl⟩, ⟨(Nat.le_of_ble_eq_true rfl), (Nat.le_of_ble_eq_true rfl)⟩⟩ hl.1 rfl (Nat.le_of_ble_eq_true rfl) dX3_readSearch_76) hP hD hS hA (fun u224 H locs hw225 hP hD hS => ?_)
      obtain ⟨u226, w227⟩ := u224
      obtain ⟨hT, ke228, ke229⟩ : TW Y Z T g q w227 ∧ KF 1 T w174 w227 ∧ KF 6 T w174 w227 := hw225
      have ke230 : KF 1 T ws w227 := KF.tr ke177 ke228
      have ke231 : KF 6 T ws w227 := KF.tr ke178 ke229
      refine W.eq (g2 := F0 m 79 ls [.int u226, .ref a190]) rfl ?_
      refine ok5 hT h196 (fun p253 x232 x233 x234 x235 x236 x237 x238 x239 a240 a241 a242 a243 a244 x245 hk254 h246 h247 h248 h249 h250 h251 h252 => ?_)
      refine va_putN (D := D) (ci := 8) (v := .int u226) (ty := .int) (C := RX8) (T := TX8) (N := 14) hx hb hg inGX8 tyX8 tyX8_ok nmX8 hown hKN.1 hP hD hS p253 hk254 rfl 4 (by decide) (va_Nw.use rfl (hKN.2.1 _ kn_128 rfl)) (fun _ h9 => h9) rfl (by decide +kernel) rfl rfl (Nat.le_of_ble_eq_true rfl) dX3_readSearch_79 (fun H locs hP hD2 hS => ?_)
      obtain ⟨w255, hP, hD, hT, hk257, kp256⟩ : ∃ wz, va_P D vwCl wz H ∧ va_D A wz ∧ TW Y Z T g q wz ∧ wz[p253]? = some (a190, .inr (8, (.int x232 :: .int x233 :: .int x234 :: .int x235 :: .int u226 :: .int x237 :: .int x238 :: .int x239 :: .ref a240 :: .ref a241 :: .ref a242 :: .ref a243 :: .ref a244 :: .int x245 :: []))) ∧ Kp a190 w227 wz := ⟨_, hP, hD2, st5 hT hD hk254 h196 ⟨x232, x233, x234, x235, u226, x237, x238, x239, a240, a241, a242, a243, a244, x245, rfl, by omega, h247, h248, h249, h250, h251, by omega⟩, sw_eq hk254, sw_kp hk254⟩
      have ke258 : KF 1 T ws w255 := KF.tr ke230 (KF.kp kp256 h196 (by decide))
      have ke259 : KF 6 T ws w255 := KF.tr ke231 (KF.kp kp256 h196 (by decide))
      refine lv_goto (tgt := 121) hx hb dX3_readSearch_82 (by decide) ?_
      refine W.widen (k := 0) (n := 0) (Nat.le_of_ble_eq_true rfl) (Nat.le_of_ble_eq_true rfl) ?_
      exact W.vret hx hb hr (fun t ht hW => ⟨⟨w255, rfl, ⟨hT, ke258, ke259⟩, CB.mk ht hP hD⟩, hS.F ht⟩) hS.2.2 dX3_readSearch_121
  · skip
    have c2 := i_eq (Eq.refl p1.toInt) (show (0 : Int32).toInt = 0 by decide) c2
    refine lv_aload_n hx hb dX3_readSearch_4 rfl (lv_at hl 0 rfl) ?_
    refine ok7 hT ht0 (fun p280 n260 a261 x262 x263 x264 x265 x266 x267 x268 x269 a270 a271 x272 hk281 h273 h274 h275 h276 h277 h278 h279 => ?_)
    refine va_get (D := D) (ci := 3) (v := .ref a271) (C := RX3) (T := TX3) (N := 12) hx hb hg inGX3 hown hKN.1 hP p280 hk281 rfl 10 (by decide) (hg _ kw_188) (fun _ h9 => h9) rfl dX3_readSearch_5 ?_
    refine lv_aload_n hx hb dX3_readSearch_8 rfl (lv_at hl 0 rfl) ?_
    refine lv_iconst (v := 2) hx hb dX3_readSearch_9 (by decide) ?_
    refine lv_sipush (v := 200) hx hb dX3_readSearch_10 (by decide) ?_
    have zi2 : (2 : Int32).toInt = 2 := by decide
    have zi200 : (200 : Int32).toInt = 200 := by decide
    refine cga (rn_V (As := [.int 2, .int 200]) (rest := [.ref a271]) (b := p0) (x_X3_readNumber l D Y Z H.size ws T g q p0 2 200 hT ht0) ⟨hx, hb, hml, hown, hg⟩ lk_X3_106 ⟨CPC.blind, va_recv hKN.1 hP (ci := 3) (q0 := p280) rfl hk281, CPC.at hP hKN hD hSZ hS hA⟩ ⟨⟨rfl, rfl⟩, ⟨Nat.le_of_ble_eq_true rfl, Nat.le_of_ble_eq_true rfl⟩, ⟨(Nat.le_of_ble_eq_true rfl), (Nat.le_of_ble_eq_true rfl)⟩⟩ hl.1 rfl (Nat.le_of_ble_eq_true rfl) dX3_readSearch_13) hP hD hS hA (fun u282 H locs hw283 hP hD hS => ?_)
    obtain ⟨u284, w285⟩ := u282
    obtain ⟨hT, ke286, ke287⟩ : TW Y Z T g q w285 ∧ KF 1 T ws w285 ∧ KF 6 T ws w285 := hw283
    have ke288 : KF 1 T ws w285 := KF.tr KF.rf ke286
    have ke289 : KF 6 T ws w285 := KF.tr KF.rf ke287
    refine W.eq (g2 := F0 m 16 ls [.int u284, .ref a271]) rfl ?_
    refine ok5 hT h277 (fun p311 x290 x291 x292 x293 x294 x295 x296 x297 a298 a299 a300 a301 a302 x303 hk312 h304 h305 h306 h307 h308 h309 h310 => ?_)
    refine va_putN (D := D) (ci := 8) (v := .int u284) (ty := .int) (C := RX8) (T := TX8) (N := 14) hx hb hg inGX8 tyX8 tyX8_ok nmX8 hown hKN.1 hP hD hS p311 hk312 rfl 1 (by decide) (va_Nw.use rfl (hKN.2.1 _ kn_119 rfl)) (fun _ h9 => h9) rfl (by decide +kernel) rfl rfl (Nat.le_of_ble_eq_true rfl) dX3_readSearch_16 (fun H locs hP hD2 hS => ?_)
    obtain ⟨w313, hP, hD, hT, hk315, kp314⟩ : ∃ wz, va_P D vwCl wz H ∧ va_D A wz ∧ TW Y Z T g q wz ∧ wz[p311]? = some (a271, .inr (8, (.int x290 :: .int u284 :: .int x292 :: .int x293 :: .int x294 :: .int x295 :: .int x296 :: .int x297 :: .ref a298 :: .ref a299 :: .ref a300 :: .ref a301 :: .ref a302 :: .int x303 :: []))) ∧ Kp a271 w285 wz := ⟨_, hP, hD2, st5 hT hD hk312 h277 ⟨x290, u284, x292, x293, x294, x295, x296, x297, a298, a299, a300, a301, a302, x303, rfl, by omega, h305, h306, h307, h308, h309, by omega⟩, sw_eq hk312, sw_kp hk312⟩
    have ke316 : KF 1 T ws w313 := KF.tr ke288 (KF.kp kp314 h277 (by decide))
    have ke317 : KF 6 T ws w313 := KF.tr ke289 (KF.kp kp314 h277 (by decide))
    refine lv_aload_n hx hb dX3_readSearch_19 rfl (lv_at hl 0 rfl) ?_
    refine ok7 hT ht0 (fun p338 n318 a319 x320 x321 x322 x323 x324 x325 x326 x327 a328 a329 x330 hk339 h331 h332 h333 h334 h335 h336 h337 => ?_)
    refine va_get (D := D) (ci := 3) (v := .ref a329) (C := RX3) (T := TX3) (N := 12) hx hb hg inGX3 hown hKN.1 hP p338 hk339 rfl 10 (by decide) (hg _ kw_188) (fun _ h9 => h9) rfl dX3_readSearch_20 ?_
    refine lv_aload_n hx hb dX3_readSearch_23 rfl (lv_at hl 0 rfl) ?_
    refine lv_aload_n hx hb dX3_readSearch_24 rfl (lv_at hl 0 rfl) ?_
    refine va_get (D := D) (ci := 3) (v := .ref a329) (C := RX3) (T := TX3) (N := 12) hx hb hg inGX3 hown hKN.1 hP p338 hk339 rfl 10 (by decide) (hg _ kw_188) (fun _ h9 => h9) rfl dX3_readSearch_25 ?_
    refine ok5 hT h335 (fun p361 x340 x341 x342 x343 x344 x345 x346 x347 a348 a349 a350 a351 a352 x353 hk362 h354 h355 h356 h357 h358 h359 h360 => ?_)
    refine va_getN (D := D) (ci := 8) (v := .int x341) (C := RX8) (T := TX8) (N := 14) hx hb hg inGX8 hown hKN.1 hP p361 hk362 rfl 1 (by decide) (va_Nw.use rfl (hKN.2.1 _ kn_119 rfl)) (fun _ h9 => h9) rfl dX3_readSearch_28 ?_
    refine lv_sipush (v := 200) hx hb dX3_readSearch_31 (by decide) ?_
    refine cga (rn_V (As := [.int x341, .int 200]) (rest := [.ref a329]) (b := p0) (x_X3_readNumber l D Y Z H.size w313 T g q p0 x341 200 hT ht0) ⟨hx, hb, hml, hown, hg⟩ lk_X3_106 ⟨CPC.blind, va_recv hKN.1 hP (ci := 3) (q0 := p338) rfl hk339, CPC.at hP hKN hD hSZ hS hA⟩ ⟨⟨rfl, rfl⟩, ⟨Nat.le_of_ble_eq_true rfl, Nat.le_of_ble_eq_true rfl⟩, ⟨(Nat.le_of_ble_eq_true rfl), (Nat.le_of_ble_eq_true rfl)⟩⟩ hl.1 rfl (Nat.le_of_ble_eq_true rfl) dX3_readSearch_34) hP hD hS hA (fun u363 H locs hw364 hP hD hS => ?_)
    obtain ⟨u365, w366⟩ := u363
    obtain ⟨hT, ke367, ke368⟩ : TW Y Z T g q w366 ∧ KF 1 T w313 w366 ∧ KF 6 T w313 w366 := hw364
    have ke369 : KF 1 T ws w366 := KF.tr ke316 ke367
    have ke370 : KF 6 T ws w366 := KF.tr ke317 ke368
    refine W.eq (g2 := F0 m 37 ls [.int u365, .ref a329]) rfl ?_
    refine ok5 hT h335 (fun p392 x371 x372 x373 x374 x375 x376 x377 x378 a379 a380 a381 a382 a383 x384 hk393 h385 h386 h387 h388 h389 h390 h391 => ?_)
    refine va_putN (D := D) (ci := 8) (v := .int u365) (ty := .int) (C := RX8) (T := TX8) (N := 14) hx hb hg inGX8 tyX8 tyX8_ok nmX8 hown hKN.1 hP hD hS p392 hk393 rfl 2 (by decide) (va_Nw.use rfl (hKN.2.1 _ kn_122 rfl)) (fun _ h9 => h9) rfl (by decide +kernel) rfl rfl (Nat.le_of_ble_eq_true rfl) dX3_readSearch_37 (fun H locs hP hD2 hS => ?_)
    obtain ⟨w394, hP, hD, hT, hk396, kp395⟩ : ∃ wz, va_P D vwCl wz H ∧ va_D A wz ∧ TW Y Z T g q wz ∧ wz[p392]? = some (a329, .inr (8, (.int x371 :: .int x372 :: .int u365 :: .int x374 :: .int x375 :: .int x376 :: .int x377 :: .int x378 :: .ref a379 :: .ref a380 :: .ref a381 :: .ref a382 :: .ref a383 :: .int x384 :: []))) ∧ Kp a329 w366 wz := ⟨_, hP, hD2, st5 hT hD hk393 h335 ⟨x371, x372, u365, x374, x375, x376, x377, x378, a379, a380, a381, a382, a383, x384, rfl, by omega, h386, h387, h388, h389, h390, by omega⟩, sw_eq hk393, sw_kp hk393⟩
    have ke397 : KF 1 T ws w394 := KF.tr ke369 (KF.kp kp395 h335 (by decide))
    have ke398 : KF 6 T ws w394 := KF.tr ke370 (KF.kp kp395 h335 (by decide))
    refine lv_goto (tgt := 121) hx hb dX3_readSearch_40 (by decide) ?_
    refine W.widen (k := 0) (n := 0) (Nat.le_of_ble_eq_true rfl) (Nat.le_of_ble_eq_true rfl) ?_
    exact W.vret hx hb hr (fun t ht hW => ⟨⟨w394, rfl, ⟨hT, ke397, ke398⟩, CB.mk ht hP hD⟩, hS.F ht⟩) hS.2.2 dX3_readSearch_121
set_option maxHeartbeats 4000000 in
set_option maxRecDepth 100000 in
theorem x_X3_readClause (l : Launch) (D : va_G) (Y : Nat → ClassId) (Z : Nat → Nat) (sz : Nat) (ws : va_W) (T : RT) (g : GN) (q : GQ)  (p0 : Nat) (p1 : Int32) (p2 : Int32) (hT : TW Y Z T g q ws) (ht0 : T p0 = (7, 0, 0)) : Met l yX3_readClause (.code yX3_readClause cX3_readClause 7 none :: GW) ({ frames := 29, cells := 0, slots := 0, locals := 673 }) (va_Pc [.ref p0, .int p1, .int p2] (CPC D Y Z ws sz)) (QG (S := va_W) (fun _ => none) (fun u => TW Y Z T g q u ∧ KF 1 T ws u ∧ KF 6 T ws u) (fun u => CB D u (va_A ws sz)) (va_A ws sz)) 0 0 (va_A ws sz) := by
  refine Met.ofW (cc := cX3_readClause) (maxL := 7) (ret := none) (by decide) rfl ?_
  intro p e s m args below meth c s₁ B hml hv
  obtain ⟨rfl, ⟨hsz, hP, hKN, hD0⟩, hSZ⟩ := hv
  have hx := B.exec
  have hb := B.bytes
  have hr := B.returns
  have hts := atoms_spec (ws := .code yX3_readClause cX3_readClause 7 none :: GW) B.pre
  have hg : ∀ w ∈ GW, w.before _ s = true := fun w h => hts w (List.mem_cons_of_mem _ h)
  have hown : s.vm.findClass RX3 = some m.cls := findClass_of_methodNamed B.named
  have hlocks := B.notSynchronized
  subst hsz
  have hD := hD0.self (sz := s.heap.size)
  generalize hAe : va_A ws s.heap.size = A at hD hSZ ⊢
  have hA : ∀ q : Nat, s.heap.size ≤ q → A q := fun q h => by rw [← hAe]; exact Or.inr h
  clear hAe hD0 hts B
  have hl := lv_entry ([.ref p0, .int p1, .int p2]) (n := 7) (Nat.le_of_ble_eq_true rfl)
  rw [lg_entry_eq]
  generalize (lg_sl ([.ref p0, .int p1, .int p2]) ++ List.replicate (7 - (lg_sl ([.ref p0, .int p1, .int p2])).length) Slot.unset).toArray = ls at hl ⊢
  have hl : lv_has ls 7 [(0, .ref p0), (1, .int p1), (2, .int p2)] := hl
  refine w_start (A0 := A) hP (fun H locs hP hS => ?_)
  refine lv_iload_n hx hb dX3_readClause_0 rfl (lv_at hl 1 rfl) ?_
  have j1 := rgI p1
  refine lv_if_ne (tgt := 9) hx hb dX3_readClause_1 (by decide) (fun c2 => ?_) (fun c2 => ?_)
  · skip
    have c2 := i_ne (Eq.refl p1.toInt) (show (0 : Int32).toInt = 0 by decide) c2
    refine lv_iload_n hx hb dX3_readClause_9 rfl (lv_at hl 1 rfl) ?_
    refine lv_iconst (v := 1) hx hb dX3_readClause_10 (by decide) ?_
    refine lv_icmp_ne (tgt := 19) hx hb dX3_readClause_11 (by decide) (fun c3 => ?_) (fun c3 => ?_)
    · skip
      have c3 := i_ne (Eq.refl p1.toInt) (show (1 : Int32).toInt = 1 by decide) c3
      refine va_ldcS (q := Z 5) hx hb hown (hKN.2.2.2 5 (RX3, 97, "world pair spot glass chance") rfl) dX3_readClause_19 ?_
      refine lv_astore_n (lv' := [(3, .ref (Z 5)), (0, .ref p0), (1, .int p1), (2, .int p2)]) hx hb dX3_readClause_21 rfl hl (by decide) rfl (fun ls hl => ?_)
      refine lv_aload_n hx hb dX3_readClause_22 rfl (lv_at hl 1 rfl) ?_
      refine lv_aload_n hx hb dX3_readClause_23 rfl (lv_at hl 0 rfl) ?_
      refine ok7 hT ht0 (fun p24 n4 a5 x6 x7 x8 x9 x10 x11 x12 x13 a14 a15 x16 hk25 h17 h18 h19 h20 h21 h22 h23 => ?_)
      refine cga (rn_V (As := [.ref (Z 5)]) (rest := []) (b := p0) (x_X3_whichOf l D Y Z H.size ws T g q 5 p0 hT ht0 (by decide)) ⟨hx, hb, hml, hown, hg⟩ lk_X3_99 ⟨CPC.blind, va_recv hKN.1 hP (ci := 3) (q0 := p24) rfl hk25, CPC.at hP hKN hD hSZ hS hA⟩ ⟨⟨rfl, rfl⟩, ⟨Nat.le_of_ble_eq_true rfl, Nat.le_of_ble_eq_true rfl⟩, ⟨(Nat.le_of_ble_eq_true rfl), (Nat.le_of_ble_eq_true rfl)⟩⟩ hl.1 rfl (Nat.le_of_ble_eq_true rfl) dX3_readClause_24) hP hD hS hA (fun u26 H locs hw27 hP hD hS => ?_)
      refine W.eq (g2 := F0 m 27 ls [.int u26]) rfl ?_
      refine lv_istore (lv' := [(4, .int u26), (3, .ref (Z 5)), (0, .ref p0), (1, .int p1), (2, .int p2)]) hx hb dX3_readClause_27 hl (by decide) rfl (fun ls hl => ?_)
      refine lv_iload_n hx hb dX3_readClause_29 rfl (lv_at hl 3 rfl) ?_
      refine w_join (σ := Int32) (pcJ := 44) (kJ := 0) (nJ := 0) (stk := fun xx => match xx with | v32 => [.int v32]) (fun xx H locs ls => match xx with | v32 => va_P D vwCl ws H ∧ va_D A ws ∧ va_S A s.heap H locs ∧ lv_has ls 7 [(4, .int u26), (3, .ref (Z 5)), (0, .ref p0), (1, .int p1), (2, .int p2)] ∧ TW Y Z T g q ws ∧ (0 ≤ v32.toInt ∧ v32.toInt ≤ 1)) (fun xx H locs ls hI => ?_) (fun jn33 => ?_)
      · skip
        revert hI
        generalize xx = v32
        intro hI
        obtain ⟨hP, hD, hS, hl, hT, hq34⟩ := hI
        refine W.eq (g2 := F0 m 44 ls [.int v32]) rfl ?_
        refine lv_istore (lv' := [(5, .int v32), (4, .int u26), (3, .ref (Z 5)), (0, .ref p0), (1, .int p1), (2, .int p2)]) hx hb dX3_readClause_44 hl (by decide) rfl (fun ls hl => ?_)
        refine lv_iload_n hx hb dX3_readClause_46 rfl (lv_at hl 4 rfl) ?_
        refine lv_iconst (v := 1) hx hb dX3_readClause_47 (by decide) ?_
        refine w_join (σ := Int32) (pcJ := 61) (kJ := 0) (nJ := 0) (stk := fun xx => match xx with | v37 => [.int v37]) (fun xx H locs ls => match xx with | v37 => va_P D vwCl ws H ∧ va_D A ws ∧ va_S A s.heap H locs ∧ lv_has ls 7 [(5, .int v32), (4, .int u26), (3, .ref (Z 5)), (0, .ref p0), (1, .int p1), (2, .int p2)] ∧ TW Y Z T g q ws ∧ (0 ≤ v37.toInt ∧ v37.toInt ≤ 1)) (fun xx H locs ls hI => ?_) (fun jn38 => ?_)
        · skip
          revert hI
          generalize xx = v37
          intro hI
          obtain ⟨hP, hD, hS, hl, hT, hq39⟩ := hI
          refine W.eq (g2 := F0 m 61 ls [.int v37]) rfl ?_
          refine lv_istore (lv' := [(6, .int v37), (5, .int v32), (4, .int u26), (3, .ref (Z 5)), (0, .ref p0), (1, .int p1), (2, .int p2)]) hx hb dX3_readClause_61 hl (by decide) rfl (fun ls hl => ?_)
          refine lv_iload hx hb dX3_readClause_63 (lv_at hl 2 rfl) ?_
          refine lv_iconst (v := (-1)) hx hb dX3_readClause_65 (by decide) ?_
          have j40 := rgI u26
          refine lv_icmp_ne (tgt := 75) hx hb dX3_readClause_66 (by decide) (fun c41 => ?_) (fun c41 => ?_)
          · skip
            have c41 := i_ne (Eq.refl u26.toInt) (show ((-1) : Int32).toInt = -1 by decide) c41
            refine lv_iload_n hx hb dX3_readClause_75 rfl (lv_at hl 6 rfl) ?_
            refine lv_bipush (v := 12) hx hb dX3_readClause_76 (by decide) ?_
            refine w_join (σ := Unit) (pcJ := 105) (kJ := 0) (nJ := 0) (stk := fun xx => match xx with | _ => []) (fun xx H locs ls => match xx with | _ => va_P D vwCl ws H ∧ va_D A ws ∧ va_S A s.heap H locs ∧ lv_has ls 7 [(6, .int v37), (5, .int v32), (4, .int u26), (3, .ref (Z 5)), (0, .ref p0), (1, .int p1), (2, .int p2)] ∧ TW Y Z T g q ws) (fun xx H locs ls hI => ?_) (fun jn62 => ?_)
            · skip
              obtain ⟨hP, hD, hS, hl, hT⟩ := hI
              refine W.eq (g2 := F0 m 105 ls []) rfl ?_
              refine lv_aload_n hx hb dX3_readClause_105 rfl (lv_at hl 4 rfl) ?_
              refine lv_dup hx hb dX3_readClause_106 rfl ?_
              refine va_get (D := D) (ci := 3) (v := .int x13) (C := RX3) (T := TX3) (N := 12) hx hb hg inGX3 hown hKN.1 hP p24 hk25 rfl 8 (by decide) (hg _ kw_186) (fun _ h9 => h9) rfl dX3_readClause_107 ?_
              refine lv_iconst (v := 1) hx hb dX3_readClause_110 (by decide) ?_
              refine lv_iload hx hb dX3_readClause_111 (lv_at hl 2 rfl) ?_
              refine lv_ishl hx hb dX3_readClause_113 ?_
              refine lv_topi (fun v63 ev63 => ?_)
              refine lv_ior hx hb dX3_readClause_114 ?_
              refine lv_topi (fun v64 ev64 => ?_)
              refine va_put (D := D) (ci := 3) (v := .int v64) (ty := .int) (C := RX3) (T := TX3) (N := 12) hx hb hg inGX3 tyX3 tyX3_ok nmX3 hown hKN.1 hP hD hS p24 hk25 rfl 8 (by decide) (hg _ kw_186) (fun _ h9 => h9) rfl (by decide +kernel) rfl rfl (Nat.le_of_ble_eq_true rfl) dX3_readClause_115 (fun H locs hP hD2 hS => ?_)
              obtain ⟨w65, hP, hD, hT, hk67, kp66⟩ : ∃ wz, va_P D vwCl wz H ∧ va_D A wz ∧ TW Y Z T g q wz ∧ wz[p24]? = some (p0, .inr (3, [.ref a5, .int x6, .int x7, .int x8, .int x9, .int x10, .int x11, .int x12, .int v64, .ref (Z a14), .ref a15, .int x16])) ∧ Kp p0 ws wz := ⟨_, hP, hD2, st7 hT hD hk25 ht0 ⟨n4, a5, x6, x7, x8, x9, x10, x11, x12, v64, a14, a15, x16, rfl, h17, by omega, by omega, h20, h21, by omega, h23⟩, sw_eq hk25, sw_kp hk25⟩
              have ke68 : KF 1 T ws w65 := KF.tr KF.rf (KF.kp kp66 ht0 (by decide))
              have ke69 : KF 6 T ws w65 := KF.tr KF.rf (KF.kp kp66 ht0 (by decide))
              refine lv_aload_n hx hb dX3_readClause_118 rfl (lv_at hl 4 rfl) ?_
              refine cga (rn_V (As := []) (rest := []) (b := p0) (x_X3_step l D Y Z H.size w65 T g q p0 hT ht0) ⟨hx, hb, hml, hown, hg⟩ lk_X3_61 ⟨CPC.blind, va_recv hKN.1 hP (ci := 3) (q0 := p24) rfl hk67, CPC.at hP hKN hD hSZ hS hA⟩ ⟨⟨rfl, rfl⟩, ⟨Nat.le_of_ble_eq_true rfl, Nat.le_of_ble_eq_true rfl⟩, ⟨(Nat.le_of_ble_eq_true rfl), (Nat.le_of_ble_eq_true rfl)⟩⟩ hl.1 rfl (Nat.le_of_ble_eq_true rfl) dX3_readClause_119) hP hD hS hA (fun u70 H locs hw71 hP hD hS => ?_)
              obtain ⟨hT, ke73, ke74⟩ : TW Y Z T g q u70 ∧ KF 1 T w65 u70 ∧ KF 6 T w65 u70 := hw71
              have ke75 : KF 1 T ws u70 := KF.tr ke68 ke73
              have ke76 : KF 6 T ws u70 := KF.tr ke69 ke74
              refine W.eq (g2 := F0 m 122 ls []) rfl ?_
              refine lv_iload_n hx hb dX3_readClause_122 rfl (lv_at hl 5 rfl) ?_
              refine lv_iconst (v := 1) hx hb dX3_readClause_123 (by decide) ?_
              refine lv_icmp_ne (tgt := 136) hx hb dX3_readClause_124 (by decide) (fun c77 => ?_) (fun c77 => ?_)
              · skip
                have c77 := i_ne (Eq.refl p1.toInt) (show (1 : Int32).toInt = 1 by decide) c77
                refine lv_iload hx hb dX3_readClause_136 (lv_at hl 1 rfl) ?_
                refine lv_if_eq (tgt := 159) hx hb dX3_readClause_138 (by decide) (fun c78 => ?_) (fun c78 => ?_)
                · skip
                  have c78 := i_eq (Eq.refl v32.toInt) (show (0 : Int32).toInt = 0 by decide) c78
                  refine lv_aload_n hx hb dX3_readClause_159 rfl (lv_at hl 4 rfl) ?_
                  refine ok7 hT ht0 (fun p99 n79 a80 x81 x82 x83 x84 x85 x86 x87 x88 a89 a90 x91 hk100 h92 h93 h94 h95 h96 h97 h98 => ?_)
                  refine va_get (D := D) (ci := 3) (v := .ref a90) (C := RX3) (T := TX3) (N := 12) hx hb hg inGX3 hown hKN.1 hP p99 hk100 rfl 10 (by decide) (hg _ kw_188) (fun _ h9 => h9) rfl dX3_readClause_160 ?_
                  refine lv_iload hx hb dX3_readClause_163 (lv_at hl 2 rfl) ?_
                  refine ok5 hT h96 (fun p122 x101 x102 x103 x104 x105 x106 x107 x108 a109 a110 a111 a112 a113 x114 hk123 h115 h116 h117 h118 h119 h120 h121 => ?_)
                  refine cga (rn_NV (As := [.int u26]) (rest := []) (b := a90) (x_X8_openClause l D Y Z H.size u70 T g q a90 u26 hT h96) ⟨hx, hb, hml, hown, hg⟩ hKN lk_X3_112 ⟨CPC.blind, va_recv hKN.1 hP (ci := 8) (q0 := p122) rfl hk123, CPC.at hP hKN hD hSZ hS hA⟩ ⟨⟨rfl, rfl⟩, ⟨Nat.le_of_ble_eq_true rfl, Nat.le_of_ble_eq_true rfl⟩, ⟨(Nat.le_of_ble_eq_true rfl), (Nat.le_of_ble_eq_true rfl)⟩⟩ hl.1 rfl (Nat.le_of_ble_eq_true rfl) dX3_readClause_165) hP hD hS hA (fun u124 H locs hw125 hP hD hS => ?_)
                  obtain ⟨hT, ke127, ke128⟩ : TW Y Z T g q u124 ∧ KF 1 T u70 u124 ∧ KF 6 T u70 u124 := hw125
                  have ke129 : KF 1 T ws u124 := KF.tr ke75 ke127
                  have ke130 : KF 6 T ws u124 := KF.tr ke76 ke128
                  refine W.eq (g2 := F0 m 168 ls []) rfl ?_
                  refine lv_aload_n hx hb dX3_readClause_168 rfl (lv_at hl 4 rfl) ?_
                  refine ok7 hT ht0 (fun p151 n131 a132 x133 x134 x135 x136 x137 x138 x139 x140 a141 a142 x143 hk152 h144 h145 h146 h147 h148 h149 h150 => ?_)
                  refine cga (rn_V (As := []) (rest := []) (b := p0) (x_X3_readSum l D Y Z H.size u124 T g q p0 hT ht0) ⟨hx, hb, hml, hown, hg⟩ lk_X3_115 ⟨CPC.blind, va_recv hKN.1 hP (ci := 3) (q0 := p151) rfl hk152, CPC.at hP hKN hD hSZ hS hA⟩ ⟨⟨rfl, rfl⟩, ⟨Nat.le_of_ble_eq_true rfl, Nat.le_of_ble_eq_true rfl⟩, ⟨(Nat.le_of_ble_eq_true rfl), (Nat.le_of_ble_eq_true rfl)⟩⟩ hl.1 rfl (Nat.le_of_ble_eq_true rfl) dX3_readClause_169) hP hD hS hA (fun u153 H locs hw154 hP hD hS => ?_)
                  obtain ⟨hT, ke156, ke157⟩ : TW Y Z T g q u153 ∧ KF 1 T u124 u153 ∧ KF 6 T u124 u153 := hw154
                  have ke158 : KF 1 T ws u153 := KF.tr ke129 ke156
                  have ke159 : KF 6 T ws u153 := KF.tr ke130 ke157
                  refine W.eq (g2 := F0 m 172 ls []) rfl ?_
                  refine lv_aload_n hx hb dX3_readClause_172 rfl (lv_at hl 4 rfl) ?_
                  refine ok7 hT ht0 (fun p180 n160 a161 x162 x163 x164 x165 x166 x167 x168 x169 a170 a171 x172 hk181 h173 h174 h175 h176 h177 h178 h179 => ?_)
                  refine va_get (D := D) (ci := 3) (v := .ref a171) (C := RX3) (T := TX3) (N := 12) hx hb hg inGX3 hown hKN.1 hP p180 hk181 rfl 10 (by decide) (hg _ kw_188) (fun _ h9 => h9) rfl dX3_readClause_173 ?_
                  refine ok5 hT h177 (fun p203 x182 x183 x184 x185 x186 x187 x188 x189 a190 a191 a192 a193 a194 x195 hk204 h196 h197 h198 h199 h200 h201 h202 => ?_)
                  refine cga (rn_NV (As := []) (rest := []) (b := a171) (x_X8_endSum l D Y Z H.size u153 T g q a171 hT h177) ⟨hx, hb, hml, hown, hg⟩ hKN lk_X3_118 ⟨CPC.blind, va_recv hKN.1 hP (ci := 8) (q0 := p203) rfl hk204, CPC.at hP hKN hD hSZ hS hA⟩ ⟨⟨rfl, rfl⟩, ⟨Nat.le_of_ble_eq_true rfl, Nat.le_of_ble_eq_true rfl⟩, ⟨(Nat.le_of_ble_eq_true rfl), (Nat.le_of_ble_eq_true rfl)⟩⟩ hl.1 rfl (Nat.le_of_ble_eq_true rfl) dX3_readClause_176) hP hD hS hA (fun u205 H locs hw206 hP hD hS => ?_)
                  obtain ⟨hT, ke208, ke209⟩ : TW Y Z T g q u205 ∧ KF 1 T u153 u205 ∧ KF 6 T u153 u205 := hw206
                  have ke210 : KF 1 T ws u205 := KF.tr ke158 ke208
                  have ke211 : KF 6 T ws u205 := KF.tr ke159 ke209
                  refine W.eq (g2 := F0 m 179 ls []) rfl ?_
                  refine lv_aload_n hx hb dX3_readClause_179 rfl (lv_at hl 4 rfl) ?_
                  refine ok7 hT ht0 (fun p232 n212 a213 x214 x215 x216 x217 x218 x219 x220 x221 a222 a223 x224 hk233 h225 h226 h227 h228 h229 h230 h231 => ?_)
                  refine va_get (D := D) (ci := 3) (v := .int x219) (C := RX3) (T := TX3) (N := 12) hx hb hg inGX3 hown hKN.1 hP p232 hk233 rfl 6 (by decide) (hg _ kw_184) (fun _ h9 => h9) rfl dX3_readClause_180 ?_
                  refine w_join (σ := va_W) (pcJ := 204) (kJ := 0) (nJ := 0) (stk := fun xx => match xx with | w277 => []) (fun xx H locs ls => match xx with | w277 => va_P D vwCl w277 H ∧ va_D A w277 ∧ va_S A s.heap H locs ∧ lv_has ls 7 [(6, .int v37), (5, .int v32), (4, .int u26), (3, .ref (Z 5)), (0, .ref p0), (1, .int p1), (2, .int p2)] ∧ TW Y Z T g q w277 ∧ KF 1 T ws w277 ∧ KF 6 T ws w277) (fun xx H locs ls hI => ?_) (fun jn278 => ?_)
                  · skip
                    revert hI
                    generalize xx = w277
                    intro hI
                    obtain ⟨hP, hD, hS, hl, hT, ke279, ke280⟩ := hI
                    refine W.eq (g2 := F0 m 204 ls []) rfl ?_
                    refine lv_aload_n hx hb dX3_readClause_204 rfl (lv_at hl 4 rfl) ?_
                    refine ok7 hT ht0 (fun p301 n281 a282 x283 x284 x285 x286 x287 x288 x289 x290 a291 a292 x293 hk302 h294 h295 h296 h297 h298 h299 h300 => ?_)
                    refine va_get (D := D) (ci := 3) (v := .ref a292) (C := RX3) (T := TX3) (N := 12) hx hb hg inGX3 hown hKN.1 hP p301 hk302 rfl 10 (by decide) (hg _ kw_188) (fun _ h9 => h9) rfl dX3_readClause_205 ?_
                    refine ok5 hT h298 (fun p324 x303 x304 x305 x306 x307 x308 x309 x310 a311 a312 a313 a314 a315 x316 hk325 h317 h318 h319 h320 h321 h322 h323 => ?_)
                    refine cga (rn_NV (As := []) (rest := []) (b := a292) (x_X8_closeClause l D Y Z H.size w277 T g q a292 hT h298) ⟨hx, hb, hml, hown, hg⟩ hKN lk_X3_126 ⟨CPC.blind, va_recv hKN.1 hP (ci := 8) (q0 := p324) rfl hk325, CPC.at hP hKN hD hSZ hS hA⟩ ⟨⟨rfl, rfl⟩, ⟨Nat.le_of_ble_eq_true rfl, Nat.le_of_ble_eq_true rfl⟩, ⟨(Nat.le_of_ble_eq_true rfl), (Nat.le_of_ble_eq_true rfl)⟩⟩ hl.1 rfl (Nat.le_of_ble_eq_true rfl) dX3_readClause_208) hP hD hS hA (fun u326 H locs hw327 hP hD hS => ?_)
                    obtain ⟨hT, ke329, ke330⟩ : TW Y Z T g q u326 ∧ KF 1 T w277 u326 ∧ KF 6 T w277 u326 := hw327
                    have ke331 : KF 1 T ws u326 := KF.tr ke279 ke329
                    have ke332 : KF 6 T ws u326 := KF.tr ke280 ke330
                    refine W.eq (g2 := F0 m 211 ls []) rfl ?_
                    refine W.widen (k := 0) (n := 0) (Nat.le_of_ble_eq_true rfl) (Nat.le_of_ble_eq_true rfl) ?_
                    exact W.vret hx hb hr (fun t ht hW => ⟨⟨u326, rfl, ⟨hT, ke331, ke332⟩, CB.mk ht hP hD⟩, hS.F ht⟩) hS.2.2 dX3_readClause_211
                  · skip
                    have j333 := rgI x219
                    refine lv_if_ne (tgt := 204) hx hb dX3_readClause_183 (by decide) (fun c334 => ?_) (fun c334 => ?_)
                    · skip
                      have c334 := i_ne (Eq.refl x219.toInt) (show (0 : Int32).toInt = 0 by decide) c334
                      refine W.widen (k := 0) (n := 0) (Nat.le_of_ble_eq_true rfl) (Nat.le_of_ble_eq_true rfl) ?_
                      exact jn278 (u205) H locs ls ⟨hP, hD, hS, lv_sub hl [0, 1, 2, 3, 4, 5, 6] rfl, hT, ke210, ke211⟩
                    · skip
                      have c334 := i_eq (Eq.refl x219.toInt) (show (0 : Int32).toInt = 0 by decide) c334
                      refine lv_aload_n hx hb dX3_readClause_186 rfl (lv_at hl 4 rfl) ?_
                      refine va_ldcS (q := Z 6) hx hb hown (hKN.2.2.2 6 (RX3, 121, "if") rfl) dX3_readClause_187 ?_
                      refine cga (rn_V (As := [.ref (Z 6)]) (rest := []) (b := p0) (x_X3_whichOf l D Y Z H.size u205 T g q 6 p0 hT ht0 (by decide)) ⟨hx, hb, hml, hown, hg⟩ lk_X3_99 ⟨CPC.blind, va_recv hKN.1 hP (ci := 3) (q0 := p232) rfl hk233, CPC.at hP hKN hD hSZ hS hA⟩ ⟨⟨rfl, rfl⟩, ⟨Nat.le_of_ble_eq_true rfl, Nat.le_of_ble_eq_true rfl⟩, ⟨(Nat.le_of_ble_eq_true rfl), (Nat.le_of_ble_eq_true rfl)⟩⟩ hl.1 rfl (Nat.le_of_ble_eq_true rfl) dX3_readClause_189) hP hD hS hA (fun u335 H locs hw336 hP hD hS => ?_)
                      refine W.eq (g2 := F0 m 192 ls [.int u335]) rfl ?_
                      have j338 := rgI u335
                      refine lv_if_ne (tgt := 204) hx hb dX3_readClause_192 (by decide) (fun c339 => ?_) (fun c339 => ?_)
                      · skip
                        have c339 := i_ne (Eq.refl u335.toInt) (show (0 : Int32).toInt = 0 by decide) c339
                        refine W.widen (k := 0) (n := 0) (Nat.le_of_ble_eq_true rfl) (Nat.le_of_ble_eq_true rfl) ?_
                        exact jn278 (u205) H locs ls ⟨hP, hD, hS, lv_sub hl [0, 1, 2, 3, 4, 5, 6] rfl, hT, ke210, ke211⟩
                      · skip
                        have c339 := i_eq (Eq.refl u335.toInt) (show (0 : Int32).toInt = 0 by decide) c339
                        refine lv_aload_n hx hb dX3_readClause_195 rfl (lv_at hl 4 rfl) ?_
                        refine cga (rn_V (As := []) (rest := []) (b := p0) (x_X3_step l D Y Z H.size u205 T g q p0 hT ht0) ⟨hx, hb, hml, hown, hg⟩ lk_X3_61 ⟨CPC.blind, va_recv hKN.1 hP (ci := 3) (q0 := p232) rfl hk233, CPC.at hP hKN hD hSZ hS hA⟩ ⟨⟨rfl, rfl⟩, ⟨Nat.le_of_ble_eq_true rfl, Nat.le_of_ble_eq_true rfl⟩, ⟨(Nat.le_of_ble_eq_true rfl), (Nat.le_of_ble_eq_true rfl)⟩⟩ hl.1 rfl (Nat.le_of_ble_eq_true rfl) dX3_readClause_196) hP hD hS hA (fun u340 H locs hw341 hP hD hS => ?_)
                        obtain ⟨hT, ke343, ke344⟩ : TW Y Z T g q u340 ∧ KF 1 T u205 u340 ∧ KF 6 T u205 u340 := hw341
                        have ke345 : KF 1 T ws u340 := KF.tr ke210 ke343
                        have ke346 : KF 6 T ws u340 := KF.tr ke211 ke344
                        refine W.eq (g2 := F0 m 199 ls []) rfl ?_
                        refine lv_aload_n hx hb dX3_readClause_199 rfl (lv_at hl 4 rfl) ?_
                        refine lv_iconst (v := 0) hx hb dX3_readClause_200 (by decide) ?_
                        have zi0 : (0 : Int32).toInt = 0 := by decide
                        refine ok7 hT ht0 (fun p367 n347 a348 x349 x350 x351 x352 x353 x354 x355 x356 a357 a358 x359 hk368 h360 h361 h362 h363 h364 h365 h366 => ?_)
                        refine cga (rn_V (As := [.int 0]) (rest := []) (b := p0) (x_X3_readTest_0 l D Y Z H.size u340 T g q p0 hT ht0) ⟨hx, hb, hml, hown, hg⟩ lk_X3_123 ⟨CPC.blind, va_recv hKN.1 hP (ci := 3) (q0 := p367) rfl hk368, CPC.at hP hKN hD hSZ hS hA⟩ ⟨⟨rfl, rfl⟩, ⟨Nat.le_of_ble_eq_true rfl, Nat.le_of_ble_eq_true rfl⟩, ⟨(Nat.le_of_ble_eq_true rfl), (Nat.le_of_ble_eq_true rfl)⟩⟩ hl.1 rfl (Nat.le_of_ble_eq_true rfl) dX3_readClause_201) hP hD hS hA (fun u369 H locs hw370 hP hD hS => ?_)
                        obtain ⟨hT, ke372, ke373⟩ : TW Y Z T g q u369 ∧ KF 1 T u340 u369 ∧ KF 6 T u340 u369 := hw370
                        have ke374 : KF 1 T ws u369 := KF.tr ke345 ke372
                        have ke375 : KF 6 T ws u369 := KF.tr ke346 ke373
                        refine W.eq (g2 := F0 m 204 ls []) rfl ?_
                        refine W.widen (k := 0) (n := 0) (Nat.le_of_ble_eq_true rfl) (Nat.le_of_ble_eq_true rfl) ?_
                        exact jn278 (u369) H locs ls ⟨hP, hD, hS, lv_sub hl [0, 1, 2, 3, 4, 5, 6] rfl, hT, ke374, ke375⟩
                · skip
                  have c78 := i_ne (Eq.refl v32.toInt) (show (0 : Int32).toInt = 0 by decide) c78
                  refine lv_aload_n hx hb dX3_readClause_141 rfl (lv_at hl 4 rfl) ?_
                  refine ok7 hT ht0 (fun p396 n376 a377 x378 x379 x380 x381 x382 x383 x384 x385 a386 a387 x388 hk397 h389 h390 h391 h392 h393 h394 h395 => ?_)
                  refine va_get (D := D) (ci := 3) (v := .ref a387) (C := RX3) (T := TX3) (N := 12) hx hb hg inGX3 hown hKN.1 hP p396 hk397 rfl 10 (by decide) (hg _ kw_188) (fun _ h9 => h9) rfl dX3_readClause_142 ?_
                  refine lv_aload_n hx hb dX3_readClause_145 rfl (lv_at hl 4 rfl) ?_
                  refine lv_iconst (v := 0) hx hb dX3_readClause_146 (by decide) ?_
                  refine lv_sipush (v := 9999) hx hb dX3_readClause_147 (by decide) ?_
                  have zi0 : (0 : Int32).toInt = 0 := by decide
                  have zi9999 : (9999 : Int32).toInt = 9999 := by decide
                  refine cga (rn_V (As := [.int 0, .int 9999]) (rest := [.ref a387]) (b := p0) (x_X3_readNumber l D Y Z H.size u70 T g q p0 0 9999 hT ht0) ⟨hx, hb, hml, hown, hg⟩ lk_X3_106 ⟨CPC.blind, va_recv hKN.1 hP (ci := 3) (q0 := p396) rfl hk397, CPC.at hP hKN hD hSZ hS hA⟩ ⟨⟨rfl, rfl⟩, ⟨Nat.le_of_ble_eq_true rfl, Nat.le_of_ble_eq_true rfl⟩, ⟨(Nat.le_of_ble_eq_true rfl), (Nat.le_of_ble_eq_true rfl)⟩⟩ hl.1 rfl (Nat.le_of_ble_eq_true rfl) dX3_readClause_150) hP hD hS hA (fun u398 H locs hw399 hP hD hS => ?_)
                  obtain ⟨u400, w401⟩ := u398
                  obtain ⟨hT, ke402, ke403⟩ : TW Y Z T g q w401 ∧ KF 1 T u70 w401 ∧ KF 6 T u70 w401 := hw399
                  have ke404 : KF 1 T ws w401 := KF.tr ke75 ke402
                  have ke405 : KF 6 T ws w401 := KF.tr ke76 ke403
                  refine W.eq (g2 := F0 m 153 ls [.int u400, .ref a387]) rfl ?_
                  refine ok5 hT h393 (fun p427 x406 x407 x408 x409 x410 x411 x412 x413 a414 a415 a416 a417 a418 x419 hk428 h420 h421 h422 h423 h424 h425 h426 => ?_)
                  refine va_putN (D := D) (ci := 8) (v := .int u400) (ty := .int) (C := RX8) (T := TX8) (N := 14) hx hb hg inGX8 tyX8 tyX8_ok nmX8 hown hKN.1 hP hD hS p427 hk428 rfl 0 (by decide) (va_Nw.use rfl (hKN.2.1 _ kn_115 rfl)) (fun _ h9 => h9) rfl (by decide +kernel) rfl rfl (Nat.le_of_ble_eq_true rfl) dX3_readClause_153 (fun H locs hP hD2 hS => ?_)
                  obtain ⟨w429, hP, hD, hT, hk431, kp430⟩ : ∃ wz, va_P D vwCl wz H ∧ va_D A wz ∧ TW Y Z T g q wz ∧ wz[p427]? = some (a387, .inr (8, (.int u400 :: .int x407 :: .int x408 :: .int x409 :: .int x410 :: .int x411 :: .int x412 :: .int x413 :: .ref a414 :: .ref a415 :: .ref a416 :: .ref a417 :: .ref a418 :: .int x419 :: []))) ∧ Kp a387 w401 wz := ⟨_, hP, hD2, st5 hT hD hk428 h393 ⟨u400, x407, x408, x409, x410, x411, x412, x413, a414, a415, a416, a417, a418, x419, rfl, by omega, h421, h422, h423, h424, h425, by omega⟩, sw_eq hk428, sw_kp hk428⟩
                  have ke432 : KF 1 T ws w429 := KF.tr ke404 (KF.kp kp430 h393 (by decide))
                  have ke433 : KF 6 T ws w429 := KF.tr ke405 (KF.kp kp430 h393 (by decide))
                  refine lv_goto (tgt := 211) hx hb dX3_readClause_156 (by decide) ?_
                  refine W.widen (k := 0) (n := 0) (Nat.le_of_ble_eq_true rfl) (Nat.le_of_ble_eq_true rfl) ?_
                  exact W.vret hx hb hr (fun t ht hW => ⟨⟨w429, rfl, ⟨hT, ke432, ke433⟩, CB.mk ht hP hD⟩, hS.F ht⟩) hS.2.2 dX3_readClause_211
              · skip
                have c77 := i_eq (Eq.refl p1.toInt) (show (1 : Int32).toInt = 1 by decide) c77
                refine lv_aload_n hx hb dX3_readClause_127 rfl (lv_at hl 4 rfl) ?_
                refine lv_iload hx hb dX3_readClause_128 (lv_at hl 2 rfl) ?_
                refine ok7 hT ht0 (fun p454 n434 a435 x436 x437 x438 x439 x440 x441 x442 x443 a444 a445 x446 hk455 h447 h448 h449 h450 h451 h452 h453 => ?_)
                refine cga (rn_V (As := [.int u26]) (rest := []) (b := p0) (x_X3_readSearch l D Y Z H.size u70 T g q p0 u26 hT ht0) ⟨hx, hb, hml, hown, hg⟩ lk_X3_103 ⟨CPC.blind, va_recv hKN.1 hP (ci := 3) (q0 := p454) rfl hk455, CPC.at hP hKN hD hSZ hS hA⟩ ⟨⟨rfl, rfl⟩, ⟨Nat.le_of_ble_eq_true rfl, Nat.le_of_ble_eq_true rfl⟩, ⟨(Nat.le_of_ble_eq_true rfl), (Nat.le_of_ble_eq_true rfl)⟩⟩ hl.1 rfl (Nat.le_of_ble_eq_true rfl) dX3_readClause_130) hP hD hS hA (fun u456 H locs hw457 hP hD hS => ?_)
                obtain ⟨hT, ke459, ke460⟩ : TW Y Z T g q u456 ∧ KF 1 T u70 u456 ∧ KF 6 T u70 u456 := hw457
                have ke461 : KF 1 T ws u456 := KF.tr ke75 ke459
                have ke462 : KF 6 T ws u456 := KF.tr ke76 ke460
                refine W.eq (g2 := F0 m 133 ls []) rfl ?_
                refine lv_goto (tgt := 211) hx hb dX3_readClause_133 (by decide) ?_
                refine W.widen (k := 0) (n := 0) (Nat.le_of_ble_eq_true rfl) (Nat.le_of_ble_eq_true rfl) ?_
                exact W.vret hx hb hr (fun t ht hW => ⟨⟨u456, rfl, ⟨hT, ke461, ke462⟩, CB.mk ht hP hD⟩, hS.F ht⟩) hS.2.2 dX3_readClause_211
            · skip
              have j463 := rgI p2
              refine lv_icmp_ge (tgt := 99) hx hb dX3_readClause_78 (by decide) (fun c464 => ?_) (fun c464 => ?_)
              · skip
                have c464 := i_le (show (12 : Int32).toInt = 12 by decide) (Eq.refl p2.toInt) c464
                refine lv_aload_n hx hb dX3_readClause_99 rfl (lv_at hl 4 rfl) ?_
                refine lv_iconst (v := 4) hx hb dX3_readClause_100 (by decide) ?_
                have zi4 : (4 : Int32).toInt = 4 := by decide
                refine cga (rn_V (As := [.int 4]) (rest := []) (b := p0) (x_X3_setFault l D Y Z H.size ws T g q p0 4 hT ht0) ⟨hx, hb, hml, hown, hg⟩ lk_X3_78 ⟨CPC.blind, va_recv hKN.1 hP (ci := 3) (q0 := p24) rfl hk25, CPC.at hP hKN hD hSZ hS hA⟩ ⟨⟨rfl, rfl⟩, ⟨Nat.le_of_ble_eq_true rfl, Nat.le_of_ble_eq_true rfl⟩, ⟨(Nat.le_of_ble_eq_true rfl), (Nat.le_of_ble_eq_true rfl)⟩⟩ hl.1 rfl (Nat.le_of_ble_eq_true rfl) dX3_readClause_101) hP hD hS hA (fun u465 H locs hw466 hP hD hS => ?_)
                obtain ⟨hT, ke468, ke469⟩ : TW Y Z T g q u465 ∧ KF 1 T ws u465 ∧ KF 6 T ws u465 := hw466
                have ke470 : KF 1 T ws u465 := KF.tr KF.rf ke468
                have ke471 : KF 6 T ws u465 := KF.tr KF.rf ke469
                refine W.eq (g2 := F0 m 104 ls []) rfl ?_
                refine W.widen (k := 0) (n := 0) (Nat.le_of_ble_eq_true rfl) (Nat.le_of_ble_eq_true rfl) ?_
                exact W.vret hx hb hr (fun t ht hW => ⟨⟨u465, rfl, ⟨hT, ke470, ke471⟩, CB.mk ht hP hD⟩, hS.F ht⟩) hS.2.2 dX3_readClause_104
              · skip
                have c464 := i_nle (show (12 : Int32).toInt = 12 by decide) (Eq.refl p2.toInt) c464
                refine lv_iload hx hb dX3_readClause_81 (lv_at hl 0 rfl) ?_
                refine lv_if_eq (tgt := 105) hx hb dX3_readClause_83 (by decide) (fun c472 => ?_) (fun c472 => ?_)
                · skip
                  have c472 := i_eq (Eq.refl v37.toInt) (show (0 : Int32).toInt = 0 by decide) c472
                  refine W.widen (k := 0) (n := 0) (Nat.le_of_ble_eq_true rfl) (Nat.le_of_ble_eq_true rfl) ?_
                  exact jn62 (()) H locs ls ⟨hP, hD, hS, lv_sub hl [0, 1, 2, 3, 4, 5, 6] rfl, hT⟩
                · skip
                  have c472 := i_ne (Eq.refl v37.toInt) (show (0 : Int32).toInt = 0 by decide) c472
                  refine lv_aload_n hx hb dX3_readClause_86 rfl (lv_at hl 4 rfl) ?_
                  refine va_get (D := D) (ci := 3) (v := .int x13) (C := RX3) (T := TX3) (N := 12) hx hb hg inGX3 hown hKN.1 hP p24 hk25 rfl 8 (by decide) (hg _ kw_186) (fun _ h9 => h9) rfl dX3_readClause_87 ?_
                  refine lv_iload hx hb dX3_readClause_90 (lv_at hl 2 rfl) ?_
                  refine lv_ishr hx hb dX3_readClause_92 ?_
                  refine lv_topi (fun v473 ev473 => ?_)
                  refine lv_iconst (v := 1) hx hb dX3_readClause_93 (by decide) ?_
                  refine lv_iand hx hb dX3_readClause_94 ?_
                  refine lv_topi (fun v474 ev474 => ?_)
                  have hv474 := i_and (show (1 : Int32).toInt = 1 by decide) ev474 (by decide)
                  refine lv_iconst (v := 1) hx hb dX3_readClause_95 (by decide) ?_
                  refine lv_icmp_ne (tgt := 105) hx hb dX3_readClause_96 (by decide) (fun c475 => ?_) (fun c475 => ?_)
                  · skip
                    have c475 := i_ne (Eq.refl v474.toInt) (show (1 : Int32).toInt = 1 by decide) c475
                    refine W.widen (k := 0) (n := 0) (Nat.le_of_ble_eq_true rfl) (Nat.le_of_ble_eq_true rfl) ?_
                    exact jn62 (()) H locs ls ⟨hP, hD, hS, lv_sub hl [0, 1, 2, 3, 4, 5, 6] rfl, hT⟩
                  · skip
                    have c475 := i_eq (Eq.refl v474.toInt) (show (1 : Int32).toInt = 1 by decide) c475
                    refine lv_aload_n hx hb dX3_readClause_99 rfl (lv_at hl 4 rfl) ?_
                    refine lv_iconst (v := 4) hx hb dX3_readClause_100 (by decide) ?_
                    have zi4 : (4 : Int32).toInt = 4 := by decide
                    refine cga (rn_V (As := [.int 4]) (rest := []) (b := p0) (x_X3_setFault l D Y Z H.size ws T g q p0 4 hT ht0) ⟨hx, hb, hml, hown, hg⟩ lk_X3_78 ⟨CPC.blind, va_recv hKN.1 hP (ci := 3) (q0 := p24) rfl hk25, CPC.at hP hKN hD hSZ hS hA⟩ ⟨⟨rfl, rfl⟩, ⟨Nat.le_of_ble_eq_true rfl, Nat.le_of_ble_eq_true rfl⟩, ⟨(Nat.le_of_ble_eq_true rfl), (Nat.le_of_ble_eq_true rfl)⟩⟩ hl.1 rfl (Nat.le_of_ble_eq_true rfl) dX3_readClause_101) hP hD hS hA (fun u476 H locs hw477 hP hD hS => ?_)
                    obtain ⟨hT, ke479, ke480⟩ : TW Y Z T g q u476 ∧ KF 1 T ws u476 ∧ KF 6 T ws u476 := hw477
                    have ke481 : KF 1 T ws u476 := KF.tr KF.rf ke479
                    have ke482 : KF 6 T ws u476 := KF.tr KF.rf ke480
                    refine W.eq (g2 := F0 m 104 ls []) rfl ?_
                    refine W.widen (k := 0) (n := 0) (Nat.le_of_ble_eq_true rfl) (Nat.le_of_ble_eq_true rfl) ?_
                    exact W.vret hx hb hr (fun t ht hW => ⟨⟨u476, rfl, ⟨hT, ke481, ke482⟩, CB.mk ht hP hD⟩, hS.F ht⟩) hS.2.2 dX3_readClause_104
          · skip
            have c41 := i_eq (Eq.refl u26.toInt) (show ((-1) : Int32).toInt = -1 by decide) c41
            refine lv_aload_n hx hb dX3_readClause_69 rfl (lv_at hl 4 rfl) ?_
            refine lv_iconst (v := 0) hx hb dX3_readClause_70 (by decide) ?_
            have zi0 : (0 : Int32).toInt = 0 := by decide
            refine cga (rn_V (As := [.int 0]) (rest := []) (b := p0) (x_X3_setFault l D Y Z H.size ws T g q p0 0 hT ht0) ⟨hx, hb, hml, hown, hg⟩ lk_X3_78 ⟨CPC.blind, va_recv hKN.1 hP (ci := 3) (q0 := p24) rfl hk25, CPC.at hP hKN hD hSZ hS hA⟩ ⟨⟨rfl, rfl⟩, ⟨Nat.le_of_ble_eq_true rfl, Nat.le_of_ble_eq_true rfl⟩, ⟨(Nat.le_of_ble_eq_true rfl), (Nat.le_of_ble_eq_true rfl)⟩⟩ hl.1 rfl (Nat.le_of_ble_eq_true rfl) dX3_readClause_71) hP hD hS hA (fun u483 H locs hw484 hP hD hS => ?_)
            obtain ⟨hT, ke486, ke487⟩ : TW Y Z T g q u483 ∧ KF 1 T ws u483 ∧ KF 6 T ws u483 := hw484
            have ke488 : KF 1 T ws u483 := KF.tr KF.rf ke486
            have ke489 : KF 6 T ws u483 := KF.tr KF.rf ke487
            refine W.eq (g2 := F0 m 74 ls []) rfl ?_
            refine W.widen (k := 0) (n := 0) (Nat.le_of_ble_eq_true rfl) (Nat.le_of_ble_eq_true rfl) ?_
            exact W.vret hx hb hr (fun t ht hW => ⟨⟨u483, rfl, ⟨hT, ke488, ke489⟩, CB.mk ht hP hD⟩, hS.F ht⟩) hS.2.2 dX3_readClause_74
        · skip
          refine lv_icmp_eq (tgt := 56) hx hb dX3_readClause_48 (by decide) (fun c490 => ?_) (fun c490 => ?_)
          · skip
            have c490 := i_eq (Eq.refl p1.toInt) (show (1 : Int32).toInt = 1 by decide) c490
            refine lv_iconst (v := 1) hx hb dX3_readClause_56 (by decide) ?_
            refine lv_goto (tgt := 61) hx hb dX3_readClause_57 (by decide) ?_
            have zi1 : (1 : Int32).toInt = 1 := by decide
            refine W.widen (k := 0) (n := 0) (Nat.le_of_ble_eq_true rfl) (Nat.le_of_ble_eq_true rfl) ?_
            exact jn38 (1) H locs ls ⟨hP, hD, hS, lv_sub hl [0, 1, 2, 3, 4, 5] rfl, hT, by omega⟩
          · skip
            have c490 := i_ne (Eq.refl p1.toInt) (show (1 : Int32).toInt = 1 by decide) c490
            refine lv_iload hx hb dX3_readClause_51 (lv_at hl 0 rfl) ?_
            refine lv_if_eq (tgt := 60) hx hb dX3_readClause_53 (by decide) (fun c491 => ?_) (fun c491 => ?_)
            · skip
              have c491 := i_eq (Eq.refl v32.toInt) (show (0 : Int32).toInt = 0 by decide) c491
              refine lv_iconst (v := 0) hx hb dX3_readClause_60 (by decide) ?_
              have zi0 : (0 : Int32).toInt = 0 := by decide
              refine W.widen (k := 0) (n := 0) (Nat.le_of_ble_eq_true rfl) (Nat.le_of_ble_eq_true rfl) ?_
              exact jn38 (0) H locs ls ⟨hP, hD, hS, lv_sub hl [0, 1, 2, 3, 4, 5] rfl, hT, by omega⟩
            · skip
              have c491 := i_ne (Eq.refl v32.toInt) (show (0 : Int32).toInt = 0 by decide) c491
              refine lv_iconst (v := 1) hx hb dX3_readClause_56 (by decide) ?_
              refine lv_goto (tgt := 61) hx hb dX3_readClause_57 (by decide) ?_
              have zi1 : (1 : Int32).toInt = 1 := by decide
              refine W.widen (k := 0) (n := 0) (Nat.le_of_ble_eq_true rfl) (Nat.le_of_ble_eq_true rfl) ?_
              exact jn38 (1) H locs ls ⟨hP, hD, hS, lv_sub hl [0, 1, 2, 3, 4, 5] rfl, hT, by omega⟩
      · skip
        refine lv_if_ne (tgt := 43) hx hb dX3_readClause_30 (by decide) (fun c492 => ?_) (fun c492 => ?_)
        · skip
          have c492 := i_ne (Eq.refl p1.toInt) (show (0 : Int32).toInt = 0 by decide) c492
          refine lv_iconst (v := 0) hx hb dX3_readClause_43 (by decide) ?_
          have zi0 : (0 : Int32).toInt = 0 := by decide
          refine W.widen (k := 0) (n := 0) (Nat.le_of_ble_eq_true rfl) (Nat.le_of_ble_eq_true rfl) ?_
          exact jn33 (0) H locs ls ⟨hP, hD, hS, lv_sub hl [0, 1, 2, 3, 4] rfl, hT, by omega⟩
        · skip
          have c492 := i_eq (Eq.refl p1.toInt) (show (0 : Int32).toInt = 0 by decide) c492
          refine lv_iload hx hb dX3_readClause_33 (lv_at hl 0 rfl) ?_
          refine lv_iconst (v := 1) hx hb dX3_readClause_35 (by decide) ?_
          have j493 := rgI u26
          refine lv_icmp_ne (tgt := 43) hx hb dX3_readClause_36 (by decide) (fun c494 => ?_) (fun c494 => ?_)
          · skip
            have c494 := i_ne (Eq.refl u26.toInt) (show (1 : Int32).toInt = 1 by decide) c494
            refine lv_iconst (v := 0) hx hb dX3_readClause_43 (by decide) ?_
            have zi0 : (0 : Int32).toInt = 0 := by decide
            refine W.widen (k := 0) (n := 0) (Nat.le_of_ble_eq_true rfl) (Nat.le_of_ble_eq_true rfl) ?_
            exact jn33 (0) H locs ls ⟨hP, hD, hS, lv_sub hl [0, 1, 2, 3, 4] rfl, hT, by omega⟩
          · skip
            have c494 := i_eq (Eq.refl u26.toInt) (show (1 : Int32).toInt = 1 by decide) c494
            refine lv_iconst (v := 1) hx hb dX3_readClause_39 (by decide) ?_
            refine lv_goto (tgt := 44) hx hb dX3_readClause_40 (by decide) ?_
            have zi1 : (1 : Int32).toInt = 1 := by decide
            refine W.widen (k := 0) (n := 0) (Nat.le_of_ble_eq_true rfl) (Nat.le_of_ble_eq_true rfl) ?_
            exact jn33 (1) H locs ls ⟨hP, hD, hS, lv_sub hl [0, 1, 2, 3, 4] rfl, hT, by omega⟩
    · skip
      have c3 := i_eq (Eq.refl p1.toInt) (show (1 : Int32).toInt = 1 by decide) c3
      refine va_ldcS (q := Z 4) hx hb hown (hKN.2.2.2 4 (RX3, 95, "beat long least line") rfl) dX3_readClause_14 ?_
      refine lv_goto (tgt := 21) hx hb dX3_readClause_16 (by decide) ?_
      refine lv_astore_n (lv' := [(3, .ref (Z 4)), (0, .ref p0), (1, .int p1), (2, .int p2)]) hx hb dX3_readClause_21 rfl hl (by decide) rfl (fun ls hl => ?_)
      refine lv_aload_n hx hb dX3_readClause_22 rfl (lv_at hl 1 rfl) ?_
      refine lv_aload_n hx hb dX3_readClause_23 rfl (lv_at hl 0 rfl) ?_
      refine ok7 hT ht0 (fun p515 n495 a496 x497 x498 x499 x500 x501 x502 x503 x504 a505 a506 x507 hk516 h508 h509 h510 h511 h512 h513 h514 => ?_)
      refine cga (rn_V (As := [.ref (Z 4)]) (rest := []) (b := p0) (x_X3_whichOf l D Y Z H.size ws T g q 4 p0 hT ht0 (by decide)) ⟨hx, hb, hml, hown, hg⟩ lk_X3_99 ⟨CPC.blind, va_recv hKN.1 hP (ci := 3) (q0 := p515) rfl hk516, CPC.at hP hKN hD hSZ hS hA⟩ ⟨⟨rfl, rfl⟩, ⟨Nat.le_of_ble_eq_true rfl, Nat.le_of_ble_eq_true rfl⟩, ⟨(Nat.le_of_ble_eq_true rfl), (Nat.le_of_ble_eq_true rfl)⟩⟩ hl.1 rfl (Nat.le_of_ble_eq_true rfl) dX3_readClause_24) hP hD hS hA (fun u517 H locs hw518 hP hD hS => ?_)
      refine W.eq (g2 := F0 m 27 ls [.int u517]) rfl ?_
      refine lv_istore (lv' := [(4, .int u517), (3, .ref (Z 4)), (0, .ref p0), (1, .int p1), (2, .int p2)]) hx hb dX3_readClause_27 hl (by decide) rfl (fun ls hl => ?_)
      refine lv_iload_n hx hb dX3_readClause_29 rfl (lv_at hl 3 rfl) ?_
      refine lv_if_ne (tgt := 43) hx hb dX3_readClause_30 (by decide) (fun c521 => ?_) (fun c521 => ?_)
      rotate_left
      · have c521 := i_eq (Eq.refl p1.toInt) (show (0 : Int32).toInt = 0 by decide) c521; exfalso; omega
      have c521 := i_ne (Eq.refl p1.toInt) (show (0 : Int32).toInt = 0 by decide) c521
      refine lv_iconst (v := 0) hx hb dX3_readClause_43 (by decide) ?_
      refine lv_istore (lv' := [(5, .int 0), (4, .int u517), (3, .ref (Z 4)), (0, .ref p0), (1, .int p1), (2, .int p2)]) hx hb dX3_readClause_44 hl (by decide) rfl (fun ls hl => ?_)
      refine lv_iload_n hx hb dX3_readClause_46 rfl (lv_at hl 4 rfl) ?_
      refine lv_iconst (v := 1) hx hb dX3_readClause_47 (by decide) ?_
      refine lv_icmp_eq (tgt := 56) hx hb dX3_readClause_48 (by decide) (fun c523 => ?_) (fun c523 => ?_)
      rotate_left
      · have c523 := i_ne (Eq.refl p1.toInt) (show (1 : Int32).toInt = 1 by decide) c523; exfalso; omega
      have c523 := i_eq (Eq.refl p1.toInt) (show (1 : Int32).toInt = 1 by decide) c523
      refine lv_iconst (v := 1) hx hb dX3_readClause_56 (by decide) ?_
      refine lv_goto (tgt := 61) hx hb dX3_readClause_57 (by decide) ?_
      refine lv_istore (lv' := [(6, .int 1), (5, .int 0), (4, .int u517), (3, .ref (Z 4)), (0, .ref p0), (1, .int p1), (2, .int p2)]) hx hb dX3_readClause_61 hl (by decide) rfl (fun ls hl => ?_)
      refine lv_iload hx hb dX3_readClause_63 (lv_at hl 2 rfl) ?_
      refine lv_iconst (v := (-1)) hx hb dX3_readClause_65 (by decide) ?_
      have j524 := rgI u517
      refine lv_icmp_ne (tgt := 75) hx hb dX3_readClause_66 (by decide) (fun c525 => ?_) (fun c525 => ?_)
      · skip
        have c525 := i_ne (Eq.refl u517.toInt) (show ((-1) : Int32).toInt = -1 by decide) c525
        refine lv_iload_n hx hb dX3_readClause_75 rfl (lv_at hl 6 rfl) ?_
        refine lv_bipush (v := 12) hx hb dX3_readClause_76 (by decide) ?_
        have j546 := rgI p2
        refine lv_icmp_ge (tgt := 99) hx hb dX3_readClause_78 (by decide) (fun c547 => ?_) (fun c547 => ?_)
        · skip
          have c547 := i_le (show (12 : Int32).toInt = 12 by decide) (Eq.refl p2.toInt) c547
          refine lv_aload_n hx hb dX3_readClause_99 rfl (lv_at hl 4 rfl) ?_
          refine lv_iconst (v := 4) hx hb dX3_readClause_100 (by decide) ?_
          have zi4 : (4 : Int32).toInt = 4 := by decide
          refine cga (rn_V (As := [.int 4]) (rest := []) (b := p0) (x_X3_setFault l D Y Z H.size ws T g q p0 4 hT ht0) ⟨hx, hb, hml, hown, hg⟩ lk_X3_78 ⟨CPC.blind, va_recv hKN.1 hP (ci := 3) (q0 := p515) rfl hk516, CPC.at hP hKN hD hSZ hS hA⟩ ⟨⟨rfl, rfl⟩, ⟨Nat.le_of_ble_eq_true rfl, Nat.le_of_ble_eq_true rfl⟩, ⟨(Nat.le_of_ble_eq_true rfl), (Nat.le_of_ble_eq_true rfl)⟩⟩ hl.1 rfl (Nat.le_of_ble_eq_true rfl) dX3_readClause_101) hP hD hS hA (fun u548 H locs hw549 hP hD hS => ?_)
          obtain ⟨hT, ke551, ke552⟩ : TW Y Z T g q u548 ∧ KF 1 T ws u548 ∧ KF 6 T ws u548 := hw549
          have ke553 : KF 1 T ws u548 := KF.tr KF.rf ke551
          have ke554 : KF 6 T ws u548 := KF.tr KF.rf ke552
          refine W.eq (g2 := F0 m 104 ls []) rfl ?_
          refine W.widen (k := 0) (n := 0) (Nat.le_of_ble_eq_true rfl) (Nat.le_of_ble_eq_true rfl) ?_
          have zi1 : (1 : Int32).toInt = 1 := by decide
          have zi0 : (0 : Int32).toInt = 0 := by decide
          exact W.vret hx hb hr (fun t ht hW => ⟨⟨u548, rfl, ⟨hT, ke553, ke554⟩, CB.mk ht hP hD⟩, hS.F ht⟩) hS.2.2 dX3_readClause_104
        · skip
          have c547 := i_nle (show (12 : Int32).toInt = 12 by decide) (Eq.refl p2.toInt) c547
          refine lv_iload hx hb dX3_readClause_81 (lv_at hl 0 rfl) ?_
          refine lv_if_eq (tgt := 105) hx hb dX3_readClause_83 (by decide) (fun c555 => ?_) (fun c555 => ?_)
          · exact absurd c555 (by decide)
          refine lv_aload_n hx hb dX3_readClause_86 rfl (lv_at hl 4 rfl) ?_
          refine va_get (D := D) (ci := 3) (v := .int x504) (C := RX3) (T := TX3) (N := 12) hx hb hg inGX3 hown hKN.1 hP p515 hk516 rfl 8 (by decide) (hg _ kw_186) (fun _ h9 => h9) rfl dX3_readClause_87 ?_
          refine lv_iload hx hb dX3_readClause_90 (lv_at hl 2 rfl) ?_
          refine lv_ishr hx hb dX3_readClause_92 ?_
          refine lv_topi (fun v556 ev556 => ?_)
          refine lv_iconst (v := 1) hx hb dX3_readClause_93 (by decide) ?_
          refine lv_iand hx hb dX3_readClause_94 ?_
          refine lv_topi (fun v557 ev557 => ?_)
          have hv557 := i_and (show (1 : Int32).toInt = 1 by decide) ev557 (by decide)
          refine lv_iconst (v := 1) hx hb dX3_readClause_95 (by decide) ?_
          refine lv_icmp_ne (tgt := 105) hx hb dX3_readClause_96 (by decide) (fun c558 => ?_) (fun c558 => ?_)
          · skip
            have c558 := i_ne (Eq.refl v557.toInt) (show (1 : Int32).toInt = 1 by decide) c558
            refine lv_aload_n hx hb dX3_readClause_105 rfl (lv_at hl 4 rfl) ?_
            refine lv_dup hx hb dX3_readClause_106 rfl ?_
            refine va_get (D := D) (ci := 3) (v := .int x504) (C := RX3) (T := TX3) (N := 12) hx hb hg inGX3 hown hKN.1 hP p515 hk516 rfl 8 (by decide) (hg _ kw_186) (fun _ h9 => h9) rfl dX3_readClause_107 ?_
            refine lv_iconst (v := 1) hx hb dX3_readClause_110 (by decide) ?_
            refine lv_iload hx hb dX3_readClause_111 (lv_at hl 2 rfl) ?_
            refine lv_ishl hx hb dX3_readClause_113 ?_
            refine lv_topi (fun v559 ev559 => ?_)
            refine lv_ior hx hb dX3_readClause_114 ?_
            refine lv_topi (fun v560 ev560 => ?_)
            refine va_put (D := D) (ci := 3) (v := .int v560) (ty := .int) (C := RX3) (T := TX3) (N := 12) hx hb hg inGX3 tyX3 tyX3_ok nmX3 hown hKN.1 hP hD hS p515 hk516 rfl 8 (by decide) (hg _ kw_186) (fun _ h9 => h9) rfl (by decide +kernel) rfl rfl (Nat.le_of_ble_eq_true rfl) dX3_readClause_115 (fun H locs hP hD2 hS => ?_)
            obtain ⟨w561, hP, hD, hT, hk563, kp562⟩ : ∃ wz, va_P D vwCl wz H ∧ va_D A wz ∧ TW Y Z T g q wz ∧ wz[p515]? = some (p0, .inr (3, [.ref a496, .int x497, .int x498, .int x499, .int x500, .int x501, .int x502, .int x503, .int v560, .ref (Z a505), .ref a506, .int x507])) ∧ Kp p0 ws wz := ⟨_, hP, hD2, st7 hT hD hk516 ht0 ⟨n495, a496, x497, x498, x499, x500, x501, x502, x503, v560, a505, a506, x507, rfl, h508, by omega, by omega, h511, h512, by omega, h514⟩, sw_eq hk516, sw_kp hk516⟩
            have ke564 : KF 1 T ws w561 := KF.tr KF.rf (KF.kp kp562 ht0 (by decide))
            have ke565 : KF 6 T ws w561 := KF.tr KF.rf (KF.kp kp562 ht0 (by decide))
            refine lv_aload_n hx hb dX3_readClause_118 rfl (lv_at hl 4 rfl) ?_
            refine cga (rn_V (As := []) (rest := []) (b := p0) (x_X3_step l D Y Z H.size w561 T g q p0 hT ht0) ⟨hx, hb, hml, hown, hg⟩ lk_X3_61 ⟨CPC.blind, va_recv hKN.1 hP (ci := 3) (q0 := p515) rfl hk563, CPC.at hP hKN hD hSZ hS hA⟩ ⟨⟨rfl, rfl⟩, ⟨Nat.le_of_ble_eq_true rfl, Nat.le_of_ble_eq_true rfl⟩, ⟨(Nat.le_of_ble_eq_true rfl), (Nat.le_of_ble_eq_true rfl)⟩⟩ hl.1 rfl (Nat.le_of_ble_eq_true rfl) dX3_readClause_119) hP hD hS hA (fun u566 H locs hw567 hP hD hS => ?_)
            obtain ⟨hT, ke569, ke570⟩ : TW Y Z T g q u566 ∧ KF 1 T w561 u566 ∧ KF 6 T w561 u566 := hw567
            have ke571 : KF 1 T ws u566 := KF.tr ke564 ke569
            have ke572 : KF 6 T ws u566 := KF.tr ke565 ke570
            refine W.eq (g2 := F0 m 122 ls []) rfl ?_
            refine lv_iload_n hx hb dX3_readClause_122 rfl (lv_at hl 5 rfl) ?_
            refine lv_iconst (v := 1) hx hb dX3_readClause_123 (by decide) ?_
            refine lv_icmp_ne (tgt := 136) hx hb dX3_readClause_124 (by decide) (fun c573 => ?_) (fun c573 => ?_)
            · have c573 := i_ne (Eq.refl p1.toInt) (show (1 : Int32).toInt = 1 by decide) c573; exfalso; omega
            have c573 := i_eq (Eq.refl p1.toInt) (show (1 : Int32).toInt = 1 by decide) c573
            refine lv_aload_n hx hb dX3_readClause_127 rfl (lv_at hl 4 rfl) ?_
            refine lv_iload hx hb dX3_readClause_128 (lv_at hl 2 rfl) ?_
            refine ok7 hT ht0 (fun p594 n574 a575 x576 x577 x578 x579 x580 x581 x582 x583 a584 a585 x586 hk595 h587 h588 h589 h590 h591 h592 h593 => ?_)
            refine cga (rn_V (As := [.int u517]) (rest := []) (b := p0) (x_X3_readSearch l D Y Z H.size u566 T g q p0 u517 hT ht0) ⟨hx, hb, hml, hown, hg⟩ lk_X3_103 ⟨CPC.blind, va_recv hKN.1 hP (ci := 3) (q0 := p594) rfl hk595, CPC.at hP hKN hD hSZ hS hA⟩ ⟨⟨rfl, rfl⟩, ⟨Nat.le_of_ble_eq_true rfl, Nat.le_of_ble_eq_true rfl⟩, ⟨(Nat.le_of_ble_eq_true rfl), (Nat.le_of_ble_eq_true rfl)⟩⟩ hl.1 rfl (Nat.le_of_ble_eq_true rfl) dX3_readClause_130) hP hD hS hA (fun u596 H locs hw597 hP hD hS => ?_)
            obtain ⟨hT, ke599, ke600⟩ : TW Y Z T g q u596 ∧ KF 1 T u566 u596 ∧ KF 6 T u566 u596 := hw597
            have ke601 : KF 1 T ws u596 := KF.tr ke571 ke599
            have ke602 : KF 6 T ws u596 := KF.tr ke572 ke600
            refine W.eq (g2 := F0 m 133 ls []) rfl ?_
            refine lv_goto (tgt := 211) hx hb dX3_readClause_133 (by decide) ?_
            refine W.widen (k := 0) (n := 0) (Nat.le_of_ble_eq_true rfl) (Nat.le_of_ble_eq_true rfl) ?_
            have zi1 : (1 : Int32).toInt = 1 := by decide
            have zi0 : (0 : Int32).toInt = 0 := by decide
            exact W.vret hx hb hr (fun t ht hW => ⟨⟨u596, rfl, ⟨hT, ke601, ke602⟩, CB.mk ht hP hD⟩, hS.F ht⟩) hS.2.2 dX3_readClause_211
          · skip
            have c558 := i_eq (Eq.refl v557.toInt) (show (1 : Int32).toInt = 1 by decide) c558
            refine lv_aload_n hx hb dX3_readClause_99 rfl (lv_at hl 4 rfl) ?_
            refine lv_iconst (v := 4) hx hb dX3_readClause_100 (by decide) ?_
            have zi4 : (4 : Int32).toInt = 4 := by decide
            refine cga (rn_V (As := [.int 4]) (rest := []) (b := p0) (x_X3_setFault l D Y Z H.size ws T g q p0 4 hT ht0) ⟨hx, hb, hml, hown, hg⟩ lk_X3_78 ⟨CPC.blind, va_recv hKN.1 hP (ci := 3) (q0 := p515) rfl hk516, CPC.at hP hKN hD hSZ hS hA⟩ ⟨⟨rfl, rfl⟩, ⟨Nat.le_of_ble_eq_true rfl, Nat.le_of_ble_eq_true rfl⟩, ⟨(Nat.le_of_ble_eq_true rfl), (Nat.le_of_ble_eq_true rfl)⟩⟩ hl.1 rfl (Nat.le_of_ble_eq_true rfl) dX3_readClause_101) hP hD hS hA (fun u603 H locs hw604 hP hD hS => ?_)
            obtain ⟨hT, ke606, ke607⟩ : TW Y Z T g q u603 ∧ KF 1 T ws u603 ∧ KF 6 T ws u603 := hw604
            have ke608 : KF 1 T ws u603 := KF.tr KF.rf ke606
            have ke609 : KF 6 T ws u603 := KF.tr KF.rf ke607
            refine W.eq (g2 := F0 m 104 ls []) rfl ?_
            refine W.widen (k := 0) (n := 0) (Nat.le_of_ble_eq_true rfl) (Nat.le_of_ble_eq_true rfl) ?_
            have zi1 : (1 : Int32).toInt = 1 := by decide
            have zi0 : (0 : Int32).toInt = 0 := by decide
            exact W.vret hx hb hr (fun t ht hW => ⟨⟨u603, rfl, ⟨hT, ke608, ke609⟩, CB.mk ht hP hD⟩, hS.F ht⟩) hS.2.2 dX3_readClause_104
      · skip
        have c525 := i_eq (Eq.refl u517.toInt) (show ((-1) : Int32).toInt = -1 by decide) c525
        refine lv_aload_n hx hb dX3_readClause_69 rfl (lv_at hl 4 rfl) ?_
        refine lv_iconst (v := 0) hx hb dX3_readClause_70 (by decide) ?_
        have zi0 : (0 : Int32).toInt = 0 := by decide
        refine cga (rn_V (As := [.int 0]) (rest := []) (b := p0) (x_X3_setFault l D Y Z H.size ws T g q p0 0 hT ht0) ⟨hx, hb, hml, hown, hg⟩ lk_X3_78 ⟨CPC.blind, va_recv hKN.1 hP (ci := 3) (q0 := p515) rfl hk516, CPC.at hP hKN hD hSZ hS hA⟩ ⟨⟨rfl, rfl⟩, ⟨Nat.le_of_ble_eq_true rfl, Nat.le_of_ble_eq_true rfl⟩, ⟨(Nat.le_of_ble_eq_true rfl), (Nat.le_of_ble_eq_true rfl)⟩⟩ hl.1 rfl (Nat.le_of_ble_eq_true rfl) dX3_readClause_71) hP hD hS hA (fun u610 H locs hw611 hP hD hS => ?_)
        obtain ⟨hT, ke613, ke614⟩ : TW Y Z T g q u610 ∧ KF 1 T ws u610 ∧ KF 6 T ws u610 := hw611
        have ke615 : KF 1 T ws u610 := KF.tr KF.rf ke613
        have ke616 : KF 6 T ws u610 := KF.tr KF.rf ke614
        refine W.eq (g2 := F0 m 74 ls []) rfl ?_
        refine W.widen (k := 0) (n := 0) (Nat.le_of_ble_eq_true rfl) (Nat.le_of_ble_eq_true rfl) ?_
        have zi1 : (1 : Int32).toInt = 1 := by decide
        exact W.vret hx hb hr (fun t ht hW => ⟨⟨u610, rfl, ⟨hT, ke615, ke616⟩, CB.mk ht hP hD⟩, hS.F ht⟩) hS.2.2 dX3_readClause_74
  · skip
    have c2 := i_eq (Eq.refl p1.toInt) (show (0 : Int32).toInt = 0 by decide) c2
    refine va_ldcS (q := Z 3) hx hb hown (hKN.2.2.2 3 (RX3, 93, "bright noise") rfl) dX3_readClause_4 ?_
    refine lv_goto (tgt := 21) hx hb dX3_readClause_6 (by decide) ?_
    refine lv_astore_n (lv' := [(3, .ref (Z 3)), (0, .ref p0), (1, .int p1), (2, .int p2)]) hx hb dX3_readClause_21 rfl hl (by decide) rfl (fun ls hl => ?_)
    refine lv_aload_n hx hb dX3_readClause_22 rfl (lv_at hl 1 rfl) ?_
    refine lv_aload_n hx hb dX3_readClause_23 rfl (lv_at hl 0 rfl) ?_
    refine ok7 hT ht0 (fun p637 n617 a618 x619 x620 x621 x622 x623 x624 x625 x626 a627 a628 x629 hk638 h630 h631 h632 h633 h634 h635 h636 => ?_)
    refine cga (rn_V (As := [.ref (Z 3)]) (rest := []) (b := p0) (x_X3_whichOf l D Y Z H.size ws T g q 3 p0 hT ht0 (by decide)) ⟨hx, hb, hml, hown, hg⟩ lk_X3_99 ⟨CPC.blind, va_recv hKN.1 hP (ci := 3) (q0 := p637) rfl hk638, CPC.at hP hKN hD hSZ hS hA⟩ ⟨⟨rfl, rfl⟩, ⟨Nat.le_of_ble_eq_true rfl, Nat.le_of_ble_eq_true rfl⟩, ⟨(Nat.le_of_ble_eq_true rfl), (Nat.le_of_ble_eq_true rfl)⟩⟩ hl.1 rfl (Nat.le_of_ble_eq_true rfl) dX3_readClause_24) hP hD hS hA (fun u639 H locs hw640 hP hD hS => ?_)
    refine W.eq (g2 := F0 m 27 ls [.int u639]) rfl ?_
    refine lv_istore (lv' := [(4, .int u639), (3, .ref (Z 3)), (0, .ref p0), (1, .int p1), (2, .int p2)]) hx hb dX3_readClause_27 hl (by decide) rfl (fun ls hl => ?_)
    refine lv_iload_n hx hb dX3_readClause_29 rfl (lv_at hl 3 rfl) ?_
    refine w_join (σ := Int32) (pcJ := 44) (kJ := 0) (nJ := 0) (stk := fun xx => match xx with | v645 => [.int v645]) (fun xx H locs ls => match xx with | v645 => va_P D vwCl ws H ∧ va_D A ws ∧ va_S A s.heap H locs ∧ lv_has ls 7 [(4, .int u639), (3, .ref (Z 3)), (0, .ref p0), (1, .int p1), (2, .int p2)] ∧ TW Y Z T g q ws ∧ (0 ≤ v645.toInt ∧ v645.toInt ≤ 1)) (fun xx H locs ls hI => ?_) (fun jn646 => ?_)
    · skip
      revert hI
      generalize xx = v645
      intro hI
      obtain ⟨hP, hD, hS, hl, hT, hq647⟩ := hI
      refine W.eq (g2 := F0 m 44 ls [.int v645]) rfl ?_
      refine lv_istore (lv' := [(5, .int v645), (4, .int u639), (3, .ref (Z 3)), (0, .ref p0), (1, .int p1), (2, .int p2)]) hx hb dX3_readClause_44 hl (by decide) rfl (fun ls hl => ?_)
      refine lv_iload_n hx hb dX3_readClause_46 rfl (lv_at hl 4 rfl) ?_
      refine lv_iconst (v := 1) hx hb dX3_readClause_47 (by decide) ?_
      refine w_join (σ := Int32) (pcJ := 61) (kJ := 0) (nJ := 0) (stk := fun xx => match xx with | v650 => [.int v650]) (fun xx H locs ls => match xx with | v650 => va_P D vwCl ws H ∧ va_D A ws ∧ va_S A s.heap H locs ∧ lv_has ls 7 [(5, .int v645), (4, .int u639), (3, .ref (Z 3)), (0, .ref p0), (1, .int p1), (2, .int p2)] ∧ TW Y Z T g q ws ∧ (0 ≤ v650.toInt ∧ v650.toInt ≤ 1)) (fun xx H locs ls hI => ?_) (fun jn651 => ?_)
      · skip
        revert hI
        generalize xx = v650
        intro hI
        obtain ⟨hP, hD, hS, hl, hT, hq652⟩ := hI
        refine W.eq (g2 := F0 m 61 ls [.int v650]) rfl ?_
        refine lv_istore (lv' := [(6, .int v650), (5, .int v645), (4, .int u639), (3, .ref (Z 3)), (0, .ref p0), (1, .int p1), (2, .int p2)]) hx hb dX3_readClause_61 hl (by decide) rfl (fun ls hl => ?_)
        refine lv_iload hx hb dX3_readClause_63 (lv_at hl 2 rfl) ?_
        refine lv_iconst (v := (-1)) hx hb dX3_readClause_65 (by decide) ?_
        have j653 := rgI u639
        refine lv_icmp_ne (tgt := 75) hx hb dX3_readClause_66 (by decide) (fun c654 => ?_) (fun c654 => ?_)
        · skip
          have c654 := i_ne (Eq.refl u639.toInt) (show ((-1) : Int32).toInt = -1 by decide) c654
          refine lv_iload_n hx hb dX3_readClause_75 rfl (lv_at hl 6 rfl) ?_
          refine lv_bipush (v := 12) hx hb dX3_readClause_76 (by decide) ?_
          refine w_join (σ := Unit) (pcJ := 105) (kJ := 0) (nJ := 0) (stk := fun xx => match xx with | _ => []) (fun xx H locs ls => match xx with | _ => va_P D vwCl ws H ∧ va_D A ws ∧ va_S A s.heap H locs ∧ lv_has ls 7 [(6, .int v650), (5, .int v645), (4, .int u639), (3, .ref (Z 3)), (0, .ref p0), (1, .int p1), (2, .int p2)] ∧ TW Y Z T g q ws) (fun xx H locs ls hI => ?_) (fun jn675 => ?_)
          · skip
            obtain ⟨hP, hD, hS, hl, hT⟩ := hI
            refine W.eq (g2 := F0 m 105 ls []) rfl ?_
            refine lv_aload_n hx hb dX3_readClause_105 rfl (lv_at hl 4 rfl) ?_
            refine lv_dup hx hb dX3_readClause_106 rfl ?_
            refine va_get (D := D) (ci := 3) (v := .int x626) (C := RX3) (T := TX3) (N := 12) hx hb hg inGX3 hown hKN.1 hP p637 hk638 rfl 8 (by decide) (hg _ kw_186) (fun _ h9 => h9) rfl dX3_readClause_107 ?_
            refine lv_iconst (v := 1) hx hb dX3_readClause_110 (by decide) ?_
            refine lv_iload hx hb dX3_readClause_111 (lv_at hl 2 rfl) ?_
            refine lv_ishl hx hb dX3_readClause_113 ?_
            refine lv_topi (fun v676 ev676 => ?_)
            refine lv_ior hx hb dX3_readClause_114 ?_
            refine lv_topi (fun v677 ev677 => ?_)
            refine va_put (D := D) (ci := 3) (v := .int v677) (ty := .int) (C := RX3) (T := TX3) (N := 12) hx hb hg inGX3 tyX3 tyX3_ok nmX3 hown hKN.1 hP hD hS p637 hk638 rfl 8 (by decide) (hg _ kw_186) (fun _ h9 => h9) rfl (by decide +kernel) rfl rfl (Nat.le_of_ble_eq_true rfl) dX3_readClause_115 (fun H locs hP hD2 hS => ?_)
            obtain ⟨w678, hP, hD, hT, hk680, kp679⟩ : ∃ wz, va_P D vwCl wz H ∧ va_D A wz ∧ TW Y Z T g q wz ∧ wz[p637]? = some (p0, .inr (3, [.ref a618, .int x619, .int x620, .int x621, .int x622, .int x623, .int x624, .int x625, .int v677, .ref (Z a627), .ref a628, .int x629])) ∧ Kp p0 ws wz := ⟨_, hP, hD2, st7 hT hD hk638 ht0 ⟨n617, a618, x619, x620, x621, x622, x623, x624, x625, v677, a627, a628, x629, rfl, h630, by omega, by omega, h633, h634, by omega, h636⟩, sw_eq hk638, sw_kp hk638⟩
            have ke681 : KF 1 T ws w678 := KF.tr KF.rf (KF.kp kp679 ht0 (by decide))
            have ke682 : KF 6 T ws w678 := KF.tr KF.rf (KF.kp kp679 ht0 (by decide))
            refine lv_aload_n hx hb dX3_readClause_118 rfl (lv_at hl 4 rfl) ?_
            refine cga (rn_V (As := []) (rest := []) (b := p0) (x_X3_step l D Y Z H.size w678 T g q p0 hT ht0) ⟨hx, hb, hml, hown, hg⟩ lk_X3_61 ⟨CPC.blind, va_recv hKN.1 hP (ci := 3) (q0 := p637) rfl hk680, CPC.at hP hKN hD hSZ hS hA⟩ ⟨⟨rfl, rfl⟩, ⟨Nat.le_of_ble_eq_true rfl, Nat.le_of_ble_eq_true rfl⟩, ⟨(Nat.le_of_ble_eq_true rfl), (Nat.le_of_ble_eq_true rfl)⟩⟩ hl.1 rfl (Nat.le_of_ble_eq_true rfl) dX3_readClause_119) hP hD hS hA (fun u683 H locs hw684 hP hD hS => ?_)
            obtain ⟨hT, ke686, ke687⟩ : TW Y Z T g q u683 ∧ KF 1 T w678 u683 ∧ KF 6 T w678 u683 := hw684
            have ke688 : KF 1 T ws u683 := KF.tr ke681 ke686
            have ke689 : KF 6 T ws u683 := KF.tr ke682 ke687
            refine W.eq (g2 := F0 m 122 ls []) rfl ?_
            refine lv_iload_n hx hb dX3_readClause_122 rfl (lv_at hl 5 rfl) ?_
            refine lv_iconst (v := 1) hx hb dX3_readClause_123 (by decide) ?_
            refine lv_icmp_ne (tgt := 136) hx hb dX3_readClause_124 (by decide) (fun c690 => ?_) (fun c690 => ?_)
            rotate_left
            · have c690 := i_eq (Eq.refl p1.toInt) (show (1 : Int32).toInt = 1 by decide) c690; exfalso; omega
            have c690 := i_ne (Eq.refl p1.toInt) (show (1 : Int32).toInt = 1 by decide) c690
            refine lv_iload hx hb dX3_readClause_136 (lv_at hl 1 rfl) ?_
            refine lv_if_eq (tgt := 159) hx hb dX3_readClause_138 (by decide) (fun c691 => ?_) (fun c691 => ?_)
            · skip
              have c691 := i_eq (Eq.refl v645.toInt) (show (0 : Int32).toInt = 0 by decide) c691
              refine lv_aload_n hx hb dX3_readClause_159 rfl (lv_at hl 4 rfl) ?_
              refine ok7 hT ht0 (fun p712 n692 a693 x694 x695 x696 x697 x698 x699 x700 x701 a702 a703 x704 hk713 h705 h706 h707 h708 h709 h710 h711 => ?_)
              refine va_get (D := D) (ci := 3) (v := .ref a703) (C := RX3) (T := TX3) (N := 12) hx hb hg inGX3 hown hKN.1 hP p712 hk713 rfl 10 (by decide) (hg _ kw_188) (fun _ h9 => h9) rfl dX3_readClause_160 ?_
              refine lv_iload hx hb dX3_readClause_163 (lv_at hl 2 rfl) ?_
              refine ok5 hT h709 (fun p735 x714 x715 x716 x717 x718 x719 x720 x721 a722 a723 a724 a725 a726 x727 hk736 h728 h729 h730 h731 h732 h733 h734 => ?_)
              refine cga (rn_NV (As := [.int u639]) (rest := []) (b := a703) (x_X8_openClause l D Y Z H.size u683 T g q a703 u639 hT h709) ⟨hx, hb, hml, hown, hg⟩ hKN lk_X3_112 ⟨CPC.blind, va_recv hKN.1 hP (ci := 8) (q0 := p735) rfl hk736, CPC.at hP hKN hD hSZ hS hA⟩ ⟨⟨rfl, rfl⟩, ⟨Nat.le_of_ble_eq_true rfl, Nat.le_of_ble_eq_true rfl⟩, ⟨(Nat.le_of_ble_eq_true rfl), (Nat.le_of_ble_eq_true rfl)⟩⟩ hl.1 rfl (Nat.le_of_ble_eq_true rfl) dX3_readClause_165) hP hD hS hA (fun u737 H locs hw738 hP hD hS => ?_)
              obtain ⟨hT, ke740, ke741⟩ : TW Y Z T g q u737 ∧ KF 1 T u683 u737 ∧ KF 6 T u683 u737 := hw738
              have ke742 : KF 1 T ws u737 := KF.tr ke688 ke740
              have ke743 : KF 6 T ws u737 := KF.tr ke689 ke741
              refine W.eq (g2 := F0 m 168 ls []) rfl ?_
              refine lv_aload_n hx hb dX3_readClause_168 rfl (lv_at hl 4 rfl) ?_
              refine ok7 hT ht0 (fun p764 n744 a745 x746 x747 x748 x749 x750 x751 x752 x753 a754 a755 x756 hk765 h757 h758 h759 h760 h761 h762 h763 => ?_)
              refine cga (rn_V (As := []) (rest := []) (b := p0) (x_X3_readSum l D Y Z H.size u737 T g q p0 hT ht0) ⟨hx, hb, hml, hown, hg⟩ lk_X3_115 ⟨CPC.blind, va_recv hKN.1 hP (ci := 3) (q0 := p764) rfl hk765, CPC.at hP hKN hD hSZ hS hA⟩ ⟨⟨rfl, rfl⟩, ⟨Nat.le_of_ble_eq_true rfl, Nat.le_of_ble_eq_true rfl⟩, ⟨(Nat.le_of_ble_eq_true rfl), (Nat.le_of_ble_eq_true rfl)⟩⟩ hl.1 rfl (Nat.le_of_ble_eq_true rfl) dX3_readClause_169) hP hD hS hA (fun u766 H locs hw767 hP hD hS => ?_)
              obtain ⟨hT, ke769, ke770⟩ : TW Y Z T g q u766 ∧ KF 1 T u737 u766 ∧ KF 6 T u737 u766 := hw767
              have ke771 : KF 1 T ws u766 := KF.tr ke742 ke769
              have ke772 : KF 6 T ws u766 := KF.tr ke743 ke770
              refine W.eq (g2 := F0 m 172 ls []) rfl ?_
              refine lv_aload_n hx hb dX3_readClause_172 rfl (lv_at hl 4 rfl) ?_
              refine ok7 hT ht0 (fun p793 n773 a774 x775 x776 x777 x778 x779 x780 x781 x782 a783 a784 x785 hk794 h786 h787 h788 h789 h790 h791 h792 => ?_)
              refine va_get (D := D) (ci := 3) (v := .ref a784) (C := RX3) (T := TX3) (N := 12) hx hb hg inGX3 hown hKN.1 hP p793 hk794 rfl 10 (by decide) (hg _ kw_188) (fun _ h9 => h9) rfl dX3_readClause_173 ?_
              refine ok5 hT h790 (fun p816 x795 x796 x797 x798 x799 x800 x801 x802 a803 a804 a805 a806 a807 x808 hk817 h809 h810 h811 h812 h813 h814 h815 => ?_)
              refine cga (rn_NV (As := []) (rest := []) (b := a784) (x_X8_endSum l D Y Z H.size u766 T g q a784 hT h790) ⟨hx, hb, hml, hown, hg⟩ hKN lk_X3_118 ⟨CPC.blind, va_recv hKN.1 hP (ci := 8) (q0 := p816) rfl hk817, CPC.at hP hKN hD hSZ hS hA⟩ ⟨⟨rfl, rfl⟩, ⟨Nat.le_of_ble_eq_true rfl, Nat.le_of_ble_eq_true rfl⟩, ⟨(Nat.le_of_ble_eq_true rfl), (Nat.le_of_ble_eq_true rfl)⟩⟩ hl.1 rfl (Nat.le_of_ble_eq_true rfl) dX3_readClause_176) hP hD hS hA (fun u818 H locs hw819 hP hD hS => ?_)
              obtain ⟨hT, ke821, ke822⟩ : TW Y Z T g q u818 ∧ KF 1 T u766 u818 ∧ KF 6 T u766 u818 := hw819
              have ke823 : KF 1 T ws u818 := KF.tr ke771 ke821
              have ke824 : KF 6 T ws u818 := KF.tr ke772 ke822
              refine W.eq (g2 := F0 m 179 ls []) rfl ?_
              refine lv_aload_n hx hb dX3_readClause_179 rfl (lv_at hl 4 rfl) ?_
              refine ok7 hT ht0 (fun p845 n825 a826 x827 x828 x829 x830 x831 x832 x833 x834 a835 a836 x837 hk846 h838 h839 h840 h841 h842 h843 h844 => ?_)
              refine va_get (D := D) (ci := 3) (v := .int x832) (C := RX3) (T := TX3) (N := 12) hx hb hg inGX3 hown hKN.1 hP p845 hk846 rfl 6 (by decide) (hg _ kw_184) (fun _ h9 => h9) rfl dX3_readClause_180 ?_
              refine w_join (σ := va_W) (pcJ := 204) (kJ := 0) (nJ := 0) (stk := fun xx => match xx with | w890 => []) (fun xx H locs ls => match xx with | w890 => va_P D vwCl w890 H ∧ va_D A w890 ∧ va_S A s.heap H locs ∧ lv_has ls 7 [(6, .int v650), (5, .int v645), (4, .int u639), (3, .ref (Z 3)), (0, .ref p0), (1, .int p1), (2, .int p2)] ∧ TW Y Z T g q w890 ∧ KF 1 T ws w890 ∧ KF 6 T ws w890) (fun xx H locs ls hI => ?_) (fun jn891 => ?_)
              · skip
                revert hI
                generalize xx = w890
                intro hI
                obtain ⟨hP, hD, hS, hl, hT, ke892, ke893⟩ := hI
                refine W.eq (g2 := F0 m 204 ls []) rfl ?_
                refine lv_aload_n hx hb dX3_readClause_204 rfl (lv_at hl 4 rfl) ?_
                refine ok7 hT ht0 (fun p914 n894 a895 x896 x897 x898 x899 x900 x901 x902 x903 a904 a905 x906 hk915 h907 h908 h909 h910 h911 h912 h913 => ?_)
                refine va_get (D := D) (ci := 3) (v := .ref a905) (C := RX3) (T := TX3) (N := 12) hx hb hg inGX3 hown hKN.1 hP p914 hk915 rfl 10 (by decide) (hg _ kw_188) (fun _ h9 => h9) rfl dX3_readClause_205 ?_
                refine ok5 hT h911 (fun p937 x916 x917 x918 x919 x920 x921 x922 x923 a924 a925 a926 a927 a928 x929 hk938 h930 h931 h932 h933 h934 h935 h936 => ?_)
                refine cga (rn_NV (As := []) (rest := []) (b := a905) (x_X8_closeClause l D Y Z H.size w890 T g q a905 hT h911) ⟨hx, hb, hml, hown, hg⟩ hKN lk_X3_126 ⟨CPC.blind, va_recv hKN.1 hP (ci := 8) (q0 := p937) rfl hk938, CPC.at hP hKN hD hSZ hS hA⟩ ⟨⟨rfl, rfl⟩, ⟨Nat.le_of_ble_eq_true rfl, Nat.le_of_ble_eq_true rfl⟩, ⟨(Nat.le_of_ble_eq_true rfl), (Nat.le_of_ble_eq_true rfl)⟩⟩ hl.1 rfl (Nat.le_of_ble_eq_true rfl) dX3_readClause_208) hP hD hS hA (fun u939 H locs hw940 hP hD hS => ?_)
                obtain ⟨hT, ke942, ke943⟩ : TW Y Z T g q u939 ∧ KF 1 T w890 u939 ∧ KF 6 T w890 u939 := hw940
                have ke944 : KF 1 T ws u939 := KF.tr ke892 ke942
                have ke945 : KF 6 T ws u939 := KF.tr ke893 ke943
                refine W.eq (g2 := F0 m 211 ls []) rfl ?_
                refine W.widen (k := 0) (n := 0) (Nat.le_of_ble_eq_true rfl) (Nat.le_of_ble_eq_true rfl) ?_
                exact W.vret hx hb hr (fun t ht hW => ⟨⟨u939, rfl, ⟨hT, ke944, ke945⟩, CB.mk ht hP hD⟩, hS.F ht⟩) hS.2.2 dX3_readClause_211
              · skip
                have j946 := rgI x832
                refine lv_if_ne (tgt := 204) hx hb dX3_readClause_183 (by decide) (fun c947 => ?_) (fun c947 => ?_)
                · skip
                  have c947 := i_ne (Eq.refl x832.toInt) (show (0 : Int32).toInt = 0 by decide) c947
                  refine W.widen (k := 0) (n := 0) (Nat.le_of_ble_eq_true rfl) (Nat.le_of_ble_eq_true rfl) ?_
                  exact jn891 (u818) H locs ls ⟨hP, hD, hS, lv_sub hl [0, 1, 2, 3, 4, 5, 6] rfl, hT, ke823, ke824⟩
                · skip
                  have c947 := i_eq (Eq.refl x832.toInt) (show (0 : Int32).toInt = 0 by decide) c947
                  refine lv_aload_n hx hb dX3_readClause_186 rfl (lv_at hl 4 rfl) ?_
                  refine va_ldcS (q := Z 6) hx hb hown (hKN.2.2.2 6 (RX3, 121, "if") rfl) dX3_readClause_187 ?_
                  refine cga (rn_V (As := [.ref (Z 6)]) (rest := []) (b := p0) (x_X3_whichOf l D Y Z H.size u818 T g q 6 p0 hT ht0 (by decide)) ⟨hx, hb, hml, hown, hg⟩ lk_X3_99 ⟨CPC.blind, va_recv hKN.1 hP (ci := 3) (q0 := p845) rfl hk846, CPC.at hP hKN hD hSZ hS hA⟩ ⟨⟨rfl, rfl⟩, ⟨Nat.le_of_ble_eq_true rfl, Nat.le_of_ble_eq_true rfl⟩, ⟨(Nat.le_of_ble_eq_true rfl), (Nat.le_of_ble_eq_true rfl)⟩⟩ hl.1 rfl (Nat.le_of_ble_eq_true rfl) dX3_readClause_189) hP hD hS hA (fun u948 H locs hw949 hP hD hS => ?_)
                  refine W.eq (g2 := F0 m 192 ls [.int u948]) rfl ?_
                  have j951 := rgI u948
                  refine lv_if_ne (tgt := 204) hx hb dX3_readClause_192 (by decide) (fun c952 => ?_) (fun c952 => ?_)
                  · skip
                    have c952 := i_ne (Eq.refl u948.toInt) (show (0 : Int32).toInt = 0 by decide) c952
                    refine W.widen (k := 0) (n := 0) (Nat.le_of_ble_eq_true rfl) (Nat.le_of_ble_eq_true rfl) ?_
                    exact jn891 (u818) H locs ls ⟨hP, hD, hS, lv_sub hl [0, 1, 2, 3, 4, 5, 6] rfl, hT, ke823, ke824⟩
                  · skip
                    have c952 := i_eq (Eq.refl u948.toInt) (show (0 : Int32).toInt = 0 by decide) c952
                    refine lv_aload_n hx hb dX3_readClause_195 rfl (lv_at hl 4 rfl) ?_
                    refine cga (rn_V (As := []) (rest := []) (b := p0) (x_X3_step l D Y Z H.size u818 T g q p0 hT ht0) ⟨hx, hb, hml, hown, hg⟩ lk_X3_61 ⟨CPC.blind, va_recv hKN.1 hP (ci := 3) (q0 := p845) rfl hk846, CPC.at hP hKN hD hSZ hS hA⟩ ⟨⟨rfl, rfl⟩, ⟨Nat.le_of_ble_eq_true rfl, Nat.le_of_ble_eq_true rfl⟩, ⟨(Nat.le_of_ble_eq_true rfl), (Nat.le_of_ble_eq_true rfl)⟩⟩ hl.1 rfl (Nat.le_of_ble_eq_true rfl) dX3_readClause_196) hP hD hS hA (fun u953 H locs hw954 hP hD hS => ?_)
                    obtain ⟨hT, ke956, ke957⟩ : TW Y Z T g q u953 ∧ KF 1 T u818 u953 ∧ KF 6 T u818 u953 := hw954
                    have ke958 : KF 1 T ws u953 := KF.tr ke823 ke956
                    have ke959 : KF 6 T ws u953 := KF.tr ke824 ke957
                    refine W.eq (g2 := F0 m 199 ls []) rfl ?_
                    refine lv_aload_n hx hb dX3_readClause_199 rfl (lv_at hl 4 rfl) ?_
                    refine lv_iconst (v := 0) hx hb dX3_readClause_200 (by decide) ?_
                    have zi0 : (0 : Int32).toInt = 0 := by decide
                    refine ok7 hT ht0 (fun p980 n960 a961 x962 x963 x964 x965 x966 x967 x968 x969 a970 a971 x972 hk981 h973 h974 h975 h976 h977 h978 h979 => ?_)
                    refine cga (rn_V (As := [.int 0]) (rest := []) (b := p0) (x_X3_readTest_0 l D Y Z H.size u953 T g q p0 hT ht0) ⟨hx, hb, hml, hown, hg⟩ lk_X3_123 ⟨CPC.blind, va_recv hKN.1 hP (ci := 3) (q0 := p980) rfl hk981, CPC.at hP hKN hD hSZ hS hA⟩ ⟨⟨rfl, rfl⟩, ⟨Nat.le_of_ble_eq_true rfl, Nat.le_of_ble_eq_true rfl⟩, ⟨(Nat.le_of_ble_eq_true rfl), (Nat.le_of_ble_eq_true rfl)⟩⟩ hl.1 rfl (Nat.le_of_ble_eq_true rfl) dX3_readClause_201) hP hD hS hA (fun u982 H locs hw983 hP hD hS => ?_)
                    obtain ⟨hT, ke985, ke986⟩ : TW Y Z T g q u982 ∧ KF 1 T u953 u982 ∧ KF 6 T u953 u982 := hw983
                    have ke987 : KF 1 T ws u982 := KF.tr ke958 ke985
                    have ke988 : KF 6 T ws u982 := KF.tr ke959 ke986
                    refine W.eq (g2 := F0 m 204 ls []) rfl ?_
                    refine W.widen (k := 0) (n := 0) (Nat.le_of_ble_eq_true rfl) (Nat.le_of_ble_eq_true rfl) ?_
                    exact jn891 (u982) H locs ls ⟨hP, hD, hS, lv_sub hl [0, 1, 2, 3, 4, 5, 6] rfl, hT, ke987, ke988⟩
            · skip
              have c691 := i_ne (Eq.refl v645.toInt) (show (0 : Int32).toInt = 0 by decide) c691
              refine lv_aload_n hx hb dX3_readClause_141 rfl (lv_at hl 4 rfl) ?_
              refine ok7 hT ht0 (fun p1009 n989 a990 x991 x992 x993 x994 x995 x996 x997 x998 a999 a1000 x1001 hk1010 h1002 h1003 h1004 h1005 h1006 h1007 h1008 => ?_)
              refine va_get (D := D) (ci := 3) (v := .ref a1000) (C := RX3) (T := TX3) (N := 12) hx hb hg inGX3 hown hKN.1 hP p1009 hk1010 rfl 10 (by decide) (hg _ kw_188) (fun _ h9 => h9) rfl dX3_readClause_142 ?_
              refine lv_aload_n hx hb dX3_readClause_145 rfl (lv_at hl 4 rfl) ?_
              refine lv_iconst (v := 0) hx hb dX3_readClause_146 (by decide) ?_
              refine lv_sipush (v := 9999) hx hb dX3_readClause_147 (by decide) ?_
              have zi0 : (0 : Int32).toInt = 0 := by decide
              have zi9999 : (9999 : Int32).toInt = 9999 := by decide
              refine cga (rn_V (As := [.int 0, .int 9999]) (rest := [.ref a1000]) (b := p0) (x_X3_readNumber l D Y Z H.size u683 T g q p0 0 9999 hT ht0) ⟨hx, hb, hml, hown, hg⟩ lk_X3_106 ⟨CPC.blind, va_recv hKN.1 hP (ci := 3) (q0 := p1009) rfl hk1010, CPC.at hP hKN hD hSZ hS hA⟩ ⟨⟨rfl, rfl⟩, ⟨Nat.le_of_ble_eq_true rfl, Nat.le_of_ble_eq_true rfl⟩, ⟨(Nat.le_of_ble_eq_true rfl), (Nat.le_of_ble_eq_true rfl)⟩⟩ hl.1 rfl (Nat.le_of_ble_eq_true rfl) dX3_readClause_150) hP hD hS hA (fun u1011 H locs hw1012 hP hD hS => ?_)
              obtain ⟨u1013, w1014⟩ := u1011
              obtain ⟨hT, ke1015, ke1016⟩ : TW Y Z T g q w1014 ∧ KF 1 T u683 w1014 ∧ KF 6 T u683 w1014 := hw1012
              have ke1017 : KF 1 T ws w1014 := KF.tr ke688 ke1015
              have ke1018 : KF 6 T ws w1014 := KF.tr ke689 ke1016
              refine W.eq (g2 := F0 m 153 ls [.int u1013, .ref a1000]) rfl ?_
              refine ok5 hT h1006 (fun p1040 x1019 x1020 x1021 x1022 x1023 x1024 x1025 x1026 a1027 a1028 a1029 a1030 a1031 x1032 hk1041 h1033 h1034 h1035 h1036 h1037 h1038 h1039 => ?_)
              refine va_putN (D := D) (ci := 8) (v := .int u1013) (ty := .int) (C := RX8) (T := TX8) (N := 14) hx hb hg inGX8 tyX8 tyX8_ok nmX8 hown hKN.1 hP hD hS p1040 hk1041 rfl 0 (by decide) (va_Nw.use rfl (hKN.2.1 _ kn_115 rfl)) (fun _ h9 => h9) rfl (by decide +kernel) rfl rfl (Nat.le_of_ble_eq_true rfl) dX3_readClause_153 (fun H locs hP hD2 hS => ?_)
              obtain ⟨w1042, hP, hD, hT, hk1044, kp1043⟩ : ∃ wz, va_P D vwCl wz H ∧ va_D A wz ∧ TW Y Z T g q wz ∧ wz[p1040]? = some (a1000, .inr (8, (.int u1013 :: .int x1020 :: .int x1021 :: .int x1022 :: .int x1023 :: .int x1024 :: .int x1025 :: .int x1026 :: .ref a1027 :: .ref a1028 :: .ref a1029 :: .ref a1030 :: .ref a1031 :: .int x1032 :: []))) ∧ Kp a1000 w1014 wz := ⟨_, hP, hD2, st5 hT hD hk1041 h1006 ⟨u1013, x1020, x1021, x1022, x1023, x1024, x1025, x1026, a1027, a1028, a1029, a1030, a1031, x1032, rfl, by omega, h1034, h1035, h1036, h1037, h1038, by omega⟩, sw_eq hk1041, sw_kp hk1041⟩
              have ke1045 : KF 1 T ws w1042 := KF.tr ke1017 (KF.kp kp1043 h1006 (by decide))
              have ke1046 : KF 6 T ws w1042 := KF.tr ke1018 (KF.kp kp1043 h1006 (by decide))
              refine lv_goto (tgt := 211) hx hb dX3_readClause_156 (by decide) ?_
              refine W.widen (k := 0) (n := 0) (Nat.le_of_ble_eq_true rfl) (Nat.le_of_ble_eq_true rfl) ?_
              exact W.vret hx hb hr (fun t ht hW => ⟨⟨w1042, rfl, ⟨hT, ke1045, ke1046⟩, CB.mk ht hP hD⟩, hS.F ht⟩) hS.2.2 dX3_readClause_211
          · skip
            have j1047 := rgI p2
            refine lv_icmp_ge (tgt := 99) hx hb dX3_readClause_78 (by decide) (fun c1048 => ?_) (fun c1048 => ?_)
            · skip
              have c1048 := i_le (show (12 : Int32).toInt = 12 by decide) (Eq.refl p2.toInt) c1048
              refine lv_aload_n hx hb dX3_readClause_99 rfl (lv_at hl 4 rfl) ?_
              refine lv_iconst (v := 4) hx hb dX3_readClause_100 (by decide) ?_
              have zi4 : (4 : Int32).toInt = 4 := by decide
              refine cga (rn_V (As := [.int 4]) (rest := []) (b := p0) (x_X3_setFault l D Y Z H.size ws T g q p0 4 hT ht0) ⟨hx, hb, hml, hown, hg⟩ lk_X3_78 ⟨CPC.blind, va_recv hKN.1 hP (ci := 3) (q0 := p637) rfl hk638, CPC.at hP hKN hD hSZ hS hA⟩ ⟨⟨rfl, rfl⟩, ⟨Nat.le_of_ble_eq_true rfl, Nat.le_of_ble_eq_true rfl⟩, ⟨(Nat.le_of_ble_eq_true rfl), (Nat.le_of_ble_eq_true rfl)⟩⟩ hl.1 rfl (Nat.le_of_ble_eq_true rfl) dX3_readClause_101) hP hD hS hA (fun u1049 H locs hw1050 hP hD hS => ?_)
              obtain ⟨hT, ke1052, ke1053⟩ : TW Y Z T g q u1049 ∧ KF 1 T ws u1049 ∧ KF 6 T ws u1049 := hw1050
              have ke1054 : KF 1 T ws u1049 := KF.tr KF.rf ke1052
              have ke1055 : KF 6 T ws u1049 := KF.tr KF.rf ke1053
              refine W.eq (g2 := F0 m 104 ls []) rfl ?_
              refine W.widen (k := 0) (n := 0) (Nat.le_of_ble_eq_true rfl) (Nat.le_of_ble_eq_true rfl) ?_
              exact W.vret hx hb hr (fun t ht hW => ⟨⟨u1049, rfl, ⟨hT, ke1054, ke1055⟩, CB.mk ht hP hD⟩, hS.F ht⟩) hS.2.2 dX3_readClause_104
            · skip
              have c1048 := i_nle (show (12 : Int32).toInt = 12 by decide) (Eq.refl p2.toInt) c1048
              refine lv_iload hx hb dX3_readClause_81 (lv_at hl 0 rfl) ?_
              refine lv_if_eq (tgt := 105) hx hb dX3_readClause_83 (by decide) (fun c1056 => ?_) (fun c1056 => ?_)
              · skip
                have c1056 := i_eq (Eq.refl v650.toInt) (show (0 : Int32).toInt = 0 by decide) c1056
                refine W.widen (k := 0) (n := 0) (Nat.le_of_ble_eq_true rfl) (Nat.le_of_ble_eq_true rfl) ?_
                exact jn675 (()) H locs ls ⟨hP, hD, hS, lv_sub hl [0, 1, 2, 3, 4, 5, 6] rfl, hT⟩
              · skip
                have c1056 := i_ne (Eq.refl v650.toInt) (show (0 : Int32).toInt = 0 by decide) c1056
                refine lv_aload_n hx hb dX3_readClause_86 rfl (lv_at hl 4 rfl) ?_
                refine va_get (D := D) (ci := 3) (v := .int x626) (C := RX3) (T := TX3) (N := 12) hx hb hg inGX3 hown hKN.1 hP p637 hk638 rfl 8 (by decide) (hg _ kw_186) (fun _ h9 => h9) rfl dX3_readClause_87 ?_
                refine lv_iload hx hb dX3_readClause_90 (lv_at hl 2 rfl) ?_
                refine lv_ishr hx hb dX3_readClause_92 ?_
                refine lv_topi (fun v1057 ev1057 => ?_)
                refine lv_iconst (v := 1) hx hb dX3_readClause_93 (by decide) ?_
                refine lv_iand hx hb dX3_readClause_94 ?_
                refine lv_topi (fun v1058 ev1058 => ?_)
                have hv1058 := i_and (show (1 : Int32).toInt = 1 by decide) ev1058 (by decide)
                refine lv_iconst (v := 1) hx hb dX3_readClause_95 (by decide) ?_
                refine lv_icmp_ne (tgt := 105) hx hb dX3_readClause_96 (by decide) (fun c1059 => ?_) (fun c1059 => ?_)
                · skip
                  have c1059 := i_ne (Eq.refl v1058.toInt) (show (1 : Int32).toInt = 1 by decide) c1059
                  refine W.widen (k := 0) (n := 0) (Nat.le_of_ble_eq_true rfl) (Nat.le_of_ble_eq_true rfl) ?_
                  exact jn675 (()) H locs ls ⟨hP, hD, hS, lv_sub hl [0, 1, 2, 3, 4, 5, 6] rfl, hT⟩
                · skip
                  have c1059 := i_eq (Eq.refl v1058.toInt) (show (1 : Int32).toInt = 1 by decide) c1059
                  refine lv_aload_n hx hb dX3_readClause_99 rfl (lv_at hl 4 rfl) ?_
                  refine lv_iconst (v := 4) hx hb dX3_readClause_100 (by decide) ?_
                  have zi4 : (4 : Int32).toInt = 4 := by decide
                  refine cga (rn_V (As := [.int 4]) (rest := []) (b := p0) (x_X3_setFault l D Y Z H.size ws T g q p0 4 hT ht0) ⟨hx, hb, hml, hown, hg⟩ lk_X3_78 ⟨CPC.blind, va_recv hKN.1 hP (ci := 3) (q0 := p637) rfl hk638, CPC.at hP hKN hD hSZ hS hA⟩ ⟨⟨rfl, rfl⟩, ⟨Nat.le_of_ble_eq_true rfl, Nat.le_of_ble_eq_true rfl⟩, ⟨(Nat.le_of_ble_eq_true rfl), (Nat.le_of_ble_eq_true rfl)⟩⟩ hl.1 rfl (Nat.le_of_ble_eq_true rfl) dX3_readClause_101) hP hD hS hA (fun u1060 H locs hw1061 hP hD hS => ?_)
                  obtain ⟨hT, ke1063, ke1064⟩ : TW Y Z T g q u1060 ∧ KF 1 T ws u1060 ∧ KF 6 T ws u1060 := hw1061
                  have ke1065 : KF 1 T ws u1060 := KF.tr KF.rf ke1063
                  have ke1066 : KF 6 T ws u1060 := KF.tr KF.rf ke1064
                  refine W.eq (g2 := F0 m 104 ls []) rfl ?_
                  refine W.widen (k := 0) (n := 0) (Nat.le_of_ble_eq_true rfl) (Nat.le_of_ble_eq_true rfl) ?_
                  exact W.vret hx hb hr (fun t ht hW => ⟨⟨u1060, rfl, ⟨hT, ke1065, ke1066⟩, CB.mk ht hP hD⟩, hS.F ht⟩) hS.2.2 dX3_readClause_104
        · skip
          have c654 := i_eq (Eq.refl u639.toInt) (show ((-1) : Int32).toInt = -1 by decide) c654
          refine lv_aload_n hx hb dX3_readClause_69 rfl (lv_at hl 4 rfl) ?_
          refine lv_iconst (v := 0) hx hb dX3_readClause_70 (by decide) ?_
          have zi0 : (0 : Int32).toInt = 0 := by decide
          refine cga (rn_V (As := [.int 0]) (rest := []) (b := p0) (x_X3_setFault l D Y Z H.size ws T g q p0 0 hT ht0) ⟨hx, hb, hml, hown, hg⟩ lk_X3_78 ⟨CPC.blind, va_recv hKN.1 hP (ci := 3) (q0 := p637) rfl hk638, CPC.at hP hKN hD hSZ hS hA⟩ ⟨⟨rfl, rfl⟩, ⟨Nat.le_of_ble_eq_true rfl, Nat.le_of_ble_eq_true rfl⟩, ⟨(Nat.le_of_ble_eq_true rfl), (Nat.le_of_ble_eq_true rfl)⟩⟩ hl.1 rfl (Nat.le_of_ble_eq_true rfl) dX3_readClause_71) hP hD hS hA (fun u1067 H locs hw1068 hP hD hS => ?_)
          obtain ⟨hT, ke1070, ke1071⟩ : TW Y Z T g q u1067 ∧ KF 1 T ws u1067 ∧ KF 6 T ws u1067 := hw1068
          have ke1072 : KF 1 T ws u1067 := KF.tr KF.rf ke1070
          have ke1073 : KF 6 T ws u1067 := KF.tr KF.rf ke1071
          refine W.eq (g2 := F0 m 74 ls []) rfl ?_
          refine W.widen (k := 0) (n := 0) (Nat.le_of_ble_eq_true rfl) (Nat.le_of_ble_eq_true rfl) ?_
          exact W.vret hx hb hr (fun t ht hW => ⟨⟨u1067, rfl, ⟨hT, ke1072, ke1073⟩, CB.mk ht hP hD⟩, hS.F ht⟩) hS.2.2 dX3_readClause_74
      · skip
        refine lv_icmp_eq (tgt := 56) hx hb dX3_readClause_48 (by decide) (fun c1074 => ?_) (fun c1074 => ?_)
        · have c1074 := i_eq (Eq.refl p1.toInt) (show (1 : Int32).toInt = 1 by decide) c1074; exfalso; omega
        have c1074 := i_ne (Eq.refl p1.toInt) (show (1 : Int32).toInt = 1 by decide) c1074
        refine lv_iload hx hb dX3_readClause_51 (lv_at hl 0 rfl) ?_
        refine lv_if_eq (tgt := 60) hx hb dX3_readClause_53 (by decide) (fun c1075 => ?_) (fun c1075 => ?_)
        · skip
          have c1075 := i_eq (Eq.refl v645.toInt) (show (0 : Int32).toInt = 0 by decide) c1075
          refine lv_iconst (v := 0) hx hb dX3_readClause_60 (by decide) ?_
          have zi0 : (0 : Int32).toInt = 0 := by decide
          refine W.widen (k := 0) (n := 0) (Nat.le_of_ble_eq_true rfl) (Nat.le_of_ble_eq_true rfl) ?_
          exact jn651 (0) H locs ls ⟨hP, hD, hS, lv_sub hl [0, 1, 2, 3, 4, 5] rfl, hT, by omega⟩
        · skip
          have c1075 := i_ne (Eq.refl v645.toInt) (show (0 : Int32).toInt = 0 by decide) c1075
          refine lv_iconst (v := 1) hx hb dX3_readClause_56 (by decide) ?_
          refine lv_goto (tgt := 61) hx hb dX3_readClause_57 (by decide) ?_
          have zi1 : (1 : Int32).toInt = 1 := by decide
          refine W.widen (k := 0) (n := 0) (Nat.le_of_ble_eq_true rfl) (Nat.le_of_ble_eq_true rfl) ?_
          exact jn651 (1) H locs ls ⟨hP, hD, hS, lv_sub hl [0, 1, 2, 3, 4, 5] rfl, hT, by omega⟩
    · skip
      refine lv_if_ne (tgt := 43) hx hb dX3_readClause_30 (by decide) (fun c1076 => ?_) (fun c1076 => ?_)
      · have c1076 := i_ne (Eq.refl p1.toInt) (show (0 : Int32).toInt = 0 by decide) c1076; exfalso; omega
      have c1076 := i_eq (Eq.refl p1.toInt) (show (0 : Int32).toInt = 0 by decide) c1076
      refine lv_iload hx hb dX3_readClause_33 (lv_at hl 0 rfl) ?_
      refine lv_iconst (v := 1) hx hb dX3_readClause_35 (by decide) ?_
      have j1077 := rgI u639
      refine lv_icmp_ne (tgt := 43) hx hb dX3_readClause_36 (by decide) (fun c1078 => ?_) (fun c1078 => ?_)
      · skip
        have c1078 := i_ne (Eq.refl u639.toInt) (show (1 : Int32).toInt = 1 by decide) c1078
        refine lv_iconst (v := 0) hx hb dX3_readClause_43 (by decide) ?_
        have zi0 : (0 : Int32).toInt = 0 := by decide
        refine W.widen (k := 0) (n := 0) (Nat.le_of_ble_eq_true rfl) (Nat.le_of_ble_eq_true rfl) ?_
        exact jn646 (0) H locs ls ⟨hP, hD, hS, lv_sub hl [0, 1, 2, 3, 4] rfl, hT, by omega⟩
      · skip
        have c1078 := i_eq (Eq.refl u639.toInt) (show (1 : Int32).toInt = 1 by decide) c1078
        refine lv_iconst (v := 1) hx hb dX3_readClause_39 (by decide) ?_
        refine lv_goto (tgt := 44) hx hb dX3_readClause_40 (by decide) ?_
        have zi1 : (1 : Int32).toInt = 1 := by decide
        refine W.widen (k := 0) (n := 0) (Nat.le_of_ble_eq_true rfl) (Nat.le_of_ble_eq_true rfl) ?_
        exact jn646 (1) H locs ls ⟨hP, hD, hS, lv_sub hl [0, 1, 2, 3, 4] rfl, hT, by omega⟩
