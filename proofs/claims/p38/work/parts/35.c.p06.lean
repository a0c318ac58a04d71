set_option maxHeartbeats 4000000 in
set_option maxRecDepth 100000 in
theorem x_X3_readFact_2 (l : Launch) (D : va_G) (Y : Nat → ClassId) (Z : Nat → Nat) (sz : Nat) (ws : va_W) (T : RT) (g : GN) (q : GQ)  (p0 : Nat) (hT : TW Y Z T g q ws) (ht0 : T p0 = (7, 0, 0)) : Met l yX3_readFact (.code yX3_readFact cX3_readFact 4 none :: GW) ({ frames := 23, cells := 0, slots := 0, locals := 532 }) (va_Pc [.ref p0, .int 2] (CPC D Y Z ws sz)) (QG (S := va_W) (fun _ => none) (fun u => TW Y Z T g q u ∧ KF 1 T ws u ∧ KF 6 T ws u) (fun u => CB D u (va_A ws sz)) (va_A ws sz)) 0 0 (va_A ws sz) := by
  refine Met.ofW (cc := cX3_readFact) (maxL := 4) (ret := none) (by decide) rfl ?_
  intro p e s m args below meth c s₁ B hml hv
  obtain ⟨rfl, ⟨hsz, hP, hKN, hD0⟩, hSZ⟩ := hv
  have hx := B.exec
  have hb := B.bytes
  have hr := B.returns
  have hts := atoms_spec (ws := .code yX3_readFact cX3_readFact 4 none :: GW) B.pre
  have hg : ∀ w ∈ GW, w.before _ s = true := fun w h => hts w (List.mem_cons_of_mem _ h)
  have hown : s.vm.findClass RX3 = some m.cls := findClass_of_methodNamed B.named
  have hlocks := B.notSynchronized
  subst hsz
  have hD := hD0.self (sz := s.heap.size)
  generalize hAe : va_A ws s.heap.size = A at hD hSZ ⊢
  have hA : ∀ q : Nat, s.heap.size ≤ q → A q := fun q h => by rw [← hAe]; exact Or.inr h
  clear hAe hD0 hts B
  have hl := lv_entry ([.ref p0, .int 2]) (n := 4) (Nat.le_of_ble_eq_true rfl)
  rw [lg_entry_eq]
  generalize (lg_sl ([.ref p0, .int 2]) ++ List.replicate (4 - (lg_sl ([.ref p0, .int 2])).length) Slot.unset).toArray = ls at hl ⊢
  have hl : lv_has ls 4 [(0, .ref p0), (1, .int 2)] := hl
  refine w_start (A0 := A) hP (fun H locs hP hS => ?_)
  refine lv_aload_n hx hb dX3_readFact_0 rfl (lv_at hl 0 rfl) ?_
  refine va_ldcS (q := Z 8) hx hb hown (hKN.2.2.2 8 (RX3, 158, "not") rfl) dX3_readFact_1 ?_
  refine ok7 hT ht0 (fun p21 n1 a2 x3 x4 x5 x6 x7 x8 x9 x10 a11 a12 x13 hk22 h14 h15 h16 h17 h18 h19 h20 => ?_)
  refine cga (rn_V (As := [.ref (Z 8)]) (rest := []) (b := p0) (x_X3_whichOf l D Y Z H.size ws T g q 8 p0 hT ht0 (by decide)) ⟨hx, hb, hml, hown, hg⟩ lk_X3_99 ⟨CPC.blind, va_recv hKN.1 hP (ci := 3) (q0 := p21) rfl hk22, CPC.at hP hKN hD hSZ hS hA⟩ ⟨⟨rfl, rfl⟩, ⟨Nat.le_of_ble_eq_true rfl, Nat.le_of_ble_eq_true rfl⟩, ⟨(Nat.le_of_ble_eq_true rfl), (Nat.le_of_ble_eq_true rfl)⟩⟩ hl.1 rfl (Nat.le_of_ble_eq_true rfl) dX3_readFact_3) hP hD hS hA (fun u23 H locs hw24 hP hD hS => ?_)
  refine W.eq (g2 := F0 m 6 ls [.int u23]) rfl ?_
  have j26 := rgI u23
  refine lv_if_ne (tgt := 13) hx hb dX3_readFact_6 (by decide) (fun c27 => ?_) (fun c27 => ?_)
  · skip
    have c27 := i_ne (Eq.refl u23.toInt) (show (0 : Int32).toInt = 0 by decide) c27
    refine lv_iconst (v := 0) hx hb dX3_readFact_13 (by decide) ?_
    refine lv_istore_n (lv' := [(2, .int 0), (0, .ref p0), (1, .int 2)]) hx hb dX3_readFact_14 rfl hl (by decide) rfl (fun ls hl => ?_)
    refine lv_iload_n hx hb dX3_readFact_15 rfl (lv_at hl 0 rfl) ?_
    refine lv_if_ne (tgt := 28) hx hb dX3_readFact_16 (by decide) (fun c28 => ?_) (fun c28 => ?_)
    · exact absurd c28 (by decide)
    refine lv_aload_n hx hb dX3_readFact_19 rfl (lv_at hl 1 rfl) ?_
    refine va_get (D := D) (ci := 3) (v := .int x5) (C := RX3) (T := TX3) (N := 12) hx hb hg inGX3 hown hKN.1 hP p21 hk22 rfl 3 (by decide) (hg _ kw_181) (fun _ h9 => h9) rfl dX3_readFact_20 ?_
    refine lv_bipush (v := 91) hx hb dX3_readFact_23 (by decide) ?_
    have j29 := rgI x5
    refine lv_icmp_ne (tgt := 42) hx hb dX3_readFact_25 (by decide) (fun c30 => ?_) (fun c30 => ?_)
    · skip
      have c30 := i_ne (Eq.refl x5.toInt) (show (91 : Int32).toInt = 91 by decide) c30
      refine lv_iload_n hx hb dX3_readFact_42 rfl (lv_at hl 0 rfl) ?_
      refine lv_if_eq (tgt := 69) hx hb dX3_readFact_43 (by decide) (fun c31 => ?_) (fun c31 => ?_)
      rotate_left
      · exact absurd c31 (by decide)
      refine lv_aload_n hx hb dX3_readFact_69 rfl (lv_at hl 1 rfl) ?_
      refine va_get (D := D) (ci := 3) (v := .int x5) (C := RX3) (T := TX3) (N := 12) hx hb hg inGX3 hown hKN.1 hP p21 hk22 rfl 3 (by decide) (hg _ kw_181) (fun _ h9 => h9) rfl dX3_readFact_70 ?_
      refine lv_bipush (v := 91) hx hb dX3_readFact_73 (by decide) ?_
      refine lv_icmp_ne (tgt := 98) hx hb dX3_readFact_75 (by decide) (fun c32 => ?_) (fun c32 => ?_)
      · skip
        have c32 := i_ne (Eq.refl x5.toInt) (show (91 : Int32).toInt = 91 by decide) c32
        refine lv_aload_n hx hb dX3_readFact_98 rfl (lv_at hl 1 rfl) ?_
        refine cga (rn_V (As := []) (rest := []) (b := p0) (x_X3_readSum l D Y Z H.size ws T g q p0 hT ht0) ⟨hx, hb, hml, hown, hg⟩ lk_X3_115 ⟨CPC.blind, va_recv hKN.1 hP (ci := 3) (q0 := p21) rfl hk22, CPC.at hP hKN hD hSZ hS hA⟩ ⟨⟨rfl, rfl⟩, ⟨Nat.le_of_ble_eq_true rfl, Nat.le_of_ble_eq_true rfl⟩, ⟨(Nat.le_of_ble_eq_true rfl), (Nat.le_of_ble_eq_true rfl)⟩⟩ hl.1 rfl (Nat.le_of_ble_eq_true rfl) dX3_readFact_99) hP hD hS hA (fun u33 H locs hw34 hP hD hS => ?_)
        obtain ⟨hT, ke36, ke37⟩ : TW Y Z T g q u33 ∧ KF 1 T ws u33 ∧ KF 6 T ws u33 := hw34
        have ke38 : KF 1 T ws u33 := KF.tr KF.rf ke36
        have ke39 : KF 6 T ws u33 := KF.tr KF.rf ke37
        refine W.eq (g2 := F0 m 102 ls []) rfl ?_
        refine lv_aload_n hx hb dX3_readFact_102 rfl (lv_at hl 1 rfl) ?_
        refine ok7 hT ht0 (fun p60 n40 a41 x42 x43 x44 x45 x46 x47 x48 x49 a50 a51 x52 hk61 h53 h54 h55 h56 h57 h58 h59 => ?_)
        refine va_get (D := D) (ci := 3) (v := .int x44) (C := RX3) (T := TX3) (N := 12) hx hb hg inGX3 hown hKN.1 hP p60 hk61 rfl 3 (by decide) (hg _ kw_181) (fun _ h9 => h9) rfl dX3_readFact_103 ?_
        refine lv_istore_n (lv' := [(3, .int x44), (2, .int 0), (0, .ref p0), (1, .int 2)]) hx hb dX3_readFact_106 rfl hl (by decide) rfl (fun ls hl => ?_)
        refine lv_aload_n hx hb dX3_readFact_107 rfl (lv_at hl 2 rfl) ?_
        refine cga (rn_V (As := []) (rest := []) (b := p0) (x_X3_readSign l D Y Z H.size u33 T g q p0 hT ht0) ⟨hx, hb, hml, hown, hg⟩ lk_X3_161 ⟨CPC.blind, va_recv hKN.1 hP (ci := 3) (q0 := p60) rfl hk61, CPC.at hP hKN hD hSZ hS hA⟩ ⟨⟨rfl, rfl⟩, ⟨Nat.le_of_ble_eq_true rfl, Nat.le_of_ble_eq_true rfl⟩, ⟨(Nat.le_of_ble_eq_true rfl), (Nat.le_of_ble_eq_true rfl)⟩⟩ hl.1 rfl (Nat.le_of_ble_eq_true rfl) dX3_readFact_108) hP hD hS hA (fun u62 H locs hw63 hP hD hS => ?_)
        obtain ⟨hT, ke65, ke66⟩ : TW Y Z T g q u62 ∧ KF 1 T u33 u62 ∧ KF 6 T u33 u62 := hw63
        have ke67 : KF 1 T ws u62 := KF.tr ke38 ke65
        have ke68 : KF 6 T ws u62 := KF.tr ke39 ke66
        refine W.eq (g2 := F0 m 111 ls []) rfl ?_
        refine lv_aload_n hx hb dX3_readFact_111 rfl (lv_at hl 2 rfl) ?_
        refine ok7 hT ht0 (fun p89 n69 a70 x71 x72 x73 x74 x75 x76 x77 x78 a79 a80 x81 hk90 h82 h83 h84 h85 h86 h87 h88 => ?_)
        refine va_get (D := D) (ci := 3) (v := .int x76) (C := RX3) (T := TX3) (N := 12) hx hb hg inGX3 hown hKN.1 hP p89 hk90 rfl 6 (by decide) (hg _ kw_184) (fun _ h9 => h9) rfl dX3_readFact_112 ?_
        have j91 := rgI x76
        refine lv_if_ne (tgt := 133) hx hb dX3_readFact_115 (by decide) (fun c92 => ?_) (fun c92 => ?_)
        · skip
          have c92 := i_ne (Eq.refl x76.toInt) (show (0 : Int32).toInt = 0 by decide) c92
          refine W.widen (k := 0) (n := 0) (Nat.le_of_ble_eq_true rfl) (Nat.le_of_ble_eq_true rfl) ?_
          have zi0 : (0 : Int32).toInt = 0 := by decide
          have zi2 : (2 : Int32).toInt = 2 := by decide
          exact W.vret hx hb hr (fun t ht hW => ⟨⟨u62, rfl, ⟨hT, ke67, ke68⟩, CB.mk ht hP hD⟩, hS.F ht⟩) hS.2.2 dX3_readFact_133
        · skip
          have c92 := i_eq (Eq.refl x76.toInt) (show (0 : Int32).toInt = 0 by decide) c92
          refine lv_aload_n hx hb dX3_readFact_118 rfl (lv_at hl 2 rfl) ?_
          refine cga (rn_V (As := []) (rest := []) (b := p0) (x_X3_readSum l D Y Z H.size u62 T g q p0 hT ht0) ⟨hx, hb, hml, hown, hg⟩ lk_X3_115 ⟨CPC.blind, va_recv hKN.1 hP (ci := 3) (q0 := p89) rfl hk90, CPC.at hP hKN hD hSZ hS hA⟩ ⟨⟨rfl, rfl⟩, ⟨Nat.le_of_ble_eq_true rfl, Nat.le_of_ble_eq_true rfl⟩, ⟨(Nat.le_of_ble_eq_true rfl), (Nat.le_of_ble_eq_true rfl)⟩⟩ hl.1 rfl (Nat.le_of_ble_eq_true rfl) dX3_readFact_119) hP hD hS hA (fun u93 H locs hw94 hP hD hS => ?_)
          obtain ⟨hT, ke96, ke97⟩ : TW Y Z T g q u93 ∧ KF 1 T u62 u93 ∧ KF 6 T u62 u93 := hw94
          have ke98 : KF 1 T ws u93 := KF.tr ke67 ke96
          have ke99 : KF 6 T ws u93 := KF.tr ke68 ke97
          refine W.eq (g2 := F0 m 122 ls []) rfl ?_
          refine lv_aload_n hx hb dX3_readFact_122 rfl (lv_at hl 2 rfl) ?_
          refine ok7 hT ht0 (fun p120 n100 a101 x102 x103 x104 x105 x106 x107 x108 x109 a110 a111 x112 hk121 h113 h114 h115 h116 h117 h118 h119 => ?_)
          refine va_get (D := D) (ci := 3) (v := .ref a111) (C := RX3) (T := TX3) (N := 12) hx hb hg inGX3 hown hKN.1 hP p120 hk121 rfl 10 (by decide) (hg _ kw_188) (fun _ h9 => h9) rfl dX3_readFact_123 ?_
          refine lv_ldc (v := 200000) hx hb hown (hg _ kw_717) dX3_readFact_126 ?_
          refine lv_iload_n hx hb dX3_readFact_128 rfl (lv_at hl 0 rfl) ?_
          refine lv_iadd hx hb dX3_readFact_129 ?_
          refine lv_topi (fun v122 ev122 => ?_)
          refine ok5 hT h117 (fun p144 x123 x124 x125 x126 x127 x128 x129 x130 a131 a132 a133 a134 a135 x136 hk145 h137 h138 h139 h140 h141 h142 h143 => ?_)
          refine cga (rn_NV (As := [.int v122]) (rest := []) (b := a111) (x_X8_addCode l D Y Z H.size u93 T g q a111 v122 hT h117) ⟨hx, hb, hml, hown, hg⟩ hKN lk_X3_154 ⟨CPC.blind, va_recv hKN.1 hP (ci := 8) (q0 := p144) rfl hk145, CPC.at hP hKN hD hSZ hS hA⟩ ⟨⟨rfl, rfl⟩, ⟨Nat.le_of_ble_eq_true rfl, Nat.le_of_ble_eq_true rfl⟩, ⟨(Nat.le_of_ble_eq_true rfl), (Nat.le_of_ble_eq_true rfl)⟩⟩ hl.1 rfl (Nat.le_of_ble_eq_true rfl) dX3_readFact_130) hP hD hS hA (fun u146 H locs hw147 hP hD hS => ?_)
          obtain ⟨hT, ke149, ke150⟩ : TW Y Z T g q u146 ∧ KF 1 T u93 u146 ∧ KF 6 T u93 u146 := hw147
          have ke151 : KF 1 T ws u146 := KF.tr ke98 ke149
          have ke152 : KF 6 T ws u146 := KF.tr ke99 ke150
          refine W.eq (g2 := F0 m 133 ls []) rfl ?_
          refine W.widen (k := 0) (n := 0) (Nat.le_of_ble_eq_true rfl) (Nat.le_of_ble_eq_true rfl) ?_
          have zi0 : (0 : Int32).toInt = 0 := by decide
          have zi2 : (2 : Int32).toInt = 2 := by decide
          exact W.vret hx hb hr (fun t ht hW => ⟨⟨u146, rfl, ⟨hT, ke151, ke152⟩, CB.mk ht hP hD⟩, hS.F ht⟩) hS.2.2 dX3_readFact_133
      · skip
        have c32 := i_eq (Eq.refl x5.toInt) (show (91 : Int32).toInt = 91 by decide) c32
        refine lv_aload_n hx hb dX3_readFact_78 rfl (lv_at hl 1 rfl) ?_
        refine cga (rn_V (As := []) (rest := []) (b := p0) (x_X3_step l D Y Z H.size ws T g q p0 hT ht0) ⟨hx, hb, hml, hown, hg⟩ lk_X3_61 ⟨CPC.blind, va_recv hKN.1 hP (ci := 3) (q0 := p21) rfl hk22, CPC.at hP hKN hD hSZ hS hA⟩ ⟨⟨rfl, rfl⟩, ⟨Nat.le_of_ble_eq_true rfl, Nat.le_of_ble_eq_true rfl⟩, ⟨(Nat.le_of_ble_eq_true rfl), (Nat.le_of_ble_eq_true rfl)⟩⟩ hl.1 rfl (Nat.le_of_ble_eq_true rfl) dX3_readFact_79) hP hD hS hA (fun u153 H locs hw154 hP hD hS => ?_)
        obtain ⟨hT, ke156, ke157⟩ : TW Y Z T g q u153 ∧ KF 1 T ws u153 ∧ KF 6 T ws u153 := hw154
        have ke158 : KF 1 T ws u153 := KF.tr KF.rf ke156
        have ke159 : KF 6 T ws u153 := KF.tr KF.rf ke157
        refine W.eq (g2 := F0 m 82 ls []) rfl ?_
        refine lv_aload_n hx hb dX3_readFact_82 rfl (lv_at hl 1 rfl) ?_
        refine lv_iload_n hx hb dX3_readFact_83 rfl (lv_at hl 2 rfl) ?_
        refine lv_iconst (v := 1) hx hb dX3_readFact_84 (by decide) ?_
        refine lv_iadd hx hb dX3_readFact_85 ?_
        refine lv_topi (fun z160 ez160 => ?_)
        obtain rfl : z160 = 3 := ez160.trans (by decide)
        have zi3 : (3 : Int32).toInt = 3 := by decide
        refine ok7 hT ht0 (fun p181 n161 a162 x163 x164 x165 x166 x167 x168 x169 x170 a171 a172 x173 hk182 h174 h175 h176 h177 h178 h179 h180 => ?_)
        refine cga (rn_V (As := [.int 3]) (rest := []) (b := p0) (x_X3_readTest_3 l D Y Z H.size u153 T g q p0 hT ht0) ⟨hx, hb, hml, hown, hg⟩ lk_X3_123 ⟨CPC.blind, va_recv hKN.1 hP (ci := 3) (q0 := p181) rfl hk182, CPC.at hP hKN hD hSZ hS hA⟩ ⟨⟨rfl, rfl⟩, ⟨Nat.le_of_ble_eq_true rfl, Nat.le_of_ble_eq_true rfl⟩, ⟨(Nat.le_of_ble_eq_true rfl), (Nat.le_of_ble_eq_true rfl)⟩⟩ hl.1 rfl (Nat.le_of_ble_eq_true rfl) dX3_readFact_86) hP hD hS hA (fun u183 H locs hw184 hP hD hS => ?_)
        obtain ⟨hT, ke186, ke187⟩ : TW Y Z T g q u183 ∧ KF 1 T u153 u183 ∧ KF 6 T u153 u183 := hw184
        have ke188 : KF 1 T ws u183 := KF.tr ke158 ke186
        have ke189 : KF 6 T ws u183 := KF.tr ke159 ke187
        refine W.eq (g2 := F0 m 89 ls []) rfl ?_
        refine lv_aload_n hx hb dX3_readFact_89 rfl (lv_at hl 1 rfl) ?_
        refine lv_bipush (v := 93) hx hb dX3_readFact_90 (by decide) ?_
        have zi93 : (93 : Int32).toInt = 93 := by decide
        refine ok7 hT ht0 (fun p210 n190 a191 x192 x193 x194 x195 x196 x197 x198 x199 a200 a201 x202 hk211 h203 h204 h205 h206 h207 h208 h209 => ?_)
        refine cga (rn_V (As := [.int 93]) (rest := []) (b := p0) (x_X3_expect l D Y Z H.size u183 T g q p0 93 hT ht0) ⟨hx, hb, hml, hown, hg⟩ lk_X3_71 ⟨CPC.blind, va_recv hKN.1 hP (ci := 3) (q0 := p210) rfl hk211, CPC.at hP hKN hD hSZ hS hA⟩ ⟨⟨rfl, rfl⟩, ⟨Nat.le_of_ble_eq_true rfl, Nat.le_of_ble_eq_true rfl⟩, ⟨(Nat.le_of_ble_eq_true rfl), (Nat.le_of_ble_eq_true rfl)⟩⟩ hl.1 rfl (Nat.le_of_ble_eq_true rfl) dX3_readFact_92) hP hD hS hA (fun u212 H locs hw213 hP hD hS => ?_)
        obtain ⟨hT, ke215, ke216⟩ : TW Y Z T g q u212 ∧ KF 1 T u183 u212 ∧ KF 6 T u183 u212 := hw213
        have ke217 : KF 1 T ws u212 := KF.tr ke188 ke215
        have ke218 : KF 6 T ws u212 := KF.tr ke189 ke216
        refine W.eq (g2 := F0 m 95 ls []) rfl ?_
        refine lv_goto (tgt := 133) hx hb dX3_readFact_95 (by decide) ?_
        refine W.widen (k := 0) (n := 0) (Nat.le_of_ble_eq_true rfl) (Nat.le_of_ble_eq_true rfl) ?_
        have zi0 : (0 : Int32).toInt = 0 := by decide
        have zi2 : (2 : Int32).toInt = 2 := by decide
        exact W.vret hx hb hr (fun t ht hW => ⟨⟨u212, rfl, ⟨hT, ke217, ke218⟩, CB.mk ht hP hD⟩, hS.F ht⟩) hS.2.2 dX3_readFact_133
    · skip
      have c30 := i_eq (Eq.refl x5.toInt) (show (91 : Int32).toInt = 91 by decide) c30
      refine lv_iload_n hx hb dX3_readFact_28 rfl (lv_at hl 2 rfl) ?_
      refine lv_bipush (v := 10) hx hb dX3_readFact_29 (by decide) ?_
      refine lv_icmp_lt (tgt := 42) hx hb dX3_readFact_31 (by decide) (fun c219 => ?_) (fun c219 => ?_)
      rotate_left
      · exact absurd c219 (by decide)
      refine lv_iload_n hx hb dX3_readFact_42 rfl (lv_at hl 0 rfl) ?_
      refine lv_if_eq (tgt := 69) hx hb dX3_readFact_43 (by decide) (fun c220 => ?_) (fun c220 => ?_)
      rotate_left
      · exact absurd c220 (by decide)
      refine lv_aload_n hx hb dX3_readFact_69 rfl (lv_at hl 1 rfl) ?_
      refine va_get (D := D) (ci := 3) (v := .int x5) (C := RX3) (T := TX3) (N := 12) hx hb hg inGX3 hown hKN.1 hP p21 hk22 rfl 3 (by decide) (hg _ kw_181) (fun _ h9 => h9) rfl dX3_readFact_70 ?_
      refine lv_bipush (v := 91) hx hb dX3_readFact_73 (by decide) ?_
      refine lv_icmp_ne (tgt := 98) hx hb dX3_readFact_75 (by decide) (fun c221 => ?_) (fun c221 => ?_)
      · have c221 := i_ne (Eq.refl x5.toInt) (show (91 : Int32).toInt = 91 by decide) c221; exfalso; omega
      have c221 := i_eq (Eq.refl x5.toInt) (show (91 : Int32).toInt = 91 by decide) c221
      refine lv_aload_n hx hb dX3_readFact_78 rfl (lv_at hl 1 rfl) ?_
      refine cga (rn_V (As := []) (rest := []) (b := p0) (x_X3_step l D Y Z H.size ws T g q p0 hT ht0) ⟨hx, hb, hml, hown, hg⟩ lk_X3_61 ⟨CPC.blind, va_recv hKN.1 hP (ci := 3) (q0 := p21) rfl hk22, CPC.at hP hKN hD hSZ hS hA⟩ ⟨⟨rfl, rfl⟩, ⟨Nat.le_of_ble_eq_true rfl, Nat.le_of_ble_eq_true rfl⟩, ⟨(Nat.le_of_ble_eq_true rfl), (Nat.le_of_ble_eq_true rfl)⟩⟩ hl.1 rfl (Nat.le_of_ble_eq_true rfl) dX3_readFact_79) hP hD hS hA (fun u222 H locs hw223 hP hD hS => ?_)
      obtain ⟨hT, ke225, ke226⟩ : TW Y Z T g q u222 ∧ KF 1 T ws u222 ∧ KF 6 T ws u222 := hw223
      have ke227 : KF 1 T ws u222 := KF.tr KF.rf ke225
      have ke228 : KF 6 T ws u222 := KF.tr KF.rf ke226
      refine W.eq (g2 := F0 m 82 ls []) rfl ?_
      refine lv_aload_n hx hb dX3_readFact_82 rfl (lv_at hl 1 rfl) ?_
      refine lv_iload_n hx hb dX3_readFact_83 rfl (lv_at hl 2 rfl) ?_
      refine lv_iconst (v := 1) hx hb dX3_readFact_84 (by decide) ?_
      refine lv_iadd hx hb dX3_readFact_85 ?_
      refine lv_topi (fun z229 ez229 => ?_)
      obtain rfl : z229 = 3 := ez229.trans (by decide)
      have zi3 : (3 : Int32).toInt = 3 := by decide
      refine ok7 hT ht0 (fun p250 n230 a231 x232 x233 x234 x235 x236 x237 x238 x239 a240 a241 x242 hk251 h243 h244 h245 h246 h247 h248 h249 => ?_)
      refine cga (rn_V (As := [.int 3]) (rest := []) (b := p0) (x_X3_readTest_3 l D Y Z H.size u222 T g q p0 hT ht0) ⟨hx, hb, hml, hown, hg⟩ lk_X3_123 ⟨CPC.blind, va_recv hKN.1 hP (ci := 3) (q0 := p250) rfl hk251, CPC.at hP hKN hD hSZ hS hA⟩ ⟨⟨rfl, rfl⟩, ⟨Nat.le_of_ble_eq_true rfl, Nat.le_of_ble_eq_true rfl⟩, ⟨(Nat.le_of_ble_eq_true rfl), (Nat.le_of_ble_eq_true rfl)⟩⟩ hl.1 rfl (Nat.le_of_ble_eq_true rfl) dX3_readFact_86) hP hD hS hA (fun u252 H locs hw253 hP hD hS => ?_)
      obtain ⟨hT, ke255, ke256⟩ : TW Y Z T g q u252 ∧ KF 1 T u222 u252 ∧ KF 6 T u222 u252 := hw253
      have ke257 : KF 1 T ws u252 := KF.tr ke227 ke255
      have ke258 : KF 6 T ws u252 := KF.tr ke228 ke256
      refine W.eq (g2 := F0 m 89 ls []) rfl ?_
      refine lv_aload_n hx hb dX3_readFact_89 rfl (lv_at hl 1 rfl) ?_
      refine lv_bipush (v := 93) hx hb dX3_readFact_90 (by decide) ?_
      have zi93 : (93 : Int32).toInt = 93 := by decide
      refine ok7 hT ht0 (fun p279 n259 a260 x261 x262 x263 x264 x265 x266 x267 x268 a269 a270 x271 hk280 h272 h273 h274 h275 h276 h277 h278 => ?_)
      refine cga (rn_V (As := [.int 93]) (rest := []) (b := p0) (x_X3_expect l D Y Z H.size u252 T g q p0 93 hT ht0) ⟨hx, hb, hml, hown, hg⟩ lk_X3_71 ⟨CPC.blind, va_recv hKN.1 hP (ci := 3) (q0 := p279) rfl hk280, CPC.at hP hKN hD hSZ hS hA⟩ ⟨⟨rfl, rfl⟩, ⟨Nat.le_of_ble_eq_true rfl, Nat.le_of_ble_eq_true rfl⟩, ⟨(Nat.le_of_ble_eq_true rfl), (Nat.le_of_ble_eq_true rfl)⟩⟩ hl.1 rfl (Nat.le_of_ble_eq_true rfl) dX3_readFact_92) hP hD hS hA (fun u281 H locs hw282 hP hD hS => ?_)
      obtain ⟨hT, ke284, ke285⟩ : TW Y Z T g q u281 ∧ KF 1 T u252 u281 ∧ KF 6 T u252 u281 := hw282
      have ke286 : KF 1 T ws u281 := KF.tr ke257 ke284
      have ke287 : KF 6 T ws u281 := KF.tr ke258 ke285
      refine W.eq (g2 := F0 m 95 ls []) rfl ?_
      refine lv_goto (tgt := 133) hx hb dX3_readFact_95 (by decide) ?_
      refine W.widen (k := 0) (n := 0) (Nat.le_of_ble_eq_true rfl) (Nat.le_of_ble_eq_true rfl) ?_
      have zi0 : (0 : Int32).toInt = 0 := by decide
      have zi2 : (2 : Int32).toInt = 2 := by decide
      exact W.vret hx hb hr (fun t ht hW => ⟨⟨u281, rfl, ⟨hT, ke286, ke287⟩, CB.mk ht hP hD⟩, hS.F ht⟩) hS.2.2 dX3_readFact_133
  · skip
    have c27 := i_eq (Eq.refl u23.toInt) (show (0 : Int32).toInt = 0 by decide) c27
    refine lv_iconst (v := 1) hx hb dX3_readFact_9 (by decide) ?_
    refine lv_goto (tgt := 14) hx hb dX3_readFact_10 (by decide) ?_
    refine lv_istore_n (lv' := [(2, .int 1), (0, .ref p0), (1, .int 2)]) hx hb dX3_readFact_14 rfl hl (by decide) rfl (fun ls hl => ?_)
    refine lv_iload_n hx hb dX3_readFact_15 rfl (lv_at hl 0 rfl) ?_
    refine lv_if_ne (tgt := 28) hx hb dX3_readFact_16 (by decide) (fun c288 => ?_) (fun c288 => ?_)
    rotate_left
    · exact absurd c288 (by decide)
    refine lv_iload_n hx hb dX3_readFact_28 rfl (lv_at hl 2 rfl) ?_
    refine lv_bipush (v := 10) hx hb dX3_readFact_29 (by decide) ?_
    refine lv_icmp_lt (tgt := 42) hx hb dX3_readFact_31 (by decide) (fun c289 => ?_) (fun c289 => ?_)
    rotate_left
    · exact absurd c289 (by decide)
    refine lv_iload_n hx hb dX3_readFact_42 rfl (lv_at hl 0 rfl) ?_
    refine lv_if_eq (tgt := 69) hx hb dX3_readFact_43 (by decide) (fun c290 => ?_) (fun c290 => ?_)
    · exact absurd c290 (by decide)
    refine lv_aload_n hx hb dX3_readFact_46 rfl (lv_at hl 1 rfl) ?_
    refine cga (rn_V (As := []) (rest := []) (b := p0) (x_X3_step l D Y Z H.size ws T g q p0 hT ht0) ⟨hx, hb, hml, hown, hg⟩ lk_X3_61 ⟨CPC.blind, va_recv hKN.1 hP (ci := 3) (q0 := p21) rfl hk22, CPC.at hP hKN hD hSZ hS hA⟩ ⟨⟨rfl, rfl⟩, ⟨Nat.le_of_ble_eq_true rfl, Nat.le_of_ble_eq_true rfl⟩, ⟨(Nat.le_of_ble_eq_true rfl), (Nat.le_of_ble_eq_true rfl)⟩⟩ hl.1 rfl (Nat.le_of_ble_eq_true rfl) dX3_readFact_47) hP hD hS hA (fun u291 H locs hw292 hP hD hS => ?_)
    obtain ⟨hT, ke294, ke295⟩ : TW Y Z T g q u291 ∧ KF 1 T ws u291 ∧ KF 6 T ws u291 := hw292
    have ke296 : KF 1 T ws u291 := KF.tr KF.rf ke294
    have ke297 : KF 6 T ws u291 := KF.tr KF.rf ke295
    refine W.eq (g2 := F0 m 50 ls []) rfl ?_
    refine lv_aload_n hx hb dX3_readFact_50 rfl (lv_at hl 1 rfl) ?_
    refine lv_iload_n hx hb dX3_readFact_51 rfl (lv_at hl 2 rfl) ?_
    refine lv_iconst (v := 1) hx hb dX3_readFact_52 (by decide) ?_
    refine lv_iadd hx hb dX3_readFact_53 ?_
    refine lv_topi (fun z298 ez298 => ?_)
    obtain rfl : z298 = 3 := ez298.trans (by decide)
    have zi3 : (3 : Int32).toInt = 3 := by decide
    refine ok7 hT ht0 (fun p319 n299 a300 x301 x302 x303 x304 x305 x306 x307 x308 a309 a310 x311 hk320 h312 h313 h314 h315 h316 h317 h318 => ?_)
    refine cga (rn_V (As := [.int 3]) (rest := []) (b := p0) (x_X3_readFact_3 l D Y Z H.size u291 T g q p0 hT ht0) ⟨hx, hb, hml, hown, hg⟩ lk_X3_148 ⟨CPC.blind, va_recv hKN.1 hP (ci := 3) (q0 := p319) rfl hk320, CPC.at hP hKN hD hSZ hS hA⟩ ⟨⟨rfl, rfl⟩, ⟨Nat.le_of_ble_eq_true rfl, Nat.le_of_ble_eq_true rfl⟩, ⟨(Nat.le_of_ble_eq_true rfl), (Nat.le_of_ble_eq_true rfl)⟩⟩ hl.1 rfl (Nat.le_of_ble_eq_true rfl) dX3_readFact_54) hP hD hS hA (fun u321 H locs hw322 hP hD hS => ?_)
    obtain ⟨hT, ke324, ke325⟩ : TW Y Z T g q u321 ∧ KF 1 T u291 u321 ∧ KF 6 T u291 u321 := hw322
    have ke326 : KF 1 T ws u321 := KF.tr ke296 ke324
    have ke327 : KF 6 T ws u321 := KF.tr ke297 ke325
    refine W.eq (g2 := F0 m 57 ls []) rfl ?_
    refine lv_aload_n hx hb dX3_readFact_57 rfl (lv_at hl 1 rfl) ?_
    refine ok7 hT ht0 (fun p348 n328 a329 x330 x331 x332 x333 x334 x335 x336 x337 a338 a339 x340 hk349 h341 h342 h343 h344 h345 h346 h347 => ?_)
    refine va_get (D := D) (ci := 3) (v := .ref a339) (C := RX3) (T := TX3) (N := 12) hx hb hg inGX3 hown hKN.1 hP p348 hk349 rfl 10 (by decide) (hg _ kw_188) (fun _ h9 => h9) rfl dX3_readFact_58 ?_
    refine lv_ldc (v := 200261) hx hb hown (hg _ kw_732) dX3_readFact_61 ?_
    have zi200261 : (200261 : Int32).toInt = 200261 := by decide
    refine ok5 hT h345 (fun p371 x350 x351 x352 x353 x354 x355 x356 x357 a358 a359 a360 a361 a362 x363 hk372 h364 h365 h366 h367 h368 h369 h370 => ?_)
    refine cga (rn_NV (As := [.int 200261]) (rest := []) (b := a339) (x_X8_addCode l D Y Z H.size u321 T g q a339 200261 hT h345) ⟨hx, hb, hml, hown, hg⟩ hKN lk_X3_154 ⟨CPC.blind, va_recv hKN.1 hP (ci := 8) (q0 := p371) rfl hk372, CPC.at hP hKN hD hSZ hS hA⟩ ⟨⟨rfl, rfl⟩, ⟨Nat.le_of_ble_eq_true rfl, Nat.le_of_ble_eq_true rfl⟩, ⟨(Nat.le_of_ble_eq_true rfl), (Nat.le_of_ble_eq_true rfl)⟩⟩ hl.1 rfl (Nat.le_of_ble_eq_true rfl) dX3_readFact_63) hP hD hS hA (fun u373 H locs hw374 hP hD hS => ?_)
    obtain ⟨hT, ke376, ke377⟩ : TW Y Z T g q u373 ∧ KF 1 T u321 u373 ∧ KF 6 T u321 u373 := hw374
    have ke378 : KF 1 T ws u373 := KF.tr ke326 ke376
    have ke379 : KF 6 T ws u373 := KF.tr ke327 ke377
    refine W.eq (g2 := F0 m 66 ls []) rfl ?_
    refine lv_goto (tgt := 133) hx hb dX3_readFact_66 (by decide) ?_
    refine W.widen (k := 0) (n := 0) (Nat.le_of_ble_eq_true rfl) (Nat.le_of_ble_eq_true rfl) ?_
    have zi1 : (1 : Int32).toInt = 1 := by decide
    have zi2 : (2 : Int32).toInt = 2 := by decide
    exact W.vret hx hb hr (fun t ht hW => ⟨⟨u373, rfl, ⟨hT, ke378, ke379⟩, CB.mk ht hP hD⟩, hS.F ht⟩) hS.2.2 dX3_readFact_133
set_option maxHeartbeats 4000000 in
set_option maxRecDepth 100000 in
theorem x_X3_readTest_2 (l : Launch) (D : va_G) (Y : Nat → ClassId) (Z : Nat → Nat) (sz : Nat) (ws : va_W) (T : RT) (g : GN) (q : GQ)  (p0 : Nat) (hT : TW Y Z T g q ws) (ht0 : T p0 = (7, 0, 0)) : Met l yX3_readTest (.code yX3_readTest cX3_readTest 5 none :: GW) ({ frames := 24, cells := 0, slots := 0, locals := 555 }) (va_Pc [.ref p0, .int 2] (CPC D Y Z ws sz)) (QG (S := va_W) (fun _ => none) (fun u => TW Y Z T g q u ∧ KF 1 T ws u ∧ KF 6 T ws u) (fun u => CB D u (va_A ws sz)) (va_A ws sz)) 0 0 (va_A ws sz) := by
  refine Met.ofW (cc := cX3_readTest) (maxL := 5) (ret := none) (by decide) rfl ?_
  intro p e s m args below meth c s₁ B hml hv
  obtain ⟨rfl, ⟨hsz, hP, hKN, hD0⟩, hSZ⟩ := hv
  have hx := B.exec
  have hb := B.bytes
  have hr := B.returns
  have hts := atoms_spec (ws := .code yX3_readTest cX3_readTest 5 none :: GW) B.pre
  have hg : ∀ w ∈ GW, w.before _ s = true := fun w h => hts w (List.mem_cons_of_mem _ h)
  have hown : s.vm.findClass RX3 = some m.cls := findClass_of_methodNamed B.named
  have hlocks := B.notSynchronized
  subst hsz
  have hD := hD0.self (sz := s.heap.size)
  generalize hAe : va_A ws s.heap.size = A at hD hSZ ⊢
  have hA : ∀ q : Nat, s.heap.size ≤ q → A q := fun q h => by rw [← hAe]; exact Or.inr h
  clear hAe hD0 hts B
  have hl := lv_entry ([.ref p0, .int 2]) (n := 5) (Nat.le_of_ble_eq_true rfl)
  rw [lg_entry_eq]
  generalize (lg_sl ([.ref p0, .int 2]) ++ List.replicate (5 - (lg_sl ([.ref p0, .int 2])).length) Slot.unset).toArray = ls at hl ⊢
  have hl : lv_has ls 5 [(0, .ref p0), (1, .int 2)] := hl
  refine w_start (A0 := A) hP (fun H locs hP hS => ?_)
  refine lv_iconst (v := 0) hx hb dX3_readTest_0 (by decide) ?_
  refine lv_istore_n (lv' := [(2, .int 0), (0, .ref p0), (1, .int 2)]) hx hb dX3_readTest_1 rfl hl (by decide) rfl (fun ls hl => ?_)
  refine lv_aload_n hx hb dX3_readTest_2 rfl (lv_at hl 1 rfl) ?_
  refine lv_iload_n hx hb dX3_readTest_3 rfl (lv_at hl 2 rfl) ?_
  have zi2 : (2 : Int32).toInt = 2 := by decide
  refine ok7 hT ht0 (fun p21 n1 a2 x3 x4 x5 x6 x7 x8 x9 x10 a11 a12 x13 hk22 h14 h15 h16 h17 h18 h19 h20 => ?_)
  refine cga (rn_V (As := [.int 2]) (rest := []) (b := p0) (x_X3_readFact_2 l D Y Z H.size ws T g q p0 hT ht0) ⟨hx, hb, hml, hown, hg⟩ lk_X3_148 ⟨CPC.blind, va_recv hKN.1 hP (ci := 3) (q0 := p21) rfl hk22, CPC.at hP hKN hD hSZ hS hA⟩ ⟨⟨rfl, rfl⟩, ⟨Nat.le_of_ble_eq_true rfl, Nat.le_of_ble_eq_true rfl⟩, ⟨(Nat.le_of_ble_eq_true rfl), (Nat.le_of_ble_eq_true rfl)⟩⟩ hl.1 rfl (Nat.le_of_ble_eq_true rfl) dX3_readTest_4) hP hD hS hA (fun u23 H locs hw24 hP hD hS => ?_)
  obtain ⟨hT, ke26, ke27⟩ : TW Y Z T g q u23 ∧ KF 1 T ws u23 ∧ KF 6 T ws u23 := hw24
  have ke28 : KF 1 T ws u23 := KF.tr KF.rf ke26
  have ke29 : KF 6 T ws u23 := KF.tr KF.rf ke27
  refine W.eq (g2 := F0 m 7 ls []) rfl ?_
  refine lv_iconst (v := 0) hx hb dX3_readTest_7 (by decide) ?_
  refine lv_istore_n (lv' := [(3, .int 0), (2, .int 0), (0, .ref p0), (1, .int 2)]) hx hb dX3_readTest_8 rfl hl (by decide) rfl (fun ls hl => ?_)
  have zi0 : (0 : Int32).toInt = 0 := by decide
  refine w_loop (σ := Int32 × Int32 × va_W) (fun xx H locs ls => match xx with | (v215, v216, w217) => va_P D vwCl w217 H ∧ va_D A w217 ∧ va_S A s.heap H locs ∧ lv_has ls 5 [(3, .int v215), (2, .int v216), (0, .ref p0), (1, .int 2)] ∧ TW Y Z T g q w217 ∧ KF 1 T ws w217 ∧ KF 6 T ws w217 ∧ (0 ≤ v215.toInt ∧ v215.toInt ≤ 400)) (fun xx => match xx with | (v215, v216, w217) => (400 - v215.toInt).toNat) (0, 0, u23) ⟨hP, hD, hS, lv_sub hl [0, 1, 2, 3] rfl, hT, ke28, ke29, by omega⟩ (fun xx H locs ls hI ih => ?_)
  obtain ⟨v215, v216, w217⟩ := xx
  obtain ⟨hP, hD, hS, hl, hT, ke610, ke611, hq609⟩ := hI
  have ih612 := ih
  refine lv_iload_n hx hb dX3_readTest_9 rfl (lv_at hl 0 rfl) ?_
  refine lv_sipush (v := 400) hx hb dX3_readTest_10 (by decide) ?_
  refine lv_icmp_ge (tgt := 104) hx hb dX3_readTest_13 (by decide) (fun c613 => ?_) (fun c613 => ?_)
  · skip
    have c613 := i_le (show (400 : Int32).toInt = 400 by decide) (Eq.refl v215.toInt) c613
    refine lv_iload_n hx hb dX3_readTest_104 rfl (lv_at hl 1 rfl) ?_
    have j614 := rgI v216
    refine lv_if_eq (tgt := 117) hx hb dX3_readTest_105 (by decide) (fun c615 => ?_) (fun c615 => ?_)
    · skip
      have c615 := i_eq (Eq.refl v216.toInt) (show (0 : Int32).toInt = 0 by decide) c615
      refine W.widen (k := 0) (n := 0) (Nat.le_of_ble_eq_true rfl) (Nat.le_of_ble_eq_true rfl) ?_
      exact W.vret hx hb hr (fun t ht hW => ⟨⟨w217, rfl, ⟨hT, ke610, ke611⟩, CB.mk ht hP hD⟩, hS.F ht⟩) hS.2.2 dX3_readTest_117
    · skip
      have c615 := i_ne (Eq.refl v216.toInt) (show (0 : Int32).toInt = 0 by decide) c615
      refine lv_aload_n hx hb dX3_readTest_108 rfl (lv_at hl 2 rfl) ?_
      refine ok7 hT ht0 (fun p636 n616 a617 x618 x619 x620 x621 x622 x623 x624 x625 a626 a627 x628 hk637 h629 h630 h631 h632 h633 h634 h635 => ?_)
      refine va_get (D := D) (ci := 3) (v := .ref a627) (C := RX3) (T := TX3) (N := 12) hx hb hg inGX3 hown hKN.1 hP p636 hk637 rfl 10 (by decide) (hg _ kw_188) (fun _ h9 => h9) rfl dX3_readTest_109 ?_
      refine lv_ldc (v := 200263) hx hb hown (hg _ kw_742) dX3_readTest_112 ?_
      have zi200263 : (200263 : Int32).toInt = 200263 := by decide
      refine ok5 hT h633 (fun p659 x638 x639 x640 x641 x642 x643 x644 x645 a646 a647 a648 a649 a650 x651 hk660 h652 h653 h654 h655 h656 h657 h658 => ?_)
      refine cga (rn_NV (As := [.int 200263]) (rest := []) (b := a627) (x_X8_addCode l D Y Z H.size w217 T g q a627 200263 hT h633) ⟨hx, hb, hml, hown, hg⟩ hKN lk_X3_154 ⟨CPC.blind, va_recv hKN.1 hP (ci := 8) (q0 := p659) rfl hk660, CPC.at hP hKN hD hSZ hS hA⟩ ⟨⟨rfl, rfl⟩, ⟨Nat.le_of_ble_eq_true rfl, Nat.le_of_ble_eq_true rfl⟩, ⟨(Nat.le_of_ble_eq_true rfl), (Nat.le_of_ble_eq_true rfl)⟩⟩ hl.1 rfl (Nat.le_of_ble_eq_true rfl) dX3_readTest_114) hP hD hS hA (fun u661 H locs hw662 hP hD hS => ?_)
      obtain ⟨hT, ke664, ke665⟩ : TW Y Z T g q u661 ∧ KF 1 T w217 u661 ∧ KF 6 T w217 u661 := hw662
      have ke666 : KF 1 T ws u661 := KF.tr ke610 ke664
      have ke667 : KF 6 T ws u661 := KF.tr ke611 ke665
      refine W.eq (g2 := F0 m 117 ls []) rfl ?_
      refine W.widen (k := 0) (n := 0) (Nat.le_of_ble_eq_true rfl) (Nat.le_of_ble_eq_true rfl) ?_
      exact W.vret hx hb hr (fun t ht hW => ⟨⟨u661, rfl, ⟨hT, ke666, ke667⟩, CB.mk ht hP hD⟩, hS.F ht⟩) hS.2.2 dX3_readTest_117
  · skip
    have c613 := i_nle (show (400 : Int32).toInt = 400 by decide) (Eq.refl v215.toInt) c613
    refine lv_aload_n hx hb dX3_readTest_16 rfl (lv_at hl 2 rfl) ?_
    refine ok7 hT ht0 (fun p688 n668 a669 x670 x671 x672 x673 x674 x675 x676 x677 a678 a679 x680 hk689 h681 h682 h683 h684 h685 h686 h687 => ?_)
    refine va_get (D := D) (ci := 3) (v := .int x675) (C := RX3) (T := TX3) (N := 12) hx hb hg inGX3 hown hKN.1 hP p688 hk689 rfl 6 (by decide) (hg _ kw_184) (fun _ h9 => h9) rfl dX3_readTest_17 ?_
    have j690 := rgI x675
    refine lv_if_ne (tgt := 104) hx hb dX3_readTest_20 (by decide) (fun c691 => ?_) (fun c691 => ?_)
    · skip
      have c691 := i_ne (Eq.refl x675.toInt) (show (0 : Int32).toInt = 0 by decide) c691
      refine lv_iload_n hx hb dX3_readTest_104 rfl (lv_at hl 1 rfl) ?_
      have j692 := rgI v216
      refine lv_if_eq (tgt := 117) hx hb dX3_readTest_105 (by decide) (fun c693 => ?_) (fun c693 => ?_)
      · skip
        have c693 := i_eq (Eq.refl v216.toInt) (show (0 : Int32).toInt = 0 by decide) c693
        refine W.widen (k := 0) (n := 0) (Nat.le_of_ble_eq_true rfl) (Nat.le_of_ble_eq_true rfl) ?_
        exact W.vret hx hb hr (fun t ht hW => ⟨⟨w217, rfl, ⟨hT, ke610, ke611⟩, CB.mk ht hP hD⟩, hS.F ht⟩) hS.2.2 dX3_readTest_117
      · skip
        have c693 := i_ne (Eq.refl v216.toInt) (show (0 : Int32).toInt = 0 by decide) c693
        refine lv_aload_n hx hb dX3_readTest_108 rfl (lv_at hl 2 rfl) ?_
        refine va_get (D := D) (ci := 3) (v := .ref a679) (C := RX3) (T := TX3) (N := 12) hx hb hg inGX3 hown hKN.1 hP p688 hk689 rfl 10 (by decide) (hg _ kw_188) (fun _ h9 => h9) rfl dX3_readTest_109 ?_
        refine lv_ldc (v := 200263) hx hb hown (hg _ kw_742) dX3_readTest_112 ?_
        have zi200263 : (200263 : Int32).toInt = 200263 := by decide
        refine ok5 hT h685 (fun p715 x694 x695 x696 x697 x698 x699 x700 x701 a702 a703 a704 a705 a706 x707 hk716 h708 h709 h710 h711 h712 h713 h714 => ?_)
        refine cga (rn_NV (As := [.int 200263]) (rest := []) (b := a679) (x_X8_addCode l D Y Z H.size w217 T g q a679 200263 hT h685) ⟨hx, hb, hml, hown, hg⟩ hKN lk_X3_154 ⟨CPC.blind, va_recv hKN.1 hP (ci := 8) (q0 := p715) rfl hk716, CPC.at hP hKN hD hSZ hS hA⟩ ⟨⟨rfl, rfl⟩, ⟨Nat.le_of_ble_eq_true rfl, Nat.le_of_ble_eq_true rfl⟩, ⟨(Nat.le_of_ble_eq_true rfl), (Nat.le_of_ble_eq_true rfl)⟩⟩ hl.1 rfl (Nat.le_of_ble_eq_true rfl) dX3_readTest_114) hP hD hS hA (fun u717 H locs hw718 hP hD hS => ?_)
        obtain ⟨hT, ke720, ke721⟩ : TW Y Z T g q u717 ∧ KF 1 T w217 u717 ∧ KF 6 T w217 u717 := hw718
        have ke722 : KF 1 T ws u717 := KF.tr ke610 ke720
        have ke723 : KF 6 T ws u717 := KF.tr ke611 ke721
        refine W.eq (g2 := F0 m 117 ls []) rfl ?_
        refine W.widen (k := 0) (n := 0) (Nat.le_of_ble_eq_true rfl) (Nat.le_of_ble_eq_true rfl) ?_
        exact W.vret hx hb hr (fun t ht hW => ⟨⟨u717, rfl, ⟨hT, ke722, ke723⟩, CB.mk ht hP hD⟩, hS.F ht⟩) hS.2.2 dX3_readTest_117
    · skip
      have c691 := i_eq (Eq.refl x675.toInt) (show (0 : Int32).toInt = 0 by decide) c691
      refine lv_aload_n hx hb dX3_readTest_23 rfl (lv_at hl 2 rfl) ?_
      refine va_ldcS (q := Z 7) hx hb hown (hKN.2.2.2 7 (RX3, 151, "and or") rfl) dX3_readTest_24 ?_
      refine cga (rn_V (As := [.ref (Z 7)]) (rest := []) (b := p0) (x_X3_whichOf l D Y Z H.size w217 T g q 7 p0 hT ht0 (by decide)) ⟨hx, hb, hml, hown, hg⟩ lk_X3_99 ⟨CPC.blind, va_recv hKN.1 hP (ci := 3) (q0 := p688) rfl hk689, CPC.at hP hKN hD hSZ hS hA⟩ ⟨⟨rfl, rfl⟩, ⟨Nat.le_of_ble_eq_true rfl, Nat.le_of_ble_eq_true rfl⟩, ⟨(Nat.le_of_ble_eq_true rfl), (Nat.le_of_ble_eq_true rfl)⟩⟩ hl.1 rfl (Nat.le_of_ble_eq_true rfl) dX3_readTest_26) hP hD hS hA (fun u724 H locs hw725 hP hD hS => ?_)
      refine W.eq (g2 := F0 m 29 ls [.int u724]) rfl ?_
      refine lv_istore (lv' := [(4, .int u724), (3, .int v215), (2, .int v216), (0, .ref p0), (1, .int 2)]) hx hb dX3_readTest_29 hl (by decide) rfl (fun ls hl => ?_)
      refine lv_iload hx hb dX3_readTest_31 (lv_at hl 0 rfl) ?_
      refine lv_iconst (v := (-1)) hx hb dX3_readTest_33 (by decide) ?_
      have j727 := rgI u724
      refine lv_icmp_ne (tgt := 40) hx hb dX3_readTest_34 (by decide) (fun c728 => ?_) (fun c728 => ?_)
      · skip
        have c728 := i_ne (Eq.refl u724.toInt) (show ((-1) : Int32).toInt = -1 by decide) c728
        refine lv_aload_n hx hb dX3_readTest_40 rfl (lv_at hl 3 rfl) ?_
        refine cga (rn_V (As := []) (rest := []) (b := p0) (x_X3_step l D Y Z H.size w217 T g q p0 hT ht0) ⟨hx, hb, hml, hown, hg⟩ lk_X3_61 ⟨CPC.blind, va_recv hKN.1 hP (ci := 3) (q0 := p688) rfl hk689, CPC.at hP hKN hD hSZ hS hA⟩ ⟨⟨rfl, rfl⟩, ⟨Nat.le_of_ble_eq_true rfl, Nat.le_of_ble_eq_true rfl⟩, ⟨(Nat.le_of_ble_eq_true rfl), (Nat.le_of_ble_eq_true rfl)⟩⟩ hl.1 rfl (Nat.le_of_ble_eq_true rfl) dX3_readTest_41) hP hD hS hA (fun u729 H locs hw730 hP hD hS => ?_)
        obtain ⟨hT, ke732, ke733⟩ : TW Y Z T g q u729 ∧ KF 1 T w217 u729 ∧ KF 6 T w217 u729 := hw730
        have ke734 : KF 1 T ws u729 := KF.tr ke610 ke732
        have ke735 : KF 6 T ws u729 := KF.tr ke611 ke733
        refine W.eq (g2 := F0 m 44 ls []) rfl ?_
        refine lv_iload hx hb dX3_readTest_44 (lv_at hl 0 rfl) ?_
        refine lv_iconst (v := 1) hx hb dX3_readTest_46 (by decide) ?_
        refine lv_icmp_ne (tgt := 63) hx hb dX3_readTest_47 (by decide) (fun c736 => ?_) (fun c736 => ?_)
        · skip
          have c736 := i_ne (Eq.refl u724.toInt) (show (1 : Int32).toInt = 1 by decide) c736
          refine lv_iload_n hx hb dX3_readTest_63 rfl (lv_at hl 2 rfl) ?_
          have j737 := rgI v216
          refine lv_if_ne (tgt := 73) hx hb dX3_readTest_64 (by decide) (fun c738 => ?_) (fun c738 => ?_)
          · skip
            have c738 := i_ne (Eq.refl v216.toInt) (show (0 : Int32).toInt = 0 by decide) c738
            refine lv_iconst (v := 1) hx hb dX3_readTest_73 (by decide) ?_
            refine lv_goto (tgt := 78) hx hb dX3_readTest_74 (by decide) ?_
            refine lv_istore_n (lv' := [(2, .int 1), (4, .int u724), (3, .int v215), (0, .ref p0), (1, .int 2)]) hx hb dX3_readTest_78 rfl hl (by decide) rfl (fun ls hl => ?_)
            refine lv_aload_n hx hb dX3_readTest_79 rfl (lv_at hl 3 rfl) ?_
            refine lv_iload_n hx hb dX3_readTest_80 rfl (lv_at hl 4 rfl) ?_
            refine ok7 hT ht0 (fun p759 n739 a740 x741 x742 x743 x744 x745 x746 x747 x748 a749 a750 x751 hk760 h752 h753 h754 h755 h756 h757 h758 => ?_)
            refine cga (rn_V (As := [.int 2]) (rest := []) (b := p0) (x_X3_readFact_2 l D Y Z H.size u729 T g q p0 hT ht0) ⟨hx, hb, hml, hown, hg⟩ lk_X3_148 ⟨CPC.blind, va_recv hKN.1 hP (ci := 3) (q0 := p759) rfl hk760, CPC.at hP hKN hD hSZ hS hA⟩ ⟨⟨rfl, rfl⟩, ⟨Nat.le_of_ble_eq_true rfl, Nat.le_of_ble_eq_true rfl⟩, ⟨(Nat.le_of_ble_eq_true rfl), (Nat.le_of_ble_eq_true rfl)⟩⟩ hl.1 rfl (Nat.le_of_ble_eq_true rfl) dX3_readTest_81) hP hD hS hA (fun u761 H locs hw762 hP hD hS => ?_)
            obtain ⟨hT, ke764, ke765⟩ : TW Y Z T g q u761 ∧ KF 1 T u729 u761 ∧ KF 6 T u729 u761 := hw762
            have ke766 : KF 1 T ws u761 := KF.tr ke734 ke764
            have ke767 : KF 6 T ws u761 := KF.tr ke735 ke765
            refine W.eq (g2 := F0 m 84 ls []) rfl ?_
            refine lv_iload hx hb dX3_readTest_84 (lv_at hl 1 rfl) ?_
            refine lv_if_ne (tgt := 98) hx hb dX3_readTest_86 (by decide) (fun c768 => ?_) (fun c768 => ?_)
            · skip
              have c768 := i_ne (Eq.refl u724.toInt) (show (0 : Int32).toInt = 0 by decide) c768
              obtain ⟨v769, ev769⟩ : ∃ y : Int32, y = v215 + 1 := ⟨_, rfl⟩
              have hv769 := i_add (Eq.refl v215.toInt) (show (1 : Int32).toInt = 1 by decide) ev769 (by omega) (by omega)
              refine lv_iinc (v := v769) (lv' := [(3, .int v769), (2, .int 1), (4, .int u724), (0, .ref p0), (1, .int 2)]) hx hb dX3_readTest_98 hl (k := 2) rfl (by rw [ev769]; rfl) (by decide) rfl (fun ls hl => ?_)
              refine lv_goto (tgt := 9) hx hb dX3_readTest_101 (by decide) ?_
              have zi1 : (1 : Int32).toInt = 1 := by decide
              exact ih612 (v769, 1, u761) H locs ls (by show (400 - v769.toInt).toNat < (400 - v215.toInt).toNat; omega) ⟨hP, hD, hS, lv_sub hl [0, 1, 3, 4] rfl, hT, ke766, ke767, by omega⟩
            · skip
              have c768 := i_eq (Eq.refl u724.toInt) (show (0 : Int32).toInt = 0 by decide) c768
              refine lv_aload_n hx hb dX3_readTest_89 rfl (lv_at hl 3 rfl) ?_
              refine ok7 hT ht0 (fun p790 n770 a771 x772 x773 x774 x775 x776 x777 x778 x779 a780 a781 x782 hk791 h783 h784 h785 h786 h787 h788 h789 => ?_)
              refine va_get (D := D) (ci := 3) (v := .ref a781) (C := RX3) (T := TX3) (N := 12) hx hb hg inGX3 hown hKN.1 hP p790 hk791 rfl 10 (by decide) (hg _ kw_188) (fun _ h9 => h9) rfl dX3_readTest_90 ?_
              refine lv_ldc (v := 200262) hx hb hown (hg _ kw_743) dX3_readTest_93 ?_
              have zi200262 : (200262 : Int32).toInt = 200262 := by decide
              refine ok5 hT h787 (fun p813 x792 x793 x794 x795 x796 x797 x798 x799 a800 a801 a802 a803 a804 x805 hk814 h806 h807 h808 h809 h810 h811 h812 => ?_)
              refine cga (rn_NV (As := [.int 200262]) (rest := []) (b := a781) (x_X8_addCode l D Y Z H.size u761 T g q a781 200262 hT h787) ⟨hx, hb, hml, hown, hg⟩ hKN lk_X3_154 ⟨CPC.blind, va_recv hKN.1 hP (ci := 8) (q0 := p813) rfl hk814, CPC.at hP hKN hD hSZ hS hA⟩ ⟨⟨rfl, rfl⟩, ⟨Nat.le_of_ble_eq_true rfl, Nat.le_of_ble_eq_true rfl⟩, ⟨(Nat.le_of_ble_eq_true rfl), (Nat.le_of_ble_eq_true rfl)⟩⟩ hl.1 rfl (Nat.le_of_ble_eq_true rfl) dX3_readTest_95) hP hD hS hA (fun u815 H locs hw816 hP hD hS => ?_)
              obtain ⟨hT, ke818, ke819⟩ : TW Y Z T g q u815 ∧ KF 1 T u761 u815 ∧ KF 6 T u761 u815 := hw816
              have ke820 : KF 1 T ws u815 := KF.tr ke766 ke818
              have ke821 : KF 6 T ws u815 := KF.tr ke767 ke819
              refine W.eq (g2 := F0 m 98 ls []) rfl ?_
              obtain ⟨v822, ev822⟩ : ∃ y : Int32, y = v215 + 1 := ⟨_, rfl⟩
              have hv822 := i_add (Eq.refl v215.toInt) (show (1 : Int32).toInt = 1 by decide) ev822 (by omega) (by omega)
              refine lv_iinc (v := v822) (lv' := [(3, .int v822), (2, .int 1), (4, .int u724), (0, .ref p0), (1, .int 2)]) hx hb dX3_readTest_98 hl (k := 2) rfl (by rw [ev822]; rfl) (by decide) rfl (fun ls hl => ?_)
              refine lv_goto (tgt := 9) hx hb dX3_readTest_101 (by decide) ?_
              have zi1 : (1 : Int32).toInt = 1 := by decide
              exact ih612 (v822, 1, u815) H locs ls (by show (400 - v822.toInt).toNat < (400 - v215.toInt).toNat; omega) ⟨hP, hD, hS, lv_sub hl [0, 1, 3, 4] rfl, hT, ke820, ke821, by omega⟩
          · skip
            have c738 := i_eq (Eq.refl v216.toInt) (show (0 : Int32).toInt = 0 by decide) c738
            refine lv_iload hx hb dX3_readTest_67 (lv_at hl 0 rfl) ?_
            refine lv_iconst (v := 1) hx hb dX3_readTest_69 (by decide) ?_
            refine lv_icmp_ne (tgt := 77) hx hb dX3_readTest_70 (by decide) (fun c823 => ?_) (fun c823 => ?_)
            · skip
              have c823 := i_ne (Eq.refl u724.toInt) (show (1 : Int32).toInt = 1 by decide) c823
              refine lv_iconst (v := 0) hx hb dX3_readTest_77 (by decide) ?_
              refine lv_istore_n (lv' := [(2, .int 0), (4, .int u724), (3, .int v215), (0, .ref p0), (1, .int 2)]) hx hb dX3_readTest_78 rfl hl (by decide) rfl (fun ls hl => ?_)
              refine lv_aload_n hx hb dX3_readTest_79 rfl (lv_at hl 3 rfl) ?_
              refine lv_iload_n hx hb dX3_readTest_80 rfl (lv_at hl 4 rfl) ?_
              refine ok7 hT ht0 (fun p844 n824 a825 x826 x827 x828 x829 x830 x831 x832 x833 a834 a835 x836 hk845 h837 h838 h839 h840 h841 h842 h843 => ?_)
              refine cga (rn_V (As := [.int 2]) (rest := []) (b := p0) (x_X3_readFact_2 l D Y Z H.size u729 T g q p0 hT ht0) ⟨hx, hb, hml, hown, hg⟩ lk_X3_148 ⟨CPC.blind, va_recv hKN.1 hP (ci := 3) (q0 := p844) rfl hk845, CPC.at hP hKN hD hSZ hS hA⟩ ⟨⟨rfl, rfl⟩, ⟨Nat.le_of_ble_eq_true rfl, Nat.le_of_ble_eq_true rfl⟩, ⟨(Nat.le_of_ble_eq_true rfl), (Nat.le_of_ble_eq_true rfl)⟩⟩ hl.1 rfl (Nat.le_of_ble_eq_true rfl) dX3_readTest_81) hP hD hS hA (fun u846 H locs hw847 hP hD hS => ?_)
              obtain ⟨hT, ke849, ke850⟩ : TW Y Z T g q u846 ∧ KF 1 T u729 u846 ∧ KF 6 T u729 u846 := hw847
              have ke851 : KF 1 T ws u846 := KF.tr ke734 ke849
              have ke852 : KF 6 T ws u846 := KF.tr ke735 ke850
              refine W.eq (g2 := F0 m 84 ls []) rfl ?_
              refine lv_iload hx hb dX3_readTest_84 (lv_at hl 1 rfl) ?_
              refine lv_if_ne (tgt := 98) hx hb dX3_readTest_86 (by decide) (fun c853 => ?_) (fun c853 => ?_)
              · skip
                have c853 := i_ne (Eq.refl u724.toInt) (show (0 : Int32).toInt = 0 by decide) c853
                obtain ⟨v854, ev854⟩ : ∃ y : Int32, y = v215 + 1 := ⟨_, rfl⟩
                have hv854 := i_add (Eq.refl v215.toInt) (show (1 : Int32).toInt = 1 by decide) ev854 (by omega) (by omega)
                refine lv_iinc (v := v854) (lv' := [(3, .int v854), (2, .int 0), (4, .int u724), (0, .ref p0), (1, .int 2)]) hx hb dX3_readTest_98 hl (k := 2) rfl (by rw [ev854]; rfl) (by decide) rfl (fun ls hl => ?_)
                refine lv_goto (tgt := 9) hx hb dX3_readTest_101 (by decide) ?_
                have zi0 : (0 : Int32).toInt = 0 := by decide
                exact ih612 (v854, 0, u846) H locs ls (by show (400 - v854.toInt).toNat < (400 - v215.toInt).toNat; omega) ⟨hP, hD, hS, lv_sub hl [0, 1, 3, 4] rfl, hT, ke851, ke852, by omega⟩
              · skip
                have c853 := i_eq (Eq.refl u724.toInt) (show (0 : Int32).toInt = 0 by decide) c853
                refine lv_aload_n hx hb dX3_readTest_89 rfl (lv_at hl 3 rfl) ?_
                refine ok7 hT ht0 (fun p875 n855 a856 x857 x858 x859 x860 x861 x862 x863 x864 a865 a866 x867 hk876 h868 h869 h870 h871 h872 h873 h874 => ?_)
                refine va_get (D := D) (ci := 3) (v := .ref a866) (C := RX3) (T := TX3) (N := 12) hx hb hg inGX3 hown hKN.1 hP p875 hk876 rfl 10 (by decide) (hg _ kw_188) (fun _ h9 => h9) rfl dX3_readTest_90 ?_
                refine lv_ldc (v := 200262) hx hb hown (hg _ kw_743) dX3_readTest_93 ?_
                have zi200262 : (200262 : Int32).toInt = 200262 := by decide
                refine ok5 hT h872 (fun p898 x877 x878 x879 x880 x881 x882 x883 x884 a885 a886 a887 a888 a889 x890 hk899 h891 h892 h893 h894 h895 h896 h897 => ?_)
                refine cga (rn_NV (As := [.int 200262]) (rest := []) (b := a866) (x_X8_addCode l D Y Z H.size u846 T g q a866 200262 hT h872) ⟨hx, hb, hml, hown, hg⟩ hKN lk_X3_154 ⟨CPC.blind, va_recv hKN.1 hP (ci := 8) (q0 := p898) rfl hk899, CPC.at hP hKN hD hSZ hS hA⟩ ⟨⟨rfl, rfl⟩, ⟨Nat.le_of_ble_eq_true rfl, Nat.le_of_ble_eq_true rfl⟩, ⟨(Nat.le_of_ble_eq_true rfl), (Nat.le_of_ble_eq_true rfl)⟩⟩ hl.1 rfl (Nat.le_of_ble_eq_true rfl) dX3_readTest_95) hP hD hS hA (fun u900 H locs hw901 hP hD hS => ?_)
                obtain ⟨hT, ke903, ke904⟩ : TW Y Z T g q u900 ∧ KF 1 T u846 u900 ∧ KF 6 T u846 u900 := hw901
                have ke905 : KF 1 T ws u900 := KF.tr ke851 ke903
                have ke906 : KF 6 T ws u900 := KF.tr ke852 ke904
                refine W.eq (g2 := F0 m 98 ls []) rfl ?_
                obtain ⟨v907, ev907⟩ : ∃ y : Int32, y = v215 + 1 := ⟨_, rfl⟩
                have hv907 := i_add (Eq.refl v215.toInt) (show (1 : Int32).toInt = 1 by decide) ev907 (by omega) (by omega)
                refine lv_iinc (v := v907) (lv' := [(3, .int v907), (2, .int 0), (4, .int u724), (0, .ref p0), (1, .int 2)]) hx hb dX3_readTest_98 hl (k := 2) rfl (by rw [ev907]; rfl) (by decide) rfl (fun ls hl => ?_)
                refine lv_goto (tgt := 9) hx hb dX3_readTest_101 (by decide) ?_
                have zi0 : (0 : Int32).toInt = 0 := by decide
                exact ih612 (v907, 0, u900) H locs ls (by show (400 - v907.toInt).toNat < (400 - v215.toInt).toNat; omega) ⟨hP, hD, hS, lv_sub hl [0, 1, 3, 4] rfl, hT, ke905, ke906, by omega⟩
            · skip
              have c823 := i_eq (Eq.refl u724.toInt) (show (1 : Int32).toInt = 1 by decide) c823
              refine lv_iconst (v := 1) hx hb dX3_readTest_73 (by decide) ?_
              refine lv_goto (tgt := 78) hx hb dX3_readTest_74 (by decide) ?_
              refine lv_istore_n (lv' := [(2, .int 1), (4, .int u724), (3, .int v215), (0, .ref p0), (1, .int 2)]) hx hb dX3_readTest_78 rfl hl (by decide) rfl (fun ls hl => ?_)
              refine lv_aload_n hx hb dX3_readTest_79 rfl (lv_at hl 3 rfl) ?_
              refine lv_iload_n hx hb dX3_readTest_80 rfl (lv_at hl 4 rfl) ?_
              refine ok7 hT ht0 (fun p928 n908 a909 x910 x911 x912 x913 x914 x915 x916 x917 a918 a919 x920 hk929 h921 h922 h923 h924 h925 h926 h927 => ?_)
              refine cga (rn_V (As := [.int 2]) (rest := []) (b := p0) (x_X3_readFact_2 l D Y Z H.size u729 T g q p0 hT ht0) ⟨hx, hb, hml, hown, hg⟩ lk_X3_148 ⟨CPC.blind, va_recv hKN.1 hP (ci := 3) (q0 := p928) rfl hk929, CPC.at hP hKN hD hSZ hS hA⟩ ⟨⟨rfl, rfl⟩, ⟨Nat.le_of_ble_eq_true rfl, Nat.le_of_ble_eq_true rfl⟩, ⟨(Nat.le_of_ble_eq_true rfl), (Nat.le_of_ble_eq_true rfl)⟩⟩ hl.1 rfl (Nat.le_of_ble_eq_true rfl) dX3_readTest_81) hP hD hS hA (fun u930 H locs hw931 hP hD hS => ?_)
              obtain ⟨hT, ke933, ke934⟩ : TW Y Z T g q u930 ∧ KF 1 T u729 u930 ∧ KF 6 T u729 u930 := hw931
              have ke935 : KF 1 T ws u930 := KF.tr ke734 ke933
              have ke936 : KF 6 T ws u930 := KF.tr ke735 ke934
              refine W.eq (g2 := F0 m 84 ls []) rfl ?_
              refine lv_iload hx hb dX3_readTest_84 (lv_at hl 1 rfl) ?_
              refine lv_if_ne (tgt := 98) hx hb dX3_readTest_86 (by decide) (fun c937 => ?_) (fun c937 => ?_)
              rotate_left
              · have c937 := i_eq (Eq.refl u724.toInt) (show (0 : Int32).toInt = 0 by decide) c937; exfalso; omega
              have c937 := i_ne (Eq.refl u724.toInt) (show (0 : Int32).toInt = 0 by decide) c937
              obtain ⟨v938, ev938⟩ : ∃ y : Int32, y = v215 + 1 := ⟨_, rfl⟩
              have hv938 := i_add (Eq.refl v215.toInt) (show (1 : Int32).toInt = 1 by decide) ev938 (by omega) (by omega)
              refine lv_iinc (v := v938) (lv' := [(3, .int v938), (2, .int 1), (4, .int u724), (0, .ref p0), (1, .int 2)]) hx hb dX3_readTest_98 hl (k := 2) rfl (by rw [ev938]; rfl) (by decide) rfl (fun ls hl => ?_)
              refine lv_goto (tgt := 9) hx hb dX3_readTest_101 (by decide) ?_
              have zi1 : (1 : Int32).toInt = 1 := by decide
              exact ih612 (v938, 1, u930) H locs ls (by show (400 - v938.toInt).toNat < (400 - v215.toInt).toNat; omega) ⟨hP, hD, hS, lv_sub hl [0, 1, 3, 4] rfl, hT, ke935, ke936, by omega⟩
        · skip
          have c736 := i_eq (Eq.refl u724.toInt) (show (1 : Int32).toInt = 1 by decide) c736
          refine lv_iload_n hx hb dX3_readTest_50 rfl (lv_at hl 2 rfl) ?_
          have j939 := rgI v216
          refine lv_if_eq (tgt := 63) hx hb dX3_readTest_51 (by decide) (fun c940 => ?_) (fun c940 => ?_)
          · skip
            have c940 := i_eq (Eq.refl v216.toInt) (show (0 : Int32).toInt = 0 by decide) c940
            refine lv_iload_n hx hb dX3_readTest_63 rfl (lv_at hl 2 rfl) ?_
            refine lv_if_ne (tgt := 73) hx hb dX3_readTest_64 (by decide) (fun c941 => ?_) (fun c941 => ?_)
            · have c941 := i_ne (Eq.refl v216.toInt) (show (0 : Int32).toInt = 0 by decide) c941; exfalso; omega
            have c941 := i_eq (Eq.refl v216.toInt) (show (0 : Int32).toInt = 0 by decide) c941
            refine lv_iload hx hb dX3_readTest_67 (lv_at hl 0 rfl) ?_
            refine lv_iconst (v := 1) hx hb dX3_readTest_69 (by decide) ?_
            refine lv_icmp_ne (tgt := 77) hx hb dX3_readTest_70 (by decide) (fun c942 => ?_) (fun c942 => ?_)
            · have c942 := i_ne (Eq.refl u724.toInt) (show (1 : Int32).toInt = 1 by decide) c942; exfalso; omega
            have c942 := i_eq (Eq.refl u724.toInt) (show (1 : Int32).toInt = 1 by decide) c942
            refine lv_iconst (v := 1) hx hb dX3_readTest_73 (by decide) ?_
            refine lv_goto (tgt := 78) hx hb dX3_readTest_74 (by decide) ?_
            refine lv_istore_n (lv' := [(2, .int 1), (4, .int u724), (3, .int v215), (0, .ref p0), (1, .int 2)]) hx hb dX3_readTest_78 rfl hl (by decide) rfl (fun ls hl => ?_)
            refine lv_aload_n hx hb dX3_readTest_79 rfl (lv_at hl 3 rfl) ?_
            refine lv_iload_n hx hb dX3_readTest_80 rfl (lv_at hl 4 rfl) ?_
            refine ok7 hT ht0 (fun p963 n943 a944 x945 x946 x947 x948 x949 x950 x951 x952 a953 a954 x955 hk964 h956 h957 h958 h959 h960 h961 h962 => ?_)
            refine cga (rn_V (As := [.int 2]) (rest := []) (b := p0) (x_X3_readFact_2 l D Y Z H.size u729 T g q p0 hT ht0) ⟨hx, hb, hml, hown, hg⟩ lk_X3_148 ⟨CPC.blind, va_recv hKN.1 hP (ci := 3) (q0 := p963) rfl hk964, CPC.at hP hKN hD hSZ hS hA⟩ ⟨⟨rfl, rfl⟩, ⟨Nat.le_of_ble_eq_true rfl, Nat.le_of_ble_eq_true rfl⟩, ⟨(Nat.le_of_ble_eq_true rfl), (Nat.le_of_ble_eq_true rfl)⟩⟩ hl.1 rfl (Nat.le_of_ble_eq_true rfl) dX3_readTest_81) hP hD hS hA (fun u965 H locs hw966 hP hD hS => ?_)
            obtain ⟨hT, ke968, ke969⟩ : TW Y Z T g q u965 ∧ KF 1 T u729 u965 ∧ KF 6 T u729 u965 := hw966
            have ke970 : KF 1 T ws u965 := KF.tr ke734 ke968
            have ke971 : KF 6 T ws u965 := KF.tr ke735 ke969
            refine W.eq (g2 := F0 m 84 ls []) rfl ?_
            refine lv_iload hx hb dX3_readTest_84 (lv_at hl 1 rfl) ?_
            refine lv_if_ne (tgt := 98) hx hb dX3_readTest_86 (by decide) (fun c972 => ?_) (fun c972 => ?_)
            rotate_left
            · have c972 := i_eq (Eq.refl u724.toInt) (show (0 : Int32).toInt = 0 by decide) c972; exfalso; omega
            have c972 := i_ne (Eq.refl u724.toInt) (show (0 : Int32).toInt = 0 by decide) c972
            obtain ⟨v973, ev973⟩ : ∃ y : Int32, y = v215 + 1 := ⟨_, rfl⟩
            have hv973 := i_add (Eq.refl v215.toInt) (show (1 : Int32).toInt = 1 by decide) ev973 (by omega) (by omega)
            refine lv_iinc (v := v973) (lv' := [(3, .int v973), (2, .int 1), (4, .int u724), (0, .ref p0), (1, .int 2)]) hx hb dX3_readTest_98 hl (k := 2) rfl (by rw [ev973]; rfl) (by decide) rfl (fun ls hl => ?_)
            refine lv_goto (tgt := 9) hx hb dX3_readTest_101 (by decide) ?_
            have zi1 : (1 : Int32).toInt = 1 := by decide
            exact ih612 (v973, 1, u965) H locs ls (by show (400 - v973.toInt).toNat < (400 - v215.toInt).toNat; omega) ⟨hP, hD, hS, lv_sub hl [0, 1, 3, 4] rfl, hT, ke970, ke971, by omega⟩
          · skip
            have c940 := i_ne (Eq.refl v216.toInt) (show (0 : Int32).toInt = 0 by decide) c940
            refine lv_aload_n hx hb dX3_readTest_54 rfl (lv_at hl 3 rfl) ?_
            refine ok7 hT ht0 (fun p994 n974 a975 x976 x977 x978 x979 x980 x981 x982 x983 a984 a985 x986 hk995 h987 h988 h989 h990 h991 h992 h993 => ?_)
            refine va_get (D := D) (ci := 3) (v := .ref a985) (C := RX3) (T := TX3) (N := 12) hx hb hg inGX3 hown hKN.1 hP p994 hk995 rfl 10 (by decide) (hg _ kw_188) (fun _ h9 => h9) rfl dX3_readTest_55 ?_
            refine lv_ldc (v := 200263) hx hb hown (hg _ kw_742) dX3_readTest_58 ?_
            have zi200263 : (200263 : Int32).toInt = 200263 := by decide
            refine ok5 hT h991 (fun p1017 x996 x997 x998 x999 x1000 x1001 x1002 x1003 a1004 a1005 a1006 a1007 a1008 x1009 hk1018 h1010 h1011 h1012 h1013 h1014 h1015 h1016 => ?_)
            refine cga (rn_NV (As := [.int 200263]) (rest := []) (b := a985) (x_X8_addCode l D Y Z H.size u729 T g q a985 200263 hT h991) ⟨hx, hb, hml, hown, hg⟩ hKN lk_X3_154 ⟨CPC.blind, va_recv hKN.1 hP (ci := 8) (q0 := p1017) rfl hk1018, CPC.at hP hKN hD hSZ hS hA⟩ ⟨⟨rfl, rfl⟩, ⟨Nat.le_of_ble_eq_true rfl, Nat.le_of_ble_eq_true rfl⟩, ⟨(Nat.le_of_ble_eq_true rfl), (Nat.le_of_ble_eq_true rfl)⟩⟩ hl.1 rfl (Nat.le_of_ble_eq_true rfl) dX3_readTest_60) hP hD hS hA (fun u1019 H locs hw1020 hP hD hS => ?_)
            obtain ⟨hT, ke1022, ke1023⟩ : TW Y Z T g q u1019 ∧ KF 1 T u729 u1019 ∧ KF 6 T u729 u1019 := hw1020
            have ke1024 : KF 1 T ws u1019 := KF.tr ke734 ke1022
            have ke1025 : KF 6 T ws u1019 := KF.tr ke735 ke1023
            refine W.eq (g2 := F0 m 63 ls []) rfl ?_
            refine lv_iload_n hx hb dX3_readTest_63 rfl (lv_at hl 2 rfl) ?_
            refine lv_if_ne (tgt := 73) hx hb dX3_readTest_64 (by decide) (fun c1026 => ?_) (fun c1026 => ?_)
            · skip
              have c1026 := i_ne (Eq.refl v216.toInt) (show (0 : Int32).toInt = 0 by decide) c1026
              refine lv_iconst (v := 1) hx hb dX3_readTest_73 (by decide) ?_
              refine lv_goto (tgt := 78) hx hb dX3_readTest_74 (by decide) ?_
              refine lv_istore_n (lv' := [(2, .int 1), (4, .int u724), (3, .int v215), (0, .ref p0), (1, .int 2)]) hx hb dX3_readTest_78 rfl hl (by decide) rfl (fun ls hl => ?_)
              refine lv_aload_n hx hb dX3_readTest_79 rfl (lv_at hl 3 rfl) ?_
              refine lv_iload_n hx hb dX3_readTest_80 rfl (lv_at hl 4 rfl) ?_
              refine ok7 hT ht0 (fun p1047 n1027 a1028 x1029 x1030 x1031 x1032 x1033 x1034 x1035 x1036 a1037 a1038 x1039 hk1048 h1040 h1041 h1042 h1043 h1044 h1045 h1046 => ?_)
              refine cga (rn_V (As := [.int 2]) (rest := []) (b := p0) (x_X3_readFact_2 l D Y Z H.size u1019 T g q p0 hT ht0) ⟨hx, hb, hml, hown, hg⟩ lk_X3_148 ⟨CPC.blind, va_recv hKN.1 hP (ci := 3) (q0 := p1047) rfl hk1048, CPC.at hP hKN hD hSZ hS hA⟩ ⟨⟨rfl, rfl⟩, ⟨Nat.le_of_ble_eq_true rfl, Nat.le_of_ble_eq_true rfl⟩, ⟨(Nat.le_of_ble_eq_true rfl), (Nat.le_of_ble_eq_true rfl)⟩⟩ hl.1 rfl (Nat.le_of_ble_eq_true rfl) dX3_readTest_81) hP hD hS hA (fun u1049 H locs hw1050 hP hD hS => ?_)
              obtain ⟨hT, ke1052, ke1053⟩ : TW Y Z T g q u1049 ∧ KF 1 T u1019 u1049 ∧ KF 6 T u1019 u1049 := hw1050
              have ke1054 : KF 1 T ws u1049 := KF.tr ke1024 ke1052
              have ke1055 : KF 6 T ws u1049 := KF.tr ke1025 ke1053
              refine W.eq (g2 := F0 m 84 ls []) rfl ?_
              refine lv_iload hx hb dX3_readTest_84 (lv_at hl 1 rfl) ?_
              refine lv_if_ne (tgt := 98) hx hb dX3_readTest_86 (by decide) (fun c1056 => ?_) (fun c1056 => ?_)
              rotate_left
              · have c1056 := i_eq (Eq.refl u724.toInt) (show (0 : Int32).toInt = 0 by decide) c1056; exfalso; omega
              have c1056 := i_ne (Eq.refl u724.toInt) (show (0 : Int32).toInt = 0 by decide) c1056
              obtain ⟨v1057, ev1057⟩ : ∃ y : Int32, y = v215 + 1 := ⟨_, rfl⟩
              have hv1057 := i_add (Eq.refl v215.toInt) (show (1 : Int32).toInt = 1 by decide) ev1057 (by omega) (by omega)
              refine lv_iinc (v := v1057) (lv' := [(3, .int v1057), (2, .int 1), (4, .int u724), (0, .ref p0), (1, .int 2)]) hx hb dX3_readTest_98 hl (k := 2) rfl (by rw [ev1057]; rfl) (by decide) rfl (fun ls hl => ?_)
              refine lv_goto (tgt := 9) hx hb dX3_readTest_101 (by decide) ?_
              have zi1 : (1 : Int32).toInt = 1 := by decide
              exact ih612 (v1057, 1, u1049) H locs ls (by show (400 - v1057.toInt).toNat < (400 - v215.toInt).toNat; omega) ⟨hP, hD, hS, lv_sub hl [0, 1, 3, 4] rfl, hT, ke1054, ke1055, by omega⟩
            · skip
              have c1026 := i_eq (Eq.refl v216.toInt) (show (0 : Int32).toInt = 0 by decide) c1026
              refine lv_iload hx hb dX3_readTest_67 (lv_at hl 0 rfl) ?_
              refine lv_iconst (v := 1) hx hb dX3_readTest_69 (by decide) ?_
              refine lv_icmp_ne (tgt := 77) hx hb dX3_readTest_70 (by decide) (fun c1058 => ?_) (fun c1058 => ?_)
              · have c1058 := i_ne (Eq.refl u724.toInt) (show (1 : Int32).toInt = 1 by decide) c1058; exfalso; omega
              have c1058 := i_eq (Eq.refl u724.toInt) (show (1 : Int32).toInt = 1 by decide) c1058
              refine lv_iconst (v := 1) hx hb dX3_readTest_73 (by decide) ?_
              refine lv_goto (tgt := 78) hx hb dX3_readTest_74 (by decide) ?_
              refine lv_istore_n (lv' := [(2, .int 1), (4, .int u724), (3, .int v215), (0, .ref p0), (1, .int 2)]) hx hb dX3_readTest_78 rfl hl (by decide) rfl (fun ls hl => ?_)
              refine lv_aload_n hx hb dX3_readTest_79 rfl (lv_at hl 3 rfl) ?_
              refine lv_iload_n hx hb dX3_readTest_80 rfl (lv_at hl 4 rfl) ?_
              refine ok7 hT ht0 (fun p1079 n1059 a1060 x1061 x1062 x1063 x1064 x1065 x1066 x1067 x1068 a1069 a1070 x1071 hk1080 h1072 h1073 h1074 h1075 h1076 h1077 h1078 => ?_)
              refine cga (rn_V (As := [.int 2]) (rest := []) (b := p0) (x_X3_readFact_2 l D Y Z H.size u1019 T g q p0 hT ht0) ⟨hx, hb, hml, hown, hg⟩ lk_X3_148 ⟨CPC.blind, va_recv hKN.1 hP (ci := 3) (q0 := p1079) rfl hk1080, CPC.at hP hKN hD hSZ hS hA⟩ ⟨⟨rfl, rfl⟩, ⟨Nat.le_of_ble_eq_true rfl, Nat.le_of_ble_eq_true rfl⟩, ⟨(Nat.le_of_ble_eq_true rfl), (Nat.le_of_ble_eq_true rfl)⟩⟩ hl.1 rfl (Nat.le_of_ble_eq_true rfl) dX3_readTest_81) hP hD hS hA (fun u1081 H locs hw1082 hP hD hS => ?_)
              obtain ⟨hT, ke1084, ke1085⟩ : TW Y Z T g q u1081 ∧ KF 1 T u1019 u1081 ∧ KF 6 T u1019 u1081 := hw1082
              have ke1086 : KF 1 T ws u1081 := KF.tr ke1024 ke1084
              have ke1087 : KF 6 T ws u1081 := KF.tr ke1025 ke1085
              refine W.eq (g2 := F0 m 84 ls []) rfl ?_
              refine lv_iload hx hb dX3_readTest_84 (lv_at hl 1 rfl) ?_
              refine lv_if_ne (tgt := 98) hx hb dX3_readTest_86 (by decide) (fun c1088 => ?_) (fun c1088 => ?_)
              rotate_left
              · have c1088 := i_eq (Eq.refl u724.toInt) (show (0 : Int32).toInt = 0 by decide) c1088; exfalso; omega
              have c1088 := i_ne (Eq.refl u724.toInt) (show (0 : Int32).toInt = 0 by decide) c1088
              obtain ⟨v1089, ev1089⟩ : ∃ y : Int32, y = v215 + 1 := ⟨_, rfl⟩
              have hv1089 := i_add (Eq.refl v215.toInt) (show (1 : Int32).toInt = 1 by decide) ev1089 (by omega) (by omega)
              refine lv_iinc (v := v1089) (lv' := [(3, .int v1089), (2, .int 1), (4, .int u724), (0, .ref p0), (1, .int 2)]) hx hb dX3_readTest_98 hl (k := 2) rfl (by rw [ev1089]; rfl) (by decide) rfl (fun ls hl => ?_)
              refine lv_goto (tgt := 9) hx hb dX3_readTest_101 (by decide) ?_
              have zi1 : (1 : Int32).toInt = 1 := by decide
              exact ih612 (v1089, 1, u1081) H locs ls (by show (400 - v1089.toInt).toNat < (400 - v215.toInt).toNat; omega) ⟨hP, hD, hS, lv_sub hl [0, 1, 3, 4] rfl, hT, ke1086, ke1087, by omega⟩
      · skip
        have c728 := i_eq (Eq.refl u724.toInt) (show ((-1) : Int32).toInt = -1 by decide) c728
        refine lv_goto (tgt := 104) hx hb dX3_readTest_37 (by decide) ?_
        refine lv_iload_n hx hb dX3_readTest_104 rfl (lv_at hl 2 rfl) ?_
        have j1090 := rgI v216
        refine lv_if_eq (tgt := 117) hx hb dX3_readTest_105 (by decide) (fun c1091 => ?_) (fun c1091 => ?_)
        · skip
          have c1091 := i_eq (Eq.refl v216.toInt) (show (0 : Int32).toInt = 0 by decide) c1091
          refine W.widen (k := 0) (n := 0) (Nat.le_of_ble_eq_true rfl) (Nat.le_of_ble_eq_true rfl) ?_
          exact W.vret hx hb hr (fun t ht hW => ⟨⟨w217, rfl, ⟨hT, ke610, ke611⟩, CB.mk ht hP hD⟩, hS.F ht⟩) hS.2.2 dX3_readTest_117
        · skip
          have c1091 := i_ne (Eq.refl v216.toInt) (show (0 : Int32).toInt = 0 by decide) c1091
          refine lv_aload_n hx hb dX3_readTest_108 rfl (lv_at hl 3 rfl) ?_
          refine va_get (D := D) (ci := 3) (v := .ref a679) (C := RX3) (T := TX3) (N := 12) hx hb hg inGX3 hown hKN.1 hP p688 hk689 rfl 10 (by decide) (hg _ kw_188) (fun _ h9 => h9) rfl dX3_readTest_109 ?_
          refine lv_ldc (v := 200263) hx hb hown (hg _ kw_742) dX3_readTest_112 ?_
          have zi200263 : (200263 : Int32).toInt = 200263 := by decide
          refine ok5 hT h685 (fun p1113 x1092 x1093 x1094 x1095 x1096 x1097 x1098 x1099 a1100 a1101 a1102 a1103 a1104 x1105 hk1114 h1106 h1107 h1108 h1109 h1110 h1111 h1112 => ?_)
          refine cga (rn_NV (As := [.int 200263]) (rest := []) (b := a679) (x_X8_addCode l D Y Z H.size w217 T g q a679 200263 hT h685) ⟨hx, hb, hml, hown, hg⟩ hKN lk_X3_154 ⟨CPC.blind, va_recv hKN.1 hP (ci := 8) (q0 := p1113) rfl hk1114, CPC.at hP hKN hD hSZ hS hA⟩ ⟨⟨rfl, rfl⟩, ⟨Nat.le_of_ble_eq_true rfl, Nat.le_of_ble_eq_true rfl⟩, ⟨(Nat.le_of_ble_eq_true rfl), (Nat.le_of_ble_eq_true rfl)⟩⟩ hl.1 rfl (Nat.le_of_ble_eq_true rfl) dX3_readTest_114) hP hD hS hA (fun u1115 H locs hw1116 hP hD hS => ?_)
          obtain ⟨hT, ke1118, ke1119⟩ : TW Y Z T g q u1115 ∧ KF 1 T w217 u1115 ∧ KF 6 T w217 u1115 := hw1116
          have ke1120 : KF 1 T ws u1115 := KF.tr ke610 ke1118
          have ke1121 : KF 6 T ws u1115 := KF.tr ke611 ke1119
          refine W.eq (g2 := F0 m 117 ls []) rfl ?_
          refine W.widen (k := 0) (n := 0) (Nat.le_of_ble_eq_true rfl) (Nat.le_of_ble_eq_true rfl) ?_
          exact W.vret hx hb hr (fun t ht hW => ⟨⟨u1115, rfl, ⟨hT, ke1120, ke1121⟩, CB.mk ht hP hD⟩, hS.F ht⟩) hS.2.2 dX3_readTest_117
set_option maxHeartbeats 4000000 in
set_option maxRecDepth 100000 in
theorem x_X3_readFact_1 (l : Launch) (D : va_G) (Y : Nat → ClassId) (Z : Nat → Nat) (sz : Nat) (ws : va_W) (T : RT) (g : GN) (q : GQ)  (p0 : Nat) (hT : TW Y Z T g q ws) (ht0 : T p0 = (7, 0, 0)) : Met l yX3_readFact (.code yX3_readFact cX3_readFact 4 none :: GW) ({ frames := 25, cells := 0, slots := 0, locals := 579 }) (va_Pc [.ref p0, .int 1] (CPC D Y Z ws sz)) (QG (S := va_W) (fun _ => none) (fun u => TW Y Z T g q u ∧ KF 1 T ws u ∧ KF 6 T ws u) (fun u => CB D u (va_A ws sz)) (va_A ws sz)) 0 0 (va_A ws sz) := by
  refine Met.ofW (cc := cX3_readFact) (maxL := 4) (ret := none) (by decide) rfl ?_
  intro p e s m args below meth c s₁ B hml hv
  obtain ⟨rfl, ⟨hsz, hP, hKN, hD0⟩, hSZ⟩ := hv
  have hx := B.exec
  have hb := B.bytes
  have hr := B.returns
  have hts := atoms_spec (ws := .code yX3_readFact cX3_readFact 4 none :: GW) B.pre
  have hg : ∀ w ∈ GW, w.before _ s = true := fun w h => hts w (List.mem_cons_of_mem _ h)
  have hown : s.vm.findClass RX3 = some m.cls := findClass_of_methodNamed B.named
  have hlocks := B.notSynchronized
  subst hsz
  have hD := hD0.self (sz := s.heap.size)
  generalize hAe : va_A ws s.heap.size = A at hD hSZ ⊢
  have hA : ∀ q : Nat, s.heap.size ≤ q → A q := fun q h => by rw [← hAe]; exact Or.inr h
  clear hAe hD0 hts B
  have hl := lv_entry ([.ref p0, .int 1]) (n := 4) (Nat.le_of_ble_eq_true rfl)
  rw [lg_entry_eq]
  generalize (lg_sl ([.ref p0, .int 1]) ++ List.replicate (4 - (lg_sl ([.ref p0, .int 1])).length) Slot.unset).toArray = ls at hl ⊢
  have hl : lv_has ls 4 [(0, .ref p0), (1, .int 1)] := hl
  refine w_start (A0 := A) hP (fun H locs hP hS => ?_)
  refine lv_aload_n hx hb dX3_readFact_0 rfl (lv_at hl 0 rfl) ?_
  refine va_ldcS (q := Z 8) hx hb hown (hKN.2.2.2 8 (RX3, 158, "not") rfl) dX3_readFact_1 ?_
  refine ok7 hT ht0 (fun p21 n1 a2 x3 x4 x5 x6 x7 x8 x9 x10 a11 a12 x13 hk22 h14 h15 h16 h17 h18 h19 h20 => ?_)
  refine cga (rn_V (As := [.ref (Z 8)]) (rest := []) (b := p0) (x_X3_whichOf l D Y Z H.size ws T g q 8 p0 hT ht0 (by decide)) ⟨hx, hb, hml, hown, hg⟩ lk_X3_99 ⟨CPC.blind, va_recv hKN.1 hP (ci := 3) (q0 := p21) rfl hk22, CPC.at hP hKN hD hSZ hS hA⟩ ⟨⟨rfl, rfl⟩, ⟨Nat.le_of_ble_eq_true rfl, Nat.le_of_ble_eq_true rfl⟩, ⟨(Nat.le_of_ble_eq_true rfl), (Nat.le_of_ble_eq_true rfl)⟩⟩ hl.1 rfl (Nat.le_of_ble_eq_true rfl) dX3_readFact_3) hP hD hS hA (fun u23 H locs hw24 hP hD hS => ?_)
  refine W.eq (g2 := F0 m 6 ls [.int u23]) rfl ?_
  have j26 := rgI u23
  refine lv_if_ne (tgt := 13) hx hb dX3_readFact_6 (by decide) (fun c27 => ?_) (fun c27 => ?_)
  · skip
    have c27 := i_ne (Eq.refl u23.toInt) (show (0 : Int32).toInt = 0 by decide) c27
    refine lv_iconst (v := 0) hx hb dX3_readFact_13 (by decide) ?_
    refine lv_istore_n (lv' := [(2, .int 0), (0, .ref p0), (1, .int 1)]) hx hb dX3_readFact_14 rfl hl (by decide) rfl (fun ls hl => ?_)
    refine lv_iload_n hx hb dX3_readFact_15 rfl (lv_at hl 0 rfl) ?_
    refine lv_if_ne (tgt := 28) hx hb dX3_readFact_16 (by decide) (fun c28 => ?_) (fun c28 => ?_)
    · exact absurd c28 (by decide)
    refine lv_aload_n hx hb dX3_readFact_19 rfl (lv_at hl 1 rfl) ?_
    refine va_get (D := D) (ci := 3) (v := .int x5) (C := RX3) (T := TX3) (N := 12) hx hb hg inGX3 hown hKN.1 hP p21 hk22 rfl 3 (by decide) (hg _ kw_181) (fun _ h9 => h9) rfl dX3_readFact_20 ?_
    refine lv_bipush (v := 91) hx hb dX3_readFact_23 (by decide) ?_
    have j29 := rgI x5
    refine lv_icmp_ne (tgt := 42) hx hb dX3_readFact_25 (by decide) (fun c30 => ?_) (fun c30 => ?_)
    · skip
      have c30 := i_ne (Eq.refl x5.toInt) (show (91 : Int32).toInt = 91 by decide) c30
      refine lv_iload_n hx hb dX3_readFact_42 rfl (lv_at hl 0 rfl) ?_
      refine lv_if_eq (tgt := 69) hx hb dX3_readFact_43 (by decide) (fun c31 => ?_) (fun c31 => ?_)
      rotate_left
      · exact absurd c31 (by decide)
      refine lv_aload_n hx hb dX3_readFact_69 rfl (lv_at hl 1 rfl) ?_
      refine va_get (D := D) (ci := 3) (v := .int x5) (C := RX3) (T := TX3) (N := 12) hx hb hg inGX3 hown hKN.1 hP p21 hk22 rfl 3 (by decide) (hg _ kw_181) (fun _ h9 => h9) rfl dX3_readFact_70 ?_
      refine lv_bipush (v := 91) hx hb dX3_readFact_73 (by decide) ?_
      refine lv_icmp_ne (tgt := 98) hx hb dX3_readFact_75 (by decide) (fun c32 => ?_) (fun c32 => ?_)
      · skip
        have c32 := i_ne (Eq.refl x5.toInt) (show (91 : Int32).toInt = 91 by decide) c32
        refine lv_aload_n hx hb dX3_readFact_98 rfl (lv_at hl 1 rfl) ?_
        refine cga (rn_V (As := []) (rest := []) (b := p0) (x_X3_readSum l D Y Z H.size ws T g q p0 hT ht0) ⟨hx, hb, hml, hown, hg⟩ lk_X3_115 ⟨CPC.blind, va_recv hKN.1 hP (ci := 3) (q0 := p21) rfl hk22, CPC.at hP hKN hD hSZ hS hA⟩ ⟨⟨rfl, rfl⟩, ⟨Nat.le_of_ble_eq_true rfl, Nat.le_of_ble_eq_true rfl⟩, ⟨(Nat.le_of_ble_eq_true rfl), (Nat.le_of_ble_eq_true rfl)⟩⟩ hl.1 rfl (Nat.le_of_ble_eq_true rfl) dX3_readFact_99) hP hD hS hA (fun u33 H locs hw34 hP hD hS => ?_)
        obtain ⟨hT, ke36, ke37⟩ : TW Y Z T g q u33 ∧ KF 1 T ws u33 ∧ KF 6 T ws u33 := hw34
        have ke38 : KF 1 T ws u33 := KF.tr KF.rf ke36
        have ke39 : KF 6 T ws u33 := KF.tr KF.rf ke37
        refine W.eq (g2 := F0 m 102 ls []) rfl ?_
        refine lv_aload_n hx hb dX3_readFact_102 rfl (lv_at hl 1 rfl) ?_
        refine ok7 hT ht0 (fun p60 n40 a41 x42 x43 x44 x45 x46 x47 x48 x49 a50 a51 x52 hk61 h53 h54 h55 h56 h57 h58 h59 => ?_)
        refine va_get (D := D) (ci := 3) (v := .int x44) (C := RX3) (T := TX3) (N := 12) hx hb hg inGX3 hown hKN.1 hP p60 hk61 rfl 3 (by decide) (hg _ kw_181) (fun _ h9 => h9) rfl dX3_readFact_103 ?_
        refine lv_istore_n (lv' := [(3, .int x44), (2, .int 0), (0, .ref p0), (1, .int 1)]) hx hb dX3_readFact_106 rfl hl (by decide) rfl (fun ls hl => ?_)
        refine lv_aload_n hx hb dX3_readFact_107 rfl (lv_at hl 2 rfl) ?_
        refine cga (rn_V (As := []) (rest := []) (b := p0) (x_X3_readSign l D Y Z H.size u33 T g q p0 hT ht0) ⟨hx, hb, hml, hown, hg⟩ lk_X3_161 ⟨CPC.blind, va_recv hKN.1 hP (ci := 3) (q0 := p60) rfl hk61, CPC.at hP hKN hD hSZ hS hA⟩ ⟨⟨rfl, rfl⟩, ⟨Nat.le_of_ble_eq_true rfl, Nat.le_of_ble_eq_true rfl⟩, ⟨(Nat.le_of_ble_eq_true rfl), (Nat.le_of_ble_eq_true rfl)⟩⟩ hl.1 rfl (Nat.le_of_ble_eq_true rfl) dX3_readFact_108) hP hD hS hA (fun u62 H locs hw63 hP hD hS => ?_)
        obtain ⟨hT, ke65, ke66⟩ : TW Y Z T g q u62 ∧ KF 1 T u33 u62 ∧ KF 6 T u33 u62 := hw63
        have ke67 : KF 1 T ws u62 := KF.tr ke38 ke65
        have ke68 : KF 6 T ws u62 := KF.tr ke39 ke66
        refine W.eq (g2 := F0 m 111 ls []) rfl ?_
        refine lv_aload_n hx hb dX3_readFact_111 rfl (lv_at hl 2 rfl) ?_
        refine ok7 hT ht0 (fun p89 n69 a70 x71 x72 x73 x74 x75 x76 x77 x78 a79 a80 x81 hk90 h82 h83 h84 h85 h86 h87 h88 => ?_)
        refine va_get (D := D) (ci := 3) (v := .int x76) (C := RX3) (T := TX3) (N := 12) hx hb hg inGX3 hown hKN.1 hP p89 hk90 rfl 6 (by decide) (hg _ kw_184) (fun _ h9 => h9) rfl dX3_readFact_112 ?_
        have j91 := rgI x76
        refine lv_if_ne (tgt := 133) hx hb dX3_readFact_115 (by decide) (fun c92 => ?_) (fun c92 => ?_)
        · skip
          have c92 := i_ne (Eq.refl x76.toInt) (show (0 : Int32).toInt = 0 by decide) c92
          refine W.widen (k := 0) (n := 0) (Nat.le_of_ble_eq_true rfl) (Nat.le_of_ble_eq_true rfl) ?_
          have zi0 : (0 : Int32).toInt = 0 := by decide
          have zi1 : (1 : Int32).toInt = 1 := by decide
          exact W.vret hx hb hr (fun t ht hW => ⟨⟨u62, rfl, ⟨hT, ke67, ke68⟩, CB.mk ht hP hD⟩, hS.F ht⟩) hS.2.2 dX3_readFact_133
        · skip
          have c92 := i_eq (Eq.refl x76.toInt) (show (0 : Int32).toInt = 0 by decide) c92
          refine lv_aload_n hx hb dX3_readFact_118 rfl (lv_at hl 2 rfl) ?_
          refine cga (rn_V (As := []) (rest := []) (b := p0) (x_X3_readSum l D Y Z H.size u62 T g q p0 hT ht0) ⟨hx, hb, hml, hown, hg⟩ lk_X3_115 ⟨CPC.blind, va_recv hKN.1 hP (ci := 3) (q0 := p89) rfl hk90, CPC.at hP hKN hD hSZ hS hA⟩ ⟨⟨rfl, rfl⟩, ⟨Nat.le_of_ble_eq_true rfl, Nat.le_of_ble_eq_true rfl⟩, ⟨(Nat.le_of_ble_eq_true rfl), (Nat.le_of_ble_eq_true rfl)⟩⟩ hl.1 rfl (Nat.le_of_ble_eq_true rfl) dX3_readFact_119) hP hD hS hA (fun u93 H locs hw94 hP hD hS => ?_)
          obtain ⟨hT, ke96, ke97⟩ : TW Y Z T g q u93 ∧ KF 1 T u62 u93 ∧ KF 6 T u62 u93 := hw94
          have ke98 : KF 1 T ws u93 := KF.tr ke67 ke96
          have ke99 : KF 6 T ws u93 := KF.tr ke68 ke97
          refine W.eq (g2 := F0 m 122 ls []) rfl ?_
          refine lv_aload_n hx hb dX3_readFact_122 rfl (lv_at hl 2 rfl) ?_
          refine ok7 hT ht0 (fun p120 n100 a101 x102 x103 x104 x105 x106 x107 x108 x109 a110 a111 x112 hk121 h113 h114 h115 h116 h117 h118 h119 => ?_)
          refine va_get (D := D) (ci := 3) (v := .ref a111) (C := RX3) (T := TX3) (N := 12) hx hb hg inGX3 hown hKN.1 hP p120 hk121 rfl 10 (by decide) (hg _ kw_188) (fun _ h9 => h9) rfl dX3_readFact_123 ?_
          refine lv_ldc (v := 200000) hx hb hown (hg _ kw_717) dX3_readFact_126 ?_
          refine lv_iload_n hx hb dX3_readFact_128 rfl (lv_at hl 0 rfl) ?_
          refine lv_iadd hx hb dX3_readFact_129 ?_
          refine lv_topi (fun v122 ev122 => ?_)
          refine ok5 hT h117 (fun p144 x123 x124 x125 x126 x127 x128 x129 x130 a131 a132 a133 a134 a135 x136 hk145 h137 h138 h139 h140 h141 h142 h143 => ?_)
          refine cga (rn_NV (As := [.int v122]) (rest := []) (b := a111) (x_X8_addCode l D Y Z H.size u93 T g q a111 v122 hT h117) ⟨hx, hb, hml, hown, hg⟩ hKN lk_X3_154 ⟨CPC.blind, va_recv hKN.1 hP (ci := 8) (q0 := p144) rfl hk145, CPC.at hP hKN hD hSZ hS hA⟩ ⟨⟨rfl, rfl⟩, ⟨Nat.le_of_ble_eq_true rfl, Nat.le_of_ble_eq_true rfl⟩, ⟨(Nat.le_of_ble_eq_true rfl), (Nat.le_of_ble_eq_true rfl)⟩⟩ hl.1 rfl (Nat.le_of_ble_eq_true rfl) dX3_readFact_130) hP hD hS hA (fun u146 H locs hw147 hP hD hS => ?_)
          obtain ⟨hT, ke149, ke150⟩ : TW Y Z T g q u146 ∧ KF 1 T u93 u146 ∧ KF 6 T u93 u146 := hw147
          have ke151 : KF 1 T ws u146 := KF.tr ke98 ke149
          have ke152 : KF 6 T ws u146 := KF.tr ke99 ke150
          refine W.eq (g2 := F0 m 133 ls []) rfl ?_
          refine W.widen (k := 0) (n := 0) (Nat.le_of_ble_eq_true rfl) (Nat.le_of_ble_eq_true rfl) ?_
          have zi0 : (0 : Int32).toInt = 0 := by decide
          have zi1 : (1 : Int32).toInt = 1 := by decide
          exact W.vret hx hb hr (fun t ht hW => ⟨⟨u146, rfl, ⟨hT, ke151, ke152⟩, CB.mk ht hP hD⟩, hS.F ht⟩) hS.2.2 dX3_readFact_133
      · skip
        have c32 := i_eq (Eq.refl x5.toInt) (show (91 : Int32).toInt = 91 by decide) c32
        refine lv_aload_n hx hb dX3_readFact_78 rfl (lv_at hl 1 rfl) ?_
        refine cga (rn_V (As := []) (rest := []) (b := p0) (x_X3_step l D Y Z H.size ws T g q p0 hT ht0) ⟨hx, hb, hml, hown, hg⟩ lk_X3_61 ⟨CPC.blind, va_recv hKN.1 hP (ci := 3) (q0 := p21) rfl hk22, CPC.at hP hKN hD hSZ hS hA⟩ ⟨⟨rfl, rfl⟩, ⟨Nat.le_of_ble_eq_true rfl, Nat.le_of_ble_eq_true rfl⟩, ⟨(Nat.le_of_ble_eq_true rfl), (Nat.le_of_ble_eq_true rfl)⟩⟩ hl.1 rfl (Nat.le_of_ble_eq_true rfl) dX3_readFact_79) hP hD hS hA (fun u153 H locs hw154 hP hD hS => ?_)
        obtain ⟨hT, ke156, ke157⟩ : TW Y Z T g q u153 ∧ KF 1 T ws u153 ∧ KF 6 T ws u153 := hw154
        have ke158 : KF 1 T ws u153 := KF.tr KF.rf ke156
        have ke159 : KF 6 T ws u153 := KF.tr KF.rf ke157
        refine W.eq (g2 := F0 m 82 ls []) rfl ?_
        refine lv_aload_n hx hb dX3_readFact_82 rfl (lv_at hl 1 rfl) ?_
        refine lv_iload_n hx hb dX3_readFact_83 rfl (lv_at hl 2 rfl) ?_
        refine lv_iconst (v := 1) hx hb dX3_readFact_84 (by decide) ?_
        refine lv_iadd hx hb dX3_readFact_85 ?_
        refine lv_topi (fun z160 ez160 => ?_)
        obtain rfl : z160 = 2 := ez160.trans (by decide)
        have zi2 : (2 : Int32).toInt = 2 := by decide
        refine ok7 hT ht0 (fun p181 n161 a162 x163 x164 x165 x166 x167 x168 x169 x170 a171 a172 x173 hk182 h174 h175 h176 h177 h178 h179 h180 => ?_)
        refine cga (rn_V (As := [.int 2]) (rest := []) (b := p0) (x_X3_readTest_2 l D Y Z H.size u153 T g q p0 hT ht0) ⟨hx, hb, hml, hown, hg⟩ lk_X3_123 ⟨CPC.blind, va_recv hKN.1 hP (ci := 3) (q0 := p181) rfl hk182, CPC.at hP hKN hD hSZ hS hA⟩ ⟨⟨rfl, rfl⟩, ⟨Nat.le_of_ble_eq_true rfl, Nat.le_of_ble_eq_true rfl⟩, ⟨(Nat.le_of_ble_eq_true rfl), (Nat.le_of_ble_eq_true rfl)⟩⟩ hl.1 rfl (Nat.le_of_ble_eq_true rfl) dX3_readFact_86) hP hD hS hA (fun u183 H locs hw184 hP hD hS => ?_)
        obtain ⟨hT, ke186, ke187⟩ : TW Y Z T g q u183 ∧ KF 1 T u153 u183 ∧ KF 6 T u153 u183 := hw184
        have ke188 : KF 1 T ws u183 := KF.tr ke158 ke186
        have ke189 : KF 6 T ws u183 := KF.tr ke159 ke187
        refine W.eq (g2 := F0 m 89 ls []) rfl ?_
        refine lv_aload_n hx hb dX3_readFact_89 rfl (lv_at hl 1 rfl) ?_
        refine lv_bipush (v := 93) hx hb dX3_readFact_90 (by decide) ?_
        have zi93 : (93 : Int32).toInt = 93 := by decide
        refine ok7 hT ht0 (fun p210 n190 a191 x192 x193 x194 x195 x196 x197 x198 x199 a200 a201 x202 hk211 h203 h204 h205 h206 h207 h208 h209 => ?_)
        refine cga (rn_V (As := [.int 93]) (rest := []) (b := p0) (x_X3_expect l D Y Z H.size u183 T g q p0 93 hT ht0) ⟨hx, hb, hml, hown, hg⟩ lk_X3_71 ⟨CPC.blind, va_recv hKN.1 hP (ci := 3) (q0 := p210) rfl hk211, CPC.at hP hKN hD hSZ hS hA⟩ ⟨⟨rfl, rfl⟩, ⟨Nat.le_of_ble_eq_true rfl, Nat.le_of_ble_eq_true rfl⟩, ⟨(Nat.le_of_ble_eq_true rfl), (Nat.le_of_ble_eq_true rfl)⟩⟩ hl.1 rfl (Nat.le_of_ble_eq_true rfl) dX3_readFact_92) hP hD hS hA (fun u212 H locs hw213 hP hD hS => ?_)
        obtain ⟨hT, ke215, ke216⟩ : TW Y Z T g q u212 ∧ KF 1 T u183 u212 ∧ KF 6 T u183 u212 := hw213
        have ke217 : KF 1 T ws u212 := KF.tr ke188 ke215
        have ke218 : KF 6 T ws u212 := KF.tr ke189 ke216
        refine W.eq (g2 := F0 m 95 ls []) rfl ?_
        refine lv_goto (tgt := 133) hx hb dX3_readFact_95 (by decide) ?_
        refine W.widen (k := 0) (n := 0) (Nat.le_of_ble_eq_true rfl) (Nat.le_of_ble_eq_true rfl) ?_
        have zi0 : (0 : Int32).toInt = 0 := by decide
        have zi1 : (1 : Int32).toInt = 1 := by decide
        exact W.vret hx hb hr (fun t ht hW => ⟨⟨u212, rfl, ⟨hT, ke217, ke218⟩, CB.mk ht hP hD⟩, hS.F ht⟩) hS.2.2 dX3_readFact_133
    · skip
      have c30 := i_eq (Eq.refl x5.toInt) (show (91 : Int32).toInt = 91 by decide) c30
      refine lv_iload_n hx hb dX3_readFact_28 rfl (lv_at hl 2 rfl) ?_
      refine lv_bipush (v := 10) hx hb dX3_readFact_29 (by decide) ?_
      refine lv_icmp_lt (tgt := 42) hx hb dX3_readFact_31 (by decide) (fun c219 => ?_) (fun c219 => ?_)
      rotate_left
      · exact absurd c219 (by decide)
      refine lv_iload_n hx hb dX3_readFact_42 rfl (lv_at hl 0 rfl) ?_
      refine lv_if_eq (tgt := 69) hx hb dX3_readFact_43 (by decide) (fun c220 => ?_) (fun c220 => ?_)
      rotate_left
      · exact absurd c220 (by decide)
      refine lv_aload_n hx hb dX3_readFact_69 rfl (lv_at hl 1 rfl) ?_
      refine va_get (D := D) (ci := 3) (v := .int x5) (C := RX3) (T := TX3) (N := 12) hx hb hg inGX3 hown hKN.1 hP p21 hk22 rfl 3 (by decide) (hg _ kw_181) (fun _ h9 => h9) rfl dX3_readFact_70 ?_
      refine lv_bipush (v := 91) hx hb dX3_readFact_73 (by decide) ?_
      refine lv_icmp_ne (tgt := 98) hx hb dX3_readFact_75 (by decide) (fun c221 => ?_) (fun c221 => ?_)
      · have c221 := i_ne (Eq.refl x5.toInt) (show (91 : Int32).toInt = 91 by decide) c221; exfalso; omega
      have c221 := i_eq (Eq.refl x5.toInt) (show (91 : Int32).toInt = 91 by decide) c221
      refine lv_aload_n hx hb dX3_readFact_78 rfl (lv_at hl 1 rfl) ?_
      refine cga (rn_V (As := []) (rest := []) (b := p0) (x_X3_step l D Y Z H.size ws T g q p0 hT ht0) ⟨hx, hb, hml, hown, hg⟩ lk_X3_61 ⟨CPC.blind, va_recv hKN.1 hP (ci := 3) (q0 := p21) rfl hk22, CPC.at hP hKN hD hSZ hS hA⟩ ⟨⟨rfl, rfl⟩, ⟨Nat.le_of_ble_eq_true rfl, Nat.le_of_ble_eq_true rfl⟩, ⟨(Nat.le_of_ble_eq_true rfl), (Nat.le_of_ble_eq_true rfl)⟩⟩ hl.1 rfl (Nat.le_of_ble_eq_true rfl) dX3_readFact_79) hP hD hS hA (fun u222 H locs hw223 hP hD hS => ?_)
      obtain ⟨hT, ke225, ke226⟩ : TW Y Z T g q u222 ∧ KF 1 T ws u222 ∧ KF 6 T ws u222 := hw223
      have ke227 : KF 1 T ws u222 := KF.tr KF.rf ke225
      have ke228 : KF 6 T ws u222 := KF.tr KF.rf ke226
      refine W.eq (g2 := F0 m 82 ls []) rfl ?_
      refine lv_aload_n hx hb dX3_readFact_82 rfl (lv_at hl 1 rfl) ?_
      refine lv_iload_n hx hb dX3_readFact_83 rfl (lv_at hl 2 rfl) ?_
      refine lv_iconst (v := 1) hx hb dX3_readFact_84 (by decide) ?_
      refine lv_iadd hx hb dX3_readFact_85 ?_
      refine lv_topi (fun z229 ez229 => ?_)
      obtain rfl : z229 = 2 := ez229.trans (by decide)
      have zi2 : (2 : Int32).toInt = 2 := by decide
      refine ok7 hT ht0 (fun p250 n230 a231 x232 x233 x234 x235 x236 x237 x238 x239 a240 a241 x242 hk251 h243 h244 h245 h246 h247 h248 h249 => ?_)
      refine cga (rn_V (As := [.int 2]) (rest := []) (b := p0) (x_X3_readTest_2 l D Y Z H.size u222 T g q p0 hT ht0) ⟨hx, hb, hml, hown, hg⟩ lk_X3_123 ⟨CPC.blind, va_recv hKN.1 hP (ci := 3) (q0 := p250) rfl hk251, CPC.at hP hKN hD hSZ hS hA⟩ ⟨⟨rfl, rfl⟩, ⟨Nat.le_of_ble_eq_true rfl, Nat.le_of_ble_eq_true rfl⟩, ⟨(Nat.le_of_ble_eq_true rfl), (Nat.le_of_ble_eq_true rfl)⟩⟩ hl.1 rfl (Nat.le_of_ble_eq_true rfl) dX3_readFact_86) hP hD hS hA (fun u252 H locs hw253 hP hD hS => ?_)
      obtain ⟨hT, ke255, ke256⟩ : TW Y Z T g q u252 ∧ KF 1 T u222 u252 ∧ KF 6 T u222 u252 := hw253
      have ke257 : KF 1 T ws u252 := KF.tr ke227 ke255
      have ke258 : KF 6 T ws u252 := KF.tr ke228 ke256
      refine W.eq (g2 := F0 m 89 ls []) rfl ?_
      refine lv_aload_n hx hb dX3_readFact_89 rfl (lv_at hl 1 rfl) ?_
      refine lv_bipush (v := 93) hx hb dX3_readFact_90 (by decide) ?_
      have zi93 : (93 : Int32).toInt = 93 := by decide
      refine ok7 hT ht0 (fun p279 n259 a260 x261 x262 x263 x264 x265 x266 x267 x268 a269 a270 x271 hk280 h272 h273 h274 h275 h276 h277 h278 => ?_)
      refine cga (rn_V (As := [.int 93]) (rest := []) (b := p0) (x_X3_expect l D Y Z H.size u252 T g q p0 93 hT ht0) ⟨hx, hb, hml, hown, hg⟩ lk_X3_71 ⟨CPC.blind, va_recv hKN.1 hP (ci := 3) (q0 := p279) rfl hk280, CPC.at hP hKN hD hSZ hS hA⟩ ⟨⟨rfl, rfl⟩, ⟨Nat.le_of_ble_eq_true rfl, Nat.le_of_ble_eq_true rfl⟩, ⟨(Nat.le_of_ble_eq_true rfl), (Nat.le_of_ble_eq_true rfl)⟩⟩ hl.1 rfl (Nat.le_of_ble_eq_true rfl) dX3_readFact_92) hP hD hS hA (fun u281 H locs hw282 hP hD hS => ?_)
      obtain ⟨hT, ke284, ke285⟩ : TW Y Z T g q u281 ∧ KF 1 T u252 u281 ∧ KF 6 T u252 u281 := hw282
      have ke286 : KF 1 T ws u281 := KF.tr ke257 ke284
      have ke287 : KF 6 T ws u281 := KF.tr ke258 ke285
      refine W.eq (g2 := F0 m 95 ls []) rfl ?_
      refine lv_goto (tgt := 133) hx hb dX3_readFact_95 (by decide) ?_
      refine W.widen (k := 0) (n := 0) (Nat.le_of_ble_eq_true rfl) (Nat.le_of_ble_eq_true rfl) ?_
      have zi0 : (0 : Int32).toInt = 0 := by decide
      have zi1 : (1 : Int32).toInt = 1 := by decide
      exact W.vret hx hb hr (fun t ht hW => ⟨⟨u281, rfl, ⟨hT, ke286, ke287⟩, CB.mk ht hP hD⟩, hS.F ht⟩) hS.2.2 dX3_readFact_133
  · skip
    have c27 := i_eq (Eq.refl u23.toInt) (show (0 : Int32).toInt = 0 by decide) c27
    refine lv_iconst (v := 1) hx hb dX3_readFact_9 (by decide) ?_
    refine lv_goto (tgt := 14) hx hb dX3_readFact_10 (by decide) ?_
    refine lv_istore_n (lv' := [(2, .int 1), (0, .ref p0), (1, .int 1)]) hx hb dX3_readFact_14 rfl hl (by decide) rfl (fun ls hl => ?_)
    refine lv_iload_n hx hb dX3_readFact_15 rfl (lv_at hl 0 rfl) ?_
    refine lv_if_ne (tgt := 28) hx hb dX3_readFact_16 (by decide) (fun c288 => ?_) (fun c288 => ?_)
    rotate_left
    · exact absurd c288 (by decide)
    refine lv_iload_n hx hb dX3_readFact_28 rfl (lv_at hl 2 rfl) ?_
    refine lv_bipush (v := 10) hx hb dX3_readFact_29 (by decide) ?_
    refine lv_icmp_lt (tgt := 42) hx hb dX3_readFact_31 (by decide) (fun c289 => ?_) (fun c289 => ?_)
    rotate_left
    · exact absurd c289 (by decide)
    refine lv_iload_n hx hb dX3_readFact_42 rfl (lv_at hl 0 rfl) ?_
    refine lv_if_eq (tgt := 69) hx hb dX3_readFact_43 (by decide) (fun c290 => ?_) (fun c290 => ?_)
    · exact absurd c290 (by decide)
    refine lv_aload_n hx hb dX3_readFact_46 rfl (lv_at hl 1 rfl) ?_
    refine cga (rn_V (As := []) (rest := []) (b := p0) (x_X3_step l D Y Z H.size ws T g q p0 hT ht0) ⟨hx, hb, hml, hown, hg⟩ lk_X3_61 ⟨CPC.blind, va_recv hKN.1 hP (ci := 3) (q0 := p21) rfl hk22, CPC.at hP hKN hD hSZ hS hA⟩ ⟨⟨rfl, rfl⟩, ⟨Nat.le_of_ble_eq_true rfl, Nat.le_of_ble_eq_true rfl⟩, ⟨(Nat.le_of_ble_eq_true rfl), (Nat.le_of_ble_eq_true rfl)⟩⟩ hl.1 rfl (Nat.le_of_ble_eq_true rfl) dX3_readFact_47) hP hD hS hA (fun u291 H locs hw292 hP hD hS => ?_)
    obtain ⟨hT, ke294, ke295⟩ : TW Y Z T g q u291 ∧ KF 1 T ws u291 ∧ KF 6 T ws u291 := hw292
    have ke296 : KF 1 T ws u291 := KF.tr KF.rf ke294
    have ke297 : KF 6 T ws u291 := KF.tr KF.rf ke295
    refine W.eq (g2 := F0 m 50 ls []) rfl ?_
    refine lv_aload_n hx hb dX3_readFact_50 rfl (lv_at hl 1 rfl) ?_
    refine lv_iload_n hx hb dX3_readFact_51 rfl (lv_at hl 2 rfl) ?_
    refine lv_iconst (v := 1) hx hb dX3_readFact_52 (by decide) ?_
    refine lv_iadd hx hb dX3_readFact_53 ?_
    refine lv_topi (fun z298 ez298 => ?_)
    obtain rfl : z298 = 2 := ez298.trans (by decide)
    have zi2 : (2 : Int32).toInt = 2 := by decide
    refine ok7 hT ht0 (fun p319 n299 a300 x301 x302 x303 x304 x305 x306 x307 x308 a309 a310 x311 hk320 h312 h313 h314 h315 h316 h317 h318 => ?_)
    refine cga (rn_V (As := [.int 2]) (rest := []) (b := p0) (x_X3_readFact_2 l D Y Z H.size u291 T g q p0 hT ht0) ⟨hx, hb, hml, hown, hg⟩ lk_X3_148 ⟨CPC.blind, va_recv hKN.1 hP (ci := 3) (q0 := p319) rfl hk320, CPC.at hP hKN hD hSZ hS hA⟩ ⟨⟨rfl, rfl⟩, ⟨Nat.le_of_ble_eq_true rfl, Nat.le_of_ble_eq_true rfl⟩, ⟨(Nat.le_of_ble_eq_true rfl), (Nat.le_of_ble_eq_true rfl)⟩⟩ hl.1 rfl (Nat.le_of_ble_eq_true rfl) dX3_readFact_54) hP hD hS hA (fun u321 H locs hw322 hP hD hS => ?_)
    obtain ⟨hT, ke324, ke325⟩ : TW Y Z T g q u321 ∧ KF 1 T u291 u321 ∧ KF 6 T u291 u321 := hw322
    have ke326 : KF 1 T ws u321 := KF.tr ke296 ke324
    have ke327 : KF 6 T ws u321 := KF.tr ke297 ke325
    refine W.eq (g2 := F0 m 57 ls []) rfl ?_
    refine lv_aload_n hx hb dX3_readFact_57 rfl (lv_at hl 1 rfl) ?_
    refine ok7 hT ht0 (fun p348 n328 a329 x330 x331 x332 x333 x334 x335 x336 x337 a338 a339 x340 hk349 h341 h342 h343 h344 h345 h346 h347 => ?_)
    refine va_get (D := D) (ci := 3) (v := .ref a339) (C := RX3) (T := TX3) (N := 12) hx hb hg inGX3 hown hKN.1 hP p348 hk349 rfl 10 (by decide) (hg _ kw_188) (fun _ h9 => h9) rfl dX3_readFact_58 ?_
    refine lv_ldc (v := 200261) hx hb hown (hg _ kw_732) dX3_readFact_61 ?_
    have zi200261 : (200261 : Int32).toInt = 200261 := by decide
    refine ok5 hT h345 (fun p371 x350 x351 x352 x353 x354 x355 x356 x357 a358 a359 a360 a361 a362 x363 hk372 h364 h365 h366 h367 h368 h369 h370 => ?_)
    refine cga (rn_NV (As := [.int 200261]) (rest := []) (b := a339) (x_X8_addCode l D Y Z H.size u321 T g q a339 200261 hT h345) ⟨hx, hb, hml, hown, hg⟩ hKN lk_X3_154 ⟨CPC.blind, va_recv hKN.1 hP (ci := 8) (q0 := p371) rfl hk372, CPC.at hP hKN hD hSZ hS hA⟩ ⟨⟨rfl, rfl⟩, ⟨Nat.le_of_ble_eq_true rfl, Nat.le_of_ble_eq_true rfl⟩, ⟨(Nat.le_of_ble_eq_true rfl), (Nat.le_of_ble_eq_true rfl)⟩⟩ hl.1 rfl (Nat.le_of_ble_eq_true rfl) dX3_readFact_63) hP hD hS hA (fun u373 H locs hw374 hP hD hS => ?_)
    obtain ⟨hT, ke376, ke377⟩ : TW Y Z T g q u373 ∧ KF 1 T u321 u373 ∧ KF 6 T u321 u373 := hw374
    have ke378 : KF 1 T ws u373 := KF.tr ke326 ke376
    have ke379 : KF 6 T ws u373 := KF.tr ke327 ke377
    refine W.eq (g2 := F0 m 66 ls []) rfl ?_
    refine lv_goto (tgt := 133) hx hb dX3_readFact_66 (by decide) ?_
    refine W.widen (k := 0) (n := 0) (Nat.le_of_ble_eq_true rfl) (Nat.le_of_ble_eq_true rfl) ?_
    have zi1 : (1 : Int32).toInt = 1 := by decide
    exact W.vret hx hb hr (fun t ht hW => ⟨⟨u373, rfl, ⟨hT, ke378, ke379⟩, CB.mk ht hP hD⟩, hS.F ht⟩) hS.2.2 dX3_readFact_133
set_option maxHeartbeats 4000000 in
set_option maxRecDepth 100000 in
theorem x_X3_readTest_1 (l : Launch) (D : va_G) (Y : Nat → ClassId) (Z : Nat → Nat) (sz : Nat) (ws : va_W) (T : RT) (g : GN) (q : GQ)  (p0 : Nat) (hT : TW Y Z T g q ws) (ht0 : T p0 = (7, 0, 0)) : Met l yX3_readTest (.code yX3_readTest cX3_readTest 5 none :: GW) ({ frames := 26, cells := 0, slots := 0, locals := 602 }) (va_Pc [.ref p0, .int 1] (CPC D Y Z ws sz)) (QG (S := va_W) (fun _ => none) (fun u => TW Y Z T g q u ∧ KF 1 T ws u ∧ KF 6 T ws u) (fun u => CB D u (va_A ws sz)) (va_A ws sz)) 0 0 (va_A ws sz) := by
  refine Met.ofW (cc := cX3_readTest) (maxL := 5) (ret := none) (by decide) rfl ?_
  intro p e s m args below meth c s₁ B hml hv
  obtain ⟨rfl, ⟨hsz, hP, hKN, hD0⟩, hSZ⟩ := hv
  have hx := B.exec
  have hb := B.bytes
  have hr := B.returns
  have hts := atoms_spec (ws := .code yX3_readTest cX3_readTest 5 none :: GW) B.pre
  have hg : ∀ w ∈ GW, w.before _ s = true := fun w h => hts w (List.mem_cons_of_mem _ h)
  have hown : s.vm.findClass RX3 = some m.cls := findClass_of_methodNamed B.named
  have hlocks := B.notSynchronized
  subst hsz
  have hD := hD0.self (sz := s.heap.size)
  generalize hAe : va_A ws s.heap.size = A at hD hSZ ⊢
  have hA : ∀ q : Nat, s.heap.size ≤ q → A q := fun q h => by rw [← hAe]; exact Or.inr h
  clear hAe hD0 hts B
  have hl := lv_entry ([.ref p0, .int 1]) (n := 5) (Nat.le_of_ble_eq_true rfl)
  rw [lg_entry_eq]
  generalize (lg_sl ([.ref p0, .int 1]) ++ List.replicate (5 - (lg_sl ([.ref p0, .int 1])).length) Slot.unset).toArray = ls at hl ⊢
  have hl : lv_has ls 5 [(0, .ref p0), (1, .int 1)] := hl
  refine w_start (A0 := A) hP (fun H locs hP hS => ?_)
  refine lv_iconst (v := 0) hx hb dX3_readTest_0 (by decide) ?_
  refine lv_istore_n (lv' := [(2, .int 0), (0, .ref p0), (1, .int 1)]) hx hb dX3_readTest_1 rfl hl (by decide) rfl (fun ls hl => ?_)
  refine lv_aload_n hx hb dX3_readTest_2 rfl (lv_at hl 1 rfl) ?_
  refine lv_iload_n hx hb dX3_readTest_3 rfl (lv_at hl 2 rfl) ?_
  have zi1 : (1 : Int32).toInt = 1 := by decide
  refine ok7 hT ht0 (fun p21 n1 a2 x3 x4 x5 x6 x7 x8 x9 x10 a11 a12 x13 hk22 h14 h15 h16 h17 h18 h19 h20 => ?_)
  refine cga (rn_V (As := [.int 1]) (rest := []) (b := p0) (x_X3_readFact_1 l D Y Z H.size ws T g q p0 hT ht0) ⟨hx, hb, hml, hown, hg⟩ lk_X3_148 ⟨CPC.blind, va_recv hKN.1 hP (ci := 3) (q0 := p21) rfl hk22, CPC.at hP hKN hD hSZ hS hA⟩ ⟨⟨rfl, rfl⟩, ⟨Nat.le_of_ble_eq_true rfl, Nat.le_of_ble_eq_true rfl⟩, ⟨(Nat.le_of_ble_eq_true rfl), (Nat.le_of_ble_eq_true rfl)⟩⟩ hl.1 rfl (Nat.le_of_ble_eq_true rfl) dX3_readTest_4) hP hD hS hA (fun u23 H locs hw24 hP hD hS => ?_)
  obtain ⟨hT, ke26, ke27⟩ : TW Y Z T g q u23 ∧ KF 1 T ws u23 ∧ KF 6 T ws u23 := hw24
  have ke28 : KF 1 T ws u23 := KF.tr KF.rf ke26
  have ke29 : KF 6 T ws u23 := KF.tr KF.rf ke27
  refine W.eq (g2 := F0 m 7 ls []) rfl ?_
  refine lv_iconst (v := 0) hx hb dX3_readTest_7 (by decide) ?_
  refine lv_istore_n (lv' := [(3, .int 0), (2, .int 0), (0, .ref p0), (1, .int 1)]) hx hb dX3_readTest_8 rfl hl (by decide) rfl (fun ls hl => ?_)
  have zi0 : (0 : Int32).toInt = 0 := by decide
  refine w_loop (σ := Int32 × Int32 × va_W) (fun xx H locs ls => match xx with | (v215, v216, w217) => va_P D vwCl w217 H ∧ va_D A w217 ∧ va_S A s.heap H locs ∧ lv_has ls 5 [(3, .int v215), (2, .int v216), (0, .ref p0), (1, .int 1)] ∧ TW Y Z T g q w217 ∧ KF 1 T ws w217 ∧ KF 6 T ws w217 ∧ (0 ≤ v215.toInt ∧ v215.toInt ≤ 400)) (fun xx => match xx with | (v215, v216, w217) => (400 - v215.toInt).toNat) (0, 0, u23) ⟨hP, hD, hS, lv_sub hl [0, 1, 2, 3] rfl, hT, ke28, ke29, by omega⟩ (fun xx H locs ls hI ih => ?_)
  obtain ⟨v215, v216, w217⟩ := xx
  obtain ⟨hP, hD, hS, hl, hT, ke610, ke611, hq609⟩ := hI
  have ih612 := ih
  refine lv_iload_n hx hb dX3_readTest_9 rfl (lv_at hl 0 rfl) ?_
  refine lv_sipush (v := 400) hx hb dX3_readTest_10 (by decide) ?_
  refine lv_icmp_ge (tgt := 104) hx hb dX3_readTest_13 (by decide) (fun c613 => ?_) (fun c613 => ?_)
  · skip
    have c613 := i_le (show (400 : Int32).toInt = 400 by decide) (Eq.refl v215.toInt) c613
    refine lv_iload_n hx hb dX3_readTest_104 rfl (lv_at hl 1 rfl) ?_
    have j614 := rgI v216
    refine lv_if_eq (tgt := 117) hx hb dX3_readTest_105 (by decide) (fun c615 => ?_) (fun c615 => ?_)
    · skip
      have c615 := i_eq (Eq.refl v216.toInt) (show (0 : Int32).toInt = 0 by decide) c615
      refine W.widen (k := 0) (n := 0) (Nat.le_of_ble_eq_true rfl) (Nat.le_of_ble_eq_true rfl) ?_
      exact W.vret hx hb hr (fun t ht hW => ⟨⟨w217, rfl, ⟨hT, ke610, ke611⟩, CB.mk ht hP hD⟩, hS.F ht⟩) hS.2.2 dX3_readTest_117
    · skip
      have c615 := i_ne (Eq.refl v216.toInt) (show (0 : Int32).toInt = 0 by decide) c615
      refine lv_aload_n hx hb dX3_readTest_108 rfl (lv_at hl 2 rfl) ?_
      refine ok7 hT ht0 (fun p636 n616 a617 x618 x619 x620 x621 x622 x623 x624 x625 a626 a627 x628 hk637 h629 h630 h631 h632 h633 h634 h635 => ?_)
      refine va_get (D := D) (ci := 3) (v := .ref a627) (C := RX3) (T := TX3) (N := 12) hx hb hg inGX3 hown hKN.1 hP p636 hk637 rfl 10 (by decide) (hg _ kw_188) (fun _ h9 => h9) rfl dX3_readTest_109 ?_
      refine lv_ldc (v := 200263) hx hb hown (hg _ kw_742) dX3_readTest_112 ?_
      have zi200263 : (200263 : Int32).toInt = 200263 := by decide
      refine ok5 hT h633 (fun p659 x638 x639 x640 x641 x642 x643 x644 x645 a646 a647 a648 a649 a650 x651 hk660 h652 h653 h654 h655 h656 h657 h658 => ?_)
      refine cga (rn_NV (As := [.int 200263]) (rest := []) (b := a627) (x_X8_addCode l D Y Z H.size w217 T g q a627 200263 hT h633) ⟨hx, hb, hml, hown, hg⟩ hKN lk_X3_154 ⟨CPC.blind, va_recv hKN.1 hP (ci := 8) (q0 := p659) rfl hk660, CPC.at hP hKN hD hSZ hS hA⟩ ⟨⟨rfl, rfl⟩, ⟨Nat.le_of_ble_eq_true rfl, Nat.le_of_ble_eq_true rfl⟩, ⟨(Nat.le_of_ble_eq_true rfl), (Nat.le_of_ble_eq_true rfl)⟩⟩ hl.1 rfl (Nat.le_of_ble_eq_true rfl) dX3_readTest_114) hP hD hS hA (fun u661 H locs hw662 hP hD hS => ?_)
      obtain ⟨hT, ke664, ke665⟩ : TW Y Z T g q u661 ∧ KF 1 T w217 u661 ∧ KF 6 T w217 u661 := hw662
      have ke666 : KF 1 T ws u661 := KF.tr ke610 ke664
      have ke667 : KF 6 T ws u661 := KF.tr ke611 ke665
      refine W.eq (g2 := F0 m 117 ls []) rfl ?_
      refine W.widen (k := 0) (n := 0) (Nat.le_of_ble_eq_true rfl) (Nat.le_of_ble_eq_true rfl) ?_
      exact W.vret hx hb hr (fun t ht hW => ⟨⟨u661, rfl, ⟨hT, ke666, ke667⟩, CB.mk ht hP hD⟩, hS.F ht⟩) hS.2.2 dX3_readTest_117
  · skip
    have c613 := i_nle (show (400 : Int32).toInt = 400 by decide) (Eq.refl v215.toInt) c613
    refine lv_aload_n hx hb dX3_readTest_16 rfl (lv_at hl 2 rfl) ?_
    refine ok7 hT ht0 (fun p688 n668 a669 x670 x671 x672 x673 x674 x675 x676 x677 a678 a679 x680 hk689 h681 h682 h683 h684 h685 h686 h687 => ?_)
    refine va_get (D := D) (ci := 3) (v := .int x675) (C := RX3) (T := TX3) (N := 12) hx hb hg inGX3 hown hKN.1 hP p688 hk689 rfl 6 (by decide) (hg _ kw_184) (fun _ h9 => h9) rfl dX3_readTest_17 ?_
    have j690 := rgI x675
    refine lv_if_ne (tgt := 104) hx hb dX3_readTest_20 (by decide) (fun c691 => ?_) (fun c691 => ?_)
    · skip
      have c691 := i_ne (Eq.refl x675.toInt) (show (0 : Int32).toInt = 0 by decide) c691
      refine lv_iload_n hx hb dX3_readTest_104 rfl (lv_at hl 1 rfl) ?_
      have j692 := rgI v216
      refine lv_if_eq (tgt := 117) hx hb dX3_readTest_105 (by decide) (fun c693 => ?_) (fun c693 => ?_)
      · skip
        have c693 := i_eq (Eq.refl v216.toInt) (show (0 : Int32).toInt = 0 by decide) c693
        refine W.widen (k := 0) (n := 0) (Nat.le_of_ble_eq_true rfl) (Nat.le_of_ble_eq_true rfl) ?_
        exact W.vret hx hb hr (fun t ht hW => ⟨⟨w217, rfl, ⟨hT, ke610, ke611⟩, CB.mk ht hP hD⟩, hS.F ht⟩) hS.2.2 dX3_readTest_117
      · skip
        have c693 := i_ne (Eq.refl v216.toInt) (show (0 : Int32).toInt = 0 by decide) c693
        refine lv_aload_n hx hb dX3_readTest_108 rfl (lv_at hl 2 rfl) ?_
        refine va_get (D := D) (ci := 3) (v := .ref a679) (C := RX3) (T := TX3) (N := 12) hx hb hg inGX3 hown hKN.1 hP p688 hk689 rfl 10 (by decide) (hg _ kw_188) (fun _ h9 => h9) rfl dX3_readTest_109 ?_
        refine lv_ldc (v := 200263) hx hb hown (hg _ kw_742) dX3_readTest_112 ?_
        have zi200263 : (200263 : Int32).toInt = 200263 := by decide
        refine ok5 hT h685 (fun p715 x694 x695 x696 x697 x698 x699 x700 x701 a702 a703 a704 a705 a706 x707 hk716 h708 h709 h710 h711 h712 h713 h714 => ?_)
        refine cga (rn_NV (As := [.int 200263]) (rest := []) (b := a679) (x_X8_addCode l D Y Z H.size w217 T g q a679 200263 hT h685) ⟨hx, hb, hml, hown, hg⟩ hKN lk_X3_154 ⟨CPC.blind, va_recv hKN.1 hP (ci := 8) (q0 := p715) rfl hk716, CPC.at hP hKN hD hSZ hS hA⟩ ⟨⟨rfl, rfl⟩, ⟨Nat.le_of_ble_eq_true rfl, Nat.le_of_ble_eq_true rfl⟩, ⟨(Nat.le_of_ble_eq_true rfl), (Nat.le_of_ble_eq_true rfl)⟩⟩ hl.1 rfl (Nat.le_of_ble_eq_true rfl) dX3_readTest_114) hP hD hS hA (fun u717 H locs hw718 hP hD hS => ?_)
        obtain ⟨hT, ke720, ke721⟩ : TW Y Z T g q u717 ∧ KF 1 T w217 u717 ∧ KF 6 T w217 u717 := hw718
        have ke722 : KF 1 T ws u717 := KF.tr ke610 ke720
        have ke723 : KF 6 T ws u717 := KF.tr ke611 ke721
        refine W.eq (g2 := F0 m 117 ls []) rfl ?_
        refine W.widen (k := 0) (n := 0) (Nat.le_of_ble_eq_true rfl) (Nat.le_of_ble_eq_true rfl) ?_
        exact W.vret hx hb hr (fun t ht hW => ⟨⟨u717, rfl, ⟨hT, ke722, ke723⟩, CB.mk ht hP hD⟩, hS.F ht⟩) hS.2.2 dX3_readTest_117
    · skip
      have c691 := i_eq (Eq.refl x675.toInt) (show (0 : Int32).toInt = 0 by decide) c691
      refine lv_aload_n hx hb dX3_readTest_23 rfl (lv_at hl 2 rfl) ?_
      refine va_ldcS (q := Z 7) hx hb hown (hKN.2.2.2 7 (RX3, 151, "and or") rfl) dX3_readTest_24 ?_
      refine cga (rn_V (As := [.ref (Z 7)]) (rest := []) (b := p0) (x_X3_whichOf l D Y Z H.size w217 T g q 7 p0 hT ht0 (by decide)) ⟨hx, hb, hml, hown, hg⟩ lk_X3_99 ⟨CPC.blind, va_recv hKN.1 hP (ci := 3) (q0 := p688) rfl hk689, CPC.at hP hKN hD hSZ hS hA⟩ ⟨⟨rfl, rfl⟩, ⟨Nat.le_of_ble_eq_true rfl, Nat.le_of_ble_eq_true rfl⟩, ⟨(Nat.le_of_ble_eq_true rfl), (Nat.le_of_ble_eq_true rfl)⟩⟩ hl.1 rfl (Nat.le_of_ble_eq_true rfl) dX3_readTest_26) hP hD hS hA (fun u724 H locs hw725 hP hD hS => ?_)
      refine W.eq (g2 := F0 m 29 ls [.int u724]) rfl ?_
      refine lv_istore (lv' := [(4, .int u724), (3, .int v215), (2, .int v216), (0, .ref p0), (1, .int 1)]) hx hb dX3_readTest_29 hl (by decide) rfl (fun ls hl => ?_)
      refine lv_iload hx hb dX3_readTest_31 (lv_at hl 0 rfl) ?_
      refine lv_iconst (v := (-1)) hx hb dX3_readTest_33 (by decide) ?_
      have j727 := rgI u724
      refine lv_icmp_ne (tgt := 40) hx hb dX3_readTest_34 (by decide) (fun c728 => ?_) (fun c728 => ?_)
      · skip
        have c728 := i_ne (Eq.refl u724.toInt) (show ((-1) : Int32).toInt = -1 by decide) c728
        refine lv_aload_n hx hb dX3_readTest_40 rfl (lv_at hl 3 rfl) ?_
        refine cga (rn_V (As := []) (rest := []) (b := p0) (x_X3_step l D Y Z H.size w217 T g q p0 hT ht0) ⟨hx, hb, hml, hown, hg⟩ lk_X3_61 ⟨CPC.blind, va_recv hKN.1 hP (ci := 3) (q0 := p688) rfl hk689, CPC.at hP hKN hD hSZ hS hA⟩ ⟨⟨rfl, rfl⟩, ⟨Nat.le_of_ble_eq_true rfl, Nat.le_of_ble_eq_true rfl⟩, ⟨(Nat.le_of_ble_eq_true rfl), (Nat.le_of_ble_eq_true rfl)⟩⟩ hl.1 rfl (Nat.le_of_ble_eq_true rfl) dX3_readTest_41) hP hD hS hA (fun u729 H locs hw730 hP hD hS => ?_)
        obtain ⟨hT, ke732, ke733⟩ : TW Y Z T g q u729 ∧ KF 1 T w217 u729 ∧ KF 6 T w217 u729 := hw730
        have ke734 : KF 1 T ws u729 := KF.tr ke610 ke732
        have ke735 : KF 6 T ws u729 := KF.tr ke611 ke733
        refine W.eq (g2 := F0 m 44 ls []) rfl ?_
        refine lv_iload hx hb dX3_readTest_44 (lv_at hl 0 rfl) ?_
        refine lv_iconst (v := 1) hx hb dX3_readTest_46 (by decide) ?_
        refine lv_icmp_ne (tgt := 63) hx hb dX3_readTest_47 (by decide) (fun c736 => ?_) (fun c736 => ?_)
        · skip
          have c736 := i_ne (Eq.refl u724.toInt) (show (1 : Int32).toInt = 1 by decide) c736
          refine lv_iload_n hx hb dX3_readTest_63 rfl (lv_at hl 2 rfl) ?_
          have j737 := rgI v216
          refine lv_if_ne (tgt := 73) hx hb dX3_readTest_64 (by decide) (fun c738 => ?_) (fun c738 => ?_)
          · skip
            have c738 := i_ne (Eq.refl v216.toInt) (show (0 : Int32).toInt = 0 by decide) c738
            refine lv_iconst (v := 1) hx hb dX3_readTest_73 (by decide) ?_
            refine lv_goto (tgt := 78) hx hb dX3_readTest_74 (by decide) ?_
            refine lv_istore_n (lv' := [(2, .int 1), (4, .int u724), (3, .int v215), (0, .ref p0), (1, .int 1)]) hx hb dX3_readTest_78 rfl hl (by decide) rfl (fun ls hl => ?_)
            refine lv_aload_n hx hb dX3_readTest_79 rfl (lv_at hl 3 rfl) ?_
            refine lv_iload_n hx hb dX3_readTest_80 rfl (lv_at hl 4 rfl) ?_
            refine ok7 hT ht0 (fun p759 n739 a740 x741 x742 x743 x744 x745 x746 x747 x748 a749 a750 x751 hk760 h752 h753 h754 h755 h756 h757 h758 => ?_)
            refine cga (rn_V (As := [.int 1]) (rest := []) (b := p0) (x_X3_readFact_1 l D Y Z H.size u729 T g q p0 hT ht0) ⟨hx, hb, hml, hown, hg⟩ lk_X3_148 ⟨CPC.blind, va_recv hKN.1 hP (ci := 3) (q0 := p759) rfl hk760, CPC.at hP hKN hD hSZ hS hA⟩ ⟨⟨rfl, rfl⟩, ⟨Nat.le_of_ble_eq_true rfl, Nat.le_of_ble_eq_true rfl⟩, ⟨(Nat.le_of_ble_eq_true rfl), (Nat.le_of_ble_eq_true rfl)⟩⟩ hl.1 rfl (Nat.le_of_ble_eq_true rfl) dX3_readTest_81) hP hD hS hA (fun u761 H locs hw762 hP hD hS => ?_)
            obtain ⟨hT, ke764, ke765⟩ : TW Y Z T g q u761 ∧ KF 1 T u729 u761 ∧ KF 6 T u729 u761 := hw762
            have ke766 : KF 1 T ws u761 := KF.tr ke734 ke764
            have ke767 : KF 6 T ws u761 := KF.tr ke735 ke765
            refine W.eq (g2 := F0 m 84 ls []) rfl ?_
            refine lv_iload hx hb dX3_readTest_84 (lv_at hl 1 rfl) ?_
            refine lv_if_ne (tgt := 98) hx hb dX3_readTest_86 (by decide) (fun c768 => ?_) (fun c768 => ?_)
            · skip
              have c768 := i_ne (Eq.refl u724.toInt) (show (0 : Int32).toInt = 0 by decide) c768
              obtain ⟨v769, ev769⟩ : ∃ y : Int32, y = v215 + 1 := ⟨_, rfl⟩
              have hv769 := i_add (Eq.refl v215.toInt) (show (1 : Int32).toInt = 1 by decide) ev769 (by omega) (by omega)
              refine lv_iinc (v := v769) (lv' := [(3, .int v769), (2, .int 1), (4, .int u724), (0, .ref p0), (1, .int 1)]) hx hb dX3_readTest_98 hl (k := 2) rfl (by rw [ev769]; rfl) (by decide) rfl (fun ls hl => ?_)
              refine lv_goto (tgt := 9) hx hb dX3_readTest_101 (by decide) ?_
              exact ih612 (v769, 1, u761) H locs ls (by show (400 - v769.toInt).toNat < (400 - v215.toInt).toNat; omega) ⟨hP, hD, hS, lv_sub hl [0, 1, 3, 4] rfl, hT, ke766, ke767, by omega⟩
            · skip
              have c768 := i_eq (Eq.refl u724.toInt) (show (0 : Int32).toInt = 0 by decide) c768
              refine lv_aload_n hx hb dX3_readTest_89 rfl (lv_at hl 3 rfl) ?_
              refine ok7 hT ht0 (fun p790 n770 a771 x772 x773 x774 x775 x776 x777 x778 x779 a780 a781 x782 hk791 h783 h784 h785 h786 h787 h788 h789 => ?_)
              refine va_get (D := D) (ci := 3) (v := .ref a781) (C := RX3) (T := TX3) (N := 12) hx hb hg inGX3 hown hKN.1 hP p790 hk791 rfl 10 (by decide) (hg _ kw_188) (fun _ h9 => h9) rfl dX3_readTest_90 ?_
              refine lv_ldc (v := 200262) hx hb hown (hg _ kw_743) dX3_readTest_93 ?_
              have zi200262 : (200262 : Int32).toInt = 200262 := by decide
              refine ok5 hT h787 (fun p813 x792 x793 x794 x795 x796 x797 x798 x799 a800 a801 a802 a803 a804 x805 hk814 h806 h807 h808 h809 h810 h811 h812 => ?_)
              refine cga (rn_NV (As := [.int 200262]) (rest := []) (b := a781) (x_X8_addCode l D Y Z H.size u761 T g q a781 200262 hT h787) ⟨hx, hb, hml, hown, hg⟩ hKN lk_X3_154 ⟨CPC.blind, va_recv hKN.1 hP (ci := 8) (q0 := p813) rfl hk814, CPC.at hP hKN hD hSZ hS hA⟩ ⟨⟨rfl, rfl⟩, ⟨Nat.le_of_ble_eq_true rfl, Nat.le_of_ble_eq_true rfl⟩, ⟨(Nat.le_of_ble_eq_true rfl), (Nat.le_of_ble_eq_true rfl)⟩⟩ hl.1 rfl (Nat.le_of_ble_eq_true rfl) dX3_readTest_95) hP hD hS hA (fun u815 H locs hw816 hP hD hS => ?_)
              obtain ⟨hT, ke818, ke819⟩ : TW Y Z T g q u815 ∧ KF 1 T u761 u815 ∧ KF 6 T u761 u815 := hw816
              have ke820 : KF 1 T ws u815 := KF.tr ke766 ke818
              have ke821 : KF 6 T ws u815 := KF.tr ke767 ke819
              refine W.eq (g2 := F0 m 98 ls []) rfl ?_
              obtain ⟨v822, ev822⟩ : ∃ y : Int32, y = v215 + 1 := ⟨_, rfl⟩
              have hv822 := i_add (Eq.refl v215.toInt) (show (1 : Int32).toInt = 1 by decide) ev822 (by omega) (by omega)
              refine lv_iinc (v := v822) (lv' := [(3, .int v822), (2, .int 1), (4, .int u724), (0, .ref p0), (1, .int 1)]) hx hb dX3_readTest_98 hl (k := 2) rfl (by rw [ev822]; rfl) (by decide) rfl (fun ls hl => ?_)
              refine lv_goto (tgt := 9) hx hb dX3_readTest_101 (by decide) ?_
              exact ih612 (v822, 1, u815) H locs ls (by show (400 - v822.toInt).toNat < (400 - v215.toInt).toNat; omega) ⟨hP, hD, hS, lv_sub hl [0, 1, 3, 4] rfl, hT, ke820, ke821, by omega⟩
          · skip
            have c738 := i_eq (Eq.refl v216.toInt) (show (0 : Int32).toInt = 0 by decide) c738
            refine lv_iload hx hb dX3_readTest_67 (lv_at hl 0 rfl) ?_
            refine lv_iconst (v := 1) hx hb dX3_readTest_69 (by decide) ?_
            refine lv_icmp_ne (tgt := 77) hx hb dX3_readTest_70 (by decide) (fun c823 => ?_) (fun c823 => ?_)
            · skip
              have c823 := i_ne (Eq.refl u724.toInt) (show (1 : Int32).toInt = 1 by decide) c823
              refine lv_iconst (v := 0) hx hb dX3_readTest_77 (by decide) ?_
              refine lv_istore_n (lv' := [(2, .int 0), (4, .int u724), (3, .int v215), (0, .ref p0), (1, .int 1)]) hx hb dX3_readTest_78 rfl hl (by decide) rfl (fun ls hl => ?_)
              refine lv_aload_n hx hb dX3_readTest_79 rfl (lv_at hl 3 rfl) ?_
              refine lv_iload_n hx hb dX3_readTest_80 rfl (lv_at hl 4 rfl) ?_
              refine ok7 hT ht0 (fun p844 n824 a825 x826 x827 x828 x829 x830 x831 x832 x833 a834 a835 x836 hk845 h837 h838 h839 h840 h841 h842 h843 => ?_)
              refine cga (rn_V (As := [.int 1]) (rest := []) (b := p0) (x_X3_readFact_1 l D Y Z H.size u729 T g q p0 hT ht0) ⟨hx, hb, hml, hown, hg⟩ lk_X3_148 ⟨CPC.blind, va_recv hKN.1 hP (ci := 3) (q0 := p844) rfl hk845, CPC.at hP hKN hD hSZ hS hA⟩ ⟨⟨rfl, rfl⟩, ⟨Nat.le_of_ble_eq_true rfl, Nat.le_of_ble_eq_true rfl⟩, ⟨(Nat.le_of_ble_eq_true rfl), (Nat.le_of_ble_eq_true rfl)⟩⟩ hl.1 rfl (Nat.le_of_ble_eq_true rfl) dX3_readTest_81) hP hD hS hA (fun u846 H locs hw847 hP hD hS => ?_)
              obtain ⟨hT, ke849, ke850⟩ : TW Y Z T g q u846 ∧ KF 1 T u729 u846 ∧ KF 6 T u729 u846 := hw847
              have ke851 : KF 1 T ws u846 := KF.tr ke734 ke849
              have ke852 : KF 6 T ws u846 := KF.tr ke735 ke850
              refine W.eq (g2 := F0 m 84 ls []) rfl ?_
              refine lv_iload hx hb dX3_readTest_84 (lv_at hl 1 rfl) ?_
              refine lv_if_ne (tgt := 98) hx hb dX3_readTest_86 (by decide) (fun c853 => ?_) (fun c853 => ?_)
              · skip
                have c853 := i_ne (Eq.refl u724.toInt) (show (0 : Int32).toInt = 0 by decide) c853
                obtain ⟨v854, ev854⟩ : ∃ y : Int32, y = v215 + 1 := ⟨_, rfl⟩
                have hv854 := i_add (Eq.refl v215.toInt) (show (1 : Int32).toInt = 1 by decide) ev854 (by omega) (by omega)
                refine lv_iinc (v := v854) (lv' := [(3, .int v854), (2, .int 0), (4, .int u724), (0, .ref p0), (1, .int 1)]) hx hb dX3_readTest_98 hl (k := 2) rfl (by rw [ev854]; rfl) (by decide) rfl (fun ls hl => ?_)
                refine lv_goto (tgt := 9) hx hb dX3_readTest_101 (by decide) ?_
                have zi0 : (0 : Int32).toInt = 0 := by decide
                exact ih612 (v854, 0, u846) H locs ls (by show (400 - v854.toInt).toNat < (400 - v215.toInt).toNat; omega) ⟨hP, hD, hS, lv_sub hl [0, 1, 3, 4] rfl, hT, ke851, ke852, by omega⟩
              · skip
                have c853 := i_eq (Eq.refl u724.toInt) (show (0 : Int32).toInt = 0 by decide) c853
                refine lv_aload_n hx hb dX3_readTest_89 rfl (lv_at hl 3 rfl) ?_
                refine ok7 hT ht0 (fun p875 n855 a856 x857 x858 x859 x860 x861 x862 x863 x864 a865 a866 x867 hk876 h868 h869 h870 h871 h872 h873 h874 => ?_)
                refine va_get (D := D) (ci := 3) (v := .ref a866) (C := RX3) (T := TX3) (N := 12) hx hb hg inGX3 hown hKN.1 hP p875 hk876 rfl 10 (by decide) (hg _ kw_188) (fun _ h9 => h9) rfl dX3_readTest_90 ?_
                refine lv_ldc (v := 200262) hx hb hown (hg _ kw_743) dX3_readTest_93 ?_
                have zi200262 : (200262 : Int32).toInt = 200262 := by decide
                refine ok5 hT h872 (fun p898 x877 x878 x879 x880 x881 x882 x883 x884 a885 a886 a887 a888 a889 x890 hk899 h891 h892 h893 h894 h895 h896 h897 => ?_)
                refine cga (rn_NV (As := [.int 200262]) (rest := []) (b := a866) (x_X8_addCode l D Y Z H.size u846 T g q a866 200262 hT h872) ⟨hx, hb, hml, hown, hg⟩ hKN lk_X3_154 ⟨CPC.blind, va_recv hKN.1 hP (ci := 8) (q0 := p898) rfl hk899, CPC.at hP hKN hD hSZ hS hA⟩ ⟨⟨rfl, rfl⟩, ⟨Nat.le_of_ble_eq_true rfl, Nat.le_of_ble_eq_true rfl⟩, ⟨(Nat.le_of_ble_eq_true rfl), (Nat.le_of_ble_eq_true rfl)⟩⟩ hl.1 rfl (Nat.le_of_ble_eq_true rfl) dX3_readTest_95) hP hD hS hA (fun u900 H locs hw901 hP hD hS => ?_)
                obtain ⟨hT, ke903, ke904⟩ : TW Y Z T g q u900 ∧ KF 1 T u846 u900 ∧ KF 6 T u846 u900 := hw901
                have ke905 : KF 1 T ws u900 := KF.tr ke851 ke903
                have ke906 : KF 6 T ws u900 := KF.tr ke852 ke904
                refine W.eq (g2 := F0 m 98 ls []) rfl ?_
                obtain ⟨v907, ev907⟩ : ∃ y : Int32, y = v215 + 1 := ⟨_, rfl⟩
                have hv907 := i_add (Eq.refl v215.toInt) (show (1 : Int32).toInt = 1 by decide) ev907 (by omega) (by omega)
                refine lv_iinc (v := v907) (lv' := [(3, .int v907), (2, .int 0), (4, .int u724), (0, .ref p0), (1, .int 1)]) hx hb dX3_readTest_98 hl (k := 2) rfl (by rw [ev907]; rfl) (by decide) rfl (fun ls hl => ?_)
                refine lv_goto (tgt := 9) hx hb dX3_readTest_101 (by decide) ?_
                have zi0 : (0 : Int32).toInt = 0 := by decide
                exact ih612 (v907, 0, u900) H locs ls (by show (400 - v907.toInt).toNat < (400 - v215.toInt).toNat; omega) ⟨hP, hD, hS, lv_sub hl [0, 1, 3, 4] rfl, hT, ke905, ke906, by omega⟩
            · skip
              have c823 := i_eq (Eq.refl u724.toInt) (show (1 : Int32).toInt = 1 by decide) c823
              refine lv_iconst (v := 1) hx hb dX3_readTest_73 (by decide) ?_
              refine lv_goto (tgt := 78) hx hb dX3_readTest_74 (by decide) ?_
              refine lv_istore_n (lv' := [(2, .int 1), (4, .int u724), (3, .int v215), (0, .ref p0), (1, .int 1)]) hx hb dX3_readTest_78 rfl hl (by decide) rfl (fun ls hl => ?_)
              refine lv_aload_n hx hb dX3_readTest_79 rfl (lv_at hl 3 rfl) ?_
              refine lv_iload_n hx hb dX3_readTest_80 rfl (lv_at hl 4 rfl) ?_
              refine ok7 hT ht0 (fun p928 n908 a909 x910 x911 x912 x913 x914 x915 x916 x917 a918 a919 x920 hk929 h921 h922 h923 h924 h925 h926 h927 => ?_)
              refine cga (rn_V (As := [.int 1]) (rest := []) (b := p0) (x_X3_readFact_1 l D Y Z H.size u729 T g q p0 hT ht0) ⟨hx, hb, hml, hown, hg⟩ lk_X3_148 ⟨CPC.blind, va_recv hKN.1 hP (ci := 3) (q0 := p928) rfl hk929, CPC.at hP hKN hD hSZ hS hA⟩ ⟨⟨rfl, rfl⟩, ⟨Nat.le_of_ble_eq_true rfl, Nat.le_of_ble_eq_true rfl⟩, ⟨(Nat.le_of_ble_eq_true rfl), (Nat.le_of_ble_eq_true rfl)⟩⟩ hl.1 rfl (Nat.le_of_ble_eq_true rfl) dX3_readTest_81) hP hD hS hA (fun u930 H locs hw931 hP hD hS => ?_)
              obtain ⟨hT, ke933, ke934⟩ : TW Y Z T g q u930 ∧ KF 1 T u729 u930 ∧ KF 6 T u729 u930 := hw931
              have ke935 : KF 1 T ws u930 := KF.tr ke734 ke933
              have ke936 : KF 6 T ws u930 := KF.tr ke735 ke934
              refine W.eq (g2 := F0 m 84 ls []) rfl ?_
              refine lv_iload hx hb dX3_readTest_84 (lv_at hl 1 rfl) ?_
              refine lv_if_ne (tgt := 98) hx hb dX3_readTest_86 (by decide) (fun c937 => ?_) (fun c937 => ?_)
              rotate_left
              · have c937 := i_eq (Eq.refl u724.toInt) (show (0 : Int32).toInt = 0 by decide) c937; exfalso; omega
              have c937 := i_ne (Eq.refl u724.toInt) (show (0 : Int32).toInt = 0 by decide) c937
              obtain ⟨v938, ev938⟩ : ∃ y : Int32, y = v215 + 1 := ⟨_, rfl⟩
              have hv938 := i_add (Eq.refl v215.toInt) (show (1 : Int32).toInt = 1 by decide) ev938 (by omega) (by omega)
              refine lv_iinc (v := v938) (lv' := [(3, .int v938), (2, .int 1), (4, .int u724), (0, .ref p0), (1, .int 1)]) hx hb dX3_readTest_98 hl (k := 2) rfl (by rw [ev938]; rfl) (by decide) rfl (fun ls hl => ?_)
              refine lv_goto (tgt := 9) hx hb dX3_readTest_101 (by decide) ?_
              exact ih612 (v938, 1, u930) H locs ls (by show (400 - v938.toInt).toNat < (400 - v215.toInt).toNat; omega) ⟨hP, hD, hS, lv_sub hl [0, 1, 3, 4] rfl, hT, ke935, ke936, by omega⟩
        · skip
          have c736 := i_eq (Eq.refl u724.toInt) (show (1 : Int32).toInt = 1 by decide) c736
          refine lv_iload_n hx hb dX3_readTest_50 rfl (lv_at hl 2 rfl) ?_
          have j939 := rgI v216
          refine lv_if_eq (tgt := 63) hx hb dX3_readTest_51 (by decide) (fun c940 => ?_) (fun c940 => ?_)
          · skip
            have c940 := i_eq (Eq.refl v216.toInt) (show (0 : Int32).toInt = 0 by decide) c940
            refine lv_iload_n hx hb dX3_readTest_63 rfl (lv_at hl 2 rfl) ?_
            refine lv_if_ne (tgt := 73) hx hb dX3_readTest_64 (by decide) (fun c941 => ?_) (fun c941 => ?_)
            · have c941 := i_ne (Eq.refl v216.toInt) (show (0 : Int32).toInt = 0 by decide) c941; exfalso; omega
            have c941 := i_eq (Eq.refl v216.toInt) (show (0 : Int32).toInt = 0 by decide) c941
            refine lv_iload hx hb dX3_readTest_67 (lv_at hl 0 rfl) ?_
            refine lv_iconst (v := 1) hx hb dX3_readTest_69 (by decide) ?_
            refine lv_icmp_ne (tgt := 77) hx hb dX3_readTest_70 (by decide) (fun c942 => ?_) (fun c942 => ?_)
            · have c942 := i_ne (Eq.refl u724.toInt) (show (1 : Int32).toInt = 1 by decide) c942; exfalso; omega
            have c942 := i_eq (Eq.refl u724.toInt) (show (1 : Int32).toInt = 1 by decide) c942
            refine lv_iconst (v := 1) hx hb dX3_readTest_73 (by decide) ?_
            refine lv_goto (tgt := 78) hx hb dX3_readTest_74 (by decide) ?_
            refine lv_istore_n (lv' := [(2, .int 1), (4, .int u724), (3, .int v215), (0, .ref p0), (1, .int 1)]) hx hb dX3_readTest_78 rfl hl (by decide) rfl (fun ls hl => ?_)
            refine lv_aload_n hx hb dX3_readTest_79 rfl (lv_at hl 3 rfl) ?_
            refine lv_iload_n hx hb dX3_readTest_80 rfl (lv_at hl 4 rfl) ?_
            refine ok7 hT ht0 (fun p963 n943 a944 x945 x946 x947 x948 x949 x950 x951 x952 a953 a954 x955 hk964 h956 h957 h958 h959 h960 h961 h962 => ?_)
            refine cga (rn_V (As := [.int 1]) (rest := []) (b := p0) (x_X3_readFact_1 l D Y Z H.size u729 T g q p0 hT ht0) ⟨hx, hb, hml, hown, hg⟩ lk_X3_148 ⟨CPC.blind, va_recv hKN.1 hP (ci := 3) (q0 := p963) rfl hk964, CPC.at hP hKN hD hSZ hS hA⟩ ⟨⟨rfl, rfl⟩, ⟨Nat.le_of_ble_eq_true rfl, Nat.le_of_ble_eq_true rfl⟩, ⟨(Nat.le_of_ble_eq_true rfl), (Nat.le_of_ble_eq_true rfl)⟩⟩ hl.1 rfl (Nat.le_of_ble_eq_true rfl) dX3_readTest_81) hP hD hS hA (fun u965 H locs hw966 hP hD hS => ?_)
            obtain ⟨hT, ke968, ke969⟩ : TW Y Z T g q u965 ∧ KF 1 T u729 u965 ∧ KF 6 T u729 u965 := hw966
            have ke970 : KF 1 T ws u965 := KF.tr ke734 ke968
            have ke971 : KF 6 T ws u965 := KF.tr ke735 ke969
            refine W.eq (g2 := F0 m 84 ls []) rfl ?_
            refine lv_iload hx hb dX3_readTest_84 (lv_at hl 1 rfl) ?_
            refine lv_if_ne (tgt := 98) hx hb dX3_readTest_86 (by decide) (fun c972 => ?_) (fun c972 => ?_)
            rotate_left
            · have c972 := i_eq (Eq.refl u724.toInt) (show (0 : Int32).toInt = 0 by decide) c972; exfalso; omega
            have c972 := i_ne (Eq.refl u724.toInt) (show (0 : Int32).toInt = 0 by decide) c972
            obtain ⟨v973, ev973⟩ : ∃ y : Int32, y = v215 + 1 := ⟨_, rfl⟩
            have hv973 := i_add (Eq.refl v215.toInt) (show (1 : Int32).toInt = 1 by decide) ev973 (by omega) (by omega)
            refine lv_iinc (v := v973) (lv' := [(3, .int v973), (2, .int 1), (4, .int u724), (0, .ref p0), (1, .int 1)]) hx hb dX3_readTest_98 hl (k := 2) rfl (by rw [ev973]; rfl) (by decide) rfl (fun ls hl => ?_)
            refine lv_goto (tgt := 9) hx hb dX3_readTest_101 (by decide) ?_
            exact ih612 (v973, 1, u965) H locs ls (by show (400 - v973.toInt).toNat < (400 - v215.toInt).toNat; omega) ⟨hP, hD, hS, lv_sub hl [0, 1, 3, 4] rfl, hT, ke970, ke971, by omega⟩
          · skip
            have c940 := i_ne (Eq.refl v216.toInt) (show (0 : Int32).toInt = 0 by decide) c940
            refine lv_aload_n hx hb dX3_readTest_54 rfl (lv_at hl 3 rfl) ?_
            refine ok7 hT ht0 (fun p994 n974 a975 x976 x977 x978 x979 x980 x981 x982 x983 a984 a985 x986 hk995 h987 h988 h989 h990 h991 h992 h993 => ?_)
            refine va_get (D := D) (ci := 3) (v := .ref a985) (C := RX3) (T := TX3) (N := 12) hx hb hg inGX3 hown hKN.1 hP p994 hk995 rfl 10 (by decide) (hg _ kw_188) (fun _ h9 => h9) rfl dX3_readTest_55 ?_
            refine lv_ldc (v := 200263) hx hb hown (hg _ kw_742) dX3_readTest_58 ?_
            have zi200263 : (200263 : Int32).toInt = 200263 := by decide
            refine ok5 hT h991 (fun p1017 x996 x997 x998 x999 x1000 x1001 x1002 x1003 a1004 a1005 a1006 a1007 a1008 x1009 hk1018 h1010 h1011 h1012 h1013 h1014 h1015 h1016 => ?_)
            refine cga (rn_NV (As := [.int 200263]) (rest := []) (b := a985) (x_X8_addCode l D Y Z H.size u729 T g q a985 200263 hT h991) ⟨hx, hb, hml, hown, hg⟩ hKN lk_X3_154 ⟨CPC.blind, va_recv hKN.1 hP (ci := 8) (q0 := p1017) rfl hk1018, CPC.at hP hKN hD hSZ hS hA⟩ ⟨⟨rfl, rfl⟩, ⟨Nat.le_of_ble_eq_true rfl, Nat.le_of_ble_eq_true rfl⟩, ⟨(Nat.le_of_ble_eq_true rfl), (Nat.le_of_ble_eq_true rfl)⟩⟩ hl.1 rfl (Nat.le_of_ble_eq_true rfl) dX3_readTest_60) hP hD hS hA (fun u1019 H locs hw1020 hP hD hS => ?_)
            obtain ⟨hT, ke1022, ke1023⟩ : TW Y Z T g q u1019 ∧ KF 1 T u729 u1019 ∧ KF 6 T u729 u1019 := hw1020
            have ke1024 : KF 1 T ws u1019 := KF.tr ke734 ke1022
            have ke1025 : KF 6 T ws u1019 := KF.tr ke735 ke1023
            refine W.eq (g2 := F0 m 63 ls []) rfl ?_
            refine lv_iload_n hx hb dX3_readTest_63 rfl (lv_at hl 2 rfl) ?_
            refine lv_if_ne (tgt := 73) hx hb dX3_readTest_64 (by decide) (fun c1026 => ?_) (fun c1026 => ?_)
            · skip
              have c1026 := i_ne (Eq.refl v216.toInt) (show (0 : Int32).toInt = 0 by decide) c1026
              refine lv_iconst (v := 1) hx hb dX3_readTest_73 (by decide) ?_
              refine lv_goto (tgt := 78) hx hb dX3_readTest_74 (by decide) ?_
              refine lv_istore_n (lv' := [(2, .int 1), (4, .int u724), (3, .int v215), (0, .ref p0), (1, .int 1)]) hx hb dX3_readTest_78 rfl hl (by decide) rfl (fun ls hl => ?_)
              refine lv_aload_n hx hb dX3_readTest_79 rfl (lv_at hl 3 rfl) ?_
              refine lv_iload_n hx hb dX3_readTest_80 rfl (lv_at hl 4 rfl) ?_
              refine ok7 hT ht0 (fun p1047 n1027 a1028 x1029 x1030 x1031 x1032 x1033 x1034 x1035 x1036 a1037 a1038 x1039 hk1048 h1040 h1041 h1042 h1043 h1044 h1045 h1046 => ?_)
              refine cga (rn_V (As := [.int 1]) (rest := []) (b := p0) (x_X3_readFact_1 l D Y Z H.size u1019 T g q p0 hT ht0) ⟨hx, hb, hml, hown, hg⟩ lk_X3_148 ⟨CPC.blind, va_recv hKN.1 hP (ci := 3) (q0 := p1047) rfl hk1048, CPC.at hP hKN hD hSZ hS hA⟩ ⟨⟨rfl, rfl⟩, ⟨Nat.le_of_ble_eq_true rfl, Nat.le_of_ble_eq_true rfl⟩, ⟨(Nat.le_of_ble_eq_true rfl), (Nat.le_of_ble_eq_true rfl)⟩⟩ hl.1 rfl (Nat.le_of_ble_eq_true rfl) dX3_readTest_81) hP hD hS hA (fun u1049 H locs hw1050 hP hD hS => ?_)
              obtain ⟨hT, ke1052, ke1053⟩ : TW Y Z T g q u1049 ∧ KF 1 T u1019 u1049 ∧ KF 6 T u1019 u1049 := hw1050
              have ke1054 : KF 1 T ws u1049 := KF.tr ke1024 ke1052
              have ke1055 : KF 6 T ws u1049 := KF.tr ke1025 ke1053
              refine W.eq (g2 := F0 m 84 ls []) rfl ?_
              refine lv_iload hx hb dX3_readTest_84 (lv_at hl 1 rfl) ?_
              refine lv_if_ne (tgt := 98) hx hb dX3_readTest_86 (by decide) (fun c1056 => ?_) (fun c1056 => ?_)
              rotate_left
              · have c1056 := i_eq (Eq.refl u724.toInt) (show (0 : Int32).toInt = 0 by decide) c1056; exfalso; omega
              have c1056 := i_ne (Eq.refl u724.toInt) (show (0 : Int32).toInt = 0 by decide) c1056
              obtain ⟨v1057, ev1057⟩ : ∃ y : Int32, y = v215 + 1 := ⟨_, rfl⟩
              have hv1057 := i_add (Eq.refl v215.toInt) (show (1 : Int32).toInt = 1 by decide) ev1057 (by omega) (by omega)
              refine lv_iinc (v := v1057) (lv' := [(3, .int v1057), (2, .int 1), (4, .int u724), (0, .ref p0), (1, .int 1)]) hx hb dX3_readTest_98 hl (k := 2) rfl (by rw [ev1057]; rfl) (by decide) rfl (fun ls hl => ?_)
              refine lv_goto (tgt := 9) hx hb dX3_readTest_101 (by decide) ?_
              exact ih612 (v1057, 1, u1049) H locs ls (by show (400 - v1057.toInt).toNat < (400 - v215.toInt).toNat; omega) ⟨hP, hD, hS, lv_sub hl [0, 1, 3, 4] rfl, hT, ke1054, ke1055, by omega⟩
            · skip
              have c1026 := i_eq (Eq.refl v216.toInt) (show (0 : Int32).toInt = 0 by decide) c1026
              refine lv_iload hx hb dX3_readTest_67 (lv_at hl 0 rfl) ?_
              refine lv_iconst (v := 1) hx hb dX3_readTest_69 (by decide) ?_
              refine lv_icmp_ne (tgt := 77) hx hb dX3_readTest_70 (by decide) (fun c1058 => ?_) (fun c1058 => ?_)
              · have c1058 := i_ne (Eq.refl u724.toInt) (show (1 : Int32).toInt = 1 by decide) c1058; exfalso; omega
              have c1058 := i_eq (Eq.refl u724.toInt) (show (1 : Int32).toInt = 1 by decide) c1058
              refine lv_iconst (v := 1) hx hb dX3_readTest_73 (by decide) ?_
              refine lv_goto (tgt := 78) hx hb dX3_readTest_74 (by decide) ?_
              refine lv_istore_n (lv' := [(2, .int 1), (4, .int u724), (3, .int v215), (0, .ref p0), (1, .int 1)]) hx hb dX3_readTest_78 rfl hl (by decide) rfl (fun ls hl => ?_)
              refine lv_aload_n hx hb dX3_readTest_79 rfl (lv_at hl 3 rfl) ?_
              refine lv_iload_n hx hb dX3_readTest_80 rfl (lv_at hl 4 rfl) ?_
              refine ok7 hT ht0 (fun p1079 n1059 a1060 x1061 x1062 x1063 x1064 x1065 x1066 x1067 x1068 a1069 a1070 x1071 hk1080 h1072 h1073 h1074 h1075 h1076 h1077 h1078 => ?_)
              refine cga (rn_V (As := [.int 1]) (rest := []) (b := p0) (x_X3_readFact_1 l D Y Z H.size u1019 T g q p0 hT ht0) ⟨hx, hb, hml, hown, hg⟩ lk_X3_148 ⟨CPC.blind, va_recv hKN.1 hP (ci := 3) (q0 := p1079) rfl hk1080, CPC.at hP hKN hD hSZ hS hA⟩ ⟨⟨rfl, rfl⟩, ⟨Nat.le_of_ble_eq_true rfl, Nat.le_of_ble_eq_true rfl⟩, ⟨(Nat.le_of_ble_eq_true rfl), (Nat.le_of_ble_eq_true rfl)⟩⟩ hl.1 rfl (Nat.le_of_ble_eq_true rfl) dX3_readTest_81) hP hD hS hA (fun u1081 H locs hw1082 hP hD hS => ?_)
              obtain ⟨hT, ke1084, ke1085⟩ : TW Y Z T g q u1081 ∧ KF 1 T u1019 u1081 ∧ KF 6 T u1019 u1081 := hw1082
              have ke1086 : KF 1 T ws u1081 := KF.tr ke1024 ke1084
              have ke1087 : KF 6 T ws u1081 := KF.tr ke1025 ke1085
              refine W.eq (g2 := F0 m 84 ls []) rfl ?_
              refine lv_iload hx hb dX3_readTest_84 (lv_at hl 1 rfl) ?_
              refine lv_if_ne (tgt := 98) hx hb dX3_readTest_86 (by decide) (fun c1088 => ?_) (fun c1088 => ?_)
              rotate_left
              · have c1088 := i_eq (Eq.refl u724.toInt) (show (0 : Int32).toInt = 0 by decide) c1088; exfalso; omega
              have c1088 := i_ne (Eq.refl u724.toInt) (show (0 : Int32).toInt = 0 by decide) c1088
              obtain ⟨v1089, ev1089⟩ : ∃ y : Int32, y = v215 + 1 := ⟨_, rfl⟩
              have hv1089 := i_add (Eq.refl v215.toInt) (show (1 : Int32).toInt = 1 by decide) ev1089 (by omega) (by omega)
              refine lv_iinc (v := v1089) (lv' := [(3, .int v1089), (2, .int 1), (4, .int u724), (0, .ref p0), (1, .int 1)]) hx hb dX3_readTest_98 hl (k := 2) rfl (by rw [ev1089]; rfl) (by decide) rfl (fun ls hl => ?_)
              refine lv_goto (tgt := 9) hx hb dX3_readTest_101 (by decide) ?_
              exact ih612 (v1089, 1, u1081) H locs ls (by show (400 - v1089.toInt).toNat < (400 - v215.toInt).toNat; omega) ⟨hP, hD, hS, lv_sub hl [0, 1, 3, 4] rfl, hT, ke1086, ke1087, by omega⟩
      · skip
        have c728 := i_eq (Eq.refl u724.toInt) (show ((-1) : Int32).toInt = -1 by decide) c728
        refine lv_goto (tgt := 104) hx hb dX3_readTest_37 (by decide) ?_
        refine lv_iload_n hx hb dX3_readTest_104 rfl (lv_at hl 2 rfl) ?_
        have j1090 := rgI v216
        refine lv_if_eq (tgt := 117) hx hb dX3_readTest_105 (by decide) (fun c1091 => ?_) (fun c1091 => ?_)
        · skip
          have c1091 := i_eq (Eq.refl v216.toInt) (show (0 : Int32).toInt = 0 by decide) c1091
          refine W.widen (k := 0) (n := 0) (Nat.le_of_ble_eq_true rfl) (Nat.le_of_ble_eq_true rfl) ?_
          exact W.vret hx hb hr (fun t ht hW => ⟨⟨w217, rfl, ⟨hT, ke610, ke611⟩, CB.mk ht hP hD⟩, hS.F ht⟩) hS.2.2 dX3_readTest_117
        · skip
          have c1091 := i_ne (Eq.refl v216.toInt) (show (0 : Int32).toInt = 0 by decide) c1091
          refine lv_aload_n hx hb dX3_readTest_108 rfl (lv_at hl 3 rfl) ?_
          refine va_get (D := D) (ci := 3) (v := .ref a679) (C := RX3) (T := TX3) (N := 12) hx hb hg inGX3 hown hKN.1 hP p688 hk689 rfl 10 (by decide) (hg _ kw_188) (fun _ h9 => h9) rfl dX3_readTest_109 ?_
          refine lv_ldc (v := 200263) hx hb hown (hg _ kw_742) dX3_readTest_112 ?_
          have zi200263 : (200263 : Int32).toInt = 200263 := by decide
          refine ok5 hT h685 (fun p1113 x1092 x1093 x1094 x1095 x1096 x1097 x1098 x1099 a1100 a1101 a1102 a1103 a1104 x1105 hk1114 h1106 h1107 h1108 h1109 h1110 h1111 h1112 => ?_)
          refine cga (rn_NV (As := [.int 200263]) (rest := []) (b := a679) (x_X8_addCode l D Y Z H.size w217 T g q a679 200263 hT h685) ⟨hx, hb, hml, hown, hg⟩ hKN lk_X3_154 ⟨CPC.blind, va_recv hKN.1 hP (ci := 8) (q0 := p1113) rfl hk1114, CPC.at hP hKN hD hSZ hS hA⟩ ⟨⟨rfl, rfl⟩, ⟨Nat.le_of_ble_eq_true rfl, Nat.le_of_ble_eq_true rfl⟩, ⟨(Nat.le_of_ble_eq_true rfl), (Nat.le_of_ble_eq_true rfl)⟩⟩ hl.1 rfl (Nat.le_of_ble_eq_true rfl) dX3_readTest_114) hP hD hS hA (fun u1115 H locs hw1116 hP hD hS => ?_)
          obtain ⟨hT, ke1118, ke1119⟩ : TW Y Z T g q u1115 ∧ KF 1 T w217 u1115 ∧ KF 6 T w217 u1115 := hw1116
          have ke1120 : KF 1 T ws u1115 := KF.tr ke610 ke1118
          have ke1121 : KF 6 T ws u1115 := KF.tr ke611 ke1119
          refine W.eq (g2 := F0 m 117 ls []) rfl ?_
          refine W.widen (k := 0) (n := 0) (Nat.le_of_ble_eq_true rfl) (Nat.le_of_ble_eq_true rfl) ?_
          exact W.vret hx hb hr (fun t ht hW => ⟨⟨u1115, rfl, ⟨hT, ke1120, ke1121⟩, CB.mk ht hP hD⟩, hS.F ht⟩) hS.2.2 dX3_readTest_117
