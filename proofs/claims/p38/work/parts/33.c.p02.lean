set_option maxHeartbeats 4000000 in
set_option maxRecDepth 100000 in
theorem x_X2_cleanRow (l : Launch) (D : va_G) (Y : Nat → ClassId) (Z : Nat → Nat) (sz : Nat) (ws : va_W) (T : RT) (g : GN) (q : GQ)  (p0 : Nat) (p1 : Nat) (p2 : Int32) (hT : TW Y Z T g q ws) (ht0 : T p0 = (9, 0, 0)) (ht1 : T p1 = (12, 600, 0)) (hp0 : (0 ≤ p2.toInt ∧ p2.toInt ≤ 50)) : Met l yX2_cleanRow (.code yX2_cleanRow cX2_cleanRow 10 none :: GW) ({ frames := 2, cells := 0, slots := 0, locals := 48 }) (va_Pc [.ref p0, .ref p1, .int p2] (CPC D Y Z ws sz)) (QG (S := va_W) (fun _ => none) (fun u => TW Y Z T g q u ∧ KF 1 T ws u ∧ KF 6 T ws u) (fun u => CB D u (va_A ws sz)) (va_A ws sz)) 0 0 (va_A ws sz) := by
  refine Met.ofW (cc := cX2_cleanRow) (maxL := 10) (ret := none) (by decide) rfl ?_
  intro p e s m args below meth c s₁ B hml hv
  obtain ⟨rfl, ⟨hsz, hP, hKN, hD0⟩, hSZ⟩ := hv
  have hx := B.exec
  have hb := B.bytes
  have hr := B.returns
  have hts := atoms_spec (ws := .code yX2_cleanRow cX2_cleanRow 10 none :: GW) B.pre
  have hg : ∀ w ∈ GW, w.before _ s = true := fun w h => hts w (List.mem_cons_of_mem _ h)
  have hown : s.vm.findClass RX2 = some m.cls := findClass_of_methodNamed B.named
  have hlocks := B.notSynchronized
  subst hsz
  have hD := hD0.self (sz := s.heap.size)
  generalize hAe : va_A ws s.heap.size = A at hD hSZ ⊢
  have hA : ∀ q : Nat, s.heap.size ≤ q → A q := fun q h => by rw [← hAe]; exact Or.inr h
  clear hAe hD0 hts B
  have hl := lv_entry ([.ref p0, .ref p1, .int p2]) (n := 10) (Nat.le_of_ble_eq_true rfl)
  rw [lg_entry_eq]
  generalize (lg_sl ([.ref p0, .ref p1, .int p2]) ++ List.replicate (10 - (lg_sl ([.ref p0, .ref p1, .int p2])).length) Slot.unset).toArray = ls at hl ⊢
  have hl : lv_has ls 10 [(0, .ref p0), (1, .ref p1), (2, .int p2)] := hl
  refine w_start (A0 := A) hP (fun H locs hP hS => ?_)
  refine lv_lconst (v := 0) hx hb dX2_cleanRow_0 (by decide) ?_
  refine lv_lstore_n (lv' := [(3, .long 0), (0, .ref p0), (1, .ref p1), (2, .int p2)]) hx hb dX2_cleanRow_1 rfl hl (by decide) rfl (fun ls hl => ?_)
  refine lv_lconst (v := 0) hx hb dX2_cleanRow_2 (by decide) ?_
  refine lv_lstore (lv' := [(5, .long 0), (3, .long 0), (0, .ref p0), (1, .ref p1), (2, .int p2)]) hx hb dX2_cleanRow_3 hl (by decide) rfl (fun ls hl => ?_)
  refine lv_iload_n hx hb dX2_cleanRow_5 rfl (lv_at hl 4 rfl) ?_
  refine lv_ineg hx hb dX2_cleanRow_6 ?_
  refine lv_topi (fun v1 ev1 => ?_)
  have hv1 := i_neg (Eq.refl p2.toInt) ev1 (by omega) (by omega)
  refine lv_istore (lv' := [(7, .int v1), (5, .long 0), (3, .long 0), (0, .ref p0), (1, .ref p1), (2, .int p2)]) hx hb dX2_cleanRow_7 hl (by decide) rfl (fun ls hl => ?_)
  have zl0 : (0 : Int64).toInt = 0 := by decide
  refine w_loop (σ := Int32 × Int64 × Int64 × va_W) (fun xx H locs ls => match xx with | (v344, v345, v346, w347) => va_P D vwCl w347 H ∧ va_D A w347 ∧ va_S A s.heap H locs ∧ lv_has ls 10 [(7, .int v344), (5, .long v345), (3, .long v346), (0, .ref p0), (1, .ref p1), (2, .int p2)] ∧ TW Y Z T g q w347 ∧ KF 1 T ws w347 ∧ KF 6 T ws w347 ∧ (-50 ≤ v344.toInt ∧ v344.toInt ≤ 600) ∧ (-p2.toInt ≤ v344.toInt)) (fun xx => match xx with | (v344, v345, v346, w347) => (600 - v344.toInt).toNat) (v1, 0, 0, ws) ⟨hP, hD, hS, lv_sub hl [0, 1, 2, 3, 4, 5] rfl, hT, KF.rf, KF.rf, by omega, by omega⟩ (fun xx H locs ls hI ih => ?_)
  obtain ⟨v344, v345, v346, w347⟩ := xx
  obtain ⟨hP, hD, hS, hl, hT, ke680, ke681, hq678, hq679⟩ := hI
  have ih682 := ih
  refine lv_iload hx hb dX2_cleanRow_9 (lv_at hl 0 rfl) ?_
  refine lv_sipush (v := 600) hx hb dX2_cleanRow_11 (by decide) ?_
  refine lv_icmp_ge (tgt := 163) hx hb dX2_cleanRow_14 (by decide) (fun c848 => ?_) (fun c848 => ?_)
  · skip
    have c848 := i_le (show (600 : Int32).toInt = 600 by decide) (Eq.refl v344.toInt) c848
    refine W.widen (k := 0) (n := 0) (Nat.le_of_ble_eq_true rfl) (Nat.le_of_ble_eq_true rfl) ?_
    exact W.vret hx hb hr (fun t ht hW => ⟨⟨w347, rfl, ⟨hT, ke680, ke681⟩, CB.mk ht hP hD⟩, hS.F ht⟩) hS.2.2 dX2_cleanRow_163
  · skip
    have c848 := i_nle (show (600 : Int32).toInt = 600 by decide) (Eq.refl v344.toInt) c848
    refine lv_iload hx hb dX2_cleanRow_17 (lv_at hl 0 rfl) ?_
    refine lv_iload_n hx hb dX2_cleanRow_19 rfl (lv_at hl 5 rfl) ?_
    refine lv_iadd hx hb dX2_cleanRow_20 ?_
    refine lv_topi (fun v849 ev849 => ?_)
    have hv849 := i_add (Eq.refl v344.toInt) (Eq.refl p2.toInt) ev849 (by omega) (by omega)
    refine lv_istore (lv' := [(8, .int v849), (7, .int v344), (5, .long v345), (3, .long v346), (0, .ref p0), (1, .ref p1), (2, .int p2)]) hx hb dX2_cleanRow_21 hl (by decide) rfl (fun ls hl => ?_)
    refine lv_iload hx hb dX2_cleanRow_23 (lv_at hl 1 rfl) ?_
    refine lv_iload_n hx hb dX2_cleanRow_25 rfl (lv_at hl 6 rfl) ?_
    refine lv_isub hx hb dX2_cleanRow_26 ?_
    refine lv_topi (fun v850 ev850 => ?_)
    have hv850 := i_sub (Eq.refl v344.toInt) (Eq.refl p2.toInt) ev850 (by omega) (by omega)
    refine lv_iconst (v := 1) hx hb dX2_cleanRow_27 (by decide) ?_
    refine lv_isub hx hb dX2_cleanRow_28 ?_
    refine lv_topi (fun v851 ev851 => ?_)
    have hv851 := i_sub (Eq.refl v850.toInt) (show (1 : Int32).toInt = 1 by decide) ev851 (by omega) (by omega)
    refine lv_istore (lv' := [(9, .int v851), (8, .int v849), (7, .int v344), (5, .long v345), (3, .long v346), (0, .ref p0), (1, .ref p1), (2, .int p2)]) hx hb dX2_cleanRow_29 hl (by decide) rfl (fun ls hl => ?_)
    refine lv_iload hx hb dX2_cleanRow_31 (lv_at hl 1 rfl) ?_
    refine lv_sipush (v := 600) hx hb dX2_cleanRow_33 (by decide) ?_
    refine w_join (σ := Int64 × Int64) (pcJ := 62) (kJ := 0) (nJ := 0) (stk := fun xx => match xx with | (v861, v862) => []) (fun xx H locs ls => match xx with | (v861, v862) => va_P D vwCl w347 H ∧ va_D A w347 ∧ va_S A s.heap H locs ∧ lv_has ls 10 [(9, .int v851), (8, .int v849), (7, .int v344), (5, .long v861), (3, .long v862), (0, .ref p0), (1, .ref p1), (2, .int p2)] ∧ TW Y Z T g q w347) (fun xx H locs ls hI => ?_) (fun jn863 => ?_)
    · skip
      obtain ⟨v861, v862⟩ := xx
      obtain ⟨hP, hD, hS, hl, hT⟩ := hI
      refine W.eq (g2 := F0 m 62 ls []) rfl ?_
      refine lv_iload hx hb dX2_cleanRow_62 (lv_at hl 0 rfl) ?_
      refine w_join (σ := Int64 × Int64) (pcJ := 90) (kJ := 0) (nJ := 0) (stk := fun xx => match xx with | (v873, v874) => []) (fun xx H locs ls => match xx with | (v873, v874) => va_P D vwCl w347 H ∧ va_D A w347 ∧ va_S A s.heap H locs ∧ lv_has ls 10 [(9, .int v851), (8, .int v849), (7, .int v344), (5, .long v873), (3, .long v874), (0, .ref p0), (1, .ref p1), (2, .int p2)] ∧ TW Y Z T g q w347) (fun xx H locs ls hI => ?_) (fun jn875 => ?_)
      · skip
        obtain ⟨v873, v874⟩ := xx
        obtain ⟨hP, hD, hS, hl, hT⟩ := hI
        refine W.eq (g2 := F0 m 90 ls []) rfl ?_
        refine lv_iload hx hb dX2_cleanRow_90 (lv_at hl 2 rfl) ?_
        refine w_join (σ := va_W) (pcJ := 157) (kJ := 0) (nJ := 0) (stk := fun xx => match xx with | w933 => []) (fun xx H locs ls => match xx with | w933 => va_P D vwCl w933 H ∧ va_D A w933 ∧ va_S A s.heap H locs ∧ lv_has ls 10 [(9, .int v851), (8, .int v849), (7, .int v344), (5, .long v873), (3, .long v874), (0, .ref p0), (1, .ref p1), (2, .int p2)] ∧ TW Y Z T g q w933 ∧ KF 1 T ws w933 ∧ KF 6 T ws w933) (fun xx H locs ls hI => ?_) (fun jn934 => ?_)
        · skip
          revert hI
          generalize xx = w933
          intro hI
          obtain ⟨hP, hD, hS, hl, hT, ke935, ke936⟩ := hI
          refine W.eq (g2 := F0 m 157 ls []) rfl ?_
          obtain ⟨v937, ev937⟩ : ∃ y : Int32, y = v344 + 1 := ⟨_, rfl⟩
          have hv937 := i_add (Eq.refl v344.toInt) (show (1 : Int32).toInt = 1 by decide) ev937 (by omega) (by omega)
          refine lv_iinc (v := v937) (lv' := [(7, .int v937), (9, .int v851), (8, .int v849), (5, .long v873), (3, .long v874), (0, .ref p0), (1, .ref p1), (2, .int p2)]) hx hb dX2_cleanRow_157 hl (k := 2) rfl (by rw [ev937]; rfl) (by decide) rfl (fun ls hl => ?_)
          refine lv_goto (tgt := 9) hx hb dX2_cleanRow_160 (by decide) ?_
          exact ih682 (v937, v873, v874, w933) H locs ls (by show (600 - v937.toInt).toNat < (600 - v344.toInt).toNat; omega) ⟨hP, hD, hS, lv_sub hl [0, 3, 4, 5, 6, 7] rfl, hT, ke935, ke936, by omega, by omega⟩
        · skip
          refine lv_if_lt (tgt := 116) hx hb dX2_cleanRow_92 (by decide) (fun c938 => ?_) (fun c938 => ?_)
          · skip
            have c938 := i_lt (Eq.refl v344.toInt) (show (0 : Int32).toInt = 0 by decide) c938
            refine lv_iload hx hb dX2_cleanRow_116 (lv_at hl 2 rfl) ?_
            refine lv_if_lt (tgt := 157) hx hb dX2_cleanRow_118 (by decide) (fun c939 => ?_) (fun c939 => ?_)
            rotate_left
            · have c939 := i_nlt (Eq.refl v344.toInt) (show (0 : Int32).toInt = 0 by decide) c939; exfalso; omega
            have c939 := i_lt (Eq.refl v344.toInt) (show (0 : Int32).toInt = 0 by decide) c939
            refine W.widen (k := 0) (n := 0) (Nat.le_of_ble_eq_true rfl) (Nat.le_of_ble_eq_true rfl) ?_
            exact jn934 (w347) H locs ls ⟨hP, hD, hS, lv_sub hl [0, 1, 2, 3, 4, 5, 6, 7] rfl, hT, ke680, ke681⟩
          · skip
            have c938 := i_nlt (Eq.refl v344.toInt) (show (0 : Int32).toInt = 0 by decide) c938
            refine lv_aload_n hx hb dX2_cleanRow_95 rfl (lv_at hl 6 rfl) ?_
            refine lv_iload hx hb dX2_cleanRow_96 (lv_at hl 2 rfl) ?_
            refine tr_ld12 hx hb hKN hP hT ht1 (vp_in_iff.mpr ⟨by omega, by omega⟩) dX2_cleanRow_98 (fun v940 => ?_)
            refine lv_ldc (v := (-100000)) hx hb hown (hg _ kw_506) dX2_cleanRow_99 ?_
            have j941 := rgI v940
            refine lv_icmp_ne (tgt := 116) hx hb dX2_cleanRow_101 (by decide) (fun c942 => ?_) (fun c942 => ?_)
            · skip
              have c942 := i_ne (Eq.refl v940.toInt) (show ((-100000) : Int32).toInt = -100000 by decide) c942
              refine lv_iload hx hb dX2_cleanRow_116 (lv_at hl 2 rfl) ?_
              refine lv_if_lt (tgt := 157) hx hb dX2_cleanRow_118 (by decide) (fun c943 => ?_) (fun c943 => ?_)
              · have c943 := i_lt (Eq.refl v344.toInt) (show (0 : Int32).toInt = 0 by decide) c943; exfalso; omega
              have c943 := i_nlt (Eq.refl v344.toInt) (show (0 : Int32).toInt = 0 by decide) c943
              refine lv_lload hx hb dX2_cleanRow_121 (lv_at hl 3 rfl) ?_
              refine lv_lconst (v := 0) hx hb dX2_cleanRow_123 (by decide) ?_
              refine W.lcmp hx hb dX2_cleanRow_124 ?_
              refine lv_if_le (tgt := 157) hx hb dX2_cleanRow_125 (by decide) (fun c944 => ?_) (fun c944 => ?_)
              · skip
                have c944 := l_le (Eq.refl v873.toInt) (show (0 : Int64).toInt = 0 by decide) c944
                refine W.widen (k := 0) (n := 0) (Nat.le_of_ble_eq_true rfl) (Nat.le_of_ble_eq_true rfl) ?_
                exact jn934 (w347) H locs ls ⟨hP, hD, hS, lv_sub hl [0, 1, 2, 3, 4, 5, 6, 7] rfl, hT, ke680, ke681⟩
              · skip
                have c944 := l_nle (Eq.refl v873.toInt) (show (0 : Int64).toInt = 0 by decide) c944
                refine lv_aload_n hx hb dX2_cleanRow_128 rfl (lv_at hl 5 rfl) ?_
                refine ok9 hT ht0 (fun p957 a945 a946 a947 x948 y949 y950 x951 y952 hk958 h953 h954 h955 h956 => ?_)
                refine va_get (D := D) (ci := 2) (v := .ref a945) (C := RX2) (T := TX2) (N := 8) hx hb hg inGX2 hown hKN.1 hP p957 hk958 rfl 0 (by decide) (hg _ kw_232) (fun _ h9 => h9) rfl dX2_cleanRow_129 ?_
                refine lv_iload hx hb dX2_cleanRow_132 (lv_at hl 2 rfl) ?_
                refine lv_aload_n hx hb dX2_cleanRow_134 rfl (lv_at hl 6 rfl) ?_
                refine lv_iload hx hb dX2_cleanRow_135 (lv_at hl 2 rfl) ?_
                refine tr_ld12 hx hb hKN hP hT ht1 (vp_in_iff.mpr ⟨by omega, by omega⟩) dX2_cleanRow_137 (fun v959 => ?_)
                have j960 := rgI v959
                have j961 := Int32.toInt_toInt64 v959
                refine lv_i2l (v := v959.toInt64) hx hb dX2_cleanRow_138 (rfl) ?_
                refine lv_lload_n hx hb dX2_cleanRow_139 rfl (lv_at hl 4 rfl) ?_
                refine lv_lload hx hb dX2_cleanRow_140 (lv_at hl 3 rfl) ?_
                refine cg0 (rn_S (As := [.long v874, .long v873]) (rest := [.long v959.toInt64, .int v344, .ref a945]) (x_J9_floorDiv_f86c9 l D Y Z H.size v874 v873 (show (v873.toInt ≠ 0) by omega)) ⟨hx, hb, hml, hown, hg⟩ lk_X2_75 ⟨CP.blind, CP.at nilP hKN (nilD (A := fun _ => True))⟩ ⟨⟨rfl, rfl⟩, ⟨Nat.le_of_ble_eq_true rfl, Nat.le_of_ble_eq_true rfl⟩, ⟨(Nat.le_of_ble_eq_true rfl), (Nat.le_of_ble_eq_true rfl)⟩⟩ hl.1 rfl (Nat.le_of_ble_eq_true rfl) dX2_cleanRow_142) hP hS hA (fun u962 H locs hw963 hP hS => ?_)
                refine W.eq (g2 := F0 m 145 ls [.long u962, .long v959.toInt64, .int v344, .ref a945]) rfl ?_
                refine lv_lsub hx hb dX2_cleanRow_145 ?_
                refine lv_topl (fun v965 ev965 => ?_)
                refine lv_ldc2 (v := (-30000)) hx hb hown (hg _ kw_528) dX2_cleanRow_146 ?_
                refine lv_ldc2 (v := 30000) hx hb hown (hg _ kw_529) dX2_cleanRow_149 ?_
                have zlm30000 : ((-30000) : Int64).toInt = -30000 := by decide
                have zl30000 : (30000 : Int64).toInt = 30000 := by decide
                refine cg0 (rn_NS (As := [.long v965, .long (-30000), .long 30000]) (rest := [.int v344, .ref a945]) (x_X10_held l D Y Z H.size v965 (-30000) 30000) ⟨hx, hb, hml, hown, hg⟩ hKN lk_X2_85 ⟨CP.blind, CP.at nilP hKN (nilD (A := fun _ => True))⟩ ⟨⟨rfl, rfl⟩, ⟨Nat.le_of_ble_eq_true rfl, Nat.le_of_ble_eq_true rfl⟩, ⟨(Nat.le_of_ble_eq_true rfl), (Nat.le_of_ble_eq_true rfl)⟩⟩ hl.1 rfl (Nat.le_of_ble_eq_true rfl) dX2_cleanRow_152) hP hS hA (fun u966 H locs hw967 hP hS => ?_)
                have hw969 : (((-30000) : Int64).toInt ≤ (30000 : Int64).toInt → (((-30000) : Int64).toInt ≤ u966.toInt ∧ u966.toInt ≤ (30000 : Int64).toInt)) := hw967
                refine W.eq (g2 := F0 m 155 ls [.long u966, .int v344, .ref a945]) rfl ?_
                refine lv_l2i (v := u966.toInt32) hx hb dX2_cleanRow_155 rfl ?_
                refine lv_topi (fun v970 ev970 => ?_)
                have hv970 := l_i (Eq.refl u966.toInt) ev970 (by omega) (by omega)
                refine tr_st12 hx hb hKN hP hD hS hT h953 (vp_in_iff.mpr ⟨by omega, by omega⟩) dX2_cleanRow_156 (fun w971 H locs hP hD hS hT kp972 => ?_)
                have ke973 : KF 1 T ws w971 := KF.tr ke680 (KF.kp kp972 h953 (by decide))
                have ke974 : KF 6 T ws w971 := KF.tr ke681 (KF.kp kp972 h953 (by decide))
                have hk975 := kp972 _ _ hk958 (rne ht0 h953 (by decide))
                refine W.widen (k := 0) (n := 0) (Nat.le_of_ble_eq_true rfl) (Nat.le_of_ble_eq_true rfl) ?_
                exact jn934 (w971) H locs ls ⟨hP, hD, hS, lv_sub hl [0, 1, 2, 3, 4, 5, 6, 7] rfl, hT, ke973, ke974⟩
            · skip
              have c942 := i_eq (Eq.refl v940.toInt) (show ((-100000) : Int32).toInt = -100000 by decide) c942
              refine lv_aload_n hx hb dX2_cleanRow_104 rfl (lv_at hl 5 rfl) ?_
              refine ok9 hT ht0 (fun p988 a976 a977 a978 x979 y980 y981 x982 y983 hk989 h984 h985 h986 h987 => ?_)
              refine va_get (D := D) (ci := 2) (v := .ref a976) (C := RX2) (T := TX2) (N := 8) hx hb hg inGX2 hown hKN.1 hP p988 hk989 rfl 0 (by decide) (hg _ kw_232) (fun _ h9 => h9) rfl dX2_cleanRow_105 ?_
              refine lv_iload hx hb dX2_cleanRow_108 (lv_at hl 2 rfl) ?_
              refine lv_ldc (v := (-100000)) hx hb hown (hg _ kw_506) dX2_cleanRow_110 ?_
              have zim100000 : ((-100000) : Int32).toInt = -100000 := by decide
              refine tr_st12 hx hb hKN hP hD hS hT h984 (vp_in_iff.mpr ⟨by omega, by omega⟩) dX2_cleanRow_112 (fun w990 H locs hP hD hS hT kp991 => ?_)
              have ke992 : KF 1 T ws w990 := KF.tr ke680 (KF.kp kp991 h984 (by decide))
              have ke993 : KF 6 T ws w990 := KF.tr ke681 (KF.kp kp991 h984 (by decide))
              have hk994 := kp991 _ _ hk989 (rne ht0 h984 (by decide))
              refine lv_goto (tgt := 157) hx hb dX2_cleanRow_113 (by decide) ?_
              refine W.widen (k := 0) (n := 0) (Nat.le_of_ble_eq_true rfl) (Nat.le_of_ble_eq_true rfl) ?_
              exact jn934 (w990) H locs ls ⟨hP, hD, hS, lv_sub hl [0, 1, 2, 3, 4, 5, 6, 7] rfl, hT, ke992, ke993⟩
      · skip
        refine lv_if_lt (tgt := 90) hx hb dX2_cleanRow_64 (by decide) (fun c995 => ?_) (fun c995 => ?_)
        · skip
          have c995 := i_lt (Eq.refl v851.toInt) (show (0 : Int32).toInt = 0 by decide) c995
          refine W.widen (k := 0) (n := 0) (Nat.le_of_ble_eq_true rfl) (Nat.le_of_ble_eq_true rfl) ?_
          exact jn875 (v861, v862) H locs ls ⟨hP, hD, hS, lv_sub hl [0, 1, 2, 3, 4, 5, 6, 7] rfl, hT⟩
        · skip
          have c995 := i_nlt (Eq.refl v851.toInt) (show (0 : Int32).toInt = 0 by decide) c995
          refine lv_aload_n hx hb dX2_cleanRow_67 rfl (lv_at hl 6 rfl) ?_
          refine lv_iload hx hb dX2_cleanRow_68 (lv_at hl 0 rfl) ?_
          refine tr_ld12 hx hb hKN hP hT ht1 (vp_in_iff.mpr ⟨by omega, by omega⟩) dX2_cleanRow_70 (fun v996 => ?_)
          refine lv_ldc (v := (-100000)) hx hb hown (hg _ kw_506) dX2_cleanRow_71 ?_
          have j997 := rgI v996
          refine lv_icmp_eq (tgt := 90) hx hb dX2_cleanRow_73 (by decide) (fun c998 => ?_) (fun c998 => ?_)
          · skip
            have c998 := i_eq (Eq.refl v996.toInt) (show ((-100000) : Int32).toInt = -100000 by decide) c998
            refine W.widen (k := 0) (n := 0) (Nat.le_of_ble_eq_true rfl) (Nat.le_of_ble_eq_true rfl) ?_
            exact jn875 (v861, v862) H locs ls ⟨hP, hD, hS, lv_sub hl [0, 1, 2, 3, 4, 5, 6, 7] rfl, hT⟩
          · skip
            have c998 := i_ne (Eq.refl v996.toInt) (show ((-100000) : Int32).toInt = -100000 by decide) c998
            refine lv_lload_n hx hb dX2_cleanRow_76 rfl (lv_at hl 4 rfl) ?_
            refine lv_aload_n hx hb dX2_cleanRow_77 rfl (lv_at hl 6 rfl) ?_
            refine lv_iload hx hb dX2_cleanRow_78 (lv_at hl 0 rfl) ?_
            refine tr_ld12 hx hb hKN hP hT ht1 (vp_in_iff.mpr ⟨by omega, by omega⟩) dX2_cleanRow_80 (fun v999 => ?_)
            have j1000 := rgI v999
            have j1001 := Int32.toInt_toInt64 v999
            refine lv_i2l (v := v999.toInt64) hx hb dX2_cleanRow_81 (rfl) ?_
            refine lv_lsub hx hb dX2_cleanRow_82 ?_
            refine lv_topl (fun v1002 ev1002 => ?_)
            refine lv_lstore_n (lv' := [(3, .long v1002), (9, .int v851), (8, .int v849), (7, .int v344), (5, .long v861), (0, .ref p0), (1, .ref p1), (2, .int p2)]) hx hb dX2_cleanRow_83 rfl hl (by decide) rfl (fun ls hl => ?_)
            refine lv_lload hx hb dX2_cleanRow_84 (lv_at hl 4 rfl) ?_
            refine lv_lconst (v := 1) hx hb dX2_cleanRow_86 (by decide) ?_
            refine lv_lsub hx hb dX2_cleanRow_87 ?_
            refine lv_topl (fun v1003 ev1003 => ?_)
            refine lv_lstore (lv' := [(5, .long v1003), (3, .long v1002), (9, .int v851), (8, .int v849), (7, .int v344), (0, .ref p0), (1, .ref p1), (2, .int p2)]) hx hb dX2_cleanRow_88 hl (by decide) rfl (fun ls hl => ?_)
            refine W.widen (k := 0) (n := 0) (Nat.le_of_ble_eq_true rfl) (Nat.le_of_ble_eq_true rfl) ?_
            exact jn875 (v1003, v1002) H locs ls ⟨hP, hD, hS, lv_sub hl [2, 3, 4, 0, 1, 5, 6, 7] rfl, hT⟩
    · skip
      refine lv_icmp_ge (tgt := 62) hx hb dX2_cleanRow_36 (by decide) (fun c1004 => ?_) (fun c1004 => ?_)
      · skip
        have c1004 := i_le (show (600 : Int32).toInt = 600 by decide) (Eq.refl v849.toInt) c1004
        refine W.widen (k := 0) (n := 0) (Nat.le_of_ble_eq_true rfl) (Nat.le_of_ble_eq_true rfl) ?_
        exact jn863 (v345, v346) H locs ls ⟨hP, hD, hS, lv_sub hl [0, 1, 2, 3, 4, 5, 6, 7] rfl, hT⟩
      · skip
        have c1004 := i_nle (show (600 : Int32).toInt = 600 by decide) (Eq.refl v849.toInt) c1004
        refine lv_aload_n hx hb dX2_cleanRow_39 rfl (lv_at hl 6 rfl) ?_
        refine lv_iload hx hb dX2_cleanRow_40 (lv_at hl 1 rfl) ?_
        refine tr_ld12 hx hb hKN hP hT ht1 (vp_in_iff.mpr ⟨by omega, by omega⟩) dX2_cleanRow_42 (fun v1005 => ?_)
        refine lv_ldc (v := (-100000)) hx hb hown (hg _ kw_506) dX2_cleanRow_43 ?_
        have j1006 := rgI v1005
        refine lv_icmp_eq (tgt := 62) hx hb dX2_cleanRow_45 (by decide) (fun c1007 => ?_) (fun c1007 => ?_)
        · skip
          have c1007 := i_eq (Eq.refl v1005.toInt) (show ((-100000) : Int32).toInt = -100000 by decide) c1007
          refine W.widen (k := 0) (n := 0) (Nat.le_of_ble_eq_true rfl) (Nat.le_of_ble_eq_true rfl) ?_
          exact jn863 (v345, v346) H locs ls ⟨hP, hD, hS, lv_sub hl [0, 1, 2, 3, 4, 5, 6, 7] rfl, hT⟩
        · skip
          have c1007 := i_ne (Eq.refl v1005.toInt) (show ((-100000) : Int32).toInt = -100000 by decide) c1007
          refine lv_lload_n hx hb dX2_cleanRow_48 rfl (lv_at hl 4 rfl) ?_
          refine lv_aload_n hx hb dX2_cleanRow_49 rfl (lv_at hl 6 rfl) ?_
          refine lv_iload hx hb dX2_cleanRow_50 (lv_at hl 1 rfl) ?_
          refine tr_ld12 hx hb hKN hP hT ht1 (vp_in_iff.mpr ⟨by omega, by omega⟩) dX2_cleanRow_52 (fun v1008 => ?_)
          have j1009 := rgI v1008
          have j1010 := Int32.toInt_toInt64 v1008
          refine lv_i2l (v := v1008.toInt64) hx hb dX2_cleanRow_53 (rfl) ?_
          refine lv_ladd hx hb dX2_cleanRow_54 ?_
          refine lv_topl (fun v1011 ev1011 => ?_)
          refine lv_lstore_n (lv' := [(3, .long v1011), (9, .int v851), (8, .int v849), (7, .int v344), (5, .long v345), (0, .ref p0), (1, .ref p1), (2, .int p2)]) hx hb dX2_cleanRow_55 rfl hl (by decide) rfl (fun ls hl => ?_)
          refine lv_lload hx hb dX2_cleanRow_56 (lv_at hl 4 rfl) ?_
          refine lv_lconst (v := 1) hx hb dX2_cleanRow_58 (by decide) ?_
          refine lv_ladd hx hb dX2_cleanRow_59 ?_
          refine lv_topl (fun v1012 ev1012 => ?_)
          refine lv_lstore (lv' := [(5, .long v1012), (3, .long v1011), (9, .int v851), (8, .int v849), (7, .int v344), (0, .ref p0), (1, .ref p1), (2, .int p2)]) hx hb dX2_cleanRow_60 hl (by decide) rfl (fun ls hl => ?_)
          refine W.widen (k := 0) (n := 0) (Nat.le_of_ble_eq_true rfl) (Nat.le_of_ble_eq_true rfl) ?_
          exact jn863 (v1012, v1011) H locs ls ⟨hP, hD, hS, lv_sub hl [2, 3, 4, 0, 1, 5, 6, 7] rfl, hT⟩
set_option maxHeartbeats 4000000 in
set_option maxRecDepth 100000 in
theorem x_X2_markLow (l : Launch) (D : va_G) (Y : Nat → ClassId) (Z : Nat → Nat) (sz : Nat) (ws : va_W) (T : RT) (g : GN) (q : GQ)  (p0 : Nat) (p1 : Nat) (p2 : Int64) (hT : TW Y Z T g q ws) (ht0 : T p0 = (9, 0, 0)) (ht1 : T p1 = (12, 600, 0)) : Met l yX2_markLow (.code yX2_markLow cX2_markLow 5 none :: GW) ({ frames := 0, cells := 0, slots := 0, locals := 0 }) (va_Pc [.ref p0, .ref p1, .long p2] (CPC D Y Z ws sz)) (QG (S := va_W) (fun _ => none) (fun u => TW Y Z T g q u ∧ KF 1 T ws u ∧ KF 6 T ws u) (fun u => CB D u (va_A ws sz)) (va_A ws sz)) 0 0 (va_A ws sz) := by
  refine Met.ofW (cc := cX2_markLow) (maxL := 5) (ret := none) (by decide) rfl ?_
  intro p e s m args below meth c s₁ B hml hv
  obtain ⟨rfl, ⟨hsz, hP, hKN, hD0⟩, hSZ⟩ := hv
  have hx := B.exec
  have hb := B.bytes
  have hr := B.returns
  have hts := atoms_spec (ws := .code yX2_markLow cX2_markLow 5 none :: GW) B.pre
  have hg : ∀ w ∈ GW, w.before _ s = true := fun w h => hts w (List.mem_cons_of_mem _ h)
  have hown : s.vm.findClass RX2 = some m.cls := findClass_of_methodNamed B.named
  have hlocks := B.notSynchronized
  subst hsz
  have hD := hD0.self (sz := s.heap.size)
  generalize hAe : va_A ws s.heap.size = A at hD hSZ ⊢
  have hA : ∀ q : Nat, s.heap.size ≤ q → A q := fun q h => by rw [← hAe]; exact Or.inr h
  clear hAe hD0 hts B
  have hl := lv_entry ([.ref p0, .ref p1, .long p2]) (n := 5) (Nat.le_of_ble_eq_true rfl)
  rw [lg_entry_eq]
  generalize (lg_sl ([.ref p0, .ref p1, .long p2]) ++ List.replicate (5 - (lg_sl ([.ref p0, .ref p1, .long p2])).length) Slot.unset).toArray = ls at hl ⊢
  have hl : lv_has ls 5 [(0, .ref p0), (1, .ref p1), (2, .long p2)] := hl
  refine w_start (A0 := A) hP (fun H locs hP hS => ?_)
  refine lv_iconst (v := 0) hx hb dX2_markLow_0 (by decide) ?_
  refine lv_istore (lv' := [(4, .int 0), (0, .ref p0), (1, .ref p1), (2, .long p2)]) hx hb dX2_markLow_1 hl (by decide) rfl (fun ls hl => ?_)
  have zi0 : (0 : Int32).toInt = 0 := by decide
  refine w_loop (σ := Int32 × va_W) (fun xx H locs ls => match xx with | (v121, w122) => va_P D vwCl w122 H ∧ va_D A w122 ∧ va_S A s.heap H locs ∧ lv_has ls 5 [(4, .int v121), (0, .ref p0), (1, .ref p1), (2, .long p2)] ∧ TW Y Z T g q w122 ∧ KF 1 T ws w122 ∧ KF 6 T ws w122 ∧ (0 ≤ v121.toInt ∧ v121.toInt ≤ 600)) (fun xx => match xx with | (v121, w122) => (600 - v121.toInt).toNat) (0, ws) ⟨hP, hD, hS, lv_sub hl [0, 1, 2, 3] rfl, hT, KF.rf, KF.rf, by omega⟩ (fun xx H locs ls hI ih => ?_)
  obtain ⟨v121, w122⟩ := xx
  obtain ⟨hP, hD, hS, hl, hT, ke246, ke247, hq245⟩ := hI
  have ih248 := ih
  refine lv_iload hx hb dX2_markLow_3 (lv_at hl 0 rfl) ?_
  refine lv_sipush (v := 600) hx hb dX2_markLow_5 (by decide) ?_
  refine lv_icmp_ge (tgt := 47) hx hb dX2_markLow_8 (by decide) (fun c310 => ?_) (fun c310 => ?_)
  · skip
    have c310 := i_le (show (600 : Int32).toInt = 600 by decide) (Eq.refl v121.toInt) c310
    refine W.widen (k := 0) (n := 0) (Nat.le_of_ble_eq_true rfl) (Nat.le_of_ble_eq_true rfl) ?_
    exact W.vret hx hb hr (fun t ht hW => ⟨⟨w122, rfl, ⟨hT, ke246, ke247⟩, CB.mk ht hP hD⟩, hS.F ht⟩) hS.2.2 dX2_markLow_47
  · skip
    have c310 := i_nle (show (600 : Int32).toInt = 600 by decide) (Eq.refl v121.toInt) c310
    refine lv_aload_n hx hb dX2_markLow_11 rfl (lv_at hl 2 rfl) ?_
    refine lv_iload hx hb dX2_markLow_12 (lv_at hl 0 rfl) ?_
    refine tr_ld12 hx hb hKN hP hT ht1 (vp_in_iff.mpr ⟨by omega, by omega⟩) dX2_markLow_14 (fun v311 => ?_)
    refine lv_ldc (v := (-100000)) hx hb hown (hg _ kw_506) dX2_markLow_15 ?_
    refine w_join (σ := va_W) (pcJ := 41) (kJ := 0) (nJ := 0) (stk := fun xx => match xx with | w339 => []) (fun xx H locs ls => match xx with | w339 => va_P D vwCl w339 H ∧ va_D A w339 ∧ va_S A s.heap H locs ∧ lv_has ls 5 [(4, .int v121), (0, .ref p0), (1, .ref p1), (2, .long p2)] ∧ TW Y Z T g q w339 ∧ KF 1 T ws w339 ∧ KF 6 T ws w339) (fun xx H locs ls hI => ?_) (fun jn340 => ?_)
    · skip
      revert hI
      generalize xx = w339
      intro hI
      obtain ⟨hP, hD, hS, hl, hT, ke341, ke342⟩ := hI
      refine W.eq (g2 := F0 m 41 ls []) rfl ?_
      obtain ⟨v343, ev343⟩ : ∃ y : Int32, y = v121 + 1 := ⟨_, rfl⟩
      have hv343 := i_add (Eq.refl v121.toInt) (show (1 : Int32).toInt = 1 by decide) ev343 (by omega) (by omega)
      refine lv_iinc (v := v343) (lv' := [(4, .int v343), (0, .ref p0), (1, .ref p1), (2, .long p2)]) hx hb dX2_markLow_41 hl (k := 0) rfl (by rw [ev343]; rfl) (by decide) rfl (fun ls hl => ?_)
      refine lv_goto (tgt := 3) hx hb dX2_markLow_44 (by decide) ?_
      exact ih248 (v343, w339) H locs ls (by show (600 - v343.toInt).toNat < (600 - v121.toInt).toNat; omega) ⟨hP, hD, hS, lv_sub hl [0, 1, 2, 3] rfl, hT, ke341, ke342, by omega⟩
    · skip
      have j344 := rgI v311
      refine lv_icmp_eq (tgt := 41) hx hb dX2_markLow_17 (by decide) (fun c345 => ?_) (fun c345 => ?_)
      · skip
        have c345 := i_eq (Eq.refl v311.toInt) (show ((-100000) : Int32).toInt = -100000 by decide) c345
        refine W.widen (k := 0) (n := 0) (Nat.le_of_ble_eq_true rfl) (Nat.le_of_ble_eq_true rfl) ?_
        exact jn340 (w122) H locs ls ⟨hP, hD, hS, lv_sub hl [0, 1, 2, 3] rfl, hT, ke246, ke247⟩
      · skip
        have c345 := i_ne (Eq.refl v311.toInt) (show ((-100000) : Int32).toInt = -100000 by decide) c345
        refine lv_aload_n hx hb dX2_markLow_20 rfl (lv_at hl 2 rfl) ?_
        refine lv_iload hx hb dX2_markLow_21 (lv_at hl 0 rfl) ?_
        refine tr_ld12 hx hb hKN hP hT ht1 (vp_in_iff.mpr ⟨by omega, by omega⟩) dX2_markLow_23 (fun v346 => ?_)
        have j347 := rgI v346
        have j348 := Int32.toInt_toInt64 v346
        refine lv_i2l (v := v346.toInt64) hx hb dX2_markLow_24 (rfl) ?_
        refine lv_lload_n hx hb dX2_markLow_25 rfl (lv_at hl 3 rfl) ?_
        refine W.lcmp hx hb dX2_markLow_26 ?_
        refine lv_if_ge (tgt := 41) hx hb dX2_markLow_27 (by decide) (fun c349 => ?_) (fun c349 => ?_)
        · skip
          have c349 := l_ge (Int32.toInt_toInt64 v346) (Eq.refl p2.toInt) c349
          refine W.widen (k := 0) (n := 0) (Nat.le_of_ble_eq_true rfl) (Nat.le_of_ble_eq_true rfl) ?_
          exact jn340 (w122) H locs ls ⟨hP, hD, hS, lv_sub hl [0, 1, 2, 3] rfl, hT, ke246, ke247⟩
        · skip
          have c349 := l_nge (Int32.toInt_toInt64 v346) (Eq.refl p2.toInt) c349
          refine lv_aload_n hx hb dX2_markLow_30 rfl (lv_at hl 1 rfl) ?_
          refine ok9 hT ht0 (fun p362 a350 a351 a352 x353 y354 y355 x356 y357 hk363 h358 h359 h360 h361 => ?_)
          refine va_get (D := D) (ci := 2) (v := .ref a352) (C := RX2) (T := TX2) (N := 8) hx hb hg inGX2 hown hKN.1 hP p362 hk363 rfl 2 (by decide) (hg _ kw_239) (fun _ h9 => h9) rfl dX2_markLow_31 ?_
          refine lv_iload hx hb dX2_markLow_34 (lv_at hl 0 rfl) ?_
          refine lv_dup2_11 hx hb dX2_markLow_36 rfl rfl ?_
          refine tr_ld12 hx hb hKN hP hT h360 (vp_in_iff.mpr ⟨by omega, by omega⟩) dX2_markLow_37 (fun v364 => ?_)
          refine lv_iconst (v := 1) hx hb dX2_markLow_38 (by decide) ?_
          refine lv_iadd hx hb dX2_markLow_39 ?_
          refine lv_topi (fun v365 ev365 => ?_)
          refine tr_st12 hx hb hKN hP hD hS hT h360 (vp_in_iff.mpr ⟨by omega, by omega⟩) dX2_markLow_40 (fun w366 H locs hP hD hS hT kp367 => ?_)
          have ke368 : KF 1 T ws w366 := KF.tr ke246 (KF.kp kp367 h360 (by decide))
          have ke369 : KF 6 T ws w366 := KF.tr ke247 (KF.kp kp367 h360 (by decide))
          have hk370 := kp367 _ _ hk363 (rne ht0 h360 (by decide))
          refine W.widen (k := 0) (n := 0) (Nat.le_of_ble_eq_true rfl) (Nat.le_of_ble_eq_true rfl) ?_
          exact jn340 (w366) H locs ls ⟨hP, hD, hS, lv_sub hl [0, 1, 2, 3] rfl, hT, ke368, ke369⟩
set_option maxHeartbeats 4000000 in
set_option maxRecDepth 100000 in
theorem x_X2_dropMasked (l : Launch) (D : va_G) (Y : Nat → ClassId) (Z : Nat → Nat) (sz : Nat) (ws : va_W) (T : RT) (g : GN) (q : GQ) (j : Nat) (p0 : Nat) (p1 : Nat) (p2 : Int32) (hT : TW Y Z T g q ws) (ht0 : T p0 = (9, 0, 0)) (ht1 : T p1 = (2, j, 0)) : Met l yX2_dropMasked (.code yX2_dropMasked cX2_dropMasked 5 none :: GW) ({ frames := 2, cells := 0, slots := 0, locals := 50 }) (va_Pc [.ref p0, .ref p1, .int p2] (CPC D Y Z ws sz)) (QG (S := va_W) (fun _ => none) (fun u => TW Y Z T g q u ∧ KF 1 T ws u ∧ KF 6 T ws u) (fun u => CB D u (va_A ws sz)) (va_A ws sz)) 0 0 (va_A ws sz) := by
  refine Met.ofW (cc := cX2_dropMasked) (maxL := 5) (ret := none) (by decide) rfl ?_
  intro p e s m args below meth c s₁ B hml hv
  obtain ⟨rfl, ⟨hsz, hP, hKN, hD0⟩, hSZ⟩ := hv
  have hx := B.exec
  have hb := B.bytes
  have hr := B.returns
  have hts := atoms_spec (ws := .code yX2_dropMasked cX2_dropMasked 5 none :: GW) B.pre
  have hg : ∀ w ∈ GW, w.before _ s = true := fun w h => hts w (List.mem_cons_of_mem _ h)
  have hown : s.vm.findClass RX2 = some m.cls := findClass_of_methodNamed B.named
  have hlocks := B.notSynchronized
  subst hsz
  have hD := hD0.self (sz := s.heap.size)
  generalize hAe : va_A ws s.heap.size = A at hD hSZ ⊢
  have hA : ∀ q : Nat, s.heap.size ≤ q → A q := fun q h => by rw [← hAe]; exact Or.inr h
  clear hAe hD0 hts B
  have hl := lv_entry ([.ref p0, .ref p1, .int p2]) (n := 5) (Nat.le_of_ble_eq_true rfl)
  rw [lg_entry_eq]
  generalize (lg_sl ([.ref p0, .ref p1, .int p2]) ++ List.replicate (5 - (lg_sl ([.ref p0, .ref p1, .int p2])).length) Slot.unset).toArray = ls at hl ⊢
  have hl : lv_has ls 5 [(0, .ref p0), (1, .ref p1), (2, .int p2)] := hl
  refine w_start (A0 := A) hP (fun H locs hP hS => ?_)
  refine lv_iload_n hx hb dX2_dropMasked_0 rfl (lv_at hl 2 rfl) ?_
  have j1 := rgI p2
  refine lv_if_lt (tgt := 19) hx hb dX2_dropMasked_1 (by decide) (fun c2 => ?_) (fun c2 => ?_)
  · skip
    have c2 := i_lt (Eq.refl p2.toInt) (show (0 : Int32).toInt = 0 by decide) c2
    refine W.widen (k := 0) (n := 0) (Nat.le_of_ble_eq_true rfl) (Nat.le_of_ble_eq_true rfl) ?_
    exact W.vret hx hb hr (fun t ht hW => ⟨⟨ws, rfl, ⟨hT, KF.rf, KF.rf⟩, CB.mk ht hP hD⟩, hS.F ht⟩) hS.2.2 dX2_dropMasked_19
  · skip
    have c2 := i_nlt (Eq.refl p2.toInt) (show (0 : Int32).toInt = 0 by decide) c2
    refine lv_iload_n hx hb dX2_dropMasked_4 rfl (lv_at hl 2 rfl) ?_
    refine lv_bipush (v := 8) hx hb dX2_dropMasked_5 (by decide) ?_
    refine lv_icmp_ge (tgt := 19) hx hb dX2_dropMasked_7 (by decide) (fun c3 => ?_) (fun c3 => ?_)
    · skip
      have c3 := i_le (show (8 : Int32).toInt = 8 by decide) (Eq.refl p2.toInt) c3
      refine W.widen (k := 0) (n := 0) (Nat.le_of_ble_eq_true rfl) (Nat.le_of_ble_eq_true rfl) ?_
      exact W.vret hx hb hr (fun t ht hW => ⟨⟨ws, rfl, ⟨hT, KF.rf, KF.rf⟩, CB.mk ht hP hD⟩, hS.F ht⟩) hS.2.2 dX2_dropMasked_19
    · skip
      have c3 := i_nle (show (8 : Int32).toInt = 8 by decide) (Eq.refl p2.toInt) c3
      refine lv_aload_n hx hb dX2_dropMasked_10 rfl (lv_at hl 1 rfl) ?_
      refine ok2 hT ht1 (fun p38 x4 a5 x6 a7 x8 a9 a10 x11 a12 a13 x14 a15 x16 hk39 h17 h18 h19 h20 h21 h22 h23 h24 h25 h26 h27 h28 h29 h30 h31 h32 h33 h34 h35 h36 h37 => ?_)
      refine va_getN (D := D) (ci := 6) (v := .ref a12) (C := RX6) (T := TX6) (N := 13) hx hb hg inGX6 hown hKN.1 hP p38 hk39 rfl 8 (by decide) (va_Nw.use rfl (hKN.2.1 _ kn_57 rfl)) (fun _ h9 => h9) rfl dX2_dropMasked_11 ?_
      refine lv_iload_n hx hb dX2_dropMasked_14 rfl (lv_at hl 2 rfl) ?_
      refine tr_ld12 hx hb hKN hP hT h32 (vp_in_iff.mpr ⟨by omega, by omega⟩) dX2_dropMasked_15 (fun v40 => ?_)
      have j41 := rgI v40
      refine lv_if_ne (tgt := 20) hx hb dX2_dropMasked_16 (by decide) (fun c42 => ?_) (fun c42 => ?_)
      · skip
        have c42 := i_ne (Eq.refl v40.toInt) (show (0 : Int32).toInt = 0 by decide) c42
        refine lv_aload_n hx hb dX2_dropMasked_20 rfl (lv_at hl 0 rfl) ?_
        refine ok9 hT ht0 (fun p55 a43 a44 a45 x46 y47 y48 x49 y50 hk56 h51 h52 h53 h54 => ?_)
        refine va_get (D := D) (ci := 2) (v := .ref a45) (C := RX2) (T := TX2) (N := 8) hx hb hg inGX2 hown hKN.1 hP p55 hk56 rfl 2 (by decide) (hg _ kw_239) (fun _ h9 => h9) rfl dX2_dropMasked_21 ?_
        refine lv_iconst (v := 0) hx hb dX2_dropMasked_24 (by decide) ?_
        have zi0 : (0 : Int32).toInt = 0 := by decide
        refine cga (rn_S (As := [.ref a45, .int 0]) (rest := []) (x_J7_fill_53178 l D Y Z H.size ws T g q 600 a45 0 hT h53 (show ((600 : Int) ≤ 600) by omega)) ⟨hx, hb, hml, hown, hg⟩ lk_X2_28 ⟨CPC.blind, CPC.at hP hKN hD hSZ hS hA⟩ ⟨⟨rfl, rfl⟩, ⟨Nat.le_of_ble_eq_true rfl, Nat.le_of_ble_eq_true rfl⟩, ⟨(Nat.le_of_ble_eq_true rfl), (Nat.le_of_ble_eq_true rfl)⟩⟩ hl.1 rfl (Nat.le_of_ble_eq_true rfl) dX2_dropMasked_25) hP hD hS hA (fun u57 H locs hw58 hP hD hS => ?_)
        obtain ⟨hT, ke60, ke61⟩ : TW Y Z T g q u57 ∧ KF 1 T ws u57 ∧ KF 6 T ws u57 := hw58
        have ke62 : KF 1 T ws u57 := KF.tr KF.rf ke60
        have ke63 : KF 6 T ws u57 := KF.tr KF.rf ke61
        refine W.eq (g2 := F0 m 28 ls []) rfl ?_
        refine lv_iconst (v := 0) hx hb dX2_dropMasked_28 (by decide) ?_
        refine lv_istore_n (lv' := [(3, .int 0), (0, .ref p0), (1, .ref p1), (2, .int p2)]) hx hb dX2_dropMasked_29 rfl hl (by decide) rfl (fun ls hl => ?_)
        refine w_loop (σ := Int32 × va_W) (fun xx H locs ls => match xx with | (v147, w148) => va_P D vwCl w148 H ∧ va_D A w148 ∧ va_S A s.heap H locs ∧ lv_has ls 5 [(3, .int v147), (0, .ref p0), (1, .ref p1), (2, .int p2)] ∧ TW Y Z T g q w148 ∧ KF 1 T ws w148 ∧ KF 6 T ws w148 ∧ (0 ≤ v147.toInt ∧ v147.toInt ≤ 12)) (fun xx => match xx with | (v147, w148) => (12 - v147.toInt).toNat) (0, u57) ⟨hP, hD, hS, lv_sub hl [0, 1, 2, 3] rfl, hT, ke62, ke63, by omega⟩ (fun xx H locs ls hI ih => ?_)
        obtain ⟨v147, w148⟩ := xx
        obtain ⟨hP, hD, hS, hl, hT, ke236, ke237, hq235⟩ := hI
        have ih238 := ih
        refine lv_iload_n hx hb dX2_dropMasked_30 rfl (lv_at hl 0 rfl) ?_
        refine lv_aload_n hx hb dX2_dropMasked_31 rfl (lv_at hl 2 rfl) ?_
        refine ok2 hT ht1 (fun p273 x239 a240 x241 a242 x243 a244 a245 x246 a247 a248 x249 a250 x251 hk274 h252 h253 h254 h255 h256 h257 h258 h259 h260 h261 h262 h263 h264 h265 h266 h267 h268 h269 h270 h271 h272 => ?_)
        refine va_getN (D := D) (ci := 6) (v := .int x239) (C := RX6) (T := TX6) (N := 13) hx hb hg inGX6 hown hKN.1 hP p273 hk274 rfl 0 (by decide) (va_Nw.use rfl (hKN.2.1 _ kn_40 rfl)) (fun _ h9 => h9) rfl dX2_dropMasked_32 ?_
        refine lv_icmp_ge (tgt := 87) hx hb dX2_dropMasked_35 (by decide) (fun c275 => ?_) (fun c275 => ?_)
        · skip
          have c275 := i_le (Eq.refl x239.toInt) (Eq.refl v147.toInt) c275
          refine lv_iconst (v := 0) hx hb dX2_dropMasked_87 (by decide) ?_
          refine lv_istore_n (lv' := [(3, .int 0), (0, .ref p0), (1, .ref p1), (2, .int p2)]) hx hb dX2_dropMasked_88 rfl hl (by decide) rfl (fun ls hl => ?_)
          refine w_loop (σ := Int32 × va_W) (fun xx H locs ls => match xx with | (v302, w303) => va_P D vwCl w303 H ∧ va_D A w303 ∧ va_S A s.heap H locs ∧ lv_has ls 5 [(3, .int v302), (0, .ref p0), (1, .ref p1), (2, .int p2)] ∧ TW Y Z T g q w303 ∧ KF 1 T ws w303 ∧ KF 6 T ws w303 ∧ (0 ≤ v302.toInt ∧ v302.toInt ≤ 600)) (fun xx => match xx with | (v302, w303) => (600 - v302.toInt).toNat) (0, w148) ⟨hP, hD, hS, lv_sub hl [0, 1, 2, 3] rfl, hT, ke236, ke237, by omega⟩ (fun xx H locs ls hI ih => ?_)
          obtain ⟨v302, w303⟩ := xx
          obtain ⟨hP, hD, hS, hl, hT, ke369, ke370, hq368⟩ := hI
          have ih371 := ih
          refine lv_iload_n hx hb dX2_dropMasked_89 rfl (lv_at hl 0 rfl) ?_
          refine lv_sipush (v := 600) hx hb dX2_dropMasked_90 (by decide) ?_
          refine lv_icmp_ge (tgt := 125) hx hb dX2_dropMasked_93 (by decide) (fun c372 => ?_) (fun c372 => ?_)
          · skip
            have c372 := i_le (show (600 : Int32).toInt = 600 by decide) (Eq.refl v302.toInt) c372
            refine W.widen (k := 0) (n := 0) (Nat.le_of_ble_eq_true rfl) (Nat.le_of_ble_eq_true rfl) ?_
            exact W.vret hx hb hr (fun t ht hW => ⟨⟨w303, rfl, ⟨hT, ke369, ke370⟩, CB.mk ht hP hD⟩, hS.F ht⟩) hS.2.2 dX2_dropMasked_125
          · skip
            have c372 := i_nle (show (600 : Int32).toInt = 600 by decide) (Eq.refl v302.toInt) c372
            refine lv_aload_n hx hb dX2_dropMasked_96 rfl (lv_at hl 1 rfl) ?_
            refine ok9 hT ht0 (fun p385 a373 a374 a375 x376 y377 y378 x379 y380 hk386 h381 h382 h383 h384 => ?_)
            refine va_get (D := D) (ci := 2) (v := .ref a375) (C := RX2) (T := TX2) (N := 8) hx hb hg inGX2 hown hKN.1 hP p385 hk386 rfl 2 (by decide) (hg _ kw_239) (fun _ h9 => h9) rfl dX2_dropMasked_97 ?_
            refine lv_iload_n hx hb dX2_dropMasked_100 rfl (lv_at hl 0 rfl) ?_
            refine tr_ld12 hx hb hKN hP hT h383 (vp_in_iff.mpr ⟨by omega, by omega⟩) dX2_dropMasked_101 (fun v387 => ?_)
            refine lv_aload_n hx hb dX2_dropMasked_102 rfl (lv_at hl 2 rfl) ?_
            refine ok2 hT ht1 (fun p422 x388 a389 x390 a391 x392 a393 a394 x395 a396 a397 x398 a399 x400 hk423 h401 h402 h403 h404 h405 h406 h407 h408 h409 h410 h411 h412 h413 h414 h415 h416 h417 h418 h419 h420 h421 => ?_)
            refine va_getN (D := D) (ci := 6) (v := .ref a396) (C := RX6) (T := TX6) (N := 13) hx hb hg inGX6 hown hKN.1 hP p422 hk423 rfl 8 (by decide) (va_Nw.use rfl (hKN.2.1 _ kn_57 rfl)) (fun _ h9 => h9) rfl dX2_dropMasked_103 ?_
            refine lv_iload_n hx hb dX2_dropMasked_106 rfl (lv_at hl 3 rfl) ?_
            refine tr_ld12 hx hb hKN hP hT h416 (vp_in_iff.mpr ⟨by omega, by omega⟩) dX2_dropMasked_107 (fun v424 => ?_)
            have j425 := rgI v387
            have j426 := rgI v424
            refine lv_icmp_lt (tgt := 119) hx hb dX2_dropMasked_108 (by decide) (fun c427 => ?_) (fun c427 => ?_)
            · skip
              have c427 := i_lt (Eq.refl v387.toInt) (Eq.refl v424.toInt) c427
              obtain ⟨v428, ev428⟩ : ∃ y : Int32, y = v302 + 1 := ⟨_, rfl⟩
              have hv428 := i_add (Eq.refl v302.toInt) (show (1 : Int32).toInt = 1 by decide) ev428 (by omega) (by omega)
              refine lv_iinc (v := v428) (lv' := [(3, .int v428), (0, .ref p0), (1, .ref p1), (2, .int p2)]) hx hb dX2_dropMasked_119 hl (k := 0) rfl (by rw [ev428]; rfl) (by decide) rfl (fun ls hl => ?_)
              refine lv_goto (tgt := 89) hx hb dX2_dropMasked_122 (by decide) ?_
              exact ih371 (v428, w303) H locs ls (by show (600 - v428.toInt).toNat < (600 - v302.toInt).toNat; omega) ⟨hP, hD, hS, lv_sub hl [0, 1, 2, 3] rfl, hT, ke369, ke370, by omega⟩
            · skip
              have c427 := i_nlt (Eq.refl v387.toInt) (Eq.refl v424.toInt) c427
              refine lv_aload_n hx hb dX2_dropMasked_111 rfl (lv_at hl 1 rfl) ?_
              refine va_get (D := D) (ci := 2) (v := .ref a373) (C := RX2) (T := TX2) (N := 8) hx hb hg inGX2 hown hKN.1 hP p385 hk386 rfl 0 (by decide) (hg _ kw_232) (fun _ h9 => h9) rfl dX2_dropMasked_112 ?_
              refine lv_iload_n hx hb dX2_dropMasked_115 rfl (lv_at hl 0 rfl) ?_
              refine lv_ldc (v := (-100000)) hx hb hown (hg _ kw_506) dX2_dropMasked_116 ?_
              have zim100000 : ((-100000) : Int32).toInt = -100000 := by decide
              refine tr_st12 hx hb hKN hP hD hS hT h381 (vp_in_iff.mpr ⟨by omega, by omega⟩) dX2_dropMasked_118 (fun w429 H locs hP hD hS hT kp430 => ?_)
              have ke431 : KF 1 T ws w429 := KF.tr ke369 (KF.kp kp430 h381 (by decide))
              have ke432 : KF 6 T ws w429 := KF.tr ke370 (KF.kp kp430 h381 (by decide))
              have hk433 := kp430 _ _ hk386 (rne ht0 h381 (by decide))
              have hk434 := kp430 _ _ hk423 (rne ht1 h381 (by decide))
              obtain ⟨v435, ev435⟩ : ∃ y : Int32, y = v302 + 1 := ⟨_, rfl⟩
              have hv435 := i_add (Eq.refl v302.toInt) (show (1 : Int32).toInt = 1 by decide) ev435 (by omega) (by omega)
              refine lv_iinc (v := v435) (lv' := [(3, .int v435), (0, .ref p0), (1, .ref p1), (2, .int p2)]) hx hb dX2_dropMasked_119 hl (k := 0) rfl (by rw [ev435]; rfl) (by decide) rfl (fun ls hl => ?_)
              refine lv_goto (tgt := 89) hx hb dX2_dropMasked_122 (by decide) ?_
              exact ih371 (v435, w429) H locs ls (by show (600 - v435.toInt).toNat < (600 - v302.toInt).toNat; omega) ⟨hP, hD, hS, lv_sub hl [0, 1, 2, 3] rfl, hT, ke431, ke432, by omega⟩
        · skip
          have c275 := i_nle (Eq.refl x239.toInt) (Eq.refl v147.toInt) c275
          refine lv_aload_n hx hb dX2_dropMasked_38 rfl (lv_at hl 2 rfl) ?_
          refine lv_iload_n hx hb dX2_dropMasked_39 rfl (lv_at hl 0 rfl) ?_
          refine cga (rn_NV (As := [.int v147]) (rest := []) (b := p1) (x_X6_starAt l D Y Z H.size w148 T g q j p1 v147 hT ht1) ⟨hx, hb, hml, hown, hg⟩ hKN lk_X2_21 ⟨CPC.blind, va_recv hKN.1 hP (ci := 6) (q0 := p273) rfl hk274, CPC.at hP hKN hD hSZ hS hA⟩ ⟨⟨rfl, rfl⟩, ⟨Nat.le_of_ble_eq_true rfl, Nat.le_of_ble_eq_true rfl⟩, ⟨(Nat.le_of_ble_eq_true rfl), (Nat.le_of_ble_eq_true rfl)⟩⟩ hl.1 rfl (Nat.le_of_ble_eq_true rfl) dX2_dropMasked_40) hP hD hS hA (fun u436 H locs hw437 hP hD hS => ?_)
          obtain ⟨ht439, hw440⟩ : (∀ b, u436 = some b → T b = (3, j, v147.toNatClampNeg)) ∧ (∀ b, u436 = some b → 0 ≤ v147.toInt ∧ v147.toInt ≤ 11) := hw437
          refine W.eq (g2 := F0 m 43 ls [va_rf u436]) rfl ?_
          rcases u436 with _ | b441
          · skip
            refine W.eq (g2 := F0 m 43 ls [.null]) rfl ?_
            refine lv_astoreN (lv' := [(4, .null), (3, .int v147), (0, .ref p0), (1, .ref p1), (2, .int p2)]) hx hb dX2_dropMasked_43 hl (by decide) rfl (fun ls hl => ?_)
            refine lv_aloadN hx hb dX2_dropMasked_45 (lv_at hl 0 rfl) ?_
            refine lv_ifnullN (tgt := 81) hx hb dX2_dropMasked_47 (by decide) ?_
            obtain ⟨v442, ev442⟩ : ∃ y : Int32, y = v147 + 1 := ⟨_, rfl⟩
            have hv442 := i_add (Eq.refl v147.toInt) (show (1 : Int32).toInt = 1 by decide) ev442 (by omega) (by omega)
            refine lv_iinc (v := v442) (lv' := [(3, .int v442), (4, .null), (0, .ref p0), (1, .ref p1), (2, .int p2)]) hx hb dX2_dropMasked_81 hl (k := 1) rfl (by rw [ev442]; rfl) (by decide) rfl (fun ls hl => ?_)
            refine lv_goto (tgt := 30) hx hb dX2_dropMasked_84 (by decide) ?_
            exact ih238 (v442, w148) H locs ls (by show (12 - v442.toInt).toNat < (12 - v147.toInt).toNat; omega) ⟨hP, hD, hS, lv_sub hl [0, 2, 3, 4] rfl, hT, ke236, ke237, by omega⟩
          · skip
            have ht443 := ht439 b441 rfl
            have h444 := hw440 b441 rfl
            refine W.eq (g2 := F0 m 43 ls [.ref b441]) rfl ?_
            refine lv_astore (lv' := [(4, .ref b441), (3, .int v147), (0, .ref p0), (1, .ref p1), (2, .int p2)]) hx hb dX2_dropMasked_43 hl (by decide) rfl (fun ls hl => ?_)
            refine lv_aload hx hb dX2_dropMasked_45 (lv_at hl 0 rfl) ?_
            refine lv_ifnull hx hb dX2_dropMasked_47 ?_
            refine lv_aload hx hb dX2_dropMasked_50 (lv_at hl 0 rfl) ?_
            refine ok3 hT ht443 (fun p451 x445 x446 x447 a448 hk452 h449 h450 => ?_)
            refine va_getN (D := D) (ci := 7) (v := .int x446) (C := RX7) (T := TX7) (N := 4) hx hb hg inGX7 hown hKN.1 hP p451 hk452 rfl 1 (by decide) (va_Nw.use rfl (hKN.2.1 _ kn_437 rfl)) (fun _ h9 => h9) rfl dX2_dropMasked_52 ?_
            refine lv_iload_n hx hb dX2_dropMasked_55 rfl (lv_at hl 4 rfl) ?_
            have j453 := rgI x446
            refine lv_icmp_ne (tgt := 81) hx hb dX2_dropMasked_56 (by decide) (fun c454 => ?_) (fun c454 => ?_)
            · skip
              have c454 := i_ne (Eq.refl x446.toInt) (Eq.refl p2.toInt) c454
              obtain ⟨v455, ev455⟩ : ∃ y : Int32, y = v147 + 1 := ⟨_, rfl⟩
              have hv455 := i_add (Eq.refl v147.toInt) (show (1 : Int32).toInt = 1 by decide) ev455 (by omega) (by omega)
              refine lv_iinc (v := v455) (lv' := [(3, .int v455), (4, .ref b441), (0, .ref p0), (1, .ref p1), (2, .int p2)]) hx hb dX2_dropMasked_81 hl (k := 1) rfl (by rw [ev455]; rfl) (by decide) rfl (fun ls hl => ?_)
              refine lv_goto (tgt := 30) hx hb dX2_dropMasked_84 (by decide) ?_
              exact ih238 (v455, w148) H locs ls (by show (12 - v455.toInt).toNat < (12 - v147.toInt).toNat; omega) ⟨hP, hD, hS, lv_sub hl [0, 2, 3, 4] rfl, hT, ke236, ke237, by omega⟩
            · skip
              have c454 := i_eq (Eq.refl x446.toInt) (Eq.refl p2.toInt) c454
              refine lv_aload_n hx hb dX2_dropMasked_59 rfl (lv_at hl 2 rfl) ?_
              refine lv_aload hx hb dX2_dropMasked_60 (lv_at hl 0 rfl) ?_
              refine va_getN (D := D) (ci := 7) (v := .ref a448) (C := RX7) (T := TX7) (N := 4) hx hb hg inGX7 hown hKN.1 hP p451 hk452 rfl 3 (by decide) (va_Nw.use rfl (hKN.2.1 _ kn_442 rfl)) (fun _ h9 => h9) rfl dX2_dropMasked_62 ?_
              refine lv_aload hx hb dX2_dropMasked_65 (lv_at hl 0 rfl) ?_
              refine cga (rn_NV (As := []) (rest := [.ref a448, .ref p0]) (b := b441) (x_X7_mean l D Y Z H.size w148 T g q j v147.toNatClampNeg b441 hT ht443) ⟨hx, hb, hml, hown, hg⟩ hKN lk_X2_95 ⟨CPC.blind, va_recv hKN.1 hP (ci := 7) (q0 := p451) rfl hk452, CPC.at hP hKN hD hSZ hS hA⟩ ⟨⟨rfl, rfl⟩, ⟨Nat.le_of_ble_eq_true rfl, Nat.le_of_ble_eq_true rfl⟩, ⟨(Nat.le_of_ble_eq_true rfl), (Nat.le_of_ble_eq_true rfl)⟩⟩ hl.1 rfl (Nat.le_of_ble_eq_true rfl) dX2_dropMasked_67) hP hD hS hA (fun u456 H locs hw457 hP hD hS => ?_)
              refine W.eq (g2 := F0 m 70 ls [.long u456, .ref a448, .ref p0]) rfl ?_
              refine lv_aload_n hx hb dX2_dropMasked_70 rfl (lv_at hl 3 rfl) ?_
              refine va_getN (D := D) (ci := 6) (v := .ref a248) (C := RX6) (T := TX6) (N := 13) hx hb hg inGX6 hown hKN.1 hP p273 hk274 rfl 9 (by decide) (va_Nw.use rfl (hKN.2.1 _ kn_61 rfl)) (fun _ h9 => h9) rfl dX2_dropMasked_71 ?_
              refine lv_iload_n hx hb dX2_dropMasked_74 rfl (lv_at hl 4 rfl) ?_
              refine tr_ld12 hx hb hKN hP hT h268 (vp_in_iff.mpr ⟨by omega, by omega⟩) dX2_dropMasked_75 (fun v459 => ?_)
              have j460 := rgI v459
              have j461 := Int32.toInt_toInt64 v459
              refine lv_i2l (v := v459.toInt64) hx hb dX2_dropMasked_76 (rfl) ?_
              refine lv_lsub hx hb dX2_dropMasked_77 ?_
              refine lv_topl (fun v462 ev462 => ?_)
              refine ok9 hT ht0 (fun p475 a463 a464 a465 x466 y467 y468 x469 y470 hk476 h471 h472 h473 h474 => ?_)
              refine cga (rn_V (As := [.ref a448, .long v462]) (rest := []) (b := p0) (x_X2_markLow l D Y Z H.size w148 T g q p0 a448 v462 hT ht0 h450) ⟨hx, hb, hml, hown, hg⟩ lk_X2_102 ⟨CPC.blind, va_recv hKN.1 hP (ci := 2) (q0 := p475) rfl hk476, CPC.at hP hKN hD hSZ hS hA⟩ ⟨⟨rfl, rfl⟩, ⟨Nat.le_of_ble_eq_true rfl, Nat.le_of_ble_eq_true rfl⟩, ⟨(Nat.le_of_ble_eq_true rfl), (Nat.le_of_ble_eq_true rfl)⟩⟩ hl.1 rfl (Nat.le_of_ble_eq_true rfl) dX2_dropMasked_78) hP hD hS hA (fun u477 H locs hw478 hP hD hS => ?_)
              obtain ⟨hT, ke480, ke481⟩ : TW Y Z T g q u477 ∧ KF 1 T w148 u477 ∧ KF 6 T w148 u477 := hw478
              have ke482 : KF 1 T ws u477 := KF.tr ke236 ke480
              have ke483 : KF 6 T ws u477 := KF.tr ke237 ke481
              refine W.eq (g2 := F0 m 81 ls []) rfl ?_
              obtain ⟨v484, ev484⟩ : ∃ y : Int32, y = v147 + 1 := ⟨_, rfl⟩
              have hv484 := i_add (Eq.refl v147.toInt) (show (1 : Int32).toInt = 1 by decide) ev484 (by omega) (by omega)
              refine lv_iinc (v := v484) (lv' := [(3, .int v484), (4, .ref b441), (0, .ref p0), (1, .ref p1), (2, .int p2)]) hx hb dX2_dropMasked_81 hl (k := 1) rfl (by rw [ev484]; rfl) (by decide) rfl (fun ls hl => ?_)
              refine lv_goto (tgt := 30) hx hb dX2_dropMasked_84 (by decide) ?_
              exact ih238 (v484, u477) H locs ls (by show (12 - v484.toInt).toNat < (12 - v147.toInt).toNat; omega) ⟨hP, hD, hS, lv_sub hl [0, 2, 3, 4] rfl, hT, ke482, ke483, by omega⟩
      · skip
        have c42 := i_eq (Eq.refl v40.toInt) (show (0 : Int32).toInt = 0 by decide) c42
        refine W.widen (k := 0) (n := 0) (Nat.le_of_ble_eq_true rfl) (Nat.le_of_ble_eq_true rfl) ?_
        exact W.vret hx hb hr (fun t ht hW => ⟨⟨ws, rfl, ⟨hT, KF.rf, KF.rf⟩, CB.mk ht hP hD⟩, hS.F ht⟩) hS.2.2 dX2_dropMasked_19
set_option maxHeartbeats 4000000 in
set_option maxRecDepth 100000 in
theorem x_X2_measure (l : Launch) (D : va_G) (Y : Nat → ClassId) (Z : Nat → Nat) (sz : Nat) (ws : va_W) (T : RT) (g : GN) (q : GQ)  (p0 : Nat) (hT : TW Y Z T g q ws) (ht0 : T p0 = (9, 0, 0)) : Met l yX2_measure (.code yX2_measure cX2_measure 6 none :: GW) ({ frames := 1, cells := 0, slots := 0, locals := 23 }) (va_Pc [.ref p0] (CPC D Y Z ws sz)) (QG (S := va_W) (fun _ => none) (fun u => TW Y Z T g q u ∧ KF 1 T ws u ∧ KF 6 T ws u) (fun u => CB D u (va_A ws sz)) (va_A ws sz)) 0 0 (va_A ws sz) := by
  refine Met.ofW (cc := cX2_measure) (maxL := 6) (ret := none) (by decide) rfl ?_
  intro p e s m args below meth c s₁ B hml hv
  obtain ⟨rfl, ⟨hsz, hP, hKN, hD0⟩, hSZ⟩ := hv
  have hx := B.exec
  have hb := B.bytes
  have hr := B.returns
  have hts := atoms_spec (ws := .code yX2_measure cX2_measure 6 none :: GW) B.pre
  have hg : ∀ w ∈ GW, w.before _ s = true := fun w h => hts w (List.mem_cons_of_mem _ h)
  have hown : s.vm.findClass RX2 = some m.cls := findClass_of_methodNamed B.named
  have hlocks := B.notSynchronized
  subst hsz
  have hD := hD0.self (sz := s.heap.size)
  generalize hAe : va_A ws s.heap.size = A at hD hSZ ⊢
  have hA : ∀ q : Nat, s.heap.size ≤ q → A q := fun q h => by rw [← hAe]; exact Or.inr h
  clear hAe hD0 hts B
  have hl := lv_entry ([.ref p0]) (n := 6) (Nat.le_of_ble_eq_true rfl)
  rw [lg_entry_eq]
  generalize (lg_sl ([.ref p0]) ++ List.replicate (6 - (lg_sl ([.ref p0])).length) Slot.unset).toArray = ls at hl ⊢
  have hl : lv_has ls 6 [(0, .ref p0)] := hl
  refine w_start (A0 := A) hP (fun H locs hP hS => ?_)
  refine lv_lconst (v := 0) hx hb dX2_measure_0 (by decide) ?_
  refine lv_lstore_n (lv' := [(1, .long 0), (0, .ref p0)]) hx hb dX2_measure_1 rfl hl (by decide) rfl (fun ls hl => ?_)
  refine lv_aload_n hx hb dX2_measure_2 rfl (lv_at hl 1 rfl) ?_
  refine lv_iconst (v := 0) hx hb dX2_measure_3 (by decide) ?_
  refine ok9 hT ht0 (fun p13 a1 a2 a3 x4 y5 y6 x7 y8 hk14 h9 h10 h11 h12 => ?_)
  refine va_put (D := D) (ci := 2) (v := .int 0) (ty := .int) (C := RX2) (T := TX2) (N := 8) hx hb hg inGX2 tyX2 tyX2_ok nmX2 hown hKN.1 hP hD hS p13 hk14 rfl 3 (by decide) (hg _ kw_242) (fun _ h9 => h9) rfl (by decide +kernel) rfl rfl (Nat.le_of_ble_eq_true rfl) dX2_measure_4 (fun H locs hP hD2 hS => ?_)
  have zi0 : (0 : Int32).toInt = 0 := by decide
  obtain ⟨w15, hP, hD, hT, hk17, kp16⟩ : ∃ wz, va_P D vwCl wz H ∧ va_D A wz ∧ TW Y Z T g q wz ∧ wz[p13]? = some (p0, .inr (2, [.ref a1, .ref a2, .ref a3, .int 0, .long y5, .long y6, .int x7, .long y8])) ∧ Kp p0 ws wz := ⟨_, hP, hD2, st9 hT hD hk14 ht0 ⟨a1, a2, a3, (0), y5, y6, x7, y8, rfl, h9, h10, h11, by omega⟩, sw_eq hk14, sw_kp hk14⟩
  have ke18 : KF 1 T ws w15 := KF.tr KF.rf (KF.kp kp16 ht0 (by decide))
  have ke19 : KF 6 T ws w15 := KF.tr KF.rf (KF.kp kp16 ht0 (by decide))
  refine lv_aload_n hx hb dX2_measure_7 rfl (lv_at hl 1 rfl) ?_
  refine lv_lconst (v := 0) hx hb dX2_measure_8 (by decide) ?_
  refine va_put (D := D) (ci := 2) (v := .long 0) (ty := .long) (C := RX2) (T := TX2) (N := 8) hx hb hg inGX2 tyX2 tyX2_ok nmX2 hown hKN.1 hP hD hS p13 hk17 rfl 4 (by decide) (hg _ kw_244) (fun _ h9 => h9) rfl (by decide +kernel) rfl rfl (Nat.le_of_ble_eq_true rfl) dX2_measure_9 (fun H locs hP hD2 hS => ?_)
  have zl0 : (0 : Int64).toInt = 0 := by decide
  obtain ⟨w20, hP, hD, hT, hk22, kp21⟩ : ∃ wz, va_P D vwCl wz H ∧ va_D A wz ∧ TW Y Z T g q wz ∧ wz[p13]? = some (p0, .inr (2, [.ref a1, .ref a2, .ref a3, .int 0, .long 0, .long y6, .int x7, .long y8])) ∧ Kp p0 w15 wz := ⟨_, hP, hD2, st9 hT hD hk17 ht0 ⟨a1, a2, a3, (0), (0), y6, x7, y8, rfl, h9, h10, h11, by omega⟩, sw_eq hk17, sw_kp hk17⟩
  have ke23 : KF 1 T ws w20 := KF.tr ke18 (KF.kp kp21 ht0 (by decide))
  have ke24 : KF 6 T ws w20 := KF.tr ke19 (KF.kp kp21 ht0 (by decide))
  refine lv_iconst (v := 0) hx hb dX2_measure_12 (by decide) ?_
  refine lv_istore_n (lv' := [(3, .int 0), (1, .long 0), (0, .ref p0)]) hx hb dX2_measure_13 rfl hl (by decide) rfl (fun ls hl => ?_)
  refine w_loop (σ := Int32 × Int64 × va_W × Int32 × Int64) (fun xx H locs ls => match xx with | (v49, v50, w51, v52, v53) => va_P D vwCl w51 H ∧ va_D A w51 ∧ va_S A s.heap H locs ∧ lv_has ls 6 [(3, .int v49), (1, .long v50), (0, .ref p0)] ∧ TW Y Z T g q w51 ∧ KF 1 T ws w51 ∧ KF 6 T ws w51 ∧ w51[p13]? = some (p0, .inr (2, [.ref a1, .ref a2, .ref a3, .int v52, .long v53, .long y6, .int x7, .long y8])) ∧ (0 ≤ v49.toInt ∧ v49.toInt ≤ 600) ∧ (0 ≤ v52.toInt ∧ v52.toInt ≤ 600) ∧ (v52.toInt ≤ v49.toInt)) (fun xx => match xx with | (v49, v50, w51, v52, v53) => (600 - v49.toInt).toNat) (0, 0, w20, 0, 0) ⟨hP, hD, hS, lv_sub hl [0, 1, 2] rfl, hT, ke23, ke24, hk22, by omega, by omega, by omega⟩ (fun xx H locs ls hI ih => ?_)
  obtain ⟨v49, v50, w51, v52, v53⟩ := xx
  obtain ⟨hP, hD, hS, hl, hT, ke83, ke84, hk85, hq80, hq81, hq82⟩ := hI
  have ih86 := ih
  refine lv_iload_n hx hb dX2_measure_14 rfl (lv_at hl 0 rfl) ?_
  refine lv_sipush (v := 600) hx hb dX2_measure_15 (by decide) ?_
  refine lv_icmp_ge (tgt := 84) hx hb dX2_measure_18 (by decide) (fun c87 => ?_) (fun c87 => ?_)
  · skip
    have c87 := i_le (show (600 : Int32).toInt = 600 by decide) (Eq.refl v49.toInt) c87
    refine lv_aload_n hx hb dX2_measure_84 rfl (lv_at hl 2 rfl) ?_
    refine va_get (D := D) (ci := 2) (v := .int v52) (C := RX2) (T := TX2) (N := 8) hx hb hg inGX2 hown hKN.1 hP p13 hk85 rfl 3 (by decide) (hg _ kw_242) (fun _ h9 => h9) rfl dX2_measure_85 ?_
    have j88 := Int32.toInt_toInt64 v52
    refine lv_i2l (v := v52.toInt64) hx hb dX2_measure_88 (rfl) ?_
    refine lv_aload_n hx hb dX2_measure_89 rfl (lv_at hl 2 rfl) ?_
    refine va_get (D := D) (ci := 2) (v := .int v52) (C := RX2) (T := TX2) (N := 8) hx hb hg inGX2 hown hKN.1 hP p13 hk85 rfl 3 (by decide) (hg _ kw_242) (fun _ h9 => h9) rfl dX2_measure_90 ?_
    refine lv_i2l (v := v52.toInt64) hx hb dX2_measure_93 (rfl) ?_
    refine lv_lmul hx hb dX2_measure_94 ?_
    refine lv_topl (fun v89 ev89 => ?_)
    have hv89 := l_mulR (a := 0) (b := 600) (c := 0) (d := 600) (lo := 0) (hi := 360000) (Int32.toInt_toInt64 v52) (Int32.toInt_toInt64 v52) ev89 (by omega) (by omega) (by decide) (by decide)
    refine lv_lstore_n (lv' := [(3, .long v89), (1, .long v50), (0, .ref p0)]) hx hb dX2_measure_95 rfl hl (by decide) rfl (fun ls hl => ?_)
    refine lv_aload_n hx hb dX2_measure_96 rfl (lv_at hl 2 rfl) ?_
    refine lv_lload_n hx hb dX2_measure_97 rfl (lv_at hl 0 rfl) ?_
    refine lv_lconst (v := 0) hx hb dX2_measure_98 (by decide) ?_
    refine W.lcmp hx hb dX2_measure_99 ?_
    refine lv_if_ne (tgt := 107) hx hb dX2_measure_100 (by decide) (fun c90 => ?_) (fun c90 => ?_)
    · skip
      have c90 := l_ne (Eq.refl v89.toInt) (show (0 : Int64).toInt = 0 by decide) c90
      refine lv_lconst (v := 1) hx hb dX2_measure_107 (by decide) ?_
      refine lv_aload_n hx hb dX2_measure_108 rfl (lv_at hl 2 rfl) ?_
      refine va_get (D := D) (ci := 2) (v := .int v52) (C := RX2) (T := TX2) (N := 8) hx hb hg inGX2 hown hKN.1 hP p13 hk85 rfl 3 (by decide) (hg _ kw_242) (fun _ h9 => h9) rfl dX2_measure_109 ?_
      refine lv_i2l (v := v52.toInt64) hx hb dX2_measure_112 (rfl) ?_
      refine lv_lload_n hx hb dX2_measure_113 rfl (lv_at hl 1 rfl) ?_
      refine lv_lmul hx hb dX2_measure_114 ?_
      refine lv_topl (fun v91 ev91 => ?_)
      refine lv_aload_n hx hb dX2_measure_115 rfl (lv_at hl 2 rfl) ?_
      refine va_get (D := D) (ci := 2) (v := .long v53) (C := RX2) (T := TX2) (N := 8) hx hb hg inGX2 hown hKN.1 hP p13 hk85 rfl 4 (by decide) (hg _ kw_244) (fun _ h9 => h9) rfl dX2_measure_116 ?_
      refine lv_aload_n hx hb dX2_measure_119 rfl (lv_at hl 2 rfl) ?_
      refine va_get (D := D) (ci := 2) (v := .long v53) (C := RX2) (T := TX2) (N := 8) hx hb hg inGX2 hown hKN.1 hP p13 hk85 rfl 4 (by decide) (hg _ kw_244) (fun _ h9 => h9) rfl dX2_measure_120 ?_
      refine lv_lmul hx hb dX2_measure_123 ?_
      refine lv_topl (fun v92 ev92 => ?_)
      refine lv_lsub hx hb dX2_measure_124 ?_
      refine lv_topl (fun v93 ev93 => ?_)
      refine lv_lload_n hx hb dX2_measure_125 rfl (lv_at hl 0 rfl) ?_
      refine lv_ldiv hx hb dX2_measure_126 (l_nz (Eq.refl v89.toInt) (by omega)) ?_
      refine lv_topl (fun v94 ev94 => ?_)
      have hv94 := l_divS (Eq.refl v93.toInt) (Eq.refl v89.toInt) ev94 (by omega)
      have zl1 : (1 : Int64).toInt = 1 := by decide
      refine cg0 (rn_S (As := [.long 1, .long v94]) (rest := [.ref p0]) (x_J9_max_f86c9 l D Y Z H.size 1 v94) ⟨hx, hb, hml, hown, hg⟩ lk_X2_115 ⟨CP.blind, CP.at nilP hKN (nilD (A := fun _ => True))⟩ ⟨⟨rfl, rfl⟩, ⟨Nat.le_of_ble_eq_true rfl, Nat.le_of_ble_eq_true rfl⟩, ⟨(Nat.le_of_ble_eq_true rfl), (Nat.le_of_ble_eq_true rfl)⟩⟩ hl.1 rfl (Nat.le_of_ble_eq_true rfl) dX2_measure_127) hP hS hA (fun u95 H locs hw96 hP hS => ?_)
      obtain ⟨hw98, hw99⟩ : ((1 : Int64).toInt ≤ u95.toInt ∧ v94.toInt ≤ u95.toInt) ∧ (u95.toInt = (1 : Int64).toInt ∨ u95.toInt = v94.toInt) := hw96
      refine W.eq (g2 := F0 m 130 ls [.long u95, .ref p0]) rfl ?_
      refine va_put (D := D) (ci := 2) (v := .long u95) (ty := .long) (C := RX2) (T := TX2) (N := 8) hx hb hg inGX2 tyX2 tyX2_ok nmX2 hown hKN.1 hP hD hS p13 hk85 rfl 5 (by decide) (hg _ kw_245) (fun _ h9 => h9) rfl (by decide +kernel) rfl rfl (Nat.le_of_ble_eq_true rfl) dX2_measure_130 (fun H locs hP hD2 hS => ?_)
      obtain ⟨w100, hP, hD, hT, hk102, kp101⟩ : ∃ wz, va_P D vwCl wz H ∧ va_D A wz ∧ TW Y Z T g q wz ∧ wz[p13]? = some (p0, .inr (2, [.ref a1, .ref a2, .ref a3, .int v52, .long v53, .long u95, .int x7, .long y8])) ∧ Kp p0 w51 wz := ⟨_, hP, hD2, st9 hT hD hk85 ht0 ⟨a1, a2, a3, v52, v53, u95, x7, y8, rfl, h9, h10, h11, by omega⟩, sw_eq hk85, sw_kp hk85⟩
      have ke103 : KF 1 T ws w100 := KF.tr ke83 (KF.kp kp101 ht0 (by decide))
      have ke104 : KF 6 T ws w100 := KF.tr ke84 (KF.kp kp101 ht0 (by decide))
      refine W.widen (k := 0) (n := 0) (Nat.le_of_ble_eq_true rfl) (Nat.le_of_ble_eq_true rfl) ?_
      exact W.vret hx hb hr (fun t ht hW => ⟨⟨w100, rfl, ⟨hT, ke103, ke104⟩, CB.mk ht hP hD⟩, hS.F ht⟩) hS.2.2 dX2_measure_133
    · skip
      have c90 := l_eq (Eq.refl v89.toInt) (show (0 : Int64).toInt = 0 by decide) c90
      refine lv_lconst (v := 1) hx hb dX2_measure_103 (by decide) ?_
      refine lv_goto (tgt := 130) hx hb dX2_measure_104 (by decide) ?_
      refine va_put (D := D) (ci := 2) (v := .long 1) (ty := .long) (C := RX2) (T := TX2) (N := 8) hx hb hg inGX2 tyX2 tyX2_ok nmX2 hown hKN.1 hP hD hS p13 hk85 rfl 5 (by decide) (hg _ kw_245) (fun _ h9 => h9) rfl (by decide +kernel) rfl rfl (Nat.le_of_ble_eq_true rfl) dX2_measure_130 (fun H locs hP hD2 hS => ?_)
      have zl1 : (1 : Int64).toInt = 1 := by decide
      obtain ⟨w105, hP, hD, hT, hk107, kp106⟩ : ∃ wz, va_P D vwCl wz H ∧ va_D A wz ∧ TW Y Z T g q wz ∧ wz[p13]? = some (p0, .inr (2, [.ref a1, .ref a2, .ref a3, .int v52, .long v53, .long 1, .int x7, .long y8])) ∧ Kp p0 w51 wz := ⟨_, hP, hD2, st9 hT hD hk85 ht0 ⟨a1, a2, a3, v52, v53, (1), x7, y8, rfl, h9, h10, h11, by omega⟩, sw_eq hk85, sw_kp hk85⟩
      have ke108 : KF 1 T ws w105 := KF.tr ke83 (KF.kp kp106 ht0 (by decide))
      have ke109 : KF 6 T ws w105 := KF.tr ke84 (KF.kp kp106 ht0 (by decide))
      refine W.widen (k := 0) (n := 0) (Nat.le_of_ble_eq_true rfl) (Nat.le_of_ble_eq_true rfl) ?_
      exact W.vret hx hb hr (fun t ht hW => ⟨⟨w105, rfl, ⟨hT, ke108, ke109⟩, CB.mk ht hP hD⟩, hS.F ht⟩) hS.2.2 dX2_measure_133
  · skip
    have c87 := i_nle (show (600 : Int32).toInt = 600 by decide) (Eq.refl v49.toInt) c87
    refine lv_aload_n hx hb dX2_measure_21 rfl (lv_at hl 2 rfl) ?_
    refine va_get (D := D) (ci := 2) (v := .ref a1) (C := RX2) (T := TX2) (N := 8) hx hb hg inGX2 hown hKN.1 hP p13 hk85 rfl 0 (by decide) (hg _ kw_232) (fun _ h9 => h9) rfl dX2_measure_22 ?_
    refine lv_iload_n hx hb dX2_measure_25 rfl (lv_at hl 0 rfl) ?_
    refine tr_ld12 hx hb hKN hP hT h9 (vp_in_iff.mpr ⟨by omega, by omega⟩) dX2_measure_26 (fun v110 => ?_)
    have j111 := rgI v110
    have j112 := Int32.toInt_toInt64 v110
    refine lv_i2l (v := v110.toInt64) hx hb dX2_measure_27 (rfl) ?_
    refine lv_lstore (lv' := [(4, .long v110.toInt64), (3, .int v49), (1, .long v50), (0, .ref p0)]) hx hb dX2_measure_28 hl (by decide) rfl (fun ls hl => ?_)
    refine lv_lload hx hb dX2_measure_30 (lv_at hl 0 rfl) ?_
    refine lv_ldc2 (v := (-100000)) hx hb hown (hg _ kw_556) dX2_measure_32 ?_
    refine W.lcmp hx hb dX2_measure_35 ?_
    refine lv_if_eq (tgt := 78) hx hb dX2_measure_36 (by decide) (fun c113 => ?_) (fun c113 => ?_)
    · skip
      have c113 := l_eq (Int32.toInt_toInt64 v110) (show ((-100000) : Int64).toInt = -100000 by decide) c113
      obtain ⟨v114, ev114⟩ : ∃ y : Int32, y = v49 + 1 := ⟨_, rfl⟩
      have hv114 := i_add (Eq.refl v49.toInt) (show (1 : Int32).toInt = 1 by decide) ev114 (by omega) (by omega)
      refine lv_iinc (v := v114) (lv' := [(3, .int v114), (4, .long v110.toInt64), (1, .long v50), (0, .ref p0)]) hx hb dX2_measure_78 hl (k := 1) rfl (by rw [ev114]; rfl) (by decide) rfl (fun ls hl => ?_)
      refine lv_goto (tgt := 14) hx hb dX2_measure_81 (by decide) ?_
      exact ih86 (v114, v50, w51, v52, v53) H locs ls (by show (600 - v114.toInt).toNat < (600 - v49.toInt).toNat; omega) ⟨hP, hD, hS, lv_sub hl [0, 2, 3] rfl, hT, ke83, ke84, hk85, by omega, by omega, by omega⟩
    · skip
      have c113 := l_ne (Int32.toInt_toInt64 v110) (show ((-100000) : Int64).toInt = -100000 by decide) c113
      refine lv_aload_n hx hb dX2_measure_39 rfl (lv_at hl 3 rfl) ?_
      refine va_get (D := D) (ci := 2) (v := .ref a2) (C := RX2) (T := TX2) (N := 8) hx hb hg inGX2 hown hKN.1 hP p13 hk85 rfl 1 (by decide) (hg _ kw_236) (fun _ h9 => h9) rfl dX2_measure_40 ?_
      refine lv_aload_n hx hb dX2_measure_43 rfl (lv_at hl 3 rfl) ?_
      refine va_get (D := D) (ci := 2) (v := .int v52) (C := RX2) (T := TX2) (N := 8) hx hb hg inGX2 hown hKN.1 hP p13 hk85 rfl 3 (by decide) (hg _ kw_242) (fun _ h9 => h9) rfl dX2_measure_44 ?_
      refine lv_iload_n hx hb dX2_measure_47 rfl (lv_at hl 1 rfl) ?_
      refine tr_st13 hx hb hKN hP hD hS hT h10 (vp_in_iff.mpr ⟨by omega, by omega⟩) ⟨by omega, by omega⟩ dX2_measure_48 (fun w115 H locs hP hD hS hT kp116 => ?_)
      have ke117 : KF 1 T ws w115 := KF.tr ke83 (KF.kp kp116 h10 (by decide))
      have ke118 : KF 6 T ws w115 := KF.tr ke84 (KF.kp kp116 h10 (by decide))
      have hk119 := kp116 _ _ hk85 (rne ht0 h10 (by decide))
      refine lv_aload_n hx hb dX2_measure_49 rfl (lv_at hl 3 rfl) ?_
      refine lv_dup hx hb dX2_measure_50 rfl ?_
      refine va_get (D := D) (ci := 2) (v := .int v52) (C := RX2) (T := TX2) (N := 8) hx hb hg inGX2 hown hKN.1 hP p13 hk119 rfl 3 (by decide) (hg _ kw_242) (fun _ h9 => h9) rfl dX2_measure_51 ?_
      refine lv_iconst (v := 1) hx hb dX2_measure_54 (by decide) ?_
      refine lv_iadd hx hb dX2_measure_55 ?_
      refine lv_topi (fun v120 ev120 => ?_)
      have hv120 := i_add (Eq.refl v52.toInt) (show (1 : Int32).toInt = 1 by decide) ev120 (by omega) (by omega)
      refine va_put (D := D) (ci := 2) (v := .int v120) (ty := .int) (C := RX2) (T := TX2) (N := 8) hx hb hg inGX2 tyX2 tyX2_ok nmX2 hown hKN.1 hP hD hS p13 hk119 rfl 3 (by decide) (hg _ kw_242) (fun _ h9 => h9) rfl (by decide +kernel) rfl rfl (Nat.le_of_ble_eq_true rfl) dX2_measure_56 (fun H locs hP hD2 hS => ?_)
      obtain ⟨w121, hP, hD, hT, hk123, kp122⟩ : ∃ wz, va_P D vwCl wz H ∧ va_D A wz ∧ TW Y Z T g q wz ∧ wz[p13]? = some (p0, .inr (2, [.ref a1, .ref a2, .ref a3, .int v120, .long v53, .long y6, .int x7, .long y8])) ∧ Kp p0 w115 wz := ⟨_, hP, hD2, st9 hT hD hk119 ht0 ⟨a1, a2, a3, v120, v53, y6, x7, y8, rfl, h9, h10, h11, by omega⟩, sw_eq hk119, sw_kp hk119⟩
      have ke124 : KF 1 T ws w121 := KF.tr ke117 (KF.kp kp122 ht0 (by decide))
      have ke125 : KF 6 T ws w121 := KF.tr ke118 (KF.kp kp122 ht0 (by decide))
      refine lv_aload_n hx hb dX2_measure_59 rfl (lv_at hl 3 rfl) ?_
      refine lv_dup hx hb dX2_measure_60 rfl ?_
      refine va_get (D := D) (ci := 2) (v := .long v53) (C := RX2) (T := TX2) (N := 8) hx hb hg inGX2 hown hKN.1 hP p13 hk123 rfl 4 (by decide) (hg _ kw_244) (fun _ h9 => h9) rfl dX2_measure_61 ?_
      refine lv_lload hx hb dX2_measure_64 (lv_at hl 0 rfl) ?_
      refine lv_ladd hx hb dX2_measure_66 ?_
      refine lv_topl (fun v126 ev126 => ?_)
      refine va_put (D := D) (ci := 2) (v := .long v126) (ty := .long) (C := RX2) (T := TX2) (N := 8) hx hb hg inGX2 tyX2 tyX2_ok nmX2 hown hKN.1 hP hD hS p13 hk123 rfl 4 (by decide) (hg _ kw_244) (fun _ h9 => h9) rfl (by decide +kernel) rfl rfl (Nat.le_of_ble_eq_true rfl) dX2_measure_67 (fun H locs hP hD2 hS => ?_)
      obtain ⟨w127, hP, hD, hT, hk129, kp128⟩ : ∃ wz, va_P D vwCl wz H ∧ va_D A wz ∧ TW Y Z T g q wz ∧ wz[p13]? = some (p0, .inr (2, [.ref a1, .ref a2, .ref a3, .int v120, .long v126, .long y6, .int x7, .long y8])) ∧ Kp p0 w121 wz := ⟨_, hP, hD2, st9 hT hD hk123 ht0 ⟨a1, a2, a3, v120, v126, y6, x7, y8, rfl, h9, h10, h11, by omega⟩, sw_eq hk123, sw_kp hk123⟩
      have ke130 : KF 1 T ws w127 := KF.tr ke124 (KF.kp kp128 ht0 (by decide))
      have ke131 : KF 6 T ws w127 := KF.tr ke125 (KF.kp kp128 ht0 (by decide))
      refine lv_lload_n hx hb dX2_measure_70 rfl (lv_at hl 2 rfl) ?_
      refine lv_lload hx hb dX2_measure_71 (lv_at hl 0 rfl) ?_
      refine lv_lload hx hb dX2_measure_73 (lv_at hl 0 rfl) ?_
      refine lv_lmul hx hb dX2_measure_75 ?_
      refine lv_topl (fun v132 ev132 => ?_)
      have hv132 := l_mulR (a := -2147483648) (b := 2147483647) (c := -2147483648) (d := 2147483647) (lo := -4611686016279904256) (hi := 4611686018427387904) (Int32.toInt_toInt64 v110) (Int32.toInt_toInt64 v110) ev132 (by omega) (by omega) (by decide) (by decide)
      refine lv_ladd hx hb dX2_measure_76 ?_
      refine lv_topl (fun v133 ev133 => ?_)
      refine lv_lstore_n (lv' := [(1, .long v133), (4, .long v110.toInt64), (3, .int v49), (0, .ref p0)]) hx hb dX2_measure_77 rfl hl (by decide) rfl (fun ls hl => ?_)
      obtain ⟨v134, ev134⟩ : ∃ y : Int32, y = v49 + 1 := ⟨_, rfl⟩
      have hv134 := i_add (Eq.refl v49.toInt) (show (1 : Int32).toInt = 1 by decide) ev134 (by omega) (by omega)
      refine lv_iinc (v := v134) (lv' := [(3, .int v134), (1, .long v133), (4, .long v110.toInt64), (0, .ref p0)]) hx hb dX2_measure_78 hl (k := 2) rfl (by rw [ev134]; rfl) (by decide) rfl (fun ls hl => ?_)
      refine lv_goto (tgt := 14) hx hb dX2_measure_81 (by decide) ?_
      exact ih86 (v134, v133, w127, v120, v126) H locs ls (by show (600 - v134.toInt).toNat < (600 - v49.toInt).toNat; omega) ⟨hP, hD, hS, lv_sub hl [0, 1, 3] rfl, hT, ke130, ke131, hk129, by omega, by omega, by omega⟩
set_option maxHeartbeats 4000000 in
set_option maxRecDepth 100000 in
theorem x_X2_addWorld (l : Launch) (D : va_G) (Y : Nat → ClassId) (Z : Nat → Nat) (sz : Nat) (ws : va_W) (T : RT) (g : GN) (q : GQ)  (p0 : Nat) (p1 : Nat) (hT : TW Y Z T g q ws) (ht0 : T p0 = (9, 0, 0)) (ht1 : T p1 = (4, 0, 0)) : Met l yX2_addWorld (.code yX2_addWorld cX2_addWorld 3 none :: GW) ({ frames := 2, cells := 0, slots := 0, locals := 48 }) (va_Pc [.ref p0, .ref p1] (CPC D Y Z ws sz)) (QG (S := va_W) (fun _ => none) (fun u => TW Y Z T g q u ∧ KF 1 T ws u ∧ KF 6 T ws u) (fun u => CB D u (va_A ws sz)) (va_A ws sz)) 0 0 (va_A ws sz) := by
  refine Met.ofW (cc := cX2_addWorld) (maxL := 3) (ret := none) (by decide) rfl ?_
  intro p e s m args below meth c s₁ B hml hv
  obtain ⟨rfl, ⟨hsz, hP, hKN, hD0⟩, hSZ⟩ := hv
  have hx := B.exec
  have hb := B.bytes
  have hr := B.returns
  have hts := atoms_spec (ws := .code yX2_addWorld cX2_addWorld 3 none :: GW) B.pre
  have hg : ∀ w ∈ GW, w.before _ s = true := fun w h => hts w (List.mem_cons_of_mem _ h)
  have hown : s.vm.findClass RX2 = some m.cls := findClass_of_methodNamed B.named
  have hlocks := B.notSynchronized
  subst hsz
  have hD := hD0.self (sz := s.heap.size)
  generalize hAe : va_A ws s.heap.size = A at hD hSZ ⊢
  have hA : ∀ q : Nat, s.heap.size ≤ q → A q := fun q h => by rw [← hAe]; exact Or.inr h
  clear hAe hD0 hts B
  have hl := lv_entry ([.ref p0, .ref p1]) (n := 3) (Nat.le_of_ble_eq_true rfl)
  rw [lg_entry_eq]
  generalize (lg_sl ([.ref p0, .ref p1]) ++ List.replicate (3 - (lg_sl ([.ref p0, .ref p1])).length) Slot.unset).toArray = ls at hl ⊢
  have hl : lv_has ls 3 [(0, .ref p0), (1, .ref p1)] := hl
  refine w_start (A0 := A) hP (fun H locs hP hS => ?_)
  refine lv_iconst (v := 0) hx hb dX2_addWorld_0 (by decide) ?_
  refine lv_istore_n (lv' := [(2, .int 0), (0, .ref p0), (1, .ref p1)]) hx hb dX2_addWorld_1 rfl hl (by decide) rfl (fun ls hl => ?_)
  have zi0 : (0 : Int32).toInt = 0 := by decide
  refine w_loop (σ := Int32 × va_W) (fun xx H locs ls => match xx with | (v48, w49) => va_P D vwCl w49 H ∧ va_D A w49 ∧ va_S A s.heap H locs ∧ lv_has ls 3 [(2, .int v48), (0, .ref p0), (1, .ref p1)] ∧ TW Y Z T g q w49 ∧ KF 1 T ws w49 ∧ KF 6 T ws w49 ∧ (0 ≤ v48.toInt ∧ v48.toInt ≤ 600)) (fun xx => match xx with | (v48, w49) => (600 - v48.toInt).toNat) (0, ws) ⟨hP, hD, hS, lv_sub hl [0, 1, 2] rfl, hT, KF.rf, KF.rf, by omega⟩ (fun xx H locs ls hI ih => ?_)
  obtain ⟨v48, w49⟩ := xx
  obtain ⟨hP, hD, hS, hl, hT, ke101, ke102, hq100⟩ := hI
  have ih103 := ih
  refine lv_iload_n hx hb dX2_addWorld_2 rfl (lv_at hl 0 rfl) ?_
  refine lv_sipush (v := 600) hx hb dX2_addWorld_3 (by decide) ?_
  refine lv_icmp_ge (tgt := 57) hx hb dX2_addWorld_6 (by decide) (fun c104 => ?_) (fun c104 => ?_)
  · skip
    have c104 := i_le (show (600 : Int32).toInt = 600 by decide) (Eq.refl v48.toInt) c104
    refine lv_aload_n hx hb dX2_addWorld_57 rfl (lv_at hl 1 rfl) ?_
    refine ok9 hT ht0 (fun p117 a105 a106 a107 x108 y109 y110 x111 y112 hk118 h113 h114 h115 h116 => ?_)
    refine cga (rn_V (As := []) (rest := []) (b := p0) (x_X2_measure l D Y Z H.size w49 T g q p0 hT ht0) ⟨hx, hb, hml, hown, hg⟩ lk_X2_69 ⟨CPC.blind, va_recv hKN.1 hP (ci := 2) (q0 := p117) rfl hk118, CPC.at hP hKN hD hSZ hS hA⟩ ⟨⟨rfl, rfl⟩, ⟨Nat.le_of_ble_eq_true rfl, Nat.le_of_ble_eq_true rfl⟩, ⟨(Nat.le_of_ble_eq_true rfl), (Nat.le_of_ble_eq_true rfl)⟩⟩ hl.1 rfl (Nat.le_of_ble_eq_true rfl) dX2_addWorld_58) hP hD hS hA (fun u119 H locs hw120 hP hD hS => ?_)
    obtain ⟨hT, ke122, ke123⟩ : TW Y Z T g q u119 ∧ KF 1 T w49 u119 ∧ KF 6 T w49 u119 := hw120
    have ke124 : KF 1 T ws u119 := KF.tr ke101 ke122
    have ke125 : KF 6 T ws u119 := KF.tr ke102 ke123
    refine W.eq (g2 := F0 m 61 ls []) rfl ?_
    refine W.widen (k := 0) (n := 0) (Nat.le_of_ble_eq_true rfl) (Nat.le_of_ble_eq_true rfl) ?_
    exact W.vret hx hb hr (fun t ht hW => ⟨⟨u119, rfl, ⟨hT, ke124, ke125⟩, CB.mk ht hP hD⟩, hS.F ht⟩) hS.2.2 dX2_addWorld_61
  · skip
    have c104 := i_nle (show (600 : Int32).toInt = 600 by decide) (Eq.refl v48.toInt) c104
    refine lv_aload_n hx hb dX2_addWorld_9 rfl (lv_at hl 1 rfl) ?_
    refine ok9 hT ht0 (fun p138 a126 a127 a128 x129 y130 y131 x132 y133 hk139 h134 h135 h136 h137 => ?_)
    refine va_get (D := D) (ci := 2) (v := .ref a126) (C := RX2) (T := TX2) (N := 8) hx hb hg inGX2 hown hKN.1 hP p138 hk139 rfl 0 (by decide) (hg _ kw_232) (fun _ h9 => h9) rfl dX2_addWorld_10 ?_
    refine lv_iload_n hx hb dX2_addWorld_13 rfl (lv_at hl 0 rfl) ?_
    refine tr_ld12 hx hb hKN hP hT h134 (vp_in_iff.mpr ⟨by omega, by omega⟩) dX2_addWorld_14 (fun v140 => ?_)
    refine lv_ldc (v := (-100000)) hx hb hown (hg _ kw_506) dX2_addWorld_15 ?_
    have j141 := rgI v140
    refine lv_icmp_eq (tgt := 51) hx hb dX2_addWorld_17 (by decide) (fun c142 => ?_) (fun c142 => ?_)
    · skip
      have c142 := i_eq (Eq.refl v140.toInt) (show ((-100000) : Int32).toInt = -100000 by decide) c142
      obtain ⟨v143, ev143⟩ : ∃ y : Int32, y = v48 + 1 := ⟨_, rfl⟩
      have hv143 := i_add (Eq.refl v48.toInt) (show (1 : Int32).toInt = 1 by decide) ev143 (by omega) (by omega)
      refine lv_iinc (v := v143) (lv' := [(2, .int v143), (0, .ref p0), (1, .ref p1)]) hx hb dX2_addWorld_51 hl (k := 0) rfl (by rw [ev143]; rfl) (by decide) rfl (fun ls hl => ?_)
      refine lv_goto (tgt := 2) hx hb dX2_addWorld_54 (by decide) ?_
      exact ih103 (v143, w49) H locs ls (by show (600 - v143.toInt).toNat < (600 - v48.toInt).toNat; omega) ⟨hP, hD, hS, lv_sub hl [0, 1, 2] rfl, hT, ke101, ke102, by omega⟩
    · skip
      have c142 := i_ne (Eq.refl v140.toInt) (show ((-100000) : Int32).toInt = -100000 by decide) c142
      refine lv_aload_n hx hb dX2_addWorld_20 rfl (lv_at hl 2 rfl) ?_
      refine lv_iload_n hx hb dX2_addWorld_21 rfl (lv_at hl 0 rfl) ?_
      refine ok4 hT ht1 (fun p151 x144 x145 x146 x147 x148 x149 hk152 h150 => ?_)
      refine cga (rn_NV (As := [.int v48]) (rest := []) (b := p1) (x_X9_isDipAt l D Y Z H.size w49 T g q p1 v48 hT ht1) ⟨hx, hb, hml, hown, hg⟩ hKN lk_X2_121 ⟨CPC.blind, va_recv hKN.1 hP (ci := 9) (q0 := p151) rfl hk152, CPC.at hP hKN hD hSZ hS hA⟩ ⟨⟨rfl, rfl⟩, ⟨Nat.le_of_ble_eq_true rfl, Nat.le_of_ble_eq_true rfl⟩, ⟨(Nat.le_of_ble_eq_true rfl), (Nat.le_of_ble_eq_true rfl)⟩⟩ hl.1 rfl (Nat.le_of_ble_eq_true rfl) dX2_addWorld_22) hP hD hS hA (fun u153 H locs hw154 hP hD hS => ?_)
      have hw156 : (0 ≤ u153.toInt ∧ u153.toInt ≤ 1) := hw154
      refine W.eq (g2 := F0 m 25 ls [.int u153]) rfl ?_
      rcases (show u153.toInt = 1 ∨ u153.toInt = 0 by omega) with c157 | c157
      · obtain rfl : u153 = 1 := i_is c157 (by decide)
        have zi1 : (1 : Int32).toInt = 1 := by decide
        refine W.eq (g2 := F0 m 25 ls [.int 1]) rfl ?_
        refine lv_if_eq (tgt := 51) hx hb dX2_addWorld_25 (by decide) (fun c158 => ?_) (fun c158 => ?_)
        · exact absurd c158 (by decide)
        refine lv_aload_n hx hb dX2_addWorld_28 rfl (lv_at hl 1 rfl) ?_
        refine va_get (D := D) (ci := 2) (v := .ref a126) (C := RX2) (T := TX2) (N := 8) hx hb hg inGX2 hown hKN.1 hP p138 hk139 rfl 0 (by decide) (hg _ kw_232) (fun _ h9 => h9) rfl dX2_addWorld_29 ?_
        refine lv_iload_n hx hb dX2_addWorld_32 rfl (lv_at hl 0 rfl) ?_
        refine lv_sipush (v := (-30000)) hx hb dX2_addWorld_33 (by decide) ?_
        refine lv_aload_n hx hb dX2_addWorld_36 rfl (lv_at hl 1 rfl) ?_
        refine va_get (D := D) (ci := 2) (v := .ref a126) (C := RX2) (T := TX2) (N := 8) hx hb hg inGX2 hown hKN.1 hP p138 hk139 rfl 0 (by decide) (hg _ kw_232) (fun _ h9 => h9) rfl dX2_addWorld_37 ?_
        refine lv_iload_n hx hb dX2_addWorld_40 rfl (lv_at hl 0 rfl) ?_
        refine tr_ld12 hx hb hKN hP hT h134 (vp_in_iff.mpr ⟨by omega, by omega⟩) dX2_addWorld_41 (fun v159 => ?_)
        refine lv_aload_n hx hb dX2_addWorld_42 rfl (lv_at hl 2 rfl) ?_
        refine va_getN (D := D) (ci := 9) (v := .int x148) (C := RX9) (T := TX9) (N := 6) hx hb hg inGX9 hown hKN.1 hP p151 hk152 rfl 4 (by decide) (va_Nw.use rfl (hKN.2.1 _ kn_577 rfl)) (fun _ h9 => h9) rfl dX2_addWorld_43 ?_
        refine lv_isub hx hb dX2_addWorld_46 ?_
        refine lv_topi (fun v160 ev160 => ?_)
        have zim30000 : ((-30000) : Int32).toInt = -30000 := by decide
        refine cg0 (rn_S (As := [.int (-30000), .int v160]) (rest := [.int v48, .ref a126]) (x_J9_max_7cf53 l D Y Z H.size (-30000) v160) ⟨hx, hb, hml, hown, hg⟩ lk_X2_130 ⟨CP.blind, CP.at nilP hKN (nilD (A := fun _ => True))⟩ ⟨⟨rfl, rfl⟩, ⟨Nat.le_of_ble_eq_true rfl, Nat.le_of_ble_eq_true rfl⟩, ⟨(Nat.le_of_ble_eq_true rfl), (Nat.le_of_ble_eq_true rfl)⟩⟩ hl.1 rfl (Nat.le_of_ble_eq_true rfl) dX2_addWorld_47) hP hS hA (fun u161 H locs hw162 hP hS => ?_)
        obtain ⟨hw164, hw165⟩ : (((-30000) : Int32).toInt ≤ u161.toInt ∧ v160.toInt ≤ u161.toInt) ∧ (u161.toInt = ((-30000) : Int32).toInt ∨ u161.toInt = v160.toInt) := hw162
        refine W.eq (g2 := F0 m 50 ls [.int u161, .int v48, .ref a126]) rfl ?_
        refine tr_st12 hx hb hKN hP hD hS hT h134 (vp_in_iff.mpr ⟨by omega, by omega⟩) dX2_addWorld_50 (fun w166 H locs hP hD hS hT kp167 => ?_)
        have ke168 : KF 1 T ws w166 := KF.tr ke101 (KF.kp kp167 h134 (by decide))
        have ke169 : KF 6 T ws w166 := KF.tr ke102 (KF.kp kp167 h134 (by decide))
        have hk170 := kp167 _ _ hk139 (rne ht0 h134 (by decide))
        have hk171 := kp167 _ _ hk152 (rne ht1 h134 (by decide))
        obtain ⟨v172, ev172⟩ : ∃ y : Int32, y = v48 + 1 := ⟨_, rfl⟩
        have hv172 := i_add (Eq.refl v48.toInt) (show (1 : Int32).toInt = 1 by decide) ev172 (by omega) (by omega)
        refine lv_iinc (v := v172) (lv' := [(2, .int v172), (0, .ref p0), (1, .ref p1)]) hx hb dX2_addWorld_51 hl (k := 0) rfl (by rw [ev172]; rfl) (by decide) rfl (fun ls hl => ?_)
        refine lv_goto (tgt := 2) hx hb dX2_addWorld_54 (by decide) ?_
        exact ih103 (v172, w166) H locs ls (by show (600 - v172.toInt).toNat < (600 - v48.toInt).toNat; omega) ⟨hP, hD, hS, lv_sub hl [0, 1, 2] rfl, hT, ke168, ke169, by omega⟩
      · obtain rfl : u153 = 0 := i_is c157 (by decide)
        have zi0 : (0 : Int32).toInt = 0 := by decide
        refine W.eq (g2 := F0 m 25 ls [.int 0]) rfl ?_
        refine lv_if_eq (tgt := 51) hx hb dX2_addWorld_25 (by decide) (fun c173 => ?_) (fun c173 => ?_)
        rotate_left
        · exact absurd c173 (by decide)
        obtain ⟨v174, ev174⟩ : ∃ y : Int32, y = v48 + 1 := ⟨_, rfl⟩
        have hv174 := i_add (Eq.refl v48.toInt) (show (1 : Int32).toInt = 1 by decide) ev174 (by omega) (by omega)
        refine lv_iinc (v := v174) (lv' := [(2, .int v174), (0, .ref p0), (1, .ref p1)]) hx hb dX2_addWorld_51 hl (k := 0) rfl (by rw [ev174]; rfl) (by decide) rfl (fun ls hl => ?_)
        refine lv_goto (tgt := 2) hx hb dX2_addWorld_54 (by decide) ?_
        exact ih103 (v174, w49) H locs ls (by show (600 - v174.toInt).toNat < (600 - v48.toInt).toNat; omega) ⟨hP, hD, hS, lv_sub hl [0, 1, 2] rfl, hT, ke101, ke102, by omega⟩
set_option maxHeartbeats 4000000 in
set_option maxRecDepth 100000 in
theorem x_X2_dropDips (l : Launch) (D : va_G) (Y : Nat → ClassId) (Z : Nat → Nat) (sz : Nat) (ws : va_W) (T : RT) (g : GN) (q : GQ)  (p0 : Nat) (p1 : Int32) (p2 : Int32) (p3 : Int32) (hT : TW Y Z T g q ws) (ht0 : T p0 = (9, 0, 0)) : Met l yX2_dropDips (.code yX2_dropDips cX2_dropDips 5 none :: GW) ({ frames := 2, cells := 0, slots := 0, locals := 48 }) (va_Pc [.ref p0, .int p1, .int p2, .int p3] (CPC D Y Z ws sz)) (QG (S := va_W) (fun _ => none) (fun u => TW Y Z T g q u ∧ KF 1 T ws u ∧ KF 6 T ws u) (fun u => CB D u (va_A ws sz)) (va_A ws sz)) 0 0 (va_A ws sz) := by
  refine Met.ofW (cc := cX2_dropDips) (maxL := 5) (ret := none) (by decide) rfl ?_
  intro p e s m args below meth c s₁ B hml hv
  obtain ⟨rfl, ⟨hsz, hP, hKN, hD0⟩, hSZ⟩ := hv
  have hx := B.exec
  have hb := B.bytes
  have hr := B.returns
  have hts := atoms_spec (ws := .code yX2_dropDips cX2_dropDips 5 none :: GW) B.pre
  have hg : ∀ w ∈ GW, w.before _ s = true := fun w h => hts w (List.mem_cons_of_mem _ h)
  have hown : s.vm.findClass RX2 = some m.cls := findClass_of_methodNamed B.named
  have hlocks := B.notSynchronized
  subst hsz
  have hD := hD0.self (sz := s.heap.size)
  generalize hAe : va_A ws s.heap.size = A at hD hSZ ⊢
  have hA : ∀ q : Nat, s.heap.size ≤ q → A q := fun q h => by rw [← hAe]; exact Or.inr h
  clear hAe hD0 hts B
  have hl := lv_entry ([.ref p0, .int p1, .int p2, .int p3]) (n := 5) (Nat.le_of_ble_eq_true rfl)
  rw [lg_entry_eq]
  generalize (lg_sl ([.ref p0, .int p1, .int p2, .int p3]) ++ List.replicate (5 - (lg_sl ([.ref p0, .int p1, .int p2, .int p3])).length) Slot.unset).toArray = ls at hl ⊢
  have hl : lv_has ls 5 [(0, .ref p0), (1, .int p1), (2, .int p2), (3, .int p3)] := hl
  refine w_start (A0 := A) hP (fun H locs hP hS => ?_)
  refine lv_iconst (v := 0) hx hb dX2_dropDips_0 (by decide) ?_
  refine lv_istore (lv' := [(4, .int 0), (0, .ref p0), (1, .int p1), (2, .int p2), (3, .int p3)]) hx hb dX2_dropDips_1 hl (by decide) rfl (fun ls hl => ?_)
  have zi0 : (0 : Int32).toInt = 0 := by decide
  refine w_loop (σ := Int32 × va_W) (fun xx H locs ls => match xx with | (v30, w31) => va_P D vwCl w31 H ∧ va_D A w31 ∧ va_S A s.heap H locs ∧ lv_has ls 5 [(4, .int v30), (0, .ref p0), (1, .int p1), (2, .int p2), (3, .int p3)] ∧ TW Y Z T g q w31 ∧ KF 1 T ws w31 ∧ KF 6 T ws w31 ∧ (0 ≤ v30.toInt ∧ v30.toInt ≤ 600)) (fun xx => match xx with | (v30, w31) => (600 - v30.toInt).toNat) (0, ws) ⟨hP, hD, hS, lv_sub hl [0, 1, 2, 3, 4] rfl, hT, KF.rf, KF.rf, by omega⟩ (fun xx H locs ls hI ih => ?_)
  obtain ⟨v30, w31⟩ := xx
  obtain ⟨hP, hD, hS, hl, hT, ke65, ke66, hq64⟩ := hI
  have ih67 := ih
  refine lv_iload hx hb dX2_dropDips_3 (lv_at hl 0 rfl) ?_
  refine lv_sipush (v := 600) hx hb dX2_dropDips_5 (by decide) ?_
  refine lv_icmp_ge (tgt := 42) hx hb dX2_dropDips_8 (by decide) (fun c68 => ?_) (fun c68 => ?_)
  · skip
    have c68 := i_le (show (600 : Int32).toInt = 600 by decide) (Eq.refl v30.toInt) c68
    refine lv_aload_n hx hb dX2_dropDips_42 rfl (lv_at hl 1 rfl) ?_
    refine ok9 hT ht0 (fun p81 a69 a70 a71 x72 y73 y74 x75 y76 hk82 h77 h78 h79 h80 => ?_)
    refine cga (rn_V (As := []) (rest := []) (b := p0) (x_X2_measure l D Y Z H.size w31 T g q p0 hT ht0) ⟨hx, hb, hml, hown, hg⟩ lk_X2_69 ⟨CPC.blind, va_recv hKN.1 hP (ci := 2) (q0 := p81) rfl hk82, CPC.at hP hKN hD hSZ hS hA⟩ ⟨⟨rfl, rfl⟩, ⟨Nat.le_of_ble_eq_true rfl, Nat.le_of_ble_eq_true rfl⟩, ⟨(Nat.le_of_ble_eq_true rfl), (Nat.le_of_ble_eq_true rfl)⟩⟩ hl.1 rfl (Nat.le_of_ble_eq_true rfl) dX2_dropDips_43) hP hD hS hA (fun u83 H locs hw84 hP hD hS => ?_)
    obtain ⟨hT, ke86, ke87⟩ : TW Y Z T g q u83 ∧ KF 1 T w31 u83 ∧ KF 6 T w31 u83 := hw84
    have ke88 : KF 1 T ws u83 := KF.tr ke65 ke86
    have ke89 : KF 6 T ws u83 := KF.tr ke66 ke87
    refine W.eq (g2 := F0 m 46 ls []) rfl ?_
    refine W.widen (k := 0) (n := 0) (Nat.le_of_ble_eq_true rfl) (Nat.le_of_ble_eq_true rfl) ?_
    exact W.vret hx hb hr (fun t ht hW => ⟨⟨u83, rfl, ⟨hT, ke88, ke89⟩, CB.mk ht hP hD⟩, hS.F ht⟩) hS.2.2 dX2_dropDips_46
  · skip
    have c68 := i_nle (show (600 : Int32).toInt = 600 by decide) (Eq.refl v30.toInt) c68
    refine lv_iload_n hx hb dX2_dropDips_11 rfl (lv_at hl 2 rfl) ?_
    have j90 := rgI p1
    refine lv_if_le (tgt := 36) hx hb dX2_dropDips_12 (by decide) (fun c91 => ?_) (fun c91 => ?_)
    · skip
      have c91 := i_le (Eq.refl p1.toInt) (show (0 : Int32).toInt = 0 by decide) c91
      obtain ⟨v92, ev92⟩ : ∃ y : Int32, y = v30 + 1 := ⟨_, rfl⟩
      have hv92 := i_add (Eq.refl v30.toInt) (show (1 : Int32).toInt = 1 by decide) ev92 (by omega) (by omega)
      refine lv_iinc (v := v92) (lv' := [(4, .int v92), (0, .ref p0), (1, .int p1), (2, .int p2), (3, .int p3)]) hx hb dX2_dropDips_36 hl (k := 0) rfl (by rw [ev92]; rfl) (by decide) rfl (fun ls hl => ?_)
      refine lv_goto (tgt := 3) hx hb dX2_dropDips_39 (by decide) ?_
      exact ih67 (v92, w31) H locs ls (by show (600 - v92.toInt).toNat < (600 - v30.toInt).toNat; omega) ⟨hP, hD, hS, lv_sub hl [0, 1, 2, 3, 4] rfl, hT, ke65, ke66, by omega⟩
    · skip
      have c91 := i_nle (Eq.refl p1.toInt) (show (0 : Int32).toInt = 0 by decide) c91
      refine lv_iload hx hb dX2_dropDips_15 (lv_at hl 0 rfl) ?_
      refine lv_iload_n hx hb dX2_dropDips_17 rfl (lv_at hl 4 rfl) ?_
      refine lv_isub hx hb dX2_dropDips_18 ?_
      refine lv_topi (fun v93 ev93 => ?_)
      refine lv_iload_n hx hb dX2_dropDips_19 rfl (lv_at hl 2 rfl) ?_
      refine cg0 (rn_S (As := [.int v93, .int p1]) (rest := []) (x_J9_floorMod_7cf53 l D Y Z H.size v93 p1 (show (p1.toInt ≠ 0) by omega)) ⟨hx, hb, hml, hown, hg⟩ lk_X2_133 ⟨CP.blind, CP.at nilP hKN (nilD (A := fun _ => True))⟩ ⟨⟨rfl, rfl⟩, ⟨Nat.le_of_ble_eq_true rfl, Nat.le_of_ble_eq_true rfl⟩, ⟨(Nat.le_of_ble_eq_true rfl), (Nat.le_of_ble_eq_true rfl)⟩⟩ hl.1 rfl (Nat.le_of_ble_eq_true rfl) dX2_dropDips_20) hP hS hA (fun u94 H locs hw95 hP hS => ?_)
      refine W.eq (g2 := F0 m 23 ls [.int u94]) rfl ?_
      refine lv_iload_n hx hb dX2_dropDips_23 rfl (lv_at hl 3 rfl) ?_
      have j97 := rgI u94
      have j98 := rgI p2
      refine lv_icmp_ge (tgt := 36) hx hb dX2_dropDips_24 (by decide) (fun c99 => ?_) (fun c99 => ?_)
      · skip
        have c99 := i_le (Eq.refl p2.toInt) (Eq.refl u94.toInt) c99
        obtain ⟨v100, ev100⟩ : ∃ y : Int32, y = v30 + 1 := ⟨_, rfl⟩
        have hv100 := i_add (Eq.refl v30.toInt) (show (1 : Int32).toInt = 1 by decide) ev100 (by omega) (by omega)
        refine lv_iinc (v := v100) (lv' := [(4, .int v100), (0, .ref p0), (1, .int p1), (2, .int p2), (3, .int p3)]) hx hb dX2_dropDips_36 hl (k := 0) rfl (by rw [ev100]; rfl) (by decide) rfl (fun ls hl => ?_)
        refine lv_goto (tgt := 3) hx hb dX2_dropDips_39 (by decide) ?_
        exact ih67 (v100, w31) H locs ls (by show (600 - v100.toInt).toNat < (600 - v30.toInt).toNat; omega) ⟨hP, hD, hS, lv_sub hl [0, 1, 2, 3, 4] rfl, hT, ke65, ke66, by omega⟩
      · skip
        have c99 := i_nle (Eq.refl p2.toInt) (Eq.refl u94.toInt) c99
        refine lv_aload_n hx hb dX2_dropDips_27 rfl (lv_at hl 1 rfl) ?_
        refine ok9 hT ht0 (fun p113 a101 a102 a103 x104 y105 y106 x107 y108 hk114 h109 h110 h111 h112 => ?_)
        refine va_get (D := D) (ci := 2) (v := .ref a101) (C := RX2) (T := TX2) (N := 8) hx hb hg inGX2 hown hKN.1 hP p113 hk114 rfl 0 (by decide) (hg _ kw_232) (fun _ h9 => h9) rfl dX2_dropDips_28 ?_
        refine lv_iload hx hb dX2_dropDips_31 (lv_at hl 0 rfl) ?_
        refine lv_ldc (v := (-100000)) hx hb hown (hg _ kw_506) dX2_dropDips_33 ?_
        have zim100000 : ((-100000) : Int32).toInt = -100000 := by decide
        refine tr_st12 hx hb hKN hP hD hS hT h109 (vp_in_iff.mpr ⟨by omega, by omega⟩) dX2_dropDips_35 (fun w115 H locs hP hD hS hT kp116 => ?_)
        have ke117 : KF 1 T ws w115 := KF.tr ke65 (KF.kp kp116 h109 (by decide))
        have ke118 : KF 6 T ws w115 := KF.tr ke66 (KF.kp kp116 h109 (by decide))
        have hk119 := kp116 _ _ hk114 (rne ht0 h109 (by decide))
        obtain ⟨v120, ev120⟩ : ∃ y : Int32, y = v30 + 1 := ⟨_, rfl⟩
        have hv120 := i_add (Eq.refl v30.toInt) (show (1 : Int32).toInt = 1 by decide) ev120 (by omega) (by omega)
        refine lv_iinc (v := v120) (lv' := [(4, .int v120), (0, .ref p0), (1, .int p1), (2, .int p2), (3, .int p3)]) hx hb dX2_dropDips_36 hl (k := 0) rfl (by rw [ev120]; rfl) (by decide) rfl (fun ls hl => ?_)
        refine lv_goto (tgt := 3) hx hb dX2_dropDips_39 (by decide) ?_
        exact ih67 (v120, w115) H locs ls (by show (600 - v120.toInt).toNat < (600 - v30.toInt).toNat; omega) ⟨hP, hD, hS, lv_sub hl [0, 1, 2, 3, 4] rfl, hT, ke117, ke118, by omega⟩
set_option maxHeartbeats 4000000 in
set_option maxRecDepth 100000 in
theorem x_X2_tally (l : Launch) (D : va_G) (Y : Nat → ClassId) (Z : Nat → Nat) (sz : Nat) (ws : va_W) (T : RT) (g : GN) (q : GQ)  (p0 : Nat) (p1 : Int32) (p2 : Int32) (p3 : Int32) (hT : TW Y Z T g q ws) (ht0 : T p0 = (9, 0, 0)) : Met l yX2_tally (.code yX2_tally cX2_tally 6 none :: GW) ({ frames := 1, cells := 0, slots := 0, locals := 22 }) (va_Pc [.ref p0, .int p1, .int p2, .int p3] (CPC D Y Z ws sz)) (QG (S := va_W) (fun _ => none) (fun u => TW Y Z T g q u ∧ KF 1 T ws u ∧ KF 6 T ws u) (fun u => CB D u (va_A ws sz)) (va_A ws sz)) 0 0 (va_A ws sz) := by
  refine Met.ofW (cc := cX2_tally) (maxL := 6) (ret := none) (by decide) rfl ?_
  intro p e s m args below meth c s₁ B hml hv
  obtain ⟨rfl, ⟨hsz, hP, hKN, hD0⟩, hSZ⟩ := hv
  have hx := B.exec
  have hb := B.bytes
  have hr := B.returns
  have hts := atoms_spec (ws := .code yX2_tally cX2_tally 6 none :: GW) B.pre
  have hg : ∀ w ∈ GW, w.before _ s = true := fun w h => hts w (List.mem_cons_of_mem _ h)
  have hown : s.vm.findClass RX2 = some m.cls := findClass_of_methodNamed B.named
  have hlocks := B.notSynchronized
  subst hsz
  have hD := hD0.self (sz := s.heap.size)
  generalize hAe : va_A ws s.heap.size = A at hD hSZ ⊢
  have hA : ∀ q : Nat, s.heap.size ≤ q → A q := fun q h => by rw [← hAe]; exact Or.inr h
  clear hAe hD0 hts B
  have hl := lv_entry ([.ref p0, .int p1, .int p2, .int p3]) (n := 6) (Nat.le_of_ble_eq_true rfl)
  rw [lg_entry_eq]
  generalize (lg_sl ([.ref p0, .int p1, .int p2, .int p3]) ++ List.replicate (6 - (lg_sl ([.ref p0, .int p1, .int p2, .int p3])).length) Slot.unset).toArray = ls at hl ⊢
  have hl : lv_has ls 6 [(0, .ref p0), (1, .int p1), (2, .int p2), (3, .int p3)] := hl
  refine w_start (A0 := A) hP (fun H locs hP hS => ?_)
  refine lv_aload_n hx hb dX2_tally_0 rfl (lv_at hl 0 rfl) ?_
  refine lv_iconst (v := 0) hx hb dX2_tally_1 (by decide) ?_
  refine ok9 hT ht0 (fun p13 a1 a2 a3 x4 y5 y6 x7 y8 hk14 h9 h10 h11 h12 => ?_)
  refine va_put (D := D) (ci := 2) (v := .int 0) (ty := .int) (C := RX2) (T := TX2) (N := 8) hx hb hg inGX2 tyX2 tyX2_ok nmX2 hown hKN.1 hP hD hS p13 hk14 rfl 6 (by decide) (hg _ kw_248) (fun _ h9 => h9) rfl (by decide +kernel) rfl rfl (Nat.le_of_ble_eq_true rfl) dX2_tally_2 (fun H locs hP hD2 hS => ?_)
  have zi0 : (0 : Int32).toInt = 0 := by decide
  obtain ⟨w15, hP, hD, hT, hk17, kp16⟩ : ∃ wz, va_P D vwCl wz H ∧ va_D A wz ∧ TW Y Z T g q wz ∧ wz[p13]? = some (p0, .inr (2, [.ref a1, .ref a2, .ref a3, .int x4, .long y5, .long y6, .int 0, .long y8])) ∧ Kp p0 ws wz := ⟨_, hP, hD2, st9 hT hD hk14 ht0 ⟨a1, a2, a3, x4, y5, y6, (0), y8, rfl, h9, h10, h11, by omega⟩, sw_eq hk14, sw_kp hk14⟩
  have ke18 : KF 1 T ws w15 := KF.tr KF.rf (KF.kp kp16 ht0 (by decide))
  have ke19 : KF 6 T ws w15 := KF.tr KF.rf (KF.kp kp16 ht0 (by decide))
  refine lv_aload_n hx hb dX2_tally_5 rfl (lv_at hl 0 rfl) ?_
  refine lv_lconst (v := 0) hx hb dX2_tally_6 (by decide) ?_
  refine va_put (D := D) (ci := 2) (v := .long 0) (ty := .long) (C := RX2) (T := TX2) (N := 8) hx hb hg inGX2 tyX2 tyX2_ok nmX2 hown hKN.1 hP hD hS p13 hk17 rfl 7 (by decide) (hg _ kw_251) (fun _ h9 => h9) rfl (by decide +kernel) rfl rfl (Nat.le_of_ble_eq_true rfl) dX2_tally_7 (fun H locs hP hD2 hS => ?_)
  have zl0 : (0 : Int64).toInt = 0 := by decide
  obtain ⟨w20, hP, hD, hT, hk22, kp21⟩ : ∃ wz, va_P D vwCl wz H ∧ va_D A wz ∧ TW Y Z T g q wz ∧ wz[p13]? = some (p0, .inr (2, [.ref a1, .ref a2, .ref a3, .int x4, .long y5, .long y6, .int 0, .long 0])) ∧ Kp p0 w15 wz := ⟨_, hP, hD2, st9 hT hD hk17 ht0 ⟨a1, a2, a3, x4, y5, y6, (0), (0), rfl, h9, h10, h11, by omega⟩, sw_eq hk17, sw_kp hk17⟩
  have ke23 : KF 1 T ws w20 := KF.tr ke18 (KF.kp kp21 ht0 (by decide))
  have ke24 : KF 6 T ws w20 := KF.tr ke19 (KF.kp kp21 ht0 (by decide))
  refine lv_iconst (v := 0) hx hb dX2_tally_10 (by decide) ?_
  refine lv_istore (lv' := [(4, .int 0), (0, .ref p0), (1, .int p1), (2, .int p2), (3, .int p3)]) hx hb dX2_tally_11 hl (by decide) rfl (fun ls hl => ?_)
  refine w_loop (σ := Int32 × va_W) (fun xx H locs ls => match xx with | (v51, w52) => va_P D vwCl w52 H ∧ va_D A w52 ∧ va_S A s.heap H locs ∧ lv_has ls 6 [(4, .int v51), (0, .ref p0), (1, .int p1), (2, .int p2), (3, .int p3)] ∧ TW Y Z T g q w52 ∧ KF 1 T ws w52 ∧ KF 6 T ws w52 ∧ (0 ≤ v51.toInt ∧ v51.toInt ≤ 600)) (fun xx => match xx with | (v51, w52) => (600 - v51.toInt).toNat) (0, w20) ⟨hP, hD, hS, lv_sub hl [0, 1, 2, 3, 4] rfl, hT, ke23, ke24, by omega⟩ (fun xx H locs ls hI ih => ?_)
  obtain ⟨v51, w52⟩ := xx
  obtain ⟨hP, hD, hS, hl, hT, ke97, ke98, hq96⟩ := hI
  have ih99 := ih
  refine lv_iload hx hb dX2_tally_13 (lv_at hl 0 rfl) ?_
  refine lv_aload_n hx hb dX2_tally_15 rfl (lv_at hl 1 rfl) ?_
  refine ok9 hT ht0 (fun p112 a100 a101 a102 x103 y104 y105 x106 y107 hk113 h108 h109 h110 h111 => ?_)
  refine va_get (D := D) (ci := 2) (v := .int x103) (C := RX2) (T := TX2) (N := 8) hx hb hg inGX2 hown hKN.1 hP p112 hk113 rfl 3 (by decide) (hg _ kw_242) (fun _ h9 => h9) rfl dX2_tally_16 ?_
  refine lv_icmp_ge (tgt := 80) hx hb dX2_tally_19 (by decide) (fun c114 => ?_) (fun c114 => ?_)
  · skip
    have c114 := i_le (Eq.refl x103.toInt) (Eq.refl v51.toInt) c114
    refine W.widen (k := 0) (n := 0) (Nat.le_of_ble_eq_true rfl) (Nat.le_of_ble_eq_true rfl) ?_
    exact W.vret hx hb hr (fun t ht hW => ⟨⟨w52, rfl, ⟨hT, ke97, ke98⟩, CB.mk ht hP hD⟩, hS.F ht⟩) hS.2.2 dX2_tally_80
  · skip
    have c114 := i_nle (Eq.refl x103.toInt) (Eq.refl v51.toInt) c114
    refine lv_aload_n hx hb dX2_tally_22 rfl (lv_at hl 1 rfl) ?_
    refine va_get (D := D) (ci := 2) (v := .ref a101) (C := RX2) (T := TX2) (N := 8) hx hb hg inGX2 hown hKN.1 hP p112 hk113 rfl 1 (by decide) (hg _ kw_236) (fun _ h9 => h9) rfl dX2_tally_23 ?_
    refine lv_iload hx hb dX2_tally_26 (lv_at hl 0 rfl) ?_
    refine tr_ld13 hx hb hKN hP hT h109 (vp_in_iff.mpr ⟨by omega, by omega⟩) dX2_tally_28 (fun v115 hv115 => ?_)
    refine lv_istore (lv' := [(5, .int v115), (4, .int v51), (0, .ref p0), (1, .int p1), (2, .int p2), (3, .int p3)]) hx hb dX2_tally_29 hl (by decide) rfl (fun ls hl => ?_)
    refine lv_iload_n hx hb dX2_tally_31 rfl (lv_at hl 3 rfl) ?_
    have j116 := rgI p1
    refine lv_if_le (tgt := 74) hx hb dX2_tally_32 (by decide) (fun c117 => ?_) (fun c117 => ?_)
    · skip
      have c117 := i_le (Eq.refl p1.toInt) (show (0 : Int32).toInt = 0 by decide) c117
      obtain ⟨v118, ev118⟩ : ∃ y : Int32, y = v51 + 1 := ⟨_, rfl⟩
      have hv118 := i_add (Eq.refl v51.toInt) (show (1 : Int32).toInt = 1 by decide) ev118 (by omega) (by omega)
      refine lv_iinc (v := v118) (lv' := [(4, .int v118), (5, .int v115), (0, .ref p0), (1, .int p1), (2, .int p2), (3, .int p3)]) hx hb dX2_tally_74 hl (k := 1) rfl (by rw [ev118]; rfl) (by decide) rfl (fun ls hl => ?_)
      refine lv_goto (tgt := 13) hx hb dX2_tally_77 (by decide) ?_
      exact ih99 (v118, w52) H locs ls (by show (600 - v118.toInt).toNat < (600 - v51.toInt).toNat; omega) ⟨hP, hD, hS, lv_sub hl [0, 2, 3, 4, 5] rfl, hT, ke97, ke98, by omega⟩
    · skip
      have c117 := i_nle (Eq.refl p1.toInt) (show (0 : Int32).toInt = 0 by decide) c117
      refine lv_iload hx hb dX2_tally_35 (lv_at hl 0 rfl) ?_
      refine lv_iload_n hx hb dX2_tally_37 rfl (lv_at hl 5 rfl) ?_
      refine lv_isub hx hb dX2_tally_38 ?_
      refine lv_topi (fun v119 ev119 => ?_)
      refine lv_iload_n hx hb dX2_tally_39 rfl (lv_at hl 3 rfl) ?_
      refine cg0 (rn_S (As := [.int v119, .int p1]) (rest := []) (x_J9_floorMod_7cf53 l D Y Z H.size v119 p1 (show (p1.toInt ≠ 0) by omega)) ⟨hx, hb, hml, hown, hg⟩ lk_X2_133 ⟨CP.blind, CP.at nilP hKN (nilD (A := fun _ => True))⟩ ⟨⟨rfl, rfl⟩, ⟨Nat.le_of_ble_eq_true rfl, Nat.le_of_ble_eq_true rfl⟩, ⟨(Nat.le_of_ble_eq_true rfl), (Nat.le_of_ble_eq_true rfl)⟩⟩ hl.1 rfl (Nat.le_of_ble_eq_true rfl) dX2_tally_40) hP hS hA (fun u120 H locs hw121 hP hS => ?_)
      refine W.eq (g2 := F0 m 43 ls [.int u120]) rfl ?_
      refine lv_iload_n hx hb dX2_tally_43 rfl (lv_at hl 4 rfl) ?_
      have j123 := rgI u120
      have j124 := rgI p2
      refine lv_icmp_ge (tgt := 74) hx hb dX2_tally_44 (by decide) (fun c125 => ?_) (fun c125 => ?_)
      · skip
        have c125 := i_le (Eq.refl p2.toInt) (Eq.refl u120.toInt) c125
        obtain ⟨v126, ev126⟩ : ∃ y : Int32, y = v51 + 1 := ⟨_, rfl⟩
        have hv126 := i_add (Eq.refl v51.toInt) (show (1 : Int32).toInt = 1 by decide) ev126 (by omega) (by omega)
        refine lv_iinc (v := v126) (lv' := [(4, .int v126), (5, .int v115), (0, .ref p0), (1, .int p1), (2, .int p2), (3, .int p3)]) hx hb dX2_tally_74 hl (k := 1) rfl (by rw [ev126]; rfl) (by decide) rfl (fun ls hl => ?_)
        refine lv_goto (tgt := 13) hx hb dX2_tally_77 (by decide) ?_
        exact ih99 (v126, w52) H locs ls (by show (600 - v126.toInt).toNat < (600 - v51.toInt).toNat; omega) ⟨hP, hD, hS, lv_sub hl [0, 2, 3, 4, 5] rfl, hT, ke97, ke98, by omega⟩
      · skip
        have c125 := i_nle (Eq.refl p2.toInt) (Eq.refl u120.toInt) c125
        refine lv_aload_n hx hb dX2_tally_47 rfl (lv_at hl 2 rfl) ?_
        refine lv_dup hx hb dX2_tally_48 rfl ?_
        refine va_get (D := D) (ci := 2) (v := .int x106) (C := RX2) (T := TX2) (N := 8) hx hb hg inGX2 hown hKN.1 hP p112 hk113 rfl 6 (by decide) (hg _ kw_248) (fun _ h9 => h9) rfl dX2_tally_49 ?_
        refine lv_iconst (v := 1) hx hb dX2_tally_52 (by decide) ?_
        refine lv_iadd hx hb dX2_tally_53 ?_
        refine lv_topi (fun v127 ev127 => ?_)
        refine va_put (D := D) (ci := 2) (v := .int v127) (ty := .int) (C := RX2) (T := TX2) (N := 8) hx hb hg inGX2 tyX2 tyX2_ok nmX2 hown hKN.1 hP hD hS p112 hk113 rfl 6 (by decide) (hg _ kw_248) (fun _ h9 => h9) rfl (by decide +kernel) rfl rfl (Nat.le_of_ble_eq_true rfl) dX2_tally_54 (fun H locs hP hD2 hS => ?_)
        obtain ⟨w128, hP, hD, hT, hk130, kp129⟩ : ∃ wz, va_P D vwCl wz H ∧ va_D A wz ∧ TW Y Z T g q wz ∧ wz[p112]? = some (p0, .inr (2, [.ref a100, .ref a101, .ref a102, .int x103, .long y104, .long y105, .int v127, .long y107])) ∧ Kp p0 w52 wz := ⟨_, hP, hD2, st9 hT hD hk113 ht0 ⟨a100, a101, a102, x103, y104, y105, v127, y107, rfl, h108, h109, h110, by omega⟩, sw_eq hk113, sw_kp hk113⟩
        have ke131 : KF 1 T ws w128 := KF.tr ke97 (KF.kp kp129 ht0 (by decide))
        have ke132 : KF 6 T ws w128 := KF.tr ke98 (KF.kp kp129 ht0 (by decide))
        refine lv_aload_n hx hb dX2_tally_57 rfl (lv_at hl 2 rfl) ?_
        refine lv_dup hx hb dX2_tally_58 rfl ?_
        refine va_get (D := D) (ci := 2) (v := .long y107) (C := RX2) (T := TX2) (N := 8) hx hb hg inGX2 hown hKN.1 hP p112 hk130 rfl 7 (by decide) (hg _ kw_251) (fun _ h9 => h9) rfl dX2_tally_59 ?_
        refine lv_aload_n hx hb dX2_tally_62 rfl (lv_at hl 2 rfl) ?_
        refine va_get (D := D) (ci := 2) (v := .ref a100) (C := RX2) (T := TX2) (N := 8) hx hb hg inGX2 hown hKN.1 hP p112 hk130 rfl 0 (by decide) (hg _ kw_232) (fun _ h9 => h9) rfl dX2_tally_63 ?_
        refine lv_iload hx hb dX2_tally_66 (lv_at hl 0 rfl) ?_
        refine tr_ld12 hx hb hKN hP hT h108 (vp_in_iff.mpr ⟨by omega, by omega⟩) dX2_tally_68 (fun v133 => ?_)
        have j134 := rgI v133
        have j135 := Int32.toInt_toInt64 v133
        refine lv_i2l (v := v133.toInt64) hx hb dX2_tally_69 (rfl) ?_
        refine lv_ladd hx hb dX2_tally_70 ?_
        refine lv_topl (fun v136 ev136 => ?_)
        refine va_put (D := D) (ci := 2) (v := .long v136) (ty := .long) (C := RX2) (T := TX2) (N := 8) hx hb hg inGX2 tyX2 tyX2_ok nmX2 hown hKN.1 hP hD hS p112 hk130 rfl 7 (by decide) (hg _ kw_251) (fun _ h9 => h9) rfl (by decide +kernel) rfl rfl (Nat.le_of_ble_eq_true rfl) dX2_tally_71 (fun H locs hP hD2 hS => ?_)
        obtain ⟨w137, hP, hD, hT, hk139, kp138⟩ : ∃ wz, va_P D vwCl wz H ∧ va_D A wz ∧ TW Y Z T g q wz ∧ wz[p112]? = some (p0, .inr (2, [.ref a100, .ref a101, .ref a102, .int x103, .long y104, .long y105, .int v127, .long v136])) ∧ Kp p0 w128 wz := ⟨_, hP, hD2, st9 hT hD hk130 ht0 ⟨a100, a101, a102, x103, y104, y105, v127, v136, rfl, h108, h109, h110, by omega⟩, sw_eq hk130, sw_kp hk130⟩
        have ke140 : KF 1 T ws w137 := KF.tr ke131 (KF.kp kp138 ht0 (by decide))
        have ke141 : KF 6 T ws w137 := KF.tr ke132 (KF.kp kp138 ht0 (by decide))
        obtain ⟨v142, ev142⟩ : ∃ y : Int32, y = v51 + 1 := ⟨_, rfl⟩
        have hv142 := i_add (Eq.refl v51.toInt) (show (1 : Int32).toInt = 1 by decide) ev142 (by omega) (by omega)
        refine lv_iinc (v := v142) (lv' := [(4, .int v142), (5, .int v115), (0, .ref p0), (1, .int p1), (2, .int p2), (3, .int p3)]) hx hb dX2_tally_74 hl (k := 1) rfl (by rw [ev142]; rfl) (by decide) rfl (fun ls hl => ?_)
        refine lv_goto (tgt := 13) hx hb dX2_tally_77 (by decide) ?_
        exact ih99 (v142, w137) H locs ls (by show (600 - v142.toInt).toNat < (600 - v51.toInt).toNat; omega) ⟨hP, hD, hS, lv_sub hl [0, 2, 3, 4, 5] rfl, hT, ke140, ke141, by omega⟩
