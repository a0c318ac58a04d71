set_option maxHeartbeats 4000000 in
set_option maxRecDepth 100000 in
theorem m_text2_c208 {p : Program} {l : Launch} {e : Env} {s : State} {m : MethodId} {args : Array Value} {below : List Frame} {meth : Method} {c : Code} {D : va_G} {Y : Nat → ClassId} {Z : Nat → Nat} {A : Nat → Prop} {H : Heap} {locs : List Loc} {ls : Array Slot} {o : Nat} {a : Nat → Nat} {I : Nat → Int32} {J : Nat → Int64} {F : Nat → Nat → Int32} {G : Nat → Nat → Int64} {g5001 : Int32} {g5002 : Int32} {g5003 : Int32} {g5004 : Int32} {g5005 : Int32} {g5006 : Int32} {g5007 : Int32} {g5008 : Int32} {g5009 : Int32} {f5010 : Nat → Int32} {f5011 : Nat → Int32} {f5012 : Nat → Int32} {f5013 : Nat → Int32} {f5014 : Nat → Int32} {f5015 : Nat → Int32} {f5016 : Nat → Int32} {f5017 : Nat → Int32} {f5018 : Nat → Int32} {f5019 : Nat → Int32} {f5020 : Nat → Int32} {f5021 : Nat → Int32} {f5022 : Nat → Int32} (hx : p.tables.exec = Jvm.exec) (hb : c.code = cX11_text) (hr : meth.sig.returnType = (some .int)) (hml : c.maxLocals = 3) (hg : ∀ w ∈ GW, w.before args s = true) (hown : s.vm.findClass RX11 = some m.cls) (hlocks : meth.locks = false) (hKN : KN D Y Z s) (hA : ∀ q : Nat, s.heap.size ≤ q → A q) (hP : va_P D vwCl (MW Y o a (upd (upd (upd (upd (upd (upd (upd (upd (upd I 3 g5001) 16 g5002) 17 g5003) 18 g5004) 19 g5005) 20 g5006) 21 g5007) 22 g5008) 24 g5009) J (vf_upd (vf_upd (vf_upd (vf_upd (vf_upd (vf_upd (vf_upd (vf_upd (vf_upd (vf_upd (vf_upd (vf_upd (vf_upd F 4 f5010) 5 f5011) 6 f5012) 7 f5013) 8 f5014) 9 f5015) 10 f5016) 11 f5017) 12 f5018) 13 f5019) 14 f5020) 15 f5021) 23 f5022) G) H) (hD : va_D A (MW Y o a (upd (upd (upd (upd (upd (upd (upd (upd (upd I 3 g5001) 16 g5002) 17 g5003) 18 g5004) 19 g5005) 20 g5006) 21 g5007) 22 g5008) 24 g5009) J (vf_upd (vf_upd (vf_upd (vf_upd (vf_upd (vf_upd (vf_upd (vf_upd (vf_upd (vf_upd (vf_upd (vf_upd (vf_upd F 4 f5010) 5 f5011) 6 f5012) 7 f5013) 8 f5014) 9 f5015) 10 f5016) 11 f5017) 12 f5018) 13 f5019) 14 f5020) 15 f5021) 23 f5022) G)) (hS : va_S A s.heap H locs) (hl : lv_has ls 3 [(0, .ref o), (1, .int 2)]) (hk_0 : (0 ≤ g5005.toInt ∧ g5005.toInt ≤ 17)) (hk_1 : (0 ≤ g5001.toInt ∧ g5001.toInt ≤ 400)) (hk_2 : (0 ≤ g5006.toInt ∧ g5006.toInt ≤ 60)) (hk_3 : ((f5015 g5005.toNatClampNeg).toInt ≤ 9999)) (hk_4 : (((f5016 g5005.toNatClampNeg).toInt < 0 ∨ ((2 ≤ (f5016 g5005.toNatClampNeg).toInt ∧ (f5016 g5005.toNatClampNeg).toInt ≤ 200) ∧ (f5017 g5005.toNatClampNeg).toInt ≤ 200)))) (hk_5 : (((f5018 g5005.toNatClampNeg).toInt < 0 ∨ (1 ≤ (f5018 g5005.toNatClampNeg).toInt ∧ (f5019 g5005.toNatClampNeg).toInt ≤ 10)))) (hk_6 : (g5005.toInt = 6 * 2 + (f5010 2).toInt)) (hk_7 : (0 ≤ (f5010 2).toInt ∧ (f5010 2).toInt < 6)) (hk0 : TX f5010 f5015 f5016 f5017 f5018 f5019) (hr_PT : PSt f5010 f5014 f5013 f5011 f5012 g5005.toNatClampNeg ((f5012 g5005.toNatClampNeg).toInt).toNat 0 (g5006.toInt).toNat) (hr_UN : UNT f5010 g5005.toNatClampNeg) : W p l e ({ frames := 12, cells := 0, slots := 0, locals := 265 } : Room) s m args below meth c H locs 0 0 (MQ below (QG (S := Int32 × Int32 × Int32 × Int32 × Int32 × Int32 × Int32 × Int32 × Int32 × Int32 × (Nat → Int32) × (Nat → Int32) × (Nat → Int32) × (Nat → Int32) × (Nat → Int32) × (Nat → Int32) × (Nat → Int32) × (Nat → Int32) × (Nat → Int32) × (Nat → Int32) × (Nat → Int32) × (Nat → Int32) × (Nat → Int32)) (fun u => some (.int u.1)) (fun u => (0 ≤ u.2.1.toInt ∧ u.2.1.toInt ≤ 400) ∧ TX u.2.2.2.2.2.2.2.2.2.2.2.2.2.2.2.2.2.2.2.2.2.2 u.2.2.2.2.2.2.2.2.2.2.2.2.2.2.2.1 u.2.2.2.2.2.2.2.2.2.2.2.2.2.2.2.2.1 u.2.2.2.2.2.2.2.2.2.2.2.2.2.2.2.2.2.1 u.2.2.2.2.2.2.2.2.2.2.2.2.2.2.2.2.2.2.1 u.2.2.2.2.2.2.2.2.2.2.2.2.2.2.2.2.2.2.2.1 ∧ TC u.2.2.2.2.2.2.2.2.2.2.2.2.2.2.2.2.2.2.2.2.2.2 u.2.2.2.2.2.2.2.2.2.2.2.1 u.2.2.2.2.2.2.2.2.2.2.1 u.2.2.2.2.2.2.2.2.2.2.2.2.1) (fun u => CB D (MW Y o a (upd (upd (upd (upd (upd (upd (upd (upd (upd I 3 u.2.1) 16 u.2.2.1) 17 u.2.2.2.1) 18 u.2.2.2.2.1) 19 u.2.2.2.2.2.1) 20 u.2.2.2.2.2.2.1) 21 u.2.2.2.2.2.2.2.1) 22 u.2.2.2.2.2.2.2.2.2.1) 24 u.2.2.2.2.2.2.2.2.1) J (vf_upd (vf_upd (vf_upd (vf_upd (vf_upd (vf_upd (vf_upd (vf_upd (vf_upd (vf_upd (vf_upd (vf_upd (vf_upd F 4 u.2.2.2.2.2.2.2.2.2.2.2.2.2.2.2.2.2.2.2.2.2.2) 5 u.2.2.2.2.2.2.2.2.2.2.2.2.1) 6 u.2.2.2.2.2.2.2.2.2.2.2.2.2.1) 7 u.2.2.2.2.2.2.2.2.2.2.1) 8 u.2.2.2.2.2.2.2.2.2.2.2.1) 9 u.2.2.2.2.2.2.2.2.2.2.2.2.2.2.2.1) 10 u.2.2.2.2.2.2.2.2.2.2.2.2.2.2.2.2.1) 11 u.2.2.2.2.2.2.2.2.2.2.2.2.2.2.2.2.2.1) 12 u.2.2.2.2.2.2.2.2.2.2.2.2.2.2.2.2.2.2.1) 13 u.2.2.2.2.2.2.2.2.2.2.2.2.2.2.2.2.2.2.2.1) 14 u.2.2.2.2.2.2.2.2.2.2.2.2.2.2.2.2.2.2.2.2.1) 15 u.2.2.2.2.2.2.2.2.2.2.2.2.2.2.2.2.2.2.2.2.2.1) 23 u.2.2.2.2.2.2.2.2.2.2.2.2.2.2.1) G) A) A) args s 0 0 A) (F0 m 208 ls []) := by
  refine lv_aload_n hx hb dX11_text_208 rfl (lv_at hl 0 rfl) ?_
  refine va_get (D := D) (ci := 11) (v := .ref (a 9)) (C := RX11) (T := TX11) (N := 49) hx hb hg inGX11 hown hKN.1 hP 0 rfl rfl 9 (by decide) (hg _ kw_1217) (fun _ h9 => h9) rfl dX11_text_209 ?_
  refine lv_aload_n hx hb dX11_text_212 rfl (lv_at hl 0 rfl) ?_
  refine va_get (D := D) (ci := 11) (v := .int g5005) (C := RX11) (T := TX11) (N := 49) hx hb hg inGX11 hown hKN.1 hP 0 rfl rfl 19 (by decide) (hg _ kw_1227) (fun _ h9 => h9) rfl dX11_text_213 ?_
  refine va_iald hx hb hKN.1 hP 9 0 rfl rfl (vp_in_iff.mpr ⟨by omega, by omega⟩) dX11_text_216 ?_
  refine lv_topi (fun v5023 ev5023 => ?_)
  have ev5023 : v5023 = f5015 g5005.toNatClampNeg := ev5023
  have qv5023 := congrArg Int32.toInt ev5023
  refine w_join (σ := (Nat → Int32)) (pcJ := 230) (kJ := 0) (nJ := 0) (stk := fun xx => match xx with | f5029 => []) (fun xx H locs ls => match xx with | f5029 => va_P D vwCl (MW Y o a (upd (upd (upd (upd (upd (upd (upd (upd (upd I 3 g5001) 16 g5002) 17 g5003) 18 g5004) 19 g5005) 20 g5006) 21 g5007) 22 g5008) 24 g5009) J (vf_upd (vf_upd (vf_upd (vf_upd (vf_upd (vf_upd (vf_upd (vf_upd (vf_upd (vf_upd (vf_upd (vf_upd (vf_upd F 4 f5010) 5 f5011) 6 f5012) 7 f5013) 8 f5014) 9 f5029) 10 f5016) 11 f5017) 12 f5018) 13 f5019) 14 f5020) 15 f5021) 23 f5022) G) H ∧ va_D A (MW Y o a (upd (upd (upd (upd (upd (upd (upd (upd (upd I 3 g5001) 16 g5002) 17 g5003) 18 g5004) 19 g5005) 20 g5006) 21 g5007) 22 g5008) 24 g5009) J (vf_upd (vf_upd (vf_upd (vf_upd (vf_upd (vf_upd (vf_upd (vf_upd (vf_upd (vf_upd (vf_upd (vf_upd (vf_upd F 4 f5010) 5 f5011) 6 f5012) 7 f5013) 8 f5014) 9 f5029) 10 f5016) 11 f5017) 12 f5018) 13 f5019) 14 f5020) 15 f5021) 23 f5022) G) ∧ va_S A s.heap H locs ∧ lv_has ls 3 [(0, .ref o), (1, .int 2)] ∧ (0 ≤ (f5029 g5005.toNatClampNeg).toInt ∧ (f5029 g5005.toNatClampNeg).toInt ≤ 9999) ∧ TX f5010 f5029 f5016 f5017 f5018 f5019) (fun xx H locs ls hI => ?_) (fun jn5030 => ?_)
  · skip
    revert hI
    generalize xx = f5029
    intro hI
    obtain ⟨hP, hD, hS, hl, hq5031, hp5032⟩ := hI
    refine W.eq (g2 := F0 m 230 ls []) rfl ?_
    refine lv_aload_n hx hb dX11_text_230 rfl (lv_at hl 0 rfl) ?_
    refine va_get (D := D) (ci := 11) (v := .ref (a 10)) (C := RX11) (T := TX11) (N := 49) hx hb hg inGX11 hown hKN.1 hP 0 rfl rfl 10 (by decide) (hg _ kw_1218) (fun _ h9 => h9) rfl dX11_text_231 ?_
    refine lv_aload_n hx hb dX11_text_234 rfl (lv_at hl 0 rfl) ?_
    refine va_get (D := D) (ci := 11) (v := .int g5005) (C := RX11) (T := TX11) (N := 49) hx hb hg inGX11 hown hKN.1 hP 0 rfl rfl 19 (by decide) (hg _ kw_1227) (fun _ h9 => h9) rfl dX11_text_235 ?_
    refine va_iald hx hb hKN.1 hP 10 0 rfl rfl (vp_in_iff.mpr ⟨by omega, by omega⟩) dX11_text_238 ?_
    refine lv_topi (fun v5033 ev5033 => ?_)
    have ev5033 : v5033 = f5016 g5005.toNatClampNeg := ev5033
    have qv5033 := congrArg Int32.toInt ev5033
    refine w_join (σ := (Nat → Int32) × (Nat → Int32)) (pcJ := 263) (kJ := 0) (nJ := 0) (stk := fun xx => match xx with | (f5042, f5043) => []) (fun xx H locs ls => match xx with | (f5042, f5043) => va_P D vwCl (MW Y o a (upd (upd (upd (upd (upd (upd (upd (upd (upd I 3 g5001) 16 g5002) 17 g5003) 18 g5004) 19 g5005) 20 g5006) 21 g5007) 22 g5008) 24 g5009) J (vf_upd (vf_upd (vf_upd (vf_upd (vf_upd (vf_upd (vf_upd (vf_upd (vf_upd (vf_upd (vf_upd (vf_upd (vf_upd F 4 f5010) 5 f5011) 6 f5012) 7 f5013) 8 f5014) 9 f5029) 10 f5042) 11 f5043) 12 f5018) 13 f5019) 14 f5020) 15 f5021) 23 f5022) G) H ∧ va_D A (MW Y o a (upd (upd (upd (upd (upd (upd (upd (upd (upd I 3 g5001) 16 g5002) 17 g5003) 18 g5004) 19 g5005) 20 g5006) 21 g5007) 22 g5008) 24 g5009) J (vf_upd (vf_upd (vf_upd (vf_upd (vf_upd (vf_upd (vf_upd (vf_upd (vf_upd (vf_upd (vf_upd (vf_upd (vf_upd F 4 f5010) 5 f5011) 6 f5012) 7 f5013) 8 f5014) 9 f5029) 10 f5042) 11 f5043) 12 f5018) 13 f5019) 14 f5020) 15 f5021) 23 f5022) G) ∧ va_S A s.heap H locs ∧ lv_has ls 3 [(0, .ref o), (1, .int 2)] ∧ ((2 ≤ (f5042 g5005.toNatClampNeg).toInt ∧ (f5042 g5005.toNatClampNeg).toInt ≤ 200) ∧ (f5043 g5005.toNatClampNeg).toInt ≤ 200) ∧ TX f5010 f5029 f5042 f5043 f5018 f5019) (fun xx H locs ls hI => ?_) (fun jn5044 => ?_)
    · skip
      obtain ⟨f5042, f5043⟩ := xx
      obtain ⟨hP, hD, hS, hl, hq5045, hp5046⟩ := hI
      refine W.eq (g2 := F0 m 263 ls []) rfl ?_
      refine lv_aload_n hx hb dX11_text_263 rfl (lv_at hl 0 rfl) ?_
      refine va_get (D := D) (ci := 11) (v := .ref (a 12)) (C := RX11) (T := TX11) (N := 49) hx hb hg inGX11 hown hKN.1 hP 0 rfl rfl 12 (by decide) (hg _ kw_1220) (fun _ h9 => h9) rfl dX11_text_264 ?_
      refine lv_aload_n hx hb dX11_text_267 rfl (lv_at hl 0 rfl) ?_
      refine va_get (D := D) (ci := 11) (v := .int g5005) (C := RX11) (T := TX11) (N := 49) hx hb hg inGX11 hown hKN.1 hP 0 rfl rfl 19 (by decide) (hg _ kw_1227) (fun _ h9 => h9) rfl dX11_text_268 ?_
      refine va_iald hx hb hKN.1 hP 12 0 rfl rfl (vp_in_iff.mpr ⟨by omega, by omega⟩) dX11_text_271 ?_
      refine lv_topi (fun v5047 ev5047 => ?_)
      have ev5047 : v5047 = f5018 g5005.toNatClampNeg := ev5047
      have qv5047 := congrArg Int32.toInt ev5047
      refine w_join (σ := (Nat → Int32) × (Nat → Int32)) (pcJ := 295) (kJ := 0) (nJ := 0) (stk := fun xx => match xx with | (f5056, f5057) => []) (fun xx H locs ls => match xx with | (f5056, f5057) => va_P D vwCl (MW Y o a (upd (upd (upd (upd (upd (upd (upd (upd (upd I 3 g5001) 16 g5002) 17 g5003) 18 g5004) 19 g5005) 20 g5006) 21 g5007) 22 g5008) 24 g5009) J (vf_upd (vf_upd (vf_upd (vf_upd (vf_upd (vf_upd (vf_upd (vf_upd (vf_upd (vf_upd (vf_upd (vf_upd (vf_upd F 4 f5010) 5 f5011) 6 f5012) 7 f5013) 8 f5014) 9 f5029) 10 f5042) 11 f5043) 12 f5056) 13 f5057) 14 f5020) 15 f5021) 23 f5022) G) H ∧ va_D A (MW Y o a (upd (upd (upd (upd (upd (upd (upd (upd (upd I 3 g5001) 16 g5002) 17 g5003) 18 g5004) 19 g5005) 20 g5006) 21 g5007) 22 g5008) 24 g5009) J (vf_upd (vf_upd (vf_upd (vf_upd (vf_upd (vf_upd (vf_upd (vf_upd (vf_upd (vf_upd (vf_upd (vf_upd (vf_upd F 4 f5010) 5 f5011) 6 f5012) 7 f5013) 8 f5014) 9 f5029) 10 f5042) 11 f5043) 12 f5056) 13 f5057) 14 f5020) 15 f5021) 23 f5022) G) ∧ va_S A s.heap H locs ∧ lv_has ls 3 [(0, .ref o), (1, .int 2)] ∧ (1 ≤ (f5056 g5005.toNatClampNeg).toInt ∧ (f5057 g5005.toNatClampNeg).toInt ≤ 10) ∧ TX f5010 f5029 f5042 f5043 f5056 f5057) (fun xx H locs ls hI => ?_) (fun jn5058 => ?_)
      · skip
        obtain ⟨f5056, f5057⟩ := xx
        obtain ⟨hP, hD, hS, hl, hq5059, hp5060⟩ := hI
        refine W.eq (g2 := F0 m 295 ls []) rfl ?_
        refine lv_aload_n hx hb dX11_text_295 rfl (lv_at hl 0 rfl) ?_
        refine va_get (D := D) (ci := 11) (v := .ref (a 14)) (C := RX11) (T := TX11) (N := 49) hx hb hg inGX11 hown hKN.1 hP 0 rfl rfl 14 (by decide) (hg _ kw_1222) (fun _ h9 => h9) rfl dX11_text_296 ?_
        refine lv_aload_n hx hb dX11_text_299 rfl (lv_at hl 0 rfl) ?_
        refine va_get (D := D) (ci := 11) (v := .int g5005) (C := RX11) (T := TX11) (N := 49) hx hb hg inGX11 hown hKN.1 hP 0 rfl rfl 19 (by decide) (hg _ kw_1227) (fun _ h9 => h9) rfl dX11_text_300 ?_
        refine va_iald hx hb hKN.1 hP 14 0 rfl rfl (vp_in_iff.mpr ⟨by omega, by omega⟩) dX11_text_303 ?_
        refine lv_topi (fun v5061 ev5061 => ?_)
        have ev5061 : v5061 = f5020 g5005.toNatClampNeg := ev5061
        have qv5061 := congrArg Int32.toInt ev5061
        refine w_join (σ := (Nat → Int32)) (pcJ := 317) (kJ := 0) (nJ := 0) (stk := fun xx => match xx with | f5066 => []) (fun xx H locs ls => match xx with | f5066 => va_P D vwCl (MW Y o a (upd (upd (upd (upd (upd (upd (upd (upd (upd I 3 g5001) 16 g5002) 17 g5003) 18 g5004) 19 g5005) 20 g5006) 21 g5007) 22 g5008) 24 g5009) J (vf_upd (vf_upd (vf_upd (vf_upd (vf_upd (vf_upd (vf_upd (vf_upd (vf_upd (vf_upd (vf_upd (vf_upd (vf_upd F 4 f5010) 5 f5011) 6 f5012) 7 f5013) 8 f5014) 9 f5029) 10 f5042) 11 f5043) 12 f5056) 13 f5057) 14 f5066) 15 f5021) 23 f5022) G) H ∧ va_D A (MW Y o a (upd (upd (upd (upd (upd (upd (upd (upd (upd I 3 g5001) 16 g5002) 17 g5003) 18 g5004) 19 g5005) 20 g5006) 21 g5007) 22 g5008) 24 g5009) J (vf_upd (vf_upd (vf_upd (vf_upd (vf_upd (vf_upd (vf_upd (vf_upd (vf_upd (vf_upd (vf_upd (vf_upd (vf_upd F 4 f5010) 5 f5011) 6 f5012) 7 f5013) 8 f5014) 9 f5029) 10 f5042) 11 f5043) 12 f5056) 13 f5057) 14 f5066) 15 f5021) 23 f5022) G) ∧ va_S A s.heap H locs ∧ lv_has ls 3 [(0, .ref o), (1, .int 2)]) (fun xx H locs ls hI => ?_) (fun jn5067 => ?_)
        · skip
          revert hI
          generalize xx = f5066
          intro hI
          obtain ⟨hP, hD, hS, hl⟩ := hI
          refine W.eq (g2 := F0 m 317 ls []) rfl ?_
          refine lv_aload_n hx hb dX11_text_317 rfl (lv_at hl 0 rfl) ?_
          refine va_get (D := D) (ci := 11) (v := .ref (a 15)) (C := RX11) (T := TX11) (N := 49) hx hb hg inGX11 hown hKN.1 hP 0 rfl rfl 15 (by decide) (hg _ kw_1223) (fun _ h9 => h9) rfl dX11_text_318 ?_
          refine lv_aload_n hx hb dX11_text_321 rfl (lv_at hl 0 rfl) ?_
          refine va_get (D := D) (ci := 11) (v := .int g5005) (C := RX11) (T := TX11) (N := 49) hx hb hg inGX11 hown hKN.1 hP 0 rfl rfl 19 (by decide) (hg _ kw_1227) (fun _ h9 => h9) rfl dX11_text_322 ?_
          refine va_iald hx hb hKN.1 hP 15 0 rfl rfl (vp_in_iff.mpr ⟨by omega, by omega⟩) dX11_text_325 ?_
          refine lv_topi (fun v5068 ev5068 => ?_)
          have ev5068 : v5068 = f5021 g5005.toNatClampNeg := ev5068
          have qv5068 := congrArg Int32.toInt ev5068
          have j5069 := rgI v5068
          refine lv_if_ge (tgt := 339) hx hb dX11_text_326 (by decide) (fun c5070 => ?_) (fun c5070 => ?_)
          · skip
            have c5070 := i_le (show (0 : Int32).toInt = 0 by decide) (Eq.refl v5068.toInt) c5070
            have t5071 := clampI (x := g5005) (by omega)
            refine lv_aload_n hx hb dX11_text_339 rfl (lv_at hl 0 rfl) ?_
            refine va_get (D := D) (ci := 11) (v := .ref (a 4)) (C := RX11) (T := TX11) (N := 49) hx hb hg inGX11 hown hKN.1 hP 0 rfl rfl 4 (by decide) (hg _ kw_1212) (fun _ h9 => h9) rfl dX11_text_340 ?_
            refine lv_iload_n hx hb dX11_text_343 rfl (lv_at hl 1 rfl) ?_
            refine lv_dup2_11 hx hb dX11_text_344 rfl rfl ?_
            refine va_iald hx hb hKN.1 hP 4 0 rfl rfl (show ¬ ((2 : Int32) < 0 ∨ 3 ≤ (2 : Int32).toNatClampNeg) by decide) dX11_text_345 ?_
            refine lv_topi (fun v5072 ev5072 => ?_)
            have ev5072 : v5072 = f5010 2 := ev5072
            have kv5072 := TX_t hp5060 (i := 2) (by decide) (by decide)
            have kv5072 : 0 ≤ (f5010 2).toInt ∧ (f5010 2).toInt ≤ 6 := kv5072
            have qv5072 := congrArg Int32.toInt ev5072
            refine lv_iconst (v := 1) hx hb dX11_text_346 (by decide) ?_
            refine lv_iadd hx hb dX11_text_347 ?_
            refine lv_topi (fun v5073 ev5073 => ?_)
            have hv5073 := i_add (Eq.refl v5072.toInt) (show (1 : Int32).toInt = 1 by decide) ev5073 (by omega) (by omega)
            refine va_iast hx hb hKN.1 hP hD hS 4 0 rfl rfl (show ¬ ((2 : Int32) < 0 ∨ 3 ≤ (2 : Int32).toNatClampNeg) by decide) dX11_text_348 (fun H locs hP hD hS => ?_)
            obtain ⟨f5074, ef5074, hP, hD⟩ : ∃ f5074 : Nat → Int32, f5074 = upd f5010 2 v5073 ∧ va_P D vwCl (MW Y o a (upd (upd (upd (upd (upd (upd (upd (upd (upd I 3 g5001) 16 g5002) 17 g5003) 18 g5004) 19 g5005) 20 g5006) 21 g5007) 22 g5008) 24 g5009) J (vf_upd (vf_upd (vf_upd (vf_upd (vf_upd (vf_upd (vf_upd (vf_upd (vf_upd (vf_upd (vf_upd (vf_upd (vf_upd F 4 f5074) 5 f5011) 6 f5012) 7 f5013) 8 f5014) 9 f5029) 10 f5042) 11 f5043) 12 f5056) 13 f5057) 14 f5066) 15 f5021) 23 f5022) G) H ∧ va_D A (MW Y o a (upd (upd (upd (upd (upd (upd (upd (upd (upd I 3 g5001) 16 g5002) 17 g5003) 18 g5004) 19 g5005) 20 g5006) 21 g5007) 22 g5008) 24 g5009) J (vf_upd (vf_upd (vf_upd (vf_upd (vf_upd (vf_upd (vf_upd (vf_upd (vf_upd (vf_upd (vf_upd (vf_upd (vf_upd F 4 f5074) 5 f5011) 6 f5012) 7 f5013) 8 f5014) 9 f5029) 10 f5042) 11 f5043) 12 f5056) 13 f5057) 14 f5066) 15 f5021) 23 f5022) G) := ⟨_, rfl, hP, hD⟩
            have t5075t := TC_nw (k := 2) hr_PT ef5074 (by omega) (by omega)
            have t5075x := TX_nw (t := g5005.toNatClampNeg) (k := 2) hp5060 ef5074 (by omega) (by omega) (by decide) (fun _ => by contradiction) (fun _ => by contradiction)
            refine lv_aload_n hx hb dX11_text_349 rfl (lv_at hl 0 rfl) ?_
            refine va_get (D := D) (ci := 11) (v := .ref (a 4)) (C := RX11) (T := TX11) (N := 49) hx hb hg inGX11 hown hKN.1 hP 0 rfl rfl 4 (by decide) (hg _ kw_1212) (fun _ h9 => h9) rfl dX11_text_350 ?_
            refine lv_iload_n hx hb dX11_text_353 rfl (lv_at hl 1 rfl) ?_
            refine va_iald hx hb hKN.1 hP 4 0 rfl rfl (show ¬ ((2 : Int32) < 0 ∨ 3 ≤ (2 : Int32).toNatClampNeg) by decide) dX11_text_354 ?_
            refine lv_topi (fun v5076 ev5076 => ?_)
            have ev5076 : v5076 = f5074 2 := ev5076
            have kv5076 := TX_t t5075x (i := 2) (by decide) (by decide)
            have kv5076 : 0 ≤ (f5074 2).toInt ∧ (f5074 2).toInt ≤ 6 := kv5076
            have qv5076 := congrArg Int32.toInt ev5076
            refine lv_iconst (v := 1) hx hb dX11_text_355 (by decide) ?_
            refine lv_isub hx hb dX11_text_356 ?_
            refine lv_topi (fun v5077 ev5077 => ?_)
            have hv5077 := i_sub (Eq.refl v5076.toInt) (show (1 : Int32).toInt = 1 by decide) ev5077 (by omega) (by omega)
            refine W.widen (k := 0) (n := 0) (Nat.le_of_ble_eq_true rfl) (Nat.le_of_ble_eq_true rfl) ?_
            have zi2 : (2 : Int32).toInt = 2 := by decide
            exact W.iret (v := v5077) hx hb hr (fun t ht hW => ⟨⟨(v5077, g5001, g5002, g5003, g5004, g5005, g5006, g5007, g5009, g5008, f5013, f5014, f5011, f5012, f5022, f5029, f5042, f5043, f5056, f5057, f5066, f5021, f5074), rfl, ⟨(show (0 ≤ g5001.toInt ∧ g5001.toInt ≤ 400) by omega), t5075x, t5075t⟩, CB.mk ht hP hD⟩, hS.F ht⟩) hS.2.2 dX11_text_357
          · skip
            have c5070 := i_nle (show (0 : Int32).toInt = 0 by decide) (Eq.refl v5068.toInt) c5070
            refine lv_aload_n hx hb dX11_text_329 rfl (lv_at hl 0 rfl) ?_
            refine va_get (D := D) (ci := 11) (v := .ref (a 15)) (C := RX11) (T := TX11) (N := 49) hx hb hg inGX11 hown hKN.1 hP 0 rfl rfl 15 (by decide) (hg _ kw_1223) (fun _ h9 => h9) rfl dX11_text_330 ?_
            refine lv_aload_n hx hb dX11_text_333 rfl (lv_at hl 0 rfl) ?_
            refine va_get (D := D) (ci := 11) (v := .int g5005) (C := RX11) (T := TX11) (N := 49) hx hb hg inGX11 hown hKN.1 hP 0 rfl rfl 19 (by decide) (hg _ kw_1227) (fun _ h9 => h9) rfl dX11_text_334 ?_
            refine lv_iconst (v := 0) hx hb dX11_text_337 (by decide) ?_
            refine va_iast hx hb hKN.1 hP hD hS 15 0 rfl rfl (vp_in_iff.mpr ⟨by omega, by omega⟩) dX11_text_338 (fun H locs hP hD hS => ?_)
            obtain ⟨f5078, ef5078, hP, hD⟩ : ∃ f5078 : Nat → Int32, f5078 = upd f5021 g5005.toNatClampNeg 0 ∧ va_P D vwCl (MW Y o a (upd (upd (upd (upd (upd (upd (upd (upd (upd I 3 g5001) 16 g5002) 17 g5003) 18 g5004) 19 g5005) 20 g5006) 21 g5007) 22 g5008) 24 g5009) J (vf_upd (vf_upd (vf_upd (vf_upd (vf_upd (vf_upd (vf_upd (vf_upd (vf_upd (vf_upd (vf_upd (vf_upd (vf_upd F 4 f5010) 5 f5011) 6 f5012) 7 f5013) 8 f5014) 9 f5029) 10 f5042) 11 f5043) 12 f5056) 13 f5057) 14 f5066) 15 f5078) 23 f5022) G) H ∧ va_D A (MW Y o a (upd (upd (upd (upd (upd (upd (upd (upd (upd I 3 g5001) 16 g5002) 17 g5003) 18 g5004) 19 g5005) 20 g5006) 21 g5007) 22 g5008) 24 g5009) J (vf_upd (vf_upd (vf_upd (vf_upd (vf_upd (vf_upd (vf_upd (vf_upd (vf_upd (vf_upd (vf_upd (vf_upd (vf_upd F 4 f5010) 5 f5011) 6 f5012) 7 f5013) 8 f5014) 9 f5029) 10 f5042) 11 f5043) 12 f5056) 13 f5057) 14 f5066) 15 f5078) 23 f5022) G) := ⟨_, rfl, hP, hD⟩
            have t5079 : (f5078 g5005.toNatClampNeg).toInt = (0 : Int32).toInt := by rw [ef5078, up_eq rfl]
            have zi0 : (0 : Int32).toInt = 0 := by decide
            have t5080 := clampI (x := g5005) (by omega)
            refine lv_aload_n hx hb dX11_text_339 rfl (lv_at hl 0 rfl) ?_
            refine va_get (D := D) (ci := 11) (v := .ref (a 4)) (C := RX11) (T := TX11) (N := 49) hx hb hg inGX11 hown hKN.1 hP 0 rfl rfl 4 (by decide) (hg _ kw_1212) (fun _ h9 => h9) rfl dX11_text_340 ?_
            refine lv_iload_n hx hb dX11_text_343 rfl (lv_at hl 1 rfl) ?_
            refine lv_dup2_11 hx hb dX11_text_344 rfl rfl ?_
            refine va_iald hx hb hKN.1 hP 4 0 rfl rfl (show ¬ ((2 : Int32) < 0 ∨ 3 ≤ (2 : Int32).toNatClampNeg) by decide) dX11_text_345 ?_
            refine lv_topi (fun v5081 ev5081 => ?_)
            have ev5081 : v5081 = f5010 2 := ev5081
            have kv5081 := TX_t hp5060 (i := 2) (by decide) (by decide)
            have kv5081 : 0 ≤ (f5010 2).toInt ∧ (f5010 2).toInt ≤ 6 := kv5081
            have qv5081 := congrArg Int32.toInt ev5081
            refine lv_iconst (v := 1) hx hb dX11_text_346 (by decide) ?_
            refine lv_iadd hx hb dX11_text_347 ?_
            refine lv_topi (fun v5082 ev5082 => ?_)
            have hv5082 := i_add (Eq.refl v5081.toInt) (show (1 : Int32).toInt = 1 by decide) ev5082 (by omega) (by omega)
            refine va_iast hx hb hKN.1 hP hD hS 4 0 rfl rfl (show ¬ ((2 : Int32) < 0 ∨ 3 ≤ (2 : Int32).toNatClampNeg) by decide) dX11_text_348 (fun H locs hP hD hS => ?_)
            obtain ⟨f5083, ef5083, hP, hD⟩ : ∃ f5083 : Nat → Int32, f5083 = upd f5010 2 v5082 ∧ va_P D vwCl (MW Y o a (upd (upd (upd (upd (upd (upd (upd (upd (upd I 3 g5001) 16 g5002) 17 g5003) 18 g5004) 19 g5005) 20 g5006) 21 g5007) 22 g5008) 24 g5009) J (vf_upd (vf_upd (vf_upd (vf_upd (vf_upd (vf_upd (vf_upd (vf_upd (vf_upd (vf_upd (vf_upd (vf_upd (vf_upd F 4 f5083) 5 f5011) 6 f5012) 7 f5013) 8 f5014) 9 f5029) 10 f5042) 11 f5043) 12 f5056) 13 f5057) 14 f5066) 15 f5078) 23 f5022) G) H ∧ va_D A (MW Y o a (upd (upd (upd (upd (upd (upd (upd (upd (upd I 3 g5001) 16 g5002) 17 g5003) 18 g5004) 19 g5005) 20 g5006) 21 g5007) 22 g5008) 24 g5009) J (vf_upd (vf_upd (vf_upd (vf_upd (vf_upd (vf_upd (vf_upd (vf_upd (vf_upd (vf_upd (vf_upd (vf_upd (vf_upd F 4 f5083) 5 f5011) 6 f5012) 7 f5013) 8 f5014) 9 f5029) 10 f5042) 11 f5043) 12 f5056) 13 f5057) 14 f5066) 15 f5078) 23 f5022) G) := ⟨_, rfl, hP, hD⟩
            have t5084t := TC_nw (k := 2) hr_PT ef5083 (by omega) (by omega)
            have t5084x := TX_nw (t := g5005.toNatClampNeg) (k := 2) hp5060 ef5083 (by omega) (by omega) (by decide) (fun _ => by contradiction) (fun _ => by contradiction)
            refine lv_aload_n hx hb dX11_text_349 rfl (lv_at hl 0 rfl) ?_
            refine va_get (D := D) (ci := 11) (v := .ref (a 4)) (C := RX11) (T := TX11) (N := 49) hx hb hg inGX11 hown hKN.1 hP 0 rfl rfl 4 (by decide) (hg _ kw_1212) (fun _ h9 => h9) rfl dX11_text_350 ?_
            refine lv_iload_n hx hb dX11_text_353 rfl (lv_at hl 1 rfl) ?_
            refine va_iald hx hb hKN.1 hP 4 0 rfl rfl (show ¬ ((2 : Int32) < 0 ∨ 3 ≤ (2 : Int32).toNatClampNeg) by decide) dX11_text_354 ?_
            refine lv_topi (fun v5085 ev5085 => ?_)
            have ev5085 : v5085 = f5083 2 := ev5085
            have kv5085 := TX_t t5084x (i := 2) (by decide) (by decide)
            have kv5085 : 0 ≤ (f5083 2).toInt ∧ (f5083 2).toInt ≤ 6 := kv5085
            have qv5085 := congrArg Int32.toInt ev5085
            refine lv_iconst (v := 1) hx hb dX11_text_355 (by decide) ?_
            refine lv_isub hx hb dX11_text_356 ?_
            refine lv_topi (fun v5086 ev5086 => ?_)
            have hv5086 := i_sub (Eq.refl v5085.toInt) (show (1 : Int32).toInt = 1 by decide) ev5086 (by omega) (by omega)
            refine W.widen (k := 0) (n := 0) (Nat.le_of_ble_eq_true rfl) (Nat.le_of_ble_eq_true rfl) ?_
            have zi2 : (2 : Int32).toInt = 2 := by decide
            exact W.iret (v := v5086) hx hb hr (fun t ht hW => ⟨⟨(v5086, g5001, g5002, g5003, g5004, g5005, g5006, g5007, g5009, g5008, f5013, f5014, f5011, f5012, f5022, f5029, f5042, f5043, f5056, f5057, f5066, f5078, f5083), rfl, ⟨(show (0 ≤ g5001.toInt ∧ g5001.toInt ≤ 400) by omega), t5084x, t5084t⟩, CB.mk ht hP hD⟩, hS.F ht⟩) hS.2.2 dX11_text_357
        · skip
          have j5087 := rgI v5061
          refine lv_if_ge (tgt := 317) hx hb dX11_text_304 (by decide) (fun c5088 => ?_) (fun c5088 => ?_)
          · skip
            have c5088 := i_le (show (0 : Int32).toInt = 0 by decide) (Eq.refl v5061.toInt) c5088
            have zi2 : (2 : Int32).toInt = 2 := by decide
            refine W.widen (k := 0) (n := 0) (Nat.le_of_ble_eq_true rfl) (Nat.le_of_ble_eq_true rfl) ?_
            exact jn5067 (f5020) H locs ls ⟨hP, hD, hS, lv_sub hl [0, 1] rfl⟩
          · skip
            have c5088 := i_nle (show (0 : Int32).toInt = 0 by decide) (Eq.refl v5061.toInt) c5088
            refine lv_aload_n hx hb dX11_text_307 rfl (lv_at hl 0 rfl) ?_
            refine va_get (D := D) (ci := 11) (v := .ref (a 14)) (C := RX11) (T := TX11) (N := 49) hx hb hg inGX11 hown hKN.1 hP 0 rfl rfl 14 (by decide) (hg _ kw_1222) (fun _ h9 => h9) rfl dX11_text_308 ?_
            refine lv_aload_n hx hb dX11_text_311 rfl (lv_at hl 0 rfl) ?_
            refine va_get (D := D) (ci := 11) (v := .int g5005) (C := RX11) (T := TX11) (N := 49) hx hb hg inGX11 hown hKN.1 hP 0 rfl rfl 19 (by decide) (hg _ kw_1227) (fun _ h9 => h9) rfl dX11_text_312 ?_
            refine lv_iconst (v := 1) hx hb dX11_text_315 (by decide) ?_
            refine va_iast hx hb hKN.1 hP hD hS 14 0 rfl rfl (vp_in_iff.mpr ⟨by omega, by omega⟩) dX11_text_316 (fun H locs hP hD hS => ?_)
            obtain ⟨f5089, ef5089, hP, hD⟩ : ∃ f5089 : Nat → Int32, f5089 = upd f5020 g5005.toNatClampNeg 1 ∧ va_P D vwCl (MW Y o a (upd (upd (upd (upd (upd (upd (upd (upd (upd I 3 g5001) 16 g5002) 17 g5003) 18 g5004) 19 g5005) 20 g5006) 21 g5007) 22 g5008) 24 g5009) J (vf_upd (vf_upd (vf_upd (vf_upd (vf_upd (vf_upd (vf_upd (vf_upd (vf_upd (vf_upd (vf_upd (vf_upd (vf_upd F 4 f5010) 5 f5011) 6 f5012) 7 f5013) 8 f5014) 9 f5029) 10 f5042) 11 f5043) 12 f5056) 13 f5057) 14 f5089) 15 f5021) 23 f5022) G) H ∧ va_D A (MW Y o a (upd (upd (upd (upd (upd (upd (upd (upd (upd I 3 g5001) 16 g5002) 17 g5003) 18 g5004) 19 g5005) 20 g5006) 21 g5007) 22 g5008) 24 g5009) J (vf_upd (vf_upd (vf_upd (vf_upd (vf_upd (vf_upd (vf_upd (vf_upd (vf_upd (vf_upd (vf_upd (vf_upd (vf_upd F 4 f5010) 5 f5011) 6 f5012) 7 f5013) 8 f5014) 9 f5029) 10 f5042) 11 f5043) 12 f5056) 13 f5057) 14 f5089) 15 f5021) 23 f5022) G) := ⟨_, rfl, hP, hD⟩
            have t5090 : (f5089 g5005.toNatClampNeg).toInt = (1 : Int32).toInt := by rw [ef5089, up_eq rfl]
            have zi1 : (1 : Int32).toInt = 1 := by decide
            have zi2 : (2 : Int32).toInt = 2 := by decide
            refine W.widen (k := 0) (n := 0) (Nat.le_of_ble_eq_true rfl) (Nat.le_of_ble_eq_true rfl) ?_
            exact jn5067 (f5089) H locs ls ⟨hP, hD, hS, lv_sub hl [0, 1] rfl⟩
      · skip
        have j5091 := rgI v5047
        refine lv_if_ge (tgt := 295) hx hb dX11_text_272 (by decide) (fun c5092 => ?_) (fun c5092 => ?_)
        · skip
          have c5092 := i_le (show (0 : Int32).toInt = 0 by decide) (Eq.refl v5047.toInt) c5092
          have zi2 : (2 : Int32).toInt = 2 := by decide
          refine W.widen (k := 0) (n := 0) (Nat.le_of_ble_eq_true rfl) (Nat.le_of_ble_eq_true rfl) ?_
          exact jn5058 (f5018, f5019) H locs ls ⟨hP, hD, hS, lv_sub hl [0, 1] rfl, by omega, hp5046⟩
        · skip
          have c5092 := i_nle (show (0 : Int32).toInt = 0 by decide) (Eq.refl v5047.toInt) c5092
          refine lv_aload_n hx hb dX11_text_275 rfl (lv_at hl 0 rfl) ?_
          refine va_get (D := D) (ci := 11) (v := .ref (a 12)) (C := RX11) (T := TX11) (N := 49) hx hb hg inGX11 hown hKN.1 hP 0 rfl rfl 12 (by decide) (hg _ kw_1220) (fun _ h9 => h9) rfl dX11_text_276 ?_
          refine lv_aload_n hx hb dX11_text_279 rfl (lv_at hl 0 rfl) ?_
          refine va_get (D := D) (ci := 11) (v := .int g5005) (C := RX11) (T := TX11) (N := 49) hx hb hg inGX11 hown hKN.1 hP 0 rfl rfl 19 (by decide) (hg _ kw_1227) (fun _ h9 => h9) rfl dX11_text_280 ?_
          refine lv_iconst (v := 1) hx hb dX11_text_283 (by decide) ?_
          refine va_iast hx hb hKN.1 hP hD hS 12 0 rfl rfl (vp_in_iff.mpr ⟨by omega, by omega⟩) dX11_text_284 (fun H locs hP hD hS => ?_)
          obtain ⟨f5093, ef5093, hP, hD⟩ : ∃ f5093 : Nat → Int32, f5093 = upd f5018 g5005.toNatClampNeg 1 ∧ va_P D vwCl (MW Y o a (upd (upd (upd (upd (upd (upd (upd (upd (upd I 3 g5001) 16 g5002) 17 g5003) 18 g5004) 19 g5005) 20 g5006) 21 g5007) 22 g5008) 24 g5009) J (vf_upd (vf_upd (vf_upd (vf_upd (vf_upd (vf_upd (vf_upd (vf_upd (vf_upd (vf_upd (vf_upd (vf_upd (vf_upd F 4 f5010) 5 f5011) 6 f5012) 7 f5013) 8 f5014) 9 f5029) 10 f5042) 11 f5043) 12 f5093) 13 f5019) 14 f5020) 15 f5021) 23 f5022) G) H ∧ va_D A (MW Y o a (upd (upd (upd (upd (upd (upd (upd (upd (upd I 3 g5001) 16 g5002) 17 g5003) 18 g5004) 19 g5005) 20 g5006) 21 g5007) 22 g5008) 24 g5009) J (vf_upd (vf_upd (vf_upd (vf_upd (vf_upd (vf_upd (vf_upd (vf_upd (vf_upd (vf_upd (vf_upd (vf_upd (vf_upd F 4 f5010) 5 f5011) 6 f5012) 7 f5013) 8 f5014) 9 f5029) 10 f5042) 11 f5043) 12 f5093) 13 f5019) 14 f5020) 15 f5021) 23 f5022) G) := ⟨_, rfl, hP, hD⟩
          have t5094 : TX f5010 f5029 f5042 f5043 f5093 f5019 := TX_fr (t := g5005.toNatClampNeg) hp5046 hr_UN (fun _ _ => rfl) (fun _ _ => rfl) (fun _ _ => rfl) (fun k hk => by rw [ef5093]; exact up_ne hk) (fun _ _ => rfl)
          have t5095 : (f5093 g5005.toNatClampNeg).toInt = (1 : Int32).toInt := by rw [ef5093, up_eq rfl]
          have zi1 : (1 : Int32).toInt = 1 := by decide
          refine lv_aload_n hx hb dX11_text_285 rfl (lv_at hl 0 rfl) ?_
          refine va_get (D := D) (ci := 11) (v := .ref (a 13)) (C := RX11) (T := TX11) (N := 49) hx hb hg inGX11 hown hKN.1 hP 0 rfl rfl 13 (by decide) (hg _ kw_1221) (fun _ h9 => h9) rfl dX11_text_286 ?_
          refine lv_aload_n hx hb dX11_text_289 rfl (lv_at hl 0 rfl) ?_
          refine va_get (D := D) (ci := 11) (v := .int g5005) (C := RX11) (T := TX11) (N := 49) hx hb hg inGX11 hown hKN.1 hP 0 rfl rfl 19 (by decide) (hg _ kw_1227) (fun _ h9 => h9) rfl dX11_text_290 ?_
          refine lv_iconst (v := 5) hx hb dX11_text_293 (by decide) ?_
          refine va_iast hx hb hKN.1 hP hD hS 13 0 rfl rfl (vp_in_iff.mpr ⟨by omega, by omega⟩) dX11_text_294 (fun H locs hP hD hS => ?_)
          obtain ⟨f5096, ef5096, hP, hD⟩ : ∃ f5096 : Nat → Int32, f5096 = upd f5019 g5005.toNatClampNeg 5 ∧ va_P D vwCl (MW Y o a (upd (upd (upd (upd (upd (upd (upd (upd (upd I 3 g5001) 16 g5002) 17 g5003) 18 g5004) 19 g5005) 20 g5006) 21 g5007) 22 g5008) 24 g5009) J (vf_upd (vf_upd (vf_upd (vf_upd (vf_upd (vf_upd (vf_upd (vf_upd (vf_upd (vf_upd (vf_upd (vf_upd (vf_upd F 4 f5010) 5 f5011) 6 f5012) 7 f5013) 8 f5014) 9 f5029) 10 f5042) 11 f5043) 12 f5093) 13 f5096) 14 f5020) 15 f5021) 23 f5022) G) H ∧ va_D A (MW Y o a (upd (upd (upd (upd (upd (upd (upd (upd (upd I 3 g5001) 16 g5002) 17 g5003) 18 g5004) 19 g5005) 20 g5006) 21 g5007) 22 g5008) 24 g5009) J (vf_upd (vf_upd (vf_upd (vf_upd (vf_upd (vf_upd (vf_upd (vf_upd (vf_upd (vf_upd (vf_upd (vf_upd (vf_upd F 4 f5010) 5 f5011) 6 f5012) 7 f5013) 8 f5014) 9 f5029) 10 f5042) 11 f5043) 12 f5093) 13 f5096) 14 f5020) 15 f5021) 23 f5022) G) := ⟨_, rfl, hP, hD⟩
          have t5097 : TX f5010 f5029 f5042 f5043 f5093 f5096 := TX_fr (t := g5005.toNatClampNeg) t5094 hr_UN (fun _ _ => rfl) (fun _ _ => rfl) (fun _ _ => rfl) (fun _ _ => rfl) (fun k hk => by rw [ef5096]; exact up_ne hk)
          have t5098 : (f5096 g5005.toNatClampNeg).toInt = (5 : Int32).toInt := by rw [ef5096, up_eq rfl]
          have zi5 : (5 : Int32).toInt = 5 := by decide
          have zi2 : (2 : Int32).toInt = 2 := by decide
          refine W.widen (k := 0) (n := 0) (Nat.le_of_ble_eq_true rfl) (Nat.le_of_ble_eq_true rfl) ?_
          exact jn5058 (f5093, f5096) H locs ls ⟨hP, hD, hS, lv_sub hl [0, 1] rfl, by omega, t5097⟩
    · skip
      have j5099 := rgI v5033
      refine lv_if_ge (tgt := 263) hx hb dX11_text_239 (by decide) (fun c5100 => ?_) (fun c5100 => ?_)
      · skip
        have c5100 := i_le (show (0 : Int32).toInt = 0 by decide) (Eq.refl v5033.toInt) c5100
        have zi2 : (2 : Int32).toInt = 2 := by decide
        refine W.widen (k := 0) (n := 0) (Nat.le_of_ble_eq_true rfl) (Nat.le_of_ble_eq_true rfl) ?_
        exact jn5044 (f5016, f5017) H locs ls ⟨hP, hD, hS, lv_sub hl [0, 1] rfl, by omega, hp5032⟩
      · skip
        have c5100 := i_nle (show (0 : Int32).toInt = 0 by decide) (Eq.refl v5033.toInt) c5100
        refine lv_aload_n hx hb dX11_text_242 rfl (lv_at hl 0 rfl) ?_
        refine va_get (D := D) (ci := 11) (v := .ref (a 10)) (C := RX11) (T := TX11) (N := 49) hx hb hg inGX11 hown hKN.1 hP 0 rfl rfl 10 (by decide) (hg _ kw_1218) (fun _ h9 => h9) rfl dX11_text_243 ?_
        refine lv_aload_n hx hb dX11_text_246 rfl (lv_at hl 0 rfl) ?_
        refine va_get (D := D) (ci := 11) (v := .int g5005) (C := RX11) (T := TX11) (N := 49) hx hb hg inGX11 hown hKN.1 hP 0 rfl rfl 19 (by decide) (hg _ kw_1227) (fun _ h9 => h9) rfl dX11_text_247 ?_
        refine lv_iconst (v := 2) hx hb dX11_text_250 (by decide) ?_
        refine va_iast hx hb hKN.1 hP hD hS 10 0 rfl rfl (vp_in_iff.mpr ⟨by omega, by omega⟩) dX11_text_251 (fun H locs hP hD hS => ?_)
        obtain ⟨f5101, ef5101, hP, hD⟩ : ∃ f5101 : Nat → Int32, f5101 = upd f5016 g5005.toNatClampNeg 2 ∧ va_P D vwCl (MW Y o a (upd (upd (upd (upd (upd (upd (upd (upd (upd I 3 g5001) 16 g5002) 17 g5003) 18 g5004) 19 g5005) 20 g5006) 21 g5007) 22 g5008) 24 g5009) J (vf_upd (vf_upd (vf_upd (vf_upd (vf_upd (vf_upd (vf_upd (vf_upd (vf_upd (vf_upd (vf_upd (vf_upd (vf_upd F 4 f5010) 5 f5011) 6 f5012) 7 f5013) 8 f5014) 9 f5029) 10 f5101) 11 f5017) 12 f5018) 13 f5019) 14 f5020) 15 f5021) 23 f5022) G) H ∧ va_D A (MW Y o a (upd (upd (upd (upd (upd (upd (upd (upd (upd I 3 g5001) 16 g5002) 17 g5003) 18 g5004) 19 g5005) 20 g5006) 21 g5007) 22 g5008) 24 g5009) J (vf_upd (vf_upd (vf_upd (vf_upd (vf_upd (vf_upd (vf_upd (vf_upd (vf_upd (vf_upd (vf_upd (vf_upd (vf_upd F 4 f5010) 5 f5011) 6 f5012) 7 f5013) 8 f5014) 9 f5029) 10 f5101) 11 f5017) 12 f5018) 13 f5019) 14 f5020) 15 f5021) 23 f5022) G) := ⟨_, rfl, hP, hD⟩
        have t5102 : TX f5010 f5029 f5101 f5017 f5018 f5019 := TX_fr (t := g5005.toNatClampNeg) hp5032 hr_UN (fun _ _ => rfl) (fun k hk => by rw [ef5101]; exact up_ne hk) (fun _ _ => rfl) (fun _ _ => rfl) (fun _ _ => rfl)
        have t5103 : (f5101 g5005.toNatClampNeg).toInt = (2 : Int32).toInt := by rw [ef5101, up_eq rfl]
        have zi2 : (2 : Int32).toInt = 2 := by decide
        refine lv_aload_n hx hb dX11_text_252 rfl (lv_at hl 0 rfl) ?_
        refine va_get (D := D) (ci := 11) (v := .ref (a 11)) (C := RX11) (T := TX11) (N := 49) hx hb hg inGX11 hown hKN.1 hP 0 rfl rfl 11 (by decide) (hg _ kw_1219) (fun _ h9 => h9) rfl dX11_text_253 ?_
        refine lv_aload_n hx hb dX11_text_256 rfl (lv_at hl 0 rfl) ?_
        refine va_get (D := D) (ci := 11) (v := .int g5005) (C := RX11) (T := TX11) (N := 49) hx hb hg inGX11 hown hKN.1 hP 0 rfl rfl 19 (by decide) (hg _ kw_1227) (fun _ h9 => h9) rfl dX11_text_257 ?_
        refine lv_bipush (v := 100) hx hb dX11_text_260 (by decide) ?_
        refine va_iast hx hb hKN.1 hP hD hS 11 0 rfl rfl (vp_in_iff.mpr ⟨by omega, by omega⟩) dX11_text_262 (fun H locs hP hD hS => ?_)
        obtain ⟨f5104, ef5104, hP, hD⟩ : ∃ f5104 : Nat → Int32, f5104 = upd f5017 g5005.toNatClampNeg 100 ∧ va_P D vwCl (MW Y o a (upd (upd (upd (upd (upd (upd (upd (upd (upd I 3 g5001) 16 g5002) 17 g5003) 18 g5004) 19 g5005) 20 g5006) 21 g5007) 22 g5008) 24 g5009) J (vf_upd (vf_upd (vf_upd (vf_upd (vf_upd (vf_upd (vf_upd (vf_upd (vf_upd (vf_upd (vf_upd (vf_upd (vf_upd F 4 f5010) 5 f5011) 6 f5012) 7 f5013) 8 f5014) 9 f5029) 10 f5101) 11 f5104) 12 f5018) 13 f5019) 14 f5020) 15 f5021) 23 f5022) G) H ∧ va_D A (MW Y o a (upd (upd (upd (upd (upd (upd (upd (upd (upd I 3 g5001) 16 g5002) 17 g5003) 18 g5004) 19 g5005) 20 g5006) 21 g5007) 22 g5008) 24 g5009) J (vf_upd (vf_upd (vf_upd (vf_upd (vf_upd (vf_upd (vf_upd (vf_upd (vf_upd (vf_upd (vf_upd (vf_upd (vf_upd F 4 f5010) 5 f5011) 6 f5012) 7 f5013) 8 f5014) 9 f5029) 10 f5101) 11 f5104) 12 f5018) 13 f5019) 14 f5020) 15 f5021) 23 f5022) G) := ⟨_, rfl, hP, hD⟩
        have t5105 : TX f5010 f5029 f5101 f5104 f5018 f5019 := TX_fr (t := g5005.toNatClampNeg) t5102 hr_UN (fun _ _ => rfl) (fun _ _ => rfl) (fun k hk => by rw [ef5104]; exact up_ne hk) (fun _ _ => rfl) (fun _ _ => rfl)
        have t5106 : (f5104 g5005.toNatClampNeg).toInt = (100 : Int32).toInt := by rw [ef5104, up_eq rfl]
        have zi100 : (100 : Int32).toInt = 100 := by decide
        refine W.widen (k := 0) (n := 0) (Nat.le_of_ble_eq_true rfl) (Nat.le_of_ble_eq_true rfl) ?_
        exact jn5044 (f5101, f5104) H locs ls ⟨hP, hD, hS, lv_sub hl [0, 1] rfl, by omega, t5105⟩
  · skip
    have j5107 := rgI v5023
    refine lv_if_ge (tgt := 230) hx hb dX11_text_217 (by decide) (fun c5108 => ?_) (fun c5108 => ?_)
    · skip
      have c5108 := i_le (show (0 : Int32).toInt = 0 by decide) (Eq.refl v5023.toInt) c5108
      have zi2 : (2 : Int32).toInt = 2 := by decide
      refine W.widen (k := 0) (n := 0) (Nat.le_of_ble_eq_true rfl) (Nat.le_of_ble_eq_true rfl) ?_
      exact jn5030 (f5015) H locs ls ⟨hP, hD, hS, lv_sub hl [0, 1] rfl, by omega, hk0⟩
    · skip
      have c5108 := i_nle (show (0 : Int32).toInt = 0 by decide) (Eq.refl v5023.toInt) c5108
      refine lv_aload_n hx hb dX11_text_220 rfl (lv_at hl 0 rfl) ?_
      refine va_get (D := D) (ci := 11) (v := .ref (a 9)) (C := RX11) (T := TX11) (N := 49) hx hb hg inGX11 hown hKN.1 hP 0 rfl rfl 9 (by decide) (hg _ kw_1217) (fun _ h9 => h9) rfl dX11_text_221 ?_
      refine lv_aload_n hx hb dX11_text_224 rfl (lv_at hl 0 rfl) ?_
      refine va_get (D := D) (ci := 11) (v := .int g5005) (C := RX11) (T := TX11) (N := 49) hx hb hg inGX11 hown hKN.1 hP 0 rfl rfl 19 (by decide) (hg _ kw_1227) (fun _ h9 => h9) rfl dX11_text_225 ?_
      refine lv_iconst (v := 0) hx hb dX11_text_228 (by decide) ?_
      refine va_iast hx hb hKN.1 hP hD hS 9 0 rfl rfl (vp_in_iff.mpr ⟨by omega, by omega⟩) dX11_text_229 (fun H locs hP hD hS => ?_)
      obtain ⟨f5109, ef5109, hP, hD⟩ : ∃ f5109 : Nat → Int32, f5109 = upd f5015 g5005.toNatClampNeg 0 ∧ va_P D vwCl (MW Y o a (upd (upd (upd (upd (upd (upd (upd (upd (upd I 3 g5001) 16 g5002) 17 g5003) 18 g5004) 19 g5005) 20 g5006) 21 g5007) 22 g5008) 24 g5009) J (vf_upd (vf_upd (vf_upd (vf_upd (vf_upd (vf_upd (vf_upd (vf_upd (vf_upd (vf_upd (vf_upd (vf_upd (vf_upd F 4 f5010) 5 f5011) 6 f5012) 7 f5013) 8 f5014) 9 f5109) 10 f5016) 11 f5017) 12 f5018) 13 f5019) 14 f5020) 15 f5021) 23 f5022) G) H ∧ va_D A (MW Y o a (upd (upd (upd (upd (upd (upd (upd (upd (upd I 3 g5001) 16 g5002) 17 g5003) 18 g5004) 19 g5005) 20 g5006) 21 g5007) 22 g5008) 24 g5009) J (vf_upd (vf_upd (vf_upd (vf_upd (vf_upd (vf_upd (vf_upd (vf_upd (vf_upd (vf_upd (vf_upd (vf_upd (vf_upd F 4 f5010) 5 f5011) 6 f5012) 7 f5013) 8 f5014) 9 f5109) 10 f5016) 11 f5017) 12 f5018) 13 f5019) 14 f5020) 15 f5021) 23 f5022) G) := ⟨_, rfl, hP, hD⟩
      have t5110 : TX f5010 f5109 f5016 f5017 f5018 f5019 := TX_fr (t := g5005.toNatClampNeg) hk0 hr_UN (fun k hk => by rw [ef5109]; exact up_ne hk) (fun _ _ => rfl) (fun _ _ => rfl) (fun _ _ => rfl) (fun _ _ => rfl)
      have t5111 : (f5109 g5005.toNatClampNeg).toInt = (0 : Int32).toInt := by rw [ef5109, up_eq rfl]
      have zi0 : (0 : Int32).toInt = 0 := by decide
      have zi2 : (2 : Int32).toInt = 2 := by decide
      refine W.widen (k := 0) (n := 0) (Nat.le_of_ble_eq_true rfl) (Nat.le_of_ble_eq_true rfl) ?_
      exact jn5030 (f5109) H locs ls ⟨hP, hD, hS, lv_sub hl [0, 1] rfl, by omega, t5110⟩
