set_option maxHeartbeats 4000000 in
set_option maxRecDepth 100000 in
theorem x_X10_count (l : Launch) (D : va_G) (Y : Nat → ClassId) (Z : Nat → Nat) (sz : Nat) (ws : va_W) (T : RT) (g : GN) (q : GQ)  (p0 : Nat) (p1 : Int32) (hT : TW Y Z T g q ws) (ht0 : T p0 = (1, 0, 0)) : Met l yX10_count (.code yX10_count cX10_count 2 (some .int) :: GW) ({ frames := 2, cells := 0, slots := 0, locals := 45 }) (va_Pc [.ref p0, .int p1] (CPC D Y Z ws sz)) (QG (S := Int32) (fun u => some (.int u)) (fun u => True) (fun u => CB D ws (va_A ws sz)) (va_A ws sz)) 0 0 (va_A ws sz) := by
  refine Met.ofW (cc := cX10_count) (maxL := 2) (ret := (some .int)) (by decide) rfl ?_
  intro p e s m args below meth c s₁ B hml hv
  obtain ⟨rfl, ⟨hsz, hP, hKN, hD0⟩, hSZ⟩ := hv
  have hx := B.exec
  have hb := B.bytes
  have hr := B.returns
  have hts := atoms_spec (ws := .code yX10_count cX10_count 2 (some .int) :: GW) B.pre
  have hg : ∀ w ∈ GW, w.before _ s = true := fun w h => hts w (List.mem_cons_of_mem _ h)
  have hown : s.vm.findClass RX10 = some m.cls := findClass_of_methodNamed B.named
  have hlocks := B.notSynchronized
  subst hsz
  have hD := hD0.self (sz := s.heap.size)
  generalize hAe : va_A ws s.heap.size = A at hD hSZ ⊢
  have hA : ∀ q : Nat, s.heap.size ≤ q → A q := fun q h => by rw [← hAe]; exact Or.inr h
  clear hAe hD0 hts B
  have hl := lv_entry ([.ref p0, .int p1]) (n := 2) (Nat.le_of_ble_eq_true rfl)
  rw [lg_entry_eq]
  generalize (lg_sl ([.ref p0, .int p1]) ++ List.replicate (2 - (lg_sl ([.ref p0, .int p1])).length) Slot.unset).toArray = ls at hl ⊢
  have hl : lv_has ls 2 [(0, .ref p0), (1, .int p1)] := hl
  refine w_start (A0 := A) hP (fun H locs hP hS => ?_)
  refine lv_iload_n hx hb dX10_count_0 rfl (lv_at hl 1 rfl) ?_
  rcases (show p1.toInt < 0 ∨ 7 < p1.toInt ∨ p1.toInt = 0 ∨ p1.toInt = 1 ∨ p1.toInt = 2 ∨ p1.toInt = 3 ∨ p1.toInt = 4 ∨ p1.toInt = 5 ∨ p1.toInt = 6 ∨ p1.toInt = 7 by omega) with c1 | c1 | c1 | c1 | c1 | c1 | c1 | c1 | c1 | c1
  · refine lv_tableOut (tgt := 103) hx hb dX10_count_1 (Or.inl c1) (by decide) ?_
    refine lv_iconst (v := (-1)) hx hb dX10_count_103 (by decide) ?_
    refine W.widen (k := 0) (n := 0) (Nat.le_of_ble_eq_true rfl) (Nat.le_of_ble_eq_true rfl) ?_
    have zim1 : ((-1) : Int32).toInt = -1 := by decide
    exact W.iret (v := (-1)) hx hb hr (fun t ht hW => ⟨⟨((-1)), rfl, trivial, CB.mk ht hP hD⟩, hS.F ht⟩) hS.2.2 dX10_count_104
  · refine lv_tableOut (tgt := 103) hx hb dX10_count_1 (Or.inr c1) (by decide) ?_
    refine lv_iconst (v := (-1)) hx hb dX10_count_103 (by decide) ?_
    refine W.widen (k := 0) (n := 0) (Nat.le_of_ble_eq_true rfl) (Nat.le_of_ble_eq_true rfl) ?_
    have zim1 : ((-1) : Int32).toInt = -1 := by decide
    exact W.iret (v := (-1)) hx hb hr (fun t ht hW => ⟨⟨((-1)), rfl, trivial, CB.mk ht hP hD⟩, hS.F ht⟩) hS.2.2 dX10_count_104
  · refine lv_tableIn (off := 47) (tgt := 48) hx hb dX10_count_1 (by rw [c1]; decide) (by rw [c1]; decide) (by rw [c1]; rfl) (by decide) ?_
    refine lv_aload_n hx hb dX10_count_48 rfl (lv_at hl 0 rfl) ?_
    obtain ⟨p43, _, hk44, a2, a3, a4, a5, a6, x7, x8, x9, a10, a11, a12, a13, a14, a15, a16, a17, a18, x19, a20, a21, rfl, h22, h23, h24, h25, h26, h27, h28, h29, h30, h31, h32, h33, h34, h35, h36, h37, h38, h39, h40, h41, h42⟩ := op1 hT ht0
    refine va_get (D := D) (ci := 10) (v := .ref a2) (C := RX10) (T := TX10) (N := 20) hx hb hg inGX10 hown hKN.1 hP p43 hk44 rfl 0 (by decide) (hg _ kw_349) (fun _ h9 => h9) rfl dX10_count_49 ?_
    obtain ⟨p79, _, hk80, x45, a46, x47, a48, x49, a50, a51, x52, a53, a54, x55, a56, x57, rfl, h58, h59, h60, h61, h62, h63, h64, h65, h66, h67, h68, h69, h70, h71, h72, h73, h74, h75, h76, h77, h78⟩ := op2 hT h22
    refine va_getN (D := D) (ci := 6) (v := .int x45) (C := RX6) (T := TX6) (N := 13) hx hb hg inGX6 hown hKN.1 hP p79 hk80 rfl 0 (by decide) (va_Nw.use rfl (hKN.2.1 _ kn_41 rfl)) (fun _ h9 => h9) rfl dX10_count_52 ?_
    refine W.widen (k := 0) (n := 0) (Nat.le_of_ble_eq_true rfl) (Nat.le_of_ble_eq_true rfl) ?_
    exact W.iret (v := x45) hx hb hr (fun t ht hW => ⟨⟨x45, rfl, trivial, CB.mk ht hP hD⟩, hS.F ht⟩) hS.2.2 dX10_count_55
  · refine lv_tableIn (off := 55) (tgt := 56) hx hb dX10_count_1 (by rw [c1]; decide) (by rw [c1]; decide) (by rw [c1]; rfl) (by decide) ?_
    refine lv_aload_n hx hb dX10_count_56 rfl (lv_at hl 0 rfl) ?_
    obtain ⟨p122, _, hk123, a81, a82, a83, a84, a85, x86, x87, x88, a89, a90, a91, a92, a93, a94, a95, a96, a97, x98, a99, a100, rfl, h101, h102, h103, h104, h105, h106, h107, h108, h109, h110, h111, h112, h113, h114, h115, h116, h117, h118, h119, h120, h121⟩ := op1 hT ht0
    refine va_get (D := D) (ci := 10) (v := .ref a81) (C := RX10) (T := TX10) (N := 20) hx hb hg inGX10 hown hKN.1 hP p122 hk123 rfl 0 (by decide) (hg _ kw_349) (fun _ h9 => h9) rfl dX10_count_57 ?_
    obtain ⟨p158, _, hk159, x124, a125, x126, a127, x128, a129, a130, x131, a132, a133, x134, a135, x136, rfl, h137, h138, h139, h140, h141, h142, h143, h144, h145, h146, h147, h148, h149, h150, h151, h152, h153, h154, h155, h156, h157⟩ := op2 hT h101
    refine va_getN (D := D) (ci := 6) (v := .int x126) (C := RX6) (T := TX6) (N := 13) hx hb hg inGX6 hown hKN.1 hP p158 hk159 rfl 2 (by decide) (va_Nw.use rfl (hKN.2.1 _ kn_44 rfl)) (fun _ h9 => h9) rfl dX10_count_60 ?_
    refine W.widen (k := 0) (n := 0) (Nat.le_of_ble_eq_true rfl) (Nat.le_of_ble_eq_true rfl) ?_
    exact W.iret (v := x126) hx hb hr (fun t ht hW => ⟨⟨x126, rfl, trivial, CB.mk ht hP hD⟩, hS.F ht⟩) hS.2.2 dX10_count_63
  · refine lv_tableIn (off := 63) (tgt := 64) hx hb dX10_count_1 (by rw [c1]; decide) (by rw [c1]; decide) (by rw [c1]; rfl) (by decide) ?_
    refine lv_aload_n hx hb dX10_count_64 rfl (lv_at hl 0 rfl) ?_
    obtain ⟨p201, _, hk202, a160, a161, a162, a163, a164, x165, x166, x167, a168, a169, a170, a171, a172, a173, a174, a175, a176, x177, a178, a179, rfl, h180, h181, h182, h183, h184, h185, h186, h187, h188, h189, h190, h191, h192, h193, h194, h195, h196, h197, h198, h199, h200⟩ := op1 hT ht0
    refine va_get (D := D) (ci := 10) (v := .int x165) (C := RX10) (T := TX10) (N := 20) hx hb hg inGX10 hown hKN.1 hP p201 hk202 rfl 5 (by decide) (hg _ kw_354) (fun _ h9 => h9) rfl dX10_count_65 ?_
    refine W.widen (k := 0) (n := 0) (Nat.le_of_ble_eq_true rfl) (Nat.le_of_ble_eq_true rfl) ?_
    exact W.iret (v := x165) hx hb hr (fun t ht hW => ⟨⟨x165, rfl, trivial, CB.mk ht hP hD⟩, hS.F ht⟩) hS.2.2 dX10_count_68
  · refine lv_tableIn (off := 68) (tgt := 69) hx hb dX10_count_1 (by rw [c1]; decide) (by rw [c1]; decide) (by rw [c1]; rfl) (by decide) ?_
    refine lv_aload_n hx hb dX10_count_69 rfl (lv_at hl 0 rfl) ?_
    obtain ⟨p244, _, hk245, a203, a204, a205, a206, a207, x208, x209, x210, a211, a212, a213, a214, a215, a216, a217, a218, a219, x220, a221, a222, rfl, h223, h224, h225, h226, h227, h228, h229, h230, h231, h232, h233, h234, h235, h236, h237, h238, h239, h240, h241, h242, h243⟩ := op1 hT ht0
    refine va_get (D := D) (ci := 10) (v := .int x209) (C := RX10) (T := TX10) (N := 20) hx hb hg inGX10 hown hKN.1 hP p244 hk245 rfl 6 (by decide) (hg _ kw_355) (fun _ h9 => h9) rfl dX10_count_70 ?_
    refine W.widen (k := 0) (n := 0) (Nat.le_of_ble_eq_true rfl) (Nat.le_of_ble_eq_true rfl) ?_
    exact W.iret (v := x209) hx hb hr (fun t ht hW => ⟨⟨x209, rfl, trivial, CB.mk ht hP hD⟩, hS.F ht⟩) hS.2.2 dX10_count_73
  · refine lv_tableIn (off := 73) (tgt := 74) hx hb dX10_count_1 (by rw [c1]; decide) (by rw [c1]; decide) (by rw [c1]; rfl) (by decide) ?_
    refine lv_aload_n hx hb dX10_count_74 rfl (lv_at hl 0 rfl) ?_
    obtain ⟨p287, _, hk288, a246, a247, a248, a249, a250, x251, x252, x253, a254, a255, a256, a257, a258, a259, a260, a261, a262, x263, a264, a265, rfl, h266, h267, h268, h269, h270, h271, h272, h273, h274, h275, h276, h277, h278, h279, h280, h281, h282, h283, h284, h285, h286⟩ := op1 hT ht0
    refine va_get (D := D) (ci := 10) (v := .int x253) (C := RX10) (T := TX10) (N := 20) hx hb hg inGX10 hown hKN.1 hP p287 hk288 rfl 7 (by decide) (hg _ kw_356) (fun _ h9 => h9) rfl dX10_count_75 ?_
    refine W.widen (k := 0) (n := 0) (Nat.le_of_ble_eq_true rfl) (Nat.le_of_ble_eq_true rfl) ?_
    exact W.iret (v := x253) hx hb hr (fun t ht hW => ⟨⟨x253, rfl, trivial, CB.mk ht hP hD⟩, hS.F ht⟩) hS.2.2 dX10_count_78
  · refine lv_tableIn (off := 78) (tgt := 79) hx hb dX10_count_1 (by rw [c1]; decide) (by rw [c1]; decide) (by rw [c1]; rfl) (by decide) ?_
    refine lv_aload_n hx hb dX10_count_79 rfl (lv_at hl 0 rfl) ?_
    obtain ⟨p330, _, hk331, a289, a290, a291, a292, a293, x294, x295, x296, a297, a298, a299, a300, a301, a302, a303, a304, a305, x306, a307, a308, rfl, h309, h310, h311, h312, h313, h314, h315, h316, h317, h318, h319, h320, h321, h322, h323, h324, h325, h326, h327, h328, h329⟩ := op1 hT ht0
    refine va_get (D := D) (ci := 10) (v := .ref a289) (C := RX10) (T := TX10) (N := 20) hx hb hg inGX10 hown hKN.1 hP p330 hk331 rfl 0 (by decide) (hg _ kw_349) (fun _ h9 => h9) rfl dX10_count_80 ?_
    obtain ⟨p366, _, hk367, x332, a333, x334, a335, x336, a337, a338, x339, a340, a341, x342, a343, x344, rfl, h345, h346, h347, h348, h349, h350, h351, h352, h353, h354, h355, h356, h357, h358, h359, h360, h361, h362, h363, h364, h365⟩ := op2 hT h309
    refine va_getN (D := D) (ci := 6) (v := .int x336) (C := RX6) (T := TX6) (N := 13) hx hb hg inGX6 hown hKN.1 hP p366 hk367 rfl 4 (by decide) (va_Nw.use rfl (hKN.2.1 _ kn_48 rfl)) (fun _ h9 => h9) rfl dX10_count_83 ?_
    refine W.widen (k := 0) (n := 0) (Nat.le_of_ble_eq_true rfl) (Nat.le_of_ble_eq_true rfl) ?_
    exact W.iret (v := x336) hx hb hr (fun t ht hW => ⟨⟨x336, rfl, trivial, CB.mk ht hP hD⟩, hS.F ht⟩) hS.2.2 dX10_count_86
  · refine lv_tableIn (off := 86) (tgt := 87) hx hb dX10_count_1 (by rw [c1]; decide) (by rw [c1]; decide) (by rw [c1]; rfl) (by decide) ?_
    refine lv_aload_n hx hb dX10_count_87 rfl (lv_at hl 0 rfl) ?_
    obtain ⟨p409, _, hk410, a368, a369, a370, a371, a372, x373, x374, x375, a376, a377, a378, a379, a380, a381, a382, a383, a384, x385, a386, a387, rfl, h388, h389, h390, h391, h392, h393, h394, h395, h396, h397, h398, h399, h400, h401, h402, h403, h404, h405, h406, h407, h408⟩ := op1 hT ht0
    refine va_get (D := D) (ci := 10) (v := .ref a368) (C := RX10) (T := TX10) (N := 20) hx hb hg inGX10 hown hKN.1 hP p409 hk410 rfl 0 (by decide) (hg _ kw_349) (fun _ h9 => h9) rfl dX10_count_88 ?_
    obtain ⟨p445, _, hk446, x411, a412, x413, a414, x415, a416, a417, x418, a419, a420, x421, a422, x423, rfl, h424, h425, h426, h427, h428, h429, h430, h431, h432, h433, h434, h435, h436, h437, h438, h439, h440, h441, h442, h443, h444⟩ := op2 hT h388
    refine cga (rn_NV (As := []) (rest := []) (b := a368) (x_X6_numbers l D Y Z H.size ws T g q 0 a368 hT h388) ⟨hx, hb, hml, hown, hg⟩ hKN lk_X10_426 ⟨CPC.blind, va_recv hKN.1 hP (ci := 6) (q0 := p445) rfl hk446, CPC.at hP hKN hD hSZ hS hA⟩ ⟨⟨rfl, rfl⟩, ⟨Nat.le_of_ble_eq_true rfl, Nat.le_of_ble_eq_true rfl⟩, ⟨(Nat.le_of_ble_eq_true rfl), (Nat.le_of_ble_eq_true rfl)⟩⟩ hl.1 rfl (Nat.le_of_ble_eq_true rfl) dX10_count_91) hP hD hS hA (fun u447 H locs hw448 hP hD hS => ?_)
    refine W.eq (g2 := F0 m 94 ls [.int u447]) rfl ?_
    refine W.widen (k := 0) (n := 0) (Nat.le_of_ble_eq_true rfl) (Nat.le_of_ble_eq_true rfl) ?_
    exact W.iret (v := u447) hx hb hr (fun t ht hW => ⟨⟨u447, rfl, trivial, CB.mk ht hP hD⟩, hS.F ht⟩) hS.2.2 dX10_count_94
  · refine lv_tableIn (off := 94) (tgt := 95) hx hb dX10_count_1 (by rw [c1]; decide) (by rw [c1]; decide) (by rw [c1]; rfl) (by decide) ?_
    refine lv_aload_n hx hb dX10_count_95 rfl (lv_at hl 0 rfl) ?_
    obtain ⟨p491, _, hk492, a450, a451, a452, a453, a454, x455, x456, x457, a458, a459, a460, a461, a462, a463, a464, a465, a466, x467, a468, a469, rfl, h470, h471, h472, h473, h474, h475, h476, h477, h478, h479, h480, h481, h482, h483, h484, h485, h486, h487, h488, h489, h490⟩ := op1 hT ht0
    refine va_get (D := D) (ci := 10) (v := .ref a450) (C := RX10) (T := TX10) (N := 20) hx hb hg inGX10 hown hKN.1 hP p491 hk492 rfl 0 (by decide) (hg _ kw_349) (fun _ h9 => h9) rfl dX10_count_96 ?_
    obtain ⟨p527, _, hk528, x493, a494, x495, a496, x497, a498, a499, x500, a501, a502, x503, a504, x505, rfl, h506, h507, h508, h509, h510, h511, h512, h513, h514, h515, h516, h517, h518, h519, h520, h521, h522, h523, h524, h525, h526⟩ := op2 hT h470
    refine va_getN (D := D) (ci := 6) (v := .int x505) (C := RX6) (T := TX6) (N := 13) hx hb hg inGX6 hown hKN.1 hP p527 hk528 rfl 12 (by decide) (va_Nw.use rfl (hKN.2.1 _ kn_68 rfl)) (fun _ h9 => h9) rfl dX10_count_99 ?_
    refine W.widen (k := 0) (n := 0) (Nat.le_of_ble_eq_true rfl) (Nat.le_of_ble_eq_true rfl) ?_
    exact W.iret (v := x505) hx hb hr (fun t ht hW => ⟨⟨x505, rfl, trivial, CB.mk ht hP hD⟩, hS.F ht⟩) hS.2.2 dX10_count_102
set_option maxHeartbeats 4000000 in
set_option maxRecDepth 100000 in
theorem x_X10_image (l : Launch) (D : va_G) (Y : Nat → ClassId) (Z : Nat → Nat) (sz : Nat) (ws : va_W) (T : RT) (g : GN) (q : GQ)  (p0 : Nat) (p1 : Int32) (hT : TW Y Z T g q ws) (ht0 : T p0 = (1, 0, 0)) : Met l yX10_image (.code yX10_image cX10_image 3 (some .int) :: GW) ({ frames := 4, cells := 32, slots := 7753, locals := 85 }) (va_Pc [.ref p0, .int p1] (CPC D Y Z ws sz)) (QG (S := Int32 × va_W × RT × GN × GQ) (fun u => some (.int u.1)) (fun u => TLe T u.2.2.1 ∧ TW Y Z u.2.2.1 u.2.2.2.1 u.2.2.2.2 u.2.1 ∧ KF 1 T ws u.2.1 ∧ KF 6 T ws u.2.1) (fun u => CB D u.2.1 (va_A ws sz)) (va_A ws sz)) 32 7753 (va_A ws sz) := by
  refine Met.ofW (cc := cX10_image) (maxL := 3) (ret := (some .int)) (by decide) rfl ?_
  intro p e s m args below meth c s₁ B hml hv
  obtain ⟨rfl, ⟨hsz, hP, hKN, hD0⟩, hSZ⟩ := hv
  have hx := B.exec
  have hb := B.bytes
  have hr := B.returns
  have hts := atoms_spec (ws := .code yX10_image cX10_image 3 (some .int) :: GW) B.pre
  have hg : ∀ w ∈ GW, w.before _ s = true := fun w h => hts w (List.mem_cons_of_mem _ h)
  have hown : s.vm.findClass RX10 = some m.cls := findClass_of_methodNamed B.named
  have hlocks := B.notSynchronized
  subst hsz
  have hD := hD0.self (sz := s.heap.size)
  generalize hAe : va_A ws s.heap.size = A at hD hSZ ⊢
  have hA : ∀ q : Nat, s.heap.size ≤ q → A q := fun q h => by rw [← hAe]; exact Or.inr h
  clear hAe hD0 hts B
  have hl := lv_entry ([.ref p0, .int p1]) (n := 3) (Nat.le_of_ble_eq_true rfl)
  rw [lg_entry_eq]
  generalize (lg_sl ([.ref p0, .int p1]) ++ List.replicate (3 - (lg_sl ([.ref p0, .int p1])).length) Slot.unset).toArray = ls at hl ⊢
  have hl : lv_has ls 3 [(0, .ref p0), (1, .int p1)] := hl
  refine w_start (A0 := A) hP (fun H locs hP hS => ?_)
  refine lv_iload_n hx hb dX10_image_0 rfl (lv_at hl 1 rfl) ?_
  refine lv_iconst (v := 0) hx hb dX10_image_1 (by decide) ?_
  refine lv_iconst (v := 3) hx hb dX10_image_2 (by decide) ?_
  have zi0 : (0 : Int32).toInt = 0 := by decide
  have zi3 : (3 : Int32).toInt = 3 := by decide
  refine cg0 (rn_S (As := [.int p1, .int 0, .int 3]) (rest := []) (x_X10_isWithin l D Y Z H.size p1 0 3) ⟨hx, hb, hml, hown, hg⟩ lk_X10_100 ⟨CP.blind, CP.at nilP hKN (nilD (A := fun _ => True))⟩ ⟨⟨rfl, rfl⟩, ⟨Nat.le_of_ble_eq_true rfl, Nat.le_of_ble_eq_true rfl⟩, ⟨(Nat.le_of_ble_eq_true rfl), (Nat.le_of_ble_eq_true rfl)⟩⟩ hl.1 rfl (Nat.le_of_ble_eq_true rfl) dX10_image_3) hP hS hA (fun u1 H locs hw2 hP hS => ?_)
  obtain ⟨hw4, hw5⟩ : (((0 : Int32).toInt ≤ p1.toInt ∧ p1.toInt ≤ (3 : Int32).toInt ∧ u1.toInt = 1) ∨ (¬ ((0 : Int32).toInt ≤ p1.toInt ∧ p1.toInt ≤ (3 : Int32).toInt) ∧ u1.toInt = 0)) ∧ (0 ≤ u1.toInt ∧ u1.toInt ≤ 1) := hw2
  refine W.eq (g2 := F0 m 6 ls [.int u1]) rfl ?_
  rcases (show u1.toInt = 1 ∨ u1.toInt = 0 by omega) with c6 | c6
  · obtain rfl : u1 = 1 := i_is c6 (by decide)
    have zi1 : (1 : Int32).toInt = 1 := by decide
    refine W.eq (g2 := F0 m 6 ls [.int 1]) rfl ?_
    refine lv_if_ne (tgt := 11) hx hb dX10_image_6 (by decide) (fun c7 => ?_) (fun c7 => ?_)
    rotate_left
    · exact absurd c7 (by decide)
    refine lv_aload_n hx hb dX10_image_11 rfl (lv_at hl 0 rfl) ?_
    obtain ⟨p49, _, hk50, a8, a9, a10, a11, a12, x13, x14, x15, a16, a17, a18, a19, a20, a21, a22, a23, a24, x25, a26, a27, rfl, h28, h29, h30, h31, h32, h33, h34, h35, h36, h37, h38, h39, h40, h41, h42, h43, h44, h45, h46, h47, h48⟩ := op1 hT ht0
    refine va_get (D := D) (ci := 10) (v := .ref a9) (C := RX10) (T := TX10) (N := 20) hx hb hg inGX10 hown hKN.1 hP p49 hk50 rfl 1 (by decide) (hg _ kw_350) (fun _ h9 => h9) rfl dX10_image_12 ?_
    refine lv_iload_n hx hb dX10_image_15 rfl (lv_at hl 1 rfl) ?_
    refine tr_ld19 hx hb hKN hP hT h30 (vp_in_iff.mpr ⟨by omega, by omega⟩) dX10_image_16 (fun r51 hr51 qr51 => ?_)
    refine W.eq (g2 := F0 m 17 ls [va_rf r51]) rfl ?_
    rcases r51 with _ | b52
    · skip
      refine W.eq (g2 := F0 m 17 ls [.null]) rfl ?_
      refine lv_astore_nN (lv' := [(2, .null), (0, .ref p0), (1, .int p1)]) hx hb dX10_image_17 rfl hl (by decide) rfl (fun ls hl => ?_)
      refine lv_aload_nN hx hb dX10_image_18 rfl (lv_at hl 0 rfl) ?_
      refine lv_ifnonnullN hx hb dX10_image_19 ?_
      refine va_new (ci := 6) (fs := (.int 0 :: .null :: .int 0 :: .null :: .int 0 :: .null :: .null :: .int 0 :: .null :: .null :: .int 0 :: .null :: .int 0 :: [])) (C := RX6) (T := TX6) (N := 13) hx hb hg inGX6 tyX6 tyX6_ok hown (hg _ kw_29) (hg _ kw_30) (hg _ kw_2) hKN.1 hP hD hS hA rfl (fun j hj => by rcases (show j = 0 ∨ j = 1 ∨ j = 2 ∨ j = 3 ∨ j = 4 ∨ j = 5 ∨ j = 6 ∨ j = 7 ∨ j = 8 ∨ j = 9 ∨ j = 10 ∨ j = 11 ∨ j = 12 by omega) with rfl | rfl | rfl | rfl | rfl | rfl | rfl | rfl | rfl | rfl | rfl | rfl | rfl <;> rfl) (Nat.le_of_ble_eq_true rfl) (Nat.le_of_ble_eq_true rfl) dX10_image_22 (fun b53 H hP hD hS => ?_)
      refine W.widen (k := 1) (n := 13) (Nat.le_of_ble_eq_true rfl) (Nat.le_of_ble_eq_true rfl) ?_
      refine lv_dup hx hb dX10_image_25 rfl ?_
      have hP54 : va_P D vwCl [(b53, .inr (6, (.int 0 :: .null :: .int 0 :: .null :: .int 0 :: .null :: .null :: .int 0 :: .null :: .null :: .int 0 :: .null :: .int 0 :: [])))] H := va_P.last hP
      have hD55 : va_D A [(b53, .inr (6, (.int 0 :: .null :: .int 0 :: .null :: .int 0 :: .null :: .null :: .int 0 :: .null :: .null :: .int 0 :: .null :: .int 0 :: [])))] := va_D.last hD
      refine cgn (rn_NI (As := []) (rest := [.ref b53]) (b := b53) (c_X6 l D Y Z H.size b53  ) ⟨hx, hb, hml, hown, hg⟩ hKN lk_X10_9 ⟨CP.blind, CP.at hP54 hKN hD55⟩ ⟨⟨rfl, rfl⟩, ⟨Nat.le_of_ble_eq_true rfl, Nat.le_of_ble_eq_true rfl⟩, ⟨(Nat.le_of_ble_eq_true rfl), (Nat.le_of_ble_eq_true rfl)⟩⟩ hl.1 rfl (Nat.le_of_ble_eq_true rfl) dX10_image_26) hP hD hS hA (fun u56 H locs hw57 hP hD hS => ?_)
      refine W.widen (k := 8) (n := 505) (Nat.le_of_ble_eq_true rfl) (Nat.le_of_ble_eq_true rfl) ?_
      refine W.eq (g2 := F0 m 29 ls [.ref b53]) rfl ?_
      obtain ⟨w59, T58, g62, q63, hP, hD, hT, le60, ht61, ex64⟩ := nw_X6 (p1.toNatClampNeg + 1) hT hP hD
      have ke65 : KF 1 T ws w59 := KF.tr KF.rf (KF.ex ex64.1)
      have ke66 : KF 6 T ws w59 := KF.tr KF.rf (KF.ex ex64.1)
      have hk67 := ex64.1 _ _ hk50
      have hg68 := (congrFun (ex64.2.2 p0 (by rw [ht0]; exact Nat.succ_ne_zero _)) 0).trans h29
      have hg69 := (congrFun (ex64.2.2 p0 (by rw [ht0]; exact Nat.succ_ne_zero _)) 1).trans h31
      have ge70 : GE T g g62 := GE.tr GE.rf (GE.ex ex64.2.1)
      refine lv_astore_n (lv' := [(2, .ref b53), (0, .ref p0), (1, .int p1)]) hx hb dX10_image_29 rfl hl (by decide) rfl (fun ls hl => ?_)
      refine lv_aload_n hx hb dX10_image_30 rfl (lv_at hl 1 rfl) ?_
      refine va_get (D := D) (ci := 10) (v := .ref a9) (C := RX10) (T := TX10) (N := 20) hx hb hg inGX10 hown hKN.1 hP p49 hk67 rfl 1 (by decide) (hg _ kw_350) (fun _ h9 => h9) rfl dX10_image_31 ?_
      refine lv_iload_n hx hb dX10_image_34 rfl (lv_at hl 2 rfl) ?_
      refine lv_aload_n hx hb dX10_image_35 rfl (lv_at hl 0 rfl) ?_
      refine tr_st19 hx hb hKN hP hD hS hT (le60.up h30) ht61 (vp_in_iff.mpr ⟨by omega, by omega⟩) dX10_image_36 (fun w71 H locs hP hD hS hT kp72 => ?_)
      have ke73 : KF 1 T ws w71 := KF.tr ke65 (KF.le (by decide) le60 (KF.kp kp72 (le60.up h30) (by decide)))
      have ke74 : KF 6 T ws w71 := KF.tr ke66 (KF.le (by decide) le60 (KF.kp kp72 (le60.up h30) (by decide)))
      have hk75 := kp72 _ _ hk67 (rne (le60.up ht0) (le60.up h30) (by decide))
      obtain ⟨q76, eq76, hT⟩ : ∃ qz, qz = qset q63 a9 p1.toNatClampNeg (some b53) ∧ TW Y Z T58 g62 qz w71 := ⟨_, rfl, hT⟩
      have hg77 : q76 p0 0 = some a8 := by rw [eq76, qset_ne (rne (le60.up ht0) (le60.up h30) (by decide))]; exact hg68
      have hg78 : q76 p0 1 = some a9 := by rw [eq76, qset_ne (rne (le60.up ht0) (le60.up h30) (by decide))]; exact hg69
      refine lv_aload_n hx hb dX10_image_37 rfl (lv_at hl 0 rfl) ?_
      refine lv_aload_n hx hb dX10_image_38 rfl (lv_at hl 1 rfl) ?_
      refine va_get (D := D) (ci := 10) (v := .ref a8) (C := RX10) (T := TX10) (N := 20) hx hb hg inGX10 hown hKN.1 hP p49 hk75 rfl 0 (by decide) (hg _ kw_349) (fun _ h9 => h9) rfl dX10_image_39 ?_
      obtain ⟨p113, _, hk114, x79, a80, x81, a82, x83, a84, a85, x86, a87, a88, x89, a90, x91, rfl, h92, h93, h94, h95, h96, h97, h98, h99, h100, h101, h102, h103, h104, h105, h106, h107, h108, h109, h110, h111, h112⟩ := op2 hT ht61
      refine cga (rn_NV (As := [.ref a8]) (rest := []) (b := b53) (x_X6_become l D Y Z H.size w71 T58 g62 q76 (p1.toNatClampNeg + 1) 0 b53 a8 hT ht61 (le60.up h28)) ⟨hx, hb, hml, hown, hg⟩ hKN lk_X10_429 ⟨CPC.blind, va_recv hKN.1 hP (ci := 6) (q0 := p113) rfl hk114, CPC.at hP hKN hD hSZ hS hA⟩ ⟨⟨rfl, rfl⟩, ⟨Nat.le_of_ble_eq_true rfl, Nat.le_of_ble_eq_true rfl⟩, ⟨(Nat.le_of_ble_eq_true rfl), (Nat.le_of_ble_eq_true rfl)⟩⟩ hl.1 rfl (Nat.le_of_ble_eq_true rfl) dX10_image_42) hP hD hS hA (fun u115 H locs hw116 hP hD hS => ?_)
      refine W.widen (k := 32) (n := 7753) (Nat.le_of_ble_eq_true rfl) (Nat.le_of_ble_eq_true rfl) ?_
      obtain ⟨w117, T118, g119, q120⟩ := u115
      obtain ⟨le121, hT, ke122, ke123⟩ : TLe T58 T118 ∧ TW Y Z T118 g119 q120 w117 ∧ KF 1 T58 w71 w117 ∧ KF 6 T58 w71 w117 := hw116
      have hk124 := ke122 _ _ hk75 (show (T58 p0).1 = 1 by rw [(le60.up ht0)])
      have ke125 : KF 1 T ws w117 := KF.tr ke73 (KF.le (by decide) le60 ke122)
      have ke126 : KF 6 T ws w117 := KF.tr ke74 (KF.le (by decide) le60 ke123)
      refine W.eq (g2 := F0 m 45 ls []) rfl ?_
      refine lv_aload_n hx hb dX10_image_45 rfl (lv_at hl 1 rfl) ?_
      obtain ⟨p168, _, hk169, a127, a128, a129, a130, a131, x132, x133, x134, a135, a136, a137, a138, a139, a140, a141, a142, a143, x144, a145, a146, rfl, h147, h148, h149, h150, h151, h152, h153, h154, h155, h156, h157, h158, h159, h160, h161, h162, h163, h164, h165, h166, h167⟩ := op1 hT (le121.up (le60.up ht0))
      refine va_get (D := D) (ci := 10) (v := .ref a127) (C := RX10) (T := TX10) (N := 20) hx hb hg inGX10 hown hKN.1 hP p168 hk169 rfl 0 (by decide) (hg _ kw_349) (fun _ h9 => h9) rfl dX10_image_46 ?_
      obtain ⟨p204, _, hk205, x170, a171, x172, a173, x174, a175, a176, x177, a178, a179, x180, a181, x182, rfl, h183, h184, h185, h186, h187, h188, h189, h190, h191, h192, h193, h194, h195, h196, h197, h198, h199, h200, h201, h202, h203⟩ := op2 hT h147
      refine va_getN (D := D) (ci := 6) (v := .int x170) (C := RX6) (T := TX6) (N := 13) hx hb hg inGX6 hown hKN.1 hP p204 hk205 rfl 0 (by decide) (va_Nw.use rfl (hKN.2.1 _ kn_41 rfl)) (fun _ h9 => h9) rfl dX10_image_49 ?_
      refine W.widen (k := 32) (n := 7753) (Nat.le_of_ble_eq_true rfl) (Nat.le_of_ble_eq_true rfl) ?_
      exact W.iret (v := x170) hx hb hr (fun t ht hW => ⟨⟨(x170, w117, T118, g119, q120), rfl, ⟨(le60.tr le121), hT, ke125, ke126⟩, CB.mk ht hP hD⟩, hS.F ht⟩) hS.2.2 dX10_image_52
    · skip
      have ht206 := hr51 b52 rfl
      refine W.eq (g2 := F0 m 17 ls [.ref b52]) rfl ?_
      refine lv_astore_n (lv' := [(2, .ref b52), (0, .ref p0), (1, .int p1)]) hx hb dX10_image_17 rfl hl (by decide) rfl (fun ls hl => ?_)
      refine lv_aload_n hx hb dX10_image_18 rfl (lv_at hl 0 rfl) ?_
      refine lv_ifnonnull (tgt := 37) hx hb dX10_image_19 (by decide) ?_
      refine lv_aload_n hx hb dX10_image_37 rfl (lv_at hl 0 rfl) ?_
      refine lv_aload_n hx hb dX10_image_38 rfl (lv_at hl 1 rfl) ?_
      refine va_get (D := D) (ci := 10) (v := .ref a8) (C := RX10) (T := TX10) (N := 20) hx hb hg inGX10 hown hKN.1 hP p49 hk50 rfl 0 (by decide) (hg _ kw_349) (fun _ h9 => h9) rfl dX10_image_39 ?_
      obtain ⟨p241, _, hk242, x207, a208, x209, a210, x211, a212, a213, x214, a215, a216, x217, a218, x219, rfl, h220, h221, h222, h223, h224, h225, h226, h227, h228, h229, h230, h231, h232, h233, h234, h235, h236, h237, h238, h239, h240⟩ := op2 hT ht206
      refine cga (rn_NV (As := [.ref a8]) (rest := []) (b := b52) (x_X6_become l D Y Z H.size ws T g q (p1.toNatClampNeg + 1) 0 b52 a8 hT ht206 h28) ⟨hx, hb, hml, hown, hg⟩ hKN lk_X10_429 ⟨CPC.blind, va_recv hKN.1 hP (ci := 6) (q0 := p241) rfl hk242, CPC.at hP hKN hD hSZ hS hA⟩ ⟨⟨rfl, rfl⟩, ⟨Nat.le_of_ble_eq_true rfl, Nat.le_of_ble_eq_true rfl⟩, ⟨(Nat.le_of_ble_eq_true rfl), (Nat.le_of_ble_eq_true rfl)⟩⟩ hl.1 rfl (Nat.le_of_ble_eq_true rfl) dX10_image_42) hP hD hS hA (fun u243 H locs hw244 hP hD hS => ?_)
      refine W.widen (k := 24) (n := 7248) (Nat.le_of_ble_eq_true rfl) (Nat.le_of_ble_eq_true rfl) ?_
      obtain ⟨w245, T246, g247, q248⟩ := u243
      obtain ⟨le249, hT, ke250, ke251⟩ : TLe T T246 ∧ TW Y Z T246 g247 q248 w245 ∧ KF 1 T ws w245 ∧ KF 6 T ws w245 := hw244
      have hk252 := ke250 _ _ hk50 (show (T p0).1 = 1 by rw [ht0])
      have ke253 : KF 1 T ws w245 := KF.tr KF.rf ke250
      have ke254 : KF 6 T ws w245 := KF.tr KF.rf ke251
      refine W.eq (g2 := F0 m 45 ls []) rfl ?_
      refine lv_aload_n hx hb dX10_image_45 rfl (lv_at hl 1 rfl) ?_
      obtain ⟨p296, _, hk297, a255, a256, a257, a258, a259, x260, x261, x262, a263, a264, a265, a266, a267, a268, a269, a270, a271, x272, a273, a274, rfl, h275, h276, h277, h278, h279, h280, h281, h282, h283, h284, h285, h286, h287, h288, h289, h290, h291, h292, h293, h294, h295⟩ := op1 hT (le249.up ht0)
      refine va_get (D := D) (ci := 10) (v := .ref a255) (C := RX10) (T := TX10) (N := 20) hx hb hg inGX10 hown hKN.1 hP p296 hk297 rfl 0 (by decide) (hg _ kw_349) (fun _ h9 => h9) rfl dX10_image_46 ?_
      obtain ⟨p332, _, hk333, x298, a299, x300, a301, x302, a303, a304, x305, a306, a307, x308, a309, x310, rfl, h311, h312, h313, h314, h315, h316, h317, h318, h319, h320, h321, h322, h323, h324, h325, h326, h327, h328, h329, h330, h331⟩ := op2 hT h275
      refine va_getN (D := D) (ci := 6) (v := .int x298) (C := RX6) (T := TX6) (N := 13) hx hb hg inGX6 hown hKN.1 hP p332 hk333 rfl 0 (by decide) (va_Nw.use rfl (hKN.2.1 _ kn_41 rfl)) (fun _ h9 => h9) rfl dX10_image_49 ?_
      refine W.widen (k := 32) (n := 7753) (Nat.le_of_ble_eq_true rfl) (Nat.le_of_ble_eq_true rfl) ?_
      exact W.iret (v := x298) hx hb hr (fun t ht hW => ⟨⟨(x298, w245, T246, g247, q248), rfl, ⟨le249, hT, ke253, ke254⟩, CB.mk ht hP hD⟩, hS.F ht⟩) hS.2.2 dX10_image_52
  · obtain rfl : u1 = 0 := i_is c6 (by decide)
    refine W.eq (g2 := F0 m 6 ls [.int 0]) rfl ?_
    refine lv_if_ne (tgt := 11) hx hb dX10_image_6 (by decide) (fun c334 => ?_) (fun c334 => ?_)
    · exact absurd c334 (by decide)
    refine lv_iconst (v := (-1)) hx hb dX10_image_9 (by decide) ?_
    refine W.widen (k := 32) (n := 7753) (Nat.le_of_ble_eq_true rfl) (Nat.le_of_ble_eq_true rfl) ?_
    have zim1 : ((-1) : Int32).toInt = -1 := by decide
    exact W.iret (v := (-1)) hx hb hr (fun t ht hW => ⟨⟨(((-1)), ws, T, g, q), rfl, ⟨TLe.rf, hT, KF.rf, KF.rf⟩, CB.mk ht hP hD⟩, hS.F ht⟩) hS.2.2 dX10_image_10
set_option maxHeartbeats 4000000 in
set_option maxRecDepth 100000 in
theorem x_X10_back (l : Launch) (D : va_G) (Y : Nat → ClassId) (Z : Nat → Nat) (sz : Nat) (ws : va_W) (T : RT) (g : GN) (q : GQ)  (p0 : Nat) (p1 : Int32) (hT : TW Y Z T g q ws) (ht0 : T p0 = (1, 0, 0)) : Met l yX10_back (.code yX10_back cX10_back 3 (some .int) :: GW) ({ frames := 4, cells := 24, slots := 7248, locals := 85 }) (va_Pc [.ref p0, .int p1] (CPC D Y Z ws sz)) (QG (S := Int32 × va_W × RT × GN × GQ) (fun u => some (.int u.1)) (fun u => TLe T u.2.2.1 ∧ TW Y Z u.2.2.1 u.2.2.2.1 u.2.2.2.2 u.2.1 ∧ KF 6 T ws u.2.1) (fun u => CB D u.2.1 (va_A ws sz)) (va_A ws sz)) 24 7248 (va_A ws sz) := by
  refine Met.ofW (cc := cX10_back) (maxL := 3) (ret := (some .int)) (by decide) rfl ?_
  intro p e s m args below meth c s₁ B hml hv
  obtain ⟨rfl, ⟨hsz, hP, hKN, hD0⟩, hSZ⟩ := hv
  have hx := B.exec
  have hb := B.bytes
  have hr := B.returns
  have hts := atoms_spec (ws := .code yX10_back cX10_back 3 (some .int) :: GW) B.pre
  have hg : ∀ w ∈ GW, w.before _ s = true := fun w h => hts w (List.mem_cons_of_mem _ h)
  have hown : s.vm.findClass RX10 = some m.cls := findClass_of_methodNamed B.named
  have hlocks := B.notSynchronized
  subst hsz
  have hD := hD0.self (sz := s.heap.size)
  generalize hAe : va_A ws s.heap.size = A at hD hSZ ⊢
  have hA : ∀ q : Nat, s.heap.size ≤ q → A q := fun q h => by rw [← hAe]; exact Or.inr h
  clear hAe hD0 hts B
  have hl := lv_entry ([.ref p0, .int p1]) (n := 3) (Nat.le_of_ble_eq_true rfl)
  rw [lg_entry_eq]
  generalize (lg_sl ([.ref p0, .int p1]) ++ List.replicate (3 - (lg_sl ([.ref p0, .int p1])).length) Slot.unset).toArray = ls at hl ⊢
  have hl : lv_has ls 3 [(0, .ref p0), (1, .int p1)] := hl
  refine w_start (A0 := A) hP (fun H locs hP hS => ?_)
  refine lv_iload_n hx hb dX10_back_0 rfl (lv_at hl 1 rfl) ?_
  refine lv_iconst (v := 0) hx hb dX10_back_1 (by decide) ?_
  refine lv_iconst (v := 3) hx hb dX10_back_2 (by decide) ?_
  have zi0 : (0 : Int32).toInt = 0 := by decide
  have zi3 : (3 : Int32).toInt = 3 := by decide
  refine cg0 (rn_S (As := [.int p1, .int 0, .int 3]) (rest := []) (x_X10_isWithin l D Y Z H.size p1 0 3) ⟨hx, hb, hml, hown, hg⟩ lk_X10_100 ⟨CP.blind, CP.at nilP hKN (nilD (A := fun _ => True))⟩ ⟨⟨rfl, rfl⟩, ⟨Nat.le_of_ble_eq_true rfl, Nat.le_of_ble_eq_true rfl⟩, ⟨(Nat.le_of_ble_eq_true rfl), (Nat.le_of_ble_eq_true rfl)⟩⟩ hl.1 rfl (Nat.le_of_ble_eq_true rfl) dX10_back_3) hP hS hA (fun u1 H locs hw2 hP hS => ?_)
  obtain ⟨hw4, hw5⟩ : (((0 : Int32).toInt ≤ p1.toInt ∧ p1.toInt ≤ (3 : Int32).toInt ∧ u1.toInt = 1) ∨ (¬ ((0 : Int32).toInt ≤ p1.toInt ∧ p1.toInt ≤ (3 : Int32).toInt) ∧ u1.toInt = 0)) ∧ (0 ≤ u1.toInt ∧ u1.toInt ≤ 1) := hw2
  refine W.eq (g2 := F0 m 6 ls [.int u1]) rfl ?_
  rcases (show u1.toInt = 1 ∨ u1.toInt = 0 by omega) with c6 | c6
  · obtain rfl : u1 = 1 := i_is c6 (by decide)
    have zi1 : (1 : Int32).toInt = 1 := by decide
    refine W.eq (g2 := F0 m 6 ls [.int 1]) rfl ?_
    refine lv_if_eq (tgt := 18) hx hb dX10_back_6 (by decide) (fun c7 => ?_) (fun c7 => ?_)
    · exact absurd c7 (by decide)
    refine lv_aload_n hx hb dX10_back_9 rfl (lv_at hl 0 rfl) ?_
    obtain ⟨p49, _, hk50, a8, a9, a10, a11, a12, x13, x14, x15, a16, a17, a18, a19, a20, a21, a22, a23, a24, x25, a26, a27, rfl, h28, h29, h30, h31, h32, h33, h34, h35, h36, h37, h38, h39, h40, h41, h42, h43, h44, h45, h46, h47, h48⟩ := op1 hT ht0
    refine va_get (D := D) (ci := 10) (v := .ref a9) (C := RX10) (T := TX10) (N := 20) hx hb hg inGX10 hown hKN.1 hP p49 hk50 rfl 1 (by decide) (hg _ kw_350) (fun _ h9 => h9) rfl dX10_back_10 ?_
    refine lv_iload_n hx hb dX10_back_13 rfl (lv_at hl 1 rfl) ?_
    refine tr_ld19 hx hb hKN hP hT h30 (vp_in_iff.mpr ⟨by omega, by omega⟩) dX10_back_14 (fun r51 hr51 qr51 => ?_)
    refine W.eq (g2 := F0 m 15 ls [va_rf r51]) rfl ?_
    rcases r51 with _ | b52
    · skip
      refine W.eq (g2 := F0 m 15 ls [.null]) rfl ?_
      refine lv_goto (tgt := 19) hx hb dX10_back_15 (by decide) ?_
      refine lv_astore_nN (lv' := [(2, .null), (0, .ref p0), (1, .int p1)]) hx hb dX10_back_19 rfl hl (by decide) rfl (fun ls hl => ?_)
      refine lv_aload_nN hx hb dX10_back_20 rfl (lv_at hl 0 rfl) ?_
      refine lv_ifnonnullN hx hb dX10_back_21 ?_
      refine lv_iconst (v := (-1)) hx hb dX10_back_24 (by decide) ?_
      refine W.widen (k := 24) (n := 7248) (Nat.le_of_ble_eq_true rfl) (Nat.le_of_ble_eq_true rfl) ?_
      have zim1 : ((-1) : Int32).toInt = -1 := by decide
      exact W.iret (v := (-1)) hx hb hr (fun t ht hW => ⟨⟨(((-1)), ws, T, g, q), rfl, ⟨TLe.rf, hT, KF.rf⟩, CB.mk ht hP hD⟩, hS.F ht⟩) hS.2.2 dX10_back_25
    · skip
      have ht53 := hr51 b52 rfl
      refine W.eq (g2 := F0 m 15 ls [.ref b52]) rfl ?_
      refine lv_goto (tgt := 19) hx hb dX10_back_15 (by decide) ?_
      refine lv_astore_n (lv' := [(2, .ref b52), (0, .ref p0), (1, .int p1)]) hx hb dX10_back_19 rfl hl (by decide) rfl (fun ls hl => ?_)
      refine lv_aload_n hx hb dX10_back_20 rfl (lv_at hl 0 rfl) ?_
      refine lv_ifnonnull (tgt := 26) hx hb dX10_back_21 (by decide) ?_
      refine lv_aload_n hx hb dX10_back_26 rfl (lv_at hl 1 rfl) ?_
      refine va_get (D := D) (ci := 10) (v := .ref a8) (C := RX10) (T := TX10) (N := 20) hx hb hg inGX10 hown hKN.1 hP p49 hk50 rfl 0 (by decide) (hg _ kw_349) (fun _ h9 => h9) rfl dX10_back_27 ?_
      refine lv_aload_n hx hb dX10_back_30 rfl (lv_at hl 0 rfl) ?_
      obtain ⟨p88, _, hk89, x54, a55, x56, a57, x58, a59, a60, x61, a62, a63, x64, a65, x66, rfl, h67, h68, h69, h70, h71, h72, h73, h74, h75, h76, h77, h78, h79, h80, h81, h82, h83, h84, h85, h86, h87⟩ := op2 hT h28
      refine cga (rn_NV (As := [.ref b52]) (rest := []) (b := a8) (x_X6_become l D Y Z H.size ws T g q 0 (p1.toNatClampNeg + 1) a8 b52 hT h28 ht53) ⟨hx, hb, hml, hown, hg⟩ hKN lk_X10_429 ⟨CPC.blind, va_recv hKN.1 hP (ci := 6) (q0 := p88) rfl hk89, CPC.at hP hKN hD hSZ hS hA⟩ ⟨⟨rfl, rfl⟩, ⟨Nat.le_of_ble_eq_true rfl, Nat.le_of_ble_eq_true rfl⟩, ⟨(Nat.le_of_ble_eq_true rfl), (Nat.le_of_ble_eq_true rfl)⟩⟩ hl.1 rfl (Nat.le_of_ble_eq_true rfl) dX10_back_31) hP hD hS hA (fun u90 H locs hw91 hP hD hS => ?_)
      refine W.widen (k := 24) (n := 7248) (Nat.le_of_ble_eq_true rfl) (Nat.le_of_ble_eq_true rfl) ?_
      obtain ⟨w92, T93, g94, q95⟩ := u90
      obtain ⟨le96, hT, ke97, ke98⟩ : TLe T T93 ∧ TW Y Z T93 g94 q95 w92 ∧ KF 1 T ws w92 ∧ KF 6 T ws w92 := hw91
      have hk99 := ke97 _ _ hk50 (show (T p0).1 = 1 by rw [ht0])
      have ke100 : KF 6 T ws w92 := KF.tr KF.rf ke98
      refine W.eq (g2 := F0 m 34 ls []) rfl ?_
      refine lv_aload_n hx hb dX10_back_34 rfl (lv_at hl 1 rfl) ?_
      refine lv_dup hx hb dX10_back_35 rfl ?_
      obtain ⟨p142, _, hk143, a101, a102, a103, a104, a105, x106, x107, x108, a109, a110, a111, a112, a113, a114, a115, a116, a117, x118, a119, a120, rfl, h121, h122, h123, h124, h125, h126, h127, h128, h129, h130, h131, h132, h133, h134, h135, h136, h137, h138, h139, h140, h141⟩ := op1 hT (le96.up ht0)
      refine va_get (D := D) (ci := 10) (v := .int x118) (C := RX10) (T := TX10) (N := 20) hx hb hg inGX10 hown hKN.1 hP p142 hk143 rfl 17 (by decide) (hg _ kw_366) (fun _ h9 => h9) rfl dX10_back_36 ?_
      refine lv_iconst (v := 1) hx hb dX10_back_39 (by decide) ?_
      refine lv_iadd hx hb dX10_back_40 ?_
      refine lv_topi (fun v144 ev144 => ?_)
      refine va_put (D := D) (ci := 10) (v := .int v144) (ty := .int) (C := RX10) (T := TX10) (N := 20) hx hb hg inGX10 tyX10 tyX10_ok nmX10 hown hKN.1 hP hD hS p142 hk143 rfl 17 (by decide) (hg _ kw_366) (fun _ h9 => h9) rfl (by decide +kernel) rfl rfl (Nat.le_of_ble_eq_true rfl) dX10_back_41 (fun H locs hP hD2 hS => ?_)
      obtain ⟨w145, hP, hD, hT, hk147, kp146⟩ : ∃ wz, va_P D vwCl wz H ∧ va_D A wz ∧ TW Y Z T93 g94 q95 wz ∧ wz[p142]? = some (p0, .inr (10, (.ref a101 :: .ref a102 :: .ref a103 :: .ref a104 :: .ref a105 :: .int x106 :: .int x107 :: .int x108 :: .ref a109 :: .ref a110 :: .ref a111 :: .ref a112 :: .ref a113 :: .ref a114 :: .ref a115 :: .ref a116 :: .ref a117 :: .int v144 :: .ref a119 :: .ref a120 :: []))) ∧ Kp p0 w92 wz := ⟨_, hP, hD2, st1 hT hD hk143 (le96.up ht0) ⟨a101, a102, a103, a104, a105, x106, x107, x108, a109, a110, a111, a112, a113, a114, a115, a116, a117, v144, a119, a120, rfl, h121, h122, h123, h124, h125, h126, h127, by omega, by omega, by omega, h131, h132, h133, h134, h135, h136, h137, h138, h139, h140, h141⟩, sw_eq hk143, sw_kp hk143⟩
      have ke148 : KF 6 T ws w145 := KF.tr ke100 (KF.le (by decide) le96 (KF.kp kp146 (le96.up ht0) (by decide)))
      refine lv_aload_n hx hb dX10_back_44 rfl (lv_at hl 1 rfl) ?_
      refine va_get (D := D) (ci := 10) (v := .ref a101) (C := RX10) (T := TX10) (N := 20) hx hb hg inGX10 hown hKN.1 hP p142 hk147 rfl 0 (by decide) (hg _ kw_349) (fun _ h9 => h9) rfl dX10_back_45 ?_
      obtain ⟨p183, _, hk184, x149, a150, x151, a152, x153, a154, a155, x156, a157, a158, x159, a160, x161, rfl, h162, h163, h164, h165, h166, h167, h168, h169, h170, h171, h172, h173, h174, h175, h176, h177, h178, h179, h180, h181, h182⟩ := op2 hT h121
      refine va_getN (D := D) (ci := 6) (v := .int x149) (C := RX6) (T := TX6) (N := 13) hx hb hg inGX6 hown hKN.1 hP p183 hk184 rfl 0 (by decide) (va_Nw.use rfl (hKN.2.1 _ kn_41 rfl)) (fun _ h9 => h9) rfl dX10_back_48 ?_
      refine W.widen (k := 24) (n := 7248) (Nat.le_of_ble_eq_true rfl) (Nat.le_of_ble_eq_true rfl) ?_
      exact W.iret (v := x149) hx hb hr (fun t ht hW => ⟨⟨(x149, w145, T93, g94, q95), rfl, ⟨le96, hT, ke148⟩, CB.mk ht hP hD⟩, hS.F ht⟩) hS.2.2 dX10_back_51
  · obtain rfl : u1 = 0 := i_is c6 (by decide)
    refine W.eq (g2 := F0 m 6 ls [.int 0]) rfl ?_
    refine lv_if_eq (tgt := 18) hx hb dX10_back_6 (by decide) (fun c185 => ?_) (fun c185 => ?_)
    rotate_left
    · exact absurd c185 (by decide)
    refine lv_null hx hb dX10_back_18 ?_
    refine lv_astore_nN (lv' := [(2, .null), (0, .ref p0), (1, .int p1)]) hx hb dX10_back_19 rfl hl (by decide) rfl (fun ls hl => ?_)
    refine lv_aload_nN hx hb dX10_back_20 rfl (lv_at hl 0 rfl) ?_
    refine lv_ifnonnullN hx hb dX10_back_21 ?_
    refine lv_iconst (v := (-1)) hx hb dX10_back_24 (by decide) ?_
    refine W.widen (k := 24) (n := 7248) (Nat.le_of_ble_eq_true rfl) (Nat.le_of_ble_eq_true rfl) ?_
    have zim1 : ((-1) : Int32).toInt = -1 := by decide
    exact W.iret (v := (-1)) hx hb hr (fun t ht hW => ⟨⟨(((-1)), ws, T, g, q), rfl, ⟨TLe.rf, hT, KF.rf⟩, CB.mk ht hP hD⟩, hS.F ht⟩) hS.2.2 dX10_back_25
