/-! ===== more rules over the class's heap (mine) ===== -/
theorem gs_eq {g : GN} {a k : Nat} {v : Int32} : gset g a k v a k = v := by rw [gset_eq]; exact up_eq rfl
theorem gs_ne {g : GN} {a k j : Nat} {v : Int32} (h : j ≠ k) : gset g a k v a j = g a j := by rw [gset_eq]; exact up_ne h
def gcpy (g : GN) (a b sp dp n : Nat) : GN := fun c => if c = b then va_cpy (g a) (g c) sp dp n else g c
theorem gcpy_ne {g : GN} {a b c sp dp n : Nat} (h : c ≠ b) : gcpy g a b sp dp n c = g c := if_neg h
theorem gcpy_eq {g : GN} {a b sp dp n : Nat} : gcpy g a b sp dp n b = va_cpy (g a) (g b) sp dp n := if_pos rfl
theorem rf_or (r : Option Nat) : va_rf r = .null ∨ ∃ a, va_rf r = .ref a := by
  cases r with
  | none => exact Or.inl rfl
  | some b => exact Or.inr ⟨b, rfl⟩
theorem getD_rg {l : List Int32} {lo hi : Int} (h : ∀ x ∈ l, lo ≤ x.toInt ∧ x.toInt ≤ hi) (h0 : lo ≤ 0 ∧ 0 ≤ hi) (k : Nat) : lo ≤ (l.getD k 0).toInt ∧ (l.getD k 0).toInt ≤ hi := by
  by_cases q : k < l.length
  · rw [List.getD_eq_getElem?_getD, List.getElem?_eq_getElem q]; exact h _ (List.getElem_mem q)
  · rw [List.getD_eq_getElem?_getD, List.getElem?_eq_none (by omega)]
    show lo ≤ (0 : Int32).toInt ∧ (0 : Int32).toInt ≤ hi
    rw [show (0 : Int32).toInt = 0 by decide]; exact h0
theorem ORD_rg {v : Int32} {k : Nat} (e : v = ORD.getD k 0) : 0 ≤ v.toInt ∧ v.toInt ≤ 3 := by rw [e]; exact getD_rg (by decide) (by decide) k
theorem SHF_rg {v : Int32} {k : Nat} (e : v = SHF.getD k 0) : -3 ≤ v.toInt ∧ v.toInt ≤ 3 := by rw [e]; exact getD_rg (by decide) (by decide) k
theorem ofn_i {v : Int32} {n : Nat} (e : v = Int32.ofNat n) (h : n < 2147483648) : v.toInt = (n : Int) := by
  rw [e]
  first | exact nI_toInt (by omega) | (rw [Int32.toInt_ofNat']; exact i_bmod (by omega) (by omega))
theorem va_P.last {D : va_G} {cl : List vw_C} {ws : va_W} {c : Nat × va_E} {H : Heap} (h : va_P D cl (ws ++ [c]) H) : va_P D cl [c] H := fun k q hk => h (ws.length + k) q (by rw [List.getElem?_append_right (by omega), show ws.length + k - ws.length = k by omega]; exact hk)
theorem va_D.last {A : Nat → Prop} {ws : va_W} {c : Nat × va_E} (h : va_D A (ws ++ [c])) : va_D A [c] := by
  have e : ∀ (k : Nat) (q : Nat × va_E), [c][k]? = some q → (ws ++ [c])[ws.length + k]? = some q := fun k q hk => by rw [List.getElem?_append_right (by omega), show ws.length + k - ws.length = k by omega]; exact hk
  refine ⟨fun i j p q hi hj hpq => ?_, fun k q hk => h.2 _ q (e k q hk)⟩
  have := h.1 _ _ p q (e i p hi) (e j q hj) hpq
  omega
/-- cells of a kind stay as they are -/
def KF (n : Nat) (T : RT) (ws w1 : va_W) : Prop := ∀ (k : Nat) (c : Nat × va_E), ws[k]? = some c → (T c.1).1 = n → w1[k]? = some c
theorem KF.rf {n : Nat} {T : RT} {ws : va_W} : KF n T ws ws := fun _ _ h _ => h
theorem KF.tr {n : Nat} {T : RT} {ws w1 w2 : va_W} (h1 : KF n T ws w1) (h2 : KF n T w1 w2) : KF n T ws w2 := fun k c hk ht => h2 k c (h1 k c hk ht) ht
theorem KF.kp {n : Nat} {T : RT} {ws w1 : va_W} {x k j i : Nat} (h : Kp x ws w1) (ht : T x = (k, j, i)) (hne : k ≠ n) : KF n T ws w1 := fun m c hm hc => h m c hm (fun z => hne (by rw [z, ht] at hc; exact hc))
theorem KF.le {n : Nat} {T T2 : RT} {w1 w2 : va_W} (h0 : n ≠ 0) (le : TLe T T2) (h : KF n T2 w1 w2) : KF n T w1 w2 := fun m c hm hc => h m c hm (by rw [le c.1 (by rw [hc]; exact h0)]; exact hc)
theorem KF.ex {n : Nat} {T : RT} {ws w1 : va_W} (h : ∀ (k : Nat) (c : Nat × va_E), ws[k]? = some c → w1[k]? = some c) : KF n T ws w1 := fun m c hm _ => h m c hm
/-- numbers that are tracked, of all but STARS, stay -/
def GE (T : RT) (g g2 : GN) : Prop := ∀ a, (T a).1 ≠ 0 → (T a).1 ≠ 3 → g2 a = g a
theorem GE.rf {T : RT} {g : GN} : GE T g g := fun _ _ _ => rfl
theorem GE.tr {T : RT} {g g2 g3 : GN} (h : GE T g g2) (h2 : GE T g2 g3) : GE T g g3 := fun a h0 h3 => (h2 a h0 h3).trans (h a h0 h3)
theorem GE.le {T T2 : RT} {g g2 : GN} (le : TLe T T2) (h : GE T2 g g2) : GE T g g2 := fun a h0 h3 => h a (by rw [le a h0]; exact h0) (by rw [le a h0]; exact h3)
theorem GE.st {T : RT} {g g2 : GN} {x k j i : Nat} {v : Int32} (e : g2 = gset g x k v) (ht : T x = (3, j, i)) : GE T g g2 := fun a _ h3 => by
  rw [e]; exact gset_ne (fun z => h3 (by rw [z, ht]))
theorem GE.ex {T : RT} {g g2 : GN} (h : ∀ a, (T a).1 ≠ 0 → g2 a = g a) : GE T g g2 := fun a h0 _ => h a h0
theorem Zq_rf {C n d : String} {A : Nat → Prop} {U : State} {H : Heap} (h : va_Zq C n d A U H) : ∃ r : Option Nat, va_Z C n d (va_rf r) A U H := by
  rcases h with h | ⟨t, h⟩
  · exact ⟨none, h⟩
  · exact ⟨some t, h⟩
theorem SL_b (n : Nat) : SLEN.getD n 0 ≤ 60 := by
  by_cases q : n < SLEN.length
  · rw [List.getD_eq_getElem?_getD, List.getElem?_eq_getElem q]
    exact (by decide : ∀ x ∈ SLEN, x ≤ 60) _ (List.getElem_mem q)
  · rw [List.getD_eq_getElem?_getD, List.getElem?_eq_none (by omega)]; exact Nat.zero_le _
theorem chr_nar {x v : Int32} (e : v = (x.toUInt32 % 65536).toInt32) : narrow .char (.int v) = .int v := by
  have k : vp_nar .char v = v := by
    rw [vp_nar_char, e]
    apply Int32.toBitVec_inj.1
    apply BitVec.eq_of_toNat_eq
    simp [UInt32.toNat_mod]
  have k2 : narrow .char (.int v) = .int (vp_nar .char v) := rfl
  rw [k2, k]
theorem z_fits {x : Int32} (h : 0 ≤ x.toInt ∧ x.toInt ≤ 1) : fits .boolean (.int x) = true := by
  rcases (show x.toInt = 0 ∨ x.toInt = 1 by omega) with q | q
  · obtain rfl : x = 0 := i_is q (by decide)
    rfl
  · obtain rfl : x = 1 := i_is q (by decide)
    rfl
section TR2
variable {p : Program} {l : Launch} {e : Env} {R : Room} {s : State} {m : MethodId} {args : Array Value} {below : List Frame} {meth : Method} {c : Code} {H : Heap} {locs : List Loc} {cells slots : Nat} {Q : State → Prop}
variable {pc : Nat} {ls : Array Slot} {rest st0 : List Value} {av : Array Value} {A : Nat → Prop} {H0 : Heap} {mc ms : Nat} {D : va_G} {Y : Nat → ClassId} {Z : Nat → Nat} {cc : ByteArray}
variable {T : RT} {g : GN} {q : GQ} {ws : va_W} {x y n u n0 u0 : Nat} {sp dp k : Int32}
theorem tr_cp12 (hexec : p.tables.exec = Jvm.exec) (hb : c.code = cc) (hml : c.maxLocals = ls.size) {own : String} {index : Nat} (hown : s.vm.findClass own = some m.cls) (hlink : (Cond.methodLink own index arraycopyName).before args s = true) (hnat : (Cond.native arraycopyName).before args s = true) (hstat : (Cond.static arraycopyName).before args s = true) (hini : (Cond.initialized "java/lang/System").before args s = true) (hKN : KN D Y Z s) (hP : va_P D vwCl ws H) (hD : va_D A ws) (hS : va_S A H0 H locs) (hT : TW Y Z T g q ws) (hy : T y = (12, n0, u0)) (ht : T x = (12, n, u)) (h1 : ¬ sp < 0) (h2 : ¬ dp < 0) (h3 : ¬ k < 0) (h4 : sp.toNatClampNeg + k.toNatClampNeg ≤ n0) (h5 : dp.toNatClampNeg + k.toNatClampNeg ≤ n) (hframes : 1 ≤ R.frames) (hlocals : (rest.map fun v => v.category).sum + (nativeFrameWords "java/lang/System" "arraycopy" 5 + 11) ≤ R.locals) (hdg : decode cc pc = .ok (.invokestatic index, 3))
    (kk : ∀ (w1 : va_W) (H : Heap) (locs : List Loc), va_P D vwCl w1 H → va_D A w1 → va_S A H0 H locs → TW Y Z T g q w1 → Kp x ws w1 → W p l e R s m args below meth c H locs cells slots Q (F0 m (pc + 3) ls rest)) : W p l e R s m args below meth c H locs cells slots Q (F0 m pc ls (.int k :: .int dp :: .ref x :: .int sp :: .ref y :: rest)) := by
  obtain ⟨p0, e0, hk0, f0, rfl⟩ := op12 hT hy
  obtain ⟨p1, e1, hk1, f1, rfl⟩ := op12 hT ht
  exact va_copyi (ty := .int) hexec hb hml hown hlink hnat hstat hini hKN.1 hP hD hS p0 p1 0 0 hk0 hk1 rfl rfl rfl h1 h2 h3 h4 h5 (fun i hi => rfl) hframes hlocals hdg (fun H locs hP hD2 hS => kk _ H locs hP hD2 hS (st12 hT hD hk1 ht ⟨_, rfl⟩) (sw_kp hk1))
theorem tr_cp16 (hexec : p.tables.exec = Jvm.exec) (hb : c.code = cc) (hml : c.maxLocals = ls.size) {own : String} {index : Nat} (hown : s.vm.findClass own = some m.cls) (hlink : (Cond.methodLink own index arraycopyName).before args s = true) (hnat : (Cond.native arraycopyName).before args s = true) (hstat : (Cond.static arraycopyName).before args s = true) (hini : (Cond.initialized "java/lang/System").before args s = true) (hKN : KN D Y Z s) (hP : va_P D vwCl ws H) (hD : va_D A ws) (hS : va_S A H0 H locs) (hT : TW Y Z T g q ws) (hy : T y = (16, n0, u0)) (ht : T x = (16, n, u)) (h1 : ¬ sp < 0) (h2 : ¬ dp < 0) (h3 : ¬ k < 0) (h4 : sp.toNatClampNeg + k.toNatClampNeg ≤ n0) (h5 : dp.toNatClampNeg + k.toNatClampNeg ≤ n) (hframes : 1 ≤ R.frames) (hlocals : (rest.map fun v => v.category).sum + (nativeFrameWords "java/lang/System" "arraycopy" 5 + 11) ≤ R.locals) (hdg : decode cc pc = .ok (.invokestatic index, 3))
    (kk : ∀ (w1 : va_W) (H : Heap) (locs : List Loc), va_P D vwCl w1 H → va_D A w1 → va_S A H0 H locs → TW Y Z T g q w1 → Kp x ws w1 → W p l e R s m args below meth c H locs cells slots Q (F0 m (pc + 3) ls rest)) : W p l e R s m args below meth c H locs cells slots Q (F0 m pc ls (.int k :: .int dp :: .ref x :: .int sp :: .ref y :: rest)) := by
  obtain ⟨p0, e0, hk0, f0, rfl, hf0⟩ := op16 hT hy
  obtain ⟨p1, e1, hk1, f1, rfl, hf1⟩ := op16 hT ht
  exact va_copyi (ty := .byte) hexec hb hml hown hlink hnat hstat hini hKN.1 hP hD hS p0 p1 2 2 hk0 hk1 rfl rfl rfl h1 h2 h3 h4 h5 (fun i hi => hf0 _) hframes hlocals hdg (fun H locs hP hD2 hS => kk _ H locs hP hD2 hS (st16 hT hD hk1 ht ⟨_, rfl, fun i => by unfold va_cpy; split <;> first | exact hf0 _ | exact hf1 _⟩) (sw_kp hk1))
theorem tr_cp14 (hexec : p.tables.exec = Jvm.exec) (hb : c.code = cc) (hml : c.maxLocals = ls.size) {own : String} {index : Nat} (hown : s.vm.findClass own = some m.cls) (hlink : (Cond.methodLink own index arraycopyName).before args s = true) (hnat : (Cond.native arraycopyName).before args s = true) (hstat : (Cond.static arraycopyName).before args s = true) (hini : (Cond.initialized "java/lang/System").before args s = true) (hKN : KN D Y Z s) (hP : va_P D vwCl ws H) (hD : va_D A ws) (hS : va_S A H0 H locs) (hT : TW Y Z T g q ws) (hy : T y = (14, n0, u0)) (ht : T x = (14, n, u)) (h1 : ¬ sp < 0) (h2 : ¬ dp < 0) (h3 : ¬ k < 0) (h4 : sp.toNatClampNeg + k.toNatClampNeg ≤ 12) (h5 : dp.toNatClampNeg + k.toNatClampNeg ≤ 12) (hframes : 1 ≤ R.frames) (hlocals : (rest.map fun v => v.category).sum + (nativeFrameWords "java/lang/System" "arraycopy" 5 + 11) ≤ R.locals) (hdg : decode cc pc = .ok (.invokestatic index, 3))
    (kk : ∀ (w1 : va_W) (H : Heap) (locs : List Loc), va_P D vwCl w1 H → va_D A w1 → va_S A H0 H locs → TW Y Z T (gcpy g y x sp.toNatClampNeg dp.toNatClampNeg k.toNatClampNeg) q w1 → Kp x ws w1 → W p l e R s m args below meth c H locs cells slots Q (F0 m (pc + 3) ls rest)) : W p l e R s m args below meth c H locs cells slots Q (F0 m pc ls (.int k :: .int dp :: .ref x :: .int sp :: .ref y :: rest)) := by
  obtain ⟨p0, e0, hk0, f0, rfl, hf0⟩ := op14 hT hy
  obtain ⟨p1, e1, hk1, f1, rfl, hf1⟩ := op14 hT ht
  exact va_copyi (ty := .int) hexec hb hml hown hlink hnat hstat hini hKN.1 hP hD hS p0 p1 0 0 hk0 hk1 rfl rfl rfl h1 h2 h3 h4 h5 (fun i hi => rfl) hframes hlocals hdg (fun H locs hP hD2 hS => kk _ H locs hP hD2 hS (tw_sg (k := 14) (g2 := gcpy g y x sp.toNatClampNeg dp.toNatClampNeg k.toNatClampNeg) (q2 := q) hT hD hk1 ht (fun _ hc => gcpy_ne hc) (fun _ _ => rfl) (show Sh14 Y Z T (gcpy g y x sp.toNatClampNeg dp.toNatClampNeg k.toNatClampNeg x) (q x) n u _ from ⟨_, rfl, fun i => by rw [gcpy_eq]; unfold va_cpy; split <;> first | exact hf0 _ | exact hf1 _⟩)) (sw_kp hk1))
/-- a loop that makes cells: at most al and sl a turn -/
theorem w_loopC {σ : Type} {stk : List Value} {al sl M : Nat} (Inv : σ → Heap → List Loc → Array Slot → Prop) (μ : σ → Nat) (x : σ) (h0 : Inv x H locs ls) (hM : μ x ≤ M)
    (step : ∀ (x : σ) (bd sd : Nat) (H : Heap) (locs : List Loc) (ls : Array Slot), Inv x H locs ls → (bd + al * μ x ≤ cells + al * M ∧ sd + sl * μ x ≤ slots + sl * M) → (∀ (x' : σ) (bd' sd' : Nat) (H' : Heap) (locs' : List Loc) (ls' : Array Slot), μ x' < μ x → (bd' + al * μ x' ≤ cells + al * M ∧ sd' + sl * μ x' ≤ slots + sl * M) → Inv x' H' locs' ls' → W p l e R s m args below meth c H' locs' bd' sd' Q (F0 m pc ls' stk)) → W p l e R s m args below meth c H locs bd sd Q (F0 m pc ls stk)) : W p l e R s m args below meth c H locs cells slots Q (F0 m pc ls stk) := by
  have key : ∀ (n : Nat) (x : σ) (bd sd : Nat) (H : Heap) (locs : List Loc) (ls : Array Slot), μ x < n → (bd + al * μ x ≤ cells + al * M ∧ sd + sl * μ x ≤ slots + sl * M) → Inv x H locs ls → W p l e R s m args below meth c H locs bd sd Q (F0 m pc ls stk) := by
    intro n
    induction n with
    | zero => intro x bd sd H locs ls h; exact absurd h (Nat.not_lt_zero _)
    | succ n ih => intro x bd sd H locs ls h hb hI; exact step x bd sd H locs ls hI hb (fun x' bd' sd' H' locs' ls' h' hb' hI' => ih x' bd' sd' H' locs' ls' (by omega) hb' hI')
  exact key (μ x + 1) x cells slots H locs ls (Nat.lt_succ_self _) ⟨Nat.add_le_add_left (Nat.mul_le_mul_left al hM) _, Nat.add_le_add_left (Nat.mul_le_mul_left sl hM) _⟩ h0
end TR2
section TR3
variable {p : Program} {l : Launch} {e : Env} {R : Room} {s : State} {m : MethodId} {args : Array Value} {below : List Frame} {meth : Method} {c : Code} {H : Heap} {locs : List Loc} {cells slots : Nat} {Q : State → Prop}
variable {pc : Nat} {ls : Array Slot} {rest : List Value} {A : Nat → Prop} {H0 : Heap} {D : va_G} {Y : Nat → ClassId} {Z : Nat → Nat} {cc : ByteArray}
variable {T : RT} {g : GN} {q : GQ} {ws : va_W} {x n u : Nat} {i : Int32}
theorem tr_st18N (hexec : p.tables.exec = Jvm.exec) (hb : c.code = cc) (hKN : KN D Y Z s) (hP : va_P D vwCl ws H) (hD : va_D A ws) (hS : va_S A H0 H locs) (hT : TW Y Z T g q ws) (ht : T x = (18, n, u)) (hin : vp_in i 40) (hdg : decode cc pc = .ok (.aastore, 1)) (kk : ∀ (w1 : va_W) (H : Heap) (locs : List Loc), va_P D vwCl w1 H → va_D A w1 → va_S A H0 H locs → TW Y Z T g q w1 → Kp x ws w1 → W p l e R s m args below meth c H locs cells slots Q (F0 m (pc + 1) ls rest)) : W p l e R s m args below meth c H locs cells slots Q (F0 m pc ls (.null :: .int i :: .ref x :: rest)) := by
  obtain ⟨p0, e0, hk, f, rfl, hf⟩ := op18 hT ht
  exact va_astqN hexec hb hKN.1 hP hD hS p0 8 hk rfl hin hdg (fun H locs hP hD2 hS => kk _ H locs hP hD2 hS (st18 hT hD hk ht ⟨_, rfl, fun n c hc => by
    unfold va_up at hc
    split at hc
    · cases hc
    · exact hf n c hc⟩) (sw_kp hk))
end TR3

