/-! ===== rules over the class's heap (mine) ===== -/
theorem fitsB (x : Int32) : fits .byte (.int (vp_nar .byte x)) = true := by
  rw [vp_nar_byte]
  have e1 : (-128 : Int32).toInt = -128 := by decide
  have e2 : (127 : Int32).toInt = 127 := by decide
  have e3 : x.toInt8.toInt32.toInt = x.toInt8.toInt := Int8.toInt_toInt32 _
  have a := Int8.le_toInt x.toInt8
  have b := Int8.toInt_lt x.toInt8
  have c : -128 ≤ x.toInt8.toInt32 ∧ x.toInt8.toInt32 ≤ 127 := ⟨Int32.le_iff_toInt_le.mpr (by omega), Int32.le_iff_toInt_le.mpr (by omega)⟩
  simpa [fits, narrow] using c
theorem up_all {P : Int32 → Prop} {f : Nat → Int32} {k : Nat} {v : Int32} (hf : ∀ n, P (f n)) (hv : P v) : ∀ n, P (upd f k v n) := fun n => by
  by_cases z : n = k
  · rw [up_eq z]; exact hv
  · rw [up_ne z]; exact hf n
def gset (g : GN) (a k : Nat) (v : Int32) : GN := fun b => if b = a then upd (g b) k v else g b
theorem gset_ne {g : GN} {a k b : Nat} {v : Int32} (h : b ≠ a) : gset g a k v b = g b := if_neg h
theorem gset_eq {g : GN} {a k : Nat} {v : Int32} : gset g a k v a = upd (g a) k v := if_pos rfl
def qset (q : GQ) (a k : Nat) (v : Option Nat) : GQ := fun b => if b = a then va_up (q b) k v else q b
theorem qset_ne {q : GQ} {a k b : Nat} {v : Option Nat} (h : b ≠ a) : qset q a k v b = q b := if_neg h
theorem qset_eq {q : GQ} {a k : Nat} {v : Option Nat} : qset q a k v a = va_up (q a) k v := if_pos rfl
def ORD : List Int32 := ([0, 1, 2, 3, 0, 1, 3, 2, 0, 2, 1, 3, 0, 2, 3, 1, 0, 3, 1, 2, 0, 3, 2, 1, 1, 0, 2, 3, 1, 0, 3, 2, 1, 2, 0, 3, 1, 2, 3, 0, 1, 3, 0, 2, 1, 3, 2, 0, 2, 0, 1, 3, 2, 0, 3, 1, 2, 1, 0, 3, 2, 1, 3, 0, 2, 3, 0, 1, 2, 3, 1, 0, 3, 0, 1, 2, 3, 0, 2, 1, 3, 1, 0, 2, 3, 1, 2, 0, 3, 2, 0, 1, 3, 2, 1, 0] : List Int32)
def SHF : List Int32 := ([0, -1, 1, -2, 2, -3, 3] : List Int32)
def SLEN : List Nat := [0, 26, 50, 12, 20, 28, 2, 6, 3]
def SBYT : List (List Int32) := [[], [104, 111, 117, 114, 32, 115, 101, 97, 115, 111, 110, 32, 115, 116, 97, 114, 32, 99, 101, 108, 108, 32, 115, 105, 122, 101], [98, 101, 97, 116, 32, 108, 111, 110, 103, 32, 100, 101, 101, 112, 32, 115, 99, 111, 114, 101, 32, 100, 105, 112, 115, 32, 111, 100, 100, 32, 115, 104, 97, 112, 101, 32, 115, 97, 109, 101, 32, 108, 97, 116, 101, 32, 115, 105, 122, 101], [98, 114, 105, 103, 104, 116, 32, 110, 111, 105, 115, 101], [98, 101, 97, 116, 32, 108, 111, 110, 103, 32, 108, 101, 97, 115, 116, 32, 108, 105, 110, 101], [119, 111, 114, 108, 100, 32, 112, 97, 105, 114, 32, 115, 112, 111, 116, 32, 103, 108, 97, 115, 115, 32, 99, 104, 97, 110, 99, 101], [105, 102], [97, 110, 100, 32, 111, 114], [110, 111, 116]]
/-- statics and String constants, which nobody writes -/
def SZ (Z : Nat → Nat) (A : Nat → Prop) (U : State) (H : Heap) : Prop := (va_Z "DimStars" "SEASON_ORDERS" "[I" (.ref (Z 100)) A U H ∧ va_T .int (Z 100) 96 (fun k => .int (ORD.getD k 0)) A U H) ∧ (va_Z "DimStars" "SHIFTS" "[I" (.ref (Z 101)) A U H ∧ va_T .int (Z 101) 7 (fun k => .int (SHF.getD k 0)) A U H) ∧ va_Z "java/lang/String" "COMPACT_STRINGS" "Z" (.int 1) A U H ∧ va_Zq "jdk/internal/util/Preconditions" "SIOOBE_FORMATTER" "Ljava/util/function/BiFunction;" A U H ∧ vk_S 9 SLEN SBYT Z (fun i => Z (200 + i)) A U H
theorem SZ.moved {Z : Nat → Nat} {A : Nat → Prop} {u U : State} {H : Heap} (hvm : u.vm.Alike U.vm) (h : SZ Z A u H) : SZ Z A U H := ⟨⟨h.1.1.moved hvm, h.1.2.moved hvm⟩, ⟨h.2.1.1.moved hvm, h.2.1.2.moved hvm⟩, h.2.2.1.moved hvm, h.2.2.2.1.moved hvm, h.2.2.2.2.moved hvm⟩
theorem SZ.kept {Z : Nat → Nat} {A : Nat → Prop} {U : State} {H H1 : Heap} (h : SZ Z A U H) (hq : ∀ a : Nat, a < H.size → ¬ A a → H1[a]? = H[a]?) : SZ Z A U H1 := ⟨⟨h.1.1.kept hq, h.1.2.kept hq⟩, ⟨h.2.1.1.kept hq, h.2.1.2.kept hq⟩, h.2.2.1.kept hq, h.2.2.2.1.kept hq, h.2.2.2.2.kept hq⟩
theorem SZ.narrow {Z : Nat → Nat} {A B : Nat → Prop} {U : State} {H : Heap} (h : SZ Z A U H) (hAB : ∀ q, B q → A q) : SZ Z B U H := ⟨⟨h.1.1.narrow hAB, h.1.2.narrow hAB⟩, ⟨h.2.1.1.narrow hAB, h.2.1.2.narrow hAB⟩, h.2.2.1.narrow hAB, h.2.2.2.1.narrow hAB, h.2.2.2.2.narrow hAB⟩
/-- a method of the class: its start -/
def CPC (D : va_G) (Y : Nat → ClassId) (Z : Nat → Nat) (ws : va_W) (sz : Nat) : State → Prop := fun U => CP D Y Z ws sz U ∧ SZ Z (va_A ws sz) U U.heap
theorem CPC.blind {av : List Value} {D : va_G} {Y : Nat → ClassId} {Z : Nat → Nat} {ws : va_W} {sz : Nat} : FrameBlind (va_Pc av (CPC D Y Z ws sz)) := fun a U g mk q => by
  obtain ⟨q0, ⟨q1, qP, qK, qD⟩, qS⟩ := q
  exact ⟨q0, ⟨q1, qP, KN.same (u := U) (U := U.calling g mk a) rfl qK, qD⟩, qS.moved (Vm.Alike.refl U.vm)⟩
theorem CPC.at {av : List Value} {D : va_G} {Y : Nat → ClassId} {Z : Nat → Nat} {ws : va_W} {s : State} {H : Heap} {locs : List Loc} {A : Nat → Prop} (hP : va_P D vwCl ws H) (hK : KN D Y Z s) (hD : va_D A ws) (hZ : SZ Z A s s.heap) (hS : va_S A s.heap H locs) (hA : ∀ q, s.heap.size ≤ q → A q) : ∀ U : State, U.heap = H → s.WarmedH U.vm → va_Pc av (CPC D Y Z ws H.size) av.toArray U := fun U hU hW => ⟨rfl, ⟨by rw [hU], by rw [hU]; exact hP, hK.warm hW, hD.weaken (fun _ _ _ _ => trivial)⟩, by
  rw [hU]
  refine ((hZ.moved hW.alike).kept hS.2.1).narrow (fun q hq => ?_)
  rcases hq with ⟨k, e, h⟩ | h
  · exact hD.2 k _ h
  · exact hA q (Nat.le_trans hS.1 h)⟩
section CGN
variable {p : Program} {l : Launch} {e : Env} {R : Room} {s : State} {m : MethodId} {args : Array Value} {below : List Frame} {meth : Method} {c : Code} {H : Heap} {locs : List Loc} {cells slots : Nat} {Q : State → Prop}
variable {pc : Nat} {ls : Array Slot} {rest st0 : List Value} {a : Array Value} {A0 : Nat → Prop} {H0 : Heap} {mc ms : Nat} {D : va_G} {Y : Nat → ClassId} {Z : Nat → Nat}
/-- a call of a constructor: its new cell alone is the callee's -/
theorem cgn {S : Type} {val : S → Option Value} {post : S → Prop} {w1 : S → va_W} {ws : va_W} {b : Nat} {e1 : va_E}
    (hr : va_Run p l e R s m args below meth c H locs cells slots mc ms (F0 m pc ls st0) rest (QG val post (fun u => CB D (w1 u) (va_A [(b, e1)] H.size)) (va_A [(b, e1)] H.size) a) (va_A [(b, e1)] H.size))
    (hP : va_P D vwCl (ws ++ [(b, e1)]) H) (hD : va_D A0 (ws ++ [(b, e1)])) (hS : va_S A0 H0 H locs) (hA : ∀ q, H0.size ≤ q → A0 q)
    (kk : ∀ (u : S) (H1 : Heap) (locs1 : List Loc), post u → va_P D vwCl (ws ++ w1 u) H1 → va_D A0 (ws ++ w1 u) → va_S A0 H0 H1 locs1 → W p l e R s m args below meth c H1 locs1 (cells + mc) (slots + ms) Q (F0 m (pc + 3) ls ((val u).toList ++ rest))) : W p l e R s m args below meth c H locs cells slots Q (F0 m pc ls st0) := by
  have hP0 : va_P D vwCl ([(b, e1)] ++ ws) H := va_P.swap (a := []) (b := ws) (c := [(b, e1)]) hP
  have hD0 : va_D A0 ([(b, e1)] ++ ws) := va_D.swap (a := []) (b := ws) (c := [(b, e1)]) hD
  have hF : ∀ q, va_A [(b, e1)] H.size q → A0 q := fun q h => by
    rcases h with ⟨k, x, h⟩ | h
    · exact hD0.2 k _ (by
        have hl : k < [(b, e1)].length := (List.getElem?_eq_some_iff.mp h).1
        rw [List.getElem?_append_left hl]; exact h)
    · exact hA q (Nat.le_trans hS.1 h)
  intro T hT X
  obtain ⟨v, st₀, t, T', L, h0, X', hL, e3, e2, ⟨⟨u, hv, hp, hPu, hDu⟩, hz, hk⟩, st⟩ := hr T hT X
  cases hv
  rw [h0] at hz hk
  have hk1 : ∀ q : Nat, q < H.size → ¬ va_A [(b, e1)] H.size q → T'.heap[q]? = H[q]? := fun q h1 h2 => by rw [e3]; exact hk q h1 h2
  obtain ⟨hP2, hD2⟩ := va_joinQ (X := [(b, e1)]) (cx := [(b, e1)]) (wr := []) (pl := ws) hP0 hD0 [0] [] rfl rfl rfl (fun i h => absurd h List.not_mem_nil) hk1 hF (by rw [e3]; exact hPu) hDu
  have hP3 : va_P D vwCl (ws ++ w1 u) T'.heap := va_P.swap (a := []) (b := w1 u) (c := ws) hP2
  have hD3 : va_D A0 (ws ++ w1 u) := va_D.swap (a := []) (b := w1 u) (c := ws) hD2
  obtain ⟨t2, a1, b1⟩ := kk u T'.heap (locs ++ L) hp hP3 hD3
    ⟨Nat.le_trans hS.1 (by rw [e3]; exact hz), fun q h1 h2 => by rw [hk1 q (Nat.lt_of_lt_of_le h1 hS.1) (fun z => h2 (hF q z))]; exact hS.2.1 q h1 h2, fun q hq => by
      rcases List.mem_append.mp hq with h | h
      · exact hS.2.2 q h
      · exact hF _ (hL q h)⟩ T' rfl X'
  exact ⟨t2, st t2 a1, b1⟩
end CGN
section TR
variable {p : Program} {l : Launch} {e : Env} {R : Room} {s : State} {m : MethodId} {args : Array Value} {below : List Frame} {meth : Method} {c : Code} {H : Heap} {locs : List Loc} {cells slots : Nat} {Q : State → Prop}
variable {pc : Nat} {ls : Array Slot} {rest st0 : List Value} {av : Array Value} {A : Nat → Prop} {H0 : Heap} {mc ms : Nat} {D : va_G} {Y : Nat → ClassId} {Z : Nat → Nat} {cc : ByteArray}
variable {T : RT} {g : GN} {q : GQ} {ws : va_W} {x n u b : Nat} {i v : Int32} {y : Int64}
theorem tr_ld12 (hexec : p.tables.exec = Jvm.exec) (hb : c.code = cc) (hKN : KN D Y Z s) (hP : va_P D vwCl ws H) (hT : TW Y Z T g q ws) (ht : T x = (12, n, u)) (hin : vp_in i n) (hdg : decode cc pc = .ok (.iaload, 1)) (kk : ∀ v : Int32, W p l e R s m args below meth c H locs cells slots Q (F0 m (pc + 1) ls (.int v :: rest))) : W p l e R s m args below meth c H locs cells slots Q (F0 m pc ls (.int i :: .ref x :: rest)) := by
  obtain ⟨p0, e0, hk, f, rfl⟩ := op12 hT ht
  exact va_iald hexec hb hKN.1 hP p0 0 hk rfl hin hdg (kk _)
theorem tr_ld13 (hexec : p.tables.exec = Jvm.exec) (hb : c.code = cc) (hKN : KN D Y Z s) (hP : va_P D vwCl ws H) (hT : TW Y Z T g q ws) (ht : T x = (13, n, u)) (hin : vp_in i n) (hdg : decode cc pc = .ok (.iaload, 1)) (kk : ∀ v : Int32, 0 ≤ v.toInt ∧ v.toInt ≤ 599 → W p l e R s m args below meth c H locs cells slots Q (F0 m (pc + 1) ls (.int v :: rest))) : W p l e R s m args below meth c H locs cells slots Q (F0 m pc ls (.int i :: .ref x :: rest)) := by
  obtain ⟨p0, e0, hk, f, rfl, hf⟩ := op13 hT ht
  exact va_iald hexec hb hKN.1 hP p0 0 hk rfl hin hdg (kk _ (hf _))
theorem tr_ld14 (hexec : p.tables.exec = Jvm.exec) (hb : c.code = cc) (hKN : KN D Y Z s) (hP : va_P D vwCl ws H) (hT : TW Y Z T g q ws) (ht : T x = (14, n, u)) (hin : vp_in i 12) (hdg : decode cc pc = .ok (.iaload, 1)) (kk : ∀ v : Int32, v = g x i.toNatClampNeg → W p l e R s m args below meth c H locs cells slots Q (F0 m (pc + 1) ls (.int v :: rest))) : W p l e R s m args below meth c H locs cells slots Q (F0 m pc ls (.int i :: .ref x :: rest)) := by
  obtain ⟨p0, e0, hk, f, rfl, hf⟩ := op14 hT ht
  exact va_iald hexec hb hKN.1 hP p0 0 hk rfl hin hdg (kk _ (hf _).symm)
theorem tr_ld15 (hexec : p.tables.exec = Jvm.exec) (hb : c.code = cc) (hKN : KN D Y Z s) (hP : va_P D vwCl ws H) (hT : TW Y Z T g q ws) (ht : T x = (15, n, u)) (hin : vp_in i n) (hdg : decode cc pc = .ok (.laload, 1)) (kk : ∀ v : Int64, W p l e R s m args below meth c H locs cells slots Q (F0 m (pc + 1) ls (.long v :: rest))) : W p l e R s m args below meth c H locs cells slots Q (F0 m pc ls (.int i :: .ref x :: rest)) := by
  obtain ⟨p0, e0, hk, f, rfl⟩ := op15 hT ht
  exact va_lald hexec hb hKN.1 hP p0 1 hk rfl hin hdg (kk _)
theorem tr_ld16 (hexec : p.tables.exec = Jvm.exec) (hb : c.code = cc) (hKN : KN D Y Z s) (hP : va_P D vwCl ws H) (hT : TW Y Z T g q ws) (ht : T x = (16, n, u)) (hin : vp_in i n) (hdg : decode cc pc = .ok (.baload, 1)) (kk : ∀ v : Int32, W p l e R s m args below meth c H locs cells slots Q (F0 m (pc + 1) ls (.int v :: rest))) : W p l e R s m args below meth c H locs cells slots Q (F0 m pc ls (.int i :: .ref x :: rest)) := by
  obtain ⟨p0, e0, hk, f, rfl, hf⟩ := op16 hT ht
  exact va_bald hexec hb hKN.1 hP p0 2 hk rfl hin hdg (kk _)
theorem tr_st12 (hexec : p.tables.exec = Jvm.exec) (hb : c.code = cc) (hKN : KN D Y Z s) (hP : va_P D vwCl ws H) (hD : va_D A ws) (hS : va_S A H0 H locs) (hT : TW Y Z T g q ws) (ht : T x = (12, n, u)) (hin : vp_in i n) (hdg : decode cc pc = .ok (.iastore, 1)) (kk : ∀ (w1 : va_W) (H : Heap) (locs : List Loc), va_P D vwCl w1 H → va_D A w1 → va_S A H0 H locs → TW Y Z T g q w1 → Kp x ws w1 → W p l e R s m args below meth c H locs cells slots Q (F0 m (pc + 1) ls rest)) : W p l e R s m args below meth c H locs cells slots Q (F0 m pc ls (.int v :: .int i :: .ref x :: rest)) := by
  obtain ⟨p0, e0, hk, f, rfl⟩ := op12 hT ht
  exact va_iast hexec hb hKN.1 hP hD hS p0 0 hk rfl hin hdg (fun H locs hP hD2 hS => kk _ H locs hP hD2 hS (st12 hT hD hk ht ⟨_, rfl⟩) (sw_kp hk))
theorem tr_st13 (hexec : p.tables.exec = Jvm.exec) (hb : c.code = cc) (hKN : KN D Y Z s) (hP : va_P D vwCl ws H) (hD : va_D A ws) (hS : va_S A H0 H locs) (hT : TW Y Z T g q ws) (ht : T x = (13, n, u)) (hin : vp_in i n) (hv : 0 ≤ v.toInt ∧ v.toInt ≤ 599) (hdg : decode cc pc = .ok (.iastore, 1)) (kk : ∀ (w1 : va_W) (H : Heap) (locs : List Loc), va_P D vwCl w1 H → va_D A w1 → va_S A H0 H locs → TW Y Z T g q w1 → Kp x ws w1 → W p l e R s m args below meth c H locs cells slots Q (F0 m (pc + 1) ls rest)) : W p l e R s m args below meth c H locs cells slots Q (F0 m pc ls (.int v :: .int i :: .ref x :: rest)) := by
  obtain ⟨p0, e0, hk, f, rfl, hf⟩ := op13 hT ht
  exact va_iast hexec hb hKN.1 hP hD hS p0 0 hk rfl hin hdg (fun H locs hP hD2 hS => kk _ H locs hP hD2 hS (st13 hT hD hk ht ⟨_, rfl, up_all (P := fun x => 0 ≤ x.toInt ∧ x.toInt ≤ 599) hf hv⟩) (sw_kp hk))
theorem tr_st15 (hexec : p.tables.exec = Jvm.exec) (hb : c.code = cc) (hKN : KN D Y Z s) (hP : va_P D vwCl ws H) (hD : va_D A ws) (hS : va_S A H0 H locs) (hT : TW Y Z T g q ws) (ht : T x = (15, n, u)) (hin : vp_in i n) (hdg : decode cc pc = .ok (.lastore, 1)) (kk : ∀ (w1 : va_W) (H : Heap) (locs : List Loc), va_P D vwCl w1 H → va_D A w1 → va_S A H0 H locs → TW Y Z T g q w1 → Kp x ws w1 → W p l e R s m args below meth c H locs cells slots Q (F0 m (pc + 1) ls rest)) : W p l e R s m args below meth c H locs cells slots Q (F0 m pc ls (.long y :: .int i :: .ref x :: rest)) := by
  obtain ⟨p0, e0, hk, f, rfl⟩ := op15 hT ht
  exact va_last hexec hb hKN.1 hP hD hS p0 1 hk rfl hin hdg (fun H locs hP hD2 hS => kk _ H locs hP hD2 hS (st15 hT hD hk ht ⟨_, rfl⟩) (sw_kp hk))
theorem tr_st16 (hexec : p.tables.exec = Jvm.exec) (hb : c.code = cc) (hKN : KN D Y Z s) (hP : va_P D vwCl ws H) (hD : va_D A ws) (hS : va_S A H0 H locs) (hT : TW Y Z T g q ws) (ht : T x = (16, n, u)) (hin : vp_in i n) (hdg : decode cc pc = .ok (.bastore, 1)) (kk : ∀ (w1 : va_W) (H : Heap) (locs : List Loc), va_P D vwCl w1 H → va_D A w1 → va_S A H0 H locs → TW Y Z T g q w1 → Kp x ws w1 → W p l e R s m args below meth c H locs cells slots Q (F0 m (pc + 1) ls rest)) : W p l e R s m args below meth c H locs cells slots Q (F0 m pc ls (.int v :: .int i :: .ref x :: rest)) := by
  obtain ⟨p0, e0, hk, f, rfl, hf⟩ := op16 hT ht
  exact va_bast hexec hb hKN.1 hP hD hS p0 2 hk rfl hin hdg (fun H locs hP hD2 hS => kk _ H locs hP hD2 hS (st16 hT hD hk ht ⟨_, rfl, up_all (P := fun x => fits .byte (.int x) = true) hf (fitsB v)⟩) (sw_kp hk))
theorem tr_len12 (hexec : p.tables.exec = Jvm.exec) (hb : c.code = cc) (hKN : KN D Y Z s) (hP : va_P D vwCl ws H) (hT : TW Y Z T g q ws) (ht : T x = (12, n, u)) (hv : Int32.ofNat n = v) (hdg : decode cc pc = .ok (.arraylength, 1)) (kk : W p l e R s m args below meth c H locs cells slots Q (F0 m (pc + 1) ls (.int v :: rest))) : W p l e R s m args below meth c H locs cells slots Q (F0 m pc ls (.ref x :: rest)) := by
  obtain ⟨p0, e0, hk, f, rfl⟩ := op12 hT ht
  exact va_alen hexec hb hKN.1 hP p0 0 hk rfl hv hdg kk
theorem tr_len14 (hexec : p.tables.exec = Jvm.exec) (hb : c.code = cc) (hKN : KN D Y Z s) (hP : va_P D vwCl ws H) (hT : TW Y Z T g q ws) (ht : T x = (14, n, u)) (hv : Int32.ofNat 12 = v) (hdg : decode cc pc = .ok (.arraylength, 1)) (kk : W p l e R s m args below meth c H locs cells slots Q (F0 m (pc + 1) ls (.int v :: rest))) : W p l e R s m args below meth c H locs cells slots Q (F0 m pc ls (.ref x :: rest)) := by
  obtain ⟨p0, e0, hk, f, rfl, hf⟩ := op14 hT ht
  exact va_alen hexec hb hKN.1 hP p0 0 hk rfl hv hdg kk
theorem tr_len15 (hexec : p.tables.exec = Jvm.exec) (hb : c.code = cc) (hKN : KN D Y Z s) (hP : va_P D vwCl ws H) (hT : TW Y Z T g q ws) (ht : T x = (15, n, u)) (hv : Int32.ofNat n = v) (hdg : decode cc pc = .ok (.arraylength, 1)) (kk : W p l e R s m args below meth c H locs cells slots Q (F0 m (pc + 1) ls (.int v :: rest))) : W p l e R s m args below meth c H locs cells slots Q (F0 m pc ls (.ref x :: rest)) := by
  obtain ⟨p0, e0, hk, f, rfl⟩ := op15 hT ht
  exact va_alen hexec hb hKN.1 hP p0 1 hk rfl hv hdg kk
theorem tr_len16 (hexec : p.tables.exec = Jvm.exec) (hb : c.code = cc) (hKN : KN D Y Z s) (hP : va_P D vwCl ws H) (hT : TW Y Z T g q ws) (ht : T x = (16, n, u)) (hv : Int32.ofNat n = v) (hdg : decode cc pc = .ok (.arraylength, 1)) (kk : W p l e R s m args below meth c H locs cells slots Q (F0 m (pc + 1) ls (.int v :: rest))) : W p l e R s m args below meth c H locs cells slots Q (F0 m pc ls (.ref x :: rest)) := by
  obtain ⟨p0, e0, hk, f, rfl, hf⟩ := op16 hT ht
  exact va_alen hexec hb hKN.1 hP p0 2 hk rfl hv hdg kk
theorem tr_ld17 (hexec : p.tables.exec = Jvm.exec) (hb : c.code = cc) (hKN : KN D Y Z s) (hP : va_P D vwCl ws H) (hT : TW Y Z T g q ws) (ht : T x = (17, n, u)) (hin : vp_in i 12) (hdg : decode cc pc = .ok (.aaload, 1)) (kk : ∀ r : Option Nat, (∀ b, r = some b → T b = (3, n, i.toNatClampNeg)) → r = q x i.toNatClampNeg → W p l e R s m args below meth c H locs cells slots Q (F0 m (pc + 1) ls (va_rf r :: rest))) : W p l e R s m args below meth c H locs cells slots Q (F0 m pc ls (.int i :: .ref x :: rest)) := by
  obtain ⟨p0, e0, hk, f, rfl, h0, hf⟩ := op17 hT ht
  exact va_aldq hexec hb hKN.1 hP p0 7 hk rfl hin hdg (kk _ (fun b h => hf _ b h) (h0 _).symm)
theorem tr_st17 (hexec : p.tables.exec = Jvm.exec) (hb : c.code = cc) (hKN : KN D Y Z s) (hP : va_P D vwCl ws H) (hD : va_D A ws) (hS : va_S A H0 H locs) (hT : TW Y Z T g q ws) (ht : T x = (17, n, u)) (hv : T b = (3, n, i.toNatClampNeg)) (hin : vp_in i 12) (hdg : decode cc pc = .ok (.aastore, 1)) (kk : ∀ (w1 : va_W) (H : Heap) (locs : List Loc), va_P D vwCl w1 H → va_D A w1 → va_S A H0 H locs → TW Y Z T g (qset q x i.toNatClampNeg (some b)) w1 → Kp x ws w1 → W p l e R s m args below meth c H locs cells slots Q (F0 m (pc + 1) ls rest)) : W p l e R s m args below meth c H locs cells slots Q (F0 m pc ls (.ref b :: .int i :: .ref x :: rest)) := by
  obtain ⟨p0, e0, hk, f, rfl, h0, hf⟩ := op17 hT ht
  obtain ⟨p1, e1, hk1, x0_, x1_, x2_, a3_, rfl, -⟩ := op3 hT hv
  exact va_astq hexec hb hKN.1 hP hD hS p0 7 p1 7 hk rfl hk1 rfl hin hdg (fun H locs hP hD2 hS => kk _ H locs hP hD2 hS (tw_sg (k := 17) (g2 := g) (q2 := qset q x i.toNatClampNeg (some b)) hT hD hk ht (fun _ _ => rfl) (fun c hc => qset_ne hc) (show Sh17 Y Z T (g x) (qset q x i.toNatClampNeg (some b) x) n u _ from ⟨_, rfl, fun n => by rw [qset_eq]; unfold va_up; split <;> first | rfl | exact h0 n, fun n c hc => by
    unfold va_up at hc
    split at hc
    · rename_i z; rw [← Option.some.inj hc, z]; exact hv
    · exact hf n c hc⟩)) (sw_kp hk))
theorem tr_ld18 (hexec : p.tables.exec = Jvm.exec) (hb : c.code = cc) (hKN : KN D Y Z s) (hP : va_P D vwCl ws H) (hT : TW Y Z T g q ws) (ht : T x = (18, n, u)) (hin : vp_in i 40) (hdg : decode cc pc = .ok (.aaload, 1)) (kk : ∀ r : Option Nat, (∀ b, r = some b → T b = (4, 0, 0)) → W p l e R s m args below meth c H locs cells slots Q (F0 m (pc + 1) ls (va_rf r :: rest))) : W p l e R s m args below meth c H locs cells slots Q (F0 m pc ls (.int i :: .ref x :: rest)) := by
  obtain ⟨p0, e0, hk, f, rfl, hf⟩ := op18 hT ht
  exact va_aldq hexec hb hKN.1 hP p0 8 hk rfl hin hdg (kk _ (fun b h => hf _ b h))
theorem tr_st18 (hexec : p.tables.exec = Jvm.exec) (hb : c.code = cc) (hKN : KN D Y Z s) (hP : va_P D vwCl ws H) (hD : va_D A ws) (hS : va_S A H0 H locs) (hT : TW Y Z T g q ws) (ht : T x = (18, n, u)) (hv : T b = (4, 0, 0)) (hin : vp_in i 40) (hdg : decode cc pc = .ok (.aastore, 1)) (kk : ∀ (w1 : va_W) (H : Heap) (locs : List Loc), va_P D vwCl w1 H → va_D A w1 → va_S A H0 H locs → TW Y Z T g (q) w1 → Kp x ws w1 → W p l e R s m args below meth c H locs cells slots Q (F0 m (pc + 1) ls rest)) : W p l e R s m args below meth c H locs cells slots Q (F0 m pc ls (.ref b :: .int i :: .ref x :: rest)) := by
  obtain ⟨p0, e0, hk, f, rfl, hf⟩ := op18 hT ht
  obtain ⟨p1, e1, hk1, x0_, x1_, x2_, x3_, x4_, x5_, rfl, -⟩ := op4 hT hv
  exact va_astq hexec hb hKN.1 hP hD hS p0 8 p1 9 hk rfl hk1 rfl hin hdg (fun H locs hP hD2 hS => kk _ H locs hP hD2 hS (st18 hT hD hk ht ⟨_, rfl, fun n c hc => by
    unfold va_up at hc
    split at hc
    · rw [← Option.some.inj hc]; exact hv
    · exact hf n c hc⟩) (sw_kp hk))
theorem tr_ld19 (hexec : p.tables.exec = Jvm.exec) (hb : c.code = cc) (hKN : KN D Y Z s) (hP : va_P D vwCl ws H) (hT : TW Y Z T g q ws) (ht : T x = (19, n, u)) (hin : vp_in i 4) (hdg : decode cc pc = .ok (.aaload, 1)) (kk : ∀ r : Option Nat, (∀ b, r = some b → T b = (2, i.toNatClampNeg + 1, 0)) → r = q x i.toNatClampNeg → W p l e R s m args below meth c H locs cells slots Q (F0 m (pc + 1) ls (va_rf r :: rest))) : W p l e R s m args below meth c H locs cells slots Q (F0 m pc ls (.int i :: .ref x :: rest)) := by
  obtain ⟨p0, e0, hk, f, rfl, h0, hf⟩ := op19 hT ht
  exact va_aldq hexec hb hKN.1 hP p0 4 hk rfl hin hdg (kk _ (fun b h => hf _ b h) (h0 _).symm)
theorem tr_st19 (hexec : p.tables.exec = Jvm.exec) (hb : c.code = cc) (hKN : KN D Y Z s) (hP : va_P D vwCl ws H) (hD : va_D A ws) (hS : va_S A H0 H locs) (hT : TW Y Z T g q ws) (ht : T x = (19, n, u)) (hv : T b = (2, i.toNatClampNeg + 1, 0)) (hin : vp_in i 4) (hdg : decode cc pc = .ok (.aastore, 1)) (kk : ∀ (w1 : va_W) (H : Heap) (locs : List Loc), va_P D vwCl w1 H → va_D A w1 → va_S A H0 H locs → TW Y Z T g (qset q x i.toNatClampNeg (some b)) w1 → Kp x ws w1 → W p l e R s m args below meth c H locs cells slots Q (F0 m (pc + 1) ls rest)) : W p l e R s m args below meth c H locs cells slots Q (F0 m pc ls (.ref b :: .int i :: .ref x :: rest)) := by
  obtain ⟨p0, e0, hk, f, rfl, h0, hf⟩ := op19 hT ht
  obtain ⟨p1, e1, hk1, x0_, a1_, x2_, a3_, x4_, a5_, a6_, x7_, a8_, a9_, x10_, a11_, x12_, rfl, -⟩ := op2 hT hv
  exact va_astq hexec hb hKN.1 hP hD hS p0 4 p1 6 hk rfl hk1 rfl hin hdg (fun H locs hP hD2 hS => kk _ H locs hP hD2 hS (tw_sg (k := 19) (g2 := g) (q2 := qset q x i.toNatClampNeg (some b)) hT hD hk ht (fun _ _ => rfl) (fun c hc => qset_ne hc) (show Sh19 Y Z T (g x) (qset q x i.toNatClampNeg (some b) x) n u _ from ⟨_, rfl, fun n => by rw [qset_eq]; unfold va_up; split <;> first | rfl | exact h0 n, fun n c hc => by
    unfold va_up at hc
    split at hc
    · rename_i z; rw [← Option.some.inj hc, z]; exact hv
    · exact hf n c hc⟩)) (sw_kp hk))
theorem tr_ld20 (hexec : p.tables.exec = Jvm.exec) (hb : c.code = cc) (hKN : KN D Y Z s) (hP : va_P D vwCl ws H) (hT : TW Y Z T g q ws) (ht : T x = (20, n, u)) (hin : vp_in i 6) (hdg : decode cc pc = .ok (.aaload, 1)) (kk : ∀ r : Option Nat, (∀ b, r = some b → T b = (5, 0, 0)) → W p l e R s m args below meth c H locs cells slots Q (F0 m (pc + 1) ls (va_rf r :: rest))) : W p l e R s m args below meth c H locs cells slots Q (F0 m pc ls (.int i :: .ref x :: rest)) := by
  obtain ⟨p0, e0, hk, f, rfl, hf⟩ := op20 hT ht
  exact va_aldq hexec hb hKN.1 hP p0 5 hk rfl hin hdg (kk _ (fun b h => hf _ b h))
theorem tr_st20 (hexec : p.tables.exec = Jvm.exec) (hb : c.code = cc) (hKN : KN D Y Z s) (hP : va_P D vwCl ws H) (hD : va_D A ws) (hS : va_S A H0 H locs) (hT : TW Y Z T g q ws) (ht : T x = (20, n, u)) (hv : T b = (5, 0, 0)) (hin : vp_in i 6) (hdg : decode cc pc = .ok (.aastore, 1)) (kk : ∀ (w1 : va_W) (H : Heap) (locs : List Loc), va_P D vwCl w1 H → va_D A w1 → va_S A H0 H locs → TW Y Z T g (q) w1 → Kp x ws w1 → W p l e R s m args below meth c H locs cells slots Q (F0 m (pc + 1) ls rest)) : W p l e R s m args below meth c H locs cells slots Q (F0 m pc ls (.ref b :: .int i :: .ref x :: rest)) := by
  obtain ⟨p0, e0, hk, f, rfl, hf⟩ := op20 hT ht
  obtain ⟨p1, e1, hk1, x0_, x1_, x2_, x3_, x4_, x5_, x6_, x7_, a8_, a9_, a10_, a11_, a12_, x13_, rfl, -⟩ := op5 hT hv
  exact va_astq hexec hb hKN.1 hP hD hS p0 5 p1 8 hk rfl hk1 rfl hin hdg (fun H locs hP hD2 hS => kk _ H locs hP hD2 hS (st20 hT hD hk ht ⟨_, rfl, fun n c hc => by
    unfold va_up at hc
    split at hc
    · rw [← Option.some.inj hc]; exact hv
    · exact hf n c hc⟩) (sw_kp hk))
theorem tr_ld21 (hexec : p.tables.exec = Jvm.exec) (hb : c.code = cc) (hKN : KN D Y Z s) (hP : va_P D vwCl ws H) (hT : TW Y Z T g q ws) (ht : T x = (21, n, u)) (hin : vp_in i n) (hdg : decode cc pc = .ok (.aaload, 1)) (kk : ∀ r : Option Nat, (∀ b, r = some b → T b = (6, 0, 0)) → W p l e R s m args below meth c H locs cells slots Q (F0 m (pc + 1) ls (va_rf r :: rest))) : W p l e R s m args below meth c H locs cells slots Q (F0 m pc ls (.int i :: .ref x :: rest)) := by
  obtain ⟨p0, e0, hk, f, rfl, hf⟩ := op21 hT ht
  exact va_aldq hexec hb hKN.1 hP p0 6 hk rfl hin hdg (kk _ (fun b h => hf _ b h))
theorem tr_st21 (hexec : p.tables.exec = Jvm.exec) (hb : c.code = cc) (hKN : KN D Y Z s) (hP : va_P D vwCl ws H) (hD : va_D A ws) (hS : va_S A H0 H locs) (hT : TW Y Z T g q ws) (ht : T x = (21, n, u)) (hv : T b = (6, 0, 0)) (hin : vp_in i n) (hdg : decode cc pc = .ok (.aastore, 1)) (kk : ∀ (w1 : va_W) (H : Heap) (locs : List Loc), va_P D vwCl w1 H → va_D A w1 → va_S A H0 H locs → TW Y Z T g (q) w1 → Kp x ws w1 → W p l e R s m args below meth c H locs cells slots Q (F0 m (pc + 1) ls rest)) : W p l e R s m args below meth c H locs cells slots Q (F0 m pc ls (.ref b :: .int i :: .ref x :: rest)) := by
  obtain ⟨p0, e0, hk, f, rfl, hf⟩ := op21 hT ht
  obtain ⟨p1, e1, hk1, x0_, x1_, x2_, x3_, x4_, x5_, x6_, rfl, -⟩ := op6 hT hv
  exact va_astq hexec hb hKN.1 hP hD hS p0 6 p1 1 hk rfl hk1 rfl hin hdg (fun H locs hP hD2 hS => kk _ H locs hP hD2 hS (st21 hT hD hk ht ⟨_, rfl, fun n c hc => by
    unfold va_up at hc
    split at hc
    · rw [← Option.some.inj hc]; exact hv
    · exact hf n c hc⟩) (sw_kp hk))
theorem tr_st14 (hexec : p.tables.exec = Jvm.exec) (hb : c.code = cc) (hKN : KN D Y Z s) (hP : va_P D vwCl ws H) (hD : va_D A ws) (hS : va_S A H0 H locs) (hT : TW Y Z T g q ws) (ht : T x = (14, n, u)) (hin : vp_in i 12) (hdg : decode cc pc = .ok (.iastore, 1)) (kk : ∀ (w1 : va_W) (H : Heap) (locs : List Loc), va_P D vwCl w1 H → va_D A w1 → va_S A H0 H locs → TW Y Z T (gset g x i.toNatClampNeg v) q w1 → Kp x ws w1 → W p l e R s m args below meth c H locs cells slots Q (F0 m (pc + 1) ls rest)) : W p l e R s m args below meth c H locs cells slots Q (F0 m pc ls (.int v :: .int i :: .ref x :: rest)) := by
  obtain ⟨p0, e0, hk, f, rfl, hf⟩ := op14 hT ht
  exact va_iast hexec hb hKN.1 hP hD hS p0 0 hk rfl hin hdg (fun H locs hP hD2 hS => kk _ H locs hP hD2 hS (tw_sg (k := 14) (g2 := gset g x i.toNatClampNeg v) (q2 := q) hT hD hk ht (fun c hc => gset_ne hc) (fun _ _ => rfl) (show Sh14 Y Z T (gset g x i.toNatClampNeg v x) (q x) n u _ from ⟨_, rfl, fun n => by rw [gset_eq]; unfold upd; split <;> first | rfl | exact hf n⟩)) (sw_kp hk))
end TR
