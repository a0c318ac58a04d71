/-! ===== words, tables, contracts: the base of all walks (mine) ===== -/
def GW : List Cond := lw_tbl.filter goodWord
theorem mt1 {w : Cond} (i : Nat) (hi : tables_1_1[i]? = some w) : w ∈ tables_1 := by have h := List.mem_of_getElem? hi; exact (List.mem_append_left _ h)
theorem mt2 {w : Cond} (i : Nat) (hi : tables_1_2[i]? = some w) : w ∈ tables_1 := by have h := List.mem_of_getElem? hi; exact (List.mem_append_right _ (List.mem_append_left _ h))
theorem mt3 {w : Cond} (i : Nat) (hi : tables_1_3[i]? = some w) : w ∈ tables_1 := by have h := List.mem_of_getElem? hi; exact (List.mem_append_right _ (List.mem_append_right _ (List.mem_append_left _ h)))
theorem mt4 {w : Cond} (i : Nat) (hi : tables_1_4[i]? = some w) : w ∈ tables_1 := by have h := List.mem_of_getElem? hi; exact (List.mem_append_right _ (List.mem_append_right _ (List.mem_append_right _ (List.mem_append_left _ h))))
theorem mt5 {w : Cond} (i : Nat) (hi : tables_1_5[i]? = some w) : w ∈ tables_1 := by have h := List.mem_of_getElem? hi; exact (List.mem_append_right _ (List.mem_append_right _ (List.mem_append_right _ (List.mem_append_right _ (List.mem_append_left _ h)))))
theorem mt6 {w : Cond} (i : Nat) (hi : tables_1_6[i]? = some w) : w ∈ tables_1 := by have h := List.mem_of_getElem? hi; exact (List.mem_append_right _ (List.mem_append_right _ (List.mem_append_right _ (List.mem_append_right _ (List.mem_append_right _ (List.mem_append_left _ h))))))
theorem mt7 {w : Cond} (i : Nat) (hi : tables_1_7[i]? = some w) : w ∈ tables_1 := by have h := List.mem_of_getElem? hi; exact (List.mem_append_right _ (List.mem_append_right _ (List.mem_append_right _ (List.mem_append_right _ (List.mem_append_right _ (List.mem_append_right _ (List.mem_append_left _ h)))))))
theorem mt8 {w : Cond} (i : Nat) (hi : tables_1_8[i]? = some w) : w ∈ tables_1 := by have h := List.mem_of_getElem? hi; exact (List.mem_append_right _ (List.mem_append_right _ (List.mem_append_right _ (List.mem_append_right _ (List.mem_append_right _ (List.mem_append_right _ (List.mem_append_right _ h)))))))
theorem gw_t {w : Cond} (h : w ∈ tables_1) (hg : goodWord w = true) : w ∈ GW := List.mem_filter.mpr ⟨List.mem_append_right _ h, hg⟩
theorem gw_s {w : Cond} (i : Nat) (h : (k2_sels lw_privs)[i]? = some w) (hg : goodWord w = true) : w ∈ GW := List.mem_filter.mpr ⟨List.mem_append_left _ (List.mem_of_getElem? h), hg⟩
theorem gw_tbl {w : Cond} (h : w ∈ GW) : w ∈ lw_tbl := (List.mem_filter.mp h).1
theorem gw_good {w : Cond} (h : w ∈ GW) : (w.onTables && w.keeps) = true ∨ ∃ ty, w = .arrayClass ty := good_of_word (List.mem_filter.mp h).2
theorem gw_cons {w : Cond} (h : w ∈ GW) : GoodIn GW (w :: GW) := fun v hv => (List.mem_cons.mp hv).elim (fun e => by rw [e]; exact ⟨h, gw_good h⟩) (fun h2 => ⟨h2, gw_good h2⟩)
theorem gw_app {ws : List Cond} (h : ∀ w ∈ ws, w ∈ GW) {w : Cond} (hw : w ∈ GW) : GoodIn GW (ws ++ w :: GW) := fun v hv => (List.mem_append.mp hv).elim (fun e => ⟨h v e, gw_good (h v e)⟩) (fun h2 => gw_cons hw v h2)
def isNest : Cond → Bool
  | .fieldLinkNest _ _ _ _ _ _ => true
  | .methodLinkNest _ _ _ _ => true
  | _ => false
def TYS (Y : Nat → ClassId) : List (ClassId × FieldType) := [(Y 0, .int), (Y 1, .long), (Y 2, .byte), (Y 3, .boolean), (Y 4, .object "DimStars$Sky"), (Y 5, .object "DimStars$Text"), (Y 6, .object "DimStars$Finding"), (Y 7, .object "DimStars$Star"), (Y 8, .object "DimStars$World")]
def AOL : List String := ["DimStars$Sky", "DimStars$Text", "DimStars$Finding", "DimStars$Star", "DimStars$World"]
/-- what the tables say at a state: classes, array classes, links to nest mates, String constants -/
def KN (D : va_G) (Y : Nat → ClassId) (Z : Nat → Nat) (U : State) : Prop := va_K D vwCl (TYS Y) U ∧ (∀ w ∈ tables_1, isNest w = true → va_Nw w U) ∧ (∀ C ∈ AOL, va_AO C U) ∧ ∀ (i : Nat) (q : String × Nat × String), ZL[i]? = some q → vk_R q.1 q.2.1 q.2.2 (Z i) U
theorem nest_warm {w : Cond} (h : isNest w = true) {s U : State} (hW : s.WarmedH U.vm) (hZ : va_Nw w s) : va_Nw w U := by
  cases w <;> first | exact va_Nw.warmF hW hZ | exact va_Nw.warmM hW hZ | cases h
theorem nest_same {w : Cond} (h : isNest w = true) {u U : State} (hv : u.vm = U.vm) (hZ : va_Nw w u) : va_Nw w U := by
  cases w <;> first | exact va_Nw.same rfl hv hZ | cases h
theorem KN.warm {D : va_G} {Y : Nat → ClassId} {Z : Nat → Nat} {s U : State} (hW : s.WarmedH U.vm) (h : KN D Y Z s) : KN D Y Z U := ⟨va_K.moved hW.alike h.1, fun w hw hn => nest_warm hn hW (h.2.1 w hw hn), fun C hC => (h.2.2.1 C hC).moved hW.alike, fun i q hq => (h.2.2.2 i q hq).warm hW⟩
theorem KN.same {D : va_G} {Y : Nat → ClassId} {Z : Nat → Nat} {u U : State} (hv : u.vm = U.vm) (h : KN D Y Z u) : KN D Y Z U := ⟨va_K.moved (by rw [← hv]; exact Vm.Alike.refl u.vm) h.1, fun w hw hn => nest_same hn hv (h.2.1 w hw hn), fun C hC => (h.2.2.1 C hC).moved (by rw [← hv]; exact Vm.Alike.refl u.vm), fun i q hq => (h.2.2.2 i q hq).same hv.symm⟩
/-- a method's start -/
def CP (D : va_G) (Y : Nat → ClassId) (Z : Nat → Nat) (ws : va_W) (sz : Nat) : State → Prop := fun U => U.heap.size = sz ∧ va_P D vwCl ws U.heap ∧ KN D Y Z U ∧ va_D (fun _ => True) ws
/-- the cells behind a method -/
def CB (D : va_G) (ws : va_W) (A : Nat → Prop) : State → Prop := fun t => va_P D vwCl ws t.heap ∧ va_D A ws
/-- a method's end -/
def QG {S : Type} (val : S → Option Value) (post : S → Prop) (B : S → State → Prop) (A : Nat → Prop) : Array Value → State → Outcome → State → Prop := fun _ st oc t => (∃ u : S, oc = .returned (val u) ∧ post u ∧ B u t) ∧ va_F A st t
theorem CP.blind {av : List Value} {D : va_G} {Y : Nat → ClassId} {Z : Nat → Nat} {ws : va_W} {sz : Nat} : FrameBlind (va_Pc av (CP D Y Z ws sz)) := fun a U g mk q => by
  obtain ⟨q0, q1, qP, qK, qD⟩ := q
  exact ⟨q0, q1, qP, KN.same (u := U) (U := U.calling g mk a) rfl qK, qD⟩
theorem CP.at {av : List Value} {D : va_G} {Y : Nat → ClassId} {Z : Nat → Nat} {ws : va_W} {s : State} {H : Heap} {A : Nat → Prop} (hP : va_P D vwCl ws H) (hK : KN D Y Z s) (hD : va_D A ws) : ∀ U : State, U.heap = H → s.WarmedH U.vm → va_Pc av (CP D Y Z ws H.size) av.toArray U := fun U hU hW => ⟨rfl, by rw [hU], by rw [hU]; exact hP, hK.warm hW, hD.weaken (fun _ _ _ _ => trivial)⟩
theorem CB.nil {D : va_G} {A : Nat → Prop} {t : State} : CB D [] A t := ⟨fun k q h => by simp at h, fun i j p q h => by simp at h, fun k q h => by simp at h⟩
theorem CB.mk {D : va_G} {A : Nat → Prop} {ws : va_W} {t : State} {H : Heap} (ht : t.heap = H) (hP : va_P D vwCl ws H) (hD : va_D A ws) : CB D ws A t := ⟨by rw [ht]; exact hP, hD⟩
theorem RA_cls {U : State} {cA : ClassId} {ty : FieldType} (h : va_RA U cA ty) : U.vm.findClass ("[" ++ ty.toString) = some cA := by
  cases ty with
  | object C =>
    obtain ⟨kA, comp, h1, h2, h3, h4⟩ := h
    exact h4
  | _ => exact h
theorem i_lt {x y : Int32} {X Y : Int} (hx : x.toInt = X) (hy : y.toInt = Y) (h : x < y) : X < Y := by rw [← hx, ← hy]; exact Int32.lt_iff_toInt_lt.mp h
theorem i_nlt {x y : Int32} {X Y : Int} (hx : x.toInt = X) (hy : y.toInt = Y) (h : ¬ x < y) : ¬ X < Y := by rw [← hx, ← hy]; exact fun q => h (Int32.lt_iff_toInt_lt.mpr q)
theorem i_le {x y : Int32} {X Y : Int} (hx : x.toInt = X) (hy : y.toInt = Y) (h : x ≤ y) : X ≤ Y := by rw [← hx, ← hy]; exact Int32.le_iff_toInt_le.mp h
theorem i_nle {x y : Int32} {X Y : Int} (hx : x.toInt = X) (hy : y.toInt = Y) (h : ¬ x ≤ y) : ¬ X ≤ Y := by rw [← hx, ← hy]; exact fun q => h (Int32.le_iff_toInt_le.mpr q)
theorem i_eq {x y : Int32} {X Y : Int} (hx : x.toInt = X) (hy : y.toInt = Y) (h : x = y) : X = Y := by rw [← hx, ← hy, h]
theorem i_ne {x y : Int32} {X Y : Int} (hx : x.toInt = X) (hy : y.toInt = Y) (h : ¬ x = y) : ¬ X = Y := by rw [← hx, ← hy]; exact fun q => h (Int32.toInt_inj.mp q)
theorem l_lt {x y : Int64} {X Y : Int} (hx : x.toInt = X) (hy : y.toInt = Y) (h : lg_cmp x y < 0) : X < Y := by rw [← hx, ← hy]; exact Int64.lt_iff_toInt_lt.mp ((lg_cmp_lt x y).mp h)
theorem l_nlt {x y : Int64} {X Y : Int} (hx : x.toInt = X) (hy : y.toInt = Y) (h : ¬ lg_cmp x y < 0) : ¬ X < Y := by rw [← hx, ← hy]; exact fun q => h ((lg_cmp_lt x y).mpr (Int64.lt_iff_toInt_lt.mpr q))
theorem l_gt {x y : Int64} {X Y : Int} (hx : x.toInt = X) (hy : y.toInt = Y) (h : 0 < lg_cmp x y) : Y < X := by rw [← hx, ← hy]; exact Int64.lt_iff_toInt_lt.mp ((lg_cmp_gt x y).mp h)
theorem l_ngt {x y : Int64} {X Y : Int} (hx : x.toInt = X) (hy : y.toInt = Y) (h : ¬ 0 < lg_cmp x y) : ¬ Y < X := by rw [← hx, ← hy]; exact fun q => h ((lg_cmp_gt x y).mpr (Int64.lt_iff_toInt_lt.mpr q))
theorem l_ge {x y : Int64} {X Y : Int} (hx : x.toInt = X) (hy : y.toInt = Y) (h : 0 ≤ lg_cmp x y) : Y ≤ X := by rw [← hx, ← hy]; exact Int64.le_iff_toInt_le.mp ((lg_cmp_ge x y).mp h)
theorem l_nge {x y : Int64} {X Y : Int} (hx : x.toInt = X) (hy : y.toInt = Y) (h : ¬ 0 ≤ lg_cmp x y) : ¬ Y ≤ X := by rw [← hx, ← hy]; exact fun q => h ((lg_cmp_ge x y).mpr (Int64.le_iff_toInt_le.mpr q))
theorem l_le {x y : Int64} {X Y : Int} (hx : x.toInt = X) (hy : y.toInt = Y) (h : lg_cmp x y ≤ 0) : X ≤ Y := by rw [← hx, ← hy]; exact Int64.le_iff_toInt_le.mp ((lg_cmp_le x y).mp h)
theorem l_nle {x y : Int64} {X Y : Int} (hx : x.toInt = X) (hy : y.toInt = Y) (h : ¬ lg_cmp x y ≤ 0) : ¬ X ≤ Y := by rw [← hx, ← hy]; exact fun q => h ((lg_cmp_le x y).mpr (Int64.le_iff_toInt_le.mpr q))
theorem l_eq {x y : Int64} {X Y : Int} (hx : x.toInt = X) (hy : y.toInt = Y) (h : lg_cmp x y = 0) : X = Y := by rw [← hx, ← hy, (lg_cmp_eq x y).mp h]
theorem l_ne {x y : Int64} {X Y : Int} (hx : x.toInt = X) (hy : y.toInt = Y) (h : ¬ lg_cmp x y = 0) : ¬ X = Y := by rw [← hx, ← hy]; exact fun q => h ((lg_cmp_eq x y).mpr (Int64.toInt_inj.mp q))
theorem i_bmod {z : Int} (h1 : -2147483648 ≤ z) (h2 : z < 2147483648) : z.bmod (2 ^ 32) = z := by
  rw [Int.bmod_eq_of_le (by omega) (by omega)]
theorem i_add {x y v : Int32} {X Y : Int} (hx : x.toInt = X) (hy : y.toInt = Y) (hv : v = x + y) (h1 : -2147483648 ≤ X + Y) (h2 : X + Y < 2147483648) : v.toInt = X + Y := by
  rw [hv, Int32.toInt_add, hx, hy, i_bmod h1 h2]
theorem i_sub {x y v : Int32} {X Y : Int} (hx : x.toInt = X) (hy : y.toInt = Y) (hv : v = x - y) (h1 : -2147483648 ≤ X - Y) (h2 : X - Y < 2147483648) : v.toInt = X - Y := by
  rw [hv, Int32.toInt_sub, hx, hy, i_bmod h1 h2]
theorem i_mul {x y v : Int32} {X Y : Int} (hx : x.toInt = X) (hy : y.toInt = Y) (hv : v = x * y) (h1 : -2147483648 ≤ X * Y) (h2 : X * Y < 2147483648) : v.toInt = X * Y := by
  rw [hv, Int32.toInt_mul, hx, hy, i_bmod h1 h2]
theorem i_is {x y : Int32} {X : Int} (hx : x.toInt = X) (hy : y.toInt = X) : x = y := Int32.toInt_inj.mp (hx.trans hy.symm)
theorem nilP {D : va_G} {H : Heap} : va_P D vwCl [] H := fun k q h => by simp at h
theorem nilD {A : Nat → Prop} : va_D A [] := ⟨fun i j p q h => by simp at h, fun k q h => by simp at h⟩
section CG
variable {p : Program} {l : Launch} {e : Env} {R : Room} {s : State} {m : MethodId} {args : Array Value} {below : List Frame} {meth : Method} {c : Code} {H : Heap} {locs : List Loc} {cells slots : Nat} {Q : State → Prop}
variable {pc : Nat} {ls : Array Slot} {rest st0 : List Value} {a : Array Value} {A0 : Nat → Prop} {H0 : Heap} {mc ms : Nat} {D : va_G} {Y : Nat → ClassId} {Z : Nat → Nat}
theorem w_start {ws : va_W} {g : JFrame} (hP : va_P D vwCl ws s.heap) (k : ∀ (H : Heap) (locs : List Loc), va_P D vwCl ws H → va_S A0 s.heap H locs → W p l e R s m args below meth c H locs cells slots Q g) : W p l e R s m args below meth c s.heap [] cells slots Q g := k _ _ hP va_S.rf
/-- a call's end: the caller's other cells, and the callee's -/
theorem cg {S : Type} {val : S → Option Value} {post : S → Prop} {w1 : S → va_W} {ws wc wr : va_W} (isC isR : List Nat)
    (hr : va_Run p l e R s m args below meth c H locs cells slots mc ms (F0 m pc ls st0) rest (QG val post (fun u => CB D (w1 u) (va_A wc H.size)) (va_A wc H.size) a) (va_A wc H.size))
    (hP : va_P D vwCl ws H) (hD : va_D A0 ws) (hS : va_S A0 H0 H locs) (hA : ∀ q, H0.size ≤ q → A0 q)
    (hC : isC.map (fun i => ws[i]?) = wc.map some) (hR : isR.map (fun i => ws[i]?) = wr.map some) (hn : va_nd isR = true) (hdis : ∀ i ∈ isR, i ∉ isC)
    (kk : ∀ (u : S) (H1 : Heap) (locs1 : List Loc), post u → va_P D vwCl (wr ++ w1 u) H1 → va_D A0 (wr ++ w1 u) → va_S A0 H0 H1 locs1 → W p l e R s m args below meth c H1 locs1 (cells + mc) (slots + ms) Q (F0 m (pc + 3) ls ((val u).toList ++ rest))) : W p l e R s m args below meth c H locs cells slots Q (F0 m pc ls st0) := by
  have hF := va_free (wc := wc) hD hS hA isC hC
  intro T hT X
  obtain ⟨v, st₀, t, T', L, h0, X', hL, e1, e2, ⟨⟨u, hv, hp, hPu, hDu⟩, hz, hk⟩, st⟩ := hr T hT X
  cases hv
  rw [h0] at hz hk
  have hk1 : ∀ q : Nat, q < H.size → ¬ va_A wc H.size q → T'.heap[q]? = H[q]? := fun q h1 h2 => by rw [e1]; exact hk q h1 h2
  obtain ⟨hP2, hD2⟩ := va_join hP hD isC isR hC hR hn hdis hk1 hF (by rw [e1]; exact hPu) hDu
  obtain ⟨t2, a1, b1⟩ := kk u T'.heap (locs ++ L) hp hP2 hD2
    ⟨Nat.le_trans hS.1 (by rw [e1]; exact hz), fun q h1 h2 => by rw [hk1 q (Nat.lt_of_lt_of_le h1 hS.1) (fun z => h2 (hF q z))]; exact hS.2.1 q h1 h2, fun q hq => by
      rcases List.mem_append.mp hq with h | h
      · exact hS.2.2 q h
      · exact hF _ (hL q h)⟩ T' rfl X'
  exact ⟨t2, st t2 a1, b1⟩
/-- the same where the callee has no cells of ours: all stays -/
theorem cg0 {S : Type} {val : S → Option Value} {post : S → Prop} {ws : va_W}
    (hr : va_Run p l e R s m args below meth c H locs cells slots mc ms (F0 m pc ls st0) rest (QG val post (fun _ => CB D [] (va_A [] H.size)) (va_A [] H.size) a) (va_A [] H.size))
    (hP : va_P D vwCl ws H) (hS : va_S A0 H0 H locs) (hA : ∀ q, H0.size ≤ q → A0 q)
    (kk : ∀ (u : S) (H1 : Heap) (locs1 : List Loc), post u → va_P D vwCl ws H1 → va_S A0 H0 H1 locs1 → W p l e R s m args below meth c H1 locs1 (cells + mc) (slots + ms) Q (F0 m (pc + 3) ls ((val u).toList ++ rest))) : W p l e R s m args below meth c H locs cells slots Q (F0 m pc ls st0) := by
  have hF : ∀ q, va_A [] H.size q → A0 q := fun q h => by
    rcases h with ⟨k, x, h⟩ | h
    · simp at h
    · exact hA q (Nat.le_trans hS.1 h)
  intro T hT X
  obtain ⟨v, st₀, t, T', L, h0, X', hL, e1, e2, ⟨⟨u, hv, hp, -⟩, hz, hk⟩, st⟩ := hr T hT X
  cases hv
  rw [h0] at hz hk
  have hk1 : ∀ q : Nat, q < H.size → T'.heap[q]? = H[q]? := fun q h1 => by
    rw [e1]
    refine hk q h1 (fun h => ?_)
    rcases h with ⟨k, x, h⟩ | h
    · simp at h
    · exact absurd h1 (by omega)
  obtain ⟨t2, a1, b1⟩ := kk u T'.heap (locs ++ L) hp (hP.kept (fun k q hq => hk1 q.1 ((hP k q hq).lt)))
    ⟨Nat.le_trans hS.1 (by rw [e1]; exact hz), fun q h1 h2 => by rw [hk1 q (Nat.lt_of_lt_of_le h1 hS.1)]; exact hS.2.1 q h1 h2, fun q hq => by
      rcases List.mem_append.mp hq with h | h
      · exact hS.2.2 q h
      · exact hF _ (hL q h)⟩ T' rfl X'
  exact ⟨t2, st t2 a1, b1⟩
variable {y : MethodName} {cc bytes : ByteArray} {maxL nL index : Nat} {ret : Option FieldType} {own C host : String} {b : Addr} {As : List Value} {rm : Room}
def okN (y : MethodName) (n : Nat) : Prop := y.cls ≠ "java/lang/invoke/MethodHandle" ∧ y.cls ≠ "java/lang/invoke/VarHandle" ∧ (parseMethodDescriptor y.desc).map (fun d => d.parameters.length) = some n
/-- the words of a call: static; instance; constructor; the same of a nest mate -/
def LkS (own : String) (index : Nat) (y : MethodName) (bytes : ByteArray) (maxL : Nat) (ret : Option FieldType) (n : Nat) : Prop := Cond.methodLink own index y ∈ GW ∧ Cond.static y ∈ GW ∧ Cond.initialized y.cls ∈ GW ∧ Cond.code y bytes maxL ret ∈ GW ∧ okN y n
def LkV (own : String) (index : Nat) (y : MethodName) (bytes : ByteArray) (maxL : Nat) (ret : Option FieldType) (n : Nat) : Prop := Cond.methodLink own index y ∈ GW ∧ Cond.instanceMethod y ∈ GW ∧ Cond.selects y.cls y y ∈ GW ∧ Cond.initialized y.cls ∈ GW ∧ Cond.code y bytes maxL ret ∈ GW ∧ okN y n
def LkI (own : String) (index : Nat) (y : MethodName) (bytes : ByteArray) (maxL : Nat) (n : Nat) : Prop := Cond.methodLink own index y ∈ GW ∧ Cond.instanceMethod y ∈ GW ∧ y.name = "<init>" ∧ Cond.initialized y.cls ∈ GW ∧ Cond.code y bytes maxL none ∈ GW ∧ okN y n
def LkNS (own : String) (index : Nat) (y : MethodName) (host : String) (bytes : ByteArray) (maxL : Nat) (ret : Option FieldType) (n : Nat) : Prop := Cond.methodLinkNest own index y host ∈ tables_1 ∧ Cond.static y ∈ GW ∧ Cond.initialized y.cls ∈ GW ∧ Cond.code y bytes maxL ret ∈ GW ∧ okN y n
def LkNV (own : String) (index : Nat) (y : MethodName) (host : String) (bytes : ByteArray) (maxL : Nat) (ret : Option FieldType) (n : Nat) : Prop := Cond.methodLinkNest own index y host ∈ tables_1 ∧ Cond.instanceMethod y ∈ GW ∧ Cond.selects y.cls y y ∈ GW ∧ Cond.initialized y.cls ∈ GW ∧ Cond.code y bytes maxL ret ∈ GW ∧ okN y n
def LkNI (own : String) (index : Nat) (y : MethodName) (host : String) (bytes : ByteArray) (maxL : Nat) (n : Nat) : Prop := Cond.methodLinkNest own index y host ∈ tables_1 ∧ Cond.instanceMethod y ∈ GW ∧ y.name = "<init>" ∧ Cond.initialized y.cls ∈ GW ∧ Cond.code y bytes maxL none ∈ GW ∧ okN y n
/-- the room that a callee wants of its caller's -/
def okR (rm R : Room) (maxL mc ms cells slots : Nat) : Prop := (rm.cells = mc ∧ rm.slots = ms) ∧ (rm.frames + 1 ≤ R.frames ∧ 8 + (maxL + 11) + rm.locals ≤ R.locals) ∧ (cells + mc ≤ R.cells ∧ slots + ms ≤ R.slots)
variable {S : Type} {val : S → Option Value} {post : S → Prop} {Pc : Array Value → State → Prop} {Qc : Array Value → State → Outcome → State → Prop} {free : Addr → Prop}
theorem rn_S (hM : Met l y (.code y bytes maxL ret :: GW) rm Pc Qc mc ms free) (F : CallFix p m c cc nL s args GW own) (K : LkS own index y bytes maxL ret As.length) (hp : PreS s H Pc As) (ho : okR rm R maxL mc ms cells slots) (hls : ls.size = nL) (hst : st0 = As.reverse ++ rest) (hW : (rest.map fun v => v.category).sum ≤ 8) (hdg : decode cc pc = .ok (.invokestatic index, 3)) : va_Run p l e R s m args below meth c H locs cells slots mc ms (F0 m pc ls st0) rest (Qc As.toArray) free := by
  obtain ⟨k1, k2, k3, k4, k5⟩ := K
  have hG : GoodIn GW (va_wsS own index y (.code y bytes maxL ret :: GW)) := gw_app (fun w hw => by
    rcases List.mem_cons.mp hw with rfl | hw
    · exact k1
    rcases List.mem_cons.mp hw with rfl | hw
    · exact k2
    rcases List.mem_cons.mp hw with rfl | hw
    · exact k3
    cases hw) k4
  exact va_runS F hM (va_cwS As.length F.2.2.2.2 hG rfl ho.1.1 ho.1.2 k5 ho.2.1) hp rfl rfl hls hst (lv_room hW) hdg ho.2.2
theorem rn_V (hM : Met l y (.code y bytes maxL ret :: GW) rm Pc Qc mc ms free) (F : CallFix p m c cc nL s args GW own) (K : LkV own index y bytes maxL ret As.length) (hp : PreV s H y.cls b Pc As) (ho : okR rm R maxL mc ms cells slots) (hls : ls.size = nL) (hst : st0 = As.reverse ++ .ref b :: rest) (hW : (rest.map fun v => v.category).sum ≤ 8) (hdg : decode cc pc = .ok (.invokevirtual index, 3)) : va_Run p l e R s m args below meth c H locs cells slots mc ms (F0 m pc ls st0) rest (Qc (Value.ref b :: As).toArray) free := by
  obtain ⟨k1, k2, k3, k4, k5, k6⟩ := K
  have hG : GoodIn GW (wsV own index y.cls y (.code y bytes maxL ret :: GW)) := gw_app (fun w hw => by
    rcases List.mem_cons.mp hw with rfl | hw
    · exact k1
    rcases List.mem_cons.mp hw with rfl | hw
    · exact k2
    rcases List.mem_cons.mp hw with rfl | hw
    · exact k3
    rcases List.mem_cons.mp hw with rfl | hw
    · exact k4
    cases hw) k5
  exact va_runV F hM (cwV As.length F.2.2.2.2 hG rfl ho.1.1 ho.1.2 ⟨rfl, k6⟩ ho.2.1) hp rfl rfl hls hst (lv_room hW) hdg ho.2.2
theorem rn_I (hM : Met l y (.code y bytes maxL none :: GW) rm Pc Qc mc ms free) (F : CallFix p m c cc nL s args GW own) (K : LkI own index y bytes maxL As.length) (hp : PreS s H Pc (.ref b :: As)) (ho : okR rm R maxL mc ms cells slots) (hls : ls.size = nL) (hst : st0 = As.reverse ++ .ref b :: rest) (hW : (rest.map fun v => v.category).sum ≤ 8) (hdg : decode cc pc = .ok (.invokespecial index, 3)) : va_Run p l e R s m args below meth c H locs cells slots mc ms (F0 m pc ls st0) rest (Qc (Value.ref b :: As).toArray) free := by
  obtain ⟨k1, k2, k3, k4, k5, k6⟩ := K
  have hts := F.2.2.2.2
  exact va_runI F hM (cwI As.length hts (gw_cons k5) rfl ho.1.1 ho.1.2 (hts _ k4) (hts _ k1) (hts _ k2) k3 k6 ho.2.1) hp rfl rfl hls hst (lv_room hW) hdg ho.2.2
theorem rn_NS (hM : Met l y (.code y bytes maxL ret :: GW) rm Pc Qc mc ms free) (F : CallFix p m c cc nL s args GW own) (hKN : KN D Y Z s) (K : LkNS own index y host bytes maxL ret As.length) (hp : PreS s H Pc As) (ho : okR rm R maxL mc ms cells slots) (hls : ls.size = nL) (hst : st0 = As.reverse ++ rest) (hW : (rest.map fun v => v.category).sum ≤ 8) (hdg : decode cc pc = .ok (.invokestatic index, 3)) : va_Run p l e R s m args below meth c H locs cells slots mc ms (F0 m pc ls st0) rest (Qc As.toArray) free := by
  obtain ⟨k1, k2, k3, k4, k5⟩ := K
  have hts := F.2.2.2.2
  exact va_runSN F hM ⟨va_cnB As.length hts (gw_cons k4) rfl ho.1.1 ho.1.2 (hKN.2.1 _ k1 rfl) (hts _ k3) k5 ho.2.1, hts _ k2, trivial⟩ hp rfl rfl hls hst (lv_room hW) hdg ho.2.2
theorem rn_NV (hM : Met l y (.code y bytes maxL ret :: GW) rm Pc Qc mc ms free) (F : CallFix p m c cc nL s args GW own) (hKN : KN D Y Z s) (K : LkNV own index y host bytes maxL ret As.length) (hp : PreV s H y.cls b Pc As) (ho : okR rm R maxL mc ms cells slots) (hls : ls.size = nL) (hst : st0 = As.reverse ++ .ref b :: rest) (hW : (rest.map fun v => v.category).sum ≤ 8) (hdg : decode cc pc = .ok (.invokevirtual index, 3)) : va_Run p l e R s m args below meth c H locs cells slots mc ms (F0 m pc ls st0) rest (Qc (Value.ref b :: As).toArray) free := by
  obtain ⟨k1, k2, k3, k4, k5, k6⟩ := K
  have hts := F.2.2.2.2
  exact va_runVN F hM ⟨va_cnB As.length hts (gw_cons k5) rfl ho.1.1 ho.1.2 (hKN.2.1 _ k1 rfl) (hts _ k4) k6 ho.2.1, hts _ k2, hts _ k3⟩ hp rfl rfl hls hst (lv_room hW) hdg ho.2.2
theorem rn_NI (hM : Met l y (.code y bytes maxL none :: GW) rm Pc Qc mc ms free) (F : CallFix p m c cc nL s args GW own) (hKN : KN D Y Z s) (K : LkNI own index y host bytes maxL As.length) (hp : PreS s H Pc (.ref b :: As)) (ho : okR rm R maxL mc ms cells slots) (hls : ls.size = nL) (hst : st0 = As.reverse ++ .ref b :: rest) (hW : (rest.map fun v => v.category).sum ≤ 8) (hdg : decode cc pc = .ok (.invokespecial index, 3)) : va_Run p l e R s m args below meth c H locs cells slots mc ms (F0 m pc ls st0) rest (Qc (Value.ref b :: As).toArray) free := by
  obtain ⟨k1, k2, k3, k4, k5, k6⟩ := K
  have hts := F.2.2.2.2
  exact va_runIN F hM ⟨va_cnB As.length hts (gw_cons k5) rfl ho.1.1 ho.1.2 (hKN.2.1 _ k1 rfl) (hts _ k4) k6 ho.2.1, k3, hts _ k2⟩ hp rfl rfl hls hst (lv_room hW) hdg ho.2.2
/-- a loop: from its head, with a measure that falls -/
theorem w_loop {σ : Type} {stk : List Value} (Inv : σ → Heap → List Loc → Array Slot → Prop) (μ : σ → Nat) (x : σ) (h0 : Inv x H locs ls)
    (step : ∀ (x : σ) (H : Heap) (locs : List Loc) (ls : Array Slot), Inv x H locs ls → (∀ (x' : σ) (H' : Heap) (locs' : List Loc) (ls' : Array Slot), μ x' < μ x → Inv x' H' locs' ls' → W p l e R s m args below meth c H' locs' cells slots Q (F0 m pc ls' stk)) → W p l e R s m args below meth c H locs cells slots Q (F0 m pc ls stk)) : W p l e R s m args below meth c H locs cells slots Q (F0 m pc ls stk) := by
  have key : ∀ (n : Nat) (x : σ) (H : Heap) (locs : List Loc) (ls : Array Slot), μ x < n → Inv x H locs ls → W p l e R s m args below meth c H locs cells slots Q (F0 m pc ls stk) := by
    intro n
    induction n with
    | zero => intro x H locs ls h; exact absurd h (Nat.not_lt_zero _)
    | succ n ih => intro x H locs ls h hI; exact step x H locs ls hI (fun x' H' locs' ls' h' hI' => ih x' H' locs' ls' (by omega) hI')
  exact key (μ x + 1) x H locs ls (Nat.lt_succ_self _) h0
/-- a new array of a primitive type, of the class that the tables have -/
theorem nw_a {ws : va_W} {ty : FieldType} (k : Nat) (hexec : p.tables.exec = Jvm.exec) (hb : c.code = cc) {atype : ArrayType} (harr : (Cond.arrayClass (newarray.typeOf atype)).before args s = true) (hty : newarray.typeOf atype = ty) (hKN : KN D Y Z s) {yk : ClassId} (ht : (TYS Y)[k]? = some (yk, ty)) (hP : va_P D vwCl ws H) (hD : va_D A0 ws) (hS : va_S A0 H0 H locs) (hA : ∀ q, H0.size ≤ q → A0 q)
    {n : Int32} {N' : Nat} {a0 : vp_A} (ha : ∀ cA : ClassId, vp_cell cA a0 = arrV cA N' (fun _ => defaultValue ty)) (hn : ¬ n < 0) (hN : n.toNatClampNeg = N') (hbytes : N' * componentBytes ty ≤ 536870912) (hcells : cells + 1 ≤ R.cells) (hslots : slots + N' ≤ R.slots) (hdg : decode cc pc = .ok (.newarray atype, 2))
    (kk : ∀ (q : Nat) (H1 : Heap), va_P D vwCl (ws ++ [(q, .inl (yk, a0))]) H1 → va_D A0 (ws ++ [(q, .inl (yk, a0))]) → va_S A0 H0 H1 locs →
      W p l e R s m args below meth c H1 locs (cells + 1) (slots + N') Q (F0 m (pc + 2) ls (.ref q :: rest))) : W p l e R s m args below meth c H locs cells slots Q (F0 m pc ls (.int n :: rest)) := by
  refine va_newa hexec hb harr hty hKN.1 hP hD hS hA ha hn hN hbytes hcells hslots hdg (fun q cA H1 hK2 hP2 hD2 hS2 => ?_)
  have e1 := RA_cls (hK2.2 _ (cA, ty) List.getElem?_concat_length).2
  have e2 := RA_cls (hKN.1.2 k _ ht).2
  have e3 : cA = yk := Option.some.inj (e1.symm.trans e2)
  subst e3
  exact kk q H1 hP2 hD2 hS2
/-- a new array of references -/
theorem nw_q {ws : va_W} {own C : String} {index : Nat} (k : Nat) (hexec : p.tables.exec = Jvm.exec) (hb : c.code = cc) (hown : s.vm.findClass own = some m.cls) (hclink : (Cond.classLink own index C).before args s = true) (hC : C ∈ AOL) (hKN : KN D Y Z s) {yk : ClassId} (ht : (TYS Y)[k]? = some (yk, .object C)) (hP : va_P D vwCl ws H) (hD : va_D A0 ws) (hS : va_S A0 H0 H locs) (hA : ∀ q, H0.size ≤ q → A0 q)
    {n : Int32} {N' : Nat} (hn : ¬ n < 0) (hN : n.toNatClampNeg = N') (hbytes : N' * 4 ≤ 536870912) (hcells : cells + 1 ≤ R.cells) (hslots : slots + N' ≤ R.slots) (hdg : decode cc pc = .ok (.anewarray index, 3))
    (kk : ∀ (q : Nat) (H1 : Heap), va_P D vwCl (ws ++ [(q, .inl (yk, N', .inr (.inr (.inr (.inr (fun _ => none))))))]) H1 → va_D A0 (ws ++ [(q, .inl (yk, N', .inr (.inr (.inr (.inr (fun _ => none))))))]) → va_S A0 H0 H1 locs →
      W p l e R s m args below meth c H1 locs (cells + 1) (slots + N') Q (F0 m (pc + 3) ls (.ref q :: rest))) : W p l e R s m args below meth c H locs cells slots Q (F0 m pc ls (.int n :: rest)) := by
  refine va_newq hexec hb hown hclink (hKN.2.2.1 C hC) hKN.1 hP hD hS hA hn hN hbytes hcells hslots hdg (fun q cA H1 hK2 hP2 hD2 hS2 => ?_)
  have e1 := RA_cls (hK2.2 _ (cA, .object C) List.getElem?_concat_length).2
  have e2 := RA_cls (hKN.1.2 k _ ht).2
  have e3 : cA = yk := Option.some.inj (e1.symm.trans e2)
  subst e3
  exact kk q H1 hP2 hD2 hS2
end CG

