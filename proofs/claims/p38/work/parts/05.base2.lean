/-! ===== numbers, joins and calls that take the whole world (mine) ===== -/
theorem i_nz {y : Int32} {Yv : Int} (hy : y.toInt = Yv) (h : Yv ≠ 0) : ¬ y = 0 := fun e => h (by rw [← hy, e]; rfl)
theorem l_nz {y : Int64} {Yv : Int} (hy : y.toInt = Yv) (h : Yv ≠ 0) : ¬ y = 0 := fun e => h (by rw [← hy, e]; rfl)
theorem z_nar {v : Int32} (h : v.toInt = 0 ∨ v.toInt = 1) : narrow .boolean (.int v) = .int v := by
  rcases h with h | h
  · obtain rfl : v = 0 := i_is h (by decide)
    rfl
  · obtain rfl : v = 1 := i_is h (by decide)
    rfl
theorem l_bmod {z : Int} (h1 : -9223372036854775808 ≤ z) (h2 : z < 9223372036854775808) : z.bmod (2 ^ 64) = z := by
  rw [Int.bmod_eq_of_le (by omega) (by omega)]
theorem l_add {x y v : Int64} {X Y : Int} (hx : x.toInt = X) (hy : y.toInt = Y) (hv : v = x + y) (h1 : -9223372036854775808 ≤ X + Y) (h2 : X + Y < 9223372036854775808) : v.toInt = X + Y := by
  rw [hv, Int64.toInt_add, hx, hy, l_bmod h1 h2]
theorem l_sub {x y v : Int64} {X Y : Int} (hx : x.toInt = X) (hy : y.toInt = Y) (hv : v = x - y) (h1 : -9223372036854775808 ≤ X - Y) (h2 : X - Y < 9223372036854775808) : v.toInt = X - Y := by
  rw [hv, Int64.toInt_sub, hx, hy, l_bmod h1 h2]
theorem l_mul {x y v : Int64} {X Y : Int} (hx : x.toInt = X) (hy : y.toInt = Y) (hv : v = x * y) (h1 : -9223372036854775808 ≤ X * Y) (h2 : X * Y < 9223372036854775808) : v.toInt = X * Y := by
  rw [hv, Int64.toInt_mul, hx, hy, l_bmod h1 h2]
theorem mul_rng {X Y a b c d lo hi : Int} (hx : a ≤ X ∧ X ≤ b) (hy : c ≤ Y ∧ Y ≤ d) (h : lo ≤ a * c ∧ lo ≤ a * d ∧ lo ≤ b * c ∧ lo ≤ b * d ∧ a * c ≤ hi ∧ a * d ≤ hi ∧ b * c ≤ hi ∧ b * d ≤ hi) : lo ≤ X * Y ∧ X * Y ≤ hi := by
  obtain ⟨h1, h2, h3, h4, h5, h6, h7, h8⟩ := h
  have key : ∀ y : Int, lo ≤ a * y → lo ≤ b * y → a * y ≤ hi → b * y ≤ hi → lo ≤ X * y ∧ X * y ≤ hi := by
    intro y p q r t
    rcases Int.le_total 0 y with hy0 | hy0
    · have e1 := Int.mul_le_mul_of_nonneg_right hx.1 hy0
      have e2 := Int.mul_le_mul_of_nonneg_right hx.2 hy0
      omega
    · have e1 := Int.mul_le_mul_of_nonpos_right hx.1 hy0
      have e2 := Int.mul_le_mul_of_nonpos_right hx.2 hy0
      omega
  obtain ⟨k1, k2⟩ := key c h1 h3 h5 h7
  obtain ⟨k3, k4⟩ := key d h2 h4 h6 h8
  rcases Int.le_total 0 X with hX | hX
  · have e1 := Int.mul_le_mul_of_nonneg_left hy.1 hX
    have e2 := Int.mul_le_mul_of_nonneg_left hy.2 hX
    omega
  · have e1 := Int.mul_le_mul_of_nonpos_left hX hy.1
    have e2 := Int.mul_le_mul_of_nonpos_left hX hy.2
    omega
theorem i_mulR {x y v : Int32} {X Y a b c d lo hi : Int} (hx : x.toInt = X) (hy : y.toInt = Y) (hv : v = x * y) (h1 : a ≤ X ∧ X ≤ b) (h2 : c ≤ Y ∧ Y ≤ d) (h : lo ≤ a * c ∧ lo ≤ a * d ∧ lo ≤ b * c ∧ lo ≤ b * d ∧ a * c ≤ hi ∧ a * d ≤ hi ∧ b * c ≤ hi ∧ b * d ≤ hi) (hr : -2147483648 ≤ lo ∧ hi < 2147483648) : v.toInt = X * Y ∧ (lo ≤ v.toInt ∧ v.toInt ≤ hi) ∧ (0 ≤ X → c * X ≤ v.toInt ∧ v.toInt ≤ d * X) := by
  have k := mul_rng h1 h2 h
  have e := i_mul hx hy hv (by omega) (by omega)
  exact ⟨e, ⟨by omega, by omega⟩, fun q => ⟨by rw [e, Int.mul_comm c X]; exact Int.mul_le_mul_of_nonneg_left h2.1 q, by rw [e, Int.mul_comm d X]; exact Int.mul_le_mul_of_nonneg_left h2.2 q⟩⟩
theorem l_mulR {x y v : Int64} {X Y a b c d lo hi : Int} (hx : x.toInt = X) (hy : y.toInt = Y) (hv : v = x * y) (h1 : a ≤ X ∧ X ≤ b) (h2 : c ≤ Y ∧ Y ≤ d) (h : lo ≤ a * c ∧ lo ≤ a * d ∧ lo ≤ b * c ∧ lo ≤ b * d ∧ a * c ≤ hi ∧ a * d ≤ hi ∧ b * c ≤ hi ∧ b * d ≤ hi) (hr : -9223372036854775808 ≤ lo ∧ hi < 9223372036854775808) : v.toInt = X * Y ∧ (lo ≤ v.toInt ∧ v.toInt ≤ hi) ∧ (0 ≤ X → c * X ≤ v.toInt ∧ v.toInt ≤ d * X) := by
  have k := mul_rng h1 h2 h
  have e := l_mul hx hy hv (by omega) (by omega)
  exact ⟨e, ⟨by omega, by omega⟩, fun q => ⟨by rw [e, Int.mul_comm c X]; exact Int.mul_le_mul_of_nonneg_left h2.1 q, by rw [e, Int.mul_comm d X]; exact Int.mul_le_mul_of_nonneg_left h2.2 q⟩⟩
theorem i_ne1 {y : Int32} {Y : Int} (hy : y.toInt = Y) (h : 0 < Y) : y ≠ -1 := fun e => by
  rw [e] at hy; rw [← hy] at h; exact absurd h (by decide)
theorem l_ne1 {y : Int64} {Y : Int} (hy : y.toInt = Y) (h : 0 < Y) : y ≠ -1 := fun e => by
  rw [e] at hy; rw [← hy] at h; exact absurd h (by decide)
theorem i_div {x y v : Int32} {X Y : Int} (hx : x.toInt = X) (hy : y.toInt = Y) (hv : v = x / y) (h0 : 0 ≤ X) (h1 : 0 < Y) : v.toInt = X / Y ∧ 0 ≤ v.toInt ∧ v.toInt ≤ X := by
  have e : v.toInt = X / Y := by rw [hv, Int32.toInt_div_of_ne_right _ _ (i_ne1 hy h1), hx, hy, Int.tdiv_eq_ediv_of_nonneg h0]
  have k1 := Int.ediv_nonneg h0 (Int.le_of_lt h1)
  have k2 := Int.ediv_le_self Y h0
  exact ⟨e, by omega, by omega⟩
theorem l_div {x y v : Int64} {X Y : Int} (hx : x.toInt = X) (hy : y.toInt = Y) (hv : v = x / y) (h0 : 0 ≤ X) (h1 : 0 < Y) : v.toInt = X / Y ∧ 0 ≤ v.toInt ∧ v.toInt ≤ X := by
  have e : v.toInt = X / Y := by rw [hv, Int64.toInt_div_of_ne_right _ _ (l_ne1 hy h1), hx, hy, Int.tdiv_eq_ediv_of_nonneg h0]
  have k1 := Int.ediv_nonneg h0 (Int.le_of_lt h1)
  have k2 := Int.ediv_le_self Y h0
  exact ⟨e, by omega, by omega⟩
theorem td_bd {X Y : Int} (h1 : 0 < Y) : (0 ≤ X → 0 ≤ X.tdiv Y ∧ X.tdiv Y ≤ X) ∧ (X ≤ 0 → X ≤ X.tdiv Y ∧ X.tdiv Y ≤ 0) := by
  have key : ∀ Z : Int, 0 ≤ Z → 0 ≤ Z.tdiv Y ∧ Z.tdiv Y ≤ Z := fun Z hZ => by
    rw [Int.tdiv_eq_ediv_of_nonneg hZ]
    exact ⟨Int.ediv_nonneg hZ (Int.le_of_lt h1), Int.ediv_le_self Y hZ⟩
  refine ⟨key X, fun hX => ?_⟩
  have k := key (-X) (by omega)
  rw [Int.neg_tdiv] at k
  omega
theorem tm_bd {X Y : Int} (h1 : 0 < Y) : (0 ≤ X → 0 ≤ X.tmod Y ∧ X.tmod Y < Y ∧ X.tmod Y ≤ X) ∧ (X ≤ 0 → -Y < X.tmod Y ∧ X.tmod Y ≤ 0 ∧ X ≤ X.tmod Y) := by
  have key : ∀ Z : Int, 0 ≤ Z → 0 ≤ Z.tmod Y ∧ Z.tmod Y < Y ∧ Z.tmod Y ≤ Z := fun Z hZ => by
    rw [Int.tmod_eq_emod_of_nonneg hZ]
    exact ⟨Int.emod_nonneg _ (by omega), Int.emod_lt_of_pos _ h1, by have a := Int.ediv_nonneg hZ (Int.le_of_lt h1); have b := Int.emod_add_mul_ediv Z Y; have c := Int.mul_nonneg (Int.le_of_lt h1) a; omega⟩
  refine ⟨key X, fun hX => ?_⟩
  have k := key (-X) (by omega)
  rw [Int.neg_tmod] at k
  omega
theorem i_divS {x y v : Int32} {X Y : Int} (hx : x.toInt = X) (hy : y.toInt = Y) (hv : v = x / y) (h1 : 0 < Y) : (0 ≤ X → v.toInt = X / Y ∧ 0 ≤ v.toInt ∧ v.toInt ≤ X) ∧ (X ≤ 0 → X ≤ v.toInt ∧ v.toInt ≤ 0) := by
  rw [hv, Int32.toInt_div_of_ne_right _ _ (i_ne1 hy h1), hx, hy]
  exact ⟨fun q => ⟨Int.tdiv_eq_ediv_of_nonneg q, (td_bd h1).1 q⟩, (td_bd h1).2⟩
theorem l_divS {x y v : Int64} {X Y : Int} (hx : x.toInt = X) (hy : y.toInt = Y) (hv : v = x / y) (h1 : 0 < Y) : (0 ≤ X → v.toInt = X / Y ∧ 0 ≤ v.toInt ∧ v.toInt ≤ X) ∧ (X ≤ 0 → X ≤ v.toInt ∧ v.toInt ≤ 0) := by
  rw [hv, Int64.toInt_div_of_ne_right _ _ (l_ne1 hy h1), hx, hy]
  exact ⟨fun q => ⟨Int.tdiv_eq_ediv_of_nonneg q, (td_bd h1).1 q⟩, (td_bd h1).2⟩
theorem i_remE {x y v : Int32} {X Y : Int} (hx : x.toInt = X) (hy : y.toInt = Y) (hv : v = x - x / y * y) (h1 : 0 < Y) : v.toInt = X.tmod Y := by
  have r1 := Int32.le_toInt x
  have r2 := Int32.toInt_lt x
  rw [hx] at r1 r2
  have hq : (x / y).toInt = X.tdiv Y := by rw [Int32.toInt_div_of_ne_right _ _ (i_ne1 hy h1), hx, hy]
  have e : X.tdiv Y * Y = X - X.tmod Y := by rw [Int.tmod_def, Int.mul_comm]; omega
  have k := @tm_bd X Y h1
  have hm : (x / y * y).toInt = X.tdiv Y * Y := i_mul hq hy rfl (by omega) (by omega)
  have hs := i_sub hx hm hv (by omega) (by omega)
  omega
theorem l_remE {x y v : Int64} {X Y : Int} (hx : x.toInt = X) (hy : y.toInt = Y) (hv : v = x - x / y * y) (h1 : 0 < Y) : v.toInt = X.tmod Y := by
  have r1 := Int64.le_toInt x
  have r2 := Int64.toInt_lt x
  rw [hx] at r1 r2
  have hq : (x / y).toInt = X.tdiv Y := by rw [Int64.toInt_div_of_ne_right _ _ (l_ne1 hy h1), hx, hy]
  have e : X.tdiv Y * Y = X - X.tmod Y := by rw [Int.tmod_def, Int.mul_comm]; omega
  have k := @tm_bd X Y h1
  have hm : (x / y * y).toInt = X.tdiv Y * Y := l_mul hq hy rfl (by omega) (by omega)
  have hs := l_sub hx hm hv (by omega) (by omega)
  omega
theorem i_rem {x y v : Int32} {X Y : Int} (hx : x.toInt = X) (hy : y.toInt = Y) (hv : v = x - x / y * y) (h0 : 0 ≤ X) (h1 : 0 < Y) : v.toInt = X % Y ∧ 0 ≤ v.toInt ∧ v.toInt < Y ∧ v.toInt ≤ X := by
  have e := i_remE hx hy hv h1
  have k := (tm_bd h1).1 h0
  rw [← e] at k
  exact ⟨by rw [e, Int.tmod_eq_emod_of_nonneg h0], k⟩
theorem i_remS {x y v : Int32} {X Y : Int} (hx : x.toInt = X) (hy : y.toInt = Y) (hv : v = x - x / y * y) (h1 : 0 < Y) : (0 ≤ X → 0 ≤ v.toInt ∧ v.toInt < Y ∧ v.toInt ≤ X) ∧ (X ≤ 0 → -Y < v.toInt ∧ v.toInt ≤ 0 ∧ X ≤ v.toInt) := by
  rw [i_remE hx hy hv h1]; exact tm_bd h1
theorem l_rem {x y v : Int64} {X Y : Int} (hx : x.toInt = X) (hy : y.toInt = Y) (hv : v = x - x / y * y) (h0 : 0 ≤ X) (h1 : 0 < Y) : v.toInt = X % Y ∧ 0 ≤ v.toInt ∧ v.toInt < Y ∧ v.toInt ≤ X := by
  have e := l_remE hx hy hv h1
  have k := (tm_bd h1).1 h0
  rw [← e] at k
  exact ⟨by rw [e, Int.tmod_eq_emod_of_nonneg h0], k⟩
theorem l_remS {x y v : Int64} {X Y : Int} (hx : x.toInt = X) (hy : y.toInt = Y) (hv : v = x - x / y * y) (h1 : 0 < Y) : (0 ≤ X → 0 ≤ v.toInt ∧ v.toInt < Y ∧ v.toInt ≤ X) ∧ (X ≤ 0 → -Y < v.toInt ∧ v.toInt ≤ 0 ∧ X ≤ v.toInt) := by
  rw [l_remE hx hy hv h1]; exact tm_bd h1
theorem i_neg {x v : Int32} {X : Int} (hx : x.toInt = X) (hv : v = -x) (h1 : -2147483648 < X) (h2 : X < 2147483648) : v.toInt = -X := by
  rw [hv, Int32.toInt_neg, hx, i_bmod (by omega) (by omega)]
theorem l_neg {x v : Int64} {X : Int} (hx : x.toInt = X) (hv : v = -x) (h1 : -9223372036854775808 < X) (h2 : X < 9223372036854775808) : v.toInt = -X := by
  rw [hv, Int64.toInt_neg, hx, l_bmod (by omega) (by omega)]
theorem l_i {x : Int64} {v : Int32} {X : Int} (hx : x.toInt = X) (hv : v = x.toInt32) (h1 : -2147483648 ≤ X) (h2 : X < 2147483648) : v.toInt = X := by
  rw [hv, Int64.toInt_toInt32, hx, i_bmod h1 h2]
theorem i_and {x y v : Int32} {Y : Int} (hy : y.toInt = Y) (hv : v = x &&& y) (h : 0 ≤ Y) : 0 ≤ v.toInt ∧ v.toInt ≤ Y := by
  have hY : y.toInt = (y.toBitVec.toNat : Int) := by
    have e : y.toInt = y.toBitVec.toInt := rfl
    rw [e, BitVec.toInt_eq_toNat_cond] at hy ⊢
    split at hy <;> rename_i q
    · rw [if_pos q]
    · exfalso; have := y.toBitVec.isLt; omega
  have hn : v.toBitVec.toNat ≤ y.toBitVec.toNat := by
    rw [hv, Int32.toBitVec_and, BitVec.toNat_and]; exact Nat.and_le_right
  have hy31 : y.toBitVec.toNat < 2 ^ 31 := by
    have := Int32.toInt_lt y; omega
  have hv2 : v.toInt = (v.toBitVec.toNat : Int) := by
    have e : v.toInt = v.toBitVec.toInt := rfl
    rw [e, BitVec.toInt_eq_toNat_cond, if_pos (by omega)]
  omega
theorem i_and2 {x y v : Int32} {X : Int} (hx : x.toInt = X) (hv : v = x &&& y) (h : 0 ≤ X) : 0 ≤ v.toInt ∧ v.toInt ≤ X := i_and hx (by rw [hv, Int32.and_comm]) h
theorem clampI {x : Int32} (h : 0 ≤ x.toInt) : (x.toNatClampNeg : Int) = x.toInt := by
  have e : x.toNatClampNeg = x.toInt.toNat := rfl
  omega
section CG2
variable {p : Program} {l : Launch} {e : Env} {R : Room} {s : State} {m : MethodId} {args : Array Value} {below : List Frame} {meth : Method} {c : Code} {H : Heap} {locs : List Loc} {cells slots : Nat} {Q : State → Prop}
variable {pc : Nat} {ls : Array Slot} {rest st0 : List Value} {a : Array Value} {A0 : Nat → Prop} {H0 : Heap} {mc ms : Nat} {D : va_G} {Y : Nat → ClassId} {Z : Nat → Nat}
/-- a call whose callee has all our cells -/
theorem cga {S : Type} {val : S → Option Value} {post : S → Prop} {w1 : S → va_W} {ws : va_W}
    (hr : va_Run p l e R s m args below meth c H locs cells slots mc ms (F0 m pc ls st0) rest (QG val post (fun u => CB D (w1 u) (va_A ws H.size)) (va_A ws H.size) a) (va_A ws H.size))
    (hP : va_P D vwCl ws H) (hD : va_D A0 ws) (hS : va_S A0 H0 H locs) (hA : ∀ q, H0.size ≤ q → A0 q)
    (kk : ∀ (u : S) (H1 : Heap) (locs1 : List Loc), post u → va_P D vwCl (w1 u) H1 → va_D A0 (w1 u) → va_S A0 H0 H1 locs1 → W p l e R s m args below meth c H1 locs1 (cells + mc) (slots + ms) Q (F0 m (pc + 3) ls ((val u).toList ++ rest))) : W p l e R s m args below meth c H locs cells slots Q (F0 m pc ls st0) := by
  have hF : ∀ q, va_A ws H.size q → A0 q := fun q h => by
    rcases h with ⟨k, x, h⟩ | h
    · exact hD.2 k _ h
    · exact hA q (Nat.le_trans hS.1 h)
  intro T hT X
  obtain ⟨v, st₀, t, T', L, h0, X', hL, e1, e2, ⟨⟨u, hv, hp, hPu, hDu⟩, hz, hk⟩, st⟩ := hr T hT X
  cases hv
  rw [h0] at hz hk
  obtain ⟨t2, a1, b1⟩ := kk u T'.heap (locs ++ L) hp (by rw [e1]; exact hPu) (hDu.weaken (fun _ _ _ h => hF _ h))
    ⟨Nat.le_trans hS.1 (by rw [e1]; exact hz), fun q h1 h2 => by rw [e1, hk q (Nat.lt_of_lt_of_le h1 hS.1) (fun z => h2 (hF q z))]; exact hS.2.1 q h1 h2, fun q hq => by
      rcases List.mem_append.mp hq with h | h
      · exact hS.2.2 q h
      · exact hF _ (hL q h)⟩ T' rfl X'
  exact ⟨t2, st t2 a1, b1⟩
/-- where ways meet -/
theorem w_join {σ : Type} {stk : σ → List Value} {pcJ kJ nJ : Nat} {g : JFrame} (Inv : σ → Heap → List Loc → Array Slot → Prop)
    (J : ∀ (x : σ) (H : Heap) (locs : List Loc) (ls : Array Slot), Inv x H locs ls → W p l e R s m args below meth c H locs kJ nJ Q (F0 m pcJ ls (stk x)))
    (K : (∀ (x : σ) (H : Heap) (locs : List Loc) (ls : Array Slot), Inv x H locs ls → W p l e R s m args below meth c H locs kJ nJ Q (F0 m pcJ ls (stk x))) → W p l e R s m args below meth c H locs cells slots Q g) : W p l e R s m args below meth c H locs cells slots Q g := K J
end CG2
theorem mul_nz {v : Int} {X Y : Int} (hx : X ≠ 0) (hy : Y ≠ 0) (h : v = X * Y) : v ≠ 0 := by rw [h]; exact Int.mul_ne_zero hx hy
theorem up_ne {f : Nat → Int32} {k j : Nat} {v : Int32} (h : j ≠ k) : upd f k v j = f j := if_neg h
theorem up_eq {f : Nat → Int32} {k j : Nat} {v : Int32} (h : j = k) : upd f k v j = v := if_pos h
theorem td_abs {X Y : Int} (h1 : Y ≠ 0) : (0 ≤ X → -X ≤ X.tdiv Y ∧ X.tdiv Y ≤ X) ∧ (X ≤ 0 → X ≤ X.tdiv Y ∧ X.tdiv Y ≤ -X) := by
  rcases Int.lt_or_lt_of_ne h1 with q | q
  · have k := @td_bd X (-Y) (by omega)
    rw [Int.tdiv_neg] at k
    omega
  · have k := @td_bd X Y q
    omega
theorem l_divA {x y v : Int64} {X Y : Int} (hx : x.toInt = X) (hy : y.toInt = Y) (hv : v = x / y) (h1 : Y ≠ 0) (h2 : -9223372036854775808 < X) (h3 : X < 9223372036854775808) : (0 ≤ X → -X ≤ v.toInt ∧ v.toInt ≤ X) ∧ (X ≤ 0 → X ≤ v.toInt ∧ v.toInt ≤ -X) := by
  have k := @td_abs X Y h1
  have e : v.toInt = X.tdiv Y := by rw [hv, Int64.toInt_div, hx, hy, l_bmod (by omega) (by omega)]
  rw [e]; exact k
theorem i_shl1 : ∀ n : Fin 31, (1 : Int32) <<< (Int32.ofNat n.val &&& 31) = Int32.ofNat (2 ^ n.val) := by decide +kernel
theorem rem_eq {r X Y X2 Y2 : Int} (h : r = X % Y) (hx : X = X2) (hy : Y = Y2) : r = X2 % Y2 := by rw [h, hx, hy]
theorem div_eq {r X Y X2 Y2 : Int} (h : r = X / Y) (hx : X = X2) (hy : Y = Y2) : r = X2 / Y2 := by rw [h, hx, hy]
theorem sq_bd {r x y p q most : Int} (h0 : 0 ≤ r) (hx : x = r + 1) (hy : y = r + 1) (hp : p = x * y) (hq : q = p * 100000) (hm : q ≤ most) (hM : most ≤ 8982010000000000000) : r + 1 ≤ 9490000 := by
  apply Decidable.byContradiction
  intro hn
  have h1 : (9490001 : Int) ≤ r + 1 := by omega
  have h2 : (9490001 : Int) * 9490001 ≤ (r + 1) * (r + 1) := Int.mul_le_mul h1 h1 (by decide) (by omega)
  rw [hx, hy] at hp
  rw [← hp] at h2
  omega
theorem i_shr {x v s : Int32} {p : Int} (k : Nat) (hv : v = x >>> s) (hs : (s.toBitVec.smod 32).toNat = k) (hp : (2 : Int) ^ k = p) : v.toInt = x.toInt / p := by
  rw [hv, pk_shr _ _ k hs, Int.shiftRight_eq_div_pow, ← hp]
  rfl
theorem nI_and (a b : Nat) : nI a &&& nI b = nI (a &&& b) := by
  apply Int32.toBitVec_inj.1
  show BitVec.ofNat 32 a &&& BitVec.ofNat 32 b = BitVec.ofNat 32 (a &&& b)
  apply BitVec.eq_of_getLsbD_eq
  intro i hi
  simp [hi]
theorem nI_shr4 {n : Nat} (h : n < 2 ^ 31) : nI n >>> ((4 : Int32) &&& 31) = nI (n / 16) := pk_shrN h _ 4 (by decide)
theorem rgI (x : Int32) : -2147483648 ≤ x.toInt ∧ x.toInt ≤ 2147483647 := by have a := Int32.le_toInt x; have b := Int32.toInt_lt x; omega
theorem rgL (x : Int64) : -9223372036854775808 ≤ x.toInt ∧ x.toInt ≤ 9223372036854775807 := by have a := Int64.le_toInt x; have b := Int64.toInt_lt x; omega

