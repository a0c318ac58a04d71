/-! ===== the law: both worlds side by side (mine) ===== -/
theorem gl_lt {α : Type} {l : List α} {k : Nat} {a : α} (h : l[k]? = some a) : k < l.length := (List.getElem?_eq_some_iff.mp h).1
theorem ap_l {X Y : va_W} {k : Nat} {c : Nat × va_E} (h : X[k]? = some c) : (X ++ Y)[k]? = some c := by rw [List.getElem?_append_left (gl_lt h)]; exact h
theorem ap_r {X Y : va_W} {k : Nat} {c : Nat × va_E} (h : Y[k]? = some c) : (X ++ Y)[X.length + k]? = some c := by rw [List.getElem?_append_right (by omega), show X.length + k - X.length = k by omega]; exact h
theorem P_l {D : va_G} {cl : List vw_C} {X Y : va_W} {H : Heap} (h : va_P D cl (X ++ Y) H) : va_P D cl X H := fun k q hk => h k q (ap_l hk)
theorem P_r {D : va_G} {cl : List vw_C} {X Y : va_W} {H : Heap} (h : va_P D cl (X ++ Y) H) : va_P D cl Y H := fun k q hk => h _ q (ap_r hk)
theorem D_l {A : Nat → Prop} {X Y : va_W} (h : va_D A (X ++ Y)) : va_D A X := ⟨fun i j p q hi hj e => h.1 i j p q (ap_l hi) (ap_l hj) e, fun k q hk => h.2 k q (ap_l hk)⟩
theorem D_r {A : Nat → Prop} {X Y : va_W} (h : va_D A (X ++ Y)) : va_D A Y := ⟨fun i j p q hi hj e => by have := h.1 _ _ p q (ap_r hi) (ap_r hj) e; omega, fun k q hk => h.2 _ q (ap_r hk)⟩
theorem D_x {A : Nat → Prop} {X Y : va_W} (h : va_D A (X ++ Y)) {i j : Nat} {p q : Nat × va_E} (hi : X[i]? = some p) (hj : Y[j]? = some q) : p.1 ≠ q.1 := fun e => by
  have := h.1 _ _ p q (ap_l hi) (ap_r hj) e
  have := gl_lt hi
  omega
section CGX
variable {p : Program} {l : Launch} {e : Env} {R : Room} {s : State} {m : MethodId} {args : Array Value} {below : List Frame} {meth : Method} {c : Code} {H : Heap} {locs : List Loc} {cells slots : Nat} {Q : State → Prop}
variable {pc : Nat} {ls : Array Slot} {rest st0 : List Value} {a : Array Value} {A0 : Nat → Prop} {H0 : Heap} {mc ms : Nat} {D : va_G}
/-- a call whose callee has the second world alone -/
theorem cgR {S : Type} {val : S → Option Value} {post : S → Prop} {w1 : S → va_W} {X ws : va_W}
    (hr : va_Run p l e R s m args below meth c H locs cells slots mc ms (F0 m pc ls st0) rest (QG val post (fun u => CB D (w1 u) (va_A ws H.size)) (va_A ws H.size) a) (va_A ws H.size))
    (hP : va_P D vwCl (X ++ ws) H) (hD : va_D A0 (X ++ ws)) (hS : va_S A0 H0 H locs) (hA : ∀ q, H0.size ≤ q → A0 q)
    (kk : ∀ (u : S) (H1 : Heap) (locs1 : List Loc), post u → va_P D vwCl (X ++ w1 u) H1 → va_D A0 (X ++ w1 u) → va_S A0 H0 H1 locs1 → W p l e R s m args below meth c H1 locs1 (cells + mc) (slots + ms) Q (F0 m (pc + 3) ls ((val u).toList ++ rest))) : W p l e R s m args below meth c H locs cells slots Q (F0 m pc ls st0) := by
  have hF : ∀ q, va_A ws H.size q → A0 q := fun q h => by
    rcases h with ⟨k, x, h⟩ | h
    · exact (D_r hD).2 k _ h
    · exact hA q (Nat.le_trans hS.1 h)
  have hX : ∀ (k : Nat) (x : Nat × va_E), X[k]? = some x → x.1 < H.size ∧ ¬ va_A ws H.size x.1 := fun k x hk => by
    have hl := (P_l hP k x hk).lt
    refine ⟨hl, fun h => ?_⟩
    rcases h with ⟨j, y, h⟩ | h
    · exact D_x hD hk h rfl
    · omega
  intro T hT Z
  obtain ⟨v, st₀, t, T', L, h0, Z', hL, e1, e2, ⟨⟨u, hv, hp, hPu, hDu⟩, hz, hk⟩, st⟩ := hr T hT Z
  cases hv
  rw [h0] at hz hk
  have hk1 : ∀ q : Nat, q < H.size → ¬ va_A ws H.size q → T'.heap[q]? = H[q]? := fun q h1 h2 => by rw [e1]; exact hk q h1 h2
  have hPX : va_P D vwCl X T'.heap := (P_l hP).kept (fun k x hk => hk1 x.1 (hX k x hk).1 (hX k x hk).2)
  have hP2 : va_P D vwCl (X ++ w1 u) T'.heap := va_P.app hPX (by rw [e1]; exact hPu)
  have hD2 : va_D A0 (X ++ w1 u) := va_D.app (D_l hD) (hDu.weaken (fun _ _ _ h => hF _ h)) (fun i j x y hx hy z => (hX i x hx).2 (by rw [z]; exact hDu.2 j y hy))
  obtain ⟨t2, a1, b1⟩ := kk u T'.heap (locs ++ L) hp hP2 hD2
    ⟨Nat.le_trans hS.1 (by rw [e1]; exact hz), fun q h1 h2 => by rw [hk1 q (Nat.lt_of_lt_of_le h1 hS.1) (fun z => h2 (hF q z))]; exact hS.2.1 q h1 h2, fun q hq => by
      rcases List.mem_append.mp hq with h | h
      · exact hS.2.2 q h
      · exact hF _ (hL q h)⟩ T' rfl Z'
  exact ⟨t2, st t2 a1, b1⟩
/-- a call whose callee has the first world alone -/
theorem cgL {S : Type} {val : S → Option Value} {post : S → Prop} {w1 : S → va_W} {X ws : va_W}
    (hr : va_Run p l e R s m args below meth c H locs cells slots mc ms (F0 m pc ls st0) rest (QG val post (fun u => CB D (w1 u) (va_A X H.size)) (va_A X H.size) a) (va_A X H.size))
    (hP : va_P D vwCl (X ++ ws) H) (hD : va_D A0 (X ++ ws)) (hS : va_S A0 H0 H locs) (hA : ∀ q, H0.size ≤ q → A0 q)
    (kk : ∀ (u : S) (H1 : Heap) (locs1 : List Loc), post u → va_P D vwCl (w1 u ++ ws) H1 → va_D A0 (w1 u ++ ws) → va_S A0 H0 H1 locs1 → W p l e R s m args below meth c H1 locs1 (cells + mc) (slots + ms) Q (F0 m (pc + 3) ls ((val u).toList ++ rest))) : W p l e R s m args below meth c H locs cells slots Q (F0 m pc ls st0) := by
  have hF : ∀ q, va_A X H.size q → A0 q := fun q h => by
    rcases h with ⟨k, x, h⟩ | h
    · exact (D_l hD).2 k _ h
    · exact hA q (Nat.le_trans hS.1 h)
  have hX : ∀ (k : Nat) (x : Nat × va_E), ws[k]? = some x → x.1 < H.size ∧ ¬ va_A X H.size x.1 := fun k x hk => by
    have hl := (P_r hP k x hk).lt
    refine ⟨hl, fun h => ?_⟩
    rcases h with ⟨j, y, h⟩ | h
    · exact D_x hD h hk rfl
    · omega
  intro T hT Z
  obtain ⟨v, st₀, t, T', L, h0, Z', hL, e1, e2, ⟨⟨u, hv, hp, hPu, hDu⟩, hz, hk⟩, st⟩ := hr T hT Z
  cases hv
  rw [h0] at hz hk
  have hk1 : ∀ q : Nat, q < H.size → ¬ va_A X H.size q → T'.heap[q]? = H[q]? := fun q h1 h2 => by rw [e1]; exact hk q h1 h2
  have hPX : va_P D vwCl ws T'.heap := (P_r hP).kept (fun k x hk => hk1 x.1 (hX k x hk).1 (hX k x hk).2)
  have hP2 : va_P D vwCl (w1 u ++ ws) T'.heap := va_P.app (by rw [e1]; exact hPu) hPX
  have hD2 : va_D A0 (w1 u ++ ws) := va_D.app (hDu.weaken (fun _ _ _ h => hF _ h)) (D_r hD) (fun i j x y hx hy z => (hX j y hy).2 (by rw [← z]; exact hDu.2 i x hx))
  obtain ⟨t2, a1, b1⟩ := kk u T'.heap (locs ++ L) hp hP2 hD2
    ⟨Nat.le_trans hS.1 (by rw [e1]; exact hz), fun q h1 h2 => by rw [hk1 q (Nat.lt_of_lt_of_le h1 hS.1) (fun z => h2 (hF q z))]; exact hS.2.1 q h1 h2, fun q hq => by
      rcases List.mem_append.mp hq with h | h
      · exact hS.2.2 q h
      · exact hF _ (hL q h)⟩ T' rfl Z'
  exact ⟨t2, st t2 a1, b1⟩
end CGX
/-- what the model's rows hold between two calls -/
def MI (I : Nat → Int32) (F : Nat → Nat → Int32) : Prop := TO (F 0) ∧ LB (F 28) ∧ TX (F 4) (F 9) (F 10) (F 11) (F 12) (F 13) ∧ TC (F 4) (F 8) (F 7) (F 5) ∧ WG (F 46) ∧ IMG (F 47) ∧ (0 ≤ (I 3).toInt ∧ (I 3).toInt ≤ 400)
/-- the loop's state -/
def LI (D : va_G) (Y : Nat → ClassId) (Z : Nat → Nat) (A : Nat → Prop) (s : State) (sb x om : Nat) (a : Nat → Nat) (H : Heap) (locs : List Loc) (ls : Array Slot) (I : Nat → Int32) (J : Nat → Int64) (F : Nat → Nat → Int32) (G : Nat → Nat → Int64) (ws : va_W) (T : RT) (g : GN) (q : GQ) (i : Int32) : Prop := va_P D vwCl (MW Y om a I J F G ++ ws) H ∧ va_D A (MW Y om a I J F G ++ ws) ∧ va_S A s.heap H locs ∧ lv_has ls 4 [(3, .int i), (2, .ref om), (1, .ref x), (0, .ref sb)] ∧ TW Y Z T g q ws ∧ T x = (1, 0, 0) ∧ LC T g q x F ∧ MI I F
theorem MI_0 : MI (fun _ => 0) F0M := ⟨TO_0M, LB_0M, TX_0M, TC_0M, WG_0M, IMG_0M, by decide⟩

