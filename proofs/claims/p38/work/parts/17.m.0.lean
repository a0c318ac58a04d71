/-! ===== weights (mine) ===== -/
def WG (f : Nat → Int32) : Prop := ∀ k, k < 5 → 0 ≤ (f k).toInt ∧ (f k).toInt ≤ 99999
theorem WG_get {f : Nat → Int32} (h : WG f) {i : Int32} (h0 : 0 ≤ i.toInt) (h1 : i.toInt < 5) : 0 ≤ (f i.toNatClampNeg).toInt ∧ (f i.toNatClampNeg).toInt ≤ 99999 := h _ (by have c := clampI h0; omega)
theorem WG_set {f : Nat → Int32} (h : WG f) {k : Nat} {v : Int32} (hv : 0 ≤ v.toInt ∧ v.toInt ≤ 99999) : WG (upd f k v) := by
  intro n hn
  by_cases q : n = k
  · rw [up_eq q]; exact hv
  · rw [up_ne q]; exact h n hn

