/-! ===== codes that are worked out (mine) ===== -/
theorem stp_at {f : Nat → Int32} {n d e : Nat} {i x : Int32} (h : stp (f n) d e) (ex : x = f i.toNatClampNeg) (hi : n = i.toNatClampNeg) : stp x d e := by rw [ex, ← hi]; exact h
theorem SEG_wf {sg : Nat → Int32} {t a b : Nat} {x y : Int} (h : SEG sg t a b) (hx : x = a) (hy : y = b) : wf sg (400 * t + x.toNat) (y.toNat - x.toNat) 1 := wf_m h.2.2 (by omega) (by omega) rfl
theorem TC_c {tx cs cl sg : Nat → Int32} (h : TC tx cs cl sg) {t : Nat} (ht : t < 18) (ho : okT tx t) : (0 ≤ (cs t).toInt ∧ (cs t).toInt ≤ 12) ∧ ∀ c : Nat, (c : Int) < (cs t).toInt → CLok cl sg t c 400 := h t ht ho

