/-! ===== images (mine) ===== -/
theorem TO_cong {f g : Nat → Int32} (h : TO f) (e : ∀ n, n < 7533 → g n = f n) : TO g := by
  refine ⟨fun n hn => by rw [e n hn]; exact h.1 n hn, fun s hs hlt => ?_, fun w hw hlt => ?_⟩
  · rw [e 0 (by decide)] at hlt
    rw [e _ (by omega)]; exact h.2.1 s hs hlt
  · rw [e 1 (by decide)] at hlt
    rw [e _ (by omega)]; exact h.2.2 w hw hlt
def IMG (im : Nat → Int32) : Prop := ∀ j : Nat, j < 4 → TO (fun n => im (7533 * j + n))
theorem IC_s {im im2 told : Nat → Int32} {K : Nat} {i idx v : Int32} {j : Int} (h : ∀ n : Nat, (n : Int) < i.toInt → im (7533 * K + n) = told n) (e : im2 = upd im idx.toNatClampNeg v) (hi : idx.toInt = 7533 * K + i.toInt) (h0 : 0 ≤ i.toInt) (hv : v = told i.toNatClampNeg) (hj : j = i.toInt + 1) : ∀ n : Nat, (n : Int) < j → im2 (7533 * K + n) = told n := by
  intro n hn
  have c1 := clampI h0
  have c2 := clampI (x := idx) (by omega)
  rw [e]
  by_cases q : n = i.toNatClampNeg
  · rw [up_eq (by omega), hv, q]
  · rw [up_ne (by omega)]; exact h n (by omega)
theorem IO_s {im0 im im2 : Nat → Int32} {K : Nat} {i idx v : Int32} (h : ∀ j : Nat, j < 4 → j ≠ K → ∀ n, n < 7533 → im (7533 * j + n) = im0 (7533 * j + n)) (e : im2 = upd im idx.toNatClampNeg v) (hi : idx.toInt = 7533 * K + i.toInt) (h0 : 0 ≤ i.toInt) (h1 : i.toInt < 7533) : ∀ j : Nat, j < 4 → j ≠ K → ∀ n, n < 7533 → im2 (7533 * j + n) = im0 (7533 * j + n) := by
  intro j hj hne n hn
  have c2 := clampI (x := idx) (by omega)
  rw [e, up_ne (by omega)]; exact h j hj hne n hn
theorem IMG_end {im0 im told : Nat → Int32} {K : Nat} {L : Int} (h0 : IMG im0) (hT : TO told) (h1 : ∀ n : Nat, (n : Int) < L → im (7533 * K + n) = told n) (hL : 7533 ≤ L) (h2 : ∀ j : Nat, j < 4 → j ≠ K → ∀ n, n < 7533 → im (7533 * j + n) = im0 (7533 * j + n)) : IMG im := by
  intro j hj
  by_cases q : j = K
  · rw [q]; exact TO_cong hT (fun n hn => h1 n (by omega))
  · exact TO_cong (h0 j hj) (fun n hn => h2 j hj q n hn)
theorem BC_s {im told told2 : Nat → Int32} {K : Nat} {i idx v : Int32} {j : Int} (h : ∀ n : Nat, (n : Int) < i.toInt → told n = im (7533 * K + n)) (e : told2 = upd told i.toNatClampNeg v) (hi : idx.toInt = 7533 * K + i.toInt) (h0 : 0 ≤ i.toInt) (hv : v = im idx.toNatClampNeg) (hj : j = i.toInt + 1) : ∀ n : Nat, (n : Int) < j → told2 n = im (7533 * K + n) := by
  intro n hn
  have c1 := clampI h0
  have c2 := clampI (x := idx) (by omega)
  rw [e]
  by_cases q : n = i.toNatClampNeg
  · rw [up_eq q, hv]; congr 1; omega
  · rw [up_ne q]; exact h n (by omega)
theorem BC_end {im told : Nat → Int32} {K : Nat} {L : Int} (h0 : IMG im) (hK : K < 4) (h1 : ∀ n : Nat, (n : Int) < L → told n = im (7533 * K + n)) (hL : 7533 ≤ L) : TO told := TO_cong (h0 K hK) (fun n hn => h1 n (by omega))

