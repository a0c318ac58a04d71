/-! ===== the stack of what is open (mine) ===== -/
theorem all_s {f : Nat → Int32} {i : Int32} {j : Int} (h : ∀ k : Nat, (k : Int) < i.toInt → (f k).toInt ≠ 91) (h0 : 0 ≤ i.toInt) (hj : j = i.toInt + 1) (hi : (f i.toNatClampNeg).toInt ≠ 91) : ∀ k : Nat, (k : Int) < j → (f k).toInt ≠ 91 := by
  intro k hk
  have c := clampI h0
  by_cases z : k = i.toNatClampNeg
  · rw [z]; exact hi
  · exact h k (by omega)
theorem BR_s {op : Nat → Int32} {A g j : Int} {i : Int32} (h : ∀ k : Nat, (k : Int) < A → (op k).toInt = 91 → (k : Int) < g) (hj : j = g - 1) (hi : i.toInt = j) (h0 : 0 ≤ j) (hne : (op i.toNatClampNeg).toInt ≠ 91) : ∀ k : Nat, (k : Int) < A → (op k).toInt = 91 → (k : Int) < j := by
  intro k h1 h2
  have q := h k h1 h2
  have c := clampI (x := i) (by omega)
  by_cases z : k = i.toNatClampNeg
  · rw [z] at h2; exact absurd h2 hne
  · omega
theorem st_at {op : Nat → Int32} {i : Int32} {j : Int} (hi : i.toInt = j) (h : (op i.toNatClampNeg).toInt = 91) : (op j.toNat).toInt = 91 := by
  have e : j.toNat = i.toNatClampNeg := by rw [← hi]; rfl
  rw [e]; exact h
theorem st_at2 {op : Nat → Int32} {i : Int32} {j : Int} (hi : i.toInt = j) (h : (op j.toNat).toInt = 91) : (op i.toNatClampNeg).toInt = 91 := by
  have e : j.toNat = i.toNatClampNeg := by rw [← hi]; rfl
  rw [e] at h; exact h
theorem ent_g {op : Nat → Int32} {n : Nat} {i : Int32} (h : ent op n) (h0 : 0 ≤ i.toInt) (hi : i.toInt < n) : (op i.toNatClampNeg).toInt = 11 ∨ (op i.toNatClampNeg).toInt = 12 ∨ (op i.toNatClampNeg).toInt = 13 ∨ (op i.toNatClampNeg).toInt = 91 := h _ (by have c := clampI h0; omega)
theorem nbo_pop3 {op : Nat → Int32} {n : Nat} {i : Int32} (h0 : 0 ≤ i.toInt) (hn : (n : Int) = i.toInt + 1) : (((op i.toNatClampNeg).toInt = 12 ∨ (op i.toNatClampNeg).toInt = 13) ∧ nbo op n = nbo op i.toInt.toNat + 1) ∨ ((op i.toNatClampNeg).toInt ≠ 12 ∧ (op i.toNatClampNeg).toInt ≠ 13 ∧ nbo op n = nbo op i.toInt.toNat) := by
  have e := nbo_pop (op := op) (n := n) (m := i.toInt.toNat) (by omega)
  have e2 : op i.toInt.toNat = op i.toNatClampNeg := rfl
  rw [e2] at e
  by_cases q : (op i.toNatClampNeg).toInt = 12 ∨ (op i.toNatClampNeg).toInt = 13
  · rw [if_pos q] at e; exact Or.inl ⟨q, e⟩
  · rw [if_neg q] at e; exact Or.inr ⟨fun z => q (Or.inl z), fun z => q (Or.inr z), e⟩
theorem nbo_push3 {op op2 : Nat → Int32} {m : Nat} {i v : Int32} (e : op2 = upd op i.toNatClampNeg v) (h0 : 0 ≤ i.toInt) (hm : (m : Int) = i.toInt + 1) : ((v.toInt = 12 ∨ v.toInt = 13) ∧ nbo op2 m = nbo op i.toInt.toNat + 1) ∨ (v.toInt ≠ 12 ∧ v.toInt ≠ 13 ∧ nbo op2 m = nbo op i.toInt.toNat) := by
  have q := nbo_push (op := op) (n := i.toInt.toNat) (m := m) (i := i) (v := v) rfl (by omega)
  rw [← e] at q
  by_cases z : v.toInt = 12 ∨ v.toInt = 13
  · rw [if_pos z] at q; exact Or.inl ⟨z, by omega⟩
  · rw [if_neg z] at q; exact Or.inr ⟨fun y => z (Or.inl y), fun y => z (Or.inr y), by omega⟩
theorem ent_p {op op2 : Nat → Int32} {m : Nat} {i v : Int32} (e : op2 = upd op i.toNatClampNeg v) (h : ent op i.toInt.toNat) (h0 : 0 ≤ i.toInt) (hm : (m : Int) = i.toInt + 1) (hv : v.toInt = 11 ∨ v.toInt = 12 ∨ v.toInt = 13 ∨ v.toInt = 91) : ent op2 m := by
  rw [e]; exact ent_push (n := i.toInt.toNat) h rfl (by omega) hv
theorem stp_set {x : Int32} {s v : Int} {d e : Nat} (hx : x.toInt = s + 16 * v) (hv : v = 0) (hs : (s = 11 ∧ e = d) ∨ ((s = 12 ∨ s = 13) ∧ e + 1 = d)) (h1 : 1 ≤ e) (h6 : d ≤ 60) : stp x d e := by
  rcases hs with ⟨q, z⟩ | ⟨q, z⟩
  · exact stp_not hx q hv (by omega) (by omega) z
  · exact stp_bin hx (by omega) (by omega) (by omega) hv (by omega) (by omega) (by omega)
theorem br_no {op : Nat → Int32} {A j : Int} (h : ∀ k : Nat, (k : Int) < A → (op k).toInt ≠ 91) (hj : j ≤ A) (h0 : 0 ≤ j) (hs : j = 0 ∨ (op (j - 1).toNat).toInt = 91) : j = 0 := by
  rcases hs with q | q
  · exact q
  · by_cases z : j = 0
    · exact z
    · exact absurd q (h _ (by omega))

