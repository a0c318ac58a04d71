abbrev MO (a : Nat → Nat) (I : Nat → Int32) (J : Nat → Int64) : List Value := (.ref (a 0) :: .ref (a 1) :: .ref (a 2) :: .int (I 3) :: .ref (a 4) :: .ref (a 5) :: .ref (a 6) :: .ref (a 7) :: .ref (a 8) :: .ref (a 9) :: .ref (a 10) :: .ref (a 11) :: .ref (a 12) :: .ref (a 13) :: .ref (a 14) :: .ref (a 15) :: .int (I 16) :: .int (I 17) :: .int (I 18) :: .int (I 19) :: .int (I 20) :: .int (I 21) :: .int (I 22) :: .ref (a 23) :: .int (I 24) :: .ref (a 25) :: .int (I 26) :: .ref (a 27) :: .ref (a 28) :: .int (I 29) :: .long (J 30) :: .long (J 31) :: .int (I 32) :: .long (J 33) :: .int (I 34) :: .int (I 35) :: .int (I 36) :: .long (J 37) :: .long (J 38) :: .int (I 39) :: .ref (a 40) :: .ref (a 41) :: .ref (a 42) :: .ref (a 43) :: .ref (a 44) :: .ref (a 45) :: .ref (a 46) :: .ref (a 47) :: .ref (a 48) :: [])
abbrev MA (Y : Nat → ClassId) (a : Nat → Nat) (F : Nat → Nat → Int32) (G : Nat → Nat → Int64) : va_W := (((a 0), .inl (Y 0, 7533, .inl (F 0))) :: ((a 1), .inl (Y 0, 12, .inl (F 1))) :: ((a 2), .inl (Y 2, 400, .inl (F 2))) :: ((a 4), .inl (Y 0, 3, .inl (F 4))) :: ((a 5), .inl (Y 0, 7200, .inl (F 5))) :: ((a 6), .inl (Y 0, 18, .inl (F 6))) :: ((a 7), .inl (Y 0, 1080, .inl (F 7))) :: ((a 8), .inl (Y 0, 18, .inl (F 8))) :: ((a 9), .inl (Y 0, 18, .inl (F 9))) :: ((a 10), .inl (Y 0, 18, .inl (F 10))) :: ((a 11), .inl (Y 0, 18, .inl (F 11))) :: ((a 12), .inl (Y 0, 18, .inl (F 12))) :: ((a 13), .inl (Y 0, 18, .inl (F 13))) :: ((a 14), .inl (Y 0, 18, .inl (F 14))) :: ((a 15), .inl (Y 0, 18, .inl (F 15))) :: ((a 23), .inl (Y 0, 400, .inl (F 23))) :: ((a 25), .inl (Y 1, 64, .inr (.inl (G 25)))) :: ((a 27), .inl (Y 1, 10, .inr (.inl (G 27)))) :: ((a 28), .inl (Y 0, 600, .inl (F 28))) :: ((a 40), .inl (Y 1, 200, .inr (.inl (G 40)))) :: ((a 41), .inl (Y 0, 200, .inl (F 41))) :: ((a 42), .inl (Y 1, 200, .inr (.inl (G 42)))) :: ((a 43), .inl (Y 0, 200, .inl (F 43))) :: ((a 44), .inl (Y 1, 40, .inr (.inl (G 44)))) :: ((a 45), .inl (Y 1, 12, .inr (.inl (G 45)))) :: ((a 46), .inl (Y 0, 5, .inl (F 46))) :: ((a 47), .inl (Y 0, 30132, .inl (F 47))) :: ((a 48), .inl (Y 3, 4, .inl (F 48))) :: [])
abbrev MW (Y : Nat → ClassId) (o : Nat) (a : Nat → Nat) (I : Nat → Int32) (J : Nat → Int64) (F : Nat → Nat → Int32) (G : Nat → Nat → Int64) : va_W := (o, .inr (11, MO a I J)) :: MA Y a F G
/-! ===== what the model's rows hold (mine) ===== -/
def trow (n : Nat) (x : Int) : Prop := (n = 0 → 0 ≤ x ∧ x ≤ 12) ∧ (n = 1 → 0 ≤ x ∧ x ≤ 40) ∧ (n = 2 → 0 ≤ x ∧ x ≤ 12) ∧ (3 ≤ n ∧ n < 39 → 0 ≤ x ∧ x ≤ 1000 ∧ (n % 3 = 0 → x ≤ 999) ∧ (n % 3 = 1 → x ≤ 7)) ∧ (39 ≤ n ∧ n < 279 → 0 ≤ x ∧ x ≤ 30000 ∧ (n % 6 = 3 → x ≤ 11)) ∧ (315 ≤ n ∧ n < 7515 → -100000 ≤ x ∧ x ≤ 100000) ∧ (n = 7515 → 0 ≤ x ∧ x ≤ 50) ∧ (n = 7516 → 0 ≤ x ∧ x ≤ 23)
/-- told: counts, sizes, cells, lucks, worlds, rows, WIDE, ORDER lie where they may -/
def TO (f : Nat → Int32) : Prop := (∀ n, n < 7533 → trow n (f n).toInt) ∧ (∀ s : Nat, s < 12 → (s : Int) < (f 0).toInt → 1 ≤ (f (5 + 3 * s)).toInt) ∧ ∀ w : Nat, w < 40 → (w : Int) < (f 1).toInt → 2 ≤ (f (40 + 6 * w)).toInt
theorem TO_n {f : Nat → Int32} (h : TO f) {n : Nat} (hn : n < 7533) : trow n (f n).toInt := h.1 n hn
theorem TO_0 {f : Nat → Int32} (h : TO f) : 0 ≤ (f 0).toInt ∧ (f 0).toInt ≤ 12 := (TO_n h (n := 0) (by decide)).1 rfl
theorem TO_1 {f : Nat → Int32} (h : TO f) : 0 ≤ (f 1).toInt ∧ (f 1).toInt ≤ 40 := (TO_n h (n := 1) (by decide)).2.1 rfl
theorem TO_2 {f : Nat → Int32} (h : TO f) : 0 ≤ (f 2).toInt ∧ (f 2).toInt ≤ 12 := (TO_n h (n := 2) (by decide)).2.2.1 rfl
theorem TO_7515 {f : Nat → Int32} (h : TO f) : 0 ≤ (f 7515).toInt ∧ (f 7515).toInt ≤ 50 := (TO_n h (n := 7515) (by decide)).2.2.2.2.2.2.1 rfl
theorem TO_7516 {f : Nat → Int32} (h : TO f) : 0 ≤ (f 7516).toInt ∧ (f 7516).toInt ≤ 23 := (TO_n h (n := 7516) (by decide)).2.2.2.2.2.2.2 rfl
theorem TO_row {f : Nat → Int32} (h : TO f) {i : Int32} (h1 : 315 ≤ i.toInt) (h2 : i.toInt < 7515) : -100000 ≤ (f i.toNatClampNeg).toInt ∧ (f i.toNatClampNeg).toInt ≤ 100000 := by
  have e := clampI (x := i) (by omega)
  exact (TO_n h (n := i.toNatClampNeg) (by omega)).2.2.2.2.2.1 ⟨by omega, by omega⟩
theorem TO_size {f : Nat → Int32} (h : TO f) {i : Int32} (s : Int) (hi : i.toInt = 3 + 3 * s) (h0 : 0 ≤ s) (h1 : s < 12) : 0 ≤ (f i.toNatClampNeg).toInt ∧ (f i.toNatClampNeg).toInt ≤ 999 := by
  have e := clampI (x := i) (by omega)
  have k := (TO_n h (n := i.toNatClampNeg) (by omega)).2.2.2.1 ⟨by omega, by omega⟩
  exact ⟨k.1, k.2.2.1 (by omega)⟩
theorem TO_cell {f : Nat → Int32} (h : TO f) {i : Int32} (s : Int) (hi : i.toInt = 4 + 3 * s) (h0 : 0 ≤ s) (h1 : s < 12) : 0 ≤ (f i.toNatClampNeg).toInt ∧ (f i.toNatClampNeg).toInt ≤ 7 := by
  have e := clampI (x := i) (by omega)
  have k := (TO_n h (n := i.toNatClampNeg) (by omega)).2.2.2.1 ⟨by omega, by omega⟩
  exact ⟨k.1, k.2.2.2 (by omega)⟩
theorem TO_luck {f : Nat → Int32} (h : TO f) {i : Int32} (s : Int) (hi : i.toInt = 5 + 3 * s) (h0 : 0 ≤ s) (h1 : s < 12) : (0 ≤ (f i.toNatClampNeg).toInt ∧ (f i.toNatClampNeg).toInt ≤ 1000) ∧ (s < (f 0).toInt → 1 ≤ (f i.toNatClampNeg).toInt) := by
  have e := clampI (x := i) (by omega)
  have k := (TO_n h (n := i.toNatClampNeg) (by omega)).2.2.2.1 ⟨by omega, by omega⟩
  refine ⟨⟨k.1, k.2.1⟩, fun q => ?_⟩
  have e2 : i.toNatClampNeg = 5 + 3 * s.toNat := by omega
  rw [e2]
  exact h.2.1 s.toNat (by omega) (by omega)
theorem TO_wstar {f : Nat → Int32} (h : TO f) {i : Int32} (w : Int) (hi : i.toInt = 39 + 6 * w) (h0 : 0 ≤ w) (h1 : w < 40) : 0 ≤ (f i.toNatClampNeg).toInt ∧ (f i.toNatClampNeg).toInt ≤ 11 := by
  have e := clampI (x := i) (by omega)
  have k := (TO_n h (n := i.toNatClampNeg) (by omega)).2.2.2.2.1 ⟨by omega, by omega⟩
  exact ⟨k.1, k.2.2 (by omega)⟩
theorem TO_wany {f : Nat → Int32} (h : TO f) {i : Int32} (h0 : 39 ≤ i.toInt) (h1 : i.toInt < 279) : 0 ≤ (f i.toNatClampNeg).toInt ∧ (f i.toNatClampNeg).toInt ≤ 30000 := by
  have e := clampI (x := i) (by omega)
  have k := (TO_n h (n := i.toNatClampNeg) (by omega)).2.2.2.2.1 ⟨by omega, by omega⟩
  exact ⟨k.1, k.2.1⟩
theorem TO_wbeat {f : Nat → Int32} (h : TO f) {i : Int32} (w : Int) (hi : i.toInt = 40 + 6 * w) (h0 : 0 ≤ w) (h1 : w < 40) : w < (f 1).toInt → 2 ≤ (f i.toNatClampNeg).toInt := by
  have e := clampI (x := i) (by omega)
  intro q
  have e2 : i.toNatClampNeg = 40 + 6 * w.toNat := by omega
  rw [e2]
  exact h.2.2 w.toNat (by omega) (by omega)
/-- a store that is neither a count nor a luck or beat in use -/
theorem TO_set {f : Nat → Int32} (h : TO f) {k : Nat} {v : Int32} (hv : trow k v.toInt) (h0 : k ≠ 0) (h1 : k ≠ 1) (h2 : k < 39 → k % 3 = 2 → 1 ≤ v.toInt ∨ (f 0).toInt * 3 + 5 ≤ k) (h3 : 39 ≤ k → k < 279 → k % 6 = 4 → 2 ≤ v.toInt ∨ (f 1).toInt * 6 + 40 ≤ k) : TO (upd f k v) := by
  have e : ∀ j, j ≠ k → upd f k v j = f j := fun j hj => if_neg hj
  have e1 : upd f k v k = v := if_pos rfl
  refine ⟨fun n hn => ?_, fun s hs hlt => ?_, fun w hw hlt => ?_⟩
  · by_cases q : n = k
    · rw [q, e1]; exact hv
    · rw [e n q]; exact h.1 n hn
  · rw [e 0 (fun q => h0 q.symm)] at hlt
    by_cases q : 5 + 3 * s = k
    · rw [q, e1]
      rcases h2 (by omega) (by omega) with q2 | q2
      · exact q2
      · omega
    · rw [e _ q]; exact h.2.1 s hs hlt
  · rw [e 1 (fun q => h1 q.symm)] at hlt
    by_cases q : 40 + 6 * w = k
    · rw [q, e1]
      rcases h3 (by omega) (by omega) (by omega) with q2 | q2
      · exact q2
      · omega
    · rw [e _ q]; exact h.2.2 w hw hlt
theorem TO_cnt0 {f : Nat → Int32} (h : TO f) {v : Int32} (hv : v.toInt = (f 0).toInt + 1) (h12 : (f 0).toInt < 12) (hl : 1 ≤ (f (5 + 3 * (f 0).toInt.toNat)).toInt) : TO (upd f 0 v) := by
  have k0 := TO_0 h
  have e : ∀ j, j ≠ 0 → upd f 0 v j = f j := fun j hj => if_neg hj
  have e1 : upd f 0 v 0 = v := if_pos rfl
  refine ⟨fun n hn => ?_, fun s hs hlt => ?_, fun w hw hlt => ?_⟩
  · by_cases q : n = 0
    · rw [q, e1]; unfold trow; omega
    · rw [e n q]; exact h.1 n hn
  · rw [e1] at hlt
    rw [e _ (by omega)]
    by_cases q : (s : Int) < (f 0).toInt
    · exact h.2.1 s hs q
    · have e3 : (f 0).toInt.toNat = s := by omega
      rw [e3] at hl; exact hl
  · rw [e 1 (by decide)] at hlt
    rw [e _ (by omega)]; exact h.2.2 w hw hlt
theorem TO_cnt1 {f : Nat → Int32} (h : TO f) {v : Int32} (hv : v.toInt = (f 1).toInt + 1) (h40 : (f 1).toInt < 40) (hl : 2 ≤ (f (40 + 6 * (f 1).toInt.toNat)).toInt) : TO (upd f 1 v) := by
  have k0 := TO_1 h
  have e : ∀ j, j ≠ 1 → upd f 1 v j = f j := fun j hj => if_neg hj
  have e1 : upd f 1 v 1 = v := if_pos rfl
  refine ⟨fun n hn => ?_, fun s hs hlt => ?_, fun w hw hlt => ?_⟩
  · by_cases q : n = 1
    · rw [q, e1]; unfold trow; omega
    · rw [e n q]; exact h.1 n hn
  · rw [e 0 (by decide)] at hlt
    rw [e _ (by omega)]; exact h.2.1 s hs hlt
  · rw [e1] at hlt
    rw [e _ (by omega)]
    by_cases q : (w : Int) < (f 1).toInt
    · exact h.2.2 w hw q
    · have e3 : (f 1).toInt.toNat = w := by omega
      rw [e3] at hl; exact hl
/-- the row that is looked at -/
def LB (f : Nat → Int32) : Prop := ∀ h, h < 600 → -100000 ≤ (f h).toInt ∧ (f h).toInt ≤ 100000
theorem LB_get {f : Nat → Int32} (h : LB f) {i : Int32} (h0 : 0 ≤ i.toInt) (h1 : i.toInt < 600) : -100000 ≤ (f i.toNatClampNeg).toInt ∧ (f i.toNatClampNeg).toInt ≤ 100000 := by
  have e := clampI h0
  exact h _ (by omega)
theorem LB_set {f : Nat → Int32} (h : LB f) {k : Nat} {v : Int32} (hv : -100000 ≤ v.toInt ∧ v.toInt ≤ 100000) : LB (upd f k v) := by
  intro n hn
  by_cases q : n = k
  · rw [up_eq q]; exact hv
  · rw [up_ne q]; exact h n hn
/-- what texts that were read hold, but for their code -/
def TX (tx no bf bt lf lt : Nat → Int32) : Prop := (∀ k : Nat, k < 3 → 0 ≤ (tx k).toInt ∧ (tx k).toInt ≤ 6) ∧ (∀ k : Nat, (k : Int) < (tx 0).toInt → 0 ≤ (no k).toInt ∧ (no k).toInt ≤ 9999) ∧ ∀ k : Nat, (k : Int) < (tx 1).toInt → (2 ≤ (bf (6 + k)).toInt ∧ (bf (6 + k)).toInt ≤ 200) ∧ (bt (6 + k)).toInt ≤ 200 ∧ 1 ≤ (lf (6 + k)).toInt ∧ (lt (6 + k)).toInt ≤ 10
theorem TX_t {tx no bf bt lf lt : Nat → Int32} (h : TX tx no bf bt lf lt) {i : Int32} (h0 : 0 ≤ i.toInt) (h1 : i.toInt < 3) : 0 ≤ (tx i.toNatClampNeg).toInt ∧ (tx i.toNatClampNeg).toInt ≤ 6 := h.1 _ (by have c := clampI h0; omega)
theorem TX_s {tx no bf bt lf lt : Nat → Int32} (h : TX tx no bf bt lf lt) {i : Int32} (k : Int) (hi : i.toInt = 6 + k) (h0 : 0 ≤ k) (h1 : k < (tx 1).toInt) : ((2 ≤ (bf i.toNatClampNeg).toInt ∧ (bf i.toNatClampNeg).toInt ≤ 200) ∧ (bt i.toNatClampNeg).toInt ≤ 200) ∧ 1 ≤ (lf i.toNatClampNeg).toInt ∧ (lt i.toNatClampNeg).toInt ≤ 10 := by
  have c := clampI (x := i) (by omega)
  have e : i.toNatClampNeg = 6 + k.toNat := by omega
  have q := h.2.2 k.toNat (by omega)
  rw [e]; exact ⟨⟨q.1, q.2.1⟩, q.2.2⟩
theorem TX_no {tx no bf bt lf lt : Nat → Int32} (h : TX tx no bf bt lf lt) {i : Int32} (h0 : 0 ≤ i.toInt) (h1 : i.toInt < (tx 0).toInt) : 0 ≤ (no i.toNatClampNeg).toInt ∧ (no i.toNatClampNeg).toInt ≤ 9999 := h.2.1 _ (by have c := clampI h0; omega)
theorem TO_cnt0n {f : Nat → Int32} (h : TO f) {v : Int32} {n : Int} (hn : (f 0).toInt = n) (hv : v.toInt = (f 0).toInt + 1) (h12 : (f 0).toInt < 12) (hl : 1 ≤ (f (5 + 3 * n.toNat)).toInt) : TO (upd f 0 v) := TO_cnt0 h hv h12 (by rw [hn]; exact hl)
theorem TO_cnt1n {f : Nat → Int32} (h : TO f) {v : Int32} {n : Int} (hn : (f 1).toInt = n) (hv : v.toInt = (f 1).toInt + 1) (h40 : (f 1).toInt < 40) (hl : 2 ≤ (f (40 + 6 * n.toNat)).toInt) : TO (upd f 1 v) := TO_cnt1 h hv h40 (by rw [hn]; exact hl)

