/-! ===== the class: its heap by roles (mine) ===== -/
abbrev RT : Type := Nat → Nat × Nat × Nat
abbrev GN : Type := Nat → Nat → Int32
abbrev GQ : Type := Nat → Nat → Option Nat
def TLe (T T2 : RT) : Prop := ∀ a, (T a).1 ≠ 0 → T2 a = T a
theorem TLe.rf {T : RT} : TLe T T := fun _ _ => rfl
theorem TLe.tr {T T2 T3 : RT} (h : TLe T T2) (h2 : TLe T2 T3) : TLe T T3 := fun a q => by rw [h2 a (by rw [h a q]; exact q)]; exact h a q
theorem TLe.up {T T2 : RT} (h : TLe T T2) {a k j i : Nat} (ht : T a = (k + 1, j, i)) : T2 a = (k + 1, j, i) := by rw [h a (by rw [ht]; exact Nat.succ_ne_zero k), ht]
theorem rne {T : RT} {a b k1 j1 i1 k2 j2 i2 : Nat} (h1 : T a = (k1, j1, i1)) (h2 : T b = (k2, j2, i2)) (h : k1 ≠ k2) : a ≠ b := fun e => by rw [e, h2] at h1; exact h (congrArg Prod.fst h1).symm
theorem rne2 {T : RT} {a b k1 j1 i1 k2 j2 i2 : Nat} (h1 : T a = (k1, j1, i1)) (h2 : T b = (k2, j2, i2)) (h : j1 ≠ j2) : a ≠ b := fun e => by rw [e, h2] at h1; exact h (congrArg (fun z => z.2.1) h1).symm
def Sh1 (Y : Nat → ClassId) (Z : Nat → Nat) (T : RT) (gb : Nat → Int32) (qb : Nat → Option Nat) (j i : Nat) (e : va_E) : Prop := ∃ (a0 : Nat) (a1 : Nat) (a2 : Nat) (a3 : Nat) (a4 : Nat) (x5 : Int32) (x6 : Int32) (x7 : Int32) (a8 : Nat) (a9 : Nat) (a10 : Nat) (a11 : Nat) (a12 : Nat) (a13 : Nat) (a14 : Nat) (a15 : Nat) (a16 : Nat) (x17 : Int32) (a18 : Nat) (a19 : Nat), e = .inr (10, [.ref a0, .ref a1, .ref a2, .ref a3, .ref a4, .int x5, .int x6, .int x7, .ref a8, .ref a9, .ref a10, .ref a11, .ref a12, .ref a13, .ref a14, .ref a15, .ref a16, .int x17, .ref a18, .ref a19]) ∧ T a0 = (2, 0, 0) ∧ qb 0 = some a0 ∧ T a1 = (19, 0, 0) ∧ qb 1 = some a1 ∧ T a2 = (20, 0, 0) ∧ T a3 = (20, 0, 0) ∧ T a4 = (20, 0, 0) ∧ (0 ≤ x5.toInt ∧ x5.toInt ≤ 6) ∧ (0 ≤ x6.toInt ∧ x6.toInt ≤ 6) ∧ (0 ≤ x7.toInt ∧ x7.toInt ≤ 6) ∧ T a8 = (7, 0, 0) ∧ T a9 = (8, 0, 0) ∧ T a10 = (9, 0, 0) ∧ T a11 = (10, 0, 0) ∧ T a12 = (11, 0, 0) ∧ T a13 = (6, 0, 0) ∧ T a14 = (6, 0, 0) ∧ T a15 = (21, 432, 0) ∧ T a16 = (21, 240, 0) ∧ T a18 = (15, 10, 0) ∧ T a19 = (12, 5, 0)
def Sh2 (Y : Nat → ClassId) (Z : Nat → Nat) (T : RT) (gb : Nat → Int32) (qb : Nat → Option Nat) (j i : Nat) (e : va_E) : Prop := ∃ (x0 : Int32) (a1 : Nat) (x2 : Int32) (a3 : Nat) (x4 : Int32) (a5 : Nat) (a6 : Nat) (x7 : Int32) (a8 : Nat) (a9 : Nat) (x10 : Int32) (a11 : Nat) (x12 : Int32), e = .inr (6, [.int x0, .ref a1, .int x2, .ref a3, .int x4, .ref a5, .ref a6, .int x7, .ref a8, .ref a9, .int x10, .ref a11, .int x12]) ∧ (0 ≤ x0.toInt ∧ x0.toInt ≤ 12) ∧ gb 0 = x0 ∧ T a1 = (17, j, 0) ∧ qb 1 = some a1 ∧ (0 ≤ x2.toInt ∧ x2.toInt ≤ 40) ∧ gb 2 = x2 ∧ T a3 = (18, 0, 0) ∧ (0 ≤ x4.toInt ∧ x4.toInt ≤ 12) ∧ gb 4 = x4 ∧ T a5 = (14, j, 0) ∧ qb 5 = some a5 ∧ T a6 = (14, j, 1) ∧ qb 6 = some a6 ∧ (0 ≤ x7.toInt ∧ x7.toInt ≤ 50) ∧ gb 7 = x7 ∧ T a8 = (12, 8, 0) ∧ T a9 = (12, 8, 0) ∧ (0 ≤ x10.toInt ∧ x10.toInt ≤ 23) ∧ gb 10 = x10 ∧ T a11 = (16, 400, 0) ∧ (0 ≤ x12.toInt ∧ x12.toInt ≤ 400)
def Sh3 (Y : Nat → ClassId) (Z : Nat → Nat) (T : RT) (gb : Nat → Int32) (qb : Nat → Option Nat) (j i : Nat) (e : va_E) : Prop := ∃ (x0 : Int32) (x1 : Int32) (x2 : Int32) (a3 : Nat), e = .inr (7, [.int x0, .int x1, .int x2, .ref a3]) ∧ gb 0 = x0 ∧ T a3 = (12, 600, 0)
def Sh4 (Y : Nat → ClassId) (Z : Nat → Nat) (T : RT) (gb : Nat → Int32) (qb : Nat → Option Nat) (j i : Nat) (e : va_E) : Prop := ∃ (x0 : Int32) (x1 : Int32) (x2 : Int32) (x3 : Int32) (x4 : Int32) (x5 : Int32), e = .inr (9, [.int x0, .int x1, .int x2, .int x3, .int x4, .int x5]) ∧ (0 ≤ x5.toInt ∧ x5.toInt ≤ 1)
def Sh5 (Y : Nat → ClassId) (Z : Nat → Nat) (T : RT) (gb : Nat → Int32) (qb : Nat → Option Nat) (j i : Nat) (e : va_E) : Prop := ∃ (x0 : Int32) (x1 : Int32) (x2 : Int32) (x3 : Int32) (x4 : Int32) (x5 : Int32) (x6 : Int32) (x7 : Int32) (a8 : Nat) (a9 : Nat) (a10 : Nat) (a11 : Nat) (a12 : Nat) (x13 : Int32), e = .inr (8, [.int x0, .int x1, .int x2, .int x3, .int x4, .int x5, .int x6, .int x7, .ref a8, .ref a9, .ref a10, .ref a11, .ref a12, .int x13]) ∧ (0 ≤ x7.toInt ∧ x7.toInt ≤ 12) ∧ T a8 = (12, 12, 0) ∧ T a9 = (12, 12, 0) ∧ T a10 = (12, 12, 0) ∧ T a11 = (12, 12, 0) ∧ T a12 = (12, 400, 0) ∧ (0 ≤ x13.toInt ∧ x13.toInt ≤ 400)
def Sh6 (Y : Nat → ClassId) (Z : Nat → Nat) (T : RT) (gb : Nat → Int32) (qb : Nat → Option Nat) (j i : Nat) (e : va_E) : Prop := ∃ (x0 : Int32) (x1 : Int32) (x2 : Int32) (x3 : Int32) (x4 : Int32) (x5 : Int64) (x6 : Int64), e = .inr (1, [.int x0, .int x1, .int x2, .int x3, .int x4, .long x5, .long x6]) ∧ (0 ≤ x1.toInt ∧ x1.toInt ≤ 200)
def Sh7 (Y : Nat → ClassId) (Z : Nat → Nat) (T : RT) (gb : Nat → Int32) (qb : Nat → Option Nat) (j i : Nat) (e : va_E) : Prop := ∃ (n : Nat) (a0 : Nat) (x1 : Int32) (x2 : Int32) (x3 : Int32) (x4 : Int32) (x5 : Int32) (x6 : Int32) (x7 : Int32) (x8 : Int32) (a9 : Nat) (a10 : Nat) (x11 : Int32), e = .inr (3, [.ref a0, .int x1, .int x2, .int x3, .int x4, .int x5, .int x6, .int x7, .int x8, .ref (Z a9), .ref a10, .int x11]) ∧ T a0 = (16, n, 0) ∧ (x1.toInt ≤ (n : Int)) ∧ (0 ≤ x2.toInt ∧ x2.toInt ≤ (n : Int)) ∧ a9 < 9 ∧ T a10 = (5, 0, 0) ∧ (0 ≤ x11.toInt ∧ x11.toInt ≤ 1) ∧ n ≤ 400
def Sh8 (Y : Nat → ClassId) (Z : Nat → Nat) (T : RT) (gb : Nat → Int32) (qb : Nat → Option Nat) (j i : Nat) (e : va_E) : Prop := ∃ (a0 : Nat), e = .inr (4, [.ref a0]) ∧ T a0 = (15, 64, 0)
def Sh9 (Y : Nat → ClassId) (Z : Nat → Nat) (T : RT) (gb : Nat → Int32) (qb : Nat → Option Nat) (j i : Nat) (e : va_E) : Prop := ∃ (a0 : Nat) (a1 : Nat) (a2 : Nat) (x3 : Int32) (x4 : Int64) (x5 : Int64) (x6 : Int32) (x7 : Int64), e = .inr (2, [.ref a0, .ref a1, .ref a2, .int x3, .long x4, .long x5, .int x6, .long x7]) ∧ T a0 = (12, 600, 0) ∧ T a1 = (13, 600, 0) ∧ T a2 = (12, 600, 0) ∧ (0 ≤ x3.toInt ∧ x3.toInt ≤ 600)
def Sh10 (Y : Nat → ClassId) (Z : Nat → Nat) (T : RT) (gb : Nat → Int32) (qb : Nat → Option Nat) (j i : Nat) (e : va_E) : Prop := ∃ (a0 : Nat) (a1 : Nat), e = .inr (0, [.ref a0, .ref a1]) ∧ T a0 = (12, 200, 0) ∧ T a1 = (15, 200, 0)
def Sh11 (Y : Nat → ClassId) (Z : Nat → Nat) (T : RT) (gb : Nat → Int32) (qb : Nat → Option Nat) (j i : Nat) (e : va_E) : Prop := ∃ (a0 : Nat) (a1 : Nat) (a2 : Nat) (a3 : Nat), e = .inr (5, [.ref a0, .ref a1, .ref a2, .ref a3]) ∧ T a0 = (12, 5, 0) ∧ T a1 = (15, 5, 0) ∧ T a2 = (12, 5, 0) ∧ T a3 = (12, 302, 0)
def Sh12 (Y : Nat → ClassId) (Z : Nat → Nat) (T : RT) (gb : Nat → Int32) (qb : Nat → Option Nat) (j i : Nat) (e : va_E) : Prop := ∃ f : Nat → Int32, e = .inl (Y 0, j, .inl f)
def Sh13 (Y : Nat → ClassId) (Z : Nat → Nat) (T : RT) (gb : Nat → Int32) (qb : Nat → Option Nat) (j i : Nat) (e : va_E) : Prop := ∃ f : Nat → Int32, e = .inl (Y 0, j, .inl f) ∧ ∀ n, 0 ≤ (f n).toInt ∧ (f n).toInt ≤ 599
def Sh14 (Y : Nat → ClassId) (Z : Nat → Nat) (T : RT) (gb : Nat → Int32) (qb : Nat → Option Nat) (j i : Nat) (e : va_E) : Prop := ∃ f : Nat → Int32, e = .inl (Y 0, 12, .inl f) ∧ ∀ n, gb n = f n
def Sh15 (Y : Nat → ClassId) (Z : Nat → Nat) (T : RT) (gb : Nat → Int32) (qb : Nat → Option Nat) (j i : Nat) (e : va_E) : Prop := ∃ f : Nat → Int64, e = .inl (Y 1, j, .inr (.inl f))
def Sh16 (Y : Nat → ClassId) (Z : Nat → Nat) (T : RT) (gb : Nat → Int32) (qb : Nat → Option Nat) (j i : Nat) (e : va_E) : Prop := ∃ f : Nat → Int32, e = .inl (Y 2, j, .inl f) ∧ ∀ n, fits .byte (.int (f n)) = true
def Sh17 (Y : Nat → ClassId) (Z : Nat → Nat) (T : RT) (gb : Nat → Int32) (qb : Nat → Option Nat) (j i : Nat) (e : va_E) : Prop := ∃ f : Nat → Option Nat, e = .inl (Y 7, 12, .inr (.inr (.inr (.inr f)))) ∧ (∀ n, qb n = f n) ∧ ∀ n b, f n = some b → T b = (3, j, n)
def Sh18 (Y : Nat → ClassId) (Z : Nat → Nat) (T : RT) (gb : Nat → Int32) (qb : Nat → Option Nat) (j i : Nat) (e : va_E) : Prop := ∃ f : Nat → Option Nat, e = .inl (Y 8, 40, .inr (.inr (.inr (.inr f)))) ∧ ∀ n b, f n = some b → T b = (4, 0, 0)
def Sh19 (Y : Nat → ClassId) (Z : Nat → Nat) (T : RT) (gb : Nat → Int32) (qb : Nat → Option Nat) (j i : Nat) (e : va_E) : Prop := ∃ f : Nat → Option Nat, e = .inl (Y 4, 4, .inr (.inr (.inr (.inr f)))) ∧ (∀ n, qb n = f n) ∧ ∀ n b, f n = some b → T b = (2, n + 1, 0)
def Sh20 (Y : Nat → ClassId) (Z : Nat → Nat) (T : RT) (gb : Nat → Int32) (qb : Nat → Option Nat) (j i : Nat) (e : va_E) : Prop := ∃ f : Nat → Option Nat, e = .inl (Y 5, 6, .inr (.inr (.inr (.inr f)))) ∧ ∀ n b, f n = some b → T b = (5, 0, 0)
def Sh21 (Y : Nat → ClassId) (Z : Nat → Nat) (T : RT) (gb : Nat → Int32) (qb : Nat → Option Nat) (j i : Nat) (e : va_E) : Prop := ∃ f : Nat → Option Nat, e = .inl (Y 6, j, .inr (.inr (.inr (.inr f)))) ∧ ∀ n b, f n = some b → T b = (6, 0, 0)
def Sh (Y : Nat → ClassId) (Z : Nat → Nat) (T : RT) (gb : Nat → Int32) (qb : Nat → Option Nat) (k j i : Nat) (e : va_E) : Prop := match k with
  | 1 => Sh1 Y Z T gb qb j i e
  | 2 => Sh2 Y Z T gb qb j i e
  | 3 => Sh3 Y Z T gb qb j i e
  | 4 => Sh4 Y Z T gb qb j i e
  | 5 => Sh5 Y Z T gb qb j i e
  | 6 => Sh6 Y Z T gb qb j i e
  | 7 => Sh7 Y Z T gb qb j i e
  | 8 => Sh8 Y Z T gb qb j i e
  | 9 => Sh9 Y Z T gb qb j i e
  | 10 => Sh10 Y Z T gb qb j i e
  | 11 => Sh11 Y Z T gb qb j i e
  | 12 => Sh12 Y Z T gb qb j i e
  | 13 => Sh13 Y Z T gb qb j i e
  | 14 => Sh14 Y Z T gb qb j i e
  | 15 => Sh15 Y Z T gb qb j i e
  | 16 => Sh16 Y Z T gb qb j i e
  | 17 => Sh17 Y Z T gb qb j i e
  | 18 => Sh18 Y Z T gb qb j i e
  | 19 => Sh19 Y Z T gb qb j i e
  | 20 => Sh20 Y Z T gb qb j i e
  | 21 => Sh21 Y Z T gb qb j i e
  | _ => False
theorem Sh1_up {Y : Nat → ClassId} {Z : Nat → Nat} {T T2 : RT} {gb : Nat → Int32} {qb : Nat → Option Nat} {j i : Nat} {e : va_E} (le : TLe T T2) (h : Sh1 Y Z T gb qb j i e) : Sh1 Y Z T2 gb qb j i e := by
  obtain ⟨a0, a1, a2, a3, a4, x5, x6, x7, a8, a9, a10, a11, a12, a13, a14, a15, a16, x17, a18, a19, he, h0, h1, h2, h3, h4, h5, h6, h7, h8, h9, h10, h11, h12, h13, h14, h15, h16, h17, h18, h19, h20⟩ := h
  exact ⟨a0, a1, a2, a3, a4, x5, x6, x7, a8, a9, a10, a11, a12, a13, a14, a15, a16, x17, a18, a19, he, le.up h0, h1, le.up h2, h3, le.up h4, le.up h5, le.up h6, h7, h8, h9, le.up h10, le.up h11, le.up h12, le.up h13, le.up h14, le.up h15, le.up h16, le.up h17, le.up h18, le.up h19, le.up h20⟩
theorem Sh2_up {Y : Nat → ClassId} {Z : Nat → Nat} {T T2 : RT} {gb : Nat → Int32} {qb : Nat → Option Nat} {j i : Nat} {e : va_E} (le : TLe T T2) (h : Sh2 Y Z T gb qb j i e) : Sh2 Y Z T2 gb qb j i e := by
  obtain ⟨x0, a1, x2, a3, x4, a5, a6, x7, a8, a9, x10, a11, x12, he, h0, h1, h2, h3, h4, h5, h6, h7, h8, h9, h10, h11, h12, h13, h14, h15, h16, h17, h18, h19, h20⟩ := h
  exact ⟨x0, a1, x2, a3, x4, a5, a6, x7, a8, a9, x10, a11, x12, he, h0, h1, le.up h2, h3, h4, h5, le.up h6, h7, h8, le.up h9, h10, le.up h11, h12, h13, h14, le.up h15, le.up h16, h17, h18, le.up h19, h20⟩
theorem Sh3_up {Y : Nat → ClassId} {Z : Nat → Nat} {T T2 : RT} {gb : Nat → Int32} {qb : Nat → Option Nat} {j i : Nat} {e : va_E} (le : TLe T T2) (h : Sh3 Y Z T gb qb j i e) : Sh3 Y Z T2 gb qb j i e := by
  obtain ⟨x0, x1, x2, a3, he, h0, h1⟩ := h
  exact ⟨x0, x1, x2, a3, he, h0, le.up h1⟩
theorem Sh4_up {Y : Nat → ClassId} {Z : Nat → Nat} {T T2 : RT} {gb : Nat → Int32} {qb : Nat → Option Nat} {j i : Nat} {e : va_E} (le : TLe T T2) (h : Sh4 Y Z T gb qb j i e) : Sh4 Y Z T2 gb qb j i e := by
  obtain ⟨x0, x1, x2, x3, x4, x5, he, h0⟩ := h
  exact ⟨x0, x1, x2, x3, x4, x5, he, h0⟩
theorem Sh5_up {Y : Nat → ClassId} {Z : Nat → Nat} {T T2 : RT} {gb : Nat → Int32} {qb : Nat → Option Nat} {j i : Nat} {e : va_E} (le : TLe T T2) (h : Sh5 Y Z T gb qb j i e) : Sh5 Y Z T2 gb qb j i e := by
  obtain ⟨x0, x1, x2, x3, x4, x5, x6, x7, a8, a9, a10, a11, a12, x13, he, h0, h1, h2, h3, h4, h5, h6⟩ := h
  exact ⟨x0, x1, x2, x3, x4, x5, x6, x7, a8, a9, a10, a11, a12, x13, he, h0, le.up h1, le.up h2, le.up h3, le.up h4, le.up h5, h6⟩
theorem Sh6_up {Y : Nat → ClassId} {Z : Nat → Nat} {T T2 : RT} {gb : Nat → Int32} {qb : Nat → Option Nat} {j i : Nat} {e : va_E} (le : TLe T T2) (h : Sh6 Y Z T gb qb j i e) : Sh6 Y Z T2 gb qb j i e := by
  obtain ⟨x0, x1, x2, x3, x4, x5, x6, he, h0⟩ := h
  exact ⟨x0, x1, x2, x3, x4, x5, x6, he, h0⟩
theorem Sh7_up {Y : Nat → ClassId} {Z : Nat → Nat} {T T2 : RT} {gb : Nat → Int32} {qb : Nat → Option Nat} {j i : Nat} {e : va_E} (le : TLe T T2) (h : Sh7 Y Z T gb qb j i e) : Sh7 Y Z T2 gb qb j i e := by
  obtain ⟨n, a0, x1, x2, x3, x4, x5, x6, x7, x8, a9, a10, x11, he, h0, h1, h2, h3, h4, h5, h6⟩ := h
  exact ⟨n, a0, x1, x2, x3, x4, x5, x6, x7, x8, a9, a10, x11, he, le.up h0, h1, h2, h3, le.up h4, h5, h6⟩
theorem Sh8_up {Y : Nat → ClassId} {Z : Nat → Nat} {T T2 : RT} {gb : Nat → Int32} {qb : Nat → Option Nat} {j i : Nat} {e : va_E} (le : TLe T T2) (h : Sh8 Y Z T gb qb j i e) : Sh8 Y Z T2 gb qb j i e := by
  obtain ⟨a0, he, h0⟩ := h
  exact ⟨a0, he, le.up h0⟩
theorem Sh9_up {Y : Nat → ClassId} {Z : Nat → Nat} {T T2 : RT} {gb : Nat → Int32} {qb : Nat → Option Nat} {j i : Nat} {e : va_E} (le : TLe T T2) (h : Sh9 Y Z T gb qb j i e) : Sh9 Y Z T2 gb qb j i e := by
  obtain ⟨a0, a1, a2, x3, x4, x5, x6, x7, he, h0, h1, h2, h3⟩ := h
  exact ⟨a0, a1, a2, x3, x4, x5, x6, x7, he, le.up h0, le.up h1, le.up h2, h3⟩
theorem Sh10_up {Y : Nat → ClassId} {Z : Nat → Nat} {T T2 : RT} {gb : Nat → Int32} {qb : Nat → Option Nat} {j i : Nat} {e : va_E} (le : TLe T T2) (h : Sh10 Y Z T gb qb j i e) : Sh10 Y Z T2 gb qb j i e := by
  obtain ⟨a0, a1, he, h0, h1⟩ := h
  exact ⟨a0, a1, he, le.up h0, le.up h1⟩
theorem Sh11_up {Y : Nat → ClassId} {Z : Nat → Nat} {T T2 : RT} {gb : Nat → Int32} {qb : Nat → Option Nat} {j i : Nat} {e : va_E} (le : TLe T T2) (h : Sh11 Y Z T gb qb j i e) : Sh11 Y Z T2 gb qb j i e := by
  obtain ⟨a0, a1, a2, a3, he, h0, h1, h2, h3⟩ := h
  exact ⟨a0, a1, a2, a3, he, le.up h0, le.up h1, le.up h2, le.up h3⟩
theorem Sh12_up {Y : Nat → ClassId} {Z : Nat → Nat} {T T2 : RT} {gb : Nat → Int32} {qb : Nat → Option Nat} {j i : Nat} {e : va_E} (le : TLe T T2) (h : Sh12 Y Z T gb qb j i e) : Sh12 Y Z T2 gb qb j i e := h
theorem Sh13_up {Y : Nat → ClassId} {Z : Nat → Nat} {T T2 : RT} {gb : Nat → Int32} {qb : Nat → Option Nat} {j i : Nat} {e : va_E} (le : TLe T T2) (h : Sh13 Y Z T gb qb j i e) : Sh13 Y Z T2 gb qb j i e := h
theorem Sh14_up {Y : Nat → ClassId} {Z : Nat → Nat} {T T2 : RT} {gb : Nat → Int32} {qb : Nat → Option Nat} {j i : Nat} {e : va_E} (le : TLe T T2) (h : Sh14 Y Z T gb qb j i e) : Sh14 Y Z T2 gb qb j i e := h
theorem Sh15_up {Y : Nat → ClassId} {Z : Nat → Nat} {T T2 : RT} {gb : Nat → Int32} {qb : Nat → Option Nat} {j i : Nat} {e : va_E} (le : TLe T T2) (h : Sh15 Y Z T gb qb j i e) : Sh15 Y Z T2 gb qb j i e := h
theorem Sh16_up {Y : Nat → ClassId} {Z : Nat → Nat} {T T2 : RT} {gb : Nat → Int32} {qb : Nat → Option Nat} {j i : Nat} {e : va_E} (le : TLe T T2) (h : Sh16 Y Z T gb qb j i e) : Sh16 Y Z T2 gb qb j i e := h
theorem Sh17_up {Y : Nat → ClassId} {Z : Nat → Nat} {T T2 : RT} {gb : Nat → Int32} {qb : Nat → Option Nat} {j i : Nat} {e : va_E} (le : TLe T T2) (h : Sh17 Y Z T gb qb j i e) : Sh17 Y Z T2 gb qb j i e := by
  obtain ⟨f, he, h0, h1⟩ := h
  exact ⟨f, he, h0, fun n b q => le.up (h1 n b q)⟩
theorem Sh18_up {Y : Nat → ClassId} {Z : Nat → Nat} {T T2 : RT} {gb : Nat → Int32} {qb : Nat → Option Nat} {j i : Nat} {e : va_E} (le : TLe T T2) (h : Sh18 Y Z T gb qb j i e) : Sh18 Y Z T2 gb qb j i e := by
  obtain ⟨f, he, h1⟩ := h
  exact ⟨f, he, fun n b q => le.up (h1 n b q)⟩
theorem Sh19_up {Y : Nat → ClassId} {Z : Nat → Nat} {T T2 : RT} {gb : Nat → Int32} {qb : Nat → Option Nat} {j i : Nat} {e : va_E} (le : TLe T T2) (h : Sh19 Y Z T gb qb j i e) : Sh19 Y Z T2 gb qb j i e := by
  obtain ⟨f, he, h0, h1⟩ := h
  exact ⟨f, he, h0, fun n b q => le.up (h1 n b q)⟩
theorem Sh20_up {Y : Nat → ClassId} {Z : Nat → Nat} {T T2 : RT} {gb : Nat → Int32} {qb : Nat → Option Nat} {j i : Nat} {e : va_E} (le : TLe T T2) (h : Sh20 Y Z T gb qb j i e) : Sh20 Y Z T2 gb qb j i e := by
  obtain ⟨f, he, h1⟩ := h
  exact ⟨f, he, fun n b q => le.up (h1 n b q)⟩
theorem Sh21_up {Y : Nat → ClassId} {Z : Nat → Nat} {T T2 : RT} {gb : Nat → Int32} {qb : Nat → Option Nat} {j i : Nat} {e : va_E} (le : TLe T T2) (h : Sh21 Y Z T gb qb j i e) : Sh21 Y Z T2 gb qb j i e := by
  obtain ⟨f, he, h1⟩ := h
  exact ⟨f, he, fun n b q => le.up (h1 n b q)⟩
theorem Sh_up {Y : Nat → ClassId} {Z : Nat → Nat} {T T2 : RT} {gb : Nat → Int32} {qb : Nat → Option Nat} {j i : Nat} {e : va_E} {k : Nat} (le : TLe T T2) (h : Sh Y Z T gb qb k j i e) : Sh Y Z T2 gb qb k j i e := by
  unfold Sh at h ⊢
  split at h
  · exact Sh1_up le h
  · exact Sh2_up le h
  · exact Sh3_up le h
  · exact Sh4_up le h
  · exact Sh5_up le h
  · exact Sh6_up le h
  · exact Sh7_up le h
  · exact Sh8_up le h
  · exact Sh9_up le h
  · exact Sh10_up le h
  · exact Sh11_up le h
  · exact Sh12_up le h
  · exact Sh13_up le h
  · exact Sh14_up le h
  · exact Sh15_up le h
  · exact Sh16_up le h
  · exact Sh17_up le h
  · exact Sh18_up le h
  · exact Sh19_up le h
  · exact Sh20_up le h
  · exact Sh21_up le h
  · exact h
def TW (Y : Nat → ClassId) (Z : Nat → Nat) (T : RT) (g : GN) (q : GQ) (ws : va_W) : Prop := (∀ (k : Nat) (c : Nat × va_E), ws[k]? = some c → Sh Y Z T (g c.1) (q c.1) (T c.1).1 (T c.1).2.1 (T c.1).2.2 c.2) ∧ ∀ a, (T a).1 ≠ 0 → ∃ (k : Nat) (e : va_E), ws[k]? = some (a, e)
def Kp (a : Nat) (ws w1 : va_W) : Prop := ∀ (k : Nat) (c : Nat × va_E), ws[k]? = some c → c.1 ≠ a → w1[k]? = some c
section TWS
variable {Y : Nat → ClassId} {Z : Nat → Nat} {T : RT} {g : GN} {q : GQ} {ws : va_W} {a p k j i : Nat} {e e0 : va_E} {A : Nat → Prop}
theorem tw_open (h : TW Y Z T g q ws) (ht : T a = (k + 1, j, i)) : ∃ (p : Nat) (e : va_E), ws[p]? = some (a, e) ∧ Sh Y Z T (g a) (q a) (k + 1) j i e := by
  obtain ⟨p, e, hk⟩ := h.2 a (by rw [ht]; exact Nat.succ_ne_zero k)
  have s := h.1 p (a, e) hk
  rw [show T (a, e).1 = (k + 1, j, i) from ht] at s
  exact ⟨p, e, hk, s⟩
theorem tw_at (h : TW Y Z T g q ws) (hk : ws[p]? = some (a, e)) (ht : T a = (k, j, i)) : Sh Y Z T (g a) (q a) k j i e := by
  have s := h.1 p (a, e) hk
  rw [show T (a, e).1 = (k, j, i) from ht] at s
  exact s
theorem sw_eq {c c0 : Nat × va_E} (hk : ws[p]? = some c0) : (ws.set p c)[p]? = some c := by
  have hl : p < ws.length := (List.getElem?_eq_some_iff.mp hk).1
  rw [List.getElem?_set_self hl]
theorem sw_ne {c : Nat × va_E} {n : Nat} (h : n ≠ p) : (ws.set p c)[n]? = ws[n]? := List.getElem?_set_ne (fun z => h z.symm)
theorem sw_kp (hk : ws[p]? = some (a, e0)) : Kp a ws (ws.set p (a, e)) := fun n c hn hne => by
  rw [sw_ne (fun z => hne (by rw [z, hk] at hn; rw [← Option.some.inj hn])), hn]
/-- a cell with other contents, what is tracked of it too -/
theorem tw_sg {g2 : GN} {q2 : GQ} (h : TW Y Z T g q ws) (hD : va_D A ws) (hk : ws[p]? = some (a, e0)) (ht : T a = (k, j, i)) (hg : ∀ b, b ≠ a → g2 b = g b) (hq : ∀ b, b ≠ a → q2 b = q b) (hs : Sh Y Z T (g2 a) (q2 a) k j i e) : TW Y Z T g2 q2 (ws.set p (a, e)) := by
  refine ⟨fun n c hc => ?_, fun b hb => ?_⟩
  · by_cases z : n = p
    · rw [z, sw_eq hk] at hc
      have hc := Option.some.inj hc
      subst hc
      rw [show T (a, e).1 = (k, j, i) from ht]; exact hs
    · rw [sw_ne z] at hc
      have hne : c.1 ≠ a := fun y => z (hD.1 n p c (a, e0) hc hk y)
      rw [hg _ hne, hq _ hne]; exact h.1 n c hc
  · obtain ⟨n, e1, hn⟩ := h.2 b hb
    by_cases z : n = p
    · rw [z, hk] at hn
      have hn := Option.some.inj hn
      have hb2 : a = b := congrArg Prod.fst hn
      exact ⟨p, e, by rw [sw_eq hk, hb2]⟩
    · exact ⟨n, e1, by rw [sw_ne z]; exact hn⟩
theorem tw_set (h : TW Y Z T g q ws) (hD : va_D A ws) (hk : ws[p]? = some (a, e0)) (ht : T a = (k, j, i)) (hs : Sh Y Z T (g a) (q a) k j i e) : TW Y Z T g q (ws.set p (a, e)) := tw_sg h hD hk ht (fun _ _ => rfl) (fun _ _ => rfl) hs
def upT (T : RT) (b : Nat) (r : Nat × Nat × Nat) : RT := fun a => if a = b then r else T a
theorem upT_eq {b : Nat} {r : Nat × Nat × Nat} : upT T b r b = r := if_pos rfl
theorem upT_ne {b : Nat} {r : Nat × Nat × Nat} (h : a ≠ b) : upT T b r a = T a := if_neg h
theorem tw_new {b : Nat} (h : TW Y Z T g q ws) (hD : va_D A (ws ++ [(b, e)])) : (T b).1 = 0 := by
  apply Decidable.byContradiction
  intro z
  obtain ⟨n, e1, hn⟩ := h.2 b z
  have hl : n < ws.length := (List.getElem?_eq_some_iff.mp hn).1
  have h1 : (ws ++ [(b, e)])[n]? = some (b, e1) := by rw [List.getElem?_append_left hl]; exact hn
  have h2 : (ws ++ [(b, e)])[ws.length]? = some (b, e) := List.getElem?_concat_length
  have := hD.1 n ws.length _ _ h1 h2 rfl
  omega
theorem upT_le {b : Nat} {r : Nat × Nat × Nat} (h : (T b).1 = 0) : TLe T (upT T b r) := fun a q => upT_ne (fun z => q (by rw [z]; exact h))
/-- a new cell -/
theorem tw_push {b : Nat} {r : Nat × Nat × Nat} {g2 : GN} {q2 : GQ} (h : TW Y Z T g q ws) (hb : (T b).1 = 0) (hg : ∀ c, c ≠ b → g2 c = g c) (hq : ∀ c, c ≠ b → q2 c = q c) (hs : Sh Y Z (upT T b r) (g2 b) (q2 b) r.1 r.2.1 r.2.2 e) (hin : ∀ (n : Nat) (c : Nat × va_E), ws[n]? = some c → c.1 ≠ b) : TW Y Z (upT T b r) g2 q2 (ws ++ [(b, e)]) := by
  have le := upT_le (r := r) hb
  refine ⟨fun n c hc => ?_, fun x hx => ?_⟩
  · by_cases z : n < ws.length
    · rw [List.getElem?_append_left z] at hc
      have hne := hin n c hc
      rw [hg _ hne, hq _ hne, upT_ne hne]
      exact Sh_up le (h.1 n c hc)
    · have hl : n < (ws ++ [(b, e)]).length := (List.getElem?_eq_some_iff.mp hc).1
      have e1 : n = ws.length := by simp at hl; omega
      rw [e1, List.getElem?_concat_length] at hc
      have hc := Option.some.inj hc
      subst hc
      rw [show upT T b r (b, e).1 = r from upT_eq]; exact hs
  · by_cases z : x = b
    · exact ⟨ws.length, e, by rw [z]; exact List.getElem?_concat_length⟩
    · rw [upT_ne z] at hx
      obtain ⟨n, e1, hn⟩ := h.2 x hx
      have hl : n < ws.length := (List.getElem?_eq_some_iff.mp hn).1
      exact ⟨n, e1, by rw [List.getElem?_append_left hl]; exact hn⟩
theorem tw_in {b : Nat} {w2 : va_W} (hD : va_D A (ws ++ (b, e) :: w2)) : ∀ (n : Nat) (c : Nat × va_E), ws[n]? = some c → c.1 ≠ b := fun n c hn z => by
  have hl : n < ws.length := (List.getElem?_eq_some_iff.mp hn).1
  have h1 : (ws ++ (b, e) :: w2)[n]? = some c := by rw [List.getElem?_append_left hl]; exact hn
  have h2 : (ws ++ (b, e) :: w2)[ws.length]? = some (b, e) := by rw [List.getElem?_append_right (Nat.le_refl _)]; simp
  have := hD.1 n ws.length _ _ h1 h2 z
  omega
theorem tw_fr {b : Nat} (h : TW Y Z T g q ws) (hin : ∀ (n : Nat) (c : Nat × va_E), ws[n]? = some c → c.1 ≠ b) : (T b).1 = 0 := by
  apply Decidable.byContradiction
  intro z
  obtain ⟨n, e1, hn⟩ := h.2 b z
  exact hin n _ hn rfl
theorem op1 (h : TW Y Z T g q ws) (ht : T a = (1, j, i)) : ∃ (p : Nat) (e : va_E), ws[p]? = some (a, e) ∧ Sh1 Y Z T (g a) (q a) j i e := tw_open (k := 0) h ht
theorem st1 (h : TW Y Z T g q ws) (hD : va_D A ws) (hk : ws[p]? = some (a, e0)) (ht : T a = (1, j, i)) (hs : Sh1 Y Z T (g a) (q a) j i e) : TW Y Z T g q (ws.set p (a, e)) := tw_set (k := 1) h hD hk ht hs
theorem op2 (h : TW Y Z T g q ws) (ht : T a = (2, j, i)) : ∃ (p : Nat) (e : va_E), ws[p]? = some (a, e) ∧ Sh2 Y Z T (g a) (q a) j i e := tw_open (k := 1) h ht
theorem st2 (h : TW Y Z T g q ws) (hD : va_D A ws) (hk : ws[p]? = some (a, e0)) (ht : T a = (2, j, i)) (hs : Sh2 Y Z T (g a) (q a) j i e) : TW Y Z T g q (ws.set p (a, e)) := tw_set (k := 2) h hD hk ht hs
theorem op3 (h : TW Y Z T g q ws) (ht : T a = (3, j, i)) : ∃ (p : Nat) (e : va_E), ws[p]? = some (a, e) ∧ Sh3 Y Z T (g a) (q a) j i e := tw_open (k := 2) h ht
theorem st3 (h : TW Y Z T g q ws) (hD : va_D A ws) (hk : ws[p]? = some (a, e0)) (ht : T a = (3, j, i)) (hs : Sh3 Y Z T (g a) (q a) j i e) : TW Y Z T g q (ws.set p (a, e)) := tw_set (k := 3) h hD hk ht hs
theorem op4 (h : TW Y Z T g q ws) (ht : T a = (4, j, i)) : ∃ (p : Nat) (e : va_E), ws[p]? = some (a, e) ∧ Sh4 Y Z T (g a) (q a) j i e := tw_open (k := 3) h ht
theorem st4 (h : TW Y Z T g q ws) (hD : va_D A ws) (hk : ws[p]? = some (a, e0)) (ht : T a = (4, j, i)) (hs : Sh4 Y Z T (g a) (q a) j i e) : TW Y Z T g q (ws.set p (a, e)) := tw_set (k := 4) h hD hk ht hs
theorem op5 (h : TW Y Z T g q ws) (ht : T a = (5, j, i)) : ∃ (p : Nat) (e : va_E), ws[p]? = some (a, e) ∧ Sh5 Y Z T (g a) (q a) j i e := tw_open (k := 4) h ht
theorem st5 (h : TW Y Z T g q ws) (hD : va_D A ws) (hk : ws[p]? = some (a, e0)) (ht : T a = (5, j, i)) (hs : Sh5 Y Z T (g a) (q a) j i e) : TW Y Z T g q (ws.set p (a, e)) := tw_set (k := 5) h hD hk ht hs
theorem op6 (h : TW Y Z T g q ws) (ht : T a = (6, j, i)) : ∃ (p : Nat) (e : va_E), ws[p]? = some (a, e) ∧ Sh6 Y Z T (g a) (q a) j i e := tw_open (k := 5) h ht
theorem st6 (h : TW Y Z T g q ws) (hD : va_D A ws) (hk : ws[p]? = some (a, e0)) (ht : T a = (6, j, i)) (hs : Sh6 Y Z T (g a) (q a) j i e) : TW Y Z T g q (ws.set p (a, e)) := tw_set (k := 6) h hD hk ht hs
theorem op7 (h : TW Y Z T g q ws) (ht : T a = (7, j, i)) : ∃ (p : Nat) (e : va_E), ws[p]? = some (a, e) ∧ Sh7 Y Z T (g a) (q a) j i e := tw_open (k := 6) h ht
theorem st7 (h : TW Y Z T g q ws) (hD : va_D A ws) (hk : ws[p]? = some (a, e0)) (ht : T a = (7, j, i)) (hs : Sh7 Y Z T (g a) (q a) j i e) : TW Y Z T g q (ws.set p (a, e)) := tw_set (k := 7) h hD hk ht hs
theorem op8 (h : TW Y Z T g q ws) (ht : T a = (8, j, i)) : ∃ (p : Nat) (e : va_E), ws[p]? = some (a, e) ∧ Sh8 Y Z T (g a) (q a) j i e := tw_open (k := 7) h ht
theorem st8 (h : TW Y Z T g q ws) (hD : va_D A ws) (hk : ws[p]? = some (a, e0)) (ht : T a = (8, j, i)) (hs : Sh8 Y Z T (g a) (q a) j i e) : TW Y Z T g q (ws.set p (a, e)) := tw_set (k := 8) h hD hk ht hs
theorem op9 (h : TW Y Z T g q ws) (ht : T a = (9, j, i)) : ∃ (p : Nat) (e : va_E), ws[p]? = some (a, e) ∧ Sh9 Y Z T (g a) (q a) j i e := tw_open (k := 8) h ht
theorem st9 (h : TW Y Z T g q ws) (hD : va_D A ws) (hk : ws[p]? = some (a, e0)) (ht : T a = (9, j, i)) (hs : Sh9 Y Z T (g a) (q a) j i e) : TW Y Z T g q (ws.set p (a, e)) := tw_set (k := 9) h hD hk ht hs
theorem op10 (h : TW Y Z T g q ws) (ht : T a = (10, j, i)) : ∃ (p : Nat) (e : va_E), ws[p]? = some (a, e) ∧ Sh10 Y Z T (g a) (q a) j i e := tw_open (k := 9) h ht
theorem st10 (h : TW Y Z T g q ws) (hD : va_D A ws) (hk : ws[p]? = some (a, e0)) (ht : T a = (10, j, i)) (hs : Sh10 Y Z T (g a) (q a) j i e) : TW Y Z T g q (ws.set p (a, e)) := tw_set (k := 10) h hD hk ht hs
theorem op11 (h : TW Y Z T g q ws) (ht : T a = (11, j, i)) : ∃ (p : Nat) (e : va_E), ws[p]? = some (a, e) ∧ Sh11 Y Z T (g a) (q a) j i e := tw_open (k := 10) h ht
theorem st11 (h : TW Y Z T g q ws) (hD : va_D A ws) (hk : ws[p]? = some (a, e0)) (ht : T a = (11, j, i)) (hs : Sh11 Y Z T (g a) (q a) j i e) : TW Y Z T g q (ws.set p (a, e)) := tw_set (k := 11) h hD hk ht hs
theorem op12 (h : TW Y Z T g q ws) (ht : T a = (12, j, i)) : ∃ (p : Nat) (e : va_E), ws[p]? = some (a, e) ∧ Sh12 Y Z T (g a) (q a) j i e := tw_open (k := 11) h ht
theorem st12 (h : TW Y Z T g q ws) (hD : va_D A ws) (hk : ws[p]? = some (a, e0)) (ht : T a = (12, j, i)) (hs : Sh12 Y Z T (g a) (q a) j i e) : TW Y Z T g q (ws.set p (a, e)) := tw_set (k := 12) h hD hk ht hs
theorem op13 (h : TW Y Z T g q ws) (ht : T a = (13, j, i)) : ∃ (p : Nat) (e : va_E), ws[p]? = some (a, e) ∧ Sh13 Y Z T (g a) (q a) j i e := tw_open (k := 12) h ht
theorem st13 (h : TW Y Z T g q ws) (hD : va_D A ws) (hk : ws[p]? = some (a, e0)) (ht : T a = (13, j, i)) (hs : Sh13 Y Z T (g a) (q a) j i e) : TW Y Z T g q (ws.set p (a, e)) := tw_set (k := 13) h hD hk ht hs
theorem op14 (h : TW Y Z T g q ws) (ht : T a = (14, j, i)) : ∃ (p : Nat) (e : va_E), ws[p]? = some (a, e) ∧ Sh14 Y Z T (g a) (q a) j i e := tw_open (k := 13) h ht
theorem st14 (h : TW Y Z T g q ws) (hD : va_D A ws) (hk : ws[p]? = some (a, e0)) (ht : T a = (14, j, i)) (hs : Sh14 Y Z T (g a) (q a) j i e) : TW Y Z T g q (ws.set p (a, e)) := tw_set (k := 14) h hD hk ht hs
theorem op15 (h : TW Y Z T g q ws) (ht : T a = (15, j, i)) : ∃ (p : Nat) (e : va_E), ws[p]? = some (a, e) ∧ Sh15 Y Z T (g a) (q a) j i e := tw_open (k := 14) h ht
theorem st15 (h : TW Y Z T g q ws) (hD : va_D A ws) (hk : ws[p]? = some (a, e0)) (ht : T a = (15, j, i)) (hs : Sh15 Y Z T (g a) (q a) j i e) : TW Y Z T g q (ws.set p (a, e)) := tw_set (k := 15) h hD hk ht hs
theorem op16 (h : TW Y Z T g q ws) (ht : T a = (16, j, i)) : ∃ (p : Nat) (e : va_E), ws[p]? = some (a, e) ∧ Sh16 Y Z T (g a) (q a) j i e := tw_open (k := 15) h ht
theorem st16 (h : TW Y Z T g q ws) (hD : va_D A ws) (hk : ws[p]? = some (a, e0)) (ht : T a = (16, j, i)) (hs : Sh16 Y Z T (g a) (q a) j i e) : TW Y Z T g q (ws.set p (a, e)) := tw_set (k := 16) h hD hk ht hs
theorem op17 (h : TW Y Z T g q ws) (ht : T a = (17, j, i)) : ∃ (p : Nat) (e : va_E), ws[p]? = some (a, e) ∧ Sh17 Y Z T (g a) (q a) j i e := tw_open (k := 16) h ht
theorem st17 (h : TW Y Z T g q ws) (hD : va_D A ws) (hk : ws[p]? = some (a, e0)) (ht : T a = (17, j, i)) (hs : Sh17 Y Z T (g a) (q a) j i e) : TW Y Z T g q (ws.set p (a, e)) := tw_set (k := 17) h hD hk ht hs
theorem op18 (h : TW Y Z T g q ws) (ht : T a = (18, j, i)) : ∃ (p : Nat) (e : va_E), ws[p]? = some (a, e) ∧ Sh18 Y Z T (g a) (q a) j i e := tw_open (k := 17) h ht
theorem st18 (h : TW Y Z T g q ws) (hD : va_D A ws) (hk : ws[p]? = some (a, e0)) (ht : T a = (18, j, i)) (hs : Sh18 Y Z T (g a) (q a) j i e) : TW Y Z T g q (ws.set p (a, e)) := tw_set (k := 18) h hD hk ht hs
theorem op19 (h : TW Y Z T g q ws) (ht : T a = (19, j, i)) : ∃ (p : Nat) (e : va_E), ws[p]? = some (a, e) ∧ Sh19 Y Z T (g a) (q a) j i e := tw_open (k := 18) h ht
theorem st19 (h : TW Y Z T g q ws) (hD : va_D A ws) (hk : ws[p]? = some (a, e0)) (ht : T a = (19, j, i)) (hs : Sh19 Y Z T (g a) (q a) j i e) : TW Y Z T g q (ws.set p (a, e)) := tw_set (k := 19) h hD hk ht hs
theorem op20 (h : TW Y Z T g q ws) (ht : T a = (20, j, i)) : ∃ (p : Nat) (e : va_E), ws[p]? = some (a, e) ∧ Sh20 Y Z T (g a) (q a) j i e := tw_open (k := 19) h ht
theorem st20 (h : TW Y Z T g q ws) (hD : va_D A ws) (hk : ws[p]? = some (a, e0)) (ht : T a = (20, j, i)) (hs : Sh20 Y Z T (g a) (q a) j i e) : TW Y Z T g q (ws.set p (a, e)) := tw_set (k := 20) h hD hk ht hs
theorem op21 (h : TW Y Z T g q ws) (ht : T a = (21, j, i)) : ∃ (p : Nat) (e : va_E), ws[p]? = some (a, e) ∧ Sh21 Y Z T (g a) (q a) j i e := tw_open (k := 20) h ht
theorem st21 (h : TW Y Z T g q ws) (hD : va_D A ws) (hk : ws[p]? = some (a, e0)) (ht : T a = (21, j, i)) (hs : Sh21 Y Z T (g a) (q a) j i e) : TW Y Z T g q (ws.set p (a, e)) := tw_set (k := 21) h hD hk ht hs
end TWS
section OKS
variable {Y : Nat → ClassId} {Z : Nat → Nat} {T : RT} {g : GN} {q : GQ} {ws : va_W} {a j i : Nat} {P : Prop}
theorem ok1 (h : TW Y Z T g q ws) (ht : T a = (1, j, i)) (kk : ∀ (p : Nat) (a0 : Nat) (a1 : Nat) (a2 : Nat) (a3 : Nat) (a4 : Nat) (x5 : Int32) (x6 : Int32) (x7 : Int32) (a8 : Nat) (a9 : Nat) (a10 : Nat) (a11 : Nat) (a12 : Nat) (a13 : Nat) (a14 : Nat) (a15 : Nat) (a16 : Nat) (x17 : Int32) (a18 : Nat) (a19 : Nat), ws[p]? = some (a, .inr (10, [.ref a0, .ref a1, .ref a2, .ref a3, .ref a4, .int x5, .int x6, .int x7, .ref a8, .ref a9, .ref a10, .ref a11, .ref a12, .ref a13, .ref a14, .ref a15, .ref a16, .int x17, .ref a18, .ref a19])) → T a0 = (2, 0, 0) → q a 0 = some a0 → T a1 = (19, 0, 0) → q a 1 = some a1 → T a2 = (20, 0, 0) → T a3 = (20, 0, 0) → T a4 = (20, 0, 0) → (0 ≤ x5.toInt ∧ x5.toInt ≤ 6) → (0 ≤ x6.toInt ∧ x6.toInt ≤ 6) → (0 ≤ x7.toInt ∧ x7.toInt ≤ 6) → T a8 = (7, 0, 0) → T a9 = (8, 0, 0) → T a10 = (9, 0, 0) → T a11 = (10, 0, 0) → T a12 = (11, 0, 0) → T a13 = (6, 0, 0) → T a14 = (6, 0, 0) → T a15 = (21, 432, 0) → T a16 = (21, 240, 0) → T a18 = (15, 10, 0) → T a19 = (12, 5, 0) → P) : P := by
  obtain ⟨p, _, hk, a0, a1, a2, a3, a4, x5, x6, x7, a8, a9, a10, a11, a12, a13, a14, a15, a16, x17, a18, a19, rfl, h0, h1, h2, h3, h4, h5, h6, h7, h8, h9, h10, h11, h12, h13, h14, h15, h16, h17, h18, h19, h20⟩ := op1 h ht
  exact kk p a0 a1 a2 a3 a4 x5 x6 x7 a8 a9 a10 a11 a12 a13 a14 a15 a16 x17 a18 a19 hk h0 h1 h2 h3 h4 h5 h6 h7 h8 h9 h10 h11 h12 h13 h14 h15 h16 h17 h18 h19 h20
theorem ok2 (h : TW Y Z T g q ws) (ht : T a = (2, j, i)) (kk : ∀ (p : Nat) (x0 : Int32) (a1 : Nat) (x2 : Int32) (a3 : Nat) (x4 : Int32) (a5 : Nat) (a6 : Nat) (x7 : Int32) (a8 : Nat) (a9 : Nat) (x10 : Int32) (a11 : Nat) (x12 : Int32), ws[p]? = some (a, .inr (6, [.int x0, .ref a1, .int x2, .ref a3, .int x4, .ref a5, .ref a6, .int x7, .ref a8, .ref a9, .int x10, .ref a11, .int x12])) → (0 ≤ x0.toInt ∧ x0.toInt ≤ 12) → g a 0 = x0 → T a1 = (17, j, 0) → q a 1 = some a1 → (0 ≤ x2.toInt ∧ x2.toInt ≤ 40) → g a 2 = x2 → T a3 = (18, 0, 0) → (0 ≤ x4.toInt ∧ x4.toInt ≤ 12) → g a 4 = x4 → T a5 = (14, j, 0) → q a 5 = some a5 → T a6 = (14, j, 1) → q a 6 = some a6 → (0 ≤ x7.toInt ∧ x7.toInt ≤ 50) → g a 7 = x7 → T a8 = (12, 8, 0) → T a9 = (12, 8, 0) → (0 ≤ x10.toInt ∧ x10.toInt ≤ 23) → g a 10 = x10 → T a11 = (16, 400, 0) → (0 ≤ x12.toInt ∧ x12.toInt ≤ 400) → P) : P := by
  obtain ⟨p, _, hk, x0, a1, x2, a3, x4, a5, a6, x7, a8, a9, x10, a11, x12, rfl, h0, h1, h2, h3, h4, h5, h6, h7, h8, h9, h10, h11, h12, h13, h14, h15, h16, h17, h18, h19, h20⟩ := op2 h ht
  exact kk p x0 a1 x2 a3 x4 a5 a6 x7 a8 a9 x10 a11 x12 hk h0 h1 h2 h3 h4 h5 h6 h7 h8 h9 h10 h11 h12 h13 h14 h15 h16 h17 h18 h19 h20
theorem ok3 (h : TW Y Z T g q ws) (ht : T a = (3, j, i)) (kk : ∀ (p : Nat) (x0 : Int32) (x1 : Int32) (x2 : Int32) (a3 : Nat), ws[p]? = some (a, .inr (7, [.int x0, .int x1, .int x2, .ref a3])) → g a 0 = x0 → T a3 = (12, 600, 0) → P) : P := by
  obtain ⟨p, _, hk, x0, x1, x2, a3, rfl, h0, h1⟩ := op3 h ht
  exact kk p x0 x1 x2 a3 hk h0 h1
theorem ok4 (h : TW Y Z T g q ws) (ht : T a = (4, j, i)) (kk : ∀ (p : Nat) (x0 : Int32) (x1 : Int32) (x2 : Int32) (x3 : Int32) (x4 : Int32) (x5 : Int32), ws[p]? = some (a, .inr (9, [.int x0, .int x1, .int x2, .int x3, .int x4, .int x5])) → (0 ≤ x5.toInt ∧ x5.toInt ≤ 1) → P) : P := by
  obtain ⟨p, _, hk, x0, x1, x2, x3, x4, x5, rfl, h0⟩ := op4 h ht
  exact kk p x0 x1 x2 x3 x4 x5 hk h0
theorem ok5 (h : TW Y Z T g q ws) (ht : T a = (5, j, i)) (kk : ∀ (p : Nat) (x0 : Int32) (x1 : Int32) (x2 : Int32) (x3 : Int32) (x4 : Int32) (x5 : Int32) (x6 : Int32) (x7 : Int32) (a8 : Nat) (a9 : Nat) (a10 : Nat) (a11 : Nat) (a12 : Nat) (x13 : Int32), ws[p]? = some (a, .inr (8, [.int x0, .int x1, .int x2, .int x3, .int x4, .int x5, .int x6, .int x7, .ref a8, .ref a9, .ref a10, .ref a11, .ref a12, .int x13])) → (0 ≤ x7.toInt ∧ x7.toInt ≤ 12) → T a8 = (12, 12, 0) → T a9 = (12, 12, 0) → T a10 = (12, 12, 0) → T a11 = (12, 12, 0) → T a12 = (12, 400, 0) → (0 ≤ x13.toInt ∧ x13.toInt ≤ 400) → P) : P := by
  obtain ⟨p, _, hk, x0, x1, x2, x3, x4, x5, x6, x7, a8, a9, a10, a11, a12, x13, rfl, h0, h1, h2, h3, h4, h5, h6⟩ := op5 h ht
  exact kk p x0 x1 x2 x3 x4 x5 x6 x7 a8 a9 a10 a11 a12 x13 hk h0 h1 h2 h3 h4 h5 h6
theorem ok6 (h : TW Y Z T g q ws) (ht : T a = (6, j, i)) (kk : ∀ (p : Nat) (x0 : Int32) (x1 : Int32) (x2 : Int32) (x3 : Int32) (x4 : Int32) (x5 : Int64) (x6 : Int64), ws[p]? = some (a, .inr (1, [.int x0, .int x1, .int x2, .int x3, .int x4, .long x5, .long x6])) → (0 ≤ x1.toInt ∧ x1.toInt ≤ 200) → P) : P := by
  obtain ⟨p, _, hk, x0, x1, x2, x3, x4, x5, x6, rfl, h0⟩ := op6 h ht
  exact kk p x0 x1 x2 x3 x4 x5 x6 hk h0
theorem ok7 (h : TW Y Z T g q ws) (ht : T a = (7, j, i)) (kk : ∀ (p : Nat) (n : Nat) (a0 : Nat) (x1 : Int32) (x2 : Int32) (x3 : Int32) (x4 : Int32) (x5 : Int32) (x6 : Int32) (x7 : Int32) (x8 : Int32) (a9 : Nat) (a10 : Nat) (x11 : Int32), ws[p]? = some (a, .inr (3, [.ref a0, .int x1, .int x2, .int x3, .int x4, .int x5, .int x6, .int x7, .int x8, .ref (Z a9), .ref a10, .int x11])) → T a0 = (16, n, 0) → (x1.toInt ≤ (n : Int)) → (0 ≤ x2.toInt ∧ x2.toInt ≤ (n : Int)) → a9 < 9 → T a10 = (5, 0, 0) → (0 ≤ x11.toInt ∧ x11.toInt ≤ 1) → n ≤ 400 → P) : P := by
  obtain ⟨p, _, hk, n, a0, x1, x2, x3, x4, x5, x6, x7, x8, a9, a10, x11, rfl, h0, h1, h2, h3, h4, h5, h6⟩ := op7 h ht
  exact kk p n a0 x1 x2 x3 x4 x5 x6 x7 x8 a9 a10 x11 hk h0 h1 h2 h3 h4 h5 h6
theorem ok8 (h : TW Y Z T g q ws) (ht : T a = (8, j, i)) (kk : ∀ (p : Nat) (a0 : Nat), ws[p]? = some (a, .inr (4, [.ref a0])) → T a0 = (15, 64, 0) → P) : P := by
  obtain ⟨p, _, hk, a0, rfl, h0⟩ := op8 h ht
  exact kk p a0 hk h0
theorem ok9 (h : TW Y Z T g q ws) (ht : T a = (9, j, i)) (kk : ∀ (p : Nat) (a0 : Nat) (a1 : Nat) (a2 : Nat) (x3 : Int32) (x4 : Int64) (x5 : Int64) (x6 : Int32) (x7 : Int64), ws[p]? = some (a, .inr (2, [.ref a0, .ref a1, .ref a2, .int x3, .long x4, .long x5, .int x6, .long x7])) → T a0 = (12, 600, 0) → T a1 = (13, 600, 0) → T a2 = (12, 600, 0) → (0 ≤ x3.toInt ∧ x3.toInt ≤ 600) → P) : P := by
  obtain ⟨p, _, hk, a0, a1, a2, x3, x4, x5, x6, x7, rfl, h0, h1, h2, h3⟩ := op9 h ht
  exact kk p a0 a1 a2 x3 x4 x5 x6 x7 hk h0 h1 h2 h3
theorem ok10 (h : TW Y Z T g q ws) (ht : T a = (10, j, i)) (kk : ∀ (p : Nat) (a0 : Nat) (a1 : Nat), ws[p]? = some (a, .inr (0, [.ref a0, .ref a1])) → T a0 = (12, 200, 0) → T a1 = (15, 200, 0) → P) : P := by
  obtain ⟨p, _, hk, a0, a1, rfl, h0, h1⟩ := op10 h ht
  exact kk p a0 a1 hk h0 h1
theorem ok11 (h : TW Y Z T g q ws) (ht : T a = (11, j, i)) (kk : ∀ (p : Nat) (a0 : Nat) (a1 : Nat) (a2 : Nat) (a3 : Nat), ws[p]? = some (a, .inr (5, [.ref a0, .ref a1, .ref a2, .ref a3])) → T a0 = (12, 5, 0) → T a1 = (15, 5, 0) → T a2 = (12, 5, 0) → T a3 = (12, 302, 0) → P) : P := by
  obtain ⟨p, _, hk, a0, a1, a2, a3, rfl, h0, h1, h2, h3⟩ := op11 h ht
  exact kk p a0 a1 a2 a3 hk h0 h1 h2 h3
end OKS
