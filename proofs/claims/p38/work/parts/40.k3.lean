/-! ===== the best set (mine) ===== -/
/-- the sum over a set -/
def smI (f : Nat → Int32) : Nat → Nat → Int32
  | 0, _ => 0
  | n + 1, s => smI f n s + (if s.testBit n then f n else 0)
/-- less all that are lower -/
def snI (f : Nat → Int32) : Nat → Int32
  | 0 => 0
  | n + 1 => snI f n + (- f n)
def spI (f : Nat → Int32) : Nat → Int32
  | 0 => 0
  | n + 1 => spI f n + f n
/-- the lowest bit -/
def ctzF (s : Nat) : Nat := ((List.range 12).find? (fun i => s.testBit i)).getD 0
def chk (s : Nat) : Bool := (ctzF s < 12) && s.testBit (ctzF s) && !(s - 1).testBit (ctzF s) && (List.range 12).all (fun i => if i < ctzF s then (!s.testBit i && (s - 1).testBit i) else (i == ctzF s || (s.testBit i == (s - 1).testBit i)))
set_option maxRecDepth 100000 in
theorem chk_all : (List.range 4095).all (fun k => chk (k + 1)) = true := by decide +kernel
theorem chk_s {s : Nat} (h1 : 1 ≤ s) (h2 : s < 4096) : chk s = true := by
  have h := List.all_eq_true.mp chk_all (s - 1) (List.mem_range.mpr (by omega))
  rwa [show s - 1 + 1 = s by omega] at h
theorem ctz_lt {s : Nat} (h1 : 1 ≤ s) (h2 : s < 4096) : ctzF s < 12 := by
  have h := chk_s h1 h2
  simp only [chk, Bool.and_eq_true, decide_eq_true_eq] at h
  exact h.1.1.1
theorem ctz_at {s : Nat} (h1 : 1 ≤ s) (h2 : s < 4096) : s.testBit (ctzF s) = true ∧ (s - 1).testBit (ctzF s) = false := by
  have h := chk_s h1 h2
  simp only [chk, Bool.and_eq_true, Bool.not_eq_true', decide_eq_true_eq] at h
  exact ⟨h.1.1.2, h.1.2⟩
theorem ctz_lo {s i : Nat} (h1 : 1 ≤ s) (h2 : s < 4096) (hi : i < ctzF s) : s.testBit i = false ∧ (s - 1).testBit i = true := by
  have h := chk_s h1 h2
  have l := ctz_lt h1 h2
  simp only [chk, Bool.and_eq_true] at h
  have k := List.all_eq_true.mp h.2 i (List.mem_range.mpr (by omega))
  rw [if_pos hi] at k
  simpa using k
theorem ctz_hi {s i : Nat} (h1 : 1 ≤ s) (h2 : s < 4096) (hi : ctzF s < i) (h12 : i < 12) : s.testBit i = (s - 1).testBit i := by
  have h := chk_s h1 h2
  simp only [chk, Bool.and_eq_true] at h
  have k := List.all_eq_true.mp h.2 i (List.mem_range.mpr h12)
  rw [if_neg (by omega)] at k
  have e : (i == ctzF s) = false := by simp; omega
  rw [e] at k
  simpa using k
theorem sp_sn (f : Nat → Int32) : ∀ n, spI f n + snI f n = 0
  | 0 => rfl
  | n + 1 => by
    have h := sp_sn f n
    show spI f n + f n + (snI f n + (- f n)) = 0
    rw [show spI f n + f n + (snI f n + -f n) = (spI f n + snI f n) + (f n + -f n) by ac_rfl, h, Int32.add_right_neg]; rfl
theorem sm_lo {f : Nat → Int32} {s : Nat} (h1 : 1 ≤ s) (h2 : s < 4096) : ∀ n, n ≤ ctzF s → smI f n s = 0 ∧ smI f n (s - 1) = spI f n
  | 0, _ => ⟨rfl, rfl⟩
  | n + 1, h => by
    obtain ⟨a, b⟩ := sm_lo h1 h2 n (by omega)
    obtain ⟨c, d⟩ := ctz_lo h1 h2 (i := n) (by omega)
    refine ⟨?_, ?_⟩
    · show smI f n s + (if s.testBit n then f n else 0) = 0
      rw [a, c]; rfl
    · show smI f n (s - 1) + (if (s - 1).testBit n then f n else 0) = spI f n + f n
      rw [b, d]; rfl
theorem sm_up {f : Nat → Int32} {s : Nat} (h1 : 1 ≤ s) (h2 : s < 4096) : ∀ n, ctzF s < n → n ≤ 12 → smI f n s = smI f n (s - 1) + (snI f (ctzF s) + f (ctzF s))
  | 0, h, _ => by omega
  | n + 1, h, h12 => by
    show smI f n s + (if s.testBit n then f n else 0) = smI f n (s - 1) + (if (s - 1).testBit n then f n else 0) + (snI f (ctzF s) + f (ctzF s))
    by_cases e : n = ctzF s
    · obtain ⟨a, b⟩ := sm_lo (f := f) h1 h2 n (by omega)
      obtain ⟨c, d⟩ := ctz_at h1 h2
      rw [a, b, e, c, d]
      show 0 + f (ctzF s) = spI f (ctzF s) + 0 + (snI f (ctzF s) + f (ctzF s))
      rw [show spI f (ctzF s) + 0 + (snI f (ctzF s) + f (ctzF s)) = (spI f (ctzF s) + snI f (ctzF s)) + f (ctzF s) + 0 by ac_rfl, sp_sn, Int32.add_zero]
    · rw [sm_up h1 h2 n (by omega) (by omega), ctz_hi h1 h2 (i := n) (by omega) (by omega)]
      ac_rfl
theorem sm_cong {f f2 : Nat → Int32} (s : Nat) : ∀ n, (∀ c, c < n → f c = f2 c) → smI f n s = smI f2 n s
  | 0, _ => rfl
  | n + 1, h => by
    show smI f n s + (if s.testBit n then f n else 0) = smI f2 n s + (if s.testBit n then f2 n else 0)
    rw [sm_cong s n (fun c hc => h c (by omega)), h n (by omega)]
/-- best set, its worth, its nights: of the sets up to the k-th -/
def bst (many : Int32) (N W : Nat → Int32) (n : Nat) : Nat → Int32 × Int32 × Int32
  | 0 => (0, 0, 0)
  | k + 1 => if (smI N n (k + 1)).toInt ≤ many.toInt ∧ ((bst many N W n k).2.1.toInt < (smI W n (k + 1)).toInt ∨ ((smI W n (k + 1)).toInt = (bst many N W n k).2.1.toInt ∧ (smI N n (k + 1)).toInt < (bst many N W n k).2.2.toInt)) then (Int32.ofNat (k + 1), smI W n (k + 1), smI N n (k + 1)) else bst many N W n k
theorem bst_cong {many : Int32} {N N2 W W2 : Nat → Int32} {n : Nat} (hN : ∀ c, c < n → N c = N2 c) (hW : ∀ c, c < n → W c = W2 c) : ∀ k, bst many N W n k = bst many N2 W2 n k
  | 0 => rfl
  | k + 1 => by
    show (if _ then _ else _) = (if _ then _ else _)
    rw [bst_cong hN hW k, sm_cong (k + 1) n hN, sm_cong (k + 1) n hW]
def BS (many : Int32) (N W : Nat → Int32) (n : Nat) (s b m f : Int32) : Prop := bst many N W n (s.toInt.toNat - 1) = (b, m, f)
theorem BS.one {many : Int32} {N W : Nat → Int32} {n : Nat} : BS many N W n 1 0 0 0 := rfl
theorem BS.yes {many : Int32} {N W : Nat → Int32} {n : Nat} {s s2 b m f u v : Int32} (h : BS many N W n s b m f) (h1 : 1 ≤ s.toInt) (e : s2.toInt = s.toInt + 1) (hu : u = smI N n s.toInt.toNat) (hv : v = smI W n s.toInt.toNat) (c1 : u.toInt ≤ many.toInt) (c2 : m.toInt < v.toInt ∨ (v.toInt = m.toInt ∧ u.toInt < f.toInt)) : BS many N W n s2 s v u := by
  unfold BS at h ⊢
  obtain ⟨k, hk⟩ : ∃ k, s.toInt.toNat = k + 1 := ⟨s.toInt.toNat - 1, by omega⟩
  rw [show s2.toInt.toNat - 1 = k + 1 by omega]
  rw [hk] at hu hv h
  have h : bst many N W n k = (b, m, f) := h
  show (if _ then _ else _) = _
  rw [h, ← hu, ← hv, if_pos ⟨c1, c2⟩, show Int32.ofNat (k + 1) = s from ?_]
  rw [← hk]
  apply Int32.toInt_inj.mp
  have r := rgI s
  rw [Int32.toInt_ofNat_of_lt (by omega)]; omega
theorem BS.no {many : Int32} {N W : Nat → Int32} {n : Nat} {s s2 b m f u v : Int32} (h : BS many N W n s b m f) (h1 : 1 ≤ s.toInt) (e : s2.toInt = s.toInt + 1) (hu : u = smI N n s.toInt.toNat) (hv : v = smI W n s.toInt.toNat) (c1 : ¬ (u.toInt ≤ many.toInt ∧ (m.toInt < v.toInt ∨ (v.toInt = m.toInt ∧ u.toInt < f.toInt)))) : BS many N W n s2 b m f := by
  unfold BS at h ⊢
  obtain ⟨k, hk⟩ : ∃ k, s.toInt.toNat = k + 1 := ⟨s.toInt.toNat - 1, by omega⟩
  rw [show s2.toInt.toNat - 1 = k + 1 by omega]
  rw [hk] at hu hv h
  have h : bst many N W n k = (b, m, f) := h
  show (if _ then _ else _) = _
  rw [h, ← hu, ← hv, if_neg c1]
/-- what nights gives back -/
def pickN (many what : Int32) (N W : Nat → Int32) (n : Nat) : Int32 := if what.toInt = 0 then (bst many N W n (2 ^ n - 1)).1 else (bst many N W n (2 ^ n - 1)).2.1
theorem BS.pick {many what : Int32} {N W : Nat → Int32} {n : Nat} {s b m f : Int32} (h : BS many N W n s b m f) (hs : s.toInt.toNat = 2 ^ n) : (what.toInt = 0 → b = pickN many what N W n) ∧ (what.toInt ≠ 0 → m = pickN many what N W n) := by
  unfold BS at h
  rw [hs] at h
  exact ⟨fun z => by unfold pickN; rw [if_pos z, h], fun z => by unfold pickN; rw [if_neg z, h]⟩
/-- all sets of n -/
theorem shl1 {x v : Int32} (e : v = 1 <<< (x &&& 31)) (h0 : 0 ≤ x.toInt) (h1 : x.toInt ≤ 12) : v.toInt.toNat = 2 ^ x.toInt.toNat ∧ 1 ≤ v.toInt ∧ v.toInt ≤ 4096 := by
  rcases (show x.toInt = 0 ∨ x.toInt = 1 ∨ x.toInt = 2 ∨ x.toInt = 3 ∨ x.toInt = 4 ∨ x.toInt = 5 ∨ x.toInt = 6 ∨ x.toInt = 7 ∨ x.toInt = 8 ∨ x.toInt = 9 ∨ x.toInt = 10 ∨ x.toInt = 11 ∨ x.toInt = 12 by omega) with c | c | c | c | c | c | c | c | c | c | c | c | c
  · obtain rfl : x = 0 := i_is c (by decide); rw [e]; decide
  · obtain rfl : x = 1 := i_is c (by decide); rw [e]; decide
  · obtain rfl : x = 2 := i_is c (by decide); rw [e]; decide
  · obtain rfl : x = 3 := i_is c (by decide); rw [e]; decide
  · obtain rfl : x = 4 := i_is c (by decide); rw [e]; decide
  · obtain rfl : x = 5 := i_is c (by decide); rw [e]; decide
  · obtain rfl : x = 6 := i_is c (by decide); rw [e]; decide
  · obtain rfl : x = 7 := i_is c (by decide); rw [e]; decide
  · obtain rfl : x = 8 := i_is c (by decide); rw [e]; decide
  · obtain rfl : x = 9 := i_is c (by decide); rw [e]; decide
  · obtain rfl : x = 10 := i_is c (by decide); rw [e]; decide
  · obtain rfl : x = 11 := i_is c (by decide); rw [e]; decide
  · obtain rfl : x = 12 := i_is c (by decide); rw [e]; decide
theorem nI_self {x : Int32} (h : 0 ≤ x.toInt) : x = nI x.toInt.toNat := by
  apply Int32.toInt_inj.mp
  have r := rgI x
  show x.toInt = (Int32.ofNat x.toInt.toNat).toInt
  rw [Int32.toInt_ofNat_of_lt (by omega)]; omega
theorem bitN (n k : Nat) (hn : n < 2 ^ 31) (s : Int32) (hs : (s.toBitVec.smod 32).toNat = k) : (nI n >>> s) &&& 1 = if n.testBit k then 1 else 0 := by
  rw [pk_shrN hn s k hs, show (1 : Int32) = nI 1 from rfl, nI_and, Nat.and_one_is_mod, Nat.testBit_eq_decide_div_mod_eq]
  by_cases c : n / 2 ^ k % 2 = 1
  · rw [c]; simp
  · have c2 : n / 2 ^ k % 2 = 0 := by omega
    rw [c2]; simp; rfl
theorem bitI {x c b v : Int32} (e1 : v = x >>> (c &&& 31)) (e2 : b = v &&& 1) (hx : 0 ≤ x.toInt) (h0 : 0 ≤ c.toInt) (h1 : c.toInt < 12) : b = if x.toInt.toNat.testBit c.toInt.toNat then 1 else 0 := by
  have r := rgI x
  have hn : x.toInt.toNat < 2 ^ 31 := by omega
  rw [e2, e1]
  conv => lhs; rw [nI_self hx]
  apply bitN _ _ hn
  rcases (show c.toInt = 0 ∨ c.toInt = 1 ∨ c.toInt = 2 ∨ c.toInt = 3 ∨ c.toInt = 4 ∨ c.toInt = 5 ∨ c.toInt = 6 ∨ c.toInt = 7 ∨ c.toInt = 8 ∨ c.toInt = 9 ∨ c.toInt = 10 ∨ c.toInt = 11 by omega) with z | z | z | z | z | z | z | z | z | z | z | z
  · obtain rfl : c = 0 := i_is z (by decide); decide
  · obtain rfl : c = 1 := i_is z (by decide); decide
  · obtain rfl : c = 2 := i_is z (by decide); decide
  · obtain rfl : c = 3 := i_is z (by decide); decide
  · obtain rfl : c = 4 := i_is z (by decide); decide
  · obtain rfl : c = 5 := i_is z (by decide); decide
  · obtain rfl : c = 6 := i_is z (by decide); decide
  · obtain rfl : c = 7 := i_is z (by decide); decide
  · obtain rfl : c = 8 := i_is z (by decide); decide
  · obtain rfl : c = 9 := i_is z (by decide); decide
  · obtain rfl : c = 10 := i_is z (by decide); decide
  · obtain rfl : c = 11 := i_is z (by decide); decide
/-- one more of the sum -/
theorem sm_nx {f : Nat → Int32} {s x c b v y m u w : Int32} (h : x = smI f c.toInt.toNat s.toInt.toNat) (e1 : v = s >>> (c &&& 31)) (e2 : b = v &&& 1) (e3 : m = b * y) (e4 : u = x + m) (hy : y = f c.toInt.toNat) (hs : 0 ≤ s.toInt) (h0 : 0 ≤ c.toInt) (h1 : c.toInt < 12) (hw : w.toInt = c.toInt + 1) : u = smI f w.toInt.toNat s.toInt.toNat := by
  have hb := bitI e1 e2 hs h0 h1
  rw [show w.toInt.toNat = c.toInt.toNat + 1 by omega]
  show u = smI f c.toInt.toNat s.toInt.toNat + (if s.toInt.toNat.testBit c.toInt.toNat then f c.toInt.toNat else 0)
  rw [e4, h, e3, hb, hy]
  split
  · rw [Int32.one_mul]
  · rw [Int32.zero_mul]
set_option maxRecDepth 100000 in
theorem ntz_all : (List.range 4095).all (fun k => ((nI (k + 1) ^^^ (-1)) &&& (nI (k + 1) - 1)) == nI (2 ^ ctzF (k + 1) - 1)) = true := by decide +kernel
theorem ntzI {x v w y : Int32} (e1 : v = x ^^^ (-1)) (e2 : w = x - 1) (e3 : y = v &&& w) (h1 : 1 ≤ x.toInt) (h2 : x.toInt ≤ 4095) : y = nI (2 ^ ctzF x.toInt.toNat - 1) ∧ ctzF x.toInt.toNat < 12 := by
  have h := List.all_eq_true.mp ntz_all (x.toInt.toNat - 1) (List.mem_range.mpr (by omega))
  rw [show x.toInt.toNat - 1 + 1 = x.toInt.toNat by omega, ← nI_self (by omega)] at h
  refine ⟨?_, ctz_lt (by omega) (by omega)⟩
  rw [e3, e1, e2]; exact eq_of_beq h
/-- what stepUp has gathered -/
def SUP (f : Nat → Int32) (b : Nat) (i : Int) (m : Int32) : Prop := (i ≤ b → m = snI f i.toNat) ∧ (i = b + 1 → m = snI f b + f b)
theorem SUP.zero {f : Nat → Int32} {b : Nat} {i : Int} (h : i = 0) : SUP f b i 0 := ⟨fun _ => by rw [h]; rfl, fun z => by omega⟩
theorem SUP.lt {f : Nat → Int32} {b : Nat} {i m m2 y n : Int32} {j : Int} (h : SUP f b i.toInt m) (h0 : 0 ≤ i.toInt) (hb : i.toInt < b) (hy : y = f i.toNatClampNeg) (en : n = -y) (e : m2 = m + n) (hj : j = i.toInt + 1) : SUP f b j m2 := by
  have c := clampI h0
  refine ⟨fun _ => ?_, fun z => by omega⟩
  rw [show j.toNat = i.toInt.toNat + 1 by omega]
  show m2 = snI f i.toInt.toNat + (- f i.toInt.toNat)
  rw [e, en, hy, h.1 (by omega), show i.toNatClampNeg = i.toInt.toNat by omega]
theorem SUP.eq {f : Nat → Int32} {b : Nat} {i m m2 y : Int32} {j : Int} (h : SUP f b i.toInt m) (h0 : 0 ≤ i.toInt) (hb : i.toInt = b) (hy : y = f i.toNatClampNeg) (e : m2 = m + y) (hj : j = i.toInt + 1) : SUP f b j m2 := by
  have c := clampI h0
  refine ⟨fun z => by omega, fun _ => ?_⟩
  rw [e, hy, h.1 (by omega), show i.toInt.toNat = b by omega, show i.toNatClampNeg = b by omega]
theorem sm_0 (f : Nat → Int32) : ∀ n, smI f n 0 = 0
  | 0 => rfl
  | n + 1 => by
    show smI f n 0 + (if (0 : Nat).testBit n then f n else 0) = 0
    rw [sm_0 f n, Nat.zero_testBit]; rfl
theorem ctz_n {s n : Nat} (h1 : 1 ≤ s) (h2 : s < 2 ^ n) (hn : n ≤ 12) : ctzF s < n := by
  have h3 : s < 4096 := Nat.lt_of_lt_of_le h2 (Nat.pow_le_pow_right (by decide) hn)
  have h := Nat.ge_two_pow_of_testBit (ctz_at h1 h3).1
  exact (Nat.pow_lt_pow_iff_right (by decide : 1 < 2)).mp (Nat.lt_of_le_of_lt h h2)
/-- the class's loop -/
def CBS (many : Int32) (N W : Nat → Int32) (n : Nat) (s b m f u v : Int32) : Prop := BS many N W n s b m f ∧ u = smI N n (s.toInt.toNat - 1) ∧ v = smI W n (s.toInt.toNat - 1) ∧ s.toInt.toNat ≤ 2 ^ n
theorem CBS.one {many : Int32} {N W : Nat → Int32} {n : Nat} : CBS many N W n 1 0 0 0 0 0 := ⟨BS.one, (sm_0 N n).symm, (sm_0 W n).symm, Nat.one_le_two_pow⟩
theorem up_st {f : Nat → Int32} {n : Nat} {s u r u2 : Int32} (h : u = smI f n (s.toInt.toNat - 1)) (hr : r = snI f (ctzF s.toInt.toNat) + f (ctzF s.toInt.toNat)) (e : u2 = u + r) (h1 : 1 ≤ s.toInt) (h2 : s.toInt.toNat < 2 ^ n) (hn : n ≤ 12) : u2 = smI f n s.toInt.toNat := by
  have h3 : s.toInt.toNat < 4096 := Nat.lt_of_lt_of_le h2 (Nat.pow_le_pow_right (by decide) hn)
  rw [e, hr, h, sm_up (by omega) h3 n (ctz_n (by omega) h2 hn) hn]
theorem CBS.yes {many : Int32} {N W : Nat → Int32} {n : Nat} {s s2 b m f u v u2 v2 r1 r2 : Int32} (h : CBS many N W n s b m f u v) (h1 : 1 ≤ s.toInt) (h2 : s.toInt.toNat < 2 ^ n) (hn : n ≤ 12) (e : s2.toInt = s.toInt + 1) (er1 : r1 = snI N (ctzF s.toInt.toNat) + N (ctzF s.toInt.toNat)) (er2 : r2 = snI W (ctzF s.toInt.toNat) + W (ctzF s.toInt.toNat)) (eu : u2 = u + r1) (ev : v2 = v + r2) (c1 : u2.toInt ≤ many.toInt) (c2 : m.toInt < v2.toInt ∨ (v2.toInt = m.toInt ∧ u2.toInt < f.toInt)) : CBS many N W n s2 s v2 u2 u2 v2 := by
  obtain ⟨a, b1, b2, b3⟩ := h
  have k1 := up_st b1 er1 eu h1 h2 hn
  have k2 := up_st b2 er2 ev h1 h2 hn
  exact ⟨a.yes h1 e k1 k2 c1 c2, by rw [show s2.toInt.toNat - 1 = s.toInt.toNat by omega]; exact k1, by rw [show s2.toInt.toNat - 1 = s.toInt.toNat by omega]; exact k2, by omega⟩
theorem CBS.no {many : Int32} {N W : Nat → Int32} {n : Nat} {s s2 b m f u v u2 v2 r1 r2 : Int32} (h : CBS many N W n s b m f u v) (h1 : 1 ≤ s.toInt) (h2 : s.toInt.toNat < 2 ^ n) (hn : n ≤ 12) (e : s2.toInt = s.toInt + 1) (er1 : r1 = snI N (ctzF s.toInt.toNat) + N (ctzF s.toInt.toNat)) (er2 : r2 = snI W (ctzF s.toInt.toNat) + W (ctzF s.toInt.toNat)) (eu : u2 = u + r1) (ev : v2 = v + r2) (c1 : ¬ (u2.toInt ≤ many.toInt ∧ (m.toInt < v2.toInt ∨ (v2.toInt = m.toInt ∧ u2.toInt < f.toInt)))) : CBS many N W n s2 b m f u2 v2 := by
  obtain ⟨a, b1, b2, b3⟩ := h
  have k1 := up_st b1 er1 eu h1 h2 hn
  have k2 := up_st b2 er2 ev h1 h2 hn
  exact ⟨a.no h1 e k1 k2 c1, by rw [show s2.toInt.toNat - 1 = s.toInt.toNat by omega]; exact k1, by rw [show s2.toInt.toNat - 1 = s.toInt.toNat by omega]; exact k2, by omega⟩
/-- the model's loops -/
def MBS (many : Int32) (N W : Nat → Int32) (n : Nat) (s b m f : Int32) : Prop := BS many N W n s b m f ∧ s.toInt.toNat ≤ 2 ^ n
theorem MBS.one {many : Int32} {N W : Nat → Int32} {n : Nat} : MBS many N W n 1 0 0 0 := ⟨BS.one, Nat.one_le_two_pow⟩
def MSM (N W : Nat → Int32) (s c u v : Int32) : Prop := u = smI N c.toInt.toNat s.toInt.toNat ∧ v = smI W c.toInt.toNat s.toInt.toNat
theorem MSM.zero {N W : Nat → Int32} {s : Int32} : MSM N W s 0 0 0 := ⟨rfl, rfl⟩
theorem sm_ny {f : Nat → Int32} {s x c b v y m u : Int32} (h : x = smI f c.toInt.toNat s.toInt.toNat) (e1 : v = s >>> (c &&& 31)) (e2 : b = v &&& 1) (e3 : m = b * y) (e4 : u = x + m) (hy : y = f c.toInt.toNat) (hs : 0 ≤ s.toInt) (h0 : 0 ≤ c.toInt) (h1 : c.toInt < 12) : u = smI f (c.toInt.toNat + 1) s.toInt.toNat := by
  have hb := bitI e1 e2 hs h0 h1
  show u = smI f c.toInt.toNat s.toInt.toNat + (if s.toInt.toNat.testBit c.toInt.toNat then f c.toInt.toNat else 0)
  rw [e4, h, e3, hb, hy]
  split
  · rw [Int32.one_mul]
  · rw [Int32.zero_mul]
theorem MSM.next {N W : Nat → Int32} {s c w u v : Int32} (h1 : u = smI N (c.toInt.toNat + 1) s.toInt.toNat) (h2 : v = smI W (c.toInt.toNat + 1) s.toInt.toNat) (hw : w.toInt = c.toInt + 1) (h0 : 0 ≤ c.toInt) : MSM N W s w u v := by
  unfold MSM
  rw [show w.toInt.toNat = c.toInt.toNat + 1 by omega]; exact ⟨h1, h2⟩
theorem MBS.yes {many : Int32} {N W : Nat → Int32} {n : Nat} {s s2 b m f u v c : Int32} (h : MBS many N W n s b m f) (k : MSM N W s c u v) (hc : c.toInt.toNat = n) (h1 : 1 ≤ s.toInt) (h2 : s.toInt.toNat < 2 ^ n) (e : s2.toInt = s.toInt + 1) (c1 : u.toInt ≤ many.toInt) (c2 : m.toInt < v.toInt ∨ (v.toInt = m.toInt ∧ u.toInt < f.toInt)) : MBS many N W n s2 s v u := by
  unfold MSM at k
  rw [hc] at k
  exact ⟨h.1.yes h1 e k.1 k.2 c1 c2, by omega⟩
theorem MBS.no {many : Int32} {N W : Nat → Int32} {n : Nat} {s s2 b m f u v c : Int32} (h : MBS many N W n s b m f) (k : MSM N W s c u v) (hc : c.toInt.toNat = n) (h1 : 1 ≤ s.toInt) (h2 : s.toInt.toNat < 2 ^ n) (e : s2.toInt = s.toInt + 1) (c1 : ¬ (u.toInt ≤ many.toInt ∧ (m.toInt < v.toInt ∨ (v.toInt = m.toInt ∧ u.toInt < f.toInt)))) : MBS many N W n s2 b m f := by
  unfold MSM at k
  rw [hc] at k
  exact ⟨h.1.no h1 e k.1 k.2 c1, by omega⟩

