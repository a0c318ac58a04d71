/-! ===== counting HOURS by their rest, and those IN (mine) ===== -/
def numb (f : Nat → Int32) (h : Nat) : Nat := if f h = -100000 then 0 else 1
theorem numb_le (f : Nat → Int32) (h : Nat) : numb f h ≤ 1 := by unfold numb; split <;> omega
def cr (f : Nat → Int32) (b r : Nat) : Nat → Nat
  | 0 => 0
  | n + 1 => cr f b r n + (if n % b = r then numb f n else 0)
def plc (b s h : Nat) : Nat := if h < s then h + b - s else (h - s) % b
def cin (f : Nat → Int32) (b l s : Nat) : Nat → Nat
  | 0 => 0
  | n + 1 => cin f b l s n + (if plc b s n < l then numb f n else 0)
def call (f : Nat → Int32) : Nat → Nat
  | 0 => 0
  | n + 1 => call f n + numb f n
def wsum (f : Nat → Int32) (b s n : Nat) : Nat → Nat
  | 0 => 0
  | j + 1 => wsum f b s n j + cr f b ((s + j) % b) n
theorem mod2 {x b : Nat} (h : x < 2 * b) : x % b = if x < b then x else x - b := by
  split <;> rename_i q
  · exact Nat.mod_eq_of_lt q
  · rw [Nat.mod_eq_sub_mod (by omega), Nat.mod_eq_of_lt (by omega)]
theorem plc_iff {b s l n : Nat} (hl : l < b) (hs : s < b) : n % b = (s + l) % b ↔ plc b s n = l := by
  unfold plc
  rw [mod2 (x := s + l) (by omega)]
  by_cases q : n < s
  · rw [if_pos q, Nat.mod_eq_of_lt (by omega : n < b)]
    split <;> omega
  · rw [if_neg q]
    have h1 : n % b = (s + (n - s) % b) % b := by
      rw [Nat.add_mod_mod]; congr 1; omega
    have h2 : (n - s) % b < b := Nat.mod_lt _ (by omega)
    rw [h1, mod2 (x := s + (n - s) % b) (by omega)]
    split <;> split <;> omega
theorem wsum_0 (f : Nat → Int32) (b s : Nat) : ∀ l, wsum f b s 0 l = 0
  | 0 => rfl
  | l + 1 => by unfold wsum; rw [wsum_0 f b s l]; rfl
theorem wsum_s {f : Nat → Int32} {b s n : Nat} (hs : s < b) : ∀ l, l ≤ b → wsum f b s (n + 1) l = wsum f b s n l + (if plc b s n < l then numb f n else 0)
  | 0, _ => by simp [wsum]
  | l + 1, hl => by
    have ih := wsum_s (f := f) (n := n) hs l (by omega)
    have e := plc_iff (n := n) (l := l) (s := s) (b := b) (by omega) hs
    show wsum f b s (n + 1) l + (cr f b ((s + l) % b) n + (if n % b = (s + l) % b then numb f n else 0)) = wsum f b s n l + cr f b ((s + l) % b) n + _
    rw [ih]
    by_cases q : n % b = (s + l) % b
    · have q2 := e.mp q
      rw [if_pos q, if_neg (by omega), if_pos (by omega)]; omega
    · have q2 : plc b s n ≠ l := fun z => q (e.mpr z)
      rw [if_neg q]
      by_cases q3 : plc b s n < l
      · rw [if_pos q3, if_pos (by omega)]; omega
      · rw [if_neg q3, if_neg (by omega)]; omega
theorem wsum_cin {f : Nat → Int32} {b s l : Nat} (hs : s < b) (hl : l ≤ b) : ∀ n, wsum f b s n l = cin f b l s n
  | 0 => wsum_0 f b s l
  | n + 1 => by rw [wsum_s hs l hl, wsum_cin hs hl n]; rfl
theorem cr_le (f : Nat → Int32) (b r : Nat) : ∀ n, cr f b r n ≤ n
  | 0 => Nat.le_refl _
  | n + 1 => by
    have := cr_le f b r n; have := numb_le f n
    unfold cr; split <;> omega
theorem cin_le (f : Nat → Int32) (b l s : Nat) : ∀ n, cin f b l s n ≤ n
  | 0 => Nat.le_refl _
  | n + 1 => by
    have := cin_le f b l s n; have := numb_le f n
    unfold cin; split <;> omega
theorem call_le (f : Nat → Int32) : ∀ n, call f n ≤ n
  | 0 => Nat.le_refl _
  | n + 1 => by
    have := call_le f n; have := numb_le f n
    unfold call; omega
def bdL (x : Int64) (n : Int) : Prop := -60000000 * n ≤ x.toInt ∧ x.toInt ≤ 60000000 * n
/-- rests: of each rest below the beat how many, together; and the windows over them -/
def RX (f rm : Nat → Int32) (rs : Nat → Int64) (b h : Nat) : Prop := ∀ g : Nat, g < b → (rm g).toInt = (cr f b g h : Int) ∧ (-100000 * (h : Int) ≤ (rs g).toInt ∧ (rs g).toInt ≤ 100000 * (h : Int))
def WX (f wm : Nat → Int32) (ws : Nat → Int64) (b s n : Nat) : Prop := ∀ g : Nat, g < b → (g < s → (wm g).toInt = (wsum f b g 600 n : Int) ∧ bdL (ws g) n) ∧ (s ≤ g → (wm g).toInt = (wsum f b g 600 (n - 1) : Int) ∧ bdL (ws g) ((n - 1 : Nat) : Int))
def ZZ (rm wm : Nat → Int32) (rs ws : Nat → Int64) (r : Int) : Prop := ∀ g : Nat, (g : Int) < r → rm g = 0 ∧ wm g = 0 ∧ rs g = 0 ∧ ws g = 0
theorem ZZ_m {rm wm : Nat → Int32} {rs ws : Nat → Int64} {r r2 : Int} (h : ZZ rm wm rs ws r) (hr : r2 = r) : ZZ rm wm rs ws r2 := by rw [hr]; exact h
theorem ZZ_0 {rm wm : Nat → Int32} {rs ws : Nat → Int64} {r : Int} (h : r ≤ 0) : ZZ rm wm rs ws r := fun g hg => by omega
theorem ZZ_s {rm wm rm2 wm2 : Nat → Int32} {rs ws rs2 ws2 : Nat → Int64} {i : Int32} {r2 : Int} (h : ZZ rm wm rs ws i.toInt) (h0 : 0 ≤ i.toInt) (hr : r2 = i.toInt + 1) (e1 : rs2 = vp_updL rs i.toNatClampNeg 0) (e2 : rm2 = upd rm i.toNatClampNeg 0) (e3 : ws2 = vp_updL ws i.toNatClampNeg 0) (e4 : wm2 = upd wm i.toNatClampNeg 0) : ZZ rm2 wm2 rs2 ws2 r2 := by
  have c := clampI h0
  intro g hg
  rw [e1, e2, e3, e4]
  by_cases q : g = i.toNatClampNeg
  · refine ⟨if_pos q, if_pos q, if_pos q, if_pos q⟩
  · have k := h g (by omega)
    exact ⟨(if_neg q).trans k.1, (if_neg q).trans k.2.1, (if_neg q).trans k.2.2.1, (if_neg q).trans k.2.2.2⟩
theorem RX_0 {f rm wm : Nat → Int32} {rs ws : Nat → Int64} {b : Nat} {r : Int} (h : ZZ rm wm rs ws r) (hb : (b : Int) ≤ r) {n : Nat} (hn : n = 0) : RX f rm rs b n := fun g hg => by
  obtain ⟨k1, -, k3, -⟩ := h g (by omega)
  rw [k1, k3, hn]; exact ⟨rfl, by decide⟩
theorem WX_0 {f rm wm : Nat → Int32} {rs ws : Nat → Int64} {b : Nat} {r : Int} (h : ZZ rm wm rs ws r) (hb : (b : Int) ≤ r) {s n : Nat} (hs : s = 0) (hn : n = 1) : WX f wm ws b s n := fun g hg => by
  obtain ⟨-, k1, -, k3⟩ := h g (by omega)
  rw [k1, k3, hs, hn]
  exact ⟨fun q => absurd q (Nat.not_lt_zero _), fun _ => ⟨rfl, by unfold bdL; decide⟩⟩
theorem RX_skip {f rm : Nat → Int32} {rs : Nat → Int64} {b : Nat} {i v : Int32} (h : RX f rm rs b i.toInt.toNat) (ev : v = f i.toNatClampNeg) (hv : v.toInt = -100000) (h0 : 0 ≤ i.toInt) {j : Int} (hj : j = i.toInt + 1) : RX f rm rs b j.toNat := by
  have ej : j.toNat = i.toInt.toNat + 1 := by omega
  have e0 : numb f i.toInt.toNat = 0 := if_pos (show f i.toNatClampNeg = -100000 from by rw [← ev]; exact i_is hv (by decide))
  intro g hg
  have q := h g hg
  rw [ej]
  refine ⟨?_, by omega⟩
  show (rm g).toInt = ((cr f b g i.toInt.toNat + _ : Nat) : Int)
  rw [e0, q.1]; split <;> rfl
theorem RX_s {f rm rm2 : Nat → Int32} {rs rs2 : Nat → Int64} {b : Nat} {i v r x : Int32} {y : Int64} (h : RX f rm rs b i.toInt.toNat) (ev : v = f i.toNatClampNeg) (hv : ¬ v.toInt = -100000) (h0 : 0 ≤ i.toInt) (hr : r.toInt = i.toInt % (b : Int)) (hb : 0 < b) (e1 : rs2 = vp_updL rs r.toNatClampNeg y) (e2 : rm2 = upd rm r.toNatClampNeg x) (hx : x.toInt = (rm r.toNatClampNeg).toInt + 1) (hy1 : (rs r.toNatClampNeg).toInt - 100000 ≤ y.toInt) (hy2 : y.toInt ≤ (rs r.toNatClampNeg).toInt + 100000) {j : Int} (hj : j = i.toInt + 1) : RX f rm2 rs2 b j.toNat := by
  have ej : j.toNat = i.toInt.toNat + 1 := by omega
  have e0 : numb f i.toInt.toNat = 1 := if_neg (fun q => hv (by
    have q2 : f i.toNatClampNeg = -100000 := q
    rw [ev, q2]; decide))
  have er : r.toNatClampNeg = i.toInt.toNat % b := by
    have a1 : (r.toNatClampNeg : Int) = r.toInt := clampI (by rw [hr]; exact Int.emod_nonneg _ (by omega))
    have a2 : ((i.toInt.toNat % b : Nat) : Int) = i.toInt % (b : Int) := by rw [Int.natCast_emod]; congr 1; omega
    omega
  intro g hg
  have q := h g hg
  rw [ej, e1, e2]
  by_cases z : g = r.toNatClampNeg
  · have a1 : upd rm r.toNatClampNeg x g = x := if_pos z
    have a2 : vp_updL rs r.toNatClampNeg y g = y := if_pos z
    rw [a1, a2]
    refine ⟨?_, by rw [← z] at hy1 hy2; omega⟩
    show x.toInt = ((cr f b g i.toInt.toNat + _ : Nat) : Int)
    rw [if_pos (by omega), e0]; rw [← z] at hx; omega
  · have a1 : upd rm r.toNatClampNeg x g = rm g := if_neg z
    have a2 : vp_updL rs r.toNatClampNeg y g = rs g := if_neg z
    rw [a1, a2]
    refine ⟨?_, by omega⟩
    show (rm g).toInt = ((cr f b g i.toInt.toNat + _ : Nat) : Int)
    rw [if_neg (by omega)]; omega
theorem RX_m {f rm : Nat → Int32} {rs : Nat → Int64} {b n n2 : Nat} (h : RX f rm rs b n) (hn : n2 = n) : RX f rm rs b n2 := by rw [hn]; exact h
theorem RX_g {f rm : Nat → Int32} {rs : Nat → Int64} {b n : Nat} {i : Int32} (k : RX f rm rs b n) (h0 : 0 ≤ i.toInt) (h1 : i.toInt < (b : Int)) : ((rm i.toNatClampNeg).toInt = (cr f b i.toNatClampNeg n : Int) ∧ (rm i.toNatClampNeg).toInt ≤ n ∧ 0 ≤ (rm i.toNatClampNeg).toInt) ∧ (-100000 * (n : Int) ≤ (rs i.toNatClampNeg).toInt ∧ (rs i.toNatClampNeg).toInt ≤ 100000 * (n : Int)) := by
  have c := clampI h0
  have q := k i.toNatClampNeg (by omega)
  have l := cr_le f b i.toNatClampNeg n
  exact ⟨⟨q.1, by omega, by omega⟩, q.2⟩
theorem WX_n {f wm : Nat → Int32} {ws : Nat → Int64} {b s n s2 n2 : Nat} (h : WX f wm ws b s n) (hs : b ≤ s) (h2 : s2 = 0) (hn : n2 = n + 1) : WX f wm ws b s2 n2 := fun g hg => by
  rw [h2, hn]
  exact ⟨fun q => absurd q (Nat.not_lt_zero _), fun _ => (h g hg).1 (by omega)⟩
theorem WX_m {f wm : Nat → Int32} {ws : Nat → Int64} {b s n s2 n2 : Nat} (h : WX f wm ws b s n) (hs : s2 = s) (hn : n2 = n) : WX f wm ws b s2 n2 := by rw [hs, hn]; exact h
theorem wsum_le (f : Nat → Int32) (b s n : Nat) : ∀ l, wsum f b s n l ≤ n * l
  | 0 => Nat.zero_le _
  | l + 1 => by
    have := wsum_le f b s n l; have := cr_le f b ((s + l) % b) n
    rw [Nat.mul_succ]; unfold wsum; omega
theorem WX_g {f wm : Nat → Int32} {ws : Nat → Int64} {b n : Nat} {i : Int32} (k : WX f wm ws b i.toInt.toNat n) (h0 : 0 ≤ i.toInt) (h1 : i.toInt < (b : Int)) (hn : 1 ≤ n) (h10 : n ≤ 10) : (0 ≤ (wm i.toNatClampNeg).toInt ∧ (wm i.toNatClampNeg).toInt ≤ 5400) ∧ (-540000000 ≤ (ws i.toNatClampNeg).toInt ∧ (ws i.toNatClampNeg).toInt ≤ 540000000) := by
  have c := clampI h0
  obtain ⟨q1, q2⟩ := (k i.toNatClampNeg (by omega)).2 (Nat.le_refl _)
  have l := wsum_le f b i.toNatClampNeg 600 (n - 1)
  unfold bdL at q2
  omega
theorem WX_s {f wm wm2 rm : Nat → Int32} {ws ws2 rs : Nat → Int64} {b n : Nat} {i v r : Int32} {y : Int64} {j : Int} (k : WX f wm ws b i.toInt.toNat n) (hR : RX f rm rs b 600) (h0 : 0 ≤ i.toInt) (h1 : i.toInt < (b : Int)) (hn : 1 ≤ n) (hr : r.toInt = (i.toInt + (n : Int) - 1) % (b : Int)) (hj : j = i.toInt + 1) (e1 : ws2 = vp_updL ws i.toNatClampNeg y) (e2 : wm2 = upd wm i.toNatClampNeg v) (hv : v.toInt = (wm i.toNatClampNeg).toInt + (rm r.toNatClampNeg).toInt) (hy : y.toInt = (ws i.toNatClampNeg).toInt + (rs r.toNatClampNeg).toInt) : WX f wm2 ws2 b j.toNat n := by
  have c := clampI h0
  have er : r.toNatClampNeg = (i.toInt.toNat + (n - 1)) % b := by
    have a1 : (r.toNatClampNeg : Int) = r.toInt := clampI (by rw [hr]; exact Int.emod_nonneg _ (by omega))
    have a2 : (((i.toInt.toNat + (n - 1)) % b : Nat) : Int) = (i.toInt + (n : Int) - 1) % (b : Int) := by rw [Int.natCast_emod]; congr 1; omega
    omega
  have hrb : r.toNatClampNeg < b := by rw [er]; exact Nat.mod_lt _ (by omega)
  have qr := hR r.toNatClampNeg hrb
  intro g hg
  have q := k g hg
  rw [e1, e2]
  by_cases z : g = i.toNatClampNeg
  · have a1 : upd wm i.toNatClampNeg v g = v := if_pos z
    have a2 : vp_updL ws i.toNatClampNeg y g = y := if_pos z
    rw [a1, a2]
    obtain ⟨p1, p2⟩ := q.2 (by omega)
    refine ⟨fun _ => ⟨?_, ?_⟩, fun q2 => by omega⟩
    · have e3 : wsum f b g 600 n = wsum f b g 600 (n - 1) + cr f b ((g + (n - 1)) % b) 600 := by
        conv => lhs; rw [show n = (n - 1) + 1 by omega]
        rfl
      have e4 : (g + (n - 1)) % b = r.toNatClampNeg := by rw [er, z]; rfl
      rw [e3, e4, hv, qr.1, ← z, p1]; omega
    · unfold bdL at p2 ⊢
      rw [hy, ← z]; omega
  · have a1 : upd wm i.toNatClampNeg v g = wm g := if_neg z
    have a2 : vp_updL ws i.toNatClampNeg y g = ws g := if_neg z
    rw [a1, a2]
    exact ⟨fun q2 => q.1 (by omega), fun q2 => q.2 (by omega)⟩
theorem WX_t {f wm : Nat → Int32} {ws : Nat → Int64} {b n : Nat} {i : Int32} {j : Int} (k : WX f wm ws b j.toNat n) (hj : j = i.toInt + 1) (h0 : 0 ≤ i.toInt) (h1 : i.toInt < (b : Int)) (h10 : n ≤ 10) : ((wm i.toNatClampNeg).toInt = (wsum f b i.toInt.toNat 600 n : Int) ∧ (0 ≤ (wm i.toNatClampNeg).toInt ∧ (wm i.toNatClampNeg).toInt ≤ 6000)) ∧ (-600000000 ≤ (ws i.toNatClampNeg).toInt ∧ (ws i.toNatClampNeg).toInt ≤ 600000000) := by
  have c := clampI h0
  obtain ⟨q1, q2⟩ := (k i.toNatClampNeg (by omega)).1 (by omega)
  have l := wsum_le f b i.toNatClampNeg 600 n
  unfold bdL at q2
  refine ⟨⟨q1, ?_⟩, ?_⟩ <;> omega
theorem plc_of {b s h d v : Int} (hb : 0 < b) (hsb : s ≤ b) (hs : 0 ≤ s) (hh : 0 ≤ h) (hd : (h < s ∧ d = -1) ∨ (s ≤ h ∧ d = (h - s) / b)) (hv : v = h - s - b * d) : v = (plc b.toNat s.toNat h.toNat : Int) := by
  unfold plc
  rcases hd with ⟨q, e⟩ | ⟨q, e⟩
  · rw [if_pos (by omega), hv, e]; omega
  · rw [if_neg (by omega), hv, e]
    have k : h - s - b * ((h - s) / b) = (h - s) % b := by have := Int.emod_def (h - s) b; omega
    rw [k, Int.natCast_emod]
    congr 1 <;> omega
theorem cin_st (f : Nat → Int32) (b l s : Nat) {i : Int32} {j : Int} (h0 : 0 ≤ i.toInt) (hj : j = i.toInt + 1) : ((f i.toNatClampNeg).toInt = -100000 ∧ (cin f b l s j.toNat : Int) = cin f b l s i.toInt.toNat) ∨ ((f i.toNatClampNeg).toInt ≠ -100000 ∧ (plc b s i.toInt.toNat : Int) < l ∧ (cin f b l s j.toNat : Int) = cin f b l s i.toInt.toNat + 1) ∨ ((f i.toNatClampNeg).toInt ≠ -100000 ∧ ¬ (plc b s i.toInt.toNat : Int) < l ∧ (cin f b l s j.toNat : Int) = cin f b l s i.toInt.toNat) := by
  have ej : j.toNat = i.toInt.toNat + 1 := by omega
  have e : cin f b l s j.toNat = cin f b l s i.toInt.toNat + (if plc b s i.toInt.toNat < l then numb f i.toInt.toNat else 0) := by rw [ej]; rfl
  have e1 : numb f i.toInt.toNat = if f i.toNatClampNeg = -100000 then 0 else 1 := rfl
  rw [e]
  by_cases q : f i.toNatClampNeg = -100000
  · left
    rw [e1, if_pos q, q]
    refine ⟨by decide, ?_⟩
    split <;> rfl
  · right
    have q2 : (f i.toNatClampNeg).toInt ≠ -100000 := fun z => q (i_is z (by decide))
    rw [e1, if_neg q]
    by_cases z : plc b s i.toInt.toNat < l
    · left; rw [if_pos z]; exact ⟨q2, by omega, by omega⟩
    · right; rw [if_neg z]; exact ⟨q2, by omega, by omega⟩

