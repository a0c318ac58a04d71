/-! ===== steps of the reading of texts (mine) ===== -/
theorem PS_to {tx cs cl sg ln : Nat → Int32} {t b d md b2 d2 md2 : Nat} (h : PSt tx cs cl sg ln t b d md) (hb : b2 = b) (hd : d2 = d) (hm : md ≤ md2) (h6 : md2 ≤ 60) : PSt tx cs cl sg ln t b2 d2 md2 := by rw [hb, hd]; exact PS_md h hm h6
def PU (sg sg2 ln ln2 : Nat → Int32) (t : Nat) (s v : Int) : Prop := ∃ x y : Int32, x.toInt = s + 16 * v ∧ sg2 = upd sg (400 * t + (ln t).toInt.toNat) x ∧ y.toInt = (ln t).toInt + 1 ∧ ln2 = upd ln t y
theorem PS_pu {tx cs cl sg sg2 ln ln2 : Nat → Int32} {t b d e md : Nat} {s v : Int} (h : PSt tx cs cl sg ln t b d md) (hp : PU sg sg2 ln ln2 t s v) (hx : ∀ x : Int32, x.toInt = s + 16 * v → stp x d e) (he : e ≤ md) (hl : (ln t).toInt < 400) : PSt tx cs cl sg2 ln2 t b e md ∧ (ln2 t).toInt = (ln t).toInt + 1 := by
  obtain ⟨x, y, h1, h2, h3, h4⟩ := hp
  refine ⟨PS_puts h (hx x h1) he hl h2 h4 h3, ?_⟩
  rw [h4, up_eq rfl]; exact h3
/-- the same, with all codes ahead of the part as they were -/
def PSg (tx cs cl sg ln gs : Nat → Int32) (t b d md : Nat) : Prop := PSt tx cs cl sg ln t b d md ∧ ∀ k : Nat, k < 400 * t + b → sg k = gs k
theorem PG_to {tx cs cl sg ln gs : Nat → Int32} {t b d md b2 d2 md2 : Nat} (h : PSg tx cs cl sg ln gs t b d md) (hb : b2 = b) (hd : d2 = d) (hm : md ≤ md2) (h6 : md2 ≤ 60) : PSg tx cs cl sg ln gs t b2 d2 md2 := ⟨PS_to h.1 hb hd hm h6, by rw [hb]; exact h.2⟩
theorem PG_len {tx cs cl sg ln gs : Nat → Int32} {t b d md : Nat} (h : PSg tx cs cl sg ln gs t b d md) : 0 ≤ (ln t).toInt ∧ (b : Int) ≤ (ln t).toInt ∧ (ln t).toInt ≤ 400 := PS_len h.1
theorem PG_tc {tx cs cl sg ln gs : Nat → Int32} {t b d md : Nat} (h : PSg tx cs cl sg ln gs t b d md) : TC tx cs cl sg := PS_tc h.1
theorem PG_dep {tx cs cl sg ln gs : Nat → Int32} {t b d md : Nat} (h : PSg tx cs cl sg ln gs t b d md) : d ≤ md ∧ md ≤ 60 := PS_dep h.1
theorem PG_pu {tx cs cl sg sg2 ln ln2 gs : Nat → Int32} {t b d e md : Nat} {s v : Int} (h : PSg tx cs cl sg ln gs t b d md) (hp : PU sg sg2 ln ln2 t s v) (hx : ∀ x : Int32, x.toInt = s + 16 * v → stp x d e) (he : e ≤ md) (hl : (ln t).toInt < 400) : PSg tx cs cl sg2 ln2 gs t b e md ∧ (ln2 t).toInt = (ln t).toInt + 1 := by
  have q := PS_pu h.1 hp hx he hl
  refine ⟨⟨q.1, fun k hk => ?_⟩, q.2⟩
  obtain ⟨x, y, h1, h2, h3, h4⟩ := hp
  have l := PS_len h.1
  rw [h2, up_ne (by omega)]; exact h.2 k hk
theorem PG_new {tx cs cl sg ln gs : Nat → Int32} {t b d md b2 : Nat} (h : PSg tx cs cl sg ln gs t b d md) (hb : (b2 : Int) = (ln t).toInt) : PSg tx cs cl sg ln sg t b2 0 md := ⟨PS_new h.1 hb, fun _ _ => rfl⟩
theorem PG_cl {tx cs cl cl2 sg ln gs : Nat → Int32} {t b d md k : Nat} {v : Int32} (h : PSg tx cs cl sg ln gs t b d md) (e1 : cl2 = upd cl k v) (h0 : 60 * (t : Int) + 5 * (cs t).toInt ≤ k) (h1 : k < 60 * t + 60) : PSg tx cs cl2 sg ln gs t b d md := ⟨PS_cl h.1 e1 h0 h1, h.2⟩
theorem PG_close {tx cs cs2 cl sg ln gs : Nat → Int32} {t b d md : Nat} {v : Int32} (h : PSg tx cs cl sg ln gs t b d md) (e1 : cs2 = upd cs t v) (hv : v.toInt = (cs t).toInt + 1) (h12 : (cs t).toInt < 12) (hc : CLok cl sg t (cs t).toInt.toNat (ln t).toInt.toNat) : PSg tx cs2 cl sg ln gs t b d md := ⟨PS_close h.1 e1 hv h12 hc, h.2⟩
theorem PG_seg {tx cs cl sg ln gs : Nat → Int32} {t b d md : Nat} (h : PSg tx cs cl sg ln gs t b d md) (hd : d = 1) : SEG sg t b (ln t).toInt.toNat := PS_seg h.1 hd
theorem PG_keep {tx cs cl sg ln gs : Nat → Int32} {t b d md a e : Nat} (h : PSg tx cs cl sg ln gs t b d md) (hs : SEG gs t a e) (he : e ≤ b) : SEG sg t a e := SEG_cong hs (fun k _ q => h.2 k (by omega))
theorem stp_num {x : Int32} {s v : Int} {d e : Nat} (hx : x.toInt = s + 16 * v) (hs : s = 0) (hv : 0 ≤ v) (h2 : v ≤ 99999) (hd : d < 63) (he : e = d + 1) : stp x d e := by
  have k := stp_code hx (by omega) (by omega) hv h2
  exact Or.inl ⟨by omega, he, hd⟩
theorem stp_word {x : Int32} {s v : Int} {d e : Nat} (hx : x.toInt = s + 16 * v) (hs : s = 1) (hv : 0 ≤ v) (h2 : v ≤ 9) (hd : d < 63) (he : e = d + 1) : stp x d e := by
  have k := stp_code hx (by omega) (by omega) hv (by omega)
  exact Or.inr (Or.inl ⟨by omega, by omega, he, hd⟩)
theorem stp_not {x : Int32} {s v : Int} {d e : Nat} (hx : x.toInt = s + 16 * v) (hs : s = 11) (hv : v = 0) (hd : 1 ≤ d) (h6 : d ≤ 63) (he : e = d) : stp x d e := by
  have k := stp_code hx (by omega) (by omega) (by omega) (by omega)
  exact Or.inr (Or.inr (Or.inl ⟨by omega, hd, h6, he⟩))
theorem stp_bin {x : Int32} {s v : Int} {d e : Nat} (hx : x.toInt = s + 16 * v) (h0 : 2 ≤ s) (h1 : s ≤ 15) (h11 : s ≠ 11) (hv : v = 0) (hd : 2 ≤ d) (h6 : d ≤ 64) (he : e = d - 1) : stp x d e := by
  have k := stp_code hx (by omega) (by omega) (by omega) (by omega)
  exact Or.inr (Or.inr (Or.inr ⟨by omega, by omega, by omega, hd, h6, he⟩))
/-- open brackets, nots, ands and ors: how many of the last two -/
def nbo (op : Nat → Int32) : Nat → Nat
  | 0 => 0
  | n + 1 => nbo op n + (if (op n).toInt = 12 ∨ (op n).toInt = 13 then 1 else 0)
def ent (op : Nat → Int32) (n : Nat) : Prop := ∀ k, k < n → (op k).toInt = 11 ∨ (op k).toInt = 12 ∨ (op k).toInt = 13 ∨ (op k).toInt = 91
theorem nbo_cong {f g : Nat → Int32} : ∀ {n : Nat}, (∀ k, k < n → g k = f k) → nbo g n = nbo f n
  | 0, _ => rfl
  | n + 1, h => by
    show nbo g n + _ = nbo f n + _
    rw [nbo_cong (fun k q => h k (by omega)), h n (by omega)]
theorem ent_le {op : Nat → Int32} {n m : Nat} (h : ent op n) (hm : m ≤ n) : ent op m := fun k q => h k (by omega)
theorem ent_push {op : Nat → Int32} {n m : Nat} {i v : Int32} (h : ent op n) (hi : (i.toNatClampNeg) = n) (hm : m = n + 1) (hv : v.toInt = 11 ∨ v.toInt = 12 ∨ v.toInt = 13 ∨ v.toInt = 91) : ent (upd op i.toNatClampNeg v) m := by
  intro k q
  by_cases z : k = i.toNatClampNeg
  · rw [up_eq z]; exact hv
  · rw [up_ne z]; exact h k (by omega)
theorem nbo_push {op : Nat → Int32} {n m : Nat} {i v : Int32} (hi : (i.toNatClampNeg) = n) (hm : m = n + 1) : (nbo (upd op i.toNatClampNeg v) m : Int) = nbo op n + (if v.toInt = 12 ∨ v.toInt = 13 then 1 else 0) := by
  rw [hm]
  show ((nbo (upd op i.toNatClampNeg v) n + _ : Nat) : Int) = _
  rw [nbo_cong (f := op) (fun k q => up_ne (by omega)), ← hi, up_eq rfl]
  split <;> simp
theorem nbo_pop {op : Nat → Int32} {n m : Nat} (hm : n = m + 1) : nbo op n = nbo op m + (if (op m).toInt = 12 ∨ (op m).toInt = 13 then 1 else 0) := by rw [hm]; rfl
theorem nbo_le {op : Nat → Int32} : ∀ n, nbo op n ≤ n
  | 0 => Nat.le_refl _
  | n + 1 => by have := nbo_le (op := op) n; show nbo op n + _ ≤ _; split <;> omega

