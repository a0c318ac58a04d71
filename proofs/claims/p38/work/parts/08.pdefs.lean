/-! ===== codes of texts: how deep the stack is (mine) ===== -/
/-- one code: the depth before and behind it -/
def stp (x : Int32) (d e : Nat) : Prop := ((x &&& 15).toInt = 0 ∧ e = d + 1 ∧ d < 63) ∨ ((x &&& 15).toInt = 1 ∧ (0 ≤ (x >>> (4 &&& 31)).toInt ∧ (x >>> (4 &&& 31)).toInt ≤ 9) ∧ e = d + 1 ∧ d < 63) ∨ ((x &&& 15).toInt = 11 ∧ 1 ≤ d ∧ d ≤ 63 ∧ e = d) ∨ ((x &&& 15).toInt ≠ 0 ∧ (x &&& 15).toInt ≠ 1 ∧ (x &&& 15).toInt ≠ 11 ∧ 2 ≤ d ∧ d ≤ 64 ∧ e = d - 1)
def wf (f : Nat → Int32) (b : Nat) : Nat → Nat → Prop
  | 0, d => d = 0
  | n + 1, e => ∃ d, wf f b n d ∧ stp (f (b + n)) d e
theorem stp_det {x : Int32} {d e e2 : Nat} (h : stp x d e) (h2 : stp x d e2) : e = e2 := by unfold stp at h h2; omega
theorem wf_det {f : Nat → Int32} {b : Nat} : ∀ {n d e : Nat}, wf f b n d → wf f b n e → d = e
  | 0, d, e, h, h2 => by have h : d = 0 := h; have h2 : e = 0 := h2; omega
  | n + 1, d, e, h, h2 => by
    obtain ⟨d0, k1, k2⟩ := h
    obtain ⟨e0, q1, q2⟩ := h2
    have z := wf_det k1 q1
    subst z
    exact stp_det k2 q2
theorem wf_pre {f : Nat → Int32} {b n D : Nat} (h : wf f b n D) : ∀ k, k ≤ n → ∃ d, wf f b k d := by
  intro k hk
  induction n generalizing D with
  | zero => exact ⟨D, by rw [show k = 0 by omega]; exact h⟩
  | succ n ih =>
    by_cases q : k = n + 1
    · exact ⟨D, by rw [q]; exact h⟩
    · obtain ⟨d, k1, -⟩ := h
      exact ih k1 (by omega)
theorem wf_at {f : Nat → Int32} {b n D k d : Nat} (h : wf f b n D) (hk : wf f b k d) (lt : k < n) : ∃ e, wf f b (k + 1) e ∧ stp (f (b + k)) d e := by
  obtain ⟨e, he⟩ := wf_pre h (k + 1) (by omega)
  obtain ⟨d0, k1, k2⟩ := id he
  have z := wf_det k1 hk
  subst z
  exact ⟨e, he, k2⟩
theorem wf_cong {f g : Nat → Int32} {b : Nat} : ∀ {n d : Nat}, (∀ k, k < n → g (b + k) = f (b + k)) → wf f b n d → wf g b n d
  | 0, _, _, h => h
  | n + 1, e, hk, h => by
    obtain ⟨d, k1, k2⟩ := h
    exact ⟨d, wf_cong (fun k q => hk k (by omega)) k1, by rw [hk n (by omega)]; exact k2⟩
theorem wf_m {f : Nat → Int32} {b n d b2 n2 d2 : Nat} (h : wf f b n d) (hb : b2 = b) (hn : n2 = n) (hd : d2 = d) : wf f b2 n2 d2 := by rw [hb, hn, hd]; exact h
def okT (tx : Nat → Int32) (t : Nat) : Prop := (t : Int) < (tx 0).toInt ∨ (12 ≤ t ∧ (t : Int) - 12 < (tx 2).toInt)
def SEG (sg : Nat → Int32) (t a b : Nat) : Prop := a ≤ b ∧ b ≤ 400 ∧ wf sg (400 * t + a) (b - a) 1
/-- a clause that has been read: its SUM, and its TEST if it has one -/
def CLok (cl sg : Nat → Int32) (t c m : Nat) : Prop := ∃ a b e : Nat, (cl (60 * t + 5 * c + 1)).toInt = a ∧ (cl (60 * t + 5 * c + 2)).toInt = b ∧ (cl (60 * t + 5 * c + 4)).toInt = e ∧ SEG sg t a b ∧ b ≤ m ∧ e ≤ m ∧ m ≤ 400 ∧ ((cl (60 * t + 5 * c + 3)).toInt = -1 ∨ ∃ a3 : Nat, (cl (60 * t + 5 * c + 3)).toInt = a3 ∧ SEG sg t a3 e)
def CTs (cs cl sg : Nat → Int32) (t m : Nat) : Prop := (0 ≤ (cs t).toInt ∧ (cs t).toInt ≤ 12) ∧ ∀ c : Nat, (c : Int) < (cs t).toInt → CLok cl sg t c m
def TC (tx cs cl sg : Nat → Int32) : Prop := ∀ t : Nat, t < 18 → okT tx t → CTs cs cl sg t 400
theorem SEG_cong {sg sg2 : Nat → Int32} {t a b : Nat} (h : SEG sg t a b) (hk : ∀ k, 400 * t + a ≤ k → k < 400 * t + b → sg2 k = sg k) : SEG sg2 t a b := ⟨h.1, h.2.1, wf_cong (fun k q => hk _ (by omega) (by have := h.1; omega)) h.2.2⟩
theorem CLok_cong {cl cl2 sg sg2 : Nat → Int32} {t c m : Nat} (h : CLok cl sg t c m) (hc : ∀ k, 60 * t + 5 * c ≤ k → k < 60 * t + 5 * c + 5 → cl2 k = cl k) (hk : ∀ k, 400 * t ≤ k → k < 400 * t + m → sg2 k = sg k) : CLok cl2 sg2 t c m := by
  obtain ⟨a, b, e, h1, h2, h3, h4, h5, h6, h7, h8⟩ := h
  refine ⟨a, b, e, ?_, ?_, ?_, SEG_cong h4 (fun k q1 q2 => hk k (by omega) (by omega)), h5, h6, h7, ?_⟩
  · rw [hc _ (by omega) (by omega)]; exact h1
  · rw [hc _ (by omega) (by omega)]; exact h2
  · rw [hc _ (by omega) (by omega)]; exact h3
  · rw [hc _ (by omega) (by omega)]
    rcases h8 with q | ⟨a3, q1, q2⟩
    · exact Or.inl q
    · exact Or.inr ⟨a3, q1, SEG_cong q2 (fun k z1 z2 => hk k (by omega) (by omega))⟩
theorem CLok_m {cl sg : Nat → Int32} {t c m m2 : Nat} (h : CLok cl sg t c m) (hm : m ≤ m2) (h4 : m2 ≤ 400) : CLok cl sg t c m2 := by
  obtain ⟨a, b, e, h1, h2, h3, hS, h5, h6, h7, h8⟩ := h
  exact ⟨a, b, e, h1, h2, h3, hS, by omega, by omega, h4, h8⟩
/-- while a text is read: all older ones stand, its clauses so far stand, and the part that is being written is d deep -/
def PSt (tx cs cl sg ln : Nat → Int32) (t b d md : Nat) : Prop := (TC tx cs cl sg ∧ ¬ okT tx t ∧ t < 18) ∧ CTs cs cl sg t (ln t).toInt.toNat ∧ (0 ≤ (ln t).toInt ∧ (b : Int) ≤ (ln t).toInt ∧ (ln t).toInt ≤ 400) ∧ wf sg (400 * t + b) ((ln t).toInt.toNat - b) d ∧ d ≤ md ∧ md ≤ 60
theorem PS_len {tx cs cl sg ln : Nat → Int32} {t b d md : Nat} (h : PSt tx cs cl sg ln t b d md) : 0 ≤ (ln t).toInt ∧ (b : Int) ≤ (ln t).toInt ∧ (ln t).toInt ≤ 400 := h.2.2.1
theorem PS_tc {tx cs cl sg ln : Nat → Int32} {t b d md : Nat} (h : PSt tx cs cl sg ln t b d md) : TC tx cs cl sg := h.1.1
theorem PS_dep {tx cs cl sg ln : Nat → Int32} {t b d md : Nat} (h : PSt tx cs cl sg ln t b d md) : d ≤ md ∧ md ≤ 60 := h.2.2.2.2
theorem TC_sg {tx cs cl sg sg2 : Nat → Int32} {t : Nat} (h : TC tx cs cl sg) (hn : ¬ okT tx t) (hk : ∀ k, k < 400 * t ∨ 400 * t + 400 ≤ k → sg2 k = sg k) : TC tx cs cl sg2 := by
  intro u hu ho
  have hne : u ≠ t := fun e => hn (e ▸ ho)
  have q := h u hu ho
  exact ⟨q.1, fun c hc => CLok_cong (q.2 c hc) (fun _ _ _ => rfl) (fun k a1 a2 => hk k (by omega))⟩
theorem TC_cl {tx cs cl cl2 sg : Nat → Int32} {t : Nat} (h : TC tx cs cl sg) (hn : ¬ okT tx t) (hk : ∀ k, k < 60 * t ∨ 60 * t + 60 ≤ k → cl2 k = cl k) : TC tx cs cl2 sg := by
  intro u hu ho
  have hne : u ≠ t := fun e => hn (e ▸ ho)
  have q := h u hu ho
  exact ⟨q.1, fun c hc => CLok_cong (q.2 c hc) (fun k a1 a2 => hk k (by have := q.1; omega)) (fun _ _ _ => rfl)⟩
theorem TC_cs {tx cs cs2 cl sg : Nat → Int32} {t : Nat} (h : TC tx cs cl sg) (hn : ¬ okT tx t) (hk : ∀ k, k ≠ t → cs2 k = cs k) : TC tx cs2 cl sg := by
  intro u hu ho
  have hne : u ≠ t := fun e => hn (e ▸ ho)
  have q := h u hu ho
  unfold CTs; rw [hk u hne]; exact q
/-- one more code -/
theorem PS_puts {tx cs cl sg sg2 ln ln2 : Nat → Int32} {t b d e md : Nat} {x y : Int32} (h : PSt tx cs cl sg ln t b d md) (hx : stp x d e) (he : e ≤ md) (hl : (ln t).toInt < 400) (e1 : sg2 = upd sg (400 * t + (ln t).toInt.toNat) x) (e2 : ln2 = upd ln t y) (hy : y.toInt = (ln t).toInt + 1) : PSt tx cs cl sg2 ln2 t b e md := by
  obtain ⟨⟨h1, h2, h3⟩, h4, h5, h6, h7, h8⟩ := h
  have l2 : ln2 t = y := by rw [e2]; exact if_pos rfl
  have s2 : ∀ k, k ≠ 400 * t + (ln t).toInt.toNat → sg2 k = sg k := fun k q => by rw [e1]; exact if_neg q
  have s3 : sg2 (400 * t + (ln t).toInt.toNat) = x := by rw [e1]; exact if_pos rfl
  unfold PSt
  rw [l2]
  refine ⟨⟨TC_sg h1 h2 (fun k q => s2 k (by omega)), h2, h3⟩, ⟨h4.1, fun c hc => CLok_m (CLok_cong (h4.2 c hc) (fun _ _ _ => rfl) (fun k q1 q2 => s2 k (by omega))) (by omega) (by omega)⟩, by omega, ?_, he, h8⟩
  have e3 : y.toInt.toNat - b = ((ln t).toInt.toNat - b) + 1 := by omega
  rw [e3]
  refine ⟨d, wf_cong (fun k q => s2 _ (by omega)) h6, ?_⟩
  have e4 : 400 * t + b + ((ln t).toInt.toNat - b) = 400 * t + (ln t).toInt.toNat := by omega
  rw [e4, s3]; exact hx
theorem PS_md {tx cs cl sg ln : Nat → Int32} {t b d md md2 : Nat} (h : PSt tx cs cl sg ln t b d md) (hm : md ≤ md2) (h6 : md2 ≤ 60) : PSt tx cs cl sg ln t b d md2 := by
  obtain ⟨h1, h2, h3, h4, h5, -⟩ := h
  exact ⟨h1, h2, h3, h4, by omega, h6⟩
/-- a new part begins where the code ends -/
theorem PS_new {tx cs cl sg ln : Nat → Int32} {t b d md b2 : Nat} (h : PSt tx cs cl sg ln t b d md) (hb : (b2 : Int) = (ln t).toInt) : PSt tx cs cl sg ln t b2 0 md := by
  obtain ⟨h1, h2, h3, h4, h5, h6⟩ := h
  refine ⟨h1, h2, by omega, ?_, Nat.zero_le _, h6⟩
  rw [show (ln t).toInt.toNat - b2 = 0 by omega]; rfl
/-- a store into the row of the clause that isn't counted yet -/
theorem PS_cl {tx cs cl cl2 sg ln : Nat → Int32} {t b d md k : Nat} {v : Int32} (h : PSt tx cs cl sg ln t b d md) (e1 : cl2 = upd cl k v) (h0 : 60 * (t : Int) + 5 * (cs t).toInt ≤ k) (h1 : k < 60 * t + 60) : PSt tx cs cl2 sg ln t b d md := by
  obtain ⟨⟨h1', h2, h3⟩, h4, h5⟩ := h
  have s2 : ∀ j, j ≠ k → cl2 j = cl j := fun j q => by rw [e1]; exact if_neg q
  have := h4.1
  exact ⟨⟨TC_cl h1' h2 (fun j q => s2 j (by omega)), h2, h3⟩, ⟨h4.1, fun c hc => CLok_cong (h4.2 c hc) (fun j q1 q2 => s2 j (by omega)) (fun _ _ _ => rfl)⟩, h5⟩
/-- the clause is counted -/
theorem PS_close {tx cs cs2 cl sg ln : Nat → Int32} {t b d md : Nat} {v : Int32} (h : PSt tx cs cl sg ln t b d md) (e1 : cs2 = upd cs t v) (hv : v.toInt = (cs t).toInt + 1) (h12 : (cs t).toInt < 12) (hc : CLok cl sg t (cs t).toInt.toNat (ln t).toInt.toNat) : PSt tx cs2 cl sg ln t b d md := by
  obtain ⟨⟨h1, h2, h3⟩, h4, h5⟩ := h
  have s2 : cs2 t = v := by rw [e1]; exact if_pos rfl
  have s3 : ∀ k, k ≠ t → cs2 k = cs k := fun k q => by rw [e1]; exact if_neg q
  refine ⟨⟨TC_cs h1 h2 s3, h2, h3⟩, ?_, h5⟩
  unfold CTs; rw [s2]
  have := h4.1
  refine ⟨by omega, fun c q => ?_⟩
  by_cases z : (c : Int) < (cs t).toInt
  · exact h4.2 c z
  · rw [show c = (cs t).toInt.toNat by omega]; exact hc
theorem PS_seg {tx cs cl sg ln : Nat → Int32} {t b d md : Nat} (h : PSt tx cs cl sg ln t b d md) (hd : d = 1) : SEG sg t b (ln t).toInt.toNat := by
  obtain ⟨-, -, h3, h4, -⟩ := h
  exact ⟨by omega, by omega, by rw [hd] at h4; exact h4⟩
/-- the text is one of them now -/
theorem TC_new {tx tx2 cs cl sg ln : Nat → Int32} {t b d md : Nat} (h : PSt tx cs cl sg ln t b d md) (hk : ∀ u, u < 18 → okT tx2 u → okT tx u ∨ u = t) : TC tx2 cs cl sg := by
  intro u hu ho
  rcases hk u hu ho with q | q
  · exact h.1.1 u hu q
  · rw [q]
    have := h.2.2.1
    exact ⟨h.2.1.1, fun c hc => CLok_m (h.2.1.2 c hc) (by omega) (by omega)⟩
theorem stp_code {x : Int32} {s v : Int} (hx : x.toInt = s + 16 * v) (h0 : 0 ≤ s) (h1 : s ≤ 15) (hv : 0 ≤ v) (h2 : v ≤ 99999) : (x &&& 15).toInt = s ∧ (x >>> (4 &&& 31)).toInt = v := by
  obtain ⟨n, hn⟩ : ∃ n : Nat, x.toInt = (n : Int) := ⟨x.toInt.toNat, by omega⟩
  have hx2 : x = nI n := i_is (hn.trans (nI_toInt (n := n) (by omega)).symm) rfl
  rw [hx2]
  constructor
  · have e : nI n &&& 15 = nI (n % 16) := by
      have := nI_and n 15
      rw [show (15 : Int32) = nI 15 from rfl, this, show (15 : Nat) = 2 ^ 4 - 1 from rfl, Nat.and_two_pow_sub_one_eq_mod]
    rw [e, nI_toInt (by omega)]; omega
  · rw [nI_shr4 (by omega), nI_toInt (by omega)]; omega

