/-! ===== class and model agree in counts, STARS and sizes (mine) ===== -/
def SK2 (T : RT) (g : GN) (q : GQ) (j b : Nat) (f : Nat → Int32) : Prop := (g b 0 = f 0 ∧ g b 2 = f 1 ∧ g b 4 = f 2) ∧ (g b 0).toInt ≤ 12 ∧ ∃ sr, q b 1 = some sr ∧ T sr = (17, j, 0) ∧ ∀ i : Nat, (i : Int) < (g b 0).toInt → ∃ st, q sr i = some st ∧ T st = (3, j, i) ∧ g st 0 = f (3 + 3 * i)
def LN (T : RT) (g : GN) (q : GQ) (x : Nat) (F : Nat → Nat → Int32) : Prop := ∃ s0 ia : Nat, (q x 0 = some s0 ∧ T s0 = (2, 0, 0) ∧ SK2 T g q 0 s0 (F 0)) ∧ (q x 1 = some ia ∧ T ia = (19, 0, 0)) ∧ ∀ k : Nat, k < 4 → (q ia k = none ∧ (F 48 k).toInt = 0) ∨ ∃ b, q ia k = some b ∧ T b = (2, k + 1, 0) ∧ (F 48 k).toInt ≠ 0 ∧ SK2 T g q (k + 1) b (fun n => F 47 (7533 * k + n))
section LNS
variable {T T2 : RT} {g g2 : GN} {q q2 : GQ} {x : Nat} {F F2 : Nat → Nat → Int32}
theorem SK2.nnl {j b sr : Nat} {f : Nat → Int32} (h : SK2 T g q j b f) (hs : q b 1 = some sr) : NNL g q b sr := fun n hn e => by
  obtain ⟨_, _, sr2, a1, _, a3⟩ := h
  obtain rfl : sr2 = sr := Option.some.inj (a1.symm.trans hs)
  obtain ⟨st, b1, _⟩ := a3 n hn
  rw [e] at b1; cases b1
theorem SK2.keep {j b : Nat} {f f2 : Nat → Int32} (h : SK2 T g q j b f) (hb : T b = (2, j, 0)) (le : TLe T T2) (hg : g2 b 0 = g b 0 ∧ g2 b 2 = g b 2 ∧ g2 b 4 = g b 4) (hg3 : ∀ a, (T a).1 = 3 → (T a).2.1 = j → g2 a = g a) (hq : ∀ a, ((T a).1 = 2 ∨ (T a).1 = 17) → (T a).2.1 = j → q2 a = q a) (hf : KS f f2) : SK2 T2 g2 q2 j b f2 := by
  obtain ⟨⟨c0, c2, c4⟩, cm, sr, a1, a2, a3⟩ := h
  obtain ⟨⟨k0, k1, k2⟩, ks⟩ := hf
  refine ⟨⟨by rw [hg.1, k0]; exact c0, by rw [hg.2.1, k1]; exact c2, by rw [hg.2.2, k2]; exact c4⟩, by rw [hg.1]; exact cm, sr, by rw [hq b (Or.inl (by rw [hb])) (by rw [hb])]; exact a1, le.up a2, fun i hi => ?_⟩
  rw [hg.1] at hi
  obtain ⟨st, b1, b2, b3⟩ := a3 i hi
  exact ⟨st, by rw [hq sr (Or.inr (by rw [a2])) (by rw [a2])]; exact b1, le.up b2, by rw [hg3 st (by rw [b2]) (by rw [b2]), ks i (by omega)]; exact b3⟩
/-- the main Sky alone is new -/
theorem LN.sky (h : LN T g q x F) (hx : T x = (1, 0, 0)) (le : TLe T T2) (hgj : GJ T 0 g g2) (hqj : QJ T 0 q q2) (h0 : ∀ s0, q x 0 = some s0 → T s0 = (2, 0, 0) → SK2 T g q 0 s0 (F 0) → SK2 T2 g2 q2 0 s0 (F2 0)) (h47 : F2 47 = F 47) (h48 : F2 48 = F 48) : LN T2 g2 q2 x F2 := by
  obtain ⟨s0, ia, ⟨a1, a2, a3⟩, ⟨b1, b2⟩, hk⟩ := h
  have ex : q2 x = q x := hqj x (by rw [hx]; show (1 : Nat) ≠ 0; decide) (Or.inl (by rw [hx]; show (1 : Nat) ≠ 17; decide))
  have ei : q2 ia = q ia := hqj ia (by rw [b2]; show (19 : Nat) ≠ 0; decide) (Or.inl (by rw [b2]; show (19 : Nat) ≠ 17; decide))
  refine ⟨s0, ia, ⟨by rw [ex]; exact a1, le.up a2, h0 s0 a1 a2 a3⟩, ⟨by rw [ex]; exact b1, le.up b2⟩, fun k hk4 => ?_⟩
  rw [ei, h47, h48]
  rcases hk k hk4 with c | ⟨b, c1, c2, c3, c4⟩
  · exact Or.inl c
  · refine Or.inr ⟨b, c1, le.up c2, c3, c4.keep c2 le ?_ (fun a k1 k2 => hgj a (by rw [k1]; decide) (by rw [k2]; exact Nat.succ_ne_zero k)) (fun a k1 k2 => ?_) KS.rf⟩
    · have e := hgj b (by rw [c2]; show (2 : Nat) ≠ 0; decide) (by rw [c2]; exact Nat.succ_ne_zero k)
      rw [e]; exact ⟨rfl, rfl, rfl⟩
    · refine hqj a ?_ (Or.inr (by rw [k2]; exact Nat.succ_ne_zero k))
      rcases k1 with k1 | k1 <;> rw [k1] <;> decide
theorem LN.keep (h : LN T g q x F) (hx : T x = (1, 0, 0)) (le : TLe T T2) (hf : KS (F 0) (F2 0)) (h47 : F2 47 = F 47) (h48 : F2 48 = F 48) : LN T2 g q x F2 :=
  h.sky hx le GJ.rf QJ.rf (fun _ _ k2 k3 => k3.keep k2 le ⟨rfl, rfl, rfl⟩ (fun _ _ _ => rfl) (fun _ _ _ => rfl) hf) h47 h48
theorem UPS.s3 {s n j i : Nat} {v : Int32} (h : UPS T g g2 s n v) (hs : T s = (2, j, i)) : ∀ a, (T a).1 = 3 → g2 a = g a := fun a k => h.2.2 a (by rw [k]; decide) (by rw [k]; decide) (fun z => by rw [z, hs] at k; exact absurd k (show (2 : Nat) ≠ 3 by decide))
/-- WIDE, ORDER -/
theorem LN.up (h : LN T g q x F) (hx : T x = (1, 0, 0)) (n : Nat) (hn : n = 7 ∨ n = 10) (hgj : GJ T 0 g g2) (hc : ∀ s0, q x 0 = some s0 → UPE T g g2 s0 n) (hf : KS (F 0) (F2 0)) (h47 : F2 47 = F 47) (h48 : F2 48 = F 48) : LN T g2 q x F2 := by
  refine h.sky hx TLe.rf hgj QJ.rf (fun s0 k1 k2 k3 => ?_) h47 h48
  obtain ⟨v, c⟩ := hc s0 k1
  exact k3.keep k2 TLe.rf ⟨c.2.1 0 (by omega), c.2.1 2 (by omega), c.2.1 4 (by omega)⟩ (fun a z _ => c.s3 k2 a z) (fun _ _ _ => rfl) hf
/-- WORLDS, CANDIDATES -/
theorem LN.cnt (h : LN T g q x F) (hx : T x = (1, 0, 0)) (le : TLe T T2) (n j : Nat) (hnj : n = 2 ∧ j = 1 ∨ n = 4 ∧ j = 2) (hgj : GJ T 0 g g2) {OK : Prop} {p r r2 : Int32} {M : Int} {f2 : Nat → Int32} (hc : ∀ s0 sr, q x 0 = some s0 → q s0 1 = some sr → NNL g q s0 sr → (((OK) ∧ (0 ≤ p.toInt ∧ p.toInt < (g s0 0).toInt) ∧ (g s0 n).toInt < M) ∧ r.toInt = (g s0 n).toInt ∧ UPP T g g2 s0 n) ∨ (¬ ((OK) ∧ (0 ≤ p.toInt ∧ p.toInt < (g s0 0).toInt) ∧ (g s0 n).toInt < M) ∧ r.toInt = -1 ∧ g2 = g)) (hm : (((OK) ∧ (0 ≤ p.toInt ∧ p.toInt < (F 0 0).toInt) ∧ (F 0 j).toInt < M) ∧ r2.toInt = (F 0 j).toInt ∧ KC j (F 0) f2) ∨ (¬ ((OK) ∧ (0 ≤ p.toInt ∧ p.toInt < (F 0 0).toInt) ∧ (F 0 j).toInt < M) ∧ r2.toInt = -1 ∧ KS (F 0) f2)) (h0 : F2 0 = f2) (h47 : F2 47 = F 47) (h48 : F2 48 = F 48) : r.toInt = r2.toInt ∧ LN T2 g2 q x F2 := by
  obtain ⟨s0, ia, ⟨a1, a2, a3⟩, _⟩ := id h
  obtain ⟨⟨c0, c2, c4⟩, cm, sr, k1, k2, k3⟩ := id a3
  have cn : g s0 n = F 0 j := by rcases hnj with ⟨rfl, rfl⟩ | ⟨rfl, rfl⟩ <;> assumption
  rcases hc s0 sr a1 k1 (a3.nnl k1) with ⟨p1, d1, v, d2, d3⟩ | ⟨p1, d1, d2⟩
  · rw [c0, cn] at p1
    rcases hm with ⟨_, m1, m2⟩ | ⟨p2, _⟩
    · refine ⟨by rw [d1, m1, cn], h.sky hx le hgj QJ.rf (fun s1 e1 e2 e3 => ?_) h47 h48⟩
      obtain rfl : s1 = s0 := Option.some.inj (e1.symm.trans a1)
      rw [h0]
      obtain ⟨u0, u1, u2, u3, u4⟩ := m2
      have g0 : g2 s1 0 = g s1 0 := d3.2.1 0 (by omega)
      have ev : g2 s1 n = f2 j := by rw [d3.1]; exact Int32.toInt_inj.mp (by rw [d2, u0, cn])
      refine ⟨?_, by rw [g0]; exact cm, sr, k1, le.up k2, fun i hi => ?_⟩
      · rcases hnj with ⟨rfl, rfl⟩ | ⟨rfl, rfl⟩
        · exact ⟨by rw [g0, u1 (by decide)]; exact c0, ev, by rw [d3.2.1 4 (by decide), u3 (by decide)]; exact c4⟩
        · exact ⟨by rw [g0, u1 (by decide)]; exact c0, by rw [d3.2.1 2 (by decide), u2 (by decide)]; exact c2, ev⟩
      · rw [g0] at hi
        obtain ⟨st, b1, b2, b3⟩ := k3 i hi
        exact ⟨st, b1, le.up b2, by rw [d3.s3 a2 st (by rw [b2]), u4 i (by omega)]; exact b3⟩
    · exact absurd p1 p2
  · rw [c0, cn] at p1
    rcases hm with ⟨p2, _⟩ | ⟨_, m1, m2⟩
    · exact absurd p2 p1
    · subst d2
      exact ⟨by rw [d1, m1], h.keep hx le (by rw [h0]; exact m2) h47 h48⟩
/-- a size -/
theorem LN.rz (h : LN T g q x F) (hx : T x = (1, 0, 0)) (hgj : GJ T 0 g g2) {p p2 r r2 : Int32} {OK : Prop} {f2 : Nat → Int32} (hc : ∀ s0 sr, q x 0 = some s0 → q s0 1 = some sr → NNL g q s0 sr → (((0 ≤ p.toInt ∧ p.toInt < (g s0 0).toInt) ∧ OK) ∧ RSZ g g2 q sr p.toNatClampNeg r p2) ∨ (¬ ((0 ≤ p.toInt ∧ p.toInt < (g s0 0).toInt) ∧ OK) ∧ r.toInt = -1 ∧ g2 = g)) (hm : (((0 ≤ p.toInt ∧ p.toInt < (F 0 0).toInt) ∧ OK) ∧ r2 = F 0 (3 + 3 * p.toNatClampNeg) ∧ KR p.toNatClampNeg p2 (F 0) f2) ∨ (¬ ((0 ≤ p.toInt ∧ p.toInt < (F 0 0).toInt) ∧ OK) ∧ r2.toInt = -1 ∧ KS (F 0) f2)) (h0 : F2 0 = f2) (h47 : F2 47 = F 47) (h48 : F2 48 = F 48) : r.toInt = r2.toInt ∧ LN T g2 q x F2 := by
  obtain ⟨s0, ia, ⟨a1, a2, a3⟩, _⟩ := id h
  obtain ⟨⟨c0, c2, c4⟩, cm, sr, k1, k2, k3⟩ := id a3
  rcases hc s0 sr a1 k1 (a3.nnl k1) with ⟨p1, st, d1, d2, d3⟩ | ⟨p1, d1, d2⟩
  · have cl := clampI p1.1.1
    obtain ⟨st2, e1, e2, e3⟩ := k3 p.toNatClampNeg (by omega)
    obtain rfl : st2 = st := Option.some.inj (e1.symm.trans d1)
    rw [c0] at p1
    rcases hm with ⟨_, m1, m2⟩ | ⟨z, _⟩
    · refine ⟨by rw [d2, m1, e3], h.sky hx TLe.rf hgj QJ.rf (fun s1 z1 z2 z3 => ?_) h47 h48⟩
      obtain rfl : s1 = s0 := Option.some.inj (z1.symm.trans a1)
      rw [h0]
      obtain ⟨⟨u0, u1, u2⟩, u3, u4⟩ := m2
      have gs : g2 s1 = g s1 := by rw [d3]; exact gset_ne (rne a2 e2 (by decide))
      refine ⟨by rw [gs, u0, u1, u2]; exact ⟨c0, c2, c4⟩, by rw [gs]; exact cm, sr, k1, k2, fun i hi => ?_⟩
      rw [gs] at hi
      obtain ⟨sti, b1, b2, b3⟩ := k3 i hi
      refine ⟨sti, b1, b2, ?_⟩
      by_cases e : i = p.toNatClampNeg
      · rw [e] at b1 ⊢
        obtain rfl : sti = st2 := Option.some.inj (b1.symm.trans e1)
        rw [d3, gs_eq, u3]
      · rw [d3, gset_ne (rne3 b2 e2 e), u4 i (by omega) e]; exact b3
    · exact absurd p1 z
  · rw [c0] at p1
    rcases hm with ⟨z, _⟩ | ⟨_, m1, m2⟩
    · exact absurd z p1
    · subst d2
      exact ⟨by rw [d1, m1], h.keep hx TLe.rf (by rw [h0]; exact m2) h47 h48⟩
/-- a new STAR -/
theorem LN.star (h : LN T g q x F) (hx : T x = (1, 0, 0)) (le : TLe T T2) (hgj : GJ T 0 g g2) (hqj : QJ T 0 q q2) {P : Prop} {p r r2 : Int32} {f2 : Nat → Int32} (hc : ∀ s0 sr, q x 0 = some s0 → q s0 1 = some sr → (P ∧ ((r.toInt = -1 ∧ 12 ≤ (g s0 0).toInt ∧ g2 = g ∧ q2 = q) ∨ ((g s0 0).toInt < 12 ∧ r.toInt = (g s0 0).toInt ∧ ADS T T2 g g2 q q2 0 s0 sr (g s0 0).toNatClampNeg p))) ∨ (¬ P ∧ r.toInt = -1 ∧ g2 = g ∧ q2 = q)) (hm : (¬ ((F 0 0).toInt < 12 ∧ P) ∧ r2.toInt = -1 ∧ KS (F 0) f2) ∨ (((F 0 0).toInt < 12 ∧ P) ∧ r2.toInt = (F 0 0).toInt ∧ KN1 (F 0 0).toNatClampNeg p (F 0) f2)) (hpos : 0 ≤ (F 0 0).toInt) (h0 : F2 0 = f2) (h47 : F2 47 = F 47) (h48 : F2 48 = F 48) : r.toInt = r2.toInt ∧ LN T2 g2 q2 x F2 := by
  obtain ⟨s0, ia, ⟨a1, a2, a3⟩, _⟩ := id h
  obtain ⟨⟨c0, c2, c4⟩, cm, sr, k1, k2, k3⟩ := id a3
  rcases hc s0 sr a1 k1 with ⟨p1, ⟨d1, d2, d3, d4⟩ | ⟨d1, d2, v, st, d3, ⟨d4, d5⟩, ⟨d6, d7, d8⟩, d9, d10, d11⟩⟩ | ⟨p1, d1, d3, d4⟩
  · rcases hm with ⟨_, m1, m2⟩ | ⟨⟨p2, _⟩, _⟩
    · subst d3; subst d4
      exact ⟨by rw [d1, m1], h.keep hx le (by rw [h0]; exact m2) h47 h48⟩
    · rw [c0] at d2; omega
  · rcases hm with ⟨p2, _⟩ | ⟨_, m1, m2⟩
    · exact absurd ⟨by rw [← c0]; exact d1, p1⟩ p2
    · refine ⟨by rw [d2, m1, c0], h.sky hx le hgj hqj (fun s1 z1 z2 z3 => ?_) h47 h48⟩
      obtain rfl : s1 = s0 := Option.some.inj (z1.symm.trans a1)
      rw [h0]
      obtain ⟨u0, ⟨u1, u2⟩, u3, u4⟩ := m2
      have cl := clampI hpos
      have ec : g2 s1 0 = f2 0 := by rw [d4]; exact Int32.toInt_inj.mp (by rw [d3, u0, c0])
      have qb : q2 s1 = q s1 := d10 s1 (by rw [a2]; show (2 : Nat) ≠ 0; decide) (rne a2 k2 (by decide))
      refine ⟨⟨ec, by rw [d5 2 (by decide), u1]; exact c2, by rw [d5 4 (by decide), u2]; exact c4⟩, by rw [d4]; omega, sr, by rw [qb]; exact k1, le.up k2, fun i hi => ?_⟩
      by_cases e : i = (g s1 0).toNatClampNeg
      · refine ⟨st, by rw [e]; exact d6, by rw [e]; exact d7, ?_⟩
        rw [e, d8, c0, u3]
      · rw [d4, d3, c0] at hi
        have e2 : i ≠ (F 0 0).toNatClampNeg := by rw [← c0]; exact e
        obtain ⟨sti, b1, b2, b3⟩ := k3 i (by rw [c0]; omega)
        refine ⟨sti, by rw [d9 i e]; exact b1, le.up b2, ?_⟩
        rw [d11 sti (by rw [b2]; show (3 : Nat) ≠ 0; decide) (rne b2 a2 (by decide)) (rne3 (le.up b2) d7 e), u4 i (by omega) e2]; exact b3
  · rcases hm with ⟨_, m1, m2⟩ | ⟨⟨_, p2⟩, _⟩
    · subst d3; subst d4
      exact ⟨by rw [d1, m1], h.keep hx le (by rw [h0]; exact m2) h47 h48⟩
    · exact absurd p2 p1
/-- an image -/
theorem LN.image (h : LN T g q x F) (hx : T x = (1, 0, 0)) (le : TLe T T2) {P : Prop} {K : Nat} {r r2 : Int32} {im2 mk2 : Nat → Int32} (hK : P → K < 4) (hc : ∀ s0 ia, q x 0 = some s0 → q x 1 = some ia → (P ∧ r = g s0 0 ∧ IMS T T2 g g2 q q2 x s0 ia K) ∨ (¬ P ∧ r.toInt = -1 ∧ g2 = g ∧ q2 = q)) (hm : (P ∧ r2 = F 0 0 ∧ IMP K (F 0) (F 47) (F 48) im2 mk2) ∨ (¬ P ∧ r2.toInt = -1 ∧ im2 = F 47 ∧ mk2 = F 48)) (h0 : F2 0 = F 0) (h47 : F2 47 = im2) (h48 : F2 48 = mk2) : r.toInt = r2.toInt ∧ LN T2 g2 q2 x F2 := by
  obtain ⟨s0, ia, ⟨a1, a2, a3⟩, ⟨b1, b2⟩, hk⟩ := id h
  rcases hc s0 ia a1 b1 with ⟨p1, c1, b, i1, ⟨i2, i3⟩, i4, ⟨e0, e2, e4, _, _⟩, i5, i6, sr, i7, i8, i9⟩ | ⟨p1, c1, c2, c3⟩
  · rcases hm with ⟨_, d1, m1, m2, m3⟩ | ⟨p2, _⟩
    · have keepj : ∀ (j : Nat), j ≠ K + 1 → ∀ (c : Nat) (f f2 : Nat → Int32), T c = (2, j, 0) → SK2 T g q j c f → KS f f2 → SK2 T2 g2 q2 j c f2 := fun j hj c f f2 hcT hsk hks => by
        refine hsk.keep hcT le ?_ (fun a z1 z2 => i5 a (by rw [z1]; decide) (by rw [z2]; exact hj)) (fun a z1 z2 => ?_) hks
        · rw [i5 c (by rw [hcT]; show (2 : Nat) ≠ 0; decide) (by rw [hcT]; exact hj)]; exact ⟨rfl, rfl, rfl⟩
        · refine i6 a ?_ (fun z => ?_) (by rw [z2]; exact hj)
          · rcases z1 with z1 | z1 <;> rw [z1] <;> decide
          · rw [z, b2] at z1
            rcases z1 with z1 | z1
            · exact absurd z1 (show (19 : Nat) ≠ 2 by decide)
            · exact absurd z1 (show (19 : Nat) ≠ 17 by decide)
      refine ⟨by rw [c1, d1, a3.1.1], s0, ia, ⟨by rw [i1]; exact a1, le.up a2, ?_⟩, ⟨by rw [i1]; exact b1, le.up b2⟩, fun k hk4 => ?_⟩
      · exact keepj 0 (Ne.symm (Nat.succ_ne_zero K)) s0 (F 0) (F2 0) a2 a3 (by rw [h0]; exact KS.rf)
      · rw [h47, h48]
        by_cases e : k = K
        · subst e
          refine Or.inr ⟨b, i2, i4, m3, ?_⟩
          obtain ⟨⟨y0, y2, y4⟩, ym, sr0, y5, y6, y7⟩ := a3
          refine ⟨⟨?_, ?_, ?_⟩, by rw [e0]; exact ym, sr, i7, i8, fun i hi => ?_⟩
          · show g2 b 0 = im2 (7533 * k + 0)
            rw [m1 0 (by decide), e0]; exact y0
          · show g2 b 2 = im2 (7533 * k + 1)
            rw [m1 1 (by decide), e2]; exact y2
          · show g2 b 4 = im2 (7533 * k + 2)
            rw [m1 2 (by decide), e4]; exact y4
          · rw [e0] at hi
            obtain ⟨sf, z1, z2, z3⟩ := y7 i hi
            obtain ⟨st, w1, w2, w3⟩ := i9 sr0 y5 i hi sf z1
            refine ⟨st, w1, w2, ?_⟩
            show g2 st 0 = im2 (7533 * k + (3 + 3 * i))
            rw [m1 (3 + 3 * i) (by omega), w3]; exact z3
        · obtain ⟨n1, n2⟩ := m2 k hk4 e
          rw [i3 k e, n2]
          rcases hk k hk4 with c | ⟨b2, k1, k2, k3, k4⟩
          · exact Or.inl c
          · refine Or.inr ⟨b2, k1, le.up k2, k3, keepj (k + 1) (fun z => e (Nat.succ.inj z)) b2 _ _ k2 k4 ?_⟩
            exact ⟨⟨n1 0 (by decide), n1 1 (by decide), n1 2 (by decide)⟩, fun i hi => n1 (3 + 3 * i) (by omega)⟩
    · exact absurd p1 p2
  · rcases hm with ⟨p2, _⟩ | ⟨_, d1, d2, d3⟩
    · exact absurd p2 p1
    · subst c2; subst c3
      exact ⟨by rw [c1, d1], h.keep hx le (by rw [h0]; exact KS.rf) (by rw [h47, d2]) (by rw [h48, d3])⟩
/-- back to an image -/
theorem LN.back (h : LN T g q x F) (hx : T x = (1, 0, 0)) (le : TLe T T2) {P : Prop} {K : Nat} {r r2 : Int32} {f2 : Nat → Int32} (hK : P → K < 4) (hc : ∀ s0 ia, q x 0 = some s0 → q x 1 = some ia → (P ∧ BKS T T2 g g2 q q2 s0 ia K r) ∨ ((P → q ia K = none) ∧ r.toInt = -1 ∧ g2 = g ∧ q2 = q)) (hm : ((P ∧ (F 48 K).toInt ≠ 0) ∧ r2 = f2 0 ∧ ∀ n : Nat, n < 7533 → f2 n = F 47 (7533 * K + n)) ∨ (¬ (P ∧ (F 48 K).toInt ≠ 0) ∧ r2.toInt = -1 ∧ f2 = F 0)) (h0 : F2 0 = f2) (h47 : F2 47 = F 47) (h48 : F2 48 = F 48) : r.toInt = r2.toInt ∧ LN T2 g2 q2 x F2 := by
  obtain ⟨s0, ia, ⟨a1, a2, a3⟩, ⟨b1, b2⟩, hk⟩ := id h
  rcases hc s0 ia a1 b1 with ⟨p1, b, i1, i2, ⟨e0, e2, e4, _, _⟩, i6, i7, i8⟩ | ⟨p1, c1, c2, c3⟩
  · rcases hk K (hK p1) with ⟨k1, _⟩ | ⟨b2, k1, k2, k3, k4⟩
    · rw [k1] at i1; cases i1
    · obtain rfl : b2 = b := Option.some.inj (k1.symm.trans i1)
      obtain ⟨⟨y0, y2, y4⟩, ym, srf, y5, y6, y7⟩ := k4
      rcases hm with ⟨_, d1, d2⟩ | ⟨p2, _⟩
      · have q0 : f2 0 = F 47 (7533 * K + 0) := d2 0 (by decide)
        refine ⟨by rw [i2, d1, e0, y0, q0], h.sky hx le i6 i7 (fun s1 z1 z2 z3 => ?_) h47 h48⟩
        obtain rfl : s1 = s0 := Option.some.inj (z1.symm.trans a1)
        rw [h0]
        obtain ⟨_, _, sr, w5, w6, _⟩ := z3
        have qs : q2 s1 = q s1 := i7 s1 (by rw [a2]; show (2 : Nat) ≠ 0; decide) (Or.inl (by rw [a2]; show (2 : Nat) ≠ 17; decide))
        refine ⟨⟨by rw [e0, y0, q0], by rw [e2, d2 1 (by decide)]; exact y2, by rw [e4, d2 2 (by decide)]; exact y4⟩, by rw [e0]; exact ym, sr, by rw [qs]; exact w5, le.up w6, fun i hi => ?_⟩
        rw [e0] at hi
        obtain ⟨sf, v1, v2, v3⟩ := y7 i hi
        obtain ⟨st, u1, u2, u3⟩ := i8 sr srf w5 y5 i hi sf v1
        refine ⟨st, u1, u2, ?_⟩
        rw [u3, d2 (3 + 3 * i) (by omega)]; exact v3
      · exact absurd ⟨p1, k3⟩ p2
  · rcases hm with ⟨⟨p2, m2⟩, _⟩ | ⟨_, d1, d2⟩
    · rcases hk K (hK p2) with ⟨_, k2⟩ | ⟨b2, k1, _⟩
      · exact absurd k2 m2
      · rw [p1 p2] at k1; cases k1
    · subst c2; subst c3
      exact ⟨by rw [c1, d1], h.keep hx le (by rw [h0, d2]; exact KS.rf) h47 h48⟩
end LNS
theorem LR0.ln {Y : Nat → ClassId} {Z : Nat → Nat} {ws : va_W} {T : RT} {g : GN} {q : GQ} {x : Nat} (hT : TW Y Z T g q ws) (h : LR0 T g q x) : LN T g q x F0M := by
  obtain ⟨s0, ia, ⟨a1, a2, a3⟩, b, c⟩ := h
  obtain ⟨sr, k1, k2⟩ := sky17 hT a2
  refine ⟨s0, ia, ⟨a1, a2, ?_⟩, b, fun k _ => Or.inl ⟨by rw [c], by show (0 : Int32).toInt = 0; decide⟩⟩
  refine ⟨by rw [a3]; exact ⟨rfl, rfl, rfl⟩, by rw [a3]; decide, sr, k1, k2, fun i hi => ?_⟩
  rw [a3] at hi
  exact absurd hi (by show ¬ (i : Int) < (0 : Int32).toInt; rw [show (0 : Int32).toInt = 0 by decide]; omega)

