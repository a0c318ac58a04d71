/-! ===== CANDIDATES (mine) ===== -/
def KD (f f2 : Nat → Int32) : Prop := f2 2 = f 2 ∧ ∀ c : Nat, c < 12 → f2 (280 + 3 * c) = f (280 + 3 * c) ∧ f2 (281 + 3 * c) = f (281 + 3 * c)
theorem KD.rf {f : Nat → Int32} : KD f f := ⟨rfl, fun _ _ => ⟨rfl, rfl⟩⟩
theorem KD_set {f g g2 : Nat → Int32} {i : Nat} {v : Int32} (h : KD f g) (e : g2 = upd g i v) (h2 : i ≠ 2) (h3 : i < 280 ∨ 315 ≤ i ∨ i % 3 = 0) : KD f g2 := by
  obtain ⟨a, b⟩ := h
  exact ⟨by rw [e, up_ne (Ne.symm h2)]; exact a, fun c hc => ⟨by rw [e, up_ne (by omega)]; exact (b c hc).1, by rw [e, up_ne (by omega)]; exact (b c hc).2⟩⟩
def KDC (K : Nat) (p2 p3 : Int32) (f f2 : Nat → Int32) : Prop := (f2 (280 + 3 * K) = p2 ∧ f2 (281 + 3 * K) = p3) ∧ (f2 2).toInt = (f 2).toInt + 1 ∧ ∀ c : Nat, c < 12 → c ≠ K → f2 (280 + 3 * c) = f (280 + 3 * c) ∧ f2 (281 + 3 * c) = f (281 + 3 * c)
theorem KDC_of {f g1 g2 g3 g4 : Nat → Int32} {K i2 i3 : Nat} {v p2 p3 : Int32} (h : KD f g1) (e2 : g2 = upd g1 i2 p2) (e3 : g3 = upd g2 i3 p3) (e4 : g4 = upd g3 2 v) (h2 : i2 = 280 + 3 * K) (h3 : i3 = 281 + 3 * K) (hv : v.toInt = (f 2).toInt + 1) : KDC K p2 p3 f g4 := by
  obtain ⟨a, b⟩ := h
  refine ⟨⟨by rw [e4, up_ne (by omega), e3, up_ne (by omega), e2, up_eq h2.symm], by rw [e4, up_ne (by omega), e3, up_eq h3.symm]⟩, by rw [e4, up_eq rfl]; exact hv, fun c hc hne => ⟨?_, ?_⟩⟩
  · rw [e4, up_ne (by omega), e3, up_ne (by omega), e2, up_ne (by omega)]; exact (b c hc).1
  · rw [e4, up_ne (by omega), e3, up_ne (by omega), e2, up_ne (by omega)]; exact (b c hc).2
theorem sky14 {Y : Nat → ClassId} {Z : Nat → Nat} {T : RT} {g : GN} {q : GQ} {ws : va_W} {x j i : Nat} (hT : TW Y Z T g q ws) (ht : T x = (2, j, i)) : ∃ na wa, (q x 5 = some na ∧ T na = (14, j, 0)) ∧ (q x 6 = some wa ∧ T wa = (14, j, 1)) := by
  obtain ⟨p0, e0, hk, x0, a1, x2, a3, x4, a5, a6, x7, a8, a9, x10, a11, x12, rfl, _, _, _, _, _, _, _, _, _, h5, h6, h7, h8, _⟩ := op2 hT ht
  exact ⟨a5, a6, ⟨h6, h5⟩, ⟨h8, h7⟩⟩
/-- rows of CANDIDATES taken over -/
def BRW (g g2 : GN) (q : GQ) (a b : Nat) : Prop := ∀ na nb, (q a 5 = some na → q b 5 = some nb → ∀ c : Nat, c < 12 → g2 na c = g nb c) ∧ (q a 6 = some na → q b 6 = some nb → ∀ c : Nat, c < 12 → g2 na c = g nb c)
theorem BRW.of {Y : Nat → ClassId} {Z : Nat → Nat} {T T2 : RT} {g gb ga gc : GN} {q : GQ} {w0 : va_W} {p0 p1 j j2 na nf wa wf : Nat} (t0 : TW Y Z T g q w0) (h1 : T p1 = (2, j2, 0)) (h0 : T p0 = (2, j, 0)) (l : TLe T T2) (hj : j2 ≠ j) (hb : GJ T j g gb) (e1 : ga = gcpy gb nf na 0 0 12) (e2 : gc = gcpy ga wf wa 0 0 12) (n1 : q p0 5 = some na) (n2 : q p1 5 = some nf) (n3 : q p0 6 = some wa) (n4 : q p1 6 = some wf) : BRW g gc q p0 p1 := by
  obtain ⟨na2, wa2, ⟨a1, a2⟩, ⟨a3, a4⟩⟩ := sky14 t0 h0
  obtain ⟨nf2, wf2, ⟨b1, b2⟩, ⟨b3, b4⟩⟩ := sky14 t0 h1
  obtain rfl : na2 = na := Option.some.inj (a1.symm.trans n1)
  obtain rfl : wa2 = wa := Option.some.inj (a3.symm.trans n3)
  obtain rfl : nf2 = nf := Option.some.inj (b1.symm.trans n2)
  obtain rfl : wf2 = wf := Option.some.inj (b3.symm.trans n4)
  have g1 : gb nf2 = g nf2 := hb nf2 (by rw [b2]; show (14 : Nat) ≠ 0; decide) (by rw [b2]; exact hj)
  have g2 : gb wf2 = g wf2 := hb wf2 (by rw [b4]; show (14 : Nat) ≠ 0; decide) (by rw [b4]; exact hj)
  intro x y
  refine ⟨fun k1 k2 c hc => ?_, fun k1 k2 c hc => ?_⟩
  · obtain rfl : na2 = x := Option.some.inj (n1.symm.trans k1)
    obtain rfl : nf2 = y := Option.some.inj (n2.symm.trans k2)
    rw [e2, gcpy_ne (rne3 a2 a4 (by decide)), e1, gcpy_eq]
    unfold va_cpy
    rw [if_pos ⟨by omega, by omega⟩, g1]; congr 1; omega
  · obtain rfl : wa2 = x := Option.some.inj (n3.symm.trans k1)
    obtain rfl : wf2 = y := Option.some.inj (n4.symm.trans k2)
    rw [e2, gcpy_eq]
    unfold va_cpy
    rw [if_pos ⟨by omega, by omega⟩, e1, gcpy_ne (rne2 b4 a2 hj), g2]; congr 1; omega
def GQE (g g2 : GN) (s k : Nat) : Prop := g2 = g ∨ ∃ v, g2 = gset g s k v
def CDE (g g2 : GN) (s0 na wa : Nat) (r p2 p3 : Int32) : Prop := (r.toInt = -1 ∧ g2 = g) ∨ (r.toInt = (g s0 4).toInt ∧ ∃ v, g2 = gset (gset (gset g na (g s0 4).toNatClampNeg p2) wa (g s0 4).toNatClampNeg p3) s0 4 v)
def IMD (g g2 : GN) (q q2 : GQ) (s0 ia K : Nat) : Prop := ∀ b nb ns, q2 ia K = some b → (q2 b 5 = some nb → q s0 5 = some ns → ∀ c : Nat, c < 12 → g2 nb c = g ns c) ∧ (q2 b 6 = some nb → q s0 6 = some ns → ∀ c : Nat, c < 12 → g2 nb c = g ns c)
theorem IMD.of {Y : Nat → ClassId} {Z : Nat → Nat} {T T1 : RT} {g g1 g2 : GN} {q q1 q2 : GQ} {w0 : va_W} {s0 ia K b : Nat} (hs : T s0 = (2, 0, 0)) (ha : T ia = (19, 0, 0)) (l1 : TLe T T1) (hb : T1 b = (2, K + 1, 0)) (eg : ∀ a, (T a).1 ≠ 0 → g1 a = g a) (eq : ∀ a, (T a).1 ≠ 0 → a ≠ ia → q1 a = q a) (ek : q1 ia K = some b) (hqj : QJ T1 (K + 1) q1 q2) (hr : BRW g1 g2 q1 b s0) (t0 : TW Y Z T g q w0) : IMD g g2 q q2 s0 ia K := by
  intro b2 nb ns k1
  have ia1 := l1.up ha
  have ei : q2 ia = q1 ia := hqj ia (by rw [ia1]; show (19 : Nat) ≠ 0; decide) (Or.inl (by rw [ia1]; show (19 : Nat) ≠ 17; decide))
  rw [ei, ek] at k1
  obtain rfl : b = b2 := Option.some.inj k1
  have hbz : q2 b = q1 b := hqj b (by rw [hb]; show (2 : Nat) ≠ 0; decide) (Or.inl (by rw [hb]; show (2 : Nat) ≠ 17; decide))
  have q1s : q1 s0 = q s0 := eq s0 (by rw [hs]; show (2 : Nat) ≠ 0; decide) (rne hs ha (by decide))
  obtain ⟨na, wa, ⟨a1, a2⟩, ⟨a3, a4⟩⟩ := sky14 t0 hs
  obtain ⟨r1, r2⟩ := hr nb ns
  refine ⟨fun k2 k3 c hc => ?_, fun k2 k3 c hc => ?_⟩
  · obtain rfl : na = ns := Option.some.inj (a1.symm.trans k3)
    rw [r1 (by rw [← hbz]; exact k2) (by rw [q1s]; exact k3) c hc, eg na (by rw [a2]; show (14 : Nat) ≠ 0; decide)]
  · obtain rfl : wa = ns := Option.some.inj (a3.symm.trans k3)
    rw [r2 (by rw [← hbz]; exact k2) (by rw [q1s]; exact k3) c hc, eg wa (by rw [a4]; show (14 : Nat) ≠ 0; decide)]
/-- class and model agree in CANDIDATES -/
def CD (T : RT) (g : GN) (q : GQ) (j b : Nat) (f : Nat → Int32) : Prop := (f 2).toInt ≤ 12 ∧ ∃ na wa, (q b 5 = some na ∧ T na = (14, j, 0)) ∧ (q b 6 = some wa ∧ T wa = (14, j, 1)) ∧ ∀ c : Nat, (c : Int) < (f 2).toInt → g na c = f (280 + 3 * c) ∧ g wa c = f (281 + 3 * c)
def LD (T : RT) (g : GN) (q : GQ) (x : Nat) (F : Nat → Nat → Int32) : Prop := ∃ s0 ia : Nat, (q x 0 = some s0 ∧ T s0 = (2, 0, 0) ∧ CD T g q 0 s0 (F 0)) ∧ (q x 1 = some ia ∧ T ia = (19, 0, 0)) ∧ ∀ k : Nat, k < 4 → q ia k = none ∨ ∃ b, q ia k = some b ∧ T b = (2, k + 1, 0) ∧ CD T g q (k + 1) b (fun n => F 47 (7533 * k + n))
def LC (T : RT) (g : GN) (q : GQ) (x : Nat) (F : Nat → Nat → Int32) : Prop := LN T g q x F ∧ LD T g q x F
section LDS
variable {T T2 : RT} {g g2 : GN} {q q2 : GQ} {x : Nat} {F F2 : Nat → Nat → Int32}
theorem CD.keep {j b : Nat} {f f2 : Nat → Int32} (h : CD T g q j b f) (le : TLe T T2) (hg : ∀ a, (T a).1 = 14 → (T a).2.1 = j → g2 a = g a) (hq : q2 b = q b) (hf : KD f f2) : CD T2 g2 q2 j b f2 := by
  obtain ⟨m, na, wa, ⟨a1, a2⟩, ⟨a3, a4⟩, a5⟩ := h
  obtain ⟨k0, k1⟩ := hf
  refine ⟨by rw [k0]; exact m, na, wa, ⟨by rw [hq]; exact a1, le.up a2⟩, ⟨by rw [hq]; exact a3, le.up a4⟩, fun c hc => ?_⟩
  rw [k0] at hc
  obtain ⟨b1, b2⟩ := a5 c hc
  obtain ⟨c1, c2⟩ := k1 c (by omega)
  exact ⟨by rw [hg na (by rw [a2]) (by rw [a2]), c1]; exact b1, by rw [hg wa (by rw [a4]) (by rw [a4]), c2]; exact b2⟩
theorem LD.sky (h : LD T g q x F) (hx : T x = (1, 0, 0)) (le : TLe T T2) (hgj : GJ T 0 g g2) (hqj : QJ T 0 q q2) (h0 : ∀ s0, q x 0 = some s0 → T s0 = (2, 0, 0) → CD T g q 0 s0 (F 0) → CD T2 g2 q2 0 s0 (F2 0)) (h47 : F2 47 = F 47) : LD T2 g2 q2 x F2 := by
  obtain ⟨s0, ia, ⟨a1, a2, a3⟩, ⟨b1, b2⟩, hk⟩ := h
  have ex : q2 x = q x := hqj x (by rw [hx]; show (1 : Nat) ≠ 0; decide) (Or.inl (by rw [hx]; show (1 : Nat) ≠ 17; decide))
  have ei : q2 ia = q ia := hqj ia (by rw [b2]; show (19 : Nat) ≠ 0; decide) (Or.inl (by rw [b2]; show (19 : Nat) ≠ 17; decide))
  refine ⟨s0, ia, ⟨by rw [ex]; exact a1, le.up a2, h0 s0 a1 a2 a3⟩, ⟨by rw [ex]; exact b1, le.up b2⟩, fun k hk4 => ?_⟩
  rw [ei, h47]
  rcases hk k hk4 with c | ⟨b, c1, c2, c3⟩
  · exact Or.inl c
  · refine Or.inr ⟨b, c1, le.up c2, c3.keep le (fun a k1 k2 => hgj a (by rw [k1]; decide) (by rw [k2]; exact Nat.succ_ne_zero k)) ?_ KD.rf⟩
    exact hqj b (by rw [c2]; show (2 : Nat) ≠ 0; decide) (Or.inl (by rw [c2]; show (2 : Nat) ≠ 17; decide))
theorem LD.keep (h : LD T g q x F) (hx : T x = (1, 0, 0)) (le : TLe T T2) (hf : KD (F 0) (F2 0)) (h47 : F2 47 = F 47) : LD T2 g q x F2 :=
  h.sky hx le GJ.rf QJ.rf (fun _ _ _ k3 => k3.keep le (fun _ _ _ => rfl) rfl hf) h47
theorem LD.ge (h : LD T g q x F) (hx : T x = (1, 0, 0)) (hge : GE T g g2) (hgj : GJ T 0 g g2) (hf : KD (F 0) (F2 0)) (h47 : F2 47 = F 47) : LD T g2 q x F2 :=
  h.sky hx TLe.rf hgj QJ.rf (fun _ _ _ k3 => k3.keep TLe.rf (fun a k1 _ => hge a (by rw [k1]; decide) (by rw [k1]; decide)) rfl hf) h47
theorem LD.eq1 (h : LD T g q x F) (hx : T x = (1, 0, 0)) (le : TLe T T2) (n : Nat) (hgj : GJ T 0 g g2) (hc : ∀ s0, q x 0 = some s0 → GQE g g2 s0 n) (hf : KD (F 0) (F2 0)) (h47 : F2 47 = F 47) : LD T2 g2 q x F2 := by
  refine h.sky hx le hgj QJ.rf (fun s0 k1 k2 k3 => k3.keep le (fun a z1 z2 => ?_) rfl hf) h47
  rcases hc s0 k1 with e | ⟨v, e⟩
  · rw [e]
  · rw [e]; exact gset_ne (fun z => by rw [z, k2] at z1; exact absurd z1 (show (2 : Nat) ≠ 14 by decide))
theorem LD.star (h : LD T g q x F) (hn : LN T g q x F) (hx : T x = (1, 0, 0)) (le : TLe T T2) (hgj : GJ T 0 g g2) (hqj : QJ T 0 q q2) {P : Prop} {p r : Int32} (hc : ∀ s0 sr, q x 0 = some s0 → q s0 1 = some sr → (P ∧ ((r.toInt = -1 ∧ 12 ≤ (g s0 0).toInt ∧ g2 = g ∧ q2 = q) ∨ ((g s0 0).toInt < 12 ∧ r.toInt = (g s0 0).toInt ∧ ADS T T2 g g2 q q2 0 s0 sr (g s0 0).toNatClampNeg p))) ∨ (¬ P ∧ r.toInt = -1 ∧ g2 = g ∧ q2 = q)) (hf : KD (F 0) (F2 0)) (h47 : F2 47 = F 47) : LD T2 g2 q2 x F2 := by
  refine h.sky hx le hgj hqj (fun s0 k1 k2 k3 => k3.keep le (fun a z1 z2 => ?_) ?_ hf) h47
  · obtain ⟨s1, ia, ⟨a1, a2, a3⟩, _⟩ := hn
    obtain rfl : s1 = s0 := Option.some.inj (a1.symm.trans k1)
    obtain ⟨_, _, sr, b1, b2, _⟩ := a3
    rcases hc s1 sr k1 b1 with ⟨_, ⟨_, _, d3, _⟩ | ⟨_, _, v, st, _, _, ⟨_, d7, _⟩, _, _, d11⟩⟩ | ⟨_, _, d3, _⟩
    · rw [d3]
    · refine d11 a (by rw [z1]; decide) (fun z => by rw [z, k2] at z1; exact absurd z1 (show (2 : Nat) ≠ 14 by decide)) (fun z => ?_)
      have e := le a (by rw [z1]; decide)
      rw [z, d7] at e
      rw [z, ← e] at z1
      exact absurd z1 (show (3 : Nat) ≠ 14 by decide)
    · rw [d3]
  · exact hqj s0 (by rw [k2]; show (2 : Nat) ≠ 0; decide) (Or.inl (by rw [k2]; show (2 : Nat) ≠ 17; decide))
theorem LD.cand (h : LD T g q x F) (hn : LN T g q x F) (hx : T x = (1, 0, 0)) (hgj : GJ T 0 g g2) {p2 p3 r r2 : Int32} {f2 : Nat → Int32} (hE : r.toInt = r2.toInt) (hc : ∀ s0 na wa, q x 0 = some s0 → q s0 5 = some na → q s0 6 = some wa → CDE g g2 s0 na wa r p2 p3) (hm : (r2.toInt = -1 ∧ KD (F 0) f2) ∨ ((F 0 2).toInt < 12 ∧ r2.toInt = (F 0 2).toInt ∧ KDC (F 0 2).toNatClampNeg p2 p3 (F 0) f2)) (hpos : 0 ≤ (F 0 2).toInt) (h0 : F2 0 = f2) (h47 : F2 47 = F 47) : LD T g2 q x F2 := by
  refine h.sky hx TLe.rf hgj QJ.rf (fun s0 k1 k2 k3 => ?_) h47
  rw [h0]
  obtain ⟨s1, ia, ⟨a1, a2, a3⟩, _⟩ := hn
  obtain rfl : s1 = s0 := Option.some.inj (a1.symm.trans k1)
  have e4 : g s1 4 = F 0 2 := a3.1.2.2
  obtain ⟨m, na, wa, ⟨n1, n2⟩, ⟨n3, n4⟩, n5⟩ := id k3
  rcases hc s1 na wa k1 n1 n3 with ⟨c1, c2⟩ | ⟨c1, v, c2⟩
  · rcases hm with ⟨m1, m2⟩ | ⟨_, m1, _⟩
    · subst c2; exact k3.keep TLe.rf (fun _ _ _ => rfl) rfl m2
    · omega
  · rw [e4] at c1 c2
    rcases hm with ⟨m1, _⟩ | ⟨m0, m1, ⟨u1, u2⟩, u3, u4⟩
    · omega
    · have cl := clampI hpos
      have gn : g2 na = upd (g na) (F 0 2).toNatClampNeg p2 := by rw [c2, gset_ne (rne n2 k2 (by decide)), gset_ne (rne3 n2 n4 (by decide)), gset_eq]
      have gw : g2 wa = upd (g wa) (F 0 2).toNatClampNeg p3 := by rw [c2, gset_ne (rne n4 k2 (by decide)), gset_eq, gset_ne (rne3 n4 n2 (by decide))]
      refine ⟨by rw [u3]; omega, na, wa, ⟨n1, n2⟩, ⟨n3, n4⟩, fun c hc => ?_⟩
      rw [u3] at hc
      by_cases e : c = (F 0 2).toNatClampNeg
      · rw [e]; exact ⟨by rw [gn, up_eq rfl, u1], by rw [gw, up_eq rfl, u2]⟩
      · obtain ⟨b1, b2⟩ := n5 c (by omega)
        obtain ⟨w1, w2⟩ := u4 c (by omega) e
        exact ⟨by rw [gn, up_ne e, w1]; exact b1, by rw [gw, up_ne e, w2]; exact b2⟩
theorem LD.image {Y : Nat → ClassId} {Z : Nat → Nat} {w2 : va_W} (h : LD T g q x F) (hx : T x = (1, 0, 0)) (le : TLe T T2) (t2 : TW Y Z T2 g2 q2 w2) {P : Prop} {K : Nat} {r r2 : Int32} {im2 mk2 : Nat → Int32} (hK : P → K < 4) (hc : ∀ s0 ia, q x 0 = some s0 → q x 1 = some ia → (P ∧ r = g s0 0 ∧ IMS T T2 g g2 q q2 x s0 ia K) ∨ (¬ P ∧ r.toInt = -1 ∧ g2 = g ∧ q2 = q)) (hd : ∀ s0 ia, q x 0 = some s0 → q x 1 = some ia → P → IMD g g2 q q2 s0 ia K) (hm : (P ∧ r2 = F 0 0 ∧ IMP K (F 0) (F 47) (F 48) im2 mk2) ∨ (¬ P ∧ r2.toInt = -1 ∧ im2 = F 47 ∧ mk2 = F 48)) (h0 : F2 0 = F 0) (h47 : F2 47 = im2) : LD T2 g2 q2 x F2 := by
  obtain ⟨s0, ia, ⟨a1, a2, a3⟩, ⟨b1, b2⟩, hk⟩ := id h
  rcases hc s0 ia a1 b1 with ⟨p1, c1, b, i1, ⟨i2, i3⟩, i4, _, i5, i6, _⟩ | ⟨p1, c1, c2, c3⟩
  · rcases hm with ⟨_, d1, m1, m2, m3⟩ | ⟨p2, _⟩
    · have keepj : ∀ (j : Nat), j ≠ K + 1 → ∀ (c : Nat) (f f2 : Nat → Int32), T c = (2, j, 0) → CD T g q j c f → KD f f2 → CD T2 g2 q2 j c f2 := fun j hj c f f2 hcT hsk hks =>
        hsk.keep le (fun a z1 z2 => i5 a (by rw [z1]; decide) (by rw [z2]; exact hj)) (i6 c (by rw [hcT]; show (2 : Nat) ≠ 0; decide) (rne hcT b2 (by decide)) (by rw [hcT]; exact hj)) hks
      refine ⟨s0, ia, ⟨by rw [i1]; exact a1, le.up a2, ?_⟩, ⟨by rw [i1]; exact b1, le.up b2⟩, fun k hk4 => ?_⟩
      · exact keepj 0 (Ne.symm (Nat.succ_ne_zero K)) s0 (F 0) (F2 0) a2 a3 (by rw [h0]; exact KD.rf)
      · rw [h47]
        by_cases e : k = K
        · subst e
          refine Or.inr ⟨b, i2, i4, ?_⟩
          obtain ⟨mm, na, wa, ⟨n1, n2⟩, ⟨n3, n4⟩, n5⟩ := a3
          obtain ⟨nb, wb, ⟨y1, y2⟩, ⟨y3, y4⟩⟩ := sky14 t2 i4
          have e2 : im2 (7533 * k + 2) = F 0 2 := m1 2 (by decide)
          refine ⟨by show (im2 (7533 * k + 2)).toInt ≤ 12; rw [e2]; exact mm, nb, wb, ⟨y1, y2⟩, ⟨y3, y4⟩, fun c hc => ?_⟩
          have hc2 : (c : Int) < (F 0 2).toInt := by rw [← e2]; exact hc
          obtain ⟨v1, v2⟩ := n5 c hc2
          refine ⟨?_, ?_⟩
          · show g2 nb c = im2 (7533 * k + (280 + 3 * c))
            rw [m1 (280 + 3 * c) (by omega), (hd s0 ia a1 b1 p1 b nb na i2).1 y1 n1 c (by omega)]; exact v1
          · show g2 wb c = im2 (7533 * k + (281 + 3 * c))
            rw [m1 (281 + 3 * c) (by omega), (hd s0 ia a1 b1 p1 b wb wa i2).2 y3 n3 c (by omega)]; exact v2
        · obtain ⟨n1, n2⟩ := m2 k hk4 e
          rw [i3 k e]
          rcases hk k hk4 with c | ⟨b2, k1, k2, k4⟩
          · exact Or.inl c
          · refine Or.inr ⟨b2, k1, le.up k2, keepj (k + 1) (fun z => e (Nat.succ.inj z)) b2 _ _ k2 k4 ?_⟩
            exact ⟨n1 2 (by decide), fun c hc => ⟨n1 (280 + 3 * c) (by omega), n1 (281 + 3 * c) (by omega)⟩⟩
    · exact absurd p1 p2
  · rcases hm with ⟨p2, _⟩ | ⟨_, d1, d2, d3⟩
    · exact absurd p2 p1
    · subst c2; subst c3
      exact h.keep hx le (by rw [h0]; exact KD.rf) (by rw [h47, d2])
theorem LD.back (h : LD T g q x F) (hn : LN T g q x F) (hx : T x = (1, 0, 0)) (le : TLe T T2) {P : Prop} {K : Nat} {r r2 : Int32} {f2 : Nat → Int32} (hK : P → K < 4) (hc : ∀ s0 ia, q x 0 = some s0 → q x 1 = some ia → (P ∧ BKS T T2 g g2 q q2 s0 ia K r) ∨ ((P → q ia K = none) ∧ r.toInt = -1 ∧ g2 = g ∧ q2 = q)) (hd : ∀ s0 ia, q x 0 = some s0 → q x 1 = some ia → ∀ b, P → q ia K = some b → BRW g g2 q s0 b) (hm : ((P ∧ (F 48 K).toInt ≠ 0) ∧ r2 = f2 0 ∧ ∀ n : Nat, n < 7533 → f2 n = F 47 (7533 * K + n)) ∨ (¬ (P ∧ (F 48 K).toInt ≠ 0) ∧ r2.toInt = -1 ∧ f2 = F 0)) (h0 : F2 0 = f2) (h47 : F2 47 = F 47) : LD T2 g2 q2 x F2 := by
  obtain ⟨s0, ia, ⟨a1, a2, a3⟩, ⟨b1, b2⟩, hk⟩ := id h
  obtain ⟨s9, ia9, ⟨z1, z2, z3⟩, ⟨z4, z5⟩, hk9⟩ := hn
  obtain rfl : s9 = s0 := Option.some.inj (z1.symm.trans a1)
  obtain rfl : ia9 = ia := Option.some.inj (z4.symm.trans b1)
  rcases hc s9 ia9 a1 b1 with ⟨p1, b, i1, i2, _, i6, i7, _⟩ | ⟨p1, c1, c2, c3⟩
  · rcases hk K (hK p1) with k1 | ⟨b2, k1, k2, k4⟩
    · rw [k1] at i1; cases i1
    · obtain rfl : b2 = b := Option.some.inj (k1.symm.trans i1)
      have made : (F 48 K).toInt ≠ 0 := by
        rcases hk9 K (hK p1) with ⟨y1, _⟩ | ⟨_, _, _, y3, _⟩
        · rw [y1] at i1; cases i1
        · exact y3
      obtain ⟨mm, nf, wf, ⟨n1, n2⟩, ⟨n3, n4⟩, n5⟩ := k4
      rcases hm with ⟨_, d1, d2⟩ | ⟨p2, _⟩
      · refine h.sky hx le i6 i7 (fun s1 w1 w2 w3 => ?_) h47
        obtain rfl : s1 = s9 := Option.some.inj (w1.symm.trans a1)
        rw [h0]
        obtain ⟨_, na, wa, ⟨v1, v2⟩, ⟨v3, v4⟩, _⟩ := w3
        have qs : q2 s1 = q s1 := i7 s1 (by rw [a2]; show (2 : Nat) ≠ 0; decide) (Or.inl (by rw [a2]; show (2 : Nat) ≠ 17; decide))
        have e2 : f2 2 = F 47 (7533 * K + 2) := d2 2 (by decide)
        refine ⟨by rw [e2]; exact mm, na, wa, ⟨by rw [qs]; exact v1, le.up v2⟩, ⟨by rw [qs]; exact v3, le.up v4⟩, fun c hc => ?_⟩
        rw [e2] at hc
        have mm2 : (F 47 (7533 * K + 2)).toInt ≤ 12 := mm
        obtain ⟨y1, y2⟩ := n5 c hc
        have hb := hd s1 ia9 a1 b1 b2 p1 k1
        refine ⟨?_, ?_⟩
        · rw [(hb na nf).1 v1 n1 c (by omega), d2 (280 + 3 * c) (by omega)]; exact y1
        · rw [(hb wa wf).2 v3 n3 c (by omega), d2 (281 + 3 * c) (by omega)]; exact y2
      · exact absurd ⟨p1, made⟩ p2
  · rcases hm with ⟨⟨p2, m2⟩, _⟩ | ⟨_, d1, d2⟩
    · rcases hk9 K (hK p2) with ⟨_, k2⟩ | ⟨b2, k1, _⟩
      · exact absurd k2 m2
      · rw [p1 p2] at k1; cases k1
    · subst c2; subst c3
      exact h.keep hx le (by rw [h0, d2]; exact KD.rf) h47
/-- the best set is one and the same -/
theorem LC.nights (h : LC T g q x F) {P : Prop} {p1 p2 r r2 : Int32} (hc : ∀ s0 na wa, q x 0 = some s0 → q s0 5 = some na → q s0 6 = some wa → (P ∧ r = pickN p1 p2 (g na) (g wa) (g s0 4).toInt.toNat) ∨ (¬ P ∧ r.toInt = -1)) (hm : (P ∧ r2 = pickN p1 p2 (fun c => F 0 (280 + 3 * c)) (fun c => F 0 (281 + 3 * c)) (F 0 2).toInt.toNat) ∨ (¬ P ∧ r2.toInt = -1)) : r.toInt = r2.toInt := by
  obtain ⟨⟨s0, ia, ⟨a1, a2, a3⟩, _⟩, ⟨s1, _, ⟨b1, b2, b3⟩, _⟩⟩ := h
  obtain rfl : s1 = s0 := Option.some.inj (b1.symm.trans a1)
  have e4 : g s1 4 = F 0 2 := a3.1.2.2
  obtain ⟨m, na, wa, ⟨n1, n2⟩, ⟨n3, n4⟩, n5⟩ := b3
  rcases hc s1 na wa b1 n1 n3 with ⟨c1, c2⟩ | ⟨c1, c2⟩
  · rcases hm with ⟨_, m1⟩ | ⟨z, _⟩
    · rw [c2, m1, e4]
      unfold pickN
      rw [bst_cong (fun c hc => (n5 c (by omega)).1) (fun c hc => (n5 c (by omega)).2)]
    · exact absurd c1 z
  · rcases hm with ⟨z, _⟩ | ⟨_, m1⟩
    · exact absurd z c1
    · rw [c2, m1]
end LDS
theorem LR0.lc {Y : Nat → ClassId} {Z : Nat → Nat} {ws : va_W} {T : RT} {g : GN} {q : GQ} {x : Nat} (hT : TW Y Z T g q ws) (h : LR0 T g q x) : LC T g q x F0M := by
  refine ⟨LR0.ln hT h, ?_⟩
  obtain ⟨s0, ia, ⟨a1, a2, a3⟩, b, c⟩ := h
  obtain ⟨na, wa, k1, k2⟩ := sky14 hT a2
  refine ⟨s0, ia, ⟨a1, a2, ?_⟩, b, fun k _ => Or.inl (by rw [c])⟩
  refine ⟨by decide, na, wa, k1, k2, fun i hi => ?_⟩
  exact absurd hi (by show ¬ (i : Int) < (0 : Int32).toInt; rw [show (0 : Int32).toInt = 0 by decide]; omega)

