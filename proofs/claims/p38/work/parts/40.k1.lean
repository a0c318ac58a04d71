/-! ===== STARS, their sizes, and the counts (mine) ===== -/
/-- numbers of all cells that are not of Sky j stay -/
def GJ (T : RT) (j : Nat) (g g2 : GN) : Prop := ∀ a, (T a).1 ≠ 0 → (T a).2.1 ≠ j → g2 a = g a
theorem GJ.rf {T : RT} {j : Nat} {g : GN} : GJ T j g g := fun _ _ _ => rfl
theorem GJ.tr {T : RT} {j : Nat} {g g2 g3 : GN} (h : GJ T j g g2) (h2 : GJ T j g2 g3) : GJ T j g g3 := fun a h0 h1 => (h2 a h0 h1).trans (h a h0 h1)
theorem GJ.le {T T2 : RT} {j : Nat} {g g2 : GN} (le : TLe T T2) (h : GJ T2 j g g2) : GJ T j g g2 := fun a h0 h1 => h a (by rw [le a h0]; exact h0) (by rw [le a h0]; exact h1)
theorem GJ.st {T : RT} {j x n k i : Nat} {v : Int32} {g g2 : GN} (e : g2 = gset g x n v) (ht : T x = (k, j, i)) : GJ T j g g2 := fun a _ h1 => by
  rw [e]; exact gset_ne (fun z => h1 (by rw [z, ht]))
theorem GJ.cp {T : RT} {j x y k i sp dp n : Nat} {g g2 : GN} (e : g2 = gcpy g y x sp dp n) (ht : T x = (k, j, i)) : GJ T j g g2 := fun a _ h1 => by
  rw [e]; exact gcpy_ne (fun z => h1 (by rw [z, ht]))
theorem GJ.ex {T : RT} {j : Nat} {g g2 : GN} (h : ∀ a, (T a).1 ≠ 0 → g2 a = g a) : GJ T j g g2 := fun a h0 _ => h a h0
/-- references that are tracked, of all but the row of STARS of Sky j, stay -/
def QJ (T : RT) (j : Nat) (q q2 : GQ) : Prop := ∀ a, (T a).1 ≠ 0 → ((T a).1 ≠ 17 ∨ (T a).2.1 ≠ j) → q2 a = q a
theorem QJ.rf {T : RT} {j : Nat} {q : GQ} : QJ T j q q := fun _ _ _ => rfl
theorem QJ.tr {T : RT} {j : Nat} {q q2 q3 : GQ} (h : QJ T j q q2) (h2 : QJ T j q2 q3) : QJ T j q q3 := fun a h0 h1 => (h2 a h0 h1).trans (h a h0 h1)
theorem QJ.le {T T2 : RT} {j : Nat} {q q2 : GQ} (le : TLe T T2) (h : QJ T2 j q q2) : QJ T j q q2 := fun a h0 h1 => h a (by rw [le a h0]; exact h0) (by rw [le a h0]; exact h1)
theorem QJ.st {T : RT} {j x n i : Nat} {v : Option Nat} {q q2 : GQ} (e : q2 = qset q x n v) (ht : T x = (17, j, i)) : QJ T j q q2 := fun a _ h1 => by
  rw [e]; exact qset_ne (fun z => by rw [z, ht] at h1; rcases h1 with h | h <;> exact h rfl)
theorem QJ.ex {T : RT} {j : Nat} {q q2 : GQ} (h : ∀ a, (T a).1 ≠ 0 → q2 a = q a) : QJ T j q q2 := fun a h0 _ => h a h0
/-- numbers of STARS stay -/
def G3 (T : RT) (g g2 : GN) : Prop := ∀ a, (T a).1 = 3 → g2 a = g a
theorem G3.rf {T : RT} {g : GN} : G3 T g g := fun _ _ => rfl
theorem G3.tr {T : RT} {g g2 g3 : GN} (h : G3 T g g2) (h2 : G3 T g2 g3) : G3 T g g3 := fun a h0 => (h2 a h0).trans (h a h0)
theorem G3.st {T : RT} {x n k j i : Nat} {v : Int32} {g g2 : GN} (e : g2 = gset g x n v) (ht : T x = (k, j, i)) (hk : k ≠ 3) : G3 T g g2 := fun a h => by
  rw [e]; exact gset_ne (fun z => hk (by rw [z, ht] at h; exact h))
theorem G3.cp {T : RT} {x y k j i sp dp n : Nat} {g g2 : GN} (e : g2 = gcpy g y x sp dp n) (ht : T x = (k, j, i)) (hk : k ≠ 3) : G3 T g g2 := fun a h => by
  rw [e]; exact gcpy_ne (fun z => hk (by rw [z, ht] at h; exact h))
theorem rne3 {T : RT} {a b k1 j1 i1 k2 j2 i2 : Nat} (h1 : T a = (k1, j1, i1)) (h2 : T b = (k2, j2, i2)) (h : i1 ≠ i2) : a ≠ b := fun e => by rw [e, h2] at h1; exact h (congrArg (fun z => z.2.2) h1).symm
/-- a place for a STAR -/
def PLF (T : RT) (g g2 : GN) (q q2 : GQ) (sr K r : Nat) : Prop := q2 sr K = some r ∧ (∀ n, n ≠ K → q2 sr n = q sr n) ∧ (∀ a, (T a).1 ≠ 0 → a ≠ sr → q2 a = q a) ∧ ∀ a, (T a).1 ≠ 0 → g2 a = g a
/-- a new STAR -/
def ADS (T T2 : RT) (g g2 : GN) (q q2 : GQ) (j b sr K : Nat) (p : Int32) : Prop := ∃ (v : Int32) (st : Nat), v.toInt = (g b 0).toInt + 1 ∧ (g2 b 0 = v ∧ ∀ n, n ≠ 0 → g2 b n = g b n) ∧ (q2 sr K = some st ∧ T2 st = (3, j, K) ∧ g2 st 0 = p) ∧ (∀ n, n ≠ K → q2 sr n = q sr n) ∧ (∀ a, (T a).1 ≠ 0 → a ≠ sr → q2 a = q a) ∧ ∀ a, (T a).1 ≠ 0 → a ≠ b → a ≠ st → g2 a = g a
theorem ADS.of {T T2 : RT} {g g1 g2 g3 : GN} {q q2 : GQ} {j b sr K r : Nat} {p v : Int32} (hb : T b = (2, j, 0)) (l : TLe T T2) (h : PLF T g g1 q q2 sr K r) (hr : T2 r = (3, j, K)) (e1 : g2 = gset g1 r 0 p) (e2 : g3 = gset g2 b 0 v) (hv : v.toInt = (g b 0).toInt + 1) : ADS T T2 g g3 q q2 j b sr K p := by
  have hb2 := l.up hb
  have hbr : b ≠ r := rne hb2 hr (by decide)
  have hb0 : (T b).1 ≠ 0 := by rw [hb]; show (2 : Nat) ≠ 0; decide
  refine ⟨v, r, hv, ⟨by rw [e2]; exact gs_eq, fun n hn => by rw [e2, gs_ne hn, e1, gset_ne hbr, h.2.2.2 b hb0]⟩, ⟨h.1, hr, by rw [e2, gset_ne (Ne.symm hbr), e1]; exact gs_eq⟩, h.2.1, h.2.2.1, fun a h0 h1 h2 => ?_⟩
  rw [e2, gset_ne h1, e1, gset_ne h2]; exact h.2.2.2 a h0
/-- STARS taken over, up to the n-th -/
def SBE (T2 : RT) (g g2 : GN) (q q2 : GQ) (j sr srf : Nat) (L : Int) : Prop := ∀ n : Nat, (n : Int) < L → ∀ sf, q srf n = some sf → ∃ st, q2 sr n = some st ∧ T2 st = (3, j, n) ∧ g2 st 0 = g sf 0
theorem SBE.zero {T2 : RT} {g g2 : GN} {q q2 : GQ} {j sr srf : Nat} {L : Int} (h : L ≤ 0) : SBE T2 g g2 q q2 j sr srf L := fun n hn => by omega
theorem SBE.mono {T2 : RT} {g g2 : GN} {q q2 : GQ} {j sr srf : Nat} {L M : Int} (h : SBE T2 g g2 q q2 j sr srf L) (hm : M ≤ L) : SBE T2 g g2 q q2 j sr srf M := fun n hn => h n (by omega)
theorem SBE.skip {T2 : RT} {g g2 : GN} {q q2 : GQ} {j sr srf : Nat} {L : Int32} {M : Int} (h : SBE T2 g g2 q q2 j sr srf L.toInt) (h0 : 0 ≤ L.toInt) (hn : q srf L.toNatClampNeg = none) (hm : M = L.toInt + 1) : SBE T2 g g2 q q2 j sr srf M := fun n hn2 sf hs => by
  have c := clampI h0
  by_cases e : n = L.toNatClampNeg
  · rw [e, hn] at hs; cases hs
  · exact h n (by omega) sf hs
theorem SBE.step {T1 T2 : RT} {g g1 g2 g3 : GN} {q q1 q2 : GQ} {j sr srf sf r : Nat} {L : Int32} {M : Int} (h : SBE T1 g g1 q q1 j sr srf L.toInt) (h0 : 0 ≤ L.toInt) (l : TLe T1 T2) (p : PLF T1 g1 g2 q1 q2 sr L.toNatClampNeg r) (hr : T2 r = (3, j, L.toNatClampNeg)) (e3 : g3 = gset g2 r 0 (g2 sf 0)) (hsf : q srf L.toNatClampNeg = some sf) (hs1 : (T1 sf).1 ≠ 0) (hg : g1 sf = g sf) (hm : M = L.toInt + 1) : SBE T2 g g3 q q2 j sr srf M := fun n hn2 s hs => by
  have c := clampI h0
  by_cases e : n = L.toNatClampNeg
  · rw [e] at hs ⊢
    obtain rfl : s = sf := Option.some.inj (hs.symm.trans hsf)
    exact ⟨r, p.1, hr, by rw [e3, gs_eq, p.2.2.2 s hs1, hg]⟩
  · obtain ⟨st, a1, a2, a3⟩ := h n (by omega) s hs
    have a4 := l.up a2
    refine ⟨st, by rw [p.2.1 n e]; exact a1, a4, ?_⟩
    rw [e3, gset_ne (rne3 a4 hr e), p.2.2.2 st (by rw [a2]; show (3 : Nat) ≠ 0; decide)]; exact a3
theorem SBE.g3 {T2 : RT} {g g2 g3 : GN} {q q2 : GQ} {j sr srf : Nat} {L : Int} (h : SBE T2 g g2 q q2 j sr srf L) (k : G3 T2 g2 g3) : SBE T2 g g3 q q2 j sr srf L := fun n hn sf hs => by
  obtain ⟨st, a1, a2, a3⟩ := h n hn sf hs
  exact ⟨st, a1, a2, by rw [k st (by rw [a2])]; exact a3⟩
/-- what starAt gives -/
def SAT (g : GN) (q : GQ) (b sr : Nat) (p : Int32) (r : Option Nat) : Prop := (0 ≤ p.toInt ∧ p.toInt < (g b 0).toInt → r = q sr p.toNatClampNeg) ∧ (¬ (0 ≤ p.toInt ∧ p.toInt < (g b 0).toInt) → r = none)
/-- a row of STARS and what lies in it have their roles -/
theorem row17 {Y : Nat → ClassId} {Z : Nat → Nat} {T : RT} {g : GN} {q : GQ} {ws : va_W} {x j u n b : Nat} (hT : TW Y Z T g q ws) (ht : T x = (17, j, u)) (h : q x n = some b) : T b = (3, j, n) := by
  obtain ⟨p0, e0, hk, f, rfl, h0, hf⟩ := op17 hT ht
  exact hf n b (by rw [← h0 n]; exact h)
theorem sky17 {Y : Nat → ClassId} {Z : Nat → Nat} {T : RT} {g : GN} {q : GQ} {ws : va_W} {x j i : Nat} (hT : TW Y Z T g q ws) (ht : T x = (2, j, i)) : ∃ sr, q x 1 = some sr ∧ T sr = (17, j, 0) := by
  obtain ⟨p0, e0, hk, x0, a1, x2, a3, x4, a5, a6, x7, a8, a9, x10, a11, x12, rfl, h⟩ := op2 hT ht
  exact ⟨a1, h.2.2.2.1, h.2.2.1⟩
/-- an image is taken -/
def IMS (T T2 : RT) (g g2 : GN) (q q2 : GQ) (x s0 ia K : Nat) : Prop := ∃ b : Nat, q2 x = q x ∧ (q2 ia K = some b ∧ ∀ j, j ≠ K → q2 ia j = q ia j) ∧ T2 b = (2, K + 1, 0) ∧ BE5 g g2 b s0 ∧ (∀ a, (T a).1 ≠ 0 → (T a).2.1 ≠ K + 1 → g2 a = g a) ∧ (∀ a, (T a).1 ≠ 0 → a ≠ ia → (T a).2.1 ≠ K + 1 → q2 a = q a) ∧ ∃ sr, q2 b 1 = some sr ∧ T2 sr = (17, K + 1, 0) ∧ ∀ sr0, q s0 1 = some sr0 → SBE T2 g g2 q q2 (K + 1) sr sr0 (g s0 0).toInt
theorem IMS.of {Y : Nat → ClassId} {Z : Nat → Nat} {T T1 T2 : RT} {g g1 g2 : GN} {q q1 q2 : GQ} {w0 w2 : va_W} {x s0 s1 ia K b : Nat} {r : Int32} (hx : T x = (1, 0, 0)) (hs : T s0 = (2, 0, 0)) (ha : T ia = (19, 0, 0)) (l1 : TLe T T1) (l2 : TLe T1 T2) (hb : T1 b = (2, K + 1, 0)) (eg : ∀ a, (T a).1 ≠ 0 → g1 a = g a) (eq : ∀ a, (T a).1 ≠ 0 → a ≠ ia → q1 a = q a) (ek : q1 ia K = some b) (ej : ∀ j, j ≠ K → q1 ia j = q ia j) (he : BE5 g1 g2 b s0) (hsb : ∀ sr srf, q1 b 1 = some sr → q1 s0 1 = some srf → SBE T2 g1 g2 q1 q2 (K + 1) sr srf (g1 s0 0).toInt) (hgj : GJ T1 (K + 1) g1 g2) (hqj : QJ T1 (K + 1) q1 q2) (t0 : TW Y Z T g q w0) (t2 : TW Y Z T2 g2 q2 w2) (hs0 : q x 0 = some s0) (hs1 : q2 x 0 = some s1) (hr : g2 s1 0 = r) : r = g s0 0 ∧ IMS T T2 g g2 q q2 x s0 ia K := by
  have es : g1 s0 = g s0 := eg s0 (by rw [hs]; show (2 : Nat) ≠ 0; decide)
  have ia1 := l1.up ha
  have ei : q2 ia = q1 ia := hqj ia (by rw [ia1]; show (19 : Nat) ≠ 0; decide) (Or.inl (by rw [ia1]; show (19 : Nat) ≠ 17; decide))
  have x1 := l1.up hx
  have ex : q2 x = q x := by
    rw [hqj x (by rw [x1]; show (1 : Nat) ≠ 0; decide) (Or.inl (by rw [x1]; show (1 : Nat) ≠ 17; decide))]
    exact eq x (by rw [hx]; show (1 : Nat) ≠ 0; decide) (rne hx ha (by decide))
  have hg2 : ∀ a, (T a).1 ≠ 0 → (T a).2.1 ≠ K + 1 → g2 a = g a := fun a h0 hne => by
    rw [hgj a (by rw [l1 a h0]; exact h0) (by rw [l1 a h0]; exact hne)]; exact eg a h0
  have hq2 : ∀ a, (T a).1 ≠ 0 → a ≠ ia → (T a).2.1 ≠ K + 1 → q2 a = q a := fun a h0 hi hne => by
    rw [hqj a (by rw [l1 a h0]; exact h0) (Or.inr (by rw [l1 a h0]; exact hne))]; exact eq a h0 hi
  have h01 : s1 = s0 := Option.some.inj (hs1.symm.trans (by rw [ex]; exact hs0))
  have hbz : q2 b = q1 b := hqj b (by rw [hb]; show (2 : Nat) ≠ 0; decide) (Or.inl (by rw [hb]; show (2 : Nat) ≠ 17; decide))
  obtain ⟨sr, k1, k2⟩ := sky17 t2 (l2.up hb)
  obtain ⟨e0, e2, e4, e7, e10⟩ := he
  refine ⟨?_, b, ex, ⟨by rw [ei]; exact ek, fun j hj => by rw [ei]; exact ej j hj⟩, l2.up hb, ⟨by rw [e0, es], by rw [e2, es], by rw [e4, es], by rw [e7, es], by rw [e10, es]⟩, hg2, hq2, sr, k1, k2, fun sr0 k3 n hn sf k4 => ?_⟩
  · rw [← hr, h01, hg2 s0 (by rw [hs]; show (2 : Nat) ≠ 0; decide) (by rw [hs]; exact Ne.symm (Nat.succ_ne_zero K))]
  · obtain ⟨srz, k5, k6⟩ := sky17 t0 hs
    obtain rfl : srz = sr0 := Option.some.inj (k5.symm.trans k3)
    have k7 := row17 t0 k6 k4
    have q1s : q1 s0 = q s0 := eq s0 (by rw [hs]; show (2 : Nat) ≠ 0; decide) (rne hs ha (by decide))
    have q1r : q1 srz = q srz := eq srz (by rw [k6]; show (17 : Nat) ≠ 0; decide) (rne k6 ha (by decide))
    obtain ⟨st, a1, a2, a3⟩ := hsb sr srz (by rw [← hbz]; exact k1) (by rw [q1s]; exact k3) n (by rw [es]; exact hn) sf (by rw [q1r]; exact k4)
    exact ⟨st, a1, a2, by rw [a3, eg sf (by rw [k7]; show (3 : Nat) ≠ 0; decide)]⟩
/-- back to an image -/
def BKS (T T2 : RT) (g g2 : GN) (q q2 : GQ) (s0 ia K : Nat) (r : Int32) : Prop := ∃ b, q ia K = some b ∧ r = g2 s0 0 ∧ BE5 g g2 s0 b ∧ GJ T 0 g g2 ∧ QJ T 0 q q2 ∧ ∀ sr srf, q s0 1 = some sr → q b 1 = some srf → SBE T2 g g2 q q2 0 sr srf (g b 0).toInt
theorem BKS.of {T T2 : RT} {g g2 : GN} {q q2 : GQ} {x s0 s1 ia K b : Nat} {r : Int32} (hx : T x = (1, 0, 0)) (ek : q ia K = some b) (he : BE5 g g2 s0 b) (hsb : ∀ sr srf, q s0 1 = some sr → q b 1 = some srf → SBE T2 g g2 q q2 0 sr srf (g b 0).toInt) (hgj : GJ T 0 g g2) (hqj : QJ T 0 q q2) (hs0 : q x 0 = some s0) (hs1 : q2 x 0 = some s1) (hr : g2 s1 0 = r) : BKS T T2 g g2 q q2 s0 ia K r := by
  have ex : q2 x = q x := hqj x (by rw [hx]; show (1 : Nat) ≠ 0; decide) (Or.inl (by rw [hx]; show (1 : Nat) ≠ 17; decide))
  have h01 : s1 = s0 := Option.some.inj (hs1.symm.trans (by rw [ex]; exact hs0))
  exact ⟨b, ek, by rw [← hr, h01], he, hgj, hqj, hsb⟩
/-- no place in use is empty -/
def NNL (g : GN) (q : GQ) (s0 sr : Nat) : Prop := ∀ n : Nat, (n : Int) < (g s0 0).toInt → q sr n ≠ none
theorem SAT.in {g : GN} {q : GQ} {b sr a : Nat} {p : Int32} (h : SAT g q b sr p (some a)) : (0 ≤ p.toInt ∧ p.toInt < (g b 0).toInt) ∧ q sr p.toNatClampNeg = some a := by
  have k : 0 ≤ p.toInt ∧ p.toInt < (g b 0).toInt := Classical.byContradiction (fun z => by have := h.2 z; cases this)
  exact ⟨k, (h.1 k).symm⟩
theorem SAT.out {g : GN} {q : GQ} {b sr : Nat} {p : Int32} (h : SAT g q b sr p none) (n : NNL g q b sr) : ¬ (0 ≤ p.toInt ∧ p.toInt < (g b 0).toInt) := fun z => by
  have c := clampI z.1
  exact n p.toNatClampNeg (by omega) (h.1 z).symm
/-- one number of a Sky is new; nights and worths may be -/
def UPS (T : RT) (g g2 : GN) (s k : Nat) (v : Int32) : Prop := g2 s k = v ∧ (∀ n, n ≠ k → g2 s n = g s n) ∧ ∀ a, (T a).1 ≠ 0 → (T a).1 ≠ 14 → a ≠ s → g2 a = g a
def G14 (T : RT) (g g2 : GN) : Prop := ∀ a, (T a).1 ≠ 0 → (T a).1 ≠ 14 → g2 a = g a
theorem G14.rf {T : RT} {g : GN} : G14 T g g := fun _ _ _ => rfl
theorem G14.tr {T : RT} {g g2 g3 : GN} (h : G14 T g g2) (h2 : G14 T g2 g3) : G14 T g g3 := fun a h0 h4 => (h2 a h0 h4).trans (h a h0 h4)
theorem G14.st {T : RT} {g g2 : GN} {x k j i : Nat} {v : Int32} (e : g2 = gset g x k v) (ht : T x = (14, j, i)) : G14 T g g2 := fun a _ h4 => by
  rw [e]; exact gset_ne (fun z => h4 (by rw [z, ht]))
theorem UPS.of {T : RT} {g g1 g2 : GN} {s k j i : Nat} {v : Int32} (ga : G14 T g g1) (e : g2 = gset g1 s k v) (ht : T s = (2, j, i)) : UPS T g g2 s k v := by
  have es : g1 s = g s := ga s (by rw [ht]; show (2 : Nat) ≠ 0; decide) (by rw [ht]; show (2 : Nat) ≠ 14; decide)
  refine ⟨by rw [e]; exact gs_eq, fun n hn => by rw [e, gs_ne hn, es], fun a h0 h4 hne => by rw [e, gset_ne hne]; exact ga a h0 h4⟩
theorem UPS.rf {T : RT} {g : GN} {s k : Nat} : UPS T g g s k (g s k) := ⟨rfl, fun _ _ => rfl, fun _ _ _ _ => rfl⟩
def UPE (T : RT) (g g2 : GN) (s k : Nat) : Prop := ∃ v, UPS T g g2 s k v
def UPP (T : RT) (g g2 : GN) (s k : Nat) : Prop := ∃ v : Int32, v.toInt = (g s k).toInt + 1 ∧ UPS T g g2 s k v
/-- a STAR's size is new -/
def RSZ (g g2 : GN) (q : GQ) (sr K : Nat) (r p : Int32) : Prop := ∃ st, q sr K = some st ∧ r = g st 0 ∧ g2 = gset g st 0 p
/-- counts and sizes that are told stay -/
def KS (f f2 : Nat → Int32) : Prop := (f2 0 = f 0 ∧ f2 1 = f 1 ∧ f2 2 = f 2) ∧ ∀ i : Nat, i < 12 → f2 (3 + 3 * i) = f (3 + 3 * i)
theorem KS.rf {f : Nat → Int32} : KS f f := ⟨⟨rfl, rfl, rfl⟩, fun _ _ => rfl⟩
theorem KS_set {f g g2 : Nat → Int32} {i : Nat} {v : Int32} (h : KS f g) (e : g2 = upd g i v) (h0 : 3 ≤ i) (h1 : 39 ≤ i ∨ i % 3 ≠ 0) : KS f g2 := by
  obtain ⟨⟨a0, a1, a2⟩, a3⟩ := h
  exact ⟨⟨by rw [e, up_ne (by omega)]; exact a0, by rw [e, up_ne (by omega)]; exact a1, by rw [e, up_ne (by omega)]; exact a2⟩, fun k hk => by rw [e, up_ne (by omega)]; exact a3 k hk⟩
/-- a size is new -/
def KR (s : Nat) (v : Int32) (f f2 : Nat → Int32) : Prop := (f2 0 = f 0 ∧ f2 1 = f 1 ∧ f2 2 = f 2) ∧ f2 (3 + 3 * s) = v ∧ ∀ i : Nat, i < 12 → i ≠ s → f2 (3 + 3 * i) = f (3 + 3 * i)
theorem KR_of {f g g2 : Nat → Int32} {i s : Nat} {v : Int32} (h : KS f g) (e : g2 = upd g i v) (hi : i = 3 + 3 * s) : KR s v f g2 := by
  obtain ⟨⟨a0, a1, a2⟩, a3⟩ := h
  exact ⟨⟨by rw [e, up_ne (by omega)]; exact a0, by rw [e, up_ne (by omega)]; exact a1, by rw [e, up_ne (by omega)]; exact a2⟩, by rw [e, up_eq hi.symm], fun k hk hne => by rw [e, up_ne (by omega)]; exact a3 k hk⟩
theorem KR_set {f g g2 : Nat → Int32} {i s : Nat} {v w : Int32} (h : KR s v f g) (e : g2 = upd g i w) (hs : s < 12) (h0 : 3 ≤ i) (h1 : 39 ≤ i ∨ i % 3 ≠ 0) : KR s v f g2 := by
  obtain ⟨⟨a0, a1, a2⟩, a4, a3⟩ := h
  exact ⟨⟨by rw [e, up_ne (by omega)]; exact a0, by rw [e, up_ne (by omega)]; exact a1, by rw [e, up_ne (by omega)]; exact a2⟩, by rw [e, up_ne (by omega)]; exact a4, fun k hk hne => by rw [e, up_ne (by omega)]; exact a3 k hk hne⟩
/-- a count is new -/
def KC (k : Nat) (f f2 : Nat → Int32) : Prop := (f2 k).toInt = (f k).toInt + 1 ∧ (k ≠ 0 → f2 0 = f 0) ∧ (k ≠ 1 → f2 1 = f 1) ∧ (k ≠ 2 → f2 2 = f 2) ∧ ∀ i : Nat, i < 12 → f2 (3 + 3 * i) = f (3 + 3 * i)
theorem KC_of {f g g2 : Nat → Int32} {k : Nat} {v : Int32} (h : KS f g) (e : g2 = upd g k v) (hk : k < 3) (hv : v.toInt = (f k).toInt + 1) : KC k f g2 := by
  obtain ⟨⟨a0, a1, a2⟩, a3⟩ := h
  exact ⟨by rw [e, up_eq rfl]; exact hv, fun z => by rw [e, up_ne (by omega)]; exact a0, fun z => by rw [e, up_ne (by omega)]; exact a1, fun z => by rw [e, up_ne (by omega)]; exact a2, fun i hi => by rw [e, up_ne (by omega)]; exact a3 i hi⟩
/-- a STAR is new -/
def KN1 (s : Nat) (p : Int32) (f f2 : Nat → Int32) : Prop := (f2 0).toInt = (f 0).toInt + 1 ∧ (f2 1 = f 1 ∧ f2 2 = f 2) ∧ f2 (3 + 3 * s) = p ∧ ∀ i : Nat, i < 12 → i ≠ s → f2 (3 + 3 * i) = f (3 + 3 * i)
theorem KN1_of {f g g2 : Nat → Int32} {s : Nat} {v p : Int32} (h : KR s p f g) (e : g2 = upd g 0 v) (hv : v.toInt = (f 0).toInt + 1) : KN1 s p f g2 := by
  obtain ⟨⟨a0, a1, a2⟩, a4, a3⟩ := h
  exact ⟨by rw [e, up_eq rfl]; exact hv, ⟨by rw [e, up_ne (by decide)]; exact a1, by rw [e, up_ne (by decide)]; exact a2⟩, by rw [e, up_ne (by omega)]; exact a4, fun i hi hne => by rw [e, up_ne (by omega)]; exact a3 i hi hne⟩
theorem rdE {f : Nat → Int32} {i v : Int32} {n : Nat} (e : v = f i.toNatClampNeg) (h0 : 0 ≤ i.toInt) (hi : i.toInt = (n : Int)) : v = f n := by
  have c := clampI h0
  rw [e, show i.toNatClampNeg = n by omega]

