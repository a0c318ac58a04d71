/-! ===== what is tracked, and stays (mine) ===== -/
/-- references that are tracked, of all but the rows of STARS, stay -/
def QE (T : RT) (q q2 : GQ) : Prop := ∀ a, (T a).1 ≠ 0 → (T a).1 ≠ 17 → q2 a = q a
theorem QE.rf {T : RT} {q : GQ} : QE T q q := fun _ _ _ => rfl
theorem QE.tr {T : RT} {q q2 q3 : GQ} (h : QE T q q2) (h2 : QE T q2 q3) : QE T q q3 := fun a h0 h3 => (h2 a h0 h3).trans (h a h0 h3)
theorem QE.le {T T2 : RT} {q q2 : GQ} (le : TLe T T2) (h : QE T2 q q2) : QE T q q2 := fun a h0 h3 => h a (by rw [le a h0]; exact h0) (by rw [le a h0]; exact h3)
theorem QE.st {T : RT} {q q2 : GQ} {x k j i : Nat} {v : Option Nat} (e : q2 = qset q x k v) (ht : T x = (17, j, i)) : QE T q q2 := fun a _ h3 => by
  rw [e]; exact qset_ne (fun z => h3 (by rw [z, ht]))
theorem QE.ex {T : RT} {q q2 : GQ} (h : ∀ a, (T a).1 ≠ 0 → q2 a = q a) : QE T q q2 := fun a h0 _ => h a h0
/-- numbers of all but STARS, nights and worths stay -/
def GA (T : RT) (g g2 : GN) : Prop := ∀ a, (T a).1 ≠ 0 → (T a).1 ≠ 3 → (T a).1 ≠ 14 → g2 a = g a
theorem GA.rf {T : RT} {g : GN} : GA T g g := fun _ _ _ _ => rfl
theorem GA.ge {T : RT} {g g2 : GN} (h : GE T g g2) : GA T g g2 := fun a h0 h3 _ => h a h0 h3
theorem GA.tr {T : RT} {g g2 g3 : GN} (h : GA T g g2) (h2 : GA T g2 g3) : GA T g g3 := fun a h0 h3 h4 => (h2 a h0 h3 h4).trans (h a h0 h3 h4)
theorem GA.st {T : RT} {g g2 : GN} {x k j i : Nat} {v : Int32} (e : g2 = gset g x k v) (ht : T x = (14, j, i)) : GA T g g2 := fun a _ _ h4 => by
  rw [e]; exact gset_ne (fun z => h4 (by rw [z, ht]))
/-- one number of a Sky is new; STARS, nights and worths may be, all else stays -/
def GS (T : RT) (g g2 : GN) (s k : Nat) (v : Int32) : Prop := g2 s k = v ∧ (∀ n, n ≠ k → g2 s n = g s n) ∧ ∀ a, (T a).1 ≠ 0 → (T a).1 ≠ 3 → (T a).1 ≠ 14 → a ≠ s → g2 a = g a
theorem GS.of {T : RT} {g g1 g2 : GN} {s k j i : Nat} {v : Int32} (ga : GA T g g1) (e : g2 = gset g1 s k v) (ht : T s = (2, j, i)) : GS T g g2 s k v := by
  have es : g1 s = g s := ga s (by rw [ht]; show (2 : Nat) ≠ 0; decide) (by rw [ht]; show (2 : Nat) ≠ 3; decide) (by rw [ht]; show (2 : Nat) ≠ 14; decide)
  refine ⟨by rw [e]; exact gs_eq, fun n hn => by rw [e, gs_ne hn, es], fun a h0 h3 h4 hne => by rw [e, gset_ne hne]; exact ga a h0 h3 h4⟩
theorem GS.rf {T : RT} {g : GN} {s k : Nat} : GS T g g s k (g s k) := ⟨rfl, fun _ _ => rfl, fun _ _ _ _ _ => rfl⟩
/-- a count is one more -/
def GP (T : RT) (g g2 : GN) (s : Nat) : Prop := ∃ v : Int32, v.toInt = (g s 0).toInt + 1 ∧ GS T g g2 s 0 v
def GO (T : RT) (g g2 : GN) (s k : Nat) : Prop := ∃ v : Int32, GS T g g2 s k v
/-- numbers of all Skies but one stay -/
def G2 (T : RT) (s : Nat) (g g2 : GN) : Prop := ∀ a, (T a).1 = 2 → a ≠ s → g2 a = g a
theorem G2.rf {T : RT} {s : Nat} {g : GN} : G2 T s g g := fun _ _ _ => rfl
theorem G2.tr {T : RT} {s : Nat} {g g2 g3 : GN} (h : G2 T s g g2) (h2 : G2 T s g2 g3) : G2 T s g g3 := fun a h0 h1 => (h2 a h0 h1).trans (h a h0 h1)
theorem G2.le {T T2 : RT} {s : Nat} {g g2 : GN} (le : TLe T T2) (h : G2 T2 s g g2) : G2 T s g g2 := fun a h0 h1 => h a (by rw [le a (by rw [h0]; decide)]; exact h0) h1
theorem G2.ge {T : RT} {s : Nat} {g g2 : GN} (h : GE T g g2) : G2 T s g g2 := fun a h0 _ => h a (by rw [h0]; decide) (by rw [h0]; decide)
theorem G2.ex {T : RT} {s : Nat} {g g2 : GN} (h : ∀ a, (T a).1 ≠ 0 → g2 a = g a) : G2 T s g g2 := fun a h0 _ => h a (by rw [h0]; decide)
theorem G2.st {T : RT} {s k : Nat} {g g2 : GN} {v : Int32} (e : g2 = gset g s k v) : G2 T s g g2 := fun a _ h1 => by rw [e]; exact gset_ne h1
theorem G2.cp {T : RT} {s x y j i sp dp n : Nat} {g g2 : GN} (e : g2 = gcpy g y x sp dp n) (ht : T x = (14, j, i)) : G2 T s g g2 := fun a h0 _ => by
  rw [e]; exact gcpy_ne (fun z => by rw [z, ht] at h0; exact absurd h0 (show (14 : Nat) ≠ 2 by decide))
/-- an image is taken -/
def IMC (T T2 : RT) (g g2 : GN) (q q2 : GQ) (x s0 ia K : Nat) : Prop := ∃ b : Nat, q2 x = q x ∧ (q2 ia K = some b ∧ ∀ j, j ≠ K → q2 ia j = q ia j) ∧ T2 b = (2, K + 1, 0) ∧ (g2 b 0 = g s0 0 ∧ g2 b 7 = g s0 7 ∧ g2 b 10 = g s0 10) ∧ ∀ a, (T a).1 = 2 → a ≠ b → g2 a = g a
theorem qs_eq {q : GQ} {a k : Nat} {v : Option Nat} : qset q a k v a k = v := by rw [qset_eq]; unfold va_up; exact if_pos rfl
theorem qs_ne {q : GQ} {a k j : Nat} {v : Option Nat} (h : j ≠ k) : qset q a k v a j = q a j := by rw [qset_eq]; unfold va_up; exact if_neg h
def BE5 (g g2 : GN) (a b : Nat) : Prop := g2 a 0 = g b 0 ∧ g2 a 2 = g b 2 ∧ g2 a 4 = g b 4 ∧ g2 a 7 = g b 7 ∧ g2 a 10 = g b 10
theorem IMC.of {T T1 T2 : RT} {g g1 g2 : GN} {q q1 q2 : GQ} {x s0 s1 ia K b : Nat} {r : Int32} (hx : T x = (1, 0, 0)) (hs : T s0 = (2, 0, 0)) (ha : T ia = (19, 0, 0)) (l1 : TLe T T1) (l2 : TLe T1 T2) (hb : T1 b = (2, K + 1, 0)) (eg : ∀ a, (T a).1 ≠ 0 → g1 a = g a) (eq : ∀ a, (T a).1 ≠ 0 → a ≠ ia → q1 a = q a) (ek : q1 ia K = some b) (ej : ∀ j, j ≠ K → q1 ia j = q ia j) (he : BE5 g1 g2 b s0 ∧ G2 T1 b g1 g2) (hq : QE T1 q1 q2) (hs0 : q x 0 = some s0) (hs1 : q2 x 0 = some s1) (hr : g2 s1 0 = r) : r = g s0 0 ∧ IMC T T2 g g2 q q2 x s0 ia K := by
  have es : g1 s0 = g s0 := eg s0 (by rw [hs]; show (2 : Nat) ≠ 0; decide)
  have ia1 := l1.up ha
  have ei : q2 ia = q1 ia := hq ia (by rw [ia1]; show (19 : Nat) ≠ 0; decide) (by rw [ia1]; show (19 : Nat) ≠ 17; decide)
  have x1 := l1.up hx
  have ex : q2 x = q x := by
    rw [hq x (by rw [x1]; show (1 : Nat) ≠ 0; decide) (by rw [x1]; show (1 : Nat) ≠ 17; decide)]
    exact eq x (by rw [hx]; show (1 : Nat) ≠ 0; decide) (rne hx ha (by decide))
  have hg2 : ∀ a, (T a).1 = 2 → a ≠ b → g2 a = g a := fun a h0 hne => by
    have h1 : (T a).1 ≠ 0 := by rw [h0]; decide
    rw [he.2 a (by rw [l1 a h1]; exact h0) hne]; exact eg a h1
  have h01 : s1 = s0 := Option.some.inj (hs1.symm.trans (by rw [ex]; exact hs0))
  obtain ⟨⟨e0, _, _, e7, e10⟩, _⟩ := he
  refine ⟨?_, b, ex, ⟨by rw [ei]; exact ek, fun j hj => by rw [ei]; exact ej j hj⟩, l2.up hb, ⟨by rw [e0, es], by rw [e7, es], by rw [e10, es]⟩, hg2⟩
  rw [← hr, h01, hg2 s0 (by rw [hs]) (rne2 (l1.up hs) hb (Ne.symm (Nat.succ_ne_zero K)))]
def BKC (T : RT) (g g2 : GN) (q q2 : GQ) (s0 ia K : Nat) (r : Int32) : Prop := ∃ b, q ia K = some b ∧ r = g2 s0 0 ∧ (g2 s0 0 = g b 0 ∧ g2 s0 7 = g b 7 ∧ g2 s0 10 = g b 10) ∧ G2 T s0 g g2 ∧ QE T q q2
theorem BKC.of {T : RT} {g g2 : GN} {q q2 : GQ} {x s0 s1 ia K b : Nat} {r : Int32} (hx : T x = (1, 0, 0)) (ek : q ia K = some b) (he : BE5 g g2 s0 b ∧ G2 T s0 g g2) (hq : QE T q q2) (hs0 : q x 0 = some s0) (hs1 : q2 x 0 = some s1) (hr : g2 s1 0 = r) : BKC T g g2 q q2 s0 ia K r := by
  have ex : q2 x = q x := hq x (by rw [hx]; show (1 : Nat) ≠ 0; decide) (by rw [hx]; show (1 : Nat) ≠ 17; decide)
  have h01 : s1 = s0 := Option.some.inj (hs1.symm.trans (by rw [ex]; exact hs0))
  obtain ⟨⟨e0, _, _, e7, e10⟩, h2⟩ := he
  exact ⟨b, ek, by rw [← hr, h01], ⟨e0, e7, e10⟩, h2, hq⟩
/-- the five numbers that are told -/
def KT (f f2 : Nat → Int32) : Prop := f2 0 = f 0 ∧ f2 1 = f 1 ∧ f2 2 = f 2 ∧ f2 7515 = f 7515 ∧ f2 7516 = f 7516
theorem KT.rf {f : Nat → Int32} : KT f f := ⟨rfl, rfl, rfl, rfl, rfl⟩
theorem KT_set {f g g2 : Nat → Int32} {i : Nat} {v : Int32} (h : KT f g) (e : g2 = upd g i v) (h0 : i ≠ 0) (h1 : i ≠ 1) (h2 : i ≠ 2) (h3 : i ≠ 7515) (h4 : i ≠ 7516) : KT f g2 := by
  obtain ⟨a0, a1, a2, a3, a4⟩ := h
  exact ⟨by rw [e, up_ne (Ne.symm h0)]; exact a0, by rw [e, up_ne (Ne.symm h1)]; exact a1, by rw [e, up_ne (Ne.symm h2)]; exact a2, by rw [e, up_ne (Ne.symm h3)]; exact a3, by rw [e, up_ne (Ne.symm h4)]; exact a4⟩
/-- one of the five is new -/
def KU (k : Nat) (v : Int32) (f f2 : Nat → Int32) : Prop := f2 k = v ∧ (k ≠ 0 → f2 0 = f 0) ∧ (k ≠ 1 → f2 1 = f 1) ∧ (k ≠ 2 → f2 2 = f 2) ∧ (k ≠ 7515 → f2 7515 = f 7515) ∧ (k ≠ 7516 → f2 7516 = f 7516)
theorem KU_of {f g g2 : Nat → Int32} {k : Nat} {v : Int32} (h : KT f g) (e : g2 = upd g k v) : KU k v f g2 := by
  obtain ⟨a0, a1, a2, a3, a4⟩ := h
  exact ⟨by rw [e, up_eq rfl], fun z => by rw [e, up_ne (Ne.symm z)]; exact a0, fun z => by rw [e, up_ne (Ne.symm z)]; exact a1, fun z => by rw [e, up_ne (Ne.symm z)]; exact a2, fun z => by rw [e, up_ne (Ne.symm z)]; exact a3, fun z => by rw [e, up_ne (Ne.symm z)]; exact a4⟩
theorem KT.ku {f g : Nat → Int32} (h : KT f g) {k : Nat} : KU k (g k) f g := ⟨rfl, fun _ => h.1, fun _ => h.2.1, fun _ => h.2.2.1, fun _ => h.2.2.2.1, fun _ => h.2.2.2.2⟩
def KP (f f2 : Nat → Int32) : Prop := ∃ v : Int32, v.toInt = (f 0).toInt + 1 ∧ KU 0 v f f2
def KO1 (k : Nat) (f f2 : Nat → Int32) : Prop := ∃ v : Int32, KU k v f f2
/-- an image of the model -/
def IMP (K : Nat) (told im mk im2 mk2 : Nat → Int32) : Prop := (∀ n : Nat, n < 7533 → im2 (7533 * K + n) = told n) ∧ (∀ j : Nat, j < 4 → j ≠ K → (∀ n : Nat, n < 7533 → im2 (7533 * j + n) = im (7533 * j + n)) ∧ mk2 j = mk j) ∧ (mk2 K).toInt ≠ 0
theorem IMP_mk {K : Nat} {told im mk im2 mk2 : Nat → Int32} {i v : Int32} {L : Int} (h1 : ∀ n : Nat, (n : Int) < L → im2 (7533 * i.toInt.toNat + n) = told n) (hL : 7533 ≤ L) (h2 : ∀ j : Nat, j < 4 → j ≠ i.toInt.toNat → ∀ n, n < 7533 → im2 (7533 * j + n) = im (7533 * j + n)) (e : mk2 = upd mk i.toNatClampNeg v) (hv : v.toInt ≠ 0) (hi : i.toNatClampNeg = K) (h0 : 0 ≤ i.toInt) : IMP K told im mk im2 mk2 := by
  have c := clampI h0
  have hK : i.toInt.toNat = K := by omega
  rw [hK] at h1 h2
  exact ⟨fun n hn => h1 n (by omega), fun j hj hne => ⟨h2 j hj hne, by rw [e, up_ne (by omega)]⟩, by rw [e, up_eq hi.symm]; exact hv⟩
theorem BK_mk {im told : Nat → Int32} {i : Int32} {L : Int} (h1 : ∀ n : Nat, (n : Int) < L → told n = im (7533 * i.toInt.toNat + n)) (hL : 7533 ≤ L) (h0 : 0 ≤ i.toInt) : ∀ n : Nat, n < 7533 → told n = im (7533 * i.toNatClampNeg + n) := by
  have c := clampI h0
  have hK : i.toInt.toNat = i.toNatClampNeg := by omega
  rw [hK] at h1
  exact fun n hn => h1 n (by omega)
/-- the same numbers in two rows of the model -/
def SKY (gb f : Nat → Int32) : Prop := gb 0 = f 0 ∧ gb 7 = f 7515 ∧ gb 10 = f 7516
theorem SKY.kt {gb f f2 : Nat → Int32} (h : SKY gb f) (k : KT f f2) : SKY gb f2 := ⟨h.1.trans k.1.symm, h.2.1.trans k.2.2.2.1.symm, h.2.2.trans k.2.2.2.2.symm⟩
/-- class and model agree in what is tracked -/
def LR (T : RT) (g : GN) (q : GQ) (x : Nat) (F : Nat → Nat → Int32) : Prop := ∃ s0 ia : Nat, (q x 0 = some s0 ∧ T s0 = (2, 0, 0) ∧ SKY (g s0) (F 0)) ∧ (q x 1 = some ia ∧ T ia = (19, 0, 0)) ∧ ∀ k : Nat, k < 4 → (q ia k = none ∧ (F 48 k).toInt = 0) ∨ ∃ b, q ia k = some b ∧ T b = (2, k + 1, 0) ∧ (F 48 k).toInt ≠ 0 ∧ SKY (g b) (fun n => F 47 (7533 * k + n))
section LRS
variable {T T2 : RT} {g g2 : GN} {q q2 : GQ} {x : Nat} {F F2 : Nat → Nat → Int32}
theorem LR.keep (h : LR T g q x F) (hx : T x = (1, 0, 0)) (le : TLe T T2) (hg : ∀ a, (T a).1 = 2 → g2 a = g a) (hq : ∀ a, (T a).1 = 1 ∨ (T a).1 = 19 → q2 a = q a) (h0 : ∀ gb, SKY gb (F 0) → SKY gb (F2 0)) (h47 : F2 47 = F 47) (h48 : F2 48 = F 48) : LR T2 g2 q2 x F2 := by
  obtain ⟨s0, ia, ⟨a1, a2, a3⟩, ⟨b1, b2⟩, hk⟩ := h
  have ex : q2 x = q x := hq x (Or.inl (by rw [hx]))
  have es : g2 s0 = g s0 := hg s0 (by rw [a2])
  have ei : q2 ia = q ia := hq ia (Or.inr (by rw [b2]))
  refine ⟨s0, ia, ⟨by rw [ex]; exact a1, le.up a2, ?_⟩, ⟨by rw [ex]; exact b1, le.up b2⟩, fun k hk4 => ?_⟩
  · rw [es]; exact h0 _ a3
  · rw [ei, h47, h48]
    rcases hk k hk4 with c | ⟨b, c1, c2, c3, c4⟩
    · exact Or.inl c
    · refine Or.inr ⟨b, c1, le.up c2, c3, ?_⟩
      rw [hg b (by rw [c2])]; exact c4
/-- one number of the main Sky is new -/
theorem LR.sky (h : LR T g q x F) (hx : T x = (1, 0, 0)) (le : TLe T T2) (hg : ∀ s0, q x 0 = some s0 → ∀ a, (T a).1 = 2 → a ≠ s0 → g2 a = g a) (hq : ∀ a, (T a).1 = 1 ∨ (T a).1 = 19 → q2 a = q a) (h0 : ∀ s0, q x 0 = some s0 → SKY (g s0) (F 0) → SKY (g2 s0) (F2 0)) (h47 : F2 47 = F 47) (h48 : F2 48 = F 48) : LR T2 g2 q2 x F2 := by
  obtain ⟨s0, ia, ⟨a1, a2, a3⟩, ⟨b1, b2⟩, hk⟩ := h
  have ex : q2 x = q x := hq x (Or.inl (by rw [hx]))
  have ei : q2 ia = q ia := hq ia (Or.inr (by rw [b2]))
  refine ⟨s0, ia, ⟨by rw [ex]; exact a1, le.up a2, h0 s0 a1 a3⟩, ⟨by rw [ex]; exact b1, le.up b2⟩, fun k hk4 => ?_⟩
  rw [ei, h47, h48]
  rcases hk k hk4 with c | ⟨b, c1, c2, c3, c4⟩
  · exact Or.inl c
  · refine Or.inr ⟨b, c1, le.up c2, c3, ?_⟩
    rw [hg s0 a1 b (by rw [c2]) (rne2 c2 a2 (Nat.succ_ne_zero k))]; exact c4
theorem GS.oth {s k : Nat} {v : Int32} (h : GS T g g2 s k v) : ∀ a, (T a).1 = 2 → a ≠ s → g2 a = g a := fun a h0 hne => h.2.2 a (by rw [h0]; decide) (by rw [h0]; decide) (by rw [h0]; decide) hne
/-- WIDE and ORDER -/
theorem LR.sc (h : LR T g q x F) (hx : T x = (1, 0, 0)) (n j : Nat) (hnj : n = 7 ∧ j = 7515 ∨ n = 10 ∧ j = 7516) {P : Prop} {p r r2 : Int32} {f2 : Nat → Int32} (hc : ∀ s0, q x 0 = some s0 → (P ∧ r = g s0 n ∧ GS T g g2 s0 n p) ∨ (¬ P ∧ r.toInt = -1 ∧ g2 = g)) (hm : (P ∧ r2 = F 0 j ∧ KU j p (F 0) f2) ∨ (¬ P ∧ r2.toInt = -1 ∧ KT (F 0) f2)) (h0 : F2 0 = f2) (h47 : F2 47 = F 47) (h48 : F2 48 = F 48) : r.toInt = r2.toInt ∧ LR T g2 q x F2 := by
  obtain ⟨s0, ia, ⟨a1, a2, a3⟩, _⟩ := id h
  rcases hc s0 a1 with ⟨p1, c1, c2⟩ | ⟨p1, c1, c2⟩
  · rcases hm with ⟨_, d1, d2⟩ | ⟨p2, _⟩
    · refine ⟨?_, h.sky hx TLe.rf (fun s1 e1 => ?_) (fun _ _ => rfl) (fun s1 e1 k => ?_) h47 h48⟩
      · rw [c1, d1]
        rcases hnj with ⟨rfl, rfl⟩ | ⟨rfl, rfl⟩
        · rw [a3.2.1]
        · rw [a3.2.2]
      · obtain rfl : s1 = s0 := Option.some.inj (e1.symm.trans a1)
        exact c2.oth
      · obtain rfl : s1 = s0 := Option.some.inj (e1.symm.trans a1)
        obtain ⟨u0, u1, u2, u3, u4, u5⟩ := d2
        rw [h0]
        rcases hnj with ⟨rfl, rfl⟩ | ⟨rfl, rfl⟩
        · exact ⟨by rw [c2.2.1 0 (by decide), u1 (by decide)]; exact k.1, by rw [c2.1, u0], by rw [c2.2.1 10 (by decide), u5 (by decide)]; exact k.2.2⟩
        · exact ⟨by rw [c2.2.1 0 (by decide), u1 (by decide)]; exact k.1, by rw [c2.2.1 7 (by decide), u4 (by decide)]; exact k.2.1, by rw [c2.1, u0]⟩
    · exact absurd p1 p2
  · rcases hm with ⟨p2, _⟩ | ⟨_, d1, d2⟩
    · exact absurd p2 p1
    · refine ⟨by rw [c1, d1], h.keep hx TLe.rf (fun _ _ => by rw [c2]) (fun _ _ => rfl) (fun _ k => ?_) h47 h48⟩
      rw [h0]; exact k.kt d2
/-- a new STAR -/
theorem LR.star (h : LR T g q x F) (hx : T x = (1, 0, 0)) (le : TLe T T2) (qe : QE T q q2) {P : Prop} {r r2 : Int32} {f2 : Nat → Int32} (hc : ∀ s0, q x 0 = some s0 → (P ∧ ((r.toInt = -1 ∧ 12 ≤ (g s0 0).toInt ∧ GE T g g2) ∨ ((g s0 0).toInt < 12 ∧ r.toInt = (g s0 0).toInt ∧ GP T g g2 s0))) ∨ (¬ P ∧ r.toInt = -1 ∧ g2 = g)) (hm : (¬ ((F 0 0).toInt < 12 ∧ P) ∧ r2.toInt = -1 ∧ KT (F 0) f2) ∨ (((F 0 0).toInt < 12 ∧ P) ∧ r2.toInt = (F 0 0).toInt ∧ KP (F 0) f2)) (h0 : F2 0 = f2) (h47 : F2 47 = F 47) (h48 : F2 48 = F 48) : r.toInt = r2.toInt ∧ LR T2 g2 q2 x F2 := by
  obtain ⟨s0, ia, ⟨a1, a2, a3⟩, _⟩ := id h
  have hq : ∀ a, (T a).1 = 1 ∨ (T a).1 = 19 → q2 a = q a := fun a ha => by
    rcases ha with ha | ha <;> exact qe a (by rw [ha]; decide) (by rw [ha]; decide)
  have e0 : g s0 0 = F 0 0 := a3.1
  rcases hc s0 a1 with ⟨p1, ⟨c1, c2, c3⟩ | ⟨c1, c2, v, c3, c4⟩⟩ | ⟨p1, c1, c2⟩
  · rcases hm with ⟨_, d1, d2⟩ | ⟨⟨p2, _⟩, _⟩
    · refine ⟨by rw [c1, d1], h.keep hx le (fun a ha => c3 a (by rw [ha]; decide) (by rw [ha]; decide)) hq (fun _ k => ?_) h47 h48⟩
      rw [h0]; exact k.kt d2
    · rw [e0] at c2; omega
  · rcases hm with ⟨p2, _⟩ | ⟨_, d1, w, d2, d3⟩
    · exact absurd ⟨by rw [← e0]; exact c1, p1⟩ p2
    · refine ⟨by rw [c2, d1, e0], h.sky hx le (fun s1 e1 => ?_) hq (fun s1 e1 k => ?_) h47 h48⟩
      · obtain rfl : s1 = s0 := Option.some.inj (e1.symm.trans a1)
        exact c4.oth
      · obtain rfl : s1 = s0 := Option.some.inj (e1.symm.trans a1)
        obtain ⟨u0, u1, u2, u3, u4, u5⟩ := d3
        rw [h0]
        have ev : v = w := Int32.toInt_inj.mp (by rw [c3, d2, e0])
        exact ⟨by rw [c4.1, u0, ev], by rw [c4.2.1 7 (by decide), u4 (by decide)]; exact k.2.1, by rw [c4.2.1 10 (by decide), u5 (by decide)]; exact k.2.2⟩
  · rcases hm with ⟨_, d1, d2⟩ | ⟨⟨_, p2⟩, _⟩
    · refine ⟨by rw [c1, d1], h.keep hx le (fun _ _ => by rw [c2]) hq (fun _ k => ?_) h47 h48⟩
      rw [h0]; exact k.kt d2
    · exact absurd p2 p1
/-- a new WORLD, a new CANDIDATE -/
theorem LR.one (h : LR T g q x F) (hx : T x = (1, 0, 0)) (le : TLe T T2) (n j : Nat) (hn : n = 2 ∧ j = 1 ∨ n = 4 ∧ j = 2) {f2 : Nat → Int32} (hc : ∀ s0, q x 0 = some s0 → GO T g g2 s0 n) (hm : KO1 j (F 0) f2) (h0 : F2 0 = f2) (h47 : F2 47 = F 47) (h48 : F2 48 = F 48) : LR T2 g2 q x F2 := by
  refine h.sky hx le (fun s1 e1 => ?_) (fun _ _ => rfl) (fun s1 e1 k => ?_) h47 h48
  · obtain ⟨v, c⟩ := hc s1 e1
    exact c.oth
  · obtain ⟨v, c⟩ := hc s1 e1
    obtain ⟨w, u0, u1, u2, u3, u4, u5⟩ := hm
    rw [h0]
    rcases hn with ⟨rfl, rfl⟩ | ⟨rfl, rfl⟩
    · exact ⟨by rw [c.2.1 0 (by decide), u1 (by decide)]; exact k.1, by rw [c.2.1 7 (by decide), u4 (by decide)]; exact k.2.1, by rw [c.2.1 10 (by decide), u5 (by decide)]; exact k.2.2⟩
    · exact ⟨by rw [c.2.1 0 (by decide), u1 (by decide)]; exact k.1, by rw [c.2.1 7 (by decide), u4 (by decide)]; exact k.2.1, by rw [c.2.1 10 (by decide), u5 (by decide)]; exact k.2.2⟩
/-- an image -/
theorem LR.image (h : LR T g q x F) (hx : T x = (1, 0, 0)) (le : TLe T T2) {P : Prop} {K : Nat} {r r2 : Int32} {im2 mk2 : Nat → Int32} (hK : P → K < 4) (hc : ∀ s0 ia, q x 0 = some s0 → q x 1 = some ia → (P ∧ r = g s0 0 ∧ IMC T T2 g g2 q q2 x s0 ia K) ∨ (¬ P ∧ r.toInt = -1 ∧ g2 = g ∧ q2 = q)) (hm : (P ∧ r2 = F 0 0 ∧ IMP K (F 0) (F 47) (F 48) im2 mk2) ∨ (¬ P ∧ r2.toInt = -1 ∧ im2 = F 47 ∧ mk2 = F 48)) (h0 : F2 0 = F 0) (h47 : F2 47 = im2) (h48 : F2 48 = mk2) : r.toInt = r2.toInt ∧ LR T2 g2 q2 x F2 := by
  obtain ⟨s0, ia, ⟨a1, a2, a3⟩, ⟨b1, b2⟩, hk⟩ := id h
  rcases hc s0 ia a1 b1 with ⟨p1, c1, b, i1, ⟨i2, i3⟩, i4, ⟨i5, i6, i7⟩, i8⟩ | ⟨p1, c1, c2, c3⟩
  · rcases hm with ⟨_, d1, m1, m2, m3⟩ | ⟨p2, _⟩
    · refine ⟨by rw [c1, d1, a3.1], s0, ia, ⟨by rw [i1]; exact a1, le.up a2, ?_⟩, ⟨by rw [i1]; exact b1, le.up b2⟩, fun k hk4 => ?_⟩
      · rw [i8 s0 (by rw [a2]) (rne2 (le.up a2) i4 (Ne.symm (Nat.succ_ne_zero K))), h0]; exact a3
      · rw [h47, h48]
        by_cases e : k = K
        · subst e
          refine Or.inr ⟨b, i2, i4, m3, ?_⟩
          refine ⟨?_, ?_, ?_⟩
          · show g2 b 0 = im2 (7533 * k + 0)
            rw [m1 0 (by decide), i5]; exact a3.1
          · show g2 b 7 = im2 (7533 * k + 7515)
            rw [m1 7515 (by decide), i6]; exact a3.2.1
          · show g2 b 10 = im2 (7533 * k + 7516)
            rw [m1 7516 (by decide), i7]; exact a3.2.2
        · obtain ⟨n1, n2⟩ := m2 k hk4 e
          rw [i3 k e, n2]
          rcases hk k hk4 with c | ⟨b2, k1, k2, k3, k4⟩
          · exact Or.inl c
          · refine Or.inr ⟨b2, k1, le.up k2, k3, ?_⟩
            rw [i8 b2 (by rw [k2]) (rne2 (le.up k2) i4 (fun z => e (Nat.succ.inj z)))]
            refine ⟨?_, ?_, ?_⟩
            · show g b2 0 = im2 (7533 * k + 0)
              rw [n1 0 (by decide)]; exact k4.1
            · show g b2 7 = im2 (7533 * k + 7515)
              rw [n1 7515 (by decide)]; exact k4.2.1
            · show g b2 10 = im2 (7533 * k + 7516)
              rw [n1 7516 (by decide)]; exact k4.2.2
    · exact absurd p1 p2
  · rcases hm with ⟨p2, _⟩ | ⟨_, d1, d2, d3⟩
    · exact absurd p2 p1
    · refine ⟨by rw [c1, d1], h.keep hx le (fun _ _ => by rw [c2]) (fun _ _ => by rw [c3]) (fun _ k => by rw [h0]; exact k) (by rw [h47, d2]) (by rw [h48, d3])⟩
/-- back to an image -/
theorem LR.back (h : LR T g q x F) (hx : T x = (1, 0, 0)) (le : TLe T T2) {P : Prop} {K : Nat} {r r2 : Int32} {f2 : Nat → Int32} (hK : P → K < 4) (hc : ∀ s0 ia, q x 0 = some s0 → q x 1 = some ia → ((P ∧ BKC T g g2 q q2 s0 ia K r) ∨ ((P → q ia K = none) ∧ r.toInt = -1 ∧ g2 = g ∧ q2 = q))) (hm : ((P ∧ (F 48 K).toInt ≠ 0) ∧ r2 = f2 0 ∧ ∀ n : Nat, n < 7533 → f2 n = F 47 (7533 * K + n)) ∨ (¬ (P ∧ (F 48 K).toInt ≠ 0) ∧ r2.toInt = -1 ∧ f2 = F 0)) (h0 : F2 0 = f2) (h47 : F2 47 = F 47) (h48 : F2 48 = F 48) : r.toInt = r2.toInt ∧ LR T2 g2 q2 x F2 := by
  obtain ⟨s0, ia, ⟨a1, a2, a3⟩, ⟨b1, b2⟩, hk⟩ := id h
  rcases hc s0 ia a1 b1 with ⟨p1, b, i1, i2, ⟨i3, i4, i5⟩, i6, i7⟩ | ⟨p1, c1, c2, c3⟩
  · rcases hk K (hK p1) with ⟨k1, _⟩ | ⟨b2, k1, k2, k3, k4⟩
    · rw [k1] at i1; cases i1
    · obtain rfl : b2 = b := Option.some.inj (k1.symm.trans i1)
      rcases hm with ⟨_, d1, d2⟩ | ⟨p2, _⟩
      · have q0 : f2 0 = F 47 (7533 * K + 0) := d2 0 (by decide)
        have k40 : g b2 0 = F 47 (7533 * K + 0) := k4.1
        have hq : ∀ a, (T a).1 = 1 ∨ (T a).1 = 19 → q2 a = q a := fun a ha => by
          rcases ha with ha | ha <;> exact i7 a (by rw [ha]; decide) (by rw [ha]; decide)
        refine ⟨by rw [i2, d1, i3, k40, q0], h.sky hx le (fun s1 e1 => ?_) hq (fun s1 e1 k => ?_) h47 h48⟩
        · obtain rfl : s1 = s0 := Option.some.inj (e1.symm.trans a1)
          exact i6
        · obtain rfl : s1 = s0 := Option.some.inj (e1.symm.trans a1)
          rw [h0]
          exact ⟨by rw [i3, k40, q0], by rw [i4, d2 7515 (by decide)]; exact k4.2.1, by rw [i5, d2 7516 (by decide)]; exact k4.2.2⟩
      · exact absurd ⟨p1, k3⟩ p2
  · rcases hm with ⟨⟨p2, m2⟩, _⟩ | ⟨_, d1, d2⟩
    · rcases hk K (hK p2) with ⟨_, k2⟩ | ⟨b2, k1, _⟩
      · exact absurd k2 m2
      · rw [p1 p2] at k1; cases k1
    · refine ⟨by rw [c1, d1], h.keep hx le (fun _ _ => by rw [c2]) (fun _ _ => by rw [c3]) (fun _ k => by rw [h0, d2]; exact k) h47 h48⟩
end LRS
/-- a new object -/
def LR0 (T : RT) (g : GN) (q : GQ) (x : Nat) : Prop := ∃ s0 ia : Nat, (q x 0 = some s0 ∧ T s0 = (2, 0, 0) ∧ g s0 = (fun n => if n = 7 then 20 else 0)) ∧ (q x 1 = some ia ∧ T ia = (19, 0, 0)) ∧ q ia = fun _ => none
theorem LR0.lr {T : RT} {g : GN} {q : GQ} {x : Nat} (h : LR0 T g q x) : LR T g q x F0M := by
  obtain ⟨s0, ia, ⟨a1, a2, a3⟩, b, c⟩ := h
  refine ⟨s0, ia, ⟨a1, a2, ?_⟩, b, fun k _ => Or.inl ⟨by rw [c], by show (0 : Int32).toInt = 0; decide⟩⟩
  rw [a3]
  exact ⟨rfl, rfl, rfl⟩

