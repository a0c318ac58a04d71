/-! ===== a clause and a text as a whole (mine) ===== -/
theorem PS_ct {tx cs cl sg ln : Nat → Int32} {t b d md : Nat} (h : PSt tx cs cl sg ln t b d md) : 0 ≤ (cs t).toInt ∧ (cs t).toInt ≤ 12 := h.2.1.1
theorem PT_g {tx cs cl sg ln : Nat → Int32} {t b d md : Nat} (h : PSt tx cs cl sg ln t b d md) : PSg tx cs cl sg ln sg t b d md := ⟨h, fun _ _ => rfl⟩
theorem PT_end {tx cs cl sg ln gs : Nat → Int32} {t b d md b2 md2 : Nat} (h : PSg tx cs cl sg ln gs t b d md) (hb : (b2 : Int) = (ln t).toInt) (hm : md ≤ md2) (h6 : md2 ≤ 60) : PSt tx cs cl sg ln t b2 0 md2 := PS_md (PS_new h.1 hb) hm h6
theorem PT_md {tx cs cl sg ln : Nat → Int32} {t b d md b2 d2 md2 : Nat} (h : PSt tx cs cl sg ln t b d md) (hb : b2 = b) (hd : d2 = d) (hm : md ≤ md2) (h6 : md2 ≤ 60) : PSt tx cs cl sg ln t b2 d2 md2 := PS_to h hb hd hm h6
theorem CL_0 {cl sg : Nat → Int32} {t c m a b e : Nat} (h1 : (cl (60 * t + 5 * c + 1)).toInt = a) (h2 : (cl (60 * t + 5 * c + 2)).toInt = b) (h3 : (cl (60 * t + 5 * c + 4)).toInt = e) (h4 : SEG sg t a b) (h5 : b ≤ m) (h6 : e ≤ m) (h7 : m ≤ 400) (h8 : (cl (60 * t + 5 * c + 3)).toInt = -1) : CLok cl sg t c m := ⟨a, b, e, h1, h2, h3, h4, h5, h6, h7, Or.inl h8⟩
theorem CL_1 {cl sg : Nat → Int32} {t c m a b e : Nat} (a3 : Nat) (h1 : (cl (60 * t + 5 * c + 1)).toInt = a) (h2 : (cl (60 * t + 5 * c + 2)).toInt = b) (h3 : (cl (60 * t + 5 * c + 4)).toInt = e) (h4 : SEG sg t a b) (h5 : b ≤ m) (h6 : e ≤ m) (h7 : m ≤ 400) (h8 : (cl (60 * t + 5 * c + 3)).toInt = a3) (h9 : SEG sg t a3 e) : CLok cl sg t c m := ⟨a, b, e, h1, h2, h3, h4, h5, h6, h7, Or.inr ⟨a3, h8, h9⟩⟩
theorem SEG_m {sg : Nat → Int32} {t a b a2 b2 : Nat} (h : SEG sg t a b) (ha : a2 = a) (hb : b2 = b) : SEG sg t a2 b2 := by rw [ha, hb]; exact h
theorem PT_0 {tx cs cs2 cl sg ln ln2 : Nat → Int32} {t b md : Nat} (h : TC tx cs cl sg) (hn : ¬ okT tx t) (ht : t < 18) (e1 : ln2 = upd ln t 0) (e2 : cs2 = upd cs t 0) (hb : b = 0) (hm : md = 0) : PSt tx cs2 cl sg ln2 t b 0 md := by
  have l2 : (ln2 t).toInt = 0 := by rw [e1, up_eq rfl]; rfl
  have c2 : (cs2 t).toInt = 0 := by rw [e2, up_eq rfl]; rfl
  refine ⟨⟨TC_cs h hn (fun k q => by rw [e2]; exact up_ne q), hn, ht⟩, ⟨by omega, fun c hc => by omega⟩, by omega, ?_, Nat.zero_le _, by omega⟩
  rw [show (ln2 t).toInt.toNat - b = 0 by omega]; rfl
theorem TC_nw {tx tx2 cs cl sg ln : Nat → Int32} {t b d md k : Nat} {v : Int32} (h : PSt tx cs cl sg ln t b d md) (e : tx2 = upd tx k v) (hv : v.toInt = (tx k).toInt + 1) (hk : (k = 0 ∧ (t : Int) = (tx 0).toInt) ∨ k = 1 ∨ (k = 2 ∧ (t : Int) = 12 + (tx 2).toInt)) : TC tx2 cs cl sg := by
  refine TC_new h (fun u hu ho => ?_)
  unfold okT at ho ⊢
  rcases hk with ⟨q, z⟩ | q | ⟨q, z⟩
  · subst q
    rw [e, up_eq rfl, up_ne (by decide)] at ho
    omega
  · subst q
    rw [e, up_ne (by decide), up_ne (by decide)] at ho
    exact Or.inl ho
  · subst q
    rw [e, up_ne (by decide), up_eq rfl] at ho
    omega
theorem TX_nw {tx tx2 no bf bt lf lt : Nat → Int32} {t k : Nat} {v : Int32} (h : TX tx no bf bt lf lt) (e : tx2 = upd tx k v) (hv : v.toInt = (tx k).toInt + 1) (h6 : (tx k).toInt < 6) (hk : k < 3) (hn : k = 0 → (t : Int) = (tx 0).toInt ∧ (0 ≤ (no t).toInt ∧ (no t).toInt ≤ 9999)) (hs : k = 1 → (t : Int) = 6 + (tx 1).toInt ∧ ((2 ≤ (bf t).toInt ∧ (bf t).toInt ≤ 200) ∧ (bt t).toInt ≤ 200 ∧ 1 ≤ (lf t).toInt ∧ (lt t).toInt ≤ 10)) : TX tx2 no bf bt lf lt := by
  have t0 := h.1 k hk
  refine ⟨fun j hj => ?_, fun j hj => ?_, fun j hj => ?_⟩
  · by_cases q : j = k
    · rw [e, up_eq q]; omega
    · rw [e, up_ne q]; exact h.1 j hj
  · by_cases q : k = 0
    · subst q
      rw [e, up_eq rfl] at hj
      obtain ⟨n1, n2⟩ := hn rfl
      by_cases z : (j : Int) < (tx 0).toInt
      · exact h.2.1 j z
      · rw [show j = t by omega]; exact n2
    · rw [e, up_ne (fun z => q z.symm)] at hj; exact h.2.1 j hj
  · by_cases q : k = 1
    · subst q
      rw [e, up_eq rfl] at hj
      obtain ⟨n1, n2⟩ := hs rfl
      by_cases z : (j : Int) < (tx 1).toInt
      · exact h.2.2 j z
      · rw [show 6 + j = t by omega]; exact n2
    · rw [e, up_ne (fun z => q z.symm)] at hj; exact h.2.2 j hj

