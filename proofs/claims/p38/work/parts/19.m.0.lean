/-! ===== a text that is not counted yet (mine) ===== -/
def UNT (tx : Nat → Int32) (t : Nat) : Prop := (tx 0).toInt ≤ (t : Int) ∧ (t < 6 ∨ (tx 1).toInt ≤ (t : Int) - 6)
theorem TX_fr {tx no bf bt lf lt no2 bf2 bt2 lf2 lt2 : Nat → Int32} {t : Nat} (h : TX tx no bf bt lf lt) (hu : UNT tx t) (e1 : ∀ k, k ≠ t → no2 k = no k) (e2 : ∀ k, k ≠ t → bf2 k = bf k) (e3 : ∀ k, k ≠ t → bt2 k = bt k) (e4 : ∀ k, k ≠ t → lf2 k = lf k) (e5 : ∀ k, k ≠ t → lt2 k = lt k) : TX tx no2 bf2 bt2 lf2 lt2 := by
  refine ⟨h.1, fun k hk => ?_, fun k hk => ?_⟩
  · rw [e1 k (by have := hu.1; omega)]; exact h.2.1 k hk
  · have hn : 6 + k ≠ t := by have := hu.2; omega
    rw [e2 _ hn, e3 _ hn, e4 _ hn, e5 _ hn]; exact h.2.2 k hk

