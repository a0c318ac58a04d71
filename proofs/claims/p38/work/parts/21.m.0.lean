/-! ===== a new model (mine) ===== -/
def F0M : Nat → Nat → Int32 := fun k => match k with
  | 0 => upd (fun _ => 0) 7515 20
  | _ => fun _ => 0
def G0M : Nat → Nat → Int64 := fun _ _ => 0
theorem TO_0M : TO (F0M 0) := by
  have e : ∀ n, n ≠ 7515 → F0M 0 n = 0 := fun n hn => by
    show upd (fun _ => 0) 7515 20 n = 0
    rw [up_ne hn]
  have e1 : F0M 0 7515 = 20 := by
    show upd (fun _ => 0) 7515 20 7515 = 20
    rw [up_eq rfl]
  refine ⟨fun n hn => ?_, fun s hs h => ?_, fun w hw h => ?_⟩
  · by_cases q : n = 7515
    · rw [q, e1]; unfold trow; decide
    · rw [e n q, show (0 : Int32).toInt = 0 by decide]; unfold trow; omega
  · rw [e 0 (by decide), show (0 : Int32).toInt = 0 by decide] at h; omega
  · rw [e 1 (by decide), show (0 : Int32).toInt = 0 by decide] at h; omega
theorem LB_0M : LB (fun _ => 0) := fun _ _ => (by decide : -100000 ≤ (0 : Int32).toInt ∧ (0 : Int32).toInt ≤ 100000)
theorem WG_0M : WG (fun _ => 0) := fun _ _ => (by decide : 0 ≤ (0 : Int32).toInt ∧ (0 : Int32).toInt ≤ 99999)
theorem TX_0M : TX (fun _ => 0) (fun _ => 0) (fun _ => 0) (fun _ => 0) (fun _ => 0) (fun _ => 0) := ⟨fun _ _ => (by decide : 0 ≤ (0 : Int32).toInt ∧ (0 : Int32).toInt ≤ 6), fun k h => by rw [show (0 : Int32).toInt = 0 by decide] at h; omega, fun k h => by rw [show (0 : Int32).toInt = 0 by decide] at h; omega⟩
theorem TC_0M : TC (fun _ => 0) (fun _ => 0) (fun _ => 0) (fun _ => 0) := fun t _ h => by
  unfold okT at h
  rw [show (0 : Int32).toInt = 0 by decide] at h; omega
theorem TO_00 : TO (fun _ => 0) := by
  refine ⟨fun n hn => ?_, fun s hs h => ?_, fun w hw h => ?_⟩
  · rw [show (0 : Int32).toInt = 0 by decide]; unfold trow; omega
  · rw [show (0 : Int32).toInt = 0 by decide] at h; omega
  · rw [show (0 : Int32).toInt = 0 by decide] at h; omega
theorem IMG_0M : IMG (fun _ => 0) := fun _ _ => TO_00

