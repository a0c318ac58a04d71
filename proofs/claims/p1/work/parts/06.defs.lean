abbrev dsF (b : Nat → Nat) : List Value := (.ref (b 0) :: .ref (b 1) :: .ref (b 2) :: .ref (b 3) :: .ref (b 4) :: .int 0 :: .int 0 :: .int 0 :: .ref (b 5) :: .ref (b 6) :: .ref (b 7) :: .ref (b 8) :: .ref (b 9) :: .ref (b 10) :: .ref (b 11) :: .ref (b 12) :: .ref (b 13) :: .int 1 :: .ref (b 14) :: .ref (b 15) :: [])
abbrev skF (b : Nat → Nat) : List Value := (.int 0 :: .ref (b 16) :: .int 0 :: .ref (b 17) :: .int 0 :: .ref (b 18) :: .ref (b 19) :: .int 20 :: .ref (b 20) :: .ref (b 21) :: .int 0 :: .ref (b 22) :: .int 0 :: [])
abbrev paF (Z b : Nat → Nat) : List Value := [.ref (b 23), .int 0, .int 0, .int 0, .int 0, .int 0, .int 0, .int 0, .int 0, .ref (Z 0), .ref (b 24), .int 0]
abbrev txF (b : Nat → Nat) : List Value := (.int 0 :: .int 0 :: .int 0 :: .int 0 :: .int 0 :: .int 0 :: .int 0 :: .int 0 :: .ref (b 25) :: .ref (b 26) :: .ref (b 27) :: .ref (b 28) :: .ref (b 29) :: .int 0 :: [])
abbrev moF (a : Nat → Nat) : List Value := (.ref (a 0) :: .ref (a 1) :: .ref (a 2) :: .int 0 :: .ref (a 3) :: .ref (a 4) :: .ref (a 5) :: .ref (a 6) :: .ref (a 7) :: .ref (a 8) :: .ref (a 9) :: .ref (a 10) :: .ref (a 11) :: .ref (a 12) :: .ref (a 13) :: .ref (a 14) :: .int 0 :: .int 0 :: .int 0 :: .int 0 :: .int 0 :: .int 0 :: .int 0 :: .ref (a 15) :: .int 0 :: .ref (a 16) :: .int 0 :: .ref (a 17) :: .ref (a 18) :: .int 0 :: .long 0 :: .long 0 :: .int 0 :: .long 0 :: .int 0 :: .int 0 :: .int 0 :: .long 0 :: .long 0 :: .int 0 :: .ref (a 19) :: .ref (a 20) :: .ref (a 21) :: .ref (a 22) :: .ref (a 23) :: .ref (a 24) :: .ref (a 25) :: .ref (a 26) :: .ref (a 27) :: [])
abbrev tolF : Nat → Int32 := upd (fun _ => 0) 7515 20
def sp_star (p0 p1 p2 : Int32) : Int32 := if (1 ≤ p0.toInt ∧ p0.toInt ≤ 999) ∧ (0 ≤ p1.toInt ∧ p1.toInt ≤ 7) ∧ (1 ≤ p2.toInt ∧ p2.toInt ≤ 1000) then 0 else -1
def sp_wide (p0 : Int32) : Int32 := if (0 ≤ p0.toInt ∧ p0.toInt ≤ 50) then 20 else -1
def sp_order (p0 : Int32) : Int32 := if (0 ≤ p0.toInt ∧ p0.toInt ≤ 23) then 0 else -1
def sp_mask (p0 p1 p2 : Int32) : Int32 := if (0 ≤ p0.toInt ∧ p0.toInt ≤ 7) ∧ (0 ≤ p1.toInt ∧ p1.toInt ≤ 12) ∧ (0 ≤ p2.toInt ∧ p2.toInt ≤ 30000) then 1 else 0
def sp_end (p0 : Int32) : Int32 := if p0.toInt = 0 then 0 else -1
def sp_nights (p0 p1 : Int32) : Int32 := if (0 ≤ p0.toInt ∧ p0.toInt ≤ 9999) ∧ (0 ≤ p1.toInt ∧ p1.toInt ≤ 1) then 0 else -1
def sp_count (p0 : Int32) : Int32 := if (0 ≤ p0.toInt ∧ p0.toInt ≤ 7) then 0 else -1
def sp_text (p0 : Int32) : Int32 := if (0 ≤ p0.toInt ∧ p0.toInt ≤ 2) then -3 else -1
def sp_image (p0 : Int32) : Int32 := if (0 ≤ p0.toInt ∧ p0.toInt ≤ 3) then 0 else -1
