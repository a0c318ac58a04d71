abbrev STO : List String := ["DimStars$Parser", "DimStars$Parser", "DimStars$Parser", "DimStars$Parser", "DimStars$Parser", "DimStars$Parser", "DimStars$Parser", "DimStars$Parser", "DimStars$Parser"]
abbrev STI : List Nat := [15, 50, 52, 93, 95, 97, 121, 151, 158]
abbrev STM (i : Nat) : Term := .string (STO.getD i "") (STI.getD i 0)
set_option maxRecDepth 100000 in
set_option maxHeartbeats 4000000 in
theorem sz_ORD : ∀ j : Nat, j < 96 → Cond.eq (.elem (.static "DimStars" "SEASON_ORDERS" "[I") (.int (Int32.ofNat j))) (.int (ORD.getD j 0)) ∈ flatC (Jvm.Cond.and given_1 narrow_1) := by decide +kernel
set_option maxRecDepth 100000 in
set_option maxHeartbeats 4000000 in
theorem sz_SHF : ∀ j : Nat, j < 7 → Cond.eq (.elem (.static "DimStars" "SHIFTS" "[I") (.int (Int32.ofNat j))) (.int (SHF.getD j 0)) ∈ flatC (Jvm.Cond.and given_1 narrow_1) := by decide +kernel
set_option maxRecDepth 100000 in
set_option maxHeartbeats 4000000 in
theorem sz_e1 : ∀ j : Nat, j < 26 → Cond.eq (.elem (.field (.string "DimStars$Parser" 50) "java/lang/String" "value" "[B") (.int (Int32.ofNat j))) (.int (([104, 111, 117, 114, 32, 115, 101, 97, 115, 111, 110, 32, 115, 116, 97, 114, 32, 99, 101, 108, 108, 32, 115, 105, 122, 101] : List Int32).getD j 0)) ∈ (flatC (Jvm.Cond.and given_1 narrow_1)).drop 186 := by decide +kernel
set_option maxRecDepth 100000 in
set_option maxHeartbeats 4000000 in
theorem sz_e2 : ∀ j : Nat, j < 50 → Cond.eq (.elem (.field (.string "DimStars$Parser" 52) "java/lang/String" "value" "[B") (.int (Int32.ofNat j))) (.int (([98, 101, 97, 116, 32, 108, 111, 110, 103, 32, 100, 101, 101, 112, 32, 115, 99, 111, 114, 101, 32, 100, 105, 112, 115, 32, 111, 100, 100, 32, 115, 104, 97, 112, 101, 32, 115, 97, 109, 101, 32, 108, 97, 116, 101, 32, 115, 105, 122, 101] : List Int32).getD j 0)) ∈ (flatC (Jvm.Cond.and given_1 narrow_1)).drop 217 := by decide +kernel
set_option maxRecDepth 100000 in
set_option maxHeartbeats 4000000 in
theorem sz_e3 : ∀ j : Nat, j < 12 → Cond.eq (.elem (.field (.string "DimStars$Parser" 93) "java/lang/String" "value" "[B") (.int (Int32.ofNat j))) (.int (([98, 114, 105, 103, 104, 116, 32, 110, 111, 105, 115, 101] : List Int32).getD j 0)) ∈ (flatC (Jvm.Cond.and given_1 narrow_1)).drop 273 := by decide +kernel
set_option maxRecDepth 100000 in
set_option maxHeartbeats 4000000 in
theorem sz_e4 : ∀ j : Nat, j < 20 → Cond.eq (.elem (.field (.string "DimStars$Parser" 95) "java/lang/String" "value" "[B") (.int (Int32.ofNat j))) (.int (([98, 101, 97, 116, 32, 108, 111, 110, 103, 32, 108, 101, 97, 115, 116, 32, 108, 105, 110, 101] : List Int32).getD j 0)) ∈ (flatC (Jvm.Cond.and given_1 narrow_1)).drop 292 := by decide +kernel
set_option maxRecDepth 100000 in
set_option maxHeartbeats 4000000 in
theorem sz_e5 : ∀ j : Nat, j < 28 → Cond.eq (.elem (.field (.string "DimStars$Parser" 97) "java/lang/String" "value" "[B") (.int (Int32.ofNat j))) (.int (([119, 111, 114, 108, 100, 32, 112, 97, 105, 114, 32, 115, 112, 111, 116, 32, 103, 108, 97, 115, 115, 32, 99, 104, 97, 110, 99, 101] : List Int32).getD j 0)) ∈ (flatC (Jvm.Cond.and given_1 narrow_1)).drop 320 := by decide +kernel
set_option maxRecDepth 100000 in
set_option maxHeartbeats 4000000 in
theorem sz_e6 : ∀ j : Nat, j < 2 → Cond.eq (.elem (.field (.string "DimStars$Parser" 121) "java/lang/String" "value" "[B") (.int (Int32.ofNat j))) (.int (([105, 102] : List Int32).getD j 0)) ∈ (flatC (Jvm.Cond.and given_1 narrow_1)).drop 357 := by decide +kernel
set_option maxRecDepth 100000 in
set_option maxHeartbeats 4000000 in
theorem sz_e7 : ∀ j : Nat, j < 6 → Cond.eq (.elem (.field (.string "DimStars$Parser" 151) "java/lang/String" "value" "[B") (.int (Int32.ofNat j))) (.int (([97, 110, 100, 32, 111, 114] : List Int32).getD j 0)) ∈ (flatC (Jvm.Cond.and given_1 narrow_1)).drop 383 := by decide +kernel
set_option maxRecDepth 100000 in
set_option maxHeartbeats 4000000 in
theorem sz_e8 : ∀ j : Nat, j < 3 → Cond.eq (.elem (.field (.string "DimStars$Parser" 158) "java/lang/String" "value" "[B") (.int (Int32.ofNat j))) (.int (([110, 111, 116] : List Int32).getD j 0)) ∈ (flatC (Jvm.Cond.and given_1 narrow_1)).drop 369 := by decide +kernel
theorem sz_el : ∀ i : Nat, i < 9 → ∀ j : Nat, j < SLEN.getD i 0 → Cond.eq (.elem (.field (STM i) "java/lang/String" "value" "[B") (.int (Int32.ofNat j))) (.int ((SBYT.getD i []).getD j 0)) ∈ flatC (Jvm.Cond.and given_1 narrow_1) := fun i hi j hj => match i, hi, j, hj with
  | 0, _, j, hj => absurd hj (Nat.not_lt_zero j)
  | 1, _, j, hj => List.mem_of_mem_drop (sz_e1 j hj)
  | 2, _, j, hj => List.mem_of_mem_drop (sz_e2 j hj)
  | 3, _, j, hj => List.mem_of_mem_drop (sz_e3 j hj)
  | 4, _, j, hj => List.mem_of_mem_drop (sz_e4 j hj)
  | 5, _, j, hj => List.mem_of_mem_drop (sz_e5 j hj)
  | 6, _, j, hj => List.mem_of_mem_drop (sz_e6 j hj)
  | 7, _, j, hj => List.mem_of_mem_drop (sz_e7 j hj)
  | 8, _, j, hj => List.mem_of_mem_drop (sz_e8 j hj)
  | k + 9, hi, _, _ => absurd hi (by omega)
set_option maxRecDepth 100000 in
set_option maxHeartbeats 4000000 in
theorem sz_ne : ∀ i : Nat, i < 9 → ∀ j : Nat, j < 9 → i ≠ j → (Cond.not (Cond.eq (STM i) (STM j)) ∈ flatC (Jvm.Cond.and given_1 narrow_1) ∨ Cond.not (Cond.eq (STM j) (STM i)) ∈ flatC (Jvm.Cond.and given_1 narrow_1)) := by decide +kernel
