abbrev STO : List String := ["DimStars$Parser", "DimStars$Parser", "DimStars$Parser", "DimStars$Parser", "DimStars$Parser", "DimStars$Parser", "DimStars$Parser", "DimStars$Parser", "DimStars$Parser"]
abbrev STI : List Nat := [15, 50, 52, 93, 95, 97, 121, 151, 158]
abbrev STM (i : Nat) : Term := .string (STO.getD i "") (STI.getD i 0)
set_option maxRecDepth 100000 in
set_option maxHeartbeats 4000000 in
theorem sz_ORD : ∀ j : Nat, j < 96 → Cond.eq (.elem (.static "DimStars" "SEASON_ORDERS" "[I") (.int (Int32.ofNat j))) (.int (ORD.getD j 0)) ∈ flatC (Jvm.Cond.and given_1 narrow_1) := by decide +kernel
set_option maxRecDepth 100000 in
set_option maxHeartbeats 4000000 in
theorem sz_SHF : ∀ j : Nat, j < 7 → Cond.eq (.elem (.static "DimStars" "SHIFTS" "[I") (.int (Int32.ofNat j))) (.int (SHF.getD j 0)) ∈ flatC (Jvm.Cond.and given_1 narrow_1) := by decide +kernel
set_option maxRecDepth 100000 in
set_option maxHeartbeats 4000000 in
theorem sz_el : ∀ i : Nat, i < 9 → ∀ j : Nat, j < SLEN.getD i 0 → Cond.eq (.elem (.field (STM i) "java/lang/String" "value" "[B") (.int (Int32.ofNat j))) (.int ((SBYT.getD i []).getD j 0)) ∈ flatC (Jvm.Cond.and given_1 narrow_1) := by decide +kernel
set_option maxRecDepth 100000 in
set_option maxHeartbeats 4000000 in
theorem sz_ne : ∀ i : Nat, i < 9 → ∀ j : Nat, j < 9 → i ≠ j → (Cond.not (Cond.eq (STM i) (STM j)) ∈ flatC (Jvm.Cond.and given_1 narrow_1) ∨ Cond.not (Cond.eq (STM j) (STM i)) ∈ flatC (Jvm.Cond.and given_1 narrow_1)) := by decide +kernel
