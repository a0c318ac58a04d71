set_option maxHeartbeats 2000000 in
theorem ps_sky {Y : Nat → ClassId} {Z : Nat → Nat} {T : RT} {g : GN} {q : GQ} {ws : va_W} {A : Nat → Prop} {a1 a3 a5 a6 a8 a9 a11 b : Nat} {rest : va_W} (hT : TW Y Z T g q ws) (hD : va_D A (ws ++ ([(a1, .inl (Y 7, 12, .inr (.inr (.inr (.inr (fun _ => none)))))), (a3, .inl (Y 8, 40, .inr (.inr (.inr (.inr (fun _ => none)))))), (a5, .inl (Y 0, 12, .inl (fun _ => 0))), (a6, .inl (Y 0, 12, .inl (fun _ => 0))), (a8, .inl (Y 0, 8, .inl (fun _ => 0))), (a9, .inl (Y 0, 8, .inl (fun _ => 0))), (a11, .inl (Y 2, 400, .inl (fun _ => 0))), (b, .inr (6, [.int 0, .ref a1, .int 0, .ref a3, .int 0, .ref a5, .ref a6, .int 20, .ref a8, .ref a9, .int 0, .ref a11, .int 0]))] ++ rest))) : ∃ (T1 : RT) (g1 : GN) (q1 : GQ), TW Y Z T1 g1 q1 (ws ++ [(a1, .inl (Y 7, 12, .inr (.inr (.inr (.inr (fun _ => none)))))), (a3, .inl (Y 8, 40, .inr (.inr (.inr (.inr (fun _ => none)))))), (a5, .inl (Y 0, 12, .inl (fun _ => 0))), (a6, .inl (Y 0, 12, .inl (fun _ => 0))), (a8, .inl (Y 0, 8, .inl (fun _ => 0))), (a9, .inl (Y 0, 8, .inl (fun _ => 0))), (a11, .inl (Y 2, 400, .inl (fun _ => 0))), (b, .inr (6, [.int 0, .ref a1, .int 0, .ref a3, .int 0, .ref a5, .ref a6, .int 20, .ref a8, .ref a9, .int 0, .ref a11, .int 0]))]) ∧ TLe T T1 ∧ T1 b = (2, 0, 0) ∧ (∀ a, (T a).1 ≠ 0 → g1 a = g a) ∧ (∀ a, (T a).1 ≠ 0 → q1 a = q a) ∧ g1 b = (fun n => if n = 7 then 20 else 0) := by
  have d0 : va_D A ((ws) ++ (a1, .inl (Y 7, 12, .inr (.inr (.inr (.inr (fun _ => none)))))) :: ([(a3, .inl (Y 8, 40, .inr (.inr (.inr (.inr (fun _ => none)))))), (a5, .inl (Y 0, 12, .inl (fun _ => 0))), (a6, .inl (Y 0, 12, .inl (fun _ => 0))), (a8, .inl (Y 0, 8, .inl (fun _ => 0))), (a9, .inl (Y 0, 8, .inl (fun _ => 0))), (a11, .inl (Y 2, 400, .inl (fun _ => 0))), (b, .inr (6, [.int 0, .ref a1, .int 0, .ref a3, .int 0, .ref a5, .ref a6, .int 20, .ref a8, .ref a9, .int 0, .ref a11, .int 0]))] ++ rest)) := by simpa using hD
  have i0 := tw_in d0
  have f0 := tw_fr hT i0
  have l0 := upT_le (r := (17, 0, 0)) f0
  have t0 : TW Y Z (upT T a1 (17, 0, 0)) g (qnew q a1 (fun _ => none)) ((ws) ++ [(a1, .inl (Y 7, 12, .inr (.inr (.inr (.inr (fun _ => none))))))]) := tw_push hT f0 (fun _ _ => rfl) (fun _ h => qnew_ne h) (show Sh17 Y Z (upT T a1 (17, 0, 0)) (g a1) ((qnew q a1 (fun _ => none)) a1) 0 0 _ from ⟨_, rfl, fun n => by rw [qnew_eq], fun _ _ h => by cases h⟩) i0
  have d1 : va_D A (((ws) ++ [(a1, .inl (Y 7, 12, .inr (.inr (.inr (.inr (fun _ => none))))))]) ++ (a3, .inl (Y 8, 40, .inr (.inr (.inr (.inr (fun _ => none)))))) :: ([(a5, .inl (Y 0, 12, .inl (fun _ => 0))), (a6, .inl (Y 0, 12, .inl (fun _ => 0))), (a8, .inl (Y 0, 8, .inl (fun _ => 0))), (a9, .inl (Y 0, 8, .inl (fun _ => 0))), (a11, .inl (Y 2, 400, .inl (fun _ => 0))), (b, .inr (6, [.int 0, .ref a1, .int 0, .ref a3, .int 0, .ref a5, .ref a6, .int 20, .ref a8, .ref a9, .int 0, .ref a11, .int 0]))] ++ rest)) := by simpa using hD
  have i1 := tw_in d1
  have f1 := tw_fr t0 i1
  have l1 := upT_le (r := (18, 0, 0)) f1
  have t1 : TW Y Z (upT (upT T a1 (17, 0, 0)) a3 (18, 0, 0)) g (qnew q a1 (fun _ => none)) (((ws) ++ [(a1, .inl (Y 7, 12, .inr (.inr (.inr (.inr (fun _ => none))))))]) ++ [(a3, .inl (Y 8, 40, .inr (.inr (.inr (.inr (fun _ => none))))))]) := tw_push t0 f1 (fun _ _ => rfl) (fun _ _ => rfl) (show Sh18 Y Z (upT (upT T a1 (17, 0, 0)) a3 (18, 0, 0)) (g a3) ((qnew q a1 (fun _ => none)) a3) 0 0 _ from ⟨_, rfl, fun _ _ h => by cases h⟩) i1
  have d2 : va_D A ((((ws) ++ [(a1, .inl (Y 7, 12, .inr (.inr (.inr (.inr (fun _ => none))))))]) ++ [(a3, .inl (Y 8, 40, .inr (.inr (.inr (.inr (fun _ => none))))))]) ++ (a5, .inl (Y 0, 12, .inl (fun _ => 0))) :: ([(a6, .inl (Y 0, 12, .inl (fun _ => 0))), (a8, .inl (Y 0, 8, .inl (fun _ => 0))), (a9, .inl (Y 0, 8, .inl (fun _ => 0))), (a11, .inl (Y 2, 400, .inl (fun _ => 0))), (b, .inr (6, [.int 0, .ref a1, .int 0, .ref a3, .int 0, .ref a5, .ref a6, .int 20, .ref a8, .ref a9, .int 0, .ref a11, .int 0]))] ++ rest)) := by simpa using hD
  have i2 := tw_in d2
  have f2 := tw_fr t1 i2
  have l2 := upT_le (r := (14, 0, 0)) f2
  have t2 : TW Y Z (upT (upT (upT T a1 (17, 0, 0)) a3 (18, 0, 0)) a5 (14, 0, 0)) (gnew g a5 (fun _ => 0)) (qnew q a1 (fun _ => none)) ((((ws) ++ [(a1, .inl (Y 7, 12, .inr (.inr (.inr (.inr (fun _ => none))))))]) ++ [(a3, .inl (Y 8, 40, .inr (.inr (.inr (.inr (fun _ => none))))))]) ++ [(a5, .inl (Y 0, 12, .inl (fun _ => 0)))]) := tw_push t1 f2 (fun _ h => gnew_ne h) (fun _ _ => rfl) (show Sh14 Y Z (upT (upT (upT T a1 (17, 0, 0)) a3 (18, 0, 0)) a5 (14, 0, 0)) ((gnew g a5 (fun _ => 0)) a5) ((qnew q a1 (fun _ => none)) a5) 0 0 _ from ⟨_, rfl, fun n => by rw [gnew_eq]⟩) i2
  have d3 : va_D A (((((ws) ++ [(a1, .inl (Y 7, 12, .inr (.inr (.inr (.inr (fun _ => none))))))]) ++ [(a3, .inl (Y 8, 40, .inr (.inr (.inr (.inr (fun _ => none))))))]) ++ [(a5, .inl (Y 0, 12, .inl (fun _ => 0)))]) ++ (a6, .inl (Y 0, 12, .inl (fun _ => 0))) :: ([(a8, .inl (Y 0, 8, .inl (fun _ => 0))), (a9, .inl (Y 0, 8, .inl (fun _ => 0))), (a11, .inl (Y 2, 400, .inl (fun _ => 0))), (b, .inr (6, [.int 0, .ref a1, .int 0, .ref a3, .int 0, .ref a5, .ref a6, .int 20, .ref a8, .ref a9, .int 0, .ref a11, .int 0]))] ++ rest)) := by simpa using hD
  have i3 := tw_in d3
  have f3 := tw_fr t2 i3
  have l3 := upT_le (r := (14, 0, 1)) f3
  have t3 : TW Y Z (upT (upT (upT (upT T a1 (17, 0, 0)) a3 (18, 0, 0)) a5 (14, 0, 0)) a6 (14, 0, 1)) (gnew (gnew g a5 (fun _ => 0)) a6 (fun _ => 0)) (qnew q a1 (fun _ => none)) (((((ws) ++ [(a1, .inl (Y 7, 12, .inr (.inr (.inr (.inr (fun _ => none))))))]) ++ [(a3, .inl (Y 8, 40, .inr (.inr (.inr (.inr (fun _ => none))))))]) ++ [(a5, .inl (Y 0, 12, .inl (fun _ => 0)))]) ++ [(a6, .inl (Y 0, 12, .inl (fun _ => 0)))]) := tw_push t2 f3 (fun _ h => gnew_ne h) (fun _ _ => rfl) (show Sh14 Y Z (upT (upT (upT (upT T a1 (17, 0, 0)) a3 (18, 0, 0)) a5 (14, 0, 0)) a6 (14, 0, 1)) ((gnew (gnew g a5 (fun _ => 0)) a6 (fun _ => 0)) a6) ((qnew q a1 (fun _ => none)) a6) 0 1 _ from ⟨_, rfl, fun n => by rw [gnew_eq]⟩) i3
  have d4 : va_D A ((((((ws) ++ [(a1, .inl (Y 7, 12, .inr (.inr (.inr (.inr (fun _ => none))))))]) ++ [(a3, .inl (Y 8, 40, .inr (.inr (.inr (.inr (fun _ => none))))))]) ++ [(a5, .inl (Y 0, 12, .inl (fun _ => 0)))]) ++ [(a6, .inl (Y 0, 12, .inl (fun _ => 0)))]) ++ (a8, .inl (Y 0, 8, .inl (fun _ => 0))) :: ([(a9, .inl (Y 0, 8, .inl (fun _ => 0))), (a11, .inl (Y 2, 400, .inl (fun _ => 0))), (b, .inr (6, [.int 0, .ref a1, .int 0, .ref a3, .int 0, .ref a5, .ref a6, .int 20, .ref a8, .ref a9, .int 0, .ref a11, .int 0]))] ++ rest)) := by simpa using hD
  have i4 := tw_in d4
  have f4 := tw_fr t3 i4
  have l4 := upT_le (r := (12, 8, 0)) f4
  have t4 : TW Y Z (upT (upT (upT (upT (upT T a1 (17, 0, 0)) a3 (18, 0, 0)) a5 (14, 0, 0)) a6 (14, 0, 1)) a8 (12, 8, 0)) (gnew (gnew g a5 (fun _ => 0)) a6 (fun _ => 0)) (qnew q a1 (fun _ => none)) ((((((ws) ++ [(a1, .inl (Y 7, 12, .inr (.inr (.inr (.inr (fun _ => none))))))]) ++ [(a3, .inl (Y 8, 40, .inr (.inr (.inr (.inr (fun _ => none))))))]) ++ [(a5, .inl (Y 0, 12, .inl (fun _ => 0)))]) ++ [(a6, .inl (Y 0, 12, .inl (fun _ => 0)))]) ++ [(a8, .inl (Y 0, 8, .inl (fun _ => 0)))]) := tw_push t3 f4 (fun _ _ => rfl) (fun _ _ => rfl) (show Sh12 Y Z (upT (upT (upT (upT (upT T a1 (17, 0, 0)) a3 (18, 0, 0)) a5 (14, 0, 0)) a6 (14, 0, 1)) a8 (12, 8, 0)) ((gnew (gnew g a5 (fun _ => 0)) a6 (fun _ => 0)) a8) ((qnew q a1 (fun _ => none)) a8) 8 0 _ from ⟨_, rfl⟩) i4
  have d5 : va_D A (((((((ws) ++ [(a1, .inl (Y 7, 12, .inr (.inr (.inr (.inr (fun _ => none))))))]) ++ [(a3, .inl (Y 8, 40, .inr (.inr (.inr (.inr (fun _ => none))))))]) ++ [(a5, .inl (Y 0, 12, .inl (fun _ => 0)))]) ++ [(a6, .inl (Y 0, 12, .inl (fun _ => 0)))]) ++ [(a8, .inl (Y 0, 8, .inl (fun _ => 0)))]) ++ (a9, .inl (Y 0, 8, .inl (fun _ => 0))) :: ([(a11, .inl (Y 2, 400, .inl (fun _ => 0))), (b, .inr (6, [.int 0, .ref a1, .int 0, .ref a3, .int 0, .ref a5, .ref a6, .int 20, .ref a8, .ref a9, .int 0, .ref a11, .int 0]))] ++ rest)) := by simpa using hD
  have i5 := tw_in d5
  have f5 := tw_fr t4 i5
  have l5 := upT_le (r := (12, 8, 0)) f5
  have t5 : TW Y Z (upT (upT (upT (upT (upT (upT T a1 (17, 0, 0)) a3 (18, 0, 0)) a5 (14, 0, 0)) a6 (14, 0, 1)) a8 (12, 8, 0)) a9 (12, 8, 0)) (gnew (gnew g a5 (fun _ => 0)) a6 (fun _ => 0)) (qnew q a1 (fun _ => none)) (((((((ws) ++ [(a1, .inl (Y 7, 12, .inr (.inr (.inr (.inr (fun _ => none))))))]) ++ [(a3, .inl (Y 8, 40, .inr (.inr (.inr (.inr (fun _ => none))))))]) ++ [(a5, .inl (Y 0, 12, .inl (fun _ => 0)))]) ++ [(a6, .inl (Y 0, 12, .inl (fun _ => 0)))]) ++ [(a8, .inl (Y 0, 8, .inl (fun _ => 0)))]) ++ [(a9, .inl (Y 0, 8, .inl (fun _ => 0)))]) := tw_push t4 f5 (fun _ _ => rfl) (fun _ _ => rfl) (show Sh12 Y Z (upT (upT (upT (upT (upT (upT T a1 (17, 0, 0)) a3 (18, 0, 0)) a5 (14, 0, 0)) a6 (14, 0, 1)) a8 (12, 8, 0)) a9 (12, 8, 0)) ((gnew (gnew g a5 (fun _ => 0)) a6 (fun _ => 0)) a9) ((qnew q a1 (fun _ => none)) a9) 8 0 _ from ⟨_, rfl⟩) i5
  have d6 : va_D A ((((((((ws) ++ [(a1, .inl (Y 7, 12, .inr (.inr (.inr (.inr (fun _ => none))))))]) ++ [(a3, .inl (Y 8, 40, .inr (.inr (.inr (.inr (fun _ => none))))))]) ++ [(a5, .inl (Y 0, 12, .inl (fun _ => 0)))]) ++ [(a6, .inl (Y 0, 12, .inl (fun _ => 0)))]) ++ [(a8, .inl (Y 0, 8, .inl (fun _ => 0)))]) ++ [(a9, .inl (Y 0, 8, .inl (fun _ => 0)))]) ++ (a11, .inl (Y 2, 400, .inl (fun _ => 0))) :: ([(b, .inr (6, [.int 0, .ref a1, .int 0, .ref a3, .int 0, .ref a5, .ref a6, .int 20, .ref a8, .ref a9, .int 0, .ref a11, .int 0]))] ++ rest)) := by simpa using hD
  have i6 := tw_in d6
  have f6 := tw_fr t5 i6
  have l6 := upT_le (r := (16, 400, 0)) f6
  have t6 : TW Y Z (upT (upT (upT (upT (upT (upT (upT T a1 (17, 0, 0)) a3 (18, 0, 0)) a5 (14, 0, 0)) a6 (14, 0, 1)) a8 (12, 8, 0)) a9 (12, 8, 0)) a11 (16, 400, 0)) (gnew (gnew g a5 (fun _ => 0)) a6 (fun _ => 0)) (qnew q a1 (fun _ => none)) ((((((((ws) ++ [(a1, .inl (Y 7, 12, .inr (.inr (.inr (.inr (fun _ => none))))))]) ++ [(a3, .inl (Y 8, 40, .inr (.inr (.inr (.inr (fun _ => none))))))]) ++ [(a5, .inl (Y 0, 12, .inl (fun _ => 0)))]) ++ [(a6, .inl (Y 0, 12, .inl (fun _ => 0)))]) ++ [(a8, .inl (Y 0, 8, .inl (fun _ => 0)))]) ++ [(a9, .inl (Y 0, 8, .inl (fun _ => 0)))]) ++ [(a11, .inl (Y 2, 400, .inl (fun _ => 0)))]) := tw_push t5 f6 (fun _ _ => rfl) (fun _ _ => rfl) (show Sh16 Y Z (upT (upT (upT (upT (upT (upT (upT T a1 (17, 0, 0)) a3 (18, 0, 0)) a5 (14, 0, 0)) a6 (14, 0, 1)) a8 (12, 8, 0)) a9 (12, 8, 0)) a11 (16, 400, 0)) ((gnew (gnew g a5 (fun _ => 0)) a6 (fun _ => 0)) a11) ((qnew q a1 (fun _ => none)) a11) 400 0 _ from ⟨_, rfl, fun _ => by decide⟩) i6
  have d7 : va_D A (((((((((ws) ++ [(a1, .inl (Y 7, 12, .inr (.inr (.inr (.inr (fun _ => none))))))]) ++ [(a3, .inl (Y 8, 40, .inr (.inr (.inr (.inr (fun _ => none))))))]) ++ [(a5, .inl (Y 0, 12, .inl (fun _ => 0)))]) ++ [(a6, .inl (Y 0, 12, .inl (fun _ => 0)))]) ++ [(a8, .inl (Y 0, 8, .inl (fun _ => 0)))]) ++ [(a9, .inl (Y 0, 8, .inl (fun _ => 0)))]) ++ [(a11, .inl (Y 2, 400, .inl (fun _ => 0)))]) ++ (b, .inr (6, [.int 0, .ref a1, .int 0, .ref a3, .int 0, .ref a5, .ref a6, .int 20, .ref a8, .ref a9, .int 0, .ref a11, .int 0])) :: ([] ++ rest)) := by simpa using hD
  have i7 := tw_in d7
  have f7 := tw_fr t6 i7
  have l7 := upT_le (r := (2, 0, 0)) f7
  have t7 : TW Y Z (upT (upT (upT (upT (upT (upT (upT (upT T a1 (17, 0, 0)) a3 (18, 0, 0)) a5 (14, 0, 0)) a6 (14, 0, 1)) a8 (12, 8, 0)) a9 (12, 8, 0)) a11 (16, 400, 0)) b (2, 0, 0)) (gnew (gnew (gnew g a5 (fun _ => 0)) a6 (fun _ => 0)) b (fun n => if n = 7 then 20 else 0)) (qnew (qnew q a1 (fun _ => none)) b (fun n => if n = 1 then some a1 else if n = 5 then some a5 else some a6)) (((((((((ws) ++ [(a1, .inl (Y 7, 12, .inr (.inr (.inr (.inr (fun _ => none))))))]) ++ [(a3, .inl (Y 8, 40, .inr (.inr (.inr (.inr (fun _ => none))))))]) ++ [(a5, .inl (Y 0, 12, .inl (fun _ => 0)))]) ++ [(a6, .inl (Y 0, 12, .inl (fun _ => 0)))]) ++ [(a8, .inl (Y 0, 8, .inl (fun _ => 0)))]) ++ [(a9, .inl (Y 0, 8, .inl (fun _ => 0)))]) ++ [(a11, .inl (Y 2, 400, .inl (fun _ => 0)))]) ++ [(b, .inr (6, [.int 0, .ref a1, .int 0, .ref a3, .int 0, .ref a5, .ref a6, .int 20, .ref a8, .ref a9, .int 0, .ref a11, .int 0]))]) := tw_push t6 f7 (fun _ h => gnew_ne h) (fun _ h => qnew_ne h) (show Sh2 Y Z (upT (upT (upT (upT (upT (upT (upT (upT T a1 (17, 0, 0)) a3 (18, 0, 0)) a5 (14, 0, 0)) a6 (14, 0, 1)) a8 (12, 8, 0)) a9 (12, 8, 0)) a11 (16, 400, 0)) b (2, 0, 0)) ((gnew (gnew (gnew g a5 (fun _ => 0)) a6 (fun _ => 0)) b (fun n => if n = 7 then 20 else 0)) b) ((qnew (qnew q a1 (fun _ => none)) b (fun n => if n = 1 then some a1 else if n = 5 then some a5 else some a6)) b) 0 0 _ from ⟨0, a1, 0, a3, 0, a5, a6, 20, a8, a9, 0, a11, 0, rfl, (by decide), (by rw [gnew_eq] <;> rfl), (l7.up (l6.up (l5.up (l4.up (l3.up (l2.up (l1.up upT_eq))))))), (by rw [qnew_eq] <;> rfl), (by decide), (by rw [gnew_eq] <;> rfl), (l7.up (l6.up (l5.up (l4.up (l3.up (l2.up upT_eq)))))), (by decide), (by rw [gnew_eq] <;> rfl), (l7.up (l6.up (l5.up (l4.up (l3.up upT_eq))))), (by rw [qnew_eq] <;> rfl), (l7.up (l6.up (l5.up (l4.up upT_eq)))), (by rw [qnew_eq] <;> rfl), (by decide), (by rw [gnew_eq] <;> rfl), (l7.up (l6.up (l5.up upT_eq))), (l7.up (l6.up upT_eq)), (by decide), (by rw [gnew_eq] <;> rfl), (l7.up upT_eq), (by decide)⟩) i7
  have e : ((((((((ws) ++ [(a1, .inl (Y 7, 12, .inr (.inr (.inr (.inr (fun _ => none))))))]) ++ [(a3, .inl (Y 8, 40, .inr (.inr (.inr (.inr (fun _ => none))))))]) ++ [(a5, .inl (Y 0, 12, .inl (fun _ => 0)))]) ++ [(a6, .inl (Y 0, 12, .inl (fun _ => 0)))]) ++ [(a8, .inl (Y 0, 8, .inl (fun _ => 0)))]) ++ [(a9, .inl (Y 0, 8, .inl (fun _ => 0)))]) ++ [(a11, .inl (Y 2, 400, .inl (fun _ => 0)))]) ++ [(b, .inr (6, [.int 0, .ref a1, .int 0, .ref a3, .int 0, .ref a5, .ref a6, .int 20, .ref a8, .ref a9, .int 0, .ref a11, .int 0]))] = ws ++ [(a1, .inl (Y 7, 12, .inr (.inr (.inr (.inr (fun _ => none)))))), (a3, .inl (Y 8, 40, .inr (.inr (.inr (.inr (fun _ => none)))))), (a5, .inl (Y 0, 12, .inl (fun _ => 0))), (a6, .inl (Y 0, 12, .inl (fun _ => 0))), (a8, .inl (Y 0, 8, .inl (fun _ => 0))), (a9, .inl (Y 0, 8, .inl (fun _ => 0))), (a11, .inl (Y 2, 400, .inl (fun _ => 0))), (b, .inr (6, [.int 0, .ref a1, .int 0, .ref a3, .int 0, .ref a5, .ref a6, .int 20, .ref a8, .ref a9, .int 0, .ref a11, .int 0]))] := by simp
  rw [e] at t7
  have n0 : ∀ a, (T a).1 ≠ 0 → a ≠ a1 := fun a ha e => ha (by have := f0; rw [← e] at this; exact this)
  have n1 : ∀ a, (T a).1 ≠ 0 → a ≠ a3 := fun a ha e => ha (by have := f1; rw [← e, l0 a ha] at this; exact this)
  have n2 : ∀ a, (T a).1 ≠ 0 → a ≠ a5 := fun a ha e => ha (by have := f2; rw [← e, (l0.tr l1) a ha] at this; exact this)
  have n3 : ∀ a, (T a).1 ≠ 0 → a ≠ a6 := fun a ha e => ha (by have := f3; rw [← e, ((l0.tr l1).tr l2) a ha] at this; exact this)
  have n4 : ∀ a, (T a).1 ≠ 0 → a ≠ a8 := fun a ha e => ha (by have := f4; rw [← e, (((l0.tr l1).tr l2).tr l3) a ha] at this; exact this)
  have n5 : ∀ a, (T a).1 ≠ 0 → a ≠ a9 := fun a ha e => ha (by have := f5; rw [← e, ((((l0.tr l1).tr l2).tr l3).tr l4) a ha] at this; exact this)
  have n6 : ∀ a, (T a).1 ≠ 0 → a ≠ a11 := fun a ha e => ha (by have := f6; rw [← e, (((((l0.tr l1).tr l2).tr l3).tr l4).tr l5) a ha] at this; exact this)
  have n7 : ∀ a, (T a).1 ≠ 0 → a ≠ b := fun a ha e => ha (by have := f7; rw [← e, ((((((l0.tr l1).tr l2).tr l3).tr l4).tr l5).tr l6) a ha] at this; exact this)
  exact ⟨_, _, _, t7, (((((((l0.tr l1).tr l2).tr l3).tr l4).tr l5).tr l6).tr l7), upT_eq, (fun a ha => by rw [gnew_ne (n7 a ha), gnew_ne (n3 a ha), gnew_ne (n2 a ha)]), (fun a ha => by rw [qnew_ne (n7 a ha), qnew_ne (n0 a ha)]), gnew_eq⟩
set_option maxHeartbeats 2000000 in
theorem ps_img {Y : Nat → ClassId} {Z : Nat → Nat} {T : RT} {g : GN} {q : GQ} {ws : va_W} {A : Nat → Prop} {b : Nat} {rest : va_W} (hT : TW Y Z T g q ws) (hD : va_D A (ws ++ ([(b, .inl (Y 4, 4, .inr (.inr (.inr (.inr (fun _ => none))))))] ++ rest))) : ∃ (T1 : RT) (g1 : GN) (q1 : GQ), TW Y Z T1 g1 q1 (ws ++ [(b, .inl (Y 4, 4, .inr (.inr (.inr (.inr (fun _ => none))))))]) ∧ TLe T T1 ∧ T1 b = (19, 0, 0) ∧ (∀ a, (T a).1 ≠ 0 → g1 a = g a) ∧ (∀ a, (T a).1 ≠ 0 → q1 a = q a) ∧ q1 b = (fun _ => none) := by
  have d0 : va_D A ((ws) ++ (b, .inl (Y 4, 4, .inr (.inr (.inr (.inr (fun _ => none)))))) :: ([] ++ rest)) := by simpa using hD
  have i0 := tw_in d0
  have f0 := tw_fr hT i0
  have l0 := upT_le (r := (19, 0, 0)) f0
  have t0 : TW Y Z (upT T b (19, 0, 0)) g (qnew q b (fun _ => none)) ((ws) ++ [(b, .inl (Y 4, 4, .inr (.inr (.inr (.inr (fun _ => none))))))]) := tw_push hT f0 (fun _ _ => rfl) (fun _ h => qnew_ne h) (show Sh19 Y Z (upT T b (19, 0, 0)) (g b) ((qnew q b (fun _ => none)) b) 0 0 _ from ⟨_, rfl, fun n => by rw [qnew_eq], fun _ _ h => by cases h⟩) i0
  have e : (ws) ++ [(b, .inl (Y 4, 4, .inr (.inr (.inr (.inr (fun _ => none))))))] = ws ++ [(b, .inl (Y 4, 4, .inr (.inr (.inr (.inr (fun _ => none))))))] := by simp
  rw [e] at t0
  have n0 : ∀ a, (T a).1 ≠ 0 → a ≠ b := fun a ha e => ha (by have := f0; rw [← e] at this; exact this)
  exact ⟨_, _, _, t0, l0, upT_eq, (fun _ _ => rfl), (fun a ha => by rw [qnew_ne (n0 a ha)]), qnew_eq⟩
set_option maxHeartbeats 2000000 in
theorem ps_t20 {Y : Nat → ClassId} {Z : Nat → Nat} {T : RT} {g : GN} {q : GQ} {ws : va_W} {A : Nat → Prop} {b : Nat} {rest : va_W} (hT : TW Y Z T g q ws) (hD : va_D A (ws ++ ([(b, .inl (Y 5, 6, .inr (.inr (.inr (.inr (fun _ => none))))))] ++ rest))) : ∃ (T1 : RT) (g1 : GN) (q1 : GQ), TW Y Z T1 g1 q1 (ws ++ [(b, .inl (Y 5, 6, .inr (.inr (.inr (.inr (fun _ => none))))))]) ∧ TLe T T1 ∧ T1 b = (20, 0, 0) ∧ (∀ a, (T a).1 ≠ 0 → g1 a = g a) ∧ (∀ a, (T a).1 ≠ 0 → q1 a = q a) := by
  have d0 : va_D A ((ws) ++ (b, .inl (Y 5, 6, .inr (.inr (.inr (.inr (fun _ => none)))))) :: ([] ++ rest)) := by simpa using hD
  have i0 := tw_in d0
  have f0 := tw_fr hT i0
  have l0 := upT_le (r := (20, 0, 0)) f0
  have t0 : TW Y Z (upT T b (20, 0, 0)) g q ((ws) ++ [(b, .inl (Y 5, 6, .inr (.inr (.inr (.inr (fun _ => none))))))]) := tw_push hT f0 (fun _ _ => rfl) (fun _ _ => rfl) (show Sh20 Y Z (upT T b (20, 0, 0)) (g b) (q b) 0 0 _ from ⟨_, rfl, fun _ _ h => by cases h⟩) i0
  have e : (ws) ++ [(b, .inl (Y 5, 6, .inr (.inr (.inr (.inr (fun _ => none))))))] = ws ++ [(b, .inl (Y 5, 6, .inr (.inr (.inr (.inr (fun _ => none))))))] := by simp
  rw [e] at t0
  have n0 : ∀ a, (T a).1 ≠ 0 → a ≠ b := fun a ha e => ha (by have := f0; rw [← e] at this; exact this)
  exact ⟨_, _, _, t0, l0, upT_eq, (fun _ _ => rfl), (fun _ _ => rfl)⟩
set_option maxHeartbeats 2000000 in
theorem ps_par {Y : Nat → ClassId} {Z : Nat → Nat} {T : RT} {g : GN} {q : GQ} {ws : va_W} {A : Nat → Prop} {a0 c8 c9 c10 c11 c12 b2 b : Nat} {rest : va_W} (hT : TW Y Z T g q ws) (hD : va_D A (ws ++ ([(a0, .inl (Y 2, 0, .inl (fun _ => 0))), (c8, .inl (Y 0, 12, .inl (fun _ => 0))), (c9, .inl (Y 0, 12, .inl (fun _ => 0))), (c10, .inl (Y 0, 12, .inl (fun _ => 0))), (c11, .inl (Y 0, 12, .inl (fun _ => 0))), (c12, .inl (Y 0, 400, .inl (fun _ => 0))), (b2, .inr (8, [.int 0, .int 0, .int 0, .int 0, .int 0, .int 0, .int 0, .int 0, .ref c8, .ref c9, .ref c10, .ref c11, .ref c12, .int 0])), (b, .inr (3, [.ref a0, .int 0, .int 0, .int 0, .int 0, .int 0, .int 0, .int 0, .int 0, .ref (Z 0), .ref b2, .int 0]))] ++ rest))) : ∃ (T1 : RT) (g1 : GN) (q1 : GQ), TW Y Z T1 g1 q1 (ws ++ [(a0, .inl (Y 2, 0, .inl (fun _ => 0))), (c8, .inl (Y 0, 12, .inl (fun _ => 0))), (c9, .inl (Y 0, 12, .inl (fun _ => 0))), (c10, .inl (Y 0, 12, .inl (fun _ => 0))), (c11, .inl (Y 0, 12, .inl (fun _ => 0))), (c12, .inl (Y 0, 400, .inl (fun _ => 0))), (b2, .inr (8, [.int 0, .int 0, .int 0, .int 0, .int 0, .int 0, .int 0, .int 0, .ref c8, .ref c9, .ref c10, .ref c11, .ref c12, .int 0])), (b, .inr (3, [.ref a0, .int 0, .int 0, .int 0, .int 0, .int 0, .int 0, .int 0, .int 0, .ref (Z 0), .ref b2, .int 0]))]) ∧ TLe T T1 ∧ T1 b = (7, 0, 0) ∧ (∀ a, (T a).1 ≠ 0 → g1 a = g a) ∧ (∀ a, (T a).1 ≠ 0 → q1 a = q a) := by
  have d0 : va_D A ((ws) ++ (a0, .inl (Y 2, 0, .inl (fun _ => 0))) :: ([(c8, .inl (Y 0, 12, .inl (fun _ => 0))), (c9, .inl (Y 0, 12, .inl (fun _ => 0))), (c10, .inl (Y 0, 12, .inl (fun _ => 0))), (c11, .inl (Y 0, 12, .inl (fun _ => 0))), (c12, .inl (Y 0, 400, .inl (fun _ => 0))), (b2, .inr (8, [.int 0, .int 0, .int 0, .int 0, .int 0, .int 0, .int 0, .int 0, .ref c8, .ref c9, .ref c10, .ref c11, .ref c12, .int 0])), (b, .inr (3, [.ref a0, .int 0, .int 0, .int 0, .int 0, .int 0, .int 0, .int 0, .int 0, .ref (Z 0), .ref b2, .int 0]))] ++ rest)) := by simpa using hD
  have i0 := tw_in d0
  have f0 := tw_fr hT i0
  have l0 := upT_le (r := (16, 0, 0)) f0
  have t0 : TW Y Z (upT T a0 (16, 0, 0)) g q ((ws) ++ [(a0, .inl (Y 2, 0, .inl (fun _ => 0)))]) := tw_push hT f0 (fun _ _ => rfl) (fun _ _ => rfl) (show Sh16 Y Z (upT T a0 (16, 0, 0)) (g a0) (q a0) 0 0 _ from ⟨_, rfl, fun _ => by decide⟩) i0
  have d1 : va_D A (((ws) ++ [(a0, .inl (Y 2, 0, .inl (fun _ => 0)))]) ++ (c8, .inl (Y 0, 12, .inl (fun _ => 0))) :: ([(c9, .inl (Y 0, 12, .inl (fun _ => 0))), (c10, .inl (Y 0, 12, .inl (fun _ => 0))), (c11, .inl (Y 0, 12, .inl (fun _ => 0))), (c12, .inl (Y 0, 400, .inl (fun _ => 0))), (b2, .inr (8, [.int 0, .int 0, .int 0, .int 0, .int 0, .int 0, .int 0, .int 0, .ref c8, .ref c9, .ref c10, .ref c11, .ref c12, .int 0])), (b, .inr (3, [.ref a0, .int 0, .int 0, .int 0, .int 0, .int 0, .int 0, .int 0, .int 0, .ref (Z 0), .ref b2, .int 0]))] ++ rest)) := by simpa using hD
  have i1 := tw_in d1
  have f1 := tw_fr t0 i1
  have l1 := upT_le (r := (12, 12, 0)) f1
  have t1 : TW Y Z (upT (upT T a0 (16, 0, 0)) c8 (12, 12, 0)) g q (((ws) ++ [(a0, .inl (Y 2, 0, .inl (fun _ => 0)))]) ++ [(c8, .inl (Y 0, 12, .inl (fun _ => 0)))]) := tw_push t0 f1 (fun _ _ => rfl) (fun _ _ => rfl) (show Sh12 Y Z (upT (upT T a0 (16, 0, 0)) c8 (12, 12, 0)) (g c8) (q c8) 12 0 _ from ⟨_, rfl⟩) i1
  have d2 : va_D A ((((ws) ++ [(a0, .inl (Y 2, 0, .inl (fun _ => 0)))]) ++ [(c8, .inl (Y 0, 12, .inl (fun _ => 0)))]) ++ (c9, .inl (Y 0, 12, .inl (fun _ => 0))) :: ([(c10, .inl (Y 0, 12, .inl (fun _ => 0))), (c11, .inl (Y 0, 12, .inl (fun _ => 0))), (c12, .inl (Y 0, 400, .inl (fun _ => 0))), (b2, .inr (8, [.int 0, .int 0, .int 0, .int 0, .int 0, .int 0, .int 0, .int 0, .ref c8, .ref c9, .ref c10, .ref c11, .ref c12, .int 0])), (b, .inr (3, [.ref a0, .int 0, .int 0, .int 0, .int 0, .int 0, .int 0, .int 0, .int 0, .ref (Z 0), .ref b2, .int 0]))] ++ rest)) := by simpa using hD
  have i2 := tw_in d2
  have f2 := tw_fr t1 i2
  have l2 := upT_le (r := (12, 12, 0)) f2
  have t2 : TW Y Z (upT (upT (upT T a0 (16, 0, 0)) c8 (12, 12, 0)) c9 (12, 12, 0)) g q ((((ws) ++ [(a0, .inl (Y 2, 0, .inl (fun _ => 0)))]) ++ [(c8, .inl (Y 0, 12, .inl (fun _ => 0)))]) ++ [(c9, .inl (Y 0, 12, .inl (fun _ => 0)))]) := tw_push t1 f2 (fun _ _ => rfl) (fun _ _ => rfl) (show Sh12 Y Z (upT (upT (upT T a0 (16, 0, 0)) c8 (12, 12, 0)) c9 (12, 12, 0)) (g c9) (q c9) 12 0 _ from ⟨_, rfl⟩) i2
  have d3 : va_D A (((((ws) ++ [(a0, .inl (Y 2, 0, .inl (fun _ => 0)))]) ++ [(c8, .inl (Y 0, 12, .inl (fun _ => 0)))]) ++ [(c9, .inl (Y 0, 12, .inl (fun _ => 0)))]) ++ (c10, .inl (Y 0, 12, .inl (fun _ => 0))) :: ([(c11, .inl (Y 0, 12, .inl (fun _ => 0))), (c12, .inl (Y 0, 400, .inl (fun _ => 0))), (b2, .inr (8, [.int 0, .int 0, .int 0, .int 0, .int 0, .int 0, .int 0, .int 0, .ref c8, .ref c9, .ref c10, .ref c11, .ref c12, .int 0])), (b, .inr (3, [.ref a0, .int 0, .int 0, .int 0, .int 0, .int 0, .int 0, .int 0, .int 0, .ref (Z 0), .ref b2, .int 0]))] ++ rest)) := by simpa using hD
  have i3 := tw_in d3
  have f3 := tw_fr t2 i3
  have l3 := upT_le (r := (12, 12, 0)) f3
  have t3 : TW Y Z (upT (upT (upT (upT T a0 (16, 0, 0)) c8 (12, 12, 0)) c9 (12, 12, 0)) c10 (12, 12, 0)) g q (((((ws) ++ [(a0, .inl (Y 2, 0, .inl (fun _ => 0)))]) ++ [(c8, .inl (Y 0, 12, .inl (fun _ => 0)))]) ++ [(c9, .inl (Y 0, 12, .inl (fun _ => 0)))]) ++ [(c10, .inl (Y 0, 12, .inl (fun _ => 0)))]) := tw_push t2 f3 (fun _ _ => rfl) (fun _ _ => rfl) (show Sh12 Y Z (upT (upT (upT (upT T a0 (16, 0, 0)) c8 (12, 12, 0)) c9 (12, 12, 0)) c10 (12, 12, 0)) (g c10) (q c10) 12 0 _ from ⟨_, rfl⟩) i3
  have d4 : va_D A ((((((ws) ++ [(a0, .inl (Y 2, 0, .inl (fun _ => 0)))]) ++ [(c8, .inl (Y 0, 12, .inl (fun _ => 0)))]) ++ [(c9, .inl (Y 0, 12, .inl (fun _ => 0)))]) ++ [(c10, .inl (Y 0, 12, .inl (fun _ => 0)))]) ++ (c11, .inl (Y 0, 12, .inl (fun _ => 0))) :: ([(c12, .inl (Y 0, 400, .inl (fun _ => 0))), (b2, .inr (8, [.int 0, .int 0, .int 0, .int 0, .int 0, .int 0, .int 0, .int 0, .ref c8, .ref c9, .ref c10, .ref c11, .ref c12, .int 0])), (b, .inr (3, [.ref a0, .int 0, .int 0, .int 0, .int 0, .int 0, .int 0, .int 0, .int 0, .ref (Z 0), .ref b2, .int 0]))] ++ rest)) := by simpa using hD
  have i4 := tw_in d4
  have f4 := tw_fr t3 i4
  have l4 := upT_le (r := (12, 12, 0)) f4
  have t4 : TW Y Z (upT (upT (upT (upT (upT T a0 (16, 0, 0)) c8 (12, 12, 0)) c9 (12, 12, 0)) c10 (12, 12, 0)) c11 (12, 12, 0)) g q ((((((ws) ++ [(a0, .inl (Y 2, 0, .inl (fun _ => 0)))]) ++ [(c8, .inl (Y 0, 12, .inl (fun _ => 0)))]) ++ [(c9, .inl (Y 0, 12, .inl (fun _ => 0)))]) ++ [(c10, .inl (Y 0, 12, .inl (fun _ => 0)))]) ++ [(c11, .inl (Y 0, 12, .inl (fun _ => 0)))]) := tw_push t3 f4 (fun _ _ => rfl) (fun _ _ => rfl) (show Sh12 Y Z (upT (upT (upT (upT (upT T a0 (16, 0, 0)) c8 (12, 12, 0)) c9 (12, 12, 0)) c10 (12, 12, 0)) c11 (12, 12, 0)) (g c11) (q c11) 12 0 _ from ⟨_, rfl⟩) i4
  have d5 : va_D A (((((((ws) ++ [(a0, .inl (Y 2, 0, .inl (fun _ => 0)))]) ++ [(c8, .inl (Y 0, 12, .inl (fun _ => 0)))]) ++ [(c9, .inl (Y 0, 12, .inl (fun _ => 0)))]) ++ [(c10, .inl (Y 0, 12, .inl (fun _ => 0)))]) ++ [(c11, .inl (Y 0, 12, .inl (fun _ => 0)))]) ++ (c12, .inl (Y 0, 400, .inl (fun _ => 0))) :: ([(b2, .inr (8, [.int 0, .int 0, .int 0, .int 0, .int 0, .int 0, .int 0, .int 0, .ref c8, .ref c9, .ref c10, .ref c11, .ref c12, .int 0])), (b, .inr (3, [.ref a0, .int 0, .int 0, .int 0, .int 0, .int 0, .int 0, .int 0, .int 0, .ref (Z 0), .ref b2, .int 0]))] ++ rest)) := by simpa using hD
  have i5 := tw_in d5
  have f5 := tw_fr t4 i5
  have l5 := upT_le (r := (12, 400, 0)) f5
  have t5 : TW Y Z (upT (upT (upT (upT (upT (upT T a0 (16, 0, 0)) c8 (12, 12, 0)) c9 (12, 12, 0)) c10 (12, 12, 0)) c11 (12, 12, 0)) c12 (12, 400, 0)) g q (((((((ws) ++ [(a0, .inl (Y 2, 0, .inl (fun _ => 0)))]) ++ [(c8, .inl (Y 0, 12, .inl (fun _ => 0)))]) ++ [(c9, .inl (Y 0, 12, .inl (fun _ => 0)))]) ++ [(c10, .inl (Y 0, 12, .inl (fun _ => 0)))]) ++ [(c11, .inl (Y 0, 12, .inl (fun _ => 0)))]) ++ [(c12, .inl (Y 0, 400, .inl (fun _ => 0)))]) := tw_push t4 f5 (fun _ _ => rfl) (fun _ _ => rfl) (show Sh12 Y Z (upT (upT (upT (upT (upT (upT T a0 (16, 0, 0)) c8 (12, 12, 0)) c9 (12, 12, 0)) c10 (12, 12, 0)) c11 (12, 12, 0)) c12 (12, 400, 0)) (g c12) (q c12) 400 0 _ from ⟨_, rfl⟩) i5
  have d6 : va_D A ((((((((ws) ++ [(a0, .inl (Y 2, 0, .inl (fun _ => 0)))]) ++ [(c8, .inl (Y 0, 12, .inl (fun _ => 0)))]) ++ [(c9, .inl (Y 0, 12, .inl (fun _ => 0)))]) ++ [(c10, .inl (Y 0, 12, .inl (fun _ => 0)))]) ++ [(c11, .inl (Y 0, 12, .inl (fun _ => 0)))]) ++ [(c12, .inl (Y 0, 400, .inl (fun _ => 0)))]) ++ (b2, .inr (8, [.int 0, .int 0, .int 0, .int 0, .int 0, .int 0, .int 0, .int 0, .ref c8, .ref c9, .ref c10, .ref c11, .ref c12, .int 0])) :: ([(b, .inr (3, [.ref a0, .int 0, .int 0, .int 0, .int 0, .int 0, .int 0, .int 0, .int 0, .ref (Z 0), .ref b2, .int 0]))] ++ rest)) := by simpa using hD
  have i6 := tw_in d6
  have f6 := tw_fr t5 i6
  have l6 := upT_le (r := (5, 0, 0)) f6
  have t6 : TW Y Z (upT (upT (upT (upT (upT (upT (upT T a0 (16, 0, 0)) c8 (12, 12, 0)) c9 (12, 12, 0)) c10 (12, 12, 0)) c11 (12, 12, 0)) c12 (12, 400, 0)) b2 (5, 0, 0)) g q ((((((((ws) ++ [(a0, .inl (Y 2, 0, .inl (fun _ => 0)))]) ++ [(c8, .inl (Y 0, 12, .inl (fun _ => 0)))]) ++ [(c9, .inl (Y 0, 12, .inl (fun _ => 0)))]) ++ [(c10, .inl (Y 0, 12, .inl (fun _ => 0)))]) ++ [(c11, .inl (Y 0, 12, .inl (fun _ => 0)))]) ++ [(c12, .inl (Y 0, 400, .inl (fun _ => 0)))]) ++ [(b2, .inr (8, [.int 0, .int 0, .int 0, .int 0, .int 0, .int 0, .int 0, .int 0, .ref c8, .ref c9, .ref c10, .ref c11, .ref c12, .int 0]))]) := tw_push t5 f6 (fun _ _ => rfl) (fun _ _ => rfl) (show Sh5 Y Z (upT (upT (upT (upT (upT (upT (upT T a0 (16, 0, 0)) c8 (12, 12, 0)) c9 (12, 12, 0)) c10 (12, 12, 0)) c11 (12, 12, 0)) c12 (12, 400, 0)) b2 (5, 0, 0)) (g b2) (q b2) 0 0 _ from ⟨0, 0, 0, 0, 0, 0, 0, 0, c8, c9, c10, c11, c12, 0, rfl, (by decide), (l6.up (l5.up (l4.up (l3.up (l2.up upT_eq))))), (l6.up (l5.up (l4.up (l3.up upT_eq)))), (l6.up (l5.up (l4.up upT_eq))), (l6.up (l5.up upT_eq)), (l6.up upT_eq), (by decide)⟩) i6
  have d7 : va_D A (((((((((ws) ++ [(a0, .inl (Y 2, 0, .inl (fun _ => 0)))]) ++ [(c8, .inl (Y 0, 12, .inl (fun _ => 0)))]) ++ [(c9, .inl (Y 0, 12, .inl (fun _ => 0)))]) ++ [(c10, .inl (Y 0, 12, .inl (fun _ => 0)))]) ++ [(c11, .inl (Y 0, 12, .inl (fun _ => 0)))]) ++ [(c12, .inl (Y 0, 400, .inl (fun _ => 0)))]) ++ [(b2, .inr (8, [.int 0, .int 0, .int 0, .int 0, .int 0, .int 0, .int 0, .int 0, .ref c8, .ref c9, .ref c10, .ref c11, .ref c12, .int 0]))]) ++ (b, .inr (3, [.ref a0, .int 0, .int 0, .int 0, .int 0, .int 0, .int 0, .int 0, .int 0, .ref (Z 0), .ref b2, .int 0])) :: ([] ++ rest)) := by simpa using hD
  have i7 := tw_in d7
  have f7 := tw_fr t6 i7
  have l7 := upT_le (r := (7, 0, 0)) f7
  have t7 : TW Y Z (upT (upT (upT (upT (upT (upT (upT (upT T a0 (16, 0, 0)) c8 (12, 12, 0)) c9 (12, 12, 0)) c10 (12, 12, 0)) c11 (12, 12, 0)) c12 (12, 400, 0)) b2 (5, 0, 0)) b (7, 0, 0)) g q (((((((((ws) ++ [(a0, .inl (Y 2, 0, .inl (fun _ => 0)))]) ++ [(c8, .inl (Y 0, 12, .inl (fun _ => 0)))]) ++ [(c9, .inl (Y 0, 12, .inl (fun _ => 0)))]) ++ [(c10, .inl (Y 0, 12, .inl (fun _ => 0)))]) ++ [(c11, .inl (Y 0, 12, .inl (fun _ => 0)))]) ++ [(c12, .inl (Y 0, 400, .inl (fun _ => 0)))]) ++ [(b2, .inr (8, [.int 0, .int 0, .int 0, .int 0, .int 0, .int 0, .int 0, .int 0, .ref c8, .ref c9, .ref c10, .ref c11, .ref c12, .int 0]))]) ++ [(b, .inr (3, [.ref a0, .int 0, .int 0, .int 0, .int 0, .int 0, .int 0, .int 0, .int 0, .ref (Z 0), .ref b2, .int 0]))]) := tw_push t6 f7 (fun _ _ => rfl) (fun _ _ => rfl) (show Sh7 Y Z (upT (upT (upT (upT (upT (upT (upT (upT T a0 (16, 0, 0)) c8 (12, 12, 0)) c9 (12, 12, 0)) c10 (12, 12, 0)) c11 (12, 12, 0)) c12 (12, 400, 0)) b2 (5, 0, 0)) b (7, 0, 0)) (g b) (q b) 0 0 _ from ⟨0, a0, 0, 0, 0, 0, 0, 0, 0, 0, 0, b2, 0, rfl, (l7.up (l6.up (l5.up (l4.up (l3.up (l2.up (l1.up upT_eq))))))), (by decide), (by decide), (by decide), (l7.up upT_eq), (by decide), (by decide)⟩) i7
  have e : ((((((((ws) ++ [(a0, .inl (Y 2, 0, .inl (fun _ => 0)))]) ++ [(c8, .inl (Y 0, 12, .inl (fun _ => 0)))]) ++ [(c9, .inl (Y 0, 12, .inl (fun _ => 0)))]) ++ [(c10, .inl (Y 0, 12, .inl (fun _ => 0)))]) ++ [(c11, .inl (Y 0, 12, .inl (fun _ => 0)))]) ++ [(c12, .inl (Y 0, 400, .inl (fun _ => 0)))]) ++ [(b2, .inr (8, [.int 0, .int 0, .int 0, .int 0, .int 0, .int 0, .int 0, .int 0, .ref c8, .ref c9, .ref c10, .ref c11, .ref c12, .int 0]))]) ++ [(b, .inr (3, [.ref a0, .int 0, .int 0, .int 0, .int 0, .int 0, .int 0, .int 0, .int 0, .ref (Z 0), .ref b2, .int 0]))] = ws ++ [(a0, .inl (Y 2, 0, .inl (fun _ => 0))), (c8, .inl (Y 0, 12, .inl (fun _ => 0))), (c9, .inl (Y 0, 12, .inl (fun _ => 0))), (c10, .inl (Y 0, 12, .inl (fun _ => 0))), (c11, .inl (Y 0, 12, .inl (fun _ => 0))), (c12, .inl (Y 0, 400, .inl (fun _ => 0))), (b2, .inr (8, [.int 0, .int 0, .int 0, .int 0, .int 0, .int 0, .int 0, .int 0, .ref c8, .ref c9, .ref c10, .ref c11, .ref c12, .int 0])), (b, .inr (3, [.ref a0, .int 0, .int 0, .int 0, .int 0, .int 0, .int 0, .int 0, .int 0, .ref (Z 0), .ref b2, .int 0]))] := by simp
  rw [e] at t7
  have n0 : ∀ a, (T a).1 ≠ 0 → a ≠ a0 := fun a ha e => ha (by have := f0; rw [← e] at this; exact this)
  have n1 : ∀ a, (T a).1 ≠ 0 → a ≠ c8 := fun a ha e => ha (by have := f1; rw [← e, l0 a ha] at this; exact this)
  have n2 : ∀ a, (T a).1 ≠ 0 → a ≠ c9 := fun a ha e => ha (by have := f2; rw [← e, (l0.tr l1) a ha] at this; exact this)
  have n3 : ∀ a, (T a).1 ≠ 0 → a ≠ c10 := fun a ha e => ha (by have := f3; rw [← e, ((l0.tr l1).tr l2) a ha] at this; exact this)
  have n4 : ∀ a, (T a).1 ≠ 0 → a ≠ c11 := fun a ha e => ha (by have := f4; rw [← e, (((l0.tr l1).tr l2).tr l3) a ha] at this; exact this)
  have n5 : ∀ a, (T a).1 ≠ 0 → a ≠ c12 := fun a ha e => ha (by have := f5; rw [← e, ((((l0.tr l1).tr l2).tr l3).tr l4) a ha] at this; exact this)
  have n6 : ∀ a, (T a).1 ≠ 0 → a ≠ b2 := fun a ha e => ha (by have := f6; rw [← e, (((((l0.tr l1).tr l2).tr l3).tr l4).tr l5) a ha] at this; exact this)
  have n7 : ∀ a, (T a).1 ≠ 0 → a ≠ b := fun a ha e => ha (by have := f7; rw [← e, ((((((l0.tr l1).tr l2).tr l3).tr l4).tr l5).tr l6) a ha] at this; exact this)
  exact ⟨_, _, _, t7, (((((((l0.tr l1).tr l2).tr l3).tr l4).tr l5).tr l6).tr l7), upT_eq, (fun _ _ => rfl), (fun _ _ => rfl)⟩
set_option maxHeartbeats 2000000 in
theorem ps_rec {Y : Nat → ClassId} {Z : Nat → Nat} {T : RT} {g : GN} {q : GQ} {ws : va_W} {A : Nat → Prop} {a0 b : Nat} {rest : va_W} (hT : TW Y Z T g q ws) (hD : va_D A (ws ++ ([(a0, .inl (Y 1, 64, .inr (.inl (fun _ => 0)))), (b, .inr (4, [.ref a0]))] ++ rest))) : ∃ (T1 : RT) (g1 : GN) (q1 : GQ), TW Y Z T1 g1 q1 (ws ++ [(a0, .inl (Y 1, 64, .inr (.inl (fun _ => 0)))), (b, .inr (4, [.ref a0]))]) ∧ TLe T T1 ∧ T1 b = (8, 0, 0) ∧ (∀ a, (T a).1 ≠ 0 → g1 a = g a) ∧ (∀ a, (T a).1 ≠ 0 → q1 a = q a) := by
  have d0 : va_D A ((ws) ++ (a0, .inl (Y 1, 64, .inr (.inl (fun _ => 0)))) :: ([(b, .inr (4, [.ref a0]))] ++ rest)) := by simpa using hD
  have i0 := tw_in d0
  have f0 := tw_fr hT i0
  have l0 := upT_le (r := (15, 64, 0)) f0
  have t0 : TW Y Z (upT T a0 (15, 64, 0)) g q ((ws) ++ [(a0, .inl (Y 1, 64, .inr (.inl (fun _ => 0))))]) := tw_push hT f0 (fun _ _ => rfl) (fun _ _ => rfl) (show Sh15 Y Z (upT T a0 (15, 64, 0)) (g a0) (q a0) 64 0 _ from ⟨_, rfl⟩) i0
  have d1 : va_D A (((ws) ++ [(a0, .inl (Y 1, 64, .inr (.inl (fun _ => 0))))]) ++ (b, .inr (4, [.ref a0])) :: ([] ++ rest)) := by simpa using hD
  have i1 := tw_in d1
  have f1 := tw_fr t0 i1
  have l1 := upT_le (r := (8, 0, 0)) f1
  have t1 : TW Y Z (upT (upT T a0 (15, 64, 0)) b (8, 0, 0)) g q (((ws) ++ [(a0, .inl (Y 1, 64, .inr (.inl (fun _ => 0))))]) ++ [(b, .inr (4, [.ref a0]))]) := tw_push t0 f1 (fun _ _ => rfl) (fun _ _ => rfl) (show Sh8 Y Z (upT (upT T a0 (15, 64, 0)) b (8, 0, 0)) (g b) (q b) 0 0 _ from ⟨a0, rfl, (l1.up upT_eq)⟩) i1
  have e : ((ws) ++ [(a0, .inl (Y 1, 64, .inr (.inl (fun _ => 0))))]) ++ [(b, .inr (4, [.ref a0]))] = ws ++ [(a0, .inl (Y 1, 64, .inr (.inl (fun _ => 0)))), (b, .inr (4, [.ref a0]))] := by simp
  rw [e] at t1
  have n0 : ∀ a, (T a).1 ≠ 0 → a ≠ a0 := fun a ha e => ha (by have := f0; rw [← e] at this; exact this)
  have n1 : ∀ a, (T a).1 ≠ 0 → a ≠ b := fun a ha e => ha (by have := f1; rw [← e, l0 a ha] at this; exact this)
  exact ⟨_, _, _, t1, (l0.tr l1), upT_eq, (fun _ _ => rfl), (fun _ _ => rfl)⟩
set_option maxHeartbeats 2000000 in
theorem ps_look {Y : Nat → ClassId} {Z : Nat → Nat} {T : RT} {g : GN} {q : GQ} {ws : va_W} {A : Nat → Prop} {a0 a1 a2 b : Nat} {rest : va_W} (hT : TW Y Z T g q ws) (hD : va_D A (ws ++ ([(a0, .inl (Y 0, 600, .inl (fun _ => 0))), (a1, .inl (Y 0, 600, .inl (fun _ => 0))), (a2, .inl (Y 0, 600, .inl (fun _ => 0))), (b, .inr (2, [.ref a0, .ref a1, .ref a2, .int 0, .long 0, .long 0, .int 0, .long 0]))] ++ rest))) : ∃ (T1 : RT) (g1 : GN) (q1 : GQ), TW Y Z T1 g1 q1 (ws ++ [(a0, .inl (Y 0, 600, .inl (fun _ => 0))), (a1, .inl (Y 0, 600, .inl (fun _ => 0))), (a2, .inl (Y 0, 600, .inl (fun _ => 0))), (b, .inr (2, [.ref a0, .ref a1, .ref a2, .int 0, .long 0, .long 0, .int 0, .long 0]))]) ∧ TLe T T1 ∧ T1 b = (9, 0, 0) ∧ (∀ a, (T a).1 ≠ 0 → g1 a = g a) ∧ (∀ a, (T a).1 ≠ 0 → q1 a = q a) := by
  have d0 : va_D A ((ws) ++ (a0, .inl (Y 0, 600, .inl (fun _ => 0))) :: ([(a1, .inl (Y 0, 600, .inl (fun _ => 0))), (a2, .inl (Y 0, 600, .inl (fun _ => 0))), (b, .inr (2, [.ref a0, .ref a1, .ref a2, .int 0, .long 0, .long 0, .int 0, .long 0]))] ++ rest)) := by simpa using hD
  have i0 := tw_in d0
  have f0 := tw_fr hT i0
  have l0 := upT_le (r := (12, 600, 0)) f0
  have t0 : TW Y Z (upT T a0 (12, 600, 0)) g q ((ws) ++ [(a0, .inl (Y 0, 600, .inl (fun _ => 0)))]) := tw_push hT f0 (fun _ _ => rfl) (fun _ _ => rfl) (show Sh12 Y Z (upT T a0 (12, 600, 0)) (g a0) (q a0) 600 0 _ from ⟨_, rfl⟩) i0
  have d1 : va_D A (((ws) ++ [(a0, .inl (Y 0, 600, .inl (fun _ => 0)))]) ++ (a1, .inl (Y 0, 600, .inl (fun _ => 0))) :: ([(a2, .inl (Y 0, 600, .inl (fun _ => 0))), (b, .inr (2, [.ref a0, .ref a1, .ref a2, .int 0, .long 0, .long 0, .int 0, .long 0]))] ++ rest)) := by simpa using hD
  have i1 := tw_in d1
  have f1 := tw_fr t0 i1
  have l1 := upT_le (r := (13, 600, 0)) f1
  have t1 : TW Y Z (upT (upT T a0 (12, 600, 0)) a1 (13, 600, 0)) g q (((ws) ++ [(a0, .inl (Y 0, 600, .inl (fun _ => 0)))]) ++ [(a1, .inl (Y 0, 600, .inl (fun _ => 0)))]) := tw_push t0 f1 (fun _ _ => rfl) (fun _ _ => rfl) (show Sh13 Y Z (upT (upT T a0 (12, 600, 0)) a1 (13, 600, 0)) (g a1) (q a1) 600 0 _ from ⟨_, rfl, fun _ => by decide⟩) i1
  have d2 : va_D A ((((ws) ++ [(a0, .inl (Y 0, 600, .inl (fun _ => 0)))]) ++ [(a1, .inl (Y 0, 600, .inl (fun _ => 0)))]) ++ (a2, .inl (Y 0, 600, .inl (fun _ => 0))) :: ([(b, .inr (2, [.ref a0, .ref a1, .ref a2, .int 0, .long 0, .long 0, .int 0, .long 0]))] ++ rest)) := by simpa using hD
  have i2 := tw_in d2
  have f2 := tw_fr t1 i2
  have l2 := upT_le (r := (12, 600, 0)) f2
  have t2 : TW Y Z (upT (upT (upT T a0 (12, 600, 0)) a1 (13, 600, 0)) a2 (12, 600, 0)) g q ((((ws) ++ [(a0, .inl (Y 0, 600, .inl (fun _ => 0)))]) ++ [(a1, .inl (Y 0, 600, .inl (fun _ => 0)))]) ++ [(a2, .inl (Y 0, 600, .inl (fun _ => 0)))]) := tw_push t1 f2 (fun _ _ => rfl) (fun _ _ => rfl) (show Sh12 Y Z (upT (upT (upT T a0 (12, 600, 0)) a1 (13, 600, 0)) a2 (12, 600, 0)) (g a2) (q a2) 600 0 _ from ⟨_, rfl⟩) i2
  have d3 : va_D A (((((ws) ++ [(a0, .inl (Y 0, 600, .inl (fun _ => 0)))]) ++ [(a1, .inl (Y 0, 600, .inl (fun _ => 0)))]) ++ [(a2, .inl (Y 0, 600, .inl (fun _ => 0)))]) ++ (b, .inr (2, [.ref a0, .ref a1, .ref a2, .int 0, .long 0, .long 0, .int 0, .long 0])) :: ([] ++ rest)) := by simpa using hD
  have i3 := tw_in d3
  have f3 := tw_fr t2 i3
  have l3 := upT_le (r := (9, 0, 0)) f3
  have t3 : TW Y Z (upT (upT (upT (upT T a0 (12, 600, 0)) a1 (13, 600, 0)) a2 (12, 600, 0)) b (9, 0, 0)) g q (((((ws) ++ [(a0, .inl (Y 0, 600, .inl (fun _ => 0)))]) ++ [(a1, .inl (Y 0, 600, .inl (fun _ => 0)))]) ++ [(a2, .inl (Y 0, 600, .inl (fun _ => 0)))]) ++ [(b, .inr (2, [.ref a0, .ref a1, .ref a2, .int 0, .long 0, .long 0, .int 0, .long 0]))]) := tw_push t2 f3 (fun _ _ => rfl) (fun _ _ => rfl) (show Sh9 Y Z (upT (upT (upT (upT T a0 (12, 600, 0)) a1 (13, 600, 0)) a2 (12, 600, 0)) b (9, 0, 0)) (g b) (q b) 0 0 _ from ⟨a0, a1, a2, 0, 0, 0, 0, 0, rfl, (l3.up (l2.up (l1.up upT_eq))), (l3.up (l2.up upT_eq)), (l3.up upT_eq), (by decide)⟩) i3
  have e : ((((ws) ++ [(a0, .inl (Y 0, 600, .inl (fun _ => 0)))]) ++ [(a1, .inl (Y 0, 600, .inl (fun _ => 0)))]) ++ [(a2, .inl (Y 0, 600, .inl (fun _ => 0)))]) ++ [(b, .inr (2, [.ref a0, .ref a1, .ref a2, .int 0, .long 0, .long 0, .int 0, .long 0]))] = ws ++ [(a0, .inl (Y 0, 600, .inl (fun _ => 0))), (a1, .inl (Y 0, 600, .inl (fun _ => 0))), (a2, .inl (Y 0, 600, .inl (fun _ => 0))), (b, .inr (2, [.ref a0, .ref a1, .ref a2, .int 0, .long 0, .long 0, .int 0, .long 0]))] := by simp
  rw [e] at t3
  have n0 : ∀ a, (T a).1 ≠ 0 → a ≠ a0 := fun a ha e => ha (by have := f0; rw [← e] at this; exact this)
  have n1 : ∀ a, (T a).1 ≠ 0 → a ≠ a1 := fun a ha e => ha (by have := f1; rw [← e, l0 a ha] at this; exact this)
  have n2 : ∀ a, (T a).1 ≠ 0 → a ≠ a2 := fun a ha e => ha (by have := f2; rw [← e, (l0.tr l1) a ha] at this; exact this)
  have n3 : ∀ a, (T a).1 ≠ 0 → a ≠ b := fun a ha e => ha (by have := f3; rw [← e, ((l0.tr l1).tr l2) a ha] at this; exact this)
  exact ⟨_, _, _, t3, (((l0.tr l1).tr l2).tr l3), upT_eq, (fun _ _ => rfl), (fun _ _ => rfl)⟩
set_option maxHeartbeats 2000000 in
theorem ps_fin {Y : Nat → ClassId} {Z : Nat → Nat} {T : RT} {g : GN} {q : GQ} {ws : va_W} {A : Nat → Prop} {a0 a1 b : Nat} {rest : va_W} (hT : TW Y Z T g q ws) (hD : va_D A (ws ++ ([(a0, .inl (Y 0, 200, .inl (fun _ => 0))), (a1, .inl (Y 1, 200, .inr (.inl (fun _ => 0)))), (b, .inr (0, [.ref a0, .ref a1]))] ++ rest))) : ∃ (T1 : RT) (g1 : GN) (q1 : GQ), TW Y Z T1 g1 q1 (ws ++ [(a0, .inl (Y 0, 200, .inl (fun _ => 0))), (a1, .inl (Y 1, 200, .inr (.inl (fun _ => 0)))), (b, .inr (0, [.ref a0, .ref a1]))]) ∧ TLe T T1 ∧ T1 b = (10, 0, 0) ∧ (∀ a, (T a).1 ≠ 0 → g1 a = g a) ∧ (∀ a, (T a).1 ≠ 0 → q1 a = q a) := by
  have d0 : va_D A ((ws) ++ (a0, .inl (Y 0, 200, .inl (fun _ => 0))) :: ([(a1, .inl (Y 1, 200, .inr (.inl (fun _ => 0)))), (b, .inr (0, [.ref a0, .ref a1]))] ++ rest)) := by simpa using hD
  have i0 := tw_in d0
  have f0 := tw_fr hT i0
  have l0 := upT_le (r := (12, 200, 0)) f0
  have t0 : TW Y Z (upT T a0 (12, 200, 0)) g q ((ws) ++ [(a0, .inl (Y 0, 200, .inl (fun _ => 0)))]) := tw_push hT f0 (fun _ _ => rfl) (fun _ _ => rfl) (show Sh12 Y Z (upT T a0 (12, 200, 0)) (g a0) (q a0) 200 0 _ from ⟨_, rfl⟩) i0
  have d1 : va_D A (((ws) ++ [(a0, .inl (Y 0, 200, .inl (fun _ => 0)))]) ++ (a1, .inl (Y 1, 200, .inr (.inl (fun _ => 0)))) :: ([(b, .inr (0, [.ref a0, .ref a1]))] ++ rest)) := by simpa using hD
  have i1 := tw_in d1
  have f1 := tw_fr t0 i1
  have l1 := upT_le (r := (15, 200, 0)) f1
  have t1 : TW Y Z (upT (upT T a0 (12, 200, 0)) a1 (15, 200, 0)) g q (((ws) ++ [(a0, .inl (Y 0, 200, .inl (fun _ => 0)))]) ++ [(a1, .inl (Y 1, 200, .inr (.inl (fun _ => 0))))]) := tw_push t0 f1 (fun _ _ => rfl) (fun _ _ => rfl) (show Sh15 Y Z (upT (upT T a0 (12, 200, 0)) a1 (15, 200, 0)) (g a1) (q a1) 200 0 _ from ⟨_, rfl⟩) i1
  have d2 : va_D A ((((ws) ++ [(a0, .inl (Y 0, 200, .inl (fun _ => 0)))]) ++ [(a1, .inl (Y 1, 200, .inr (.inl (fun _ => 0))))]) ++ (b, .inr (0, [.ref a0, .ref a1])) :: ([] ++ rest)) := by simpa using hD
  have i2 := tw_in d2
  have f2 := tw_fr t1 i2
  have l2 := upT_le (r := (10, 0, 0)) f2
  have t2 : TW Y Z (upT (upT (upT T a0 (12, 200, 0)) a1 (15, 200, 0)) b (10, 0, 0)) g q ((((ws) ++ [(a0, .inl (Y 0, 200, .inl (fun _ => 0)))]) ++ [(a1, .inl (Y 1, 200, .inr (.inl (fun _ => 0))))]) ++ [(b, .inr (0, [.ref a0, .ref a1]))]) := tw_push t1 f2 (fun _ _ => rfl) (fun _ _ => rfl) (show Sh10 Y Z (upT (upT (upT T a0 (12, 200, 0)) a1 (15, 200, 0)) b (10, 0, 0)) (g b) (q b) 0 0 _ from ⟨a0, a1, rfl, (l2.up (l1.up upT_eq)), (l2.up upT_eq)⟩) i2
  have e : (((ws) ++ [(a0, .inl (Y 0, 200, .inl (fun _ => 0)))]) ++ [(a1, .inl (Y 1, 200, .inr (.inl (fun _ => 0))))]) ++ [(b, .inr (0, [.ref a0, .ref a1]))] = ws ++ [(a0, .inl (Y 0, 200, .inl (fun _ => 0))), (a1, .inl (Y 1, 200, .inr (.inl (fun _ => 0)))), (b, .inr (0, [.ref a0, .ref a1]))] := by simp
  rw [e] at t2
  have n0 : ∀ a, (T a).1 ≠ 0 → a ≠ a0 := fun a ha e => ha (by have := f0; rw [← e] at this; exact this)
  have n1 : ∀ a, (T a).1 ≠ 0 → a ≠ a1 := fun a ha e => ha (by have := f1; rw [← e, l0 a ha] at this; exact this)
  have n2 : ∀ a, (T a).1 ≠ 0 → a ≠ b := fun a ha e => ha (by have := f2; rw [← e, (l0.tr l1) a ha] at this; exact this)
  exact ⟨_, _, _, t2, ((l0.tr l1).tr l2), upT_eq, (fun _ _ => rfl), (fun _ _ => rfl)⟩
set_option maxHeartbeats 2000000 in
theorem ps_sig {Y : Nat → ClassId} {Z : Nat → Nat} {T : RT} {g : GN} {q : GQ} {ws : va_W} {A : Nat → Prop} {a0 a1 a2 a3 b : Nat} {rest : va_W} (hT : TW Y Z T g q ws) (hD : va_D A (ws ++ ([(a0, .inl (Y 0, 5, .inl (fun _ => 0))), (a1, .inl (Y 1, 5, .inr (.inl (fun _ => 0)))), (a2, .inl (Y 0, 5, .inl (fun _ => 0))), (a3, .inl (Y 0, 302, .inl (fun _ => 0))), (b, .inr (5, [.ref a0, .ref a1, .ref a2, .ref a3]))] ++ rest))) : ∃ (T1 : RT) (g1 : GN) (q1 : GQ), TW Y Z T1 g1 q1 (ws ++ [(a0, .inl (Y 0, 5, .inl (fun _ => 0))), (a1, .inl (Y 1, 5, .inr (.inl (fun _ => 0)))), (a2, .inl (Y 0, 5, .inl (fun _ => 0))), (a3, .inl (Y 0, 302, .inl (fun _ => 0))), (b, .inr (5, [.ref a0, .ref a1, .ref a2, .ref a3]))]) ∧ TLe T T1 ∧ T1 b = (11, 0, 0) ∧ (∀ a, (T a).1 ≠ 0 → g1 a = g a) ∧ (∀ a, (T a).1 ≠ 0 → q1 a = q a) := by
  have d0 : va_D A ((ws) ++ (a0, .inl (Y 0, 5, .inl (fun _ => 0))) :: ([(a1, .inl (Y 1, 5, .inr (.inl (fun _ => 0)))), (a2, .inl (Y 0, 5, .inl (fun _ => 0))), (a3, .inl (Y 0, 302, .inl (fun _ => 0))), (b, .inr (5, [.ref a0, .ref a1, .ref a2, .ref a3]))] ++ rest)) := by simpa using hD
  have i0 := tw_in d0
  have f0 := tw_fr hT i0
  have l0 := upT_le (r := (12, 5, 0)) f0
  have t0 : TW Y Z (upT T a0 (12, 5, 0)) g q ((ws) ++ [(a0, .inl (Y 0, 5, .inl (fun _ => 0)))]) := tw_push hT f0 (fun _ _ => rfl) (fun _ _ => rfl) (show Sh12 Y Z (upT T a0 (12, 5, 0)) (g a0) (q a0) 5 0 _ from ⟨_, rfl⟩) i0
  have d1 : va_D A (((ws) ++ [(a0, .inl (Y 0, 5, .inl (fun _ => 0)))]) ++ (a1, .inl (Y 1, 5, .inr (.inl (fun _ => 0)))) :: ([(a2, .inl (Y 0, 5, .inl (fun _ => 0))), (a3, .inl (Y 0, 302, .inl (fun _ => 0))), (b, .inr (5, [.ref a0, .ref a1, .ref a2, .ref a3]))] ++ rest)) := by simpa using hD
  have i1 := tw_in d1
  have f1 := tw_fr t0 i1
  have l1 := upT_le (r := (15, 5, 0)) f1
  have t1 : TW Y Z (upT (upT T a0 (12, 5, 0)) a1 (15, 5, 0)) g q (((ws) ++ [(a0, .inl (Y 0, 5, .inl (fun _ => 0)))]) ++ [(a1, .inl (Y 1, 5, .inr (.inl (fun _ => 0))))]) := tw_push t0 f1 (fun _ _ => rfl) (fun _ _ => rfl) (show Sh15 Y Z (upT (upT T a0 (12, 5, 0)) a1 (15, 5, 0)) (g a1) (q a1) 5 0 _ from ⟨_, rfl⟩) i1
  have d2 : va_D A ((((ws) ++ [(a0, .inl (Y 0, 5, .inl (fun _ => 0)))]) ++ [(a1, .inl (Y 1, 5, .inr (.inl (fun _ => 0))))]) ++ (a2, .inl (Y 0, 5, .inl (fun _ => 0))) :: ([(a3, .inl (Y 0, 302, .inl (fun _ => 0))), (b, .inr (5, [.ref a0, .ref a1, .ref a2, .ref a3]))] ++ rest)) := by simpa using hD
  have i2 := tw_in d2
  have f2 := tw_fr t1 i2
  have l2 := upT_le (r := (12, 5, 0)) f2
  have t2 : TW Y Z (upT (upT (upT T a0 (12, 5, 0)) a1 (15, 5, 0)) a2 (12, 5, 0)) g q ((((ws) ++ [(a0, .inl (Y 0, 5, .inl (fun _ => 0)))]) ++ [(a1, .inl (Y 1, 5, .inr (.inl (fun _ => 0))))]) ++ [(a2, .inl (Y 0, 5, .inl (fun _ => 0)))]) := tw_push t1 f2 (fun _ _ => rfl) (fun _ _ => rfl) (show Sh12 Y Z (upT (upT (upT T a0 (12, 5, 0)) a1 (15, 5, 0)) a2 (12, 5, 0)) (g a2) (q a2) 5 0 _ from ⟨_, rfl⟩) i2
  have d3 : va_D A (((((ws) ++ [(a0, .inl (Y 0, 5, .inl (fun _ => 0)))]) ++ [(a1, .inl (Y 1, 5, .inr (.inl (fun _ => 0))))]) ++ [(a2, .inl (Y 0, 5, .inl (fun _ => 0)))]) ++ (a3, .inl (Y 0, 302, .inl (fun _ => 0))) :: ([(b, .inr (5, [.ref a0, .ref a1, .ref a2, .ref a3]))] ++ rest)) := by simpa using hD
  have i3 := tw_in d3
  have f3 := tw_fr t2 i3
  have l3 := upT_le (r := (12, 302, 0)) f3
  have t3 : TW Y Z (upT (upT (upT (upT T a0 (12, 5, 0)) a1 (15, 5, 0)) a2 (12, 5, 0)) a3 (12, 302, 0)) g q (((((ws) ++ [(a0, .inl (Y 0, 5, .inl (fun _ => 0)))]) ++ [(a1, .inl (Y 1, 5, .inr (.inl (fun _ => 0))))]) ++ [(a2, .inl (Y 0, 5, .inl (fun _ => 0)))]) ++ [(a3, .inl (Y 0, 302, .inl (fun _ => 0)))]) := tw_push t2 f3 (fun _ _ => rfl) (fun _ _ => rfl) (show Sh12 Y Z (upT (upT (upT (upT T a0 (12, 5, 0)) a1 (15, 5, 0)) a2 (12, 5, 0)) a3 (12, 302, 0)) (g a3) (q a3) 302 0 _ from ⟨_, rfl⟩) i3
  have d4 : va_D A ((((((ws) ++ [(a0, .inl (Y 0, 5, .inl (fun _ => 0)))]) ++ [(a1, .inl (Y 1, 5, .inr (.inl (fun _ => 0))))]) ++ [(a2, .inl (Y 0, 5, .inl (fun _ => 0)))]) ++ [(a3, .inl (Y 0, 302, .inl (fun _ => 0)))]) ++ (b, .inr (5, [.ref a0, .ref a1, .ref a2, .ref a3])) :: ([] ++ rest)) := by simpa using hD
  have i4 := tw_in d4
  have f4 := tw_fr t3 i4
  have l4 := upT_le (r := (11, 0, 0)) f4
  have t4 : TW Y Z (upT (upT (upT (upT (upT T a0 (12, 5, 0)) a1 (15, 5, 0)) a2 (12, 5, 0)) a3 (12, 302, 0)) b (11, 0, 0)) g q ((((((ws) ++ [(a0, .inl (Y 0, 5, .inl (fun _ => 0)))]) ++ [(a1, .inl (Y 1, 5, .inr (.inl (fun _ => 0))))]) ++ [(a2, .inl (Y 0, 5, .inl (fun _ => 0)))]) ++ [(a3, .inl (Y 0, 302, .inl (fun _ => 0)))]) ++ [(b, .inr (5, [.ref a0, .ref a1, .ref a2, .ref a3]))]) := tw_push t3 f4 (fun _ _ => rfl) (fun _ _ => rfl) (show Sh11 Y Z (upT (upT (upT (upT (upT T a0 (12, 5, 0)) a1 (15, 5, 0)) a2 (12, 5, 0)) a3 (12, 302, 0)) b (11, 0, 0)) (g b) (q b) 0 0 _ from ⟨a0, a1, a2, a3, rfl, (l4.up (l3.up (l2.up (l1.up upT_eq)))), (l4.up (l3.up (l2.up upT_eq))), (l4.up (l3.up upT_eq)), (l4.up upT_eq)⟩) i4
  have e : (((((ws) ++ [(a0, .inl (Y 0, 5, .inl (fun _ => 0)))]) ++ [(a1, .inl (Y 1, 5, .inr (.inl (fun _ => 0))))]) ++ [(a2, .inl (Y 0, 5, .inl (fun _ => 0)))]) ++ [(a3, .inl (Y 0, 302, .inl (fun _ => 0)))]) ++ [(b, .inr (5, [.ref a0, .ref a1, .ref a2, .ref a3]))] = ws ++ [(a0, .inl (Y 0, 5, .inl (fun _ => 0))), (a1, .inl (Y 1, 5, .inr (.inl (fun _ => 0)))), (a2, .inl (Y 0, 5, .inl (fun _ => 0))), (a3, .inl (Y 0, 302, .inl (fun _ => 0))), (b, .inr (5, [.ref a0, .ref a1, .ref a2, .ref a3]))] := by simp
  rw [e] at t4
  have n0 : ∀ a, (T a).1 ≠ 0 → a ≠ a0 := fun a ha e => ha (by have := f0; rw [← e] at this; exact this)
  have n1 : ∀ a, (T a).1 ≠ 0 → a ≠ a1 := fun a ha e => ha (by have := f1; rw [← e, l0 a ha] at this; exact this)
  have n2 : ∀ a, (T a).1 ≠ 0 → a ≠ a2 := fun a ha e => ha (by have := f2; rw [← e, (l0.tr l1) a ha] at this; exact this)
  have n3 : ∀ a, (T a).1 ≠ 0 → a ≠ a3 := fun a ha e => ha (by have := f3; rw [← e, ((l0.tr l1).tr l2) a ha] at this; exact this)
  have n4 : ∀ a, (T a).1 ≠ 0 → a ≠ b := fun a ha e => ha (by have := f4; rw [← e, (((l0.tr l1).tr l2).tr l3) a ha] at this; exact this)
  exact ⟨_, _, _, t4, ((((l0.tr l1).tr l2).tr l3).tr l4), upT_eq, (fun _ _ => rfl), (fun _ _ => rfl)⟩
set_option maxHeartbeats 2000000 in
theorem ps_find {Y : Nat → ClassId} {Z : Nat → Nat} {T : RT} {g : GN} {q : GQ} {ws : va_W} {A : Nat → Prop} {b : Nat} {rest : va_W} (hT : TW Y Z T g q ws) (hD : va_D A (ws ++ ([(b, .inr (1, [.int 0, .int 0, .int 0, .int 0, .int 0, .long 0, .long 0]))] ++ rest))) : ∃ (T1 : RT) (g1 : GN) (q1 : GQ), TW Y Z T1 g1 q1 (ws ++ [(b, .inr (1, [.int 0, .int 0, .int 0, .int 0, .int 0, .long 0, .long 0]))]) ∧ TLe T T1 ∧ T1 b = (6, 0, 0) ∧ (∀ a, (T a).1 ≠ 0 → g1 a = g a) ∧ (∀ a, (T a).1 ≠ 0 → q1 a = q a) := by
  have d0 : va_D A ((ws) ++ (b, .inr (1, [.int 0, .int 0, .int 0, .int 0, .int 0, .long 0, .long 0])) :: ([] ++ rest)) := by simpa using hD
  have i0 := tw_in d0
  have f0 := tw_fr hT i0
  have l0 := upT_le (r := (6, 0, 0)) f0
  have t0 : TW Y Z (upT T b (6, 0, 0)) g q ((ws) ++ [(b, .inr (1, [.int 0, .int 0, .int 0, .int 0, .int 0, .long 0, .long 0]))]) := tw_push hT f0 (fun _ _ => rfl) (fun _ _ => rfl) (show Sh6 Y Z (upT T b (6, 0, 0)) (g b) (q b) 0 0 _ from ⟨0, 0, 0, 0, 0, 0, 0, rfl, (by decide)⟩) i0
  have e : (ws) ++ [(b, .inr (1, [.int 0, .int 0, .int 0, .int 0, .int 0, .long 0, .long 0]))] = ws ++ [(b, .inr (1, [.int 0, .int 0, .int 0, .int 0, .int 0, .long 0, .long 0]))] := by simp
  rw [e] at t0
  have n0 : ∀ a, (T a).1 ≠ 0 → a ≠ b := fun a ha e => ha (by have := f0; rw [← e] at this; exact this)
  exact ⟨_, _, _, t0, l0, upT_eq, (fun _ _ => rfl), (fun _ _ => rfl)⟩
set_option maxHeartbeats 2000000 in
theorem ps_o1 {Y : Nat → ClassId} {Z : Nat → Nat} {T : RT} {g : GN} {q : GQ} {ws : va_W} {A : Nat → Prop} {b : Nat} {rest : va_W} (hT : TW Y Z T g q ws) (hD : va_D A (ws ++ ([(b, .inl (Y 6, 432, .inr (.inr (.inr (.inr (fun _ => none))))))] ++ rest))) : ∃ (T1 : RT) (g1 : GN) (q1 : GQ), TW Y Z T1 g1 q1 (ws ++ [(b, .inl (Y 6, 432, .inr (.inr (.inr (.inr (fun _ => none))))))]) ∧ TLe T T1 ∧ T1 b = (21, 432, 0) ∧ (∀ a, (T a).1 ≠ 0 → g1 a = g a) ∧ (∀ a, (T a).1 ≠ 0 → q1 a = q a) := by
  have d0 : va_D A ((ws) ++ (b, .inl (Y 6, 432, .inr (.inr (.inr (.inr (fun _ => none)))))) :: ([] ++ rest)) := by simpa using hD
  have i0 := tw_in d0
  have f0 := tw_fr hT i0
  have l0 := upT_le (r := (21, 432, 0)) f0
  have t0 : TW Y Z (upT T b (21, 432, 0)) g q ((ws) ++ [(b, .inl (Y 6, 432, .inr (.inr (.inr (.inr (fun _ => none))))))]) := tw_push hT f0 (fun _ _ => rfl) (fun _ _ => rfl) (show Sh21 Y Z (upT T b (21, 432, 0)) (g b) (q b) 432 0 _ from ⟨_, rfl, fun _ _ h => by cases h⟩) i0
  have e : (ws) ++ [(b, .inl (Y 6, 432, .inr (.inr (.inr (.inr (fun _ => none))))))] = ws ++ [(b, .inl (Y 6, 432, .inr (.inr (.inr (.inr (fun _ => none))))))] := by simp
  rw [e] at t0
  have n0 : ∀ a, (T a).1 ≠ 0 → a ≠ b := fun a ha e => ha (by have := f0; rw [← e] at this; exact this)
  exact ⟨_, _, _, t0, l0, upT_eq, (fun _ _ => rfl), (fun _ _ => rfl)⟩
set_option maxHeartbeats 2000000 in
theorem ps_o2 {Y : Nat → ClassId} {Z : Nat → Nat} {T : RT} {g : GN} {q : GQ} {ws : va_W} {A : Nat → Prop} {b : Nat} {rest : va_W} (hT : TW Y Z T g q ws) (hD : va_D A (ws ++ ([(b, .inl (Y 6, 240, .inr (.inr (.inr (.inr (fun _ => none))))))] ++ rest))) : ∃ (T1 : RT) (g1 : GN) (q1 : GQ), TW Y Z T1 g1 q1 (ws ++ [(b, .inl (Y 6, 240, .inr (.inr (.inr (.inr (fun _ => none))))))]) ∧ TLe T T1 ∧ T1 b = (21, 240, 0) ∧ (∀ a, (T a).1 ≠ 0 → g1 a = g a) ∧ (∀ a, (T a).1 ≠ 0 → q1 a = q a) := by
  have d0 : va_D A ((ws) ++ (b, .inl (Y 6, 240, .inr (.inr (.inr (.inr (fun _ => none)))))) :: ([] ++ rest)) := by simpa using hD
  have i0 := tw_in d0
  have f0 := tw_fr hT i0
  have l0 := upT_le (r := (21, 240, 0)) f0
  have t0 : TW Y Z (upT T b (21, 240, 0)) g q ((ws) ++ [(b, .inl (Y 6, 240, .inr (.inr (.inr (.inr (fun _ => none))))))]) := tw_push hT f0 (fun _ _ => rfl) (fun _ _ => rfl) (show Sh21 Y Z (upT T b (21, 240, 0)) (g b) (q b) 240 0 _ from ⟨_, rfl, fun _ _ h => by cases h⟩) i0
  have e : (ws) ++ [(b, .inl (Y 6, 240, .inr (.inr (.inr (.inr (fun _ => none))))))] = ws ++ [(b, .inl (Y 6, 240, .inr (.inr (.inr (.inr (fun _ => none))))))] := by simp
  rw [e] at t0
  have n0 : ∀ a, (T a).1 ≠ 0 → a ≠ b := fun a ha e => ha (by have := f0; rw [← e] at this; exact this)
  exact ⟨_, _, _, t0, l0, upT_eq, (fun _ _ => rfl), (fun _ _ => rfl)⟩
set_option maxHeartbeats 2000000 in
theorem ps_w1 {Y : Nat → ClassId} {Z : Nat → Nat} {T : RT} {g : GN} {q : GQ} {ws : va_W} {A : Nat → Prop} {b : Nat} {rest : va_W} (hT : TW Y Z T g q ws) (hD : va_D A (ws ++ ([(b, .inl (Y 1, 10, .inr (.inl (fun _ => 0))))] ++ rest))) : ∃ (T1 : RT) (g1 : GN) (q1 : GQ), TW Y Z T1 g1 q1 (ws ++ [(b, .inl (Y 1, 10, .inr (.inl (fun _ => 0))))]) ∧ TLe T T1 ∧ T1 b = (15, 10, 0) ∧ (∀ a, (T a).1 ≠ 0 → g1 a = g a) ∧ (∀ a, (T a).1 ≠ 0 → q1 a = q a) := by
  have d0 : va_D A ((ws) ++ (b, .inl (Y 1, 10, .inr (.inl (fun _ => 0)))) :: ([] ++ rest)) := by simpa using hD
  have i0 := tw_in d0
  have f0 := tw_fr hT i0
  have l0 := upT_le (r := (15, 10, 0)) f0
  have t0 : TW Y Z (upT T b (15, 10, 0)) g q ((ws) ++ [(b, .inl (Y 1, 10, .inr (.inl (fun _ => 0))))]) := tw_push hT f0 (fun _ _ => rfl) (fun _ _ => rfl) (show Sh15 Y Z (upT T b (15, 10, 0)) (g b) (q b) 10 0 _ from ⟨_, rfl⟩) i0
  have e : (ws) ++ [(b, .inl (Y 1, 10, .inr (.inl (fun _ => 0))))] = ws ++ [(b, .inl (Y 1, 10, .inr (.inl (fun _ => 0))))] := by simp
  rw [e] at t0
  have n0 : ∀ a, (T a).1 ≠ 0 → a ≠ b := fun a ha e => ha (by have := f0; rw [← e] at this; exact this)
  exact ⟨_, _, _, t0, l0, upT_eq, (fun _ _ => rfl), (fun _ _ => rfl)⟩
set_option maxHeartbeats 2000000 in
theorem ps_w2 {Y : Nat → ClassId} {Z : Nat → Nat} {T : RT} {g : GN} {q : GQ} {ws : va_W} {A : Nat → Prop} {b : Nat} {rest : va_W} (hT : TW Y Z T g q ws) (hD : va_D A (ws ++ ([(b, .inl (Y 0, 5, .inl (fun _ => 0)))] ++ rest))) : ∃ (T1 : RT) (g1 : GN) (q1 : GQ), TW Y Z T1 g1 q1 (ws ++ [(b, .inl (Y 0, 5, .inl (fun _ => 0)))]) ∧ TLe T T1 ∧ T1 b = (12, 5, 0) ∧ (∀ a, (T a).1 ≠ 0 → g1 a = g a) ∧ (∀ a, (T a).1 ≠ 0 → q1 a = q a) := by
  have d0 : va_D A ((ws) ++ (b, .inl (Y 0, 5, .inl (fun _ => 0))) :: ([] ++ rest)) := by simpa using hD
  have i0 := tw_in d0
  have f0 := tw_fr hT i0
  have l0 := upT_le (r := (12, 5, 0)) f0
  have t0 : TW Y Z (upT T b (12, 5, 0)) g q ((ws) ++ [(b, .inl (Y 0, 5, .inl (fun _ => 0)))]) := tw_push hT f0 (fun _ _ => rfl) (fun _ _ => rfl) (show Sh12 Y Z (upT T b (12, 5, 0)) (g b) (q b) 5 0 _ from ⟨_, rfl⟩) i0
  have e : (ws) ++ [(b, .inl (Y 0, 5, .inl (fun _ => 0)))] = ws ++ [(b, .inl (Y 0, 5, .inl (fun _ => 0)))] := by simp
  rw [e] at t0
  have n0 : ∀ a, (T a).1 ≠ 0 → a ≠ b := fun a ha e => ha (by have := f0; rw [← e] at this; exact this)
  exact ⟨_, _, _, t0, l0, upT_eq, (fun _ _ => rfl), (fun _ _ => rfl)⟩
set_option maxHeartbeats 2000000 in
theorem ps_ds {Y : Nat → ClassId} {Z : Nat → Nat} {T : RT} {g : GN} {q : GQ} {ws : va_W} {A : Nat → Prop} {b a0 a1 a2 a3 a4 a8 a9 a10 a11 a12 a13 a14 a15 a16 a18 a19 : Nat} {rest : va_W} (hT : TW Y Z T g q ws) (ht0 : T a0 = (2, 0, 0)) (ht1 : T a1 = (19, 0, 0)) (ht2 : T a2 = (20, 0, 0)) (ht3 : T a3 = (20, 0, 0)) (ht4 : T a4 = (20, 0, 0)) (ht8 : T a8 = (7, 0, 0)) (ht9 : T a9 = (8, 0, 0)) (ht10 : T a10 = (9, 0, 0)) (ht11 : T a11 = (10, 0, 0)) (ht12 : T a12 = (11, 0, 0)) (ht13 : T a13 = (6, 0, 0)) (ht14 : T a14 = (6, 0, 0)) (ht15 : T a15 = (21, 432, 0)) (ht16 : T a16 = (21, 240, 0)) (ht18 : T a18 = (15, 10, 0)) (ht19 : T a19 = (12, 5, 0)) (hD : va_D A (ws ++ ([(b, .inr (10, [.ref a0, .ref a1, .ref a2, .ref a3, .ref a4, .int 0, .int 0, .int 0, .ref a8, .ref a9, .ref a10, .ref a11, .ref a12, .ref a13, .ref a14, .ref a15, .ref a16, .int 1, .ref a18, .ref a19]))] ++ rest))) : ∃ (T1 : RT) (g1 : GN) (q1 : GQ), TW Y Z T1 g1 q1 (ws ++ [(b, .inr (10, [.ref a0, .ref a1, .ref a2, .ref a3, .ref a4, .int 0, .int 0, .int 0, .ref a8, .ref a9, .ref a10, .ref a11, .ref a12, .ref a13, .ref a14, .ref a15, .ref a16, .int 1, .ref a18, .ref a19]))]) ∧ TLe T T1 ∧ T1 b = (1, 0, 0) ∧ (∀ a, (T a).1 ≠ 0 → g1 a = g a) ∧ (∀ a, (T a).1 ≠ 0 → q1 a = q a) ∧ q1 b = (fun n => if n = 0 then some a0 else some a1) := by
  have d0 : va_D A ((ws) ++ (b, .inr (10, [.ref a0, .ref a1, .ref a2, .ref a3, .ref a4, .int 0, .int 0, .int 0, .ref a8, .ref a9, .ref a10, .ref a11, .ref a12, .ref a13, .ref a14, .ref a15, .ref a16, .int 1, .ref a18, .ref a19])) :: ([] ++ rest)) := by simpa using hD
  have i0 := tw_in d0
  have f0 := tw_fr hT i0
  have l0 := upT_le (r := (1, 0, 0)) f0
  have t0 : TW Y Z (upT T b (1, 0, 0)) g (qnew q b (fun n => if n = 0 then some a0 else some a1)) ((ws) ++ [(b, .inr (10, [.ref a0, .ref a1, .ref a2, .ref a3, .ref a4, .int 0, .int 0, .int 0, .ref a8, .ref a9, .ref a10, .ref a11, .ref a12, .ref a13, .ref a14, .ref a15, .ref a16, .int 1, .ref a18, .ref a19]))]) := tw_push hT f0 (fun _ _ => rfl) (fun _ h => qnew_ne h) (show Sh1 Y Z (upT T b (1, 0, 0)) (g b) ((qnew q b (fun n => if n = 0 then some a0 else some a1)) b) 0 0 _ from ⟨a0, a1, a2, a3, a4, 0, 0, 0, a8, a9, a10, a11, a12, a13, a14, a15, a16, 1, a18, a19, rfl, (l0.up ht0), (by rw [qnew_eq] <;> rfl), (l0.up ht1), (by rw [qnew_eq] <;> rfl), (l0.up ht2), (l0.up ht3), (l0.up ht4), (by decide), (by decide), (by decide), (l0.up ht8), (l0.up ht9), (l0.up ht10), (l0.up ht11), (l0.up ht12), (l0.up ht13), (l0.up ht14), (l0.up ht15), (l0.up ht16), (l0.up ht18), (l0.up ht19)⟩) i0
  have e : (ws) ++ [(b, .inr (10, [.ref a0, .ref a1, .ref a2, .ref a3, .ref a4, .int 0, .int 0, .int 0, .ref a8, .ref a9, .ref a10, .ref a11, .ref a12, .ref a13, .ref a14, .ref a15, .ref a16, .int 1, .ref a18, .ref a19]))] = ws ++ [(b, .inr (10, [.ref a0, .ref a1, .ref a2, .ref a3, .ref a4, .int 0, .int 0, .int 0, .ref a8, .ref a9, .ref a10, .ref a11, .ref a12, .ref a13, .ref a14, .ref a15, .ref a16, .int 1, .ref a18, .ref a19]))] := by simp
  rw [e] at t0
  have n0 : ∀ a, (T a).1 ≠ 0 → a ≠ b := fun a ha e => ha (by have := f0; rw [← e] at this; exact this)
  exact ⟨_, _, _, t0, l0, upT_eq, (fun _ _ => rfl), (fun a ha => by rw [qnew_ne (n0 a ha)]), qnew_eq⟩
