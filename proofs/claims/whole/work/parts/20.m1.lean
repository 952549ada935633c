/-! the reference: its object at a, its rows behind it; I: its numbers (length, spot, undoMany, bestHits, bestTurns), A: its rows (text, told, read, s, before, held, turns, best, openAs, hitsAs, wayAs) -/
def rM (a : Nat) (I : Nat → Int) (A : Nat → Int → Int) (σ : g_H0) : Prop := σ[a]? = some (.inr (9, [.int (iZ (I 0)), .ref (a + 1), .int (iZ (I 1)), .ref (a + 2), .ref (a + 3), .ref (a + 4), .ref (a + 5), .int (iZ (I 2)), .ref (a + 6), .ref (a + 7), .ref (a + 8), .int (iZ (I 3)), .int (iZ (I 4)), .ref (a + 9), .ref (a + 10), .ref (a + 11)])) ∧ σ[a + 1]? = some (.inl (0, 200, .inl (zA (A 0)))) ∧ σ[a + 2]? = some (.inl (0, 51, .inl (zA (A 1)))) ∧ σ[a + 3]? = some (.inl (0, 51, .inl (zA (A 2)))) ∧ σ[a + 4]? = some (.inl (0, 156, .inl (zA (A 3)))) ∧ σ[a + 5]? = some (.inl (0, 936, .inl (zA (A 4)))) ∧ σ[a + 6]? = some (.inl (0, 156, .inl (zA (A 5)))) ∧ σ[a + 7]? = some (.inl (0, 64, .inl (zA (A 6)))) ∧ σ[a + 8]? = some (.inl (0, 5, .inl (zA (A 7)))) ∧ σ[a + 9]? = some (.inl (0, 5, .inl (zA (A 8)))) ∧ σ[a + 10]? = some (.inl (0, 60, .inl (zA (A 9)))) ∧ σ[a + 11]? = some (.inl (0, 5, .inl (zA (A 10))))
theorem r_M_in (σ : g_H0) (v l h : Int) (b_v : -9223372036854775808 ≤ v ∧ v < 9223372036854775808) (b_l : -9223372036854775808 ≤ l ∧ l < 9223372036854775808) (b_h : -9223372036854775808 ≤ h ∧ h < 9223372036854775808) : Ret mX9_in [.long (lZ v), .long (lZ l), .long (lZ h)] σ (fun r σ' => r = some (.int (bI (l ≤ v ∧ v ≤ h))) ∧ σ' = σ) := by
  refine Ret.of moX9_in.1 (Nat.le_of_ble_eq_true rfl) (fun w => ?_)
  show Go w mX9_in (0, 0) 0 [some (.long (lZ v)), none, some (.long (lZ l)), none, some (.long (lZ h)), none] [] σ (fun r σ' => r = some (.int (bI (l ≤ v ∧ v ≤ h))) ∧ σ' = σ)
  refine g_lload_n (q := 1) dX9_in_0 rfl rfl ?_
  refine g_lload_n (q := 2) dX9_in_1 rfl rfl ?_
  refine z_lcmp (q := 3) dX9_in_2 (by omega) rfl (fun pc1 => ?_)
  refine z_if_lt (t := 17) (q := 6) dX9_in_3 rfl (by omega) rfl (fun pc2 => ?_) (fun pc2 => ?_)
  · refine z_iconst (q := 18) dX9_in_17 rfl ?_
    refine z_zret dX9_in_18 rfl rfl ?_
    exact ⟨congrArg (fun v => some (Value.int v)) (bI_f (by omega)).symm, rfl⟩
  · refine g_lload_n (q := 7) dX9_in_6 rfl rfl ?_
    refine g_lload (q := 9) dX9_in_7 rfl rfl ?_
    refine z_lcmp (q := 10) dX9_in_9 (by omega) rfl (fun pc3 => ?_)
    refine z_if_gt (t := 17) (q := 13) dX9_in_10 rfl (by omega) rfl (fun pc4 => ?_) (fun pc4 => ?_)
    · refine z_iconst (q := 18) dX9_in_17 rfl ?_
      refine z_zret dX9_in_18 rfl rfl ?_
      exact ⟨congrArg (fun v => some (Value.int v)) (bI_f (by omega)).symm, rfl⟩
    · refine z_iconst (q := 14) dX9_in_13 rfl ?_
      refine g_goto (q := 18) dX9_in_14 rfl ?_
      refine z_zret dX9_in_18 rfl rfl ?_
      exact ⟨congrArg (fun v => some (Value.int v)) (bI_t (by omega)).symm, rfl⟩
/-- the numbers of a row are within bounds -/
def zBd (t : Int → Int) (b : Int) : Prop := ∀ k, -b ≤ t k ∧ t k ≤ b
def zBs (t : Int → Int) : Prop := ∀ k, 0 ≤ k → k < 153 → -1000000 ≤ t k ∧ t k ≤ 1000000
theorem r_M_byteAt (σ : g_H0) (a : Nat) (I : Nat → Int) (A : Nat → Int → Int) (hM : rM a I A σ) (k : Int) (bk : 0 ≤ k ∧ k < 2147483648) (bl : 0 ≤ I 0 ∧ I 0 ≤ 200) : Ret mX9_byteAt [.ref a, .int (iZ k)] σ (fun r σ' => r = some (.int (iZ (if k < I 0 then A 0 k else 0))) ∧ σ' = σ) := by
  refine Ret.of moX9_byteAt.1 (Nat.le_of_ble_eq_true rfl) (fun w => ?_)
  obtain ⟨m0, m1, m2, m3, m4, m5, m6, m7, m8, m9, m10, m11⟩ := id hM
  show Go w mX9_byteAt (0, 0) 0 [some (.ref a), some (.int (iZ k))] [] σ (fun r σ' => r = some (.int (iZ (if k < I 0 then A 0 k else 0))) ∧ σ' = σ)
  refine g_iload_n (q := 1) dX9_byteAt_0 rfl rfl ?_
  refine g_aload_n (q := 2) dX9_byteAt_1 rfl rfl ?_
  refine g_get (q := 5) flX9_62 dX9_byteAt_2 m0 rfl rfl ?_
  refine z_icmp_ge (t := 17) (q := 8) dX9_byteAt_5 rfl (by omega) rfl (fun pc1 => ?_) (fun pc1 => ?_)
  · refine z_iconst (q := 18) dX9_byteAt_17 rfl ?_
    refine z_iret dX9_byteAt_18 rfl ?_
    exact ⟨congrArg (fun z => some (Value.int (iZ z))) (by first | rw [if_pos (by omega)] | rw [if_neg (by omega)]), rfl⟩
  · refine g_aload_n (q := 9) dX9_byteAt_8 rfl rfl ?_
    refine g_get (q := 12) flX9_7 dX9_byteAt_9 m0 rfl rfl ?_
    refine g_iload_n (q := 13) dX9_byteAt_12 rfl rfl ?_
    refine z_iald (q := 14) dX9_byteAt_13 m1 (by omega) rfl ?_
    refine g_goto (q := 18) dX9_byteAt_14 rfl ?_
    refine z_iret dX9_byteAt_18 rfl ?_
    exact ⟨congrArg (fun z => some (Value.int (iZ z))) (by first | rw [if_pos (by omega)] | rw [if_neg (by omega)]), rfl⟩
theorem r_M_isStation (σ : g_H0) (a : Nat) (I : Nat → Int) (A : Nat → Int → Int) (hM : rM a I A σ) (k : Int) (b_k : -2147483648 ≤ k ∧ k < 2147483648) (bT : zBd (A 1) 1000) : Ret mX9_isStation [.ref a, .int (iZ k)] σ (fun r σ' => r = some (.int (bI (0 ≤ k ∧ k < A 1 2))) ∧ σ' = σ) := by
  refine Ret.of moX9_isStation.1 (Nat.le_of_ble_eq_true rfl) (fun w => ?_)
  obtain ⟨m0, m1, m2, m3, m4, m5, m6, m7, m8, m9, m10, m11⟩ := id hM
  show Go w mX9_isStation (0, 0) 0 [some (.ref a), some (.int (iZ k))] [] σ (fun r σ' => r = some (.int (bI (0 ≤ k ∧ k < A 1 2))) ∧ σ' = σ)
  refine g_iload_n (q := 1) dX9_isStation_0 rfl rfl ?_
  refine z_i2l (q := 2) dX9_isStation_1 (by omega) rfl ?_
  refine g_lconst (v := lZ 0) (q := 3) dX9_isStation_2 (by decide) rfl ?_
  refine g_aload_n (q := 4) dX9_isStation_3 rfl rfl ?_
  refine g_get (q := 7) flX9_13 dX9_isStation_4 m0 rfl rfl ?_
  refine z_iconst (q := 8) dX9_isStation_7 rfl ?_
  refine z_iald (q := 9) dX9_isStation_8 m2 (by omega) rfl ?_
  have b1 := bT 2
  refine z_iconst (q := 10) dX9_isStation_9 rfl ?_
  refine z_isub (q := 11) dX9_isStation_10 rfl ?_
  refine z_i2l (q := 12) dX9_isStation_11 (by omega) rfl ?_
  refine g_callS (As := [.long (lZ k), .long (lZ 0), .long (lZ (((A 1) 2) - 1))]) (rest := []) (q := 15) moX9_in lkX9_isStation_58 dX9_isStation_12 (r_M_in σ k 0 (((A 1) 2) - 1) (by omega) (by omega) (by omega)) rfl rfl (Nat.le_of_ble_eq_true rfl) (Nat.le_of_ble_eq_true rfl) (Nat.le_of_ble_eq_true rfl) rfl ?_
  rintro r1 s1 hp
  rw [hp.1, hp.2]
  show Go w mX9_isStation (0, 0) 15 [some (.ref a), some (.int (iZ k))] [.int (bI (0 ≤ k ∧ k ≤ (((A 1) 2) - 1)))] σ (fun r σ' => r = some (.int (bI (0 ≤ k ∧ k < A 1 2))) ∧ σ' = σ)
  refine z_zret dX9_isStation_15 rfl (bI_nar _) ?_
  exact ⟨congrArg (fun v => some (Value.int v)) (bI_c (by omega)), rfl⟩
theorem r_M_isHole (σ : g_H0) (a : Nat) (I : Nat → Int) (A : Nat → Int → Int) (hM : rM a I A σ) (k : Int) (b_k : -2147483648 ≤ k ∧ k < 2147483648) (bT : zBd (A 1) 1000) : Ret mX9_isHole [.ref a, .int (iZ k)] σ (fun r σ' => r = some (.int (bI (0 ≤ k ∧ k < A 1 3))) ∧ σ' = σ) := by
  refine Ret.of moX9_isHole.1 (Nat.le_of_ble_eq_true rfl) (fun w => ?_)
  obtain ⟨m0, m1, m2, m3, m4, m5, m6, m7, m8, m9, m10, m11⟩ := id hM
  show Go w mX9_isHole (0, 0) 0 [some (.ref a), some (.int (iZ k))] [] σ (fun r σ' => r = some (.int (bI (0 ≤ k ∧ k < A 1 3))) ∧ σ' = σ)
  refine g_iload_n (q := 1) dX9_isHole_0 rfl rfl ?_
  refine z_i2l (q := 2) dX9_isHole_1 (by omega) rfl ?_
  refine g_lconst (v := lZ 0) (q := 3) dX9_isHole_2 (by decide) rfl ?_
  refine g_aload_n (q := 4) dX9_isHole_3 rfl rfl ?_
  refine g_get (q := 7) flX9_13 dX9_isHole_4 m0 rfl rfl ?_
  refine z_iconst (q := 8) dX9_isHole_7 rfl ?_
  refine z_iald (q := 9) dX9_isHole_8 m2 (by omega) rfl ?_
  have b1 := bT 3
  refine z_iconst (q := 10) dX9_isHole_9 rfl ?_
  refine z_isub (q := 11) dX9_isHole_10 rfl ?_
  refine z_i2l (q := 12) dX9_isHole_11 (by omega) rfl ?_
  refine g_callS (As := [.long (lZ k), .long (lZ 0), .long (lZ (((A 1) 3) - 1))]) (rest := []) (q := 15) moX9_in lkX9_isHole_58 dX9_isHole_12 (r_M_in σ k 0 (((A 1) 3) - 1) (by omega) (by omega) (by omega)) rfl rfl (Nat.le_of_ble_eq_true rfl) (Nat.le_of_ble_eq_true rfl) (Nat.le_of_ble_eq_true rfl) rfl ?_
  rintro r1 s1 hp
  rw [hp.1, hp.2]
  show Go w mX9_isHole (0, 0) 15 [some (.ref a), some (.int (iZ k))] [.int (bI (0 ≤ k ∧ k ≤ (((A 1) 3) - 1)))] σ (fun r σ' => r = some (.int (bI (0 ≤ k ∧ k < A 1 3))) ∧ σ' = σ)
  refine z_zret dX9_isHole_15 rfl (bI_nar _) ?_
  exact ⟨congrArg (fun v => some (Value.int v)) (bI_c (by omega)), rfl⟩
theorem r_M_isCell (σ : g_H0) (a : Nat) (I : Nat → Int) (A : Nat → Int → Int) (hM : rM a I A σ) (x y : Int) (b_x : -2147483648 ≤ x ∧ x < 2147483648) (b_y : -2147483648 ≤ y ∧ y < 2147483648) (bT : zBd (A 1) 1000) : Ret mX9_isCell [.ref a, .int (iZ x), .int (iZ y)] σ (fun r σ' => r = some (.int (bI ((0 ≤ x ∧ x < A 1 0) ∧ (0 ≤ y ∧ y < A 1 1)))) ∧ σ' = σ) := by
  refine Ret.of moX9_isCell.1 (Nat.le_of_ble_eq_true rfl) (fun w => ?_)
  obtain ⟨m0, m1, m2, m3, m4, m5, m6, m7, m8, m9, m10, m11⟩ := id hM
  show Go w mX9_isCell (0, 0) 0 [some (.ref a), some (.int (iZ x)), some (.int (iZ y))] [] σ (fun r σ' => r = some (.int (bI ((0 ≤ x ∧ x < A 1 0) ∧ (0 ≤ y ∧ y < A 1 1)))) ∧ σ' = σ)
  refine g_iload_n (q := 1) dX9_isCell_0 rfl rfl ?_
  refine z_i2l (q := 2) dX9_isCell_1 (by omega) rfl ?_
  refine g_lconst (v := lZ 0) (q := 3) dX9_isCell_2 (by decide) rfl ?_
  refine g_aload_n (q := 4) dX9_isCell_3 rfl rfl ?_
  refine g_get (q := 7) flX9_13 dX9_isCell_4 m0 rfl rfl ?_
  refine z_iconst (q := 8) dX9_isCell_7 rfl ?_
  refine z_iald (q := 9) dX9_isCell_8 m2 (by omega) rfl ?_
  have b1 := bT 0
  refine z_iconst (q := 10) dX9_isCell_9 rfl ?_
  refine z_isub (q := 11) dX9_isCell_10 rfl ?_
  refine z_i2l (q := 12) dX9_isCell_11 (by omega) rfl ?_
  refine g_callS (As := [.long (lZ x), .long (lZ 0), .long (lZ (((A 1) 0) - 1))]) (rest := []) (q := 15) moX9_in lkX9_isCell_58 dX9_isCell_12 (r_M_in σ x 0 (((A 1) 0) - 1) (by omega) (by omega) (by omega)) rfl rfl (Nat.le_of_ble_eq_true rfl) (Nat.le_of_ble_eq_true rfl) (Nat.le_of_ble_eq_true rfl) rfl ?_
  rintro r1 s1 hp
  rw [hp.1, hp.2]
  show Go w mX9_isCell (0, 0) 15 [some (.ref a), some (.int (iZ x)), some (.int (iZ y))] [.int (bI (0 ≤ x ∧ x ≤ (((A 1) 0) - 1)))] σ (fun r σ' => r = some (.int (bI ((0 ≤ x ∧ x < A 1 0) ∧ (0 ≤ y ∧ y < A 1 1)))) ∧ σ' = σ)
  refine z_ifB_eq (t := 40) (q := 18) dX9_isCell_15 rfl rfl (fun pc2 => ?_) (fun pc2 => ?_)
  · refine z_iconst (q := 41) dX9_isCell_40 rfl ?_
    refine z_zret dX9_isCell_41 rfl rfl ?_
    exact ⟨congrArg (fun v => some (Value.int v)) (bI_f (by omega)).symm, rfl⟩
  · refine g_iload_n (q := 19) dX9_isCell_18 rfl rfl ?_
    refine z_i2l (q := 20) dX9_isCell_19 (by omega) rfl ?_
    refine g_lconst (v := lZ 0) (q := 21) dX9_isCell_20 (by decide) rfl ?_
    refine g_aload_n (q := 22) dX9_isCell_21 rfl rfl ?_
    refine g_get (q := 25) flX9_13 dX9_isCell_22 m0 rfl rfl ?_
    refine z_iconst (q := 26) dX9_isCell_25 rfl ?_
    refine z_iald (q := 27) dX9_isCell_26 m2 (by omega) rfl ?_
    have b3 := bT 1
    refine z_iconst (q := 28) dX9_isCell_27 rfl ?_
    refine z_isub (q := 29) dX9_isCell_28 rfl ?_
    refine z_i2l (q := 30) dX9_isCell_29 (by omega) rfl ?_
    refine g_callS (As := [.long (lZ y), .long (lZ 0), .long (lZ (((A 1) 1) - 1))]) (rest := []) (q := 33) moX9_in lkX9_isCell_58 dX9_isCell_30 (r_M_in σ y 0 (((A 1) 1) - 1) (by omega) (by omega) (by omega)) rfl rfl (Nat.le_of_ble_eq_true rfl) (Nat.le_of_ble_eq_true rfl) (Nat.le_of_ble_eq_true rfl) rfl ?_
    rintro r1 s1 hp
    rw [hp.1, hp.2]
    show Go w mX9_isCell (0, 0) 33 [some (.ref a), some (.int (iZ x)), some (.int (iZ y))] [.int (bI (0 ≤ y ∧ y ≤ (((A 1) 1) - 1)))] σ (fun r σ' => r = some (.int (bI ((0 ≤ x ∧ x < A 1 0) ∧ (0 ≤ y ∧ y < A 1 1)))) ∧ σ' = σ)
    refine z_ifB_eq (t := 40) (q := 36) dX9_isCell_33 rfl rfl (fun pc4 => ?_) (fun pc4 => ?_)
    · refine z_iconst (q := 41) dX9_isCell_40 rfl ?_
      refine z_zret dX9_isCell_41 rfl rfl ?_
      exact ⟨congrArg (fun v => some (Value.int v)) (bI_f (by omega)).symm, rfl⟩
    · refine z_iconst (q := 37) dX9_isCell_36 rfl ?_
      refine g_goto (q := 41) dX9_isCell_37 rfl ?_
      refine z_zret dX9_isCell_41 rfl rfl ?_
      exact ⟨congrArg (fun v => some (Value.int v)) (bI_t (by omega)).symm, rfl⟩
def mWide (T : Int → Int) (k t : Int) : Int := if t = 1 then T (4 * k + 6) else T (4 * k + 5)
def mHigh (T : Int → Int) (k t : Int) : Int := if t = 1 then T (4 * k + 5) else T (4 * k + 6)
def mRing (T : Int → Int) (a b : Int) : Int := if 2 * (if b < a then a - b else b - a) > T 2 then T 2 - (if b < a then a - b else b - a) else (if b < a then a - b else b - a)
theorem r_M_wide (σ : g_H0) (a : Nat) (I : Nat → Int) (A : Nat → Int → Int) (hM : rM a I A σ) (k t : Int) (bk : 0 ≤ k ∧ k < 6) (b_t : -2147483648 ≤ t ∧ t < 2147483648) (bT : zBd (A 1) 1000) : Ret mX9_wide [.ref a, .int (iZ k), .int (iZ t)] σ (fun r σ' => r = some (.int (iZ (mWide (A 1) k t))) ∧ σ' = σ) := by
  refine Ret.of moX9_wide.1 (Nat.le_of_ble_eq_true rfl) (fun w => ?_)
  obtain ⟨m0, m1, m2, m3, m4, m5, m6, m7, m8, m9, m10, m11⟩ := id hM
  show Go w mX9_wide (0, 0) 0 [some (.ref a), some (.int (iZ k)), some (.int (iZ t))] [] σ (fun r σ' => r = some (.int (iZ (mWide (A 1) k t))) ∧ σ' = σ)
  refine g_aload_n (q := 1) dX9_wide_0 rfl rfl ?_
  refine g_get (q := 4) flX9_13 dX9_wide_1 m0 rfl rfl ?_
  refine z_iconst (q := 5) dX9_wide_4 rfl ?_
  refine z_iconst (q := 6) dX9_wide_5 rfl ?_
  refine g_iload_n (q := 7) dX9_wide_6 rfl rfl ?_
  refine z_imul (q := 8) dX9_wide_7 rfl ?_
  refine z_iaddc (c := (4 * k + 5)) (q := 9) dX9_wide_8 (by omega) rfl ?_
  refine g_iload_n (q := 10) dX9_wide_9 rfl rfl ?_
  refine z_iconst (q := 11) dX9_wide_10 rfl ?_
  refine z_icmp_ne (t := 18) (q := 14) dX9_wide_11 rfl (by omega) rfl (fun pc1 => ?_) (fun pc1 => ?_)
  · refine z_iconst (q := 19) dX9_wide_18 rfl ?_
    refine z_iaddc (c := (4 * k + 5)) (q := 20) dX9_wide_19 (by omega) rfl ?_
    refine z_iald (q := 21) dX9_wide_20 m2 (by omega) rfl ?_
    have b2 := bT (4 * k + 5)
    refine z_iret dX9_wide_21 rfl ?_
    exact ⟨congrArg (fun z => some (Value.int (iZ z))) (by first | (unfold mWide; rw [if_pos (by omega)]; done) | (unfold mWide; rw [if_neg (by omega)]; done) | (unfold mHigh; rw [if_pos (by omega)]; done) | (unfold mHigh; rw [if_neg (by omega)]; done)), rfl⟩
  · refine z_iconst (q := 15) dX9_wide_14 rfl ?_
    refine g_goto (q := 19) dX9_wide_15 rfl ?_
    refine z_iaddc (c := (4 * k + 6)) (q := 20) dX9_wide_19 (by omega) rfl ?_
    refine z_iald (q := 21) dX9_wide_20 m2 (by omega) rfl ?_
    have b3 := bT (4 * k + 6)
    refine z_iret dX9_wide_21 rfl ?_
    exact ⟨congrArg (fun z => some (Value.int (iZ z))) (by first | (unfold mWide; rw [if_pos (by omega)]; done) | (unfold mWide; rw [if_neg (by omega)]; done) | (unfold mHigh; rw [if_pos (by omega)]; done) | (unfold mHigh; rw [if_neg (by omega)]; done)), rfl⟩
theorem r_M_high (σ : g_H0) (a : Nat) (I : Nat → Int) (A : Nat → Int → Int) (hM : rM a I A σ) (k t : Int) (bk : 0 ≤ k ∧ k < 6) (b_t : -2147483648 ≤ t ∧ t < 2147483648) (bT : zBd (A 1) 1000) : Ret mX9_high [.ref a, .int (iZ k), .int (iZ t)] σ (fun r σ' => r = some (.int (iZ (mHigh (A 1) k t))) ∧ σ' = σ) := by
  refine Ret.of moX9_high.1 (Nat.le_of_ble_eq_true rfl) (fun w => ?_)
  obtain ⟨m0, m1, m2, m3, m4, m5, m6, m7, m8, m9, m10, m11⟩ := id hM
  show Go w mX9_high (0, 0) 0 [some (.ref a), some (.int (iZ k)), some (.int (iZ t))] [] σ (fun r σ' => r = some (.int (iZ (mHigh (A 1) k t))) ∧ σ' = σ)
  refine g_aload_n (q := 1) dX9_high_0 rfl rfl ?_
  refine g_get (q := 4) flX9_13 dX9_high_1 m0 rfl rfl ?_
  refine z_iconst (q := 5) dX9_high_4 rfl ?_
  refine z_iconst (q := 6) dX9_high_5 rfl ?_
  refine g_iload_n (q := 7) dX9_high_6 rfl rfl ?_
  refine z_imul (q := 8) dX9_high_7 rfl ?_
  refine z_iaddc (c := (4 * k + 5)) (q := 9) dX9_high_8 (by omega) rfl ?_
  refine g_iload_n (q := 10) dX9_high_9 rfl rfl ?_
  refine z_iconst (q := 11) dX9_high_10 rfl ?_
  refine z_icmp_ne (t := 18) (q := 14) dX9_high_11 rfl (by omega) rfl (fun pc1 => ?_) (fun pc1 => ?_)
  · refine z_iconst (q := 19) dX9_high_18 rfl ?_
    refine z_iaddc (c := (4 * k + 6)) (q := 20) dX9_high_19 (by omega) rfl ?_
    refine z_iald (q := 21) dX9_high_20 m2 (by omega) rfl ?_
    have b2 := bT (4 * k + 6)
    refine z_iret dX9_high_21 rfl ?_
    exact ⟨congrArg (fun z => some (Value.int (iZ z))) (by first | (unfold mWide; rw [if_pos (by omega)]; done) | (unfold mWide; rw [if_neg (by omega)]; done) | (unfold mHigh; rw [if_pos (by omega)]; done) | (unfold mHigh; rw [if_neg (by omega)]; done)), rfl⟩
  · refine z_iconst (q := 15) dX9_high_14 rfl ?_
    refine g_goto (q := 19) dX9_high_15 rfl ?_
    refine z_iaddc (c := (4 * k + 5)) (q := 20) dX9_high_19 (by omega) rfl ?_
    refine z_iald (q := 21) dX9_high_20 m2 (by omega) rfl ?_
    have b3 := bT (4 * k + 5)
    refine z_iret dX9_high_21 rfl ?_
    exact ⟨congrArg (fun z => some (Value.int (iZ z))) (by first | (unfold mWide; rw [if_pos (by omega)]; done) | (unfold mWide; rw [if_neg (by omega)]; done) | (unfold mHigh; rw [if_pos (by omega)]; done) | (unfold mHigh; rw [if_neg (by omega)]; done)), rfl⟩
theorem r_M_isDull (σ : g_H0) (a : Nat) (I : Nat → Int) (A : Nat → Int → Int) (hM : rM a I A σ) (k : Int) (bk : 0 ≤ k ∧ k < 6) (bT : zBd (A 1) 1000) (bS : zBs (A 3)) : Ret mX9_isDull [.ref a, .int (iZ k)] σ (fun r σ' => r = some (.int (bI (A 1 (4 * k + 8) ≤ A 3 (k + 144)))) ∧ σ' = σ) := by
  refine Ret.of moX9_isDull.1 (Nat.le_of_ble_eq_true rfl) (fun w => ?_)
  obtain ⟨m0, m1, m2, m3, m4, m5, m6, m7, m8, m9, m10, m11⟩ := id hM
  show Go w mX9_isDull (0, 0) 0 [some (.ref a), some (.int (iZ k))] [] σ (fun r σ' => r = some (.int (bI (A 1 (4 * k + 8) ≤ A 3 (k + 144)))) ∧ σ' = σ)
  refine g_aload_n (q := 1) dX9_isDull_0 rfl rfl ?_
  refine g_get (q := 4) flX9_19 dX9_isDull_1 m0 rfl rfl ?_
  refine g_sipush (v := iZ 144) (q := 7) dX9_isDull_4 (by decide) rfl ?_
  refine g_iload_n (q := 8) dX9_isDull_7 rfl rfl ?_
  refine z_iaddc (c := (k + 144)) (q := 9) dX9_isDull_8 (by omega) rfl ?_
  refine z_iald (q := 10) dX9_isDull_9 m4 (by omega) rfl ?_
  have b1 := bS (k + 144)
  refine g_aload_n (q := 11) dX9_isDull_10 rfl rfl ?_
  refine g_get (q := 14) flX9_13 dX9_isDull_11 m0 rfl rfl ?_
  refine z_iconst (q := 15) dX9_isDull_14 rfl ?_
  refine z_iconst (q := 16) dX9_isDull_15 rfl ?_
  refine g_iload_n (q := 17) dX9_isDull_16 rfl rfl ?_
  refine z_imul (q := 18) dX9_isDull_17 rfl ?_
  refine z_iaddc (c := (4 * k + 5)) (q := 19) dX9_isDull_18 (by omega) rfl ?_
  refine z_iconst (q := 20) dX9_isDull_19 rfl ?_
  refine z_iaddc (c := (4 * k + 8)) (q := 21) dX9_isDull_20 (by omega) rfl ?_
  refine z_iald (q := 22) dX9_isDull_21 m2 (by omega) rfl ?_
  have b2 := bT (4 * k + 8)
  refine z_icmp_lt (t := 29) (q := 25) dX9_isDull_22 rfl (by omega) rfl (fun pc3 => ?_) (fun pc3 => ?_)
  · refine z_iconst (q := 30) dX9_isDull_29 rfl ?_
    refine z_zret dX9_isDull_30 rfl rfl ?_
    exact ⟨congrArg (fun v => some (Value.int v)) (bI_f (by omega)).symm, rfl⟩
  · refine z_iconst (q := 26) dX9_isDull_25 rfl ?_
    refine g_goto (q := 30) dX9_isDull_26 rfl ?_
    refine z_zret dX9_isDull_30 rfl rfl ?_
    exact ⟨congrArg (fun v => some (Value.int v)) (bI_t (by omega)).symm, rfl⟩
theorem r_M_ring (σ : g_H0) (a : Nat) (I : Nat → Int) (A : Nat → Int → Int) (hM : rM a I A σ) (x y : Int) (bx : 0 ≤ x ∧ x < 1000) (by_ : 0 ≤ y ∧ y < 1000) (bT : zBd (A 1) 1000) : Ret mX9_ring [.ref a, .int (iZ x), .int (iZ y)] σ (fun r σ' => r = some (.int (iZ (mRing (A 1) x y))) ∧ σ' = σ) := by
  refine Ret.of moX9_ring.1 (Nat.le_of_ble_eq_true rfl) (fun w => ?_)
  obtain ⟨m0, m1, m2, m3, m4, m5, m6, m7, m8, m9, m10, m11⟩ := id hM
  show Go w mX9_ring (0, 0) 0 [some (.ref a), some (.int (iZ x)), some (.int (iZ y)), none] [] σ (fun r σ' => r = some (.int (iZ (mRing (A 1) x y))) ∧ σ' = σ)
  refine g_iload_n (q := 1) dX9_ring_0 rfl rfl ?_
  refine g_iload_n (q := 2) dX9_ring_1 rfl rfl ?_
  refine z_icmp_le (t := 11) (q := 5) dX9_ring_2 rfl (by omega) rfl (fun pc1 => ?_) (fun pc1 => ?_)
  · refine g_iload_n (q := 12) dX9_ring_11 rfl rfl ?_
    refine g_iload_n (q := 13) dX9_ring_12 rfl rfl ?_
    refine z_isub (q := 14) dX9_ring_13 rfl ?_
    refine g_istore_n (ml' := [some (.ref a), some (.int (iZ x)), some (.int (iZ y)), some (.int (iZ (y - x)))]) (q := 15) dX9_ring_14 rfl (Nat.le_of_ble_eq_true rfl) rfl rfl ?_
    refine z_iconst (q := 16) dX9_ring_15 rfl ?_
    refine g_iload_n (q := 17) dX9_ring_16 rfl rfl ?_
    refine z_imulc (c := (2 * y - 2 * x)) (q := 18) dX9_ring_17 (by omega) rfl ?_
    refine g_aload_n (q := 19) dX9_ring_18 rfl rfl ?_
    refine g_get (q := 22) flX9_13 dX9_ring_19 m0 rfl rfl ?_
    refine z_iconst (q := 23) dX9_ring_22 rfl ?_
    refine z_iald (q := 24) dX9_ring_23 m2 (by omega) rfl ?_
    have b2 := bT 2
    refine z_icmp_le (t := 38) (q := 27) dX9_ring_24 rfl (by omega) rfl (fun pc3 => ?_) (fun pc3 => ?_)
    · refine g_iload_n (q := 39) dX9_ring_38 rfl rfl ?_
      refine z_iret dX9_ring_39 rfl ?_
      exact ⟨congrArg (fun z => some (Value.int (iZ z))) (by unfold mRing; omega), rfl⟩
    · refine g_aload_n (q := 28) dX9_ring_27 rfl rfl ?_
      refine g_get (q := 31) flX9_13 dX9_ring_28 m0 rfl rfl ?_
      refine z_iconst (q := 32) dX9_ring_31 rfl ?_
      refine z_iald (q := 33) dX9_ring_32 m2 (by omega) rfl ?_
      have b4 := bT 2
      refine g_iload_n (q := 34) dX9_ring_33 rfl rfl ?_
      refine z_isubc (c := (((A 1) 2) - y + x)) (q := 35) dX9_ring_34 (by omega) rfl ?_
      refine g_goto (q := 39) dX9_ring_35 rfl ?_
      refine z_iret dX9_ring_39 rfl ?_
      exact ⟨congrArg (fun z => some (Value.int (iZ z))) (by unfold mRing; omega), rfl⟩
  · refine g_iload_n (q := 6) dX9_ring_5 rfl rfl ?_
    refine g_iload_n (q := 7) dX9_ring_6 rfl rfl ?_
    refine z_isub (q := 8) dX9_ring_7 rfl ?_
    refine g_goto (q := 14) dX9_ring_8 rfl ?_
    refine g_istore_n (ml' := [some (.ref a), some (.int (iZ x)), some (.int (iZ y)), some (.int (iZ (x - y)))]) (q := 15) dX9_ring_14 rfl (Nat.le_of_ble_eq_true rfl) rfl rfl ?_
    refine z_iconst (q := 16) dX9_ring_15 rfl ?_
    refine g_iload_n (q := 17) dX9_ring_16 rfl rfl ?_
    refine z_imulc (c := (2 * x - 2 * y)) (q := 18) dX9_ring_17 (by omega) rfl ?_
    refine g_aload_n (q := 19) dX9_ring_18 rfl rfl ?_
    refine g_get (q := 22) flX9_13 dX9_ring_19 m0 rfl rfl ?_
    refine z_iconst (q := 23) dX9_ring_22 rfl ?_
    refine z_iald (q := 24) dX9_ring_23 m2 (by omega) rfl ?_
    have b5 := bT 2
    refine z_icmp_le (t := 38) (q := 27) dX9_ring_24 rfl (by omega) rfl (fun pc6 => ?_) (fun pc6 => ?_)
    · refine g_iload_n (q := 39) dX9_ring_38 rfl rfl ?_
      refine z_iret dX9_ring_39 rfl ?_
      exact ⟨congrArg (fun z => some (Value.int (iZ z))) (by unfold mRing; omega), rfl⟩
    · refine g_aload_n (q := 28) dX9_ring_27 rfl rfl ?_
      refine g_get (q := 31) flX9_13 dX9_ring_28 m0 rfl rfl ?_
      refine z_iconst (q := 32) dX9_ring_31 rfl ?_
      refine z_iald (q := 33) dX9_ring_32 m2 (by omega) rfl ?_
      have b7 := bT 2
      refine g_iload_n (q := 34) dX9_ring_33 rfl rfl ?_
      refine z_isubc (c := (((A 1) 2) - x + y)) (q := 35) dX9_ring_34 (by omega) rfl ?_
      refine g_goto (q := 39) dX9_ring_35 rfl ?_
      refine z_iret dX9_ring_39 rfl ?_
      exact ⟨congrArg (fun z => some (Value.int (iZ z))) (by unfold mRing; omega), rfl⟩
theorem r_M_parts (σ : g_H0) (n d : Int) (bn : 0 ≤ n ∧ n < 1000) (bd : 1 ≤ d ∧ d < 1000) : Ret mX9_parts [.int (iZ n), .int (iZ d)] σ (fun r σ' => r = some (.int (iZ ((n + d - 1) / d))) ∧ σ' = σ) := by
  refine Ret.of moX9_parts.1 (Nat.le_of_ble_eq_true rfl) (fun w => ?_)
  show Go w mX9_parts (0, 0) 0 [some (.int (iZ n)), some (.int (iZ d))] [] σ (fun r σ' => r = some (.int (iZ ((n + d - 1) / d))) ∧ σ' = σ)
  refine g_iload_n (q := 1) dX9_parts_0 rfl rfl ?_
  refine g_iload_n (q := 2) dX9_parts_1 rfl rfl ?_
  refine z_iadd (q := 3) dX9_parts_2 rfl ?_
  refine z_iconst (q := 4) dX9_parts_3 rfl ?_
  refine z_isubc (c := (n + d - 1)) (q := 5) dX9_parts_4 (by omega) rfl ?_
  refine g_iload_n (q := 6) dX9_parts_5 rfl rfl ?_
  refine z_idiv (q := 7) dX9_parts_6 (by omega) rfl ?_
  refine z_iret dX9_parts_7 rfl ?_
  exact ⟨rfl, rfl⟩
