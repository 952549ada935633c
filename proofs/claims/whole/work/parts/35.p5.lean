theorem mLkF_at (T : Int → Int) (h : Int) : ∀ (n : Nat) (v : Int) (Ha : Int → Int) (k : Int), mLkF T h n v Ha k = if 12 * h + v ≤ k ∧ k < 12 * h + v + n then mNib T h ((k - 12 * h) / 2) ((k - 12 * h) % 2) else Ha k
  | 0, v, Ha, k => by unfold mLkF; rw [if_neg (by omega)]
  | n + 1, v, Ha, k => by
    unfold mLkF
    rw [mLkF_at T h n]
    by_cases e : k = 12 * h + v
    · rw [if_neg (by omega), if_pos (by omega), e, zup_self, show 12 * h + v - 12 * h = v by omega]
    · rw [zup_ne _ _ e]
      by_cases h2 : 12 * h + (v + 1) ≤ k ∧ k < 12 * h + (v + 1) + n
      · rw [if_pos h2, if_pos (by omega)]
      · rw [if_neg h2, if_neg (by omega)]
theorem mLkO_O (T S : Int → Int) : ∀ (n : Nat) (h : Int) (O Ha : Int → Int) (k : Int), (mLkO T S n h O Ha).1 k = if h ≤ k ∧ k < h + n then (if 0 < mOpen T S k then 1 else 0) else O k
  | 0, h, O, Ha, k => by unfold mLkO; rw [if_neg (by omega)]
  | n + 1, h, O, Ha, k => by
    unfold mLkO
    rw [mLkO_O T S n]
    by_cases e : k = h
    · subst e
      rw [if_neg (by omega), zup_self, if_pos (show k ≤ k ∧ k < k + ((n + 1 : Nat) : Int) by omega)]
    · rw [zup_ne _ _ e]
      by_cases h2 : h + 1 ≤ k ∧ k < h + 1 + n
      · rw [if_pos h2, if_pos (show h ≤ k ∧ k < h + ((n + 1 : Nat) : Int) by omega)]
      · rw [if_neg h2, if_neg (show ¬ (h ≤ k ∧ k < h + ((n + 1 : Nat) : Int)) by omega)]
theorem mLkO_H (T S : Int → Int) (hT : 1 ≤ T 2 ∧ T 2 ≤ 6) : ∀ (n : Nat) (h : Int) (O Ha : Int → Int) (k v : Int), 0 ≤ v → v < 2 * T 2 → (mLkO T S n h O Ha).2 (12 * k + v) = if h ≤ k ∧ k < h + n then mNib T k (v / 2) (v % 2) else Ha (12 * k + v)
  | 0, h, O, Ha, k, v, _, _ => by unfold mLkO; rw [if_neg (by omega)]
  | n + 1, h, O, Ha, k, v, h0, h1 => by
    unfold mLkO
    rw [mLkO_H T S hT n _ _ _ _ _ h0 h1, mLkF_at]
    by_cases e : k = h
    · subst e
      rw [if_neg (by omega), if_pos (by omega), if_pos (by omega), show 12 * k + v - 12 * k = v by omega]
    · by_cases h2 : h + 1 ≤ k ∧ k < h + 1 + n
      · rw [if_pos h2, if_pos (by omega)]
      · rw [if_neg h2, if_neg (by omega), if_neg (by omega)]
/-- what plan answers, F: what plans has found, O: what is open -/
def mPlanA (T : Int → Int) (F : Int × Int × Int × (Int → Int) × (Int → Int)) (O : Int → Int) (h : Int) : Int :=
  if ¬ (-2 ≤ h ∧ h ≤ T 3 - 1) then -1 else if F.1 = 0 then -4 else if h = -1 then F.2.1 else if h = -2 then F.2.2.1 else if O h = 1 then F.2.2.2.1 h else -4
theorem mPlF_01 (T O Ha R : Int → Int) : ∀ (n : Nat) (c f bh bt : Int) (Bs W : Int → Int), 0 ≤ f ∧ f ≤ 1 → 0 ≤ (mPlF T O Ha R n c f bh bt Bs W).1 ∧ (mPlF T O Ha R n c f bh bt Bs W).1 ≤ 1
  | 0, c, f, bh, bt, Bs, W, h => h
  | n + 1, c, f, bh, bt, Bs, W, h => by
    unfold mPlF
    split
    · exact mPlF_01 T O Ha R n _ _ _ _ _ _ (by omega)
    · exact mPlF_01 T O Ha R n _ _ _ _ _ _ h
theorem r_M_plan (σ : g_H0) (a : Nat) (I : Nat → Int) (A : Nat → Int → Int) (hM : rM a I A σ) (h : Int) (b_h : -2147483648 ≤ h ∧ h < 2147483648) (hT : wfT (A 1)) (hS : wfS (A 1) (A 3)) : Ret mX9_plan [.ref a, .int (iZ h)] σ (fun r σ' => r = some (.int (iZ (mPlanA (A 1) (mPlF (A 1) (mLkO (A 1) (A 3) (A 1 3).toNat 0 (A 8) (A 9)).1 (mLkO (A 1) (A 3) (A 1 3).toNat 0 (A 8) (A 9)).2 (mTurF (A 1 2) (A 3 150) (pw (A 1 2)).toNat 0 (A 6)) (mCodF (A 1) (A 3) (A 1 3).toNat 0 1).toNat 0 0 (I 3) (I 4) (A 7) (A 10)) (mLkO (A 1) (A 3) (A 1 3).toNat 0 (A 8) (A 9)).1 h))) ∧ MC a (I 0) (A 0) (A 1) (A 3) (A 4) (I 2) σ' ∧ g_Fr (mR a) σ σ') := by
  refine Ret.of moX9_plan.1 (Nat.le_of_ble_eq_true rfl) (fun w => ?_)
  obtain ⟨m0, m1, m2, m3, m4, m5, m6, m7, m8, m9, m10, m11⟩ := id hM
  have bT := hT.1
  have bS := hS.bs hT
  have q0 := hT.2.1
  have q1 := hT.2.2.1
  have q2 := hT.2.2.2.1
  have h3 := hT.2.2.2.2.1
  have h4 := hT.2.2.2.2.2.1
  have s150 := hS.2.2.1
  show Go w mX9_plan (0, 0) 0 [some (.ref a), some (.int (iZ h))] [] σ (fun r σ' => r = some (.int (iZ (mPlanA (A 1) (mPlF (A 1) (mLkO (A 1) (A 3) (A 1 3).toNat 0 (A 8) (A 9)).1 (mLkO (A 1) (A 3) (A 1 3).toNat 0 (A 8) (A 9)).2 (mTurF (A 1 2) (A 3 150) (pw (A 1 2)).toNat 0 (A 6)) (mCodF (A 1) (A 3) (A 1 3).toNat 0 1).toNat 0 0 (I 3) (I 4) (A 7) (A 10)) (mLkO (A 1) (A 3) (A 1 3).toNat 0 (A 8) (A 9)).1 h))) ∧ MC a (I 0) (A 0) (A 1) (A 3) (A 4) (I 2) σ' ∧ g_Fr (mR a) σ σ')
  refine g_iload_n (q := 1) dX9_plan_0 rfl rfl ?_
  refine z_i2l (q := 2) dX9_plan_1 (by omega) rfl ?_
  refine g_ldc2 (v := lZ (-2)) (q := 5) dX9_plan_2 klX9_191 rfl ?_
  refine g_aload_n (q := 6) dX9_plan_5 rfl rfl ?_
  refine g_get (q := 9) flX9_13 dX9_plan_6 m0 rfl rfl ?_
  refine z_iconst (q := 10) dX9_plan_9 rfl ?_
  refine z_iald (q := 11) dX9_plan_10 m2 (by omega) rfl ?_
  have b1 := bT 3
  refine z_iconst (q := 12) dX9_plan_11 rfl ?_
  refine z_isub (q := 13) dX9_plan_12 rfl ?_
  refine z_i2l (q := 14) dX9_plan_13 (by omega) rfl ?_
  refine g_callS (As := [.long (lZ h), .long (lZ (-2)), .long (lZ (((A 1) 3) - 1))]) (rest := []) (q := 17) moX9_in lkX9_plan_58 dX9_plan_14 (r_M_in σ h (-2) (((A 1) 3) - 1) (by omega) (by omega) (by omega)) rfl rfl (Nat.le_of_ble_eq_true rfl) (Nat.le_of_ble_eq_true rfl) (Nat.le_of_ble_eq_true rfl) rfl ?_
  rintro r1 s1 hp
  rw [hp.1, hp.2]
  show Go w mX9_plan (0, 0) 17 [some (.ref a), some (.int (iZ h))] [.int (bI ((-2) ≤ h ∧ h ≤ (((A 1) 3) - 1)))] σ (fun r σ' => r = some (.int (iZ (mPlanA (A 1) (mPlF (A 1) (mLkO (A 1) (A 3) (A 1 3).toNat 0 (A 8) (A 9)).1 (mLkO (A 1) (A 3) (A 1 3).toNat 0 (A 8) (A 9)).2 (mTurF (A 1 2) (A 3 150) (pw (A 1 2)).toNat 0 (A 6)) (mCodF (A 1) (A 3) (A 1 3).toNat 0 1).toNat 0 0 (I 3) (I 4) (A 7) (A 10)) (mLkO (A 1) (A 3) (A 1 3).toNat 0 (A 8) (A 9)).1 h))) ∧ MC a (I 0) (A 0) (A 1) (A 3) (A 4) (I 2) σ' ∧ g_Fr (mR a) σ σ')
  refine z_ifB_ne (t := 22) (q := 20) dX9_plan_17 rfl rfl (fun pc2 => ?_) (fun pc2 => ?_)
  · refine g_aload_n (q := 23) dX9_plan_22 rfl rfl ?_
    refine g_callV (As := []) (rest := []) (q := 26) moX9_looks lkX9_plan_193 dX9_plan_23 rfl m0 (r_M_looks σ a I A hM hT hS) rfl rfl (Nat.le_of_ble_eq_true rfl) (Nat.le_of_ble_eq_true rfl) (Nat.le_of_ble_eq_true rfl) rfl ?_
    rintro r1 σ1 ⟨rfl, hM1, hF1⟩
    obtain ⟨m0, m1, m2, m3, m4, m5, m6, m7, m8, m9, m10, m11⟩ := id hM1
    show Go w mX9_plan (0, 0) 26 [some (.ref a), some (.int (iZ h))] [] σ1 (fun r σ' => r = some (.int (iZ (mPlanA (A 1) (mPlF (A 1) (mLkO (A 1) (A 3) (A 1 3).toNat 0 (A 8) (A 9)).1 (mLkO (A 1) (A 3) (A 1 3).toNat 0 (A 8) (A 9)).2 (mTurF (A 1 2) (A 3 150) (pw (A 1 2)).toNat 0 (A 6)) (mCodF (A 1) (A 3) (A 1 3).toNat 0 1).toNat 0 0 (I 3) (I 4) (A 7) (A 10)) (mLkO (A 1) (A 3) (A 1 3).toNat 0 (A 8) (A 9)).1 h))) ∧ MC a (I 0) (A 0) (A 1) (A 3) (A 4) (I 2) σ' ∧ g_Fr (mR a) σ σ')
    refine g_aload_n (q := 27) dX9_plan_26 rfl rfl ?_
    refine g_callV (As := []) (rest := []) (q := 30) moX9_plans lkX9_plan_196 dX9_plan_27 rfl m0 (r_M_plans σ1 a I (nup (nup A 8 (mLkO (A 1) (A 3) (A 1 3).toNat 0 (A 8) (A 9)).1) 9 (mLkO (A 1) (A 3) (A 1 3).toNat 0 (A 8) (A 9)).2) hM1 hT hS (fun h v a0 a1 a2 a3 => by
      show -1000 ≤ (mLkO (A 1) (A 3) (A 1 3).toNat 0 (A 8) (A 9)).2 (12 * h + v) ∧ (mLkO (A 1) (A 3) (A 1 3).toNat 0 (A 8) (A 9)).2 (12 * h + v) ≤ 1000
      replace a1 : h < A 1 3 := a1
      replace a3 : v < 2 * A 1 2 := a3
      rw [mLkO_H _ _ q2 _ _ _ _ _ _ a2 a3, if_pos (by omega)]
      have := mNib_b (t := v % 2) hT (h := h) (k := v / 2) (by omega) (by omega)
      omega) (fun h a0 a1 => by
      show -1000 ≤ (mLkO (A 1) (A 3) (A 1 3).toNat 0 (A 8) (A 9)).1 h ∧ (mLkO (A 1) (A 3) (A 1 3).toNat 0 (A 8) (A 9)).1 h ≤ 1000
      rw [mLkO_O]
      replace a1 : h < A 1 3 := a1
      rw [if_pos (by omega)]; split <;> omega)) rfl rfl (Nat.le_of_ble_eq_true rfl) (Nat.le_of_ble_eq_true rfl) (Nat.le_of_ble_eq_true rfl) rfl ?_
    rintro r2 σ2 ⟨rfl, hM2, hF2⟩
    obtain ⟨m0, m1, m2, m3, m4, m5, m6, m7, m8, m9, m10, m11⟩ := id hM2
    have hM3 : rM a (nup (nup I 3 (mPlF (A 1) (mLkO (A 1) (A 3) (A 1 3).toNat 0 (A 8) (A 9)).1 (mLkO (A 1) (A 3) (A 1 3).toNat 0 (A 8) (A 9)).2 (mTurF (A 1 2) (A 3 150) (pw (A 1 2)).toNat 0 (A 6)) (mCodF (A 1) (A 3) (A 1 3).toNat 0 1).toNat 0 0 (I 3) (I 4) (A 7) (A 10)).2.1) 4 (mPlF (A 1) (mLkO (A 1) (A 3) (A 1 3).toNat 0 (A 8) (A 9)).1 (mLkO (A 1) (A 3) (A 1 3).toNat 0 (A 8) (A 9)).2 (mTurF (A 1 2) (A 3 150) (pw (A 1 2)).toNat 0 (A 6)) (mCodF (A 1) (A 3) (A 1 3).toNat 0 1).toNat 0 0 (I 3) (I 4) (A 7) (A 10)).2.2.1) (nup (nup (nup (nup (nup A 8 (mLkO (A 1) (A 3) (A 1 3).toNat 0 (A 8) (A 9)).1) 9 (mLkO (A 1) (A 3) (A 1 3).toNat 0 (A 8) (A 9)).2) 6 (mTurF (A 1 2) (A 3 150) (pw (A 1 2)).toNat 0 (A 6))) 7 (mPlF (A 1) (mLkO (A 1) (A 3) (A 1 3).toNat 0 (A 8) (A 9)).1 (mLkO (A 1) (A 3) (A 1 3).toNat 0 (A 8) (A 9)).2 (mTurF (A 1 2) (A 3 150) (pw (A 1 2)).toNat 0 (A 6)) (mCodF (A 1) (A 3) (A 1 3).toNat 0 1).toNat 0 0 (I 3) (I 4) (A 7) (A 10)).2.2.2.1) 10 (mPlF (A 1) (mLkO (A 1) (A 3) (A 1 3).toNat 0 (A 8) (A 9)).1 (mLkO (A 1) (A 3) (A 1 3).toNat 0 (A 8) (A 9)).2 (mTurF (A 1 2) (A 3 150) (pw (A 1 2)).toNat 0 (A 6)) (mCodF (A 1) (A 3) (A 1 3).toNat 0 1).toNat 0 0 (I 3) (I 4) (A 7) (A 10)).2.2.2.2) σ2 := hM2
    have m0 : σ2[a]? = some (.inr (9, [.int (iZ (I 0)), .ref (a + 1), .int (iZ (I 1)), .ref (a + 2), .ref (a + 3), .ref (a + 4), .ref (a + 5), .int (iZ (I 2)), .ref (a + 6), .ref (a + 7), .ref (a + 8), .int (iZ ((mPlF (A 1) (mLkO (A 1) (A 3) (A 1 3).toNat 0 (A 8) (A 9)).1 (mLkO (A 1) (A 3) (A 1 3).toNat 0 (A 8) (A 9)).2 (mTurF (A 1 2) (A 3 150) (pw (A 1 2)).toNat 0 (A 6)) (mCodF (A 1) (A 3) (A 1 3).toNat 0 1).toNat 0 0 (I 3) (I 4) (A 7) (A 10)).2.1)), .int (iZ ((mPlF (A 1) (mLkO (A 1) (A 3) (A 1 3).toNat 0 (A 8) (A 9)).1 (mLkO (A 1) (A 3) (A 1 3).toNat 0 (A 8) (A 9)).2 (mTurF (A 1 2) (A 3 150) (pw (A 1 2)).toNat 0 (A 6)) (mCodF (A 1) (A 3) (A 1 3).toNat 0 1).toNat 0 0 (I 3) (I 4) (A 7) (A 10)).2.2.1)), .ref (a + 9), .ref (a + 10), .ref (a + 11)])) := m0
    have m8 : σ2[a + 8]? = some (.inl (0, 5, .inl (zA (mPlF (A 1) (mLkO (A 1) (A 3) (A 1 3).toNat 0 (A 8) (A 9)).1 (mLkO (A 1) (A 3) (A 1 3).toNat 0 (A 8) (A 9)).2 (mTurF (A 1 2) (A 3 150) (pw (A 1 2)).toNat 0 (A 6)) (mCodF (A 1) (A 3) (A 1 3).toNat 0 1).toNat 0 0 (I 3) (I 4) (A 7) (A 10)).2.2.2.1))) := m8
    have m9 : σ2[a + 9]? = some (.inl (0, 5, .inl (zA (mLkO (A 1) (A 3) (A 1 3).toNat 0 (A 8) (A 9)).1))) := m9
    have f01 := mPlF_01 (A 1) (mLkO (A 1) (A 3) (A 1 3).toNat 0 (A 8) (A 9)).1 (mLkO (A 1) (A 3) (A 1 3).toNat 0 (A 8) (A 9)).2 (mTurF (A 1 2) (A 3 150) (pw (A 1 2)).toNat 0 (A 6)) (mCodF (A 1) (A 3) (A 1 3).toNat 0 1).toNat 0 0 (I 3) (I 4) (A 7) (A 10) (by omega)
    have hOb : ∀ h, 0 ≤ h → h < A 1 3 → -1000 ≤ (mLkO (A 1) (A 3) (A 1 3).toNat 0 (A 8) (A 9)).1 h ∧ (mLkO (A 1) (A 3) (A 1 3).toNat 0 (A 8) (A 9)).1 h ≤ 1000 := fun h a0 a1 => by
      rw [mLkO_O, if_pos (by omega)]; split <;> omega
    show Go w mX9_plan (0, 0) 30 [some (.ref a), some (.int (iZ h))] [.int (iZ ((mPlF (A 1) (mLkO (A 1) (A 3) (A 1 3).toNat 0 (A 8) (A 9)).1 (mLkO (A 1) (A 3) (A 1 3).toNat 0 (A 8) (A 9)).2 (mTurF (A 1 2) (A 3 150) (pw (A 1 2)).toNat 0 (A 6)) (mCodF (A 1) (A 3) (A 1 3).toNat 0 1).toNat 0 0 (I 3) (I 4) (A 7) (A 10)).1))] σ2 _
    refine z_if_ne (t := 36) (q := 33) dX9_plan_30 rfl (by omega) rfl (fun pc3 => ?_) (fun pc3 => ?_)
    · refine g_iload_n (q := 37) dX9_plan_36 rfl rfl ?_
      refine z_iconst (q := 38) dX9_plan_37 rfl ?_
      refine z_icmp_ne (t := 48) (q := 41) dX9_plan_38 rfl (by omega) rfl (fun pc4 => ?_) (fun pc4 => ?_)
      · refine g_iload_n (q := 49) dX9_plan_48 rfl rfl ?_
        refine g_bipush (v := iZ (-2)) (q := 51) dX9_plan_49 (by decide) rfl ?_
        refine z_icmp_ne (t := 61) (q := 54) dX9_plan_51 rfl (by omega) rfl (fun pc5 => ?_) (fun pc5 => ?_)
        · refine g_aload_n (q := 62) dX9_plan_61 rfl rfl ?_
          refine g_get (q := 65) flX9_34 dX9_plan_62 m0 rfl rfl ?_
          refine g_iload_n (q := 66) dX9_plan_65 rfl rfl ?_
          refine z_iald (q := 67) dX9_plan_66 m9 (by omega) rfl ?_
          have b6 := hOb h
          refine z_iconst (q := 68) dX9_plan_67 rfl ?_
          refine z_icmp_ne (t := 80) (q := 71) dX9_plan_68 rfl (by omega) rfl (fun pc7 => ?_) (fun pc7 => ?_)
          · refine g_bipush (v := iZ (-4)) (q := 82) dX9_plan_80 (by decide) rfl ?_
            refine z_iret dX9_plan_82 rfl ?_
            refine ⟨congrArg (fun z => some (Value.int (iZ z))) (by unfold mPlanA; (repeat (first | rw [if_pos (by omega)] | rw [if_neg (by omega)]))), ?_, ?_⟩
            · exact hM3.mc
            · exact hF1.tr hF2
          · refine g_aload_n (q := 72) dX9_plan_71 rfl rfl ?_
            refine g_get (q := 75) flX9_31 dX9_plan_72 m0 rfl rfl ?_
            refine g_iload_n (q := 76) dX9_plan_75 rfl rfl ?_
            refine z_iald (q := 77) dX9_plan_76 m8 (by omega) rfl ?_
            refine g_goto (q := 82) dX9_plan_77 rfl ?_
            refine z_iret dX9_plan_82 rfl ?_
            refine ⟨congrArg (fun z => some (Value.int (iZ z))) (by unfold mPlanA; (repeat (first | rw [if_pos (by omega)] | rw [if_neg (by omega)]))), ?_, ?_⟩
            · exact hM3.mc
            · exact hF1.tr hF2
        · refine g_aload_n (q := 55) dX9_plan_54 rfl rfl ?_
          refine g_get (q := 58) flX9_188 dX9_plan_55 m0 rfl rfl ?_
          refine g_goto (q := 82) dX9_plan_58 rfl ?_
          refine z_iret dX9_plan_82 rfl ?_
          refine ⟨congrArg (fun z => some (Value.int (iZ z))) (by unfold mPlanA; (repeat (first | rw [if_pos (by omega)] | rw [if_neg (by omega)]))), ?_, ?_⟩
          · exact hM3.mc
          · exact hF1.tr hF2
      · refine g_aload_n (q := 42) dX9_plan_41 rfl rfl ?_
        refine g_get (q := 45) flX9_185 dX9_plan_42 m0 rfl rfl ?_
        refine g_goto (q := 82) dX9_plan_45 rfl ?_
        refine z_iret dX9_plan_82 rfl ?_
        refine ⟨congrArg (fun z => some (Value.int (iZ z))) (by unfold mPlanA; (repeat (first | rw [if_pos (by omega)] | rw [if_neg (by omega)]))), ?_, ?_⟩
        · exact hM3.mc
        · exact hF1.tr hF2
    · refine g_bipush (v := iZ (-4)) (q := 35) dX9_plan_33 (by decide) rfl ?_
      refine z_iret dX9_plan_35 rfl ?_
      refine ⟨congrArg (fun z => some (Value.int (iZ z))) (by unfold mPlanA; (repeat (first | rw [if_pos (by omega)] | rw [if_neg (by omega)]))), ?_, ?_⟩
      · exact hM3.mc
      · exact hF1.tr hF2
  · refine z_iconst (q := 21) dX9_plan_20 rfl ?_
    refine z_iret dX9_plan_21 rfl ?_
    refine ⟨congrArg (fun z => some (Value.int (iZ z))) (by unfold mPlanA; (repeat (first | rw [if_pos (by omega)] | rw [if_neg (by omega)]))), ?_, ?_⟩
    · exact hM.mc
    · exact g_Fr.rf
