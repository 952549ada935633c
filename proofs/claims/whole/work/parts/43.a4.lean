theorem mSeq1_b {r : Int × Int × (Int → Int)} {k : Int → (Int → Int) → Int × Int × (Int → Int)} (h : ∀ p R, 0 ≤ (k p R).1 ∧ (k p R).1 ≤ 1) : 0 ≤ (mSeq1 r k).1 ∧ (mSeq1 r k).1 ≤ 1 := by
  unfold mSeq1
  split
  · show (0 : Int) ≤ 0 ∧ (0 : Int) ≤ 1; omega
  · exact h _ _
theorem mHoleI_b (L : Int) (t : Int → Int) (p : Int) (R : Int → Int) : 0 ≤ (mHoleI L t p R).1 ∧ (mHoleI L t p R).1 ≤ 1 := by
  unfold mHoleI
  split
  · show (0 : Int) ≤ 0 ∧ (0 : Int) ≤ 1; omega
  · exact mSeq1_b (fun _ _ => mSeq1_b (fun _ _ => mSeq1_b (fun _ _ => mSeq1_b (fun _ _ => mApF_b _ _ _ _ _ (by omega)))))
theorem r_M_item (σ : g_H0) (a : Nat) (I : Nat → Int) (A : Nat → Int → Int) (p : Int) (bp : 0 ≤ p ∧ p < 1000) (R : Int → Int) (bR : zBr R) (hM : rM a (nup I 1 p) (nup A 2 R) σ) (hL : 0 ≤ I 0 ∧ I 0 ≤ 200) (ht : zBt (I 0) (A 0)) (c2 : 0 ≤ R 2 ∧ R 2 ≤ 6) (c3 : 0 ≤ R 3 ∧ R 3 ≤ 5) (c4 : 0 ≤ R 4 ∧ R 4 ≤ 2) : Ret mX9_item [.ref a] σ (fun r σ' => r = some (.int (iZ (mItem (I 0) (A 0) p R).1)) ∧ rM a (nup I 1 (mItem (I 0) (A 0) p R).2.1) (nup A 2 (mItem (I 0) (A 0) p R).2.2) σ' ∧ g_Fr (mR a) σ σ') := by
  refine Ret.of moX9_item.1 (Nat.le_of_ble_eq_true rfl) (fun w => ?_)
  obtain ⟨m0, m1, m2, m3, m4, m5, m6, m7, m8, m9, m10, m11⟩ := id hM
  have m3 : σ[a + 3]? = some (.inl (0, 51, .inl (zA R))) := m3
  have m1 : σ[a + 1]? = some (.inl (0, 200, .inl (zA (A 0)))) := m1
  have m2 : σ[a + 2]? = some (.inl (0, 51, .inl (zA (A 1)))) := m2
  have m4 : σ[a + 4]? = some (.inl (0, 156, .inl (zA (A 3)))) := m4
  have m5 : σ[a + 5]? = some (.inl (0, 936, .inl (zA (A 4)))) := m5
  have m6 : σ[a + 6]? = some (.inl (0, 156, .inl (zA (A 5)))) := m6
  have m7 : σ[a + 7]? = some (.inl (0, 64, .inl (zA (A 6)))) := m7
  have m8 : σ[a + 8]? = some (.inl (0, 5, .inl (zA (A 7)))) := m8
  have m9 : σ[a + 9]? = some (.inl (0, 5, .inl (zA (A 8)))) := m9
  have m10 : σ[a + 10]? = some (.inl (0, 60, .inl (zA (A 9)))) := m10
  have m11 : σ[a + 11]? = some (.inl (0, 5, .inl (zA (A 10)))) := m11
  have m0 : σ[a]? = some (.inr (9, [.int (iZ (I 0)), .ref (a + 1), .int (iZ p), .ref (a + 2), .ref (a + 3), .ref (a + 4), .ref (a + 5), .int (iZ (I 2)), .ref (a + 6), .ref (a + 7), .ref (a + 8), .int (iZ (I 3)), .int (iZ (I 4)), .ref (a + 9), .ref (a + 10), .ref (a + 11)])) := m0
  show Go w mX9_item (0, 0) 0 [some (.ref a), none] [] σ (fun r σ' => r = some (.int (iZ (mItem (I 0) (A 0) p R).1)) ∧ rM a (nup I 1 (mItem (I 0) (A 0) p R).2.1) (nup A 2 (mItem (I 0) (A 0) p R).2.2) σ' ∧ g_Fr (mR a) σ σ')
  refine g_aload_n (q := 1) dX9_item_0 rfl rfl ?_
  refine g_bipush (v := iZ 115) (q := 3) dX9_item_1 (by decide) rfl ?_
  refine g_bipush (v := iZ 104) (q := 5) dX9_item_3 (by decide) rfl ?_
  refine g_bipush (v := iZ 101) (q := 7) dX9_item_5 (by decide) rfl ?_
  refine g_bipush (v := iZ 101) (q := 9) dX9_item_7 (by decide) rfl ?_
  refine g_bipush (v := iZ 116) (q := 11) dX9_item_9 (by decide) rfl ?_
  refine g_callS (As := [.int (iZ 115), .int (iZ 104), .int (iZ 101), .int (iZ 101), .int (iZ 116)]) (rest := [.ref a]) (q := 14) moX9_word5 lkX9_item_88 dX9_item_11 (r_M_wv_sheet σ) rfl rfl (Nat.le_of_ble_eq_true rfl) (Nat.le_of_ble_eq_true rfl) (Nat.le_of_ble_eq_true rfl) rfl ?_
  rintro r1 s1 hp
  rw [hp.1, hp.2]
  show Go w mX9_item (0, 0) 14 [some (.ref a), none] [.long (lZ 20190388), .ref a] σ (fun r σ' => r = some (.int (iZ (mItem (I 0) (A 0) p R).1)) ∧ rM a (nup I 1 (mItem (I 0) (A 0) p R).2.1) (nup A 2 (mItem (I 0) (A 0) p R).2.2) σ' ∧ g_Fr (mR a) σ σ')
  refine z_iconst (q := 15) dX9_item_14 rfl ?_
  have hN1 : rM a (nup I 1 p) (nup A 2 R) σ := ⟨m0, m1, m2, m3, m4, m5, m6, m7, m8, m9, m10, m11⟩
  refine g_callV (As := [.long (lZ 20190388), .int (iZ 5)]) (rest := []) (q := 18) moX9_word lkX9_item_92 dX9_item_15 rfl m0 (r_M_w_sheet σ a I (nup A 2 R) p (by omega) hN1 hL ht) rfl rfl (Nat.le_of_ble_eq_true rfl) (Nat.le_of_ble_eq_true rfl) (Nat.le_of_ble_eq_true rfl) rfl ?_
  rintro r1 σ1 hp1
  rcases hp1 with ⟨hP1, rfl, hMw1, hFw1⟩ | ⟨hP1, rfl, hs1⟩
  · replace hP1 : mB (I 0) (A 0) p = 115 ∧ mB (I 0) (A 0) (p + 1) = 104 ∧ mB (I 0) (A 0) (p + 2) = 101 ∧ mB (I 0) (A 0) (p + 3) = 101 ∧ mB (I 0) (A 0) (p + 4) = 116 := hP1
    obtain ⟨m0, m1, m2, m3, m4, m5, m6, m7, m8, m9, m10, m11⟩ := id hMw1
    have m3 : σ1[a + 3]? = some (.inl (0, 51, .inl (zA R))) := m3
    have m1 : σ1[a + 1]? = some (.inl (0, 200, .inl (zA (A 0)))) := m1
    have m2 : σ1[a + 2]? = some (.inl (0, 51, .inl (zA (A 1)))) := m2
    have m4 : σ1[a + 4]? = some (.inl (0, 156, .inl (zA (A 3)))) := m4
    have m5 : σ1[a + 5]? = some (.inl (0, 936, .inl (zA (A 4)))) := m5
    have m6 : σ1[a + 6]? = some (.inl (0, 156, .inl (zA (A 5)))) := m6
    have m7 : σ1[a + 7]? = some (.inl (0, 64, .inl (zA (A 6)))) := m7
    have m8 : σ1[a + 8]? = some (.inl (0, 5, .inl (zA (A 7)))) := m8
    have m9 : σ1[a + 9]? = some (.inl (0, 5, .inl (zA (A 8)))) := m9
    have m10 : σ1[a + 10]? = some (.inl (0, 60, .inl (zA (A 9)))) := m10
    have m11 : σ1[a + 11]? = some (.inl (0, 5, .inl (zA (A 10)))) := m11
    have m0 : σ1[a]? = some (.inr (9, [.int (iZ (I 0)), .ref (a + 1), .int (iZ (p + 5)), .ref (a + 2), .ref (a + 3), .ref (a + 4), .ref (a + 5), .int (iZ (I 2)), .ref (a + 6), .ref (a + 7), .ref (a + 8), .int (iZ (I 3)), .int (iZ (I 4)), .ref (a + 9), .ref (a + 10), .ref (a + 11)])) := m0
    show Go w mX9_item (0, 0) 18 [some (.ref a), none] [.int (iZ 1)] σ1 (fun r σ' => r = some (.int (iZ (mItem (I 0) (A 0) p R).1)) ∧ rM a (nup I 1 (mItem (I 0) (A 0) p R).2.1) (nup A 2 (mItem (I 0) (A 0) p R).2.2) σ' ∧ g_Fr (mR a) σ σ')
    refine z_if_eq (t := 62) (q := 21) dX9_item_18 rfl (by omega) rfl (fun pc2 => ?_) (fun pc2 => ?_)
    · exfalso; omega
    · refine g_aload_n (q := 22) dX9_item_21 rfl rfl ?_
      refine g_get (q := 25) flX9_16 dX9_item_22 m0 rfl rfl ?_
      refine z_iconst (q := 26) dX9_item_25 rfl ?_
      refine z_iald (q := 27) dX9_item_26 m3 (by omega) rfl ?_
      have b3 := bR 0
      refine z_if_ne (t := 60) (q := 30) dX9_item_27 rfl (by omega) rfl (fun pc4 => ?_) (fun pc4 => ?_)
      · refine z_iconst (q := 61) dX9_item_60 rfl ?_
        refine z_zret dX9_item_61 rfl rfl ?_
        have eF : mItem (I 0) (A 0) p R = (0, (p + 5), R) := by
          unfold mItem; rw [if_pos hP1, if_pos (by omega)]
        rw [eF]
        exact ⟨rfl, ⟨m0, m1, m2, m3, m4, m5, m6, m7, m8, m9, m10, m11⟩, (g_Fr.rf.tr hFw1)⟩
      · refine g_aload_n (q := 31) dX9_item_30 rfl rfl ?_
        refine g_bipush (v := iZ 32) (q := 33) dX9_item_31 (by decide) rfl ?_
        refine z_iconst (q := 34) dX9_item_33 rfl ?_
        refine z_iconst (q := 35) dX9_item_34 rfl ?_
        refine g_bipush (v := iZ 12) (q := 37) dX9_item_35 (by decide) rfl ?_
        have hN5 : rM a (nup I 1 (p + 5)) (nup A 2 R) σ1 := ⟨m0, m1, m2, m3, m4, m5, m6, m7, m8, m9, m10, m11⟩
        obtain ⟨⟨k6, p6, R6⟩, e6⟩ : ∃ x, x = mNumber (I 0) (A 0) (p + 5) R 32 0 3 12 := ⟨_, rfl⟩
        have n6 := mNumber_p ht (p := (p + 5)) (by omega) R 32 0 3 12
        rw [← e6] at n6
        dsimp only at n6
        have bR6 := mNumber_R ht (p := (p + 5)) (by omega) 32 0 3 12 bR
        rw [← e6] at bR6
        replace bR6 : zBr R6 := bR6
        refine g_callV (As := [.int (iZ 32), .int (iZ 0), .int (iZ 3), .int (iZ 12)]) (rest := []) (q := 40) moX9_number lkX9_item_80 dX9_item_37 rfl m0 (r_M_number σ1 a I (nup A 2 R) (p + 5) (by omega) hN5 hL ht 32 0 3 12 (by omega) (by omega) (by omega) (by omega)) rfl rfl (Nat.le_of_ble_eq_true rfl) (Nat.le_of_ble_eq_true rfl) (Nat.le_of_ble_eq_true rfl) rfl ?_
        rintro r6 σ6 ⟨hr6, hq6, hf6⟩
        rw [show mNumber (I 0) (nup A 2 R 0) (p + 5) (nup A 2 R 2) 32 0 3 12 = (k6, p6, R6) from e6.symm] at hr6 hq6
        obtain rfl : r6 = some (.int (iZ k6)) := hr6
        have hM6 : rM a (nup I 1 p6) (nup A 2 R6) σ6 := hq6.congr (fun _ _ => rfl) (fun j _ => by rw [nup_nup])
        obtain ⟨m0, m1, m2, m3, m4, m5, m6, m7, m8, m9, m10, m11⟩ := id hM6
        have m3 : σ6[a + 3]? = some (.inl (0, 51, .inl (zA R6))) := m3
        have m1 : σ6[a + 1]? = some (.inl (0, 200, .inl (zA (A 0)))) := m1
        have m2 : σ6[a + 2]? = some (.inl (0, 51, .inl (zA (A 1)))) := m2
        have m4 : σ6[a + 4]? = some (.inl (0, 156, .inl (zA (A 3)))) := m4
        have m5 : σ6[a + 5]? = some (.inl (0, 936, .inl (zA (A 4)))) := m5
        have m6 : σ6[a + 6]? = some (.inl (0, 156, .inl (zA (A 5)))) := m6
        have m7 : σ6[a + 7]? = some (.inl (0, 64, .inl (zA (A 6)))) := m7
        have m8 : σ6[a + 8]? = some (.inl (0, 5, .inl (zA (A 7)))) := m8
        have m9 : σ6[a + 9]? = some (.inl (0, 5, .inl (zA (A 8)))) := m9
        have m10 : σ6[a + 10]? = some (.inl (0, 60, .inl (zA (A 9)))) := m10
        have m11 : σ6[a + 11]? = some (.inl (0, 5, .inl (zA (A 10)))) := m11
        have m0 : σ6[a]? = some (.inr (9, [.int (iZ (I 0)), .ref (a + 1), .int (iZ p6), .ref (a + 2), .ref (a + 3), .ref (a + 4), .ref (a + 5), .int (iZ (I 2)), .ref (a + 6), .ref (a + 7), .ref (a + 8), .int (iZ (I 3)), .int (iZ (I 4)), .ref (a + 9), .ref (a + 10), .ref (a + 11)])) := m0
        show Go w mX9_item (0, 0) 40 [some (.ref a), none] [.int (iZ k6)] σ6 (fun r σ' => r = some (.int (iZ (mItem (I 0) (A 0) p R).1)) ∧ rM a (nup I 1 (mItem (I 0) (A 0) p R).2.1) (nup A 2 (mItem (I 0) (A 0) p R).2.2) σ' ∧ g_Fr (mR a) σ σ')
        refine z_if_eq (t := 60) (q := 43) dX9_item_40 rfl (by omega) rfl (fun pc7 => ?_) (fun pc7 => ?_)
        · refine z_iconst (q := 61) dX9_item_60 rfl ?_
          refine z_zret dX9_item_61 rfl rfl ?_
          have eF : mItem (I 0) (A 0) p R = (0, p6, R6) := by
            unfold mItem; rw [if_pos hP1, if_neg (by omega), ← e6, mSeq1_f (by omega)]
          rw [eF]
          exact ⟨rfl, ⟨m0, m1, m2, m3, m4, m5, m6, m7, m8, m9, m10, m11⟩, ((g_Fr.rf.tr hFw1).tr hf6)⟩
        · refine g_aload_n (q := 44) dX9_item_43 rfl rfl ?_
          refine g_bipush (v := iZ 44) (q := 46) dX9_item_44 (by decide) rfl ?_
          refine z_iconst (q := 47) dX9_item_46 rfl ?_
          refine z_iconst (q := 48) dX9_item_47 rfl ?_
          refine g_bipush (v := iZ 12) (q := 50) dX9_item_48 (by decide) rfl ?_
          have hN8 : rM a (nup I 1 p6) (nup A 2 R6) σ6 := ⟨m0, m1, m2, m3, m4, m5, m6, m7, m8, m9, m10, m11⟩
          obtain ⟨⟨k9, p9, R9⟩, e9⟩ : ∃ x, x = mNumber (I 0) (A 0) p6 R6 44 1 3 12 := ⟨_, rfl⟩
          have n9 := mNumber_p ht (p := p6) (by omega) R6 44 1 3 12
          rw [← e9] at n9
          dsimp only at n9
          have bR9 := mNumber_R ht (p := p6) (by omega) 44 1 3 12 bR6
          rw [← e9] at bR9
          replace bR9 : zBr R9 := bR9
          refine g_callV (As := [.int (iZ 44), .int (iZ 1), .int (iZ 3), .int (iZ 12)]) (rest := []) (q := 53) moX9_number lkX9_item_80 dX9_item_50 rfl m0 (r_M_number σ6 a I (nup A 2 R6) p6 (by omega) hN8 hL ht 44 1 3 12 (by omega) (by omega) (by omega) (by omega)) rfl rfl (Nat.le_of_ble_eq_true rfl) (Nat.le_of_ble_eq_true rfl) (Nat.le_of_ble_eq_true rfl) rfl ?_
          rintro r9 σ9 ⟨hr9, hq9, hf9⟩
          rw [show mNumber (I 0) (nup A 2 R6 0) p6 (nup A 2 R6 2) 44 1 3 12 = (k9, p9, R9) from e9.symm] at hr9 hq9
          obtain rfl : r9 = some (.int (iZ k9)) := hr9
          have hM9 : rM a (nup I 1 p9) (nup A 2 R9) σ9 := hq9.congr (fun _ _ => rfl) (fun j _ => by rw [nup_nup])
          obtain ⟨m0, m1, m2, m3, m4, m5, m6, m7, m8, m9, m10, m11⟩ := id hM9
          have m3 : σ9[a + 3]? = some (.inl (0, 51, .inl (zA R9))) := m3
          have m1 : σ9[a + 1]? = some (.inl (0, 200, .inl (zA (A 0)))) := m1
          have m2 : σ9[a + 2]? = some (.inl (0, 51, .inl (zA (A 1)))) := m2
          have m4 : σ9[a + 4]? = some (.inl (0, 156, .inl (zA (A 3)))) := m4
          have m5 : σ9[a + 5]? = some (.inl (0, 936, .inl (zA (A 4)))) := m5
          have m6 : σ9[a + 6]? = some (.inl (0, 156, .inl (zA (A 5)))) := m6
          have m7 : σ9[a + 7]? = some (.inl (0, 64, .inl (zA (A 6)))) := m7
          have m8 : σ9[a + 8]? = some (.inl (0, 5, .inl (zA (A 7)))) := m8
          have m9 : σ9[a + 9]? = some (.inl (0, 5, .inl (zA (A 8)))) := m9
          have m10 : σ9[a + 10]? = some (.inl (0, 60, .inl (zA (A 9)))) := m10
          have m11 : σ9[a + 11]? = some (.inl (0, 5, .inl (zA (A 10)))) := m11
          have m0 : σ9[a]? = some (.inr (9, [.int (iZ (I 0)), .ref (a + 1), .int (iZ p9), .ref (a + 2), .ref (a + 3), .ref (a + 4), .ref (a + 5), .int (iZ (I 2)), .ref (a + 6), .ref (a + 7), .ref (a + 8), .int (iZ (I 3)), .int (iZ (I 4)), .ref (a + 9), .ref (a + 10), .ref (a + 11)])) := m0
          show Go w mX9_item (0, 0) 53 [some (.ref a), none] [.int (iZ k9)] σ9 (fun r σ' => r = some (.int (iZ (mItem (I 0) (A 0) p R).1)) ∧ rM a (nup I 1 (mItem (I 0) (A 0) p R).2.1) (nup A 2 (mItem (I 0) (A 0) p R).2.2) σ' ∧ g_Fr (mR a) σ σ')
          refine z_if_eq (t := 60) (q := 56) dX9_item_53 rfl (by omega) rfl (fun pc10 => ?_) (fun pc10 => ?_)
          · refine z_iconst (q := 61) dX9_item_60 rfl ?_
            refine z_zret dX9_item_61 rfl rfl ?_
            have eF : mItem (I 0) (A 0) p R = (0, p9, R9) := by
              unfold mItem; rw [if_pos hP1, if_neg (by omega), ← e6, mSeq1_t (by omega), ← e9, mSeq1_f (by omega)]
            rw [eF]
            exact ⟨rfl, ⟨m0, m1, m2, m3, m4, m5, m6, m7, m8, m9, m10, m11⟩, (((g_Fr.rf.tr hFw1).tr hf6).tr hf9)⟩
          · refine z_iconst (q := 57) dX9_item_56 rfl ?_
            refine g_goto (q := 61) dX9_item_57 rfl ?_
            refine z_zret dX9_item_61 rfl rfl ?_
            have eF : mItem (I 0) (A 0) p R = (1, p9, R9) := by
              unfold mItem; rw [if_pos hP1, if_neg (by omega), ← e6, mSeq1_t (by omega), ← e9, mSeq1_t (by omega)]
            rw [eF]
            exact ⟨rfl, ⟨m0, m1, m2, m3, m4, m5, m6, m7, m8, m9, m10, m11⟩, (((g_Fr.rf.tr hFw1).tr hf6).tr hf9)⟩
  · replace hP1 : ¬ (mB (I 0) (A 0) p = 115 ∧ mB (I 0) (A 0) (p + 1) = 104 ∧ mB (I 0) (A 0) (p + 2) = 101 ∧ mB (I 0) (A 0) (p + 3) = 101 ∧ mB (I 0) (A 0) (p + 4) = 116) := hP1
    rw [hs1]
    show Go w mX9_item (0, 0) 18 [some (.ref a), none] [.int (iZ 0)] σ (fun r σ' => r = some (.int (iZ (mItem (I 0) (A 0) p R).1)) ∧ rM a (nup I 1 (mItem (I 0) (A 0) p R).2.1) (nup A 2 (mItem (I 0) (A 0) p R).2.2) σ' ∧ g_Fr (mR a) σ σ')
    refine z_if_eq (t := 62) (q := 21) dX9_item_18 rfl (by omega) rfl (fun pc11 => ?_) (fun pc11 => ?_)
    · refine g_aload_n (q := 63) dX9_item_62 rfl rfl ?_
      refine g_get (q := 66) flX9_16 dX9_item_63 m0 rfl rfl ?_
      refine z_iconst (q := 67) dX9_item_66 rfl ?_
      refine z_iald (q := 68) dX9_item_67 m3 (by omega) rfl ?_
      have b12 := bR 0
      refine z_if_ne (t := 73) (q := 71) dX9_item_68 rfl (by omega) rfl (fun pc13 => ?_) (fun pc13 => ?_)
      · refine g_aload_n (q := 74) dX9_item_73 rfl rfl ?_
        refine g_bipush (v := iZ 116) (q := 76) dX9_item_74 (by decide) rfl ?_
        refine g_bipush (v := iZ 111) (q := 78) dX9_item_76 (by decide) rfl ?_
        refine g_bipush (v := iZ 111) (q := 80) dX9_item_78 (by decide) rfl ?_
        refine g_bipush (v := iZ 108) (q := 82) dX9_item_80 (by decide) rfl ?_
        refine g_callS (As := [.int (iZ 116), .int (iZ 111), .int (iZ 111), .int (iZ 108)]) (rest := [.ref a]) (q := 85) moX9_word4 lkX9_item_96 dX9_item_82 (r_M_wv_tool σ) rfl rfl (Nat.le_of_ble_eq_true rfl) (Nat.le_of_ble_eq_true rfl) (Nat.le_of_ble_eq_true rfl) rfl ?_
        rintro r1 s1 hp
        rw [hp.1, hp.2]
        show Go w mX9_item (0, 0) 85 [some (.ref a), none] [.long (lZ 671212), .ref a] σ (fun r σ' => r = some (.int (iZ (mItem (I 0) (A 0) p R).1)) ∧ rM a (nup I 1 (mItem (I 0) (A 0) p R).2.1) (nup A 2 (mItem (I 0) (A 0) p R).2.2) σ' ∧ g_Fr (mR a) σ σ')
        refine z_iconst (q := 86) dX9_item_85 rfl ?_
        have hN14 : rM a (nup I 1 p) (nup A 2 R) σ := ⟨m0, m1, m2, m3, m4, m5, m6, m7, m8, m9, m10, m11⟩
        refine g_callV (As := [.long (lZ 671212), .int (iZ 4)]) (rest := []) (q := 89) moX9_word lkX9_item_92 dX9_item_86 rfl m0 (r_M_w_tool σ a I (nup A 2 R) p (by omega) hN14 hL ht) rfl rfl (Nat.le_of_ble_eq_true rfl) (Nat.le_of_ble_eq_true rfl) (Nat.le_of_ble_eq_true rfl) rfl ?_
        rintro r14 σ14 hp14
        rcases hp14 with ⟨hP14, rfl, hMw14, hFw14⟩ | ⟨hP14, rfl, hs14⟩
        · replace hP14 : mB (I 0) (A 0) p = 116 ∧ mB (I 0) (A 0) (p + 1) = 111 ∧ mB (I 0) (A 0) (p + 2) = 111 ∧ mB (I 0) (A 0) (p + 3) = 108 := hP14
          obtain ⟨m0, m1, m2, m3, m4, m5, m6, m7, m8, m9, m10, m11⟩ := id hMw14
          have m3 : σ14[a + 3]? = some (.inl (0, 51, .inl (zA R))) := m3
          have m1 : σ14[a + 1]? = some (.inl (0, 200, .inl (zA (A 0)))) := m1
          have m2 : σ14[a + 2]? = some (.inl (0, 51, .inl (zA (A 1)))) := m2
          have m4 : σ14[a + 4]? = some (.inl (0, 156, .inl (zA (A 3)))) := m4
          have m5 : σ14[a + 5]? = some (.inl (0, 936, .inl (zA (A 4)))) := m5
          have m6 : σ14[a + 6]? = some (.inl (0, 156, .inl (zA (A 5)))) := m6
          have m7 : σ14[a + 7]? = some (.inl (0, 64, .inl (zA (A 6)))) := m7
          have m8 : σ14[a + 8]? = some (.inl (0, 5, .inl (zA (A 7)))) := m8
          have m9 : σ14[a + 9]? = some (.inl (0, 5, .inl (zA (A 8)))) := m9
          have m10 : σ14[a + 10]? = some (.inl (0, 60, .inl (zA (A 9)))) := m10
          have m11 : σ14[a + 11]? = some (.inl (0, 5, .inl (zA (A 10)))) := m11
          have m0 : σ14[a]? = some (.inr (9, [.int (iZ (I 0)), .ref (a + 1), .int (iZ (p + 4)), .ref (a + 2), .ref (a + 3), .ref (a + 4), .ref (a + 5), .int (iZ (I 2)), .ref (a + 6), .ref (a + 7), .ref (a + 8), .int (iZ (I 3)), .int (iZ (I 4)), .ref (a + 9), .ref (a + 10), .ref (a + 11)])) := m0
          show Go w mX9_item (0, 0) 89 [some (.ref a), none] [.int (iZ 1)] σ14 (fun r σ' => r = some (.int (iZ (mItem (I 0) (A 0) p R).1)) ∧ rM a (nup I 1 (mItem (I 0) (A 0) p R).2.1) (nup A 2 (mItem (I 0) (A 0) p R).2.2) σ' ∧ g_Fr (mR a) σ σ')
          refine z_if_eq (t := 187) (q := 92) dX9_item_89 rfl (by omega) rfl (fun pc15 => ?_) (fun pc15 => ?_)
          · exfalso; omega
          · refine z_iconst (q := 93) dX9_item_92 rfl ?_
            refine z_iconst (q := 94) dX9_item_93 rfl ?_
            refine g_aload_n (q := 95) dX9_item_94 rfl rfl ?_
            refine g_get (q := 98) flX9_16 dX9_item_95 m0 rfl rfl ?_
            refine z_iconst (q := 99) dX9_item_98 rfl ?_
            refine z_iald (q := 100) dX9_item_99 m3 (by omega) rfl ?_
            have b16 := bR 2
            refine z_imul (q := 101) dX9_item_100 rfl ?_
            refine z_iaddc (c := (4 * (R 2) + 5)) (q := 102) dX9_item_101 (by omega) rfl ?_
            refine g_istore_n (ml' := [some (.ref a), some (.int (iZ (4 * (R 2) + 5)))]) (q := 103) dX9_item_102 rfl (Nat.le_of_ble_eq_true rfl) rfl rfl ?_
            refine g_aload_n (q := 104) dX9_item_103 rfl rfl ?_
            refine g_get (q := 107) flX9_16 dX9_item_104 m0 rfl rfl ?_
            refine z_iconst (q := 108) dX9_item_107 rfl ?_
            refine g_dup2 (q := 109) dX9_item_108 rfl rfl rfl ?_
            refine z_iald (q := 110) dX9_item_109 m3 (by omega) rfl ?_
            have b17 := bR 2
            refine z_iconst (q := 111) dX9_item_110 rfl ?_
            refine z_iadd (q := 112) dX9_item_111 rfl ?_
            refine z_iast (q := 113) dX9_item_112 m3 (by omega) rfl (fun σ18 c19 f20 => ?_)
            have c21 := (f20.2 a (by omega)).trans m0
            have c22 := (f20.2 (a + 1) (by omega)).trans m1
            have c23 := (f20.2 (a + 2) (by omega)).trans m2
            have c24 := (f20.2 (a + 4) (by omega)).trans m4
            have c25 := (f20.2 (a + 5) (by omega)).trans m5
            have c26 := (f20.2 (a + 6) (by omega)).trans m6
            have c27 := (f20.2 (a + 7) (by omega)).trans m7
            have c28 := (f20.2 (a + 8) (by omega)).trans m8
            have c29 := (f20.2 (a + 9) (by omega)).trans m9
            have c30 := (f20.2 (a + 10) (by omega)).trans m10
            have c31 := (f20.2 (a + 11) (by omega)).trans m11
            have bRz : zBr (zup R 2 (R 2 + 1)) := bR.up 2 (by omega)
            have ez : zup R 2 (R 2 + 1) 2 = R 2 + 1 := zup_self _ _ _
            refine g_aload_n (q := 114) dX9_item_113 rfl rfl ?_
            refine g_get (q := 117) flX9_16 dX9_item_114 c21 rfl rfl ?_
            refine z_iconst (q := 118) dX9_item_117 rfl ?_
            refine z_iald (q := 119) dX9_item_118 c19 (by omega) rfl ?_
            have b32 := bRz 2
            refine g_bipush (v := iZ 7) (q := 121) dX9_item_119 (by decide) rfl ?_
            refine z_icmp_ge (t := 185) (q := 124) dX9_item_121 rfl (by omega) rfl (fun pc33 => ?_) (fun pc33 => ?_)
            · refine z_iconst (q := 186) dX9_item_185 rfl ?_
              refine z_zret dX9_item_186 rfl rfl ?_
              have eF : mItem (I 0) (A 0) p R = (0, (p + 4), (zup R 2 ((R 2) + 1))) := by
                unfold mItem; rw [if_neg hP1, if_neg (by omega), if_pos hP14, if_pos (by omega)]
              rw [eF]
              exact ⟨rfl, ⟨c21, c22, c23, c19, c24, c25, c26, c27, c28, c29, c30, c31⟩, ((g_Fr.rf.tr hFw14).step f20 ⟨by omega, by omega⟩)⟩
            · refine g_aload_n (q := 125) dX9_item_124 rfl rfl ?_
              refine g_bipush (v := iZ 32) (q := 127) dX9_item_125 (by decide) rfl ?_
              refine g_iload_n (q := 128) dX9_item_127 rfl rfl ?_
              refine z_iconst (q := 129) dX9_item_128 rfl ?_
              refine g_bipush (v := iZ 6) (q := 131) dX9_item_129 (by decide) rfl ?_
              have hN34 : rM a (nup I 1 (p + 4)) (nup A 2 (zup R 2 ((R 2) + 1))) σ18 := ⟨c21, c22, c23, c19, c24, c25, c26, c27, c28, c29, c30, c31⟩
              obtain ⟨⟨k35, p35, R35⟩, e35⟩ : ∃ x, x = mNumber (I 0) (A 0) (p + 4) (zup R 2 ((R 2) + 1)) 32 (4 * (R 2) + 5) 1 6 := ⟨_, rfl⟩
              have n35 := mNumber_p ht (p := (p + 4)) (by omega) (zup R 2 ((R 2) + 1)) 32 (4 * (R 2) + 5) 1 6
              rw [← e35] at n35
              dsimp only at n35
              have bR35 := mNumber_R ht (p := (p + 4)) (by omega) 32 (4 * (R 2) + 5) 1 6 bRz
              rw [← e35] at bR35
              replace bR35 : zBr R35 := bR35
              refine g_callV (As := [.int (iZ 32), .int (iZ (4 * (R 2) + 5)), .int (iZ 1), .int (iZ 6)]) (rest := []) (q := 134) moX9_number lkX9_item_80 dX9_item_131 rfl c21 (r_M_number σ18 a I (nup A 2 (zup R 2 ((R 2) + 1))) (p + 4) (by omega) hN34 hL ht 32 (4 * (R 2) + 5) 1 6 (by omega) (by omega) (by omega) (by omega)) rfl rfl (Nat.le_of_ble_eq_true rfl) (Nat.le_of_ble_eq_true rfl) (Nat.le_of_ble_eq_true rfl) rfl ?_
              rintro r35 σ35 ⟨hr35, hq35, hf35⟩
              rw [show mNumber (I 0) (nup A 2 (zup R 2 ((R 2) + 1)) 0) (p + 4) (nup A 2 (zup R 2 ((R 2) + 1)) 2) 32 (4 * (R 2) + 5) 1 6 = (k35, p35, R35) from e35.symm] at hr35 hq35
              obtain rfl : r35 = some (.int (iZ k35)) := hr35
              have hM35 : rM a (nup I 1 p35) (nup A 2 R35) σ35 := hq35.congr (fun _ _ => rfl) (fun j _ => by rw [nup_nup])
              obtain ⟨m0, m1, m2, m3, m4, m5, m6, m7, m8, m9, m10, m11⟩ := id hM35
              have m3 : σ35[a + 3]? = some (.inl (0, 51, .inl (zA R35))) := m3
              have m1 : σ35[a + 1]? = some (.inl (0, 200, .inl (zA (A 0)))) := m1
              have m2 : σ35[a + 2]? = some (.inl (0, 51, .inl (zA (A 1)))) := m2
              have m4 : σ35[a + 4]? = some (.inl (0, 156, .inl (zA (A 3)))) := m4
              have m5 : σ35[a + 5]? = some (.inl (0, 936, .inl (zA (A 4)))) := m5
              have m6 : σ35[a + 6]? = some (.inl (0, 156, .inl (zA (A 5)))) := m6
              have m7 : σ35[a + 7]? = some (.inl (0, 64, .inl (zA (A 6)))) := m7
              have m8 : σ35[a + 8]? = some (.inl (0, 5, .inl (zA (A 7)))) := m8
              have m9 : σ35[a + 9]? = some (.inl (0, 5, .inl (zA (A 8)))) := m9
              have m10 : σ35[a + 10]? = some (.inl (0, 60, .inl (zA (A 9)))) := m10
              have m11 : σ35[a + 11]? = some (.inl (0, 5, .inl (zA (A 10)))) := m11
              have m0 : σ35[a]? = some (.inr (9, [.int (iZ (I 0)), .ref (a + 1), .int (iZ p35), .ref (a + 2), .ref (a + 3), .ref (a + 4), .ref (a + 5), .int (iZ (I 2)), .ref (a + 6), .ref (a + 7), .ref (a + 8), .int (iZ (I 3)), .int (iZ (I 4)), .ref (a + 9), .ref (a + 10), .ref (a + 11)])) := m0
              show Go w mX9_item (0, 0) 134 [some (.ref a), some (.int (iZ (4 * (R 2) + 5)))] [.int (iZ k35)] σ35 (fun r σ' => r = some (.int (iZ (mItem (I 0) (A 0) p R).1)) ∧ rM a (nup I 1 (mItem (I 0) (A 0) p R).2.1) (nup A 2 (mItem (I 0) (A 0) p R).2.2) σ' ∧ g_Fr (mR a) σ σ')
              refine z_if_eq (t := 185) (q := 137) dX9_item_134 rfl (by omega) rfl (fun pc36 => ?_) (fun pc36 => ?_)
              · refine z_iconst (q := 186) dX9_item_185 rfl ?_
                refine z_zret dX9_item_186 rfl rfl ?_
                have eF : mItem (I 0) (A 0) p R = (0, p35, R35) := by
                  unfold mItem; rw [if_neg hP1, if_neg (by omega), if_pos hP14, if_neg (by omega), ← e35, mSeq1_f (by omega)]
                rw [eF]
                exact ⟨rfl, ⟨m0, m1, m2, m3, m4, m5, m6, m7, m8, m9, m10, m11⟩, (((g_Fr.rf.tr hFw14).step f20 ⟨by omega, by omega⟩).tr hf35)⟩
              · refine g_aload_n (q := 138) dX9_item_137 rfl rfl ?_
                refine g_bipush (v := iZ 44) (q := 140) dX9_item_138 (by decide) rfl ?_
                refine g_iload_n (q := 141) dX9_item_140 rfl rfl ?_
                refine z_iconst (q := 142) dX9_item_141 rfl ?_
                refine z_iaddc (c := (4 * (R 2) + 6)) (q := 143) dX9_item_142 (by omega) rfl ?_
                refine z_iconst (q := 144) dX9_item_143 rfl ?_
                refine g_bipush (v := iZ 6) (q := 146) dX9_item_144 (by decide) rfl ?_
                have hN37 : rM a (nup I 1 p35) (nup A 2 R35) σ35 := ⟨m0, m1, m2, m3, m4, m5, m6, m7, m8, m9, m10, m11⟩
                obtain ⟨⟨k38, p38, R38⟩, e38⟩ : ∃ x, x = mNumber (I 0) (A 0) p35 R35 44 (4 * (R 2) + 6) 1 6 := ⟨_, rfl⟩
                have n38 := mNumber_p ht (p := p35) (by omega) R35 44 (4 * (R 2) + 6) 1 6
                rw [← e38] at n38
                dsimp only at n38
                have bR38 := mNumber_R ht (p := p35) (by omega) 44 (4 * (R 2) + 6) 1 6 bR35
                rw [← e38] at bR38
                replace bR38 : zBr R38 := bR38
                refine g_callV (As := [.int (iZ 44), .int (iZ (4 * (R 2) + 6)), .int (iZ 1), .int (iZ 6)]) (rest := []) (q := 149) moX9_number lkX9_item_80 dX9_item_146 rfl m0 (r_M_number σ35 a I (nup A 2 R35) p35 (by omega) hN37 hL ht 44 (4 * (R 2) + 6) 1 6 (by omega) (by omega) (by omega) (by omega)) rfl rfl (Nat.le_of_ble_eq_true rfl) (Nat.le_of_ble_eq_true rfl) (Nat.le_of_ble_eq_true rfl) rfl ?_
                rintro r38 σ38 ⟨hr38, hq38, hf38⟩
                rw [show mNumber (I 0) (nup A 2 R35 0) p35 (nup A 2 R35 2) 44 (4 * (R 2) + 6) 1 6 = (k38, p38, R38) from e38.symm] at hr38 hq38
                obtain rfl : r38 = some (.int (iZ k38)) := hr38
                have hM38 : rM a (nup I 1 p38) (nup A 2 R38) σ38 := hq38.congr (fun _ _ => rfl) (fun j _ => by rw [nup_nup])
                obtain ⟨m0, m1, m2, m3, m4, m5, m6, m7, m8, m9, m10, m11⟩ := id hM38
                have m3 : σ38[a + 3]? = some (.inl (0, 51, .inl (zA R38))) := m3
                have m1 : σ38[a + 1]? = some (.inl (0, 200, .inl (zA (A 0)))) := m1
                have m2 : σ38[a + 2]? = some (.inl (0, 51, .inl (zA (A 1)))) := m2
                have m4 : σ38[a + 4]? = some (.inl (0, 156, .inl (zA (A 3)))) := m4
                have m5 : σ38[a + 5]? = some (.inl (0, 936, .inl (zA (A 4)))) := m5
                have m6 : σ38[a + 6]? = some (.inl (0, 156, .inl (zA (A 5)))) := m6
                have m7 : σ38[a + 7]? = some (.inl (0, 64, .inl (zA (A 6)))) := m7
                have m8 : σ38[a + 8]? = some (.inl (0, 5, .inl (zA (A 7)))) := m8
                have m9 : σ38[a + 9]? = some (.inl (0, 5, .inl (zA (A 8)))) := m9
                have m10 : σ38[a + 10]? = some (.inl (0, 60, .inl (zA (A 9)))) := m10
                have m11 : σ38[a + 11]? = some (.inl (0, 5, .inl (zA (A 10)))) := m11
                have m0 : σ38[a]? = some (.inr (9, [.int (iZ (I 0)), .ref (a + 1), .int (iZ p38), .ref (a + 2), .ref (a + 3), .ref (a + 4), .ref (a + 5), .int (iZ (I 2)), .ref (a + 6), .ref (a + 7), .ref (a + 8), .int (iZ (I 3)), .int (iZ (I 4)), .ref (a + 9), .ref (a + 10), .ref (a + 11)])) := m0
                show Go w mX9_item (0, 0) 149 [some (.ref a), some (.int (iZ (4 * (R 2) + 5)))] [.int (iZ k38)] σ38 (fun r σ' => r = some (.int (iZ (mItem (I 0) (A 0) p R).1)) ∧ rM a (nup I 1 (mItem (I 0) (A 0) p R).2.1) (nup A 2 (mItem (I 0) (A 0) p R).2.2) σ' ∧ g_Fr (mR a) σ σ')
                refine z_if_eq (t := 185) (q := 152) dX9_item_149 rfl (by omega) rfl (fun pc39 => ?_) (fun pc39 => ?_)
                · refine z_iconst (q := 186) dX9_item_185 rfl ?_
                  refine z_zret dX9_item_186 rfl rfl ?_
                  have eF : mItem (I 0) (A 0) p R = (0, p38, R38) := by
                    unfold mItem; rw [if_neg hP1, if_neg (by omega), if_pos hP14, if_neg (by omega), ← e35, mSeq1_t (by omega), ← e38, mSeq1_f (by omega)]
                  rw [eF]
                  exact ⟨rfl, ⟨m0, m1, m2, m3, m4, m5, m6, m7, m8, m9, m10, m11⟩, ((((g_Fr.rf.tr hFw14).step f20 ⟨by omega, by omega⟩).tr hf35).tr hf38)⟩
                · refine g_aload_n (q := 153) dX9_item_152 rfl rfl ?_
                  refine g_bipush (v := iZ 44) (q := 155) dX9_item_153 (by decide) rfl ?_
                  refine g_iload_n (q := 156) dX9_item_155 rfl rfl ?_
                  refine z_iconst (q := 157) dX9_item_156 rfl ?_
                  refine z_iaddc (c := (4 * (R 2) + 7)) (q := 158) dX9_item_157 (by omega) rfl ?_
                  refine z_iconst (q := 159) dX9_item_158 rfl ?_
                  refine z_iconst (q := 160) dX9_item_159 rfl ?_
                  have hN40 : rM a (nup I 1 p38) (nup A 2 R38) σ38 := ⟨m0, m1, m2, m3, m4, m5, m6, m7, m8, m9, m10, m11⟩
                  obtain ⟨⟨k41, p41, R41⟩, e41⟩ : ∃ x, x = mNumber (I 0) (A 0) p38 R38 44 (4 * (R 2) + 7) 0 1 := ⟨_, rfl⟩
                  have n41 := mNumber_p ht (p := p38) (by omega) R38 44 (4 * (R 2) + 7) 0 1
                  rw [← e41] at n41
                  dsimp only at n41
                  have bR41 := mNumber_R ht (p := p38) (by omega) 44 (4 * (R 2) + 7) 0 1 bR38
                  rw [← e41] at bR41
                  replace bR41 : zBr R41 := bR41
                  refine g_callV (As := [.int (iZ 44), .int (iZ (4 * (R 2) + 7)), .int (iZ 0), .int (iZ 1)]) (rest := []) (q := 163) moX9_number lkX9_item_80 dX9_item_160 rfl m0 (r_M_number σ38 a I (nup A 2 R38) p38 (by omega) hN40 hL ht 44 (4 * (R 2) + 7) 0 1 (by omega) (by omega) (by omega) (by omega)) rfl rfl (Nat.le_of_ble_eq_true rfl) (Nat.le_of_ble_eq_true rfl) (Nat.le_of_ble_eq_true rfl) rfl ?_
                  rintro r41 σ41 ⟨hr41, hq41, hf41⟩
                  rw [show mNumber (I 0) (nup A 2 R38 0) p38 (nup A 2 R38 2) 44 (4 * (R 2) + 7) 0 1 = (k41, p41, R41) from e41.symm] at hr41 hq41
                  obtain rfl : r41 = some (.int (iZ k41)) := hr41
                  have hM41 : rM a (nup I 1 p41) (nup A 2 R41) σ41 := hq41.congr (fun _ _ => rfl) (fun j _ => by rw [nup_nup])
                  obtain ⟨m0, m1, m2, m3, m4, m5, m6, m7, m8, m9, m10, m11⟩ := id hM41
                  have m3 : σ41[a + 3]? = some (.inl (0, 51, .inl (zA R41))) := m3
                  have m1 : σ41[a + 1]? = some (.inl (0, 200, .inl (zA (A 0)))) := m1
                  have m2 : σ41[a + 2]? = some (.inl (0, 51, .inl (zA (A 1)))) := m2
                  have m4 : σ41[a + 4]? = some (.inl (0, 156, .inl (zA (A 3)))) := m4
                  have m5 : σ41[a + 5]? = some (.inl (0, 936, .inl (zA (A 4)))) := m5
                  have m6 : σ41[a + 6]? = some (.inl (0, 156, .inl (zA (A 5)))) := m6
                  have m7 : σ41[a + 7]? = some (.inl (0, 64, .inl (zA (A 6)))) := m7
                  have m8 : σ41[a + 8]? = some (.inl (0, 5, .inl (zA (A 7)))) := m8
                  have m9 : σ41[a + 9]? = some (.inl (0, 5, .inl (zA (A 8)))) := m9
                  have m10 : σ41[a + 10]? = some (.inl (0, 60, .inl (zA (A 9)))) := m10
                  have m11 : σ41[a + 11]? = some (.inl (0, 5, .inl (zA (A 10)))) := m11
                  have m0 : σ41[a]? = some (.inr (9, [.int (iZ (I 0)), .ref (a + 1), .int (iZ p41), .ref (a + 2), .ref (a + 3), .ref (a + 4), .ref (a + 5), .int (iZ (I 2)), .ref (a + 6), .ref (a + 7), .ref (a + 8), .int (iZ (I 3)), .int (iZ (I 4)), .ref (a + 9), .ref (a + 10), .ref (a + 11)])) := m0
                  show Go w mX9_item (0, 0) 163 [some (.ref a), some (.int (iZ (4 * (R 2) + 5)))] [.int (iZ k41)] σ41 (fun r σ' => r = some (.int (iZ (mItem (I 0) (A 0) p R).1)) ∧ rM a (nup I 1 (mItem (I 0) (A 0) p R).2.1) (nup A 2 (mItem (I 0) (A 0) p R).2.2) σ' ∧ g_Fr (mR a) σ σ')
                  refine z_if_eq (t := 185) (q := 166) dX9_item_163 rfl (by omega) rfl (fun pc42 => ?_) (fun pc42 => ?_)
                  · refine z_iconst (q := 186) dX9_item_185 rfl ?_
                    refine z_zret dX9_item_186 rfl rfl ?_
                    have eF : mItem (I 0) (A 0) p R = (0, p41, R41) := by
                      unfold mItem; rw [if_neg hP1, if_neg (by omega), if_pos hP14, if_neg (by omega), ← e35, mSeq1_t (by omega), ← e38, mSeq1_t (by omega), ← e41, mSeq1_f (by omega)]
                    rw [eF]
                    exact ⟨rfl, ⟨m0, m1, m2, m3, m4, m5, m6, m7, m8, m9, m10, m11⟩, (((((g_Fr.rf.tr hFw14).step f20 ⟨by omega, by omega⟩).tr hf35).tr hf38).tr hf41)⟩
                  · refine g_aload_n (q := 167) dX9_item_166 rfl rfl ?_
                    refine g_bipush (v := iZ 44) (q := 169) dX9_item_167 (by decide) rfl ?_
                    refine g_iload_n (q := 170) dX9_item_169 rfl rfl ?_
                    refine z_iconst (q := 171) dX9_item_170 rfl ?_
                    refine z_iaddc (c := (4 * (R 2) + 8)) (q := 172) dX9_item_171 (by omega) rfl ?_
                    refine z_iconst (q := 173) dX9_item_172 rfl ?_
                    refine g_bipush (v := iZ 99) (q := 175) dX9_item_173 (by decide) rfl ?_
                    have hN43 : rM a (nup I 1 p41) (nup A 2 R41) σ41 := ⟨m0, m1, m2, m3, m4, m5, m6, m7, m8, m9, m10, m11⟩
                    obtain ⟨⟨k44, p44, R44⟩, e44⟩ : ∃ x, x = mNumber (I 0) (A 0) p41 R41 44 (4 * (R 2) + 8) 1 99 := ⟨_, rfl⟩
                    have n44 := mNumber_p ht (p := p41) (by omega) R41 44 (4 * (R 2) + 8) 1 99
                    rw [← e44] at n44
                    dsimp only at n44
                    have bR44 := mNumber_R ht (p := p41) (by omega) 44 (4 * (R 2) + 8) 1 99 bR41
                    rw [← e44] at bR44
                    replace bR44 : zBr R44 := bR44
                    refine g_callV (As := [.int (iZ 44), .int (iZ (4 * (R 2) + 8)), .int (iZ 1), .int (iZ 99)]) (rest := []) (q := 178) moX9_number lkX9_item_80 dX9_item_175 rfl m0 (r_M_number σ41 a I (nup A 2 R41) p41 (by omega) hN43 hL ht 44 (4 * (R 2) + 8) 1 99 (by omega) (by omega) (by omega) (by omega)) rfl rfl (Nat.le_of_ble_eq_true rfl) (Nat.le_of_ble_eq_true rfl) (Nat.le_of_ble_eq_true rfl) rfl ?_
                    rintro r44 σ44 ⟨hr44, hq44, hf44⟩
                    rw [show mNumber (I 0) (nup A 2 R41 0) p41 (nup A 2 R41 2) 44 (4 * (R 2) + 8) 1 99 = (k44, p44, R44) from e44.symm] at hr44 hq44
                    obtain rfl : r44 = some (.int (iZ k44)) := hr44
                    have hM44 : rM a (nup I 1 p44) (nup A 2 R44) σ44 := hq44.congr (fun _ _ => rfl) (fun j _ => by rw [nup_nup])
                    obtain ⟨m0, m1, m2, m3, m4, m5, m6, m7, m8, m9, m10, m11⟩ := id hM44
                    have m3 : σ44[a + 3]? = some (.inl (0, 51, .inl (zA R44))) := m3
                    have m1 : σ44[a + 1]? = some (.inl (0, 200, .inl (zA (A 0)))) := m1
                    have m2 : σ44[a + 2]? = some (.inl (0, 51, .inl (zA (A 1)))) := m2
                    have m4 : σ44[a + 4]? = some (.inl (0, 156, .inl (zA (A 3)))) := m4
                    have m5 : σ44[a + 5]? = some (.inl (0, 936, .inl (zA (A 4)))) := m5
                    have m6 : σ44[a + 6]? = some (.inl (0, 156, .inl (zA (A 5)))) := m6
                    have m7 : σ44[a + 7]? = some (.inl (0, 64, .inl (zA (A 6)))) := m7
                    have m8 : σ44[a + 8]? = some (.inl (0, 5, .inl (zA (A 7)))) := m8
                    have m9 : σ44[a + 9]? = some (.inl (0, 5, .inl (zA (A 8)))) := m9
                    have m10 : σ44[a + 10]? = some (.inl (0, 60, .inl (zA (A 9)))) := m10
                    have m11 : σ44[a + 11]? = some (.inl (0, 5, .inl (zA (A 10)))) := m11
                    have m0 : σ44[a]? = some (.inr (9, [.int (iZ (I 0)), .ref (a + 1), .int (iZ p44), .ref (a + 2), .ref (a + 3), .ref (a + 4), .ref (a + 5), .int (iZ (I 2)), .ref (a + 6), .ref (a + 7), .ref (a + 8), .int (iZ (I 3)), .int (iZ (I 4)), .ref (a + 9), .ref (a + 10), .ref (a + 11)])) := m0
                    show Go w mX9_item (0, 0) 178 [some (.ref a), some (.int (iZ (4 * (R 2) + 5)))] [.int (iZ k44)] σ44 (fun r σ' => r = some (.int (iZ (mItem (I 0) (A 0) p R).1)) ∧ rM a (nup I 1 (mItem (I 0) (A 0) p R).2.1) (nup A 2 (mItem (I 0) (A 0) p R).2.2) σ' ∧ g_Fr (mR a) σ σ')
                    refine z_if_eq (t := 185) (q := 181) dX9_item_178 rfl (by omega) rfl (fun pc45 => ?_) (fun pc45 => ?_)
                    · refine z_iconst (q := 186) dX9_item_185 rfl ?_
                      refine z_zret dX9_item_186 rfl rfl ?_
                      have eF : mItem (I 0) (A 0) p R = (0, p44, R44) := by
                        unfold mItem; rw [if_neg hP1, if_neg (by omega), if_pos hP14, if_neg (by omega), ← e35, mSeq1_t (by omega), ← e38, mSeq1_t (by omega), ← e41, mSeq1_t (by omega), ← e44, mSeq1_f (by omega)]
                      rw [eF]
                      exact ⟨rfl, ⟨m0, m1, m2, m3, m4, m5, m6, m7, m8, m9, m10, m11⟩, ((((((g_Fr.rf.tr hFw14).step f20 ⟨by omega, by omega⟩).tr hf35).tr hf38).tr hf41).tr hf44)⟩
                    · refine z_iconst (q := 182) dX9_item_181 rfl ?_
                      refine g_goto (q := 186) dX9_item_182 rfl ?_
                      refine z_zret dX9_item_186 rfl rfl ?_
                      have eF : mItem (I 0) (A 0) p R = (1, p44, R44) := by
                        unfold mItem; rw [if_neg hP1, if_neg (by omega), if_pos hP14, if_neg (by omega), ← e35, mSeq1_t (by omega), ← e38, mSeq1_t (by omega), ← e41, mSeq1_t (by omega), ← e44, mSeq1_t (by omega)]
                      rw [eF]
                      exact ⟨rfl, ⟨m0, m1, m2, m3, m4, m5, m6, m7, m8, m9, m10, m11⟩, ((((((g_Fr.rf.tr hFw14).step f20 ⟨by omega, by omega⟩).tr hf35).tr hf38).tr hf41).tr hf44)⟩
        · replace hP14 : ¬ (mB (I 0) (A 0) p = 116 ∧ mB (I 0) (A 0) (p + 1) = 111 ∧ mB (I 0) (A 0) (p + 2) = 111 ∧ mB (I 0) (A 0) (p + 3) = 108) := hP14
          rw [hs14]
          show Go w mX9_item (0, 0) 89 [some (.ref a), none] [.int (iZ 0)] σ (fun r σ' => r = some (.int (iZ (mItem (I 0) (A 0) p R).1)) ∧ rM a (nup I 1 (mItem (I 0) (A 0) p R).2.1) (nup A 2 (mItem (I 0) (A 0) p R).2.2) σ' ∧ g_Fr (mR a) σ σ')
          refine z_if_eq (t := 187) (q := 92) dX9_item_89 rfl (by omega) rfl (fun pc46 => ?_) (fun pc46 => ?_)
          · refine g_aload_n (q := 188) dX9_item_187 rfl rfl ?_
            refine g_bipush (v := iZ 104) (q := 190) dX9_item_188 (by decide) rfl ?_
            refine g_bipush (v := iZ 111) (q := 192) dX9_item_190 (by decide) rfl ?_
            refine g_bipush (v := iZ 108) (q := 194) dX9_item_192 (by decide) rfl ?_
            refine g_bipush (v := iZ 101) (q := 196) dX9_item_194 (by decide) rfl ?_
            refine g_callS (As := [.int (iZ 104), .int (iZ 111), .int (iZ 108), .int (iZ 101)]) (rest := [.ref a]) (q := 199) moX9_word4 lkX9_item_96 dX9_item_196 (r_M_wv_hole σ) rfl rfl (Nat.le_of_ble_eq_true rfl) (Nat.le_of_ble_eq_true rfl) (Nat.le_of_ble_eq_true rfl) rfl ?_
            rintro r1 s1 hp
            rw [hp.1, hp.2]
            show Go w mX9_item (0, 0) 199 [some (.ref a), none] [.long (lZ 277893), .ref a] σ (fun r σ' => r = some (.int (iZ (mItem (I 0) (A 0) p R).1)) ∧ rM a (nup I 1 (mItem (I 0) (A 0) p R).2.1) (nup A 2 (mItem (I 0) (A 0) p R).2.2) σ' ∧ g_Fr (mR a) σ σ')
            refine z_iconst (q := 200) dX9_item_199 rfl ?_
            have hN47 : rM a (nup I 1 p) (nup A 2 R) σ := ⟨m0, m1, m2, m3, m4, m5, m6, m7, m8, m9, m10, m11⟩
            refine g_callV (As := [.long (lZ 277893), .int (iZ 4)]) (rest := []) (q := 203) moX9_word lkX9_item_92 dX9_item_200 rfl m0 (r_M_w_hole σ a I (nup A 2 R) p (by omega) hN47 hL ht) rfl rfl (Nat.le_of_ble_eq_true rfl) (Nat.le_of_ble_eq_true rfl) (Nat.le_of_ble_eq_true rfl) rfl ?_
            rintro r47 σ47 hp47
            rcases hp47 with ⟨hP47, rfl, hMw47, hFw47⟩ | ⟨hP47, rfl, hs47⟩
            · replace hP47 : mB (I 0) (A 0) p = 104 ∧ mB (I 0) (A 0) (p + 1) = 111 ∧ mB (I 0) (A 0) (p + 2) = 108 ∧ mB (I 0) (A 0) (p + 3) = 101 := hP47
              obtain ⟨m0, m1, m2, m3, m4, m5, m6, m7, m8, m9, m10, m11⟩ := id hMw47
              have m3 : σ47[a + 3]? = some (.inl (0, 51, .inl (zA R))) := m3
              have m1 : σ47[a + 1]? = some (.inl (0, 200, .inl (zA (A 0)))) := m1
              have m2 : σ47[a + 2]? = some (.inl (0, 51, .inl (zA (A 1)))) := m2
              have m4 : σ47[a + 4]? = some (.inl (0, 156, .inl (zA (A 3)))) := m4
              have m5 : σ47[a + 5]? = some (.inl (0, 936, .inl (zA (A 4)))) := m5
              have m6 : σ47[a + 6]? = some (.inl (0, 156, .inl (zA (A 5)))) := m6
              have m7 : σ47[a + 7]? = some (.inl (0, 64, .inl (zA (A 6)))) := m7
              have m8 : σ47[a + 8]? = some (.inl (0, 5, .inl (zA (A 7)))) := m8
              have m9 : σ47[a + 9]? = some (.inl (0, 5, .inl (zA (A 8)))) := m9
              have m10 : σ47[a + 10]? = some (.inl (0, 60, .inl (zA (A 9)))) := m10
              have m11 : σ47[a + 11]? = some (.inl (0, 5, .inl (zA (A 10)))) := m11
              have m0 : σ47[a]? = some (.inr (9, [.int (iZ (I 0)), .ref (a + 1), .int (iZ (p + 4)), .ref (a + 2), .ref (a + 3), .ref (a + 4), .ref (a + 5), .int (iZ (I 2)), .ref (a + 6), .ref (a + 7), .ref (a + 8), .int (iZ (I 3)), .int (iZ (I 4)), .ref (a + 9), .ref (a + 10), .ref (a + 11)])) := m0
              show Go w mX9_item (0, 0) 203 [some (.ref a), none] [.int (iZ 1)] σ47 (fun r σ' => r = some (.int (iZ (mItem (I 0) (A 0) p R).1)) ∧ rM a (nup I 1 (mItem (I 0) (A 0) p R).2.1) (nup A 2 (mItem (I 0) (A 0) p R).2.2) σ' ∧ g_Fr (mR a) σ σ')
              refine z_if_eq (t := 211) (q := 206) dX9_item_203 rfl (by omega) rfl (fun pc48 => ?_) (fun pc48 => ?_)
              · exfalso; omega
              · refine g_aload_n (q := 207) dX9_item_206 rfl rfl ?_
                refine g_callV (As := []) (rest := []) (q := 210) moX9_holeItem lkX9_item_100 dX9_item_207 rfl m0 (r_M_holeItem σ47 a I A (p + 4) (by omega) R bR hMw47 hL ht c2 c3 c4) rfl rfl (Nat.le_of_ble_eq_true rfl) (Nat.le_of_ble_eq_true rfl) (Nat.le_of_ble_eq_true rfl) rfl ?_
                rintro rh σh ⟨hrh, hqh, hfh⟩
                have eF : mItem (I 0) (A 0) p R = mHoleI (I 0) (A 0) (p + 4) R := by unfold mItem; rw [if_neg hP1, if_neg (by omega), if_neg hP14, if_pos hP47]
                rw [eF, hrh]
                refine z_zret dX9_item_210 rfl (z01_nar (mHoleI_b _ _ _ _)) ⟨rfl, hqh, (g_Fr.rf.tr hFw47).tr hfh⟩
            · replace hP47 : ¬ (mB (I 0) (A 0) p = 104 ∧ mB (I 0) (A 0) (p + 1) = 111 ∧ mB (I 0) (A 0) (p + 2) = 108 ∧ mB (I 0) (A 0) (p + 3) = 101) := hP47
              rw [hs47]
              show Go w mX9_item (0, 0) 203 [some (.ref a), none] [.int (iZ 0)] σ (fun r σ' => r = some (.int (iZ (mItem (I 0) (A 0) p R).1)) ∧ rM a (nup I 1 (mItem (I 0) (A 0) p R).2.1) (nup A 2 (mItem (I 0) (A 0) p R).2.2) σ' ∧ g_Fr (mR a) σ σ')
              refine z_if_eq (t := 211) (q := 206) dX9_item_203 rfl (by omega) rfl (fun pc49 => ?_) (fun pc49 => ?_)
              · refine g_aload_n (q := 212) dX9_item_211 rfl rfl ?_
                refine g_bipush (v := iZ 99) (q := 214) dX9_item_212 (by decide) rfl ?_
                refine g_bipush (v := iZ 108) (q := 216) dX9_item_214 (by decide) rfl ?_
                refine g_bipush (v := iZ 97) (q := 218) dX9_item_216 (by decide) rfl ?_
                refine g_bipush (v := iZ 109) (q := 220) dX9_item_218 (by decide) rfl ?_
                refine g_bipush (v := iZ 112) (q := 222) dX9_item_220 (by decide) rfl ?_
                refine g_callS (As := [.int (iZ 99), .int (iZ 108), .int (iZ 97), .int (iZ 109), .int (iZ 112)]) (rest := [.ref a]) (q := 225) moX9_word5 lkX9_item_88 dX9_item_222 (r_M_wv_clamp σ) rfl rfl (Nat.le_of_ble_eq_true rfl) (Nat.le_of_ble_eq_true rfl) (Nat.le_of_ble_eq_true rfl) rfl ?_
                rintro r1 s1 hp
                rw [hp.1, hp.2]
                show Go w mX9_item (0, 0) 225 [some (.ref a), none] [.long (lZ 3540400), .ref a] σ (fun r σ' => r = some (.int (iZ (mItem (I 0) (A 0) p R).1)) ∧ rM a (nup I 1 (mItem (I 0) (A 0) p R).2.1) (nup A 2 (mItem (I 0) (A 0) p R).2.2) σ' ∧ g_Fr (mR a) σ σ')
                refine z_iconst (q := 226) dX9_item_225 rfl ?_
                have hN50 : rM a (nup I 1 p) (nup A 2 R) σ := ⟨m0, m1, m2, m3, m4, m5, m6, m7, m8, m9, m10, m11⟩
                refine g_callV (As := [.long (lZ 3540400), .int (iZ 5)]) (rest := []) (q := 229) moX9_word lkX9_item_92 dX9_item_226 rfl m0 (r_M_w_clamp σ a I (nup A 2 R) p (by omega) hN50 hL ht) rfl rfl (Nat.le_of_ble_eq_true rfl) (Nat.le_of_ble_eq_true rfl) (Nat.le_of_ble_eq_true rfl) rfl ?_
                rintro r50 σ50 hp50
                rcases hp50 with ⟨hP50, rfl, hMw50, hFw50⟩ | ⟨hP50, rfl, hs50⟩
                · replace hP50 : mB (I 0) (A 0) p = 99 ∧ mB (I 0) (A 0) (p + 1) = 108 ∧ mB (I 0) (A 0) (p + 2) = 97 ∧ mB (I 0) (A 0) (p + 3) = 109 ∧ mB (I 0) (A 0) (p + 4) = 112 := hP50
                  obtain ⟨m0, m1, m2, m3, m4, m5, m6, m7, m8, m9, m10, m11⟩ := id hMw50
                  have m3 : σ50[a + 3]? = some (.inl (0, 51, .inl (zA R))) := m3
                  have m1 : σ50[a + 1]? = some (.inl (0, 200, .inl (zA (A 0)))) := m1
                  have m2 : σ50[a + 2]? = some (.inl (0, 51, .inl (zA (A 1)))) := m2
                  have m4 : σ50[a + 4]? = some (.inl (0, 156, .inl (zA (A 3)))) := m4
                  have m5 : σ50[a + 5]? = some (.inl (0, 936, .inl (zA (A 4)))) := m5
                  have m6 : σ50[a + 6]? = some (.inl (0, 156, .inl (zA (A 5)))) := m6
                  have m7 : σ50[a + 7]? = some (.inl (0, 64, .inl (zA (A 6)))) := m7
                  have m8 : σ50[a + 8]? = some (.inl (0, 5, .inl (zA (A 7)))) := m8
                  have m9 : σ50[a + 9]? = some (.inl (0, 5, .inl (zA (A 8)))) := m9
                  have m10 : σ50[a + 10]? = some (.inl (0, 60, .inl (zA (A 9)))) := m10
                  have m11 : σ50[a + 11]? = some (.inl (0, 5, .inl (zA (A 10)))) := m11
                  have m0 : σ50[a]? = some (.inr (9, [.int (iZ (I 0)), .ref (a + 1), .int (iZ (p + 5)), .ref (a + 2), .ref (a + 3), .ref (a + 4), .ref (a + 5), .int (iZ (I 2)), .ref (a + 6), .ref (a + 7), .ref (a + 8), .int (iZ (I 3)), .int (iZ (I 4)), .ref (a + 9), .ref (a + 10), .ref (a + 11)])) := m0
                  show Go w mX9_item (0, 0) 229 [some (.ref a), none] [.int (iZ 1)] σ50 (fun r σ' => r = some (.int (iZ (mItem (I 0) (A 0) p R).1)) ∧ rM a (nup I 1 (mItem (I 0) (A 0) p R).2.1) (nup A 2 (mItem (I 0) (A 0) p R).2.2) σ' ∧ g_Fr (mR a) σ σ')
                  refine z_if_eq (t := 331) (q := 232) dX9_item_229 rfl (by omega) rfl (fun pc51 => ?_) (fun pc51 => ?_)
                  · exfalso; omega
                  · refine g_bipush (v := iZ 49) (q := 234) dX9_item_232 (by decide) rfl ?_
                    refine g_aload_n (q := 235) dX9_item_234 rfl rfl ?_
                    refine g_get (q := 238) flX9_16 dX9_item_235 m0 rfl rfl ?_
                    refine z_iconst (q := 239) dX9_item_238 rfl ?_
                    refine z_iald (q := 240) dX9_item_239 m3 (by omega) rfl ?_
                    have b52 := bR 4
                    refine z_iaddc (c := ((R 4) + 49)) (q := 241) dX9_item_240 (by omega) rfl ?_
                    refine g_istore_n (ml' := [some (.ref a), some (.int (iZ ((R 4) + 49)))]) (q := 242) dX9_item_241 rfl (Nat.le_of_ble_eq_true rfl) rfl rfl ?_
                    refine g_aload_n (q := 243) dX9_item_242 rfl rfl ?_
                    refine g_get (q := 246) flX9_16 dX9_item_243 m0 rfl rfl ?_
                    refine z_iconst (q := 247) dX9_item_246 rfl ?_
                    refine g_dup2 (q := 248) dX9_item_247 rfl rfl rfl ?_
                    refine z_iald (q := 249) dX9_item_248 m3 (by omega) rfl ?_
                    have b53 := bR 4
                    refine z_iconst (q := 250) dX9_item_249 rfl ?_
                    refine z_iadd (q := 251) dX9_item_250 rfl ?_
                    refine z_iast (q := 252) dX9_item_251 m3 (by omega) rfl (fun σ54 c55 f56 => ?_)
                    have c57 := (f56.2 a (by omega)).trans m0
                    have c58 := (f56.2 (a + 1) (by omega)).trans m1
                    have c59 := (f56.2 (a + 2) (by omega)).trans m2
                    have c60 := (f56.2 (a + 4) (by omega)).trans m4
                    have c61 := (f56.2 (a + 5) (by omega)).trans m5
                    have c62 := (f56.2 (a + 6) (by omega)).trans m6
                    have c63 := (f56.2 (a + 7) (by omega)).trans m7
                    have c64 := (f56.2 (a + 8) (by omega)).trans m8
                    have c65 := (f56.2 (a + 9) (by omega)).trans m9
                    have c66 := (f56.2 (a + 10) (by omega)).trans m10
                    have c67 := (f56.2 (a + 11) (by omega)).trans m11
                    have bRz : zBr (zup R 4 (R 4 + 1)) := bR.up 4 (by omega)
                    have ez : zup R 4 (R 4 + 1) 4 = R 4 + 1 := zup_self _ _ _
                    refine g_aload_n (q := 253) dX9_item_252 rfl rfl ?_
                    refine g_get (q := 256) flX9_16 dX9_item_253 c57 rfl rfl ?_
                    refine z_iconst (q := 257) dX9_item_256 rfl ?_
                    refine z_iald (q := 258) dX9_item_257 c55 (by omega) rfl ?_
                    have b68 := bRz 4
                    refine z_iconst (q := 259) dX9_item_258 rfl ?_
                    refine z_icmp_ge (t := 329) (q := 262) dX9_item_259 rfl (by omega) rfl (fun pc69 => ?_) (fun pc69 => ?_)
                    · refine z_iconst (q := 330) dX9_item_329 rfl ?_
                      refine z_zret dX9_item_330 rfl rfl ?_
                      have eF : mItem (I 0) (A 0) p R = (0, (p + 5), (zup R 4 ((R 4) + 1))) := by
                        unfold mItem; rw [if_neg hP1, if_neg (by omega), if_neg hP14, if_neg hP47, if_pos hP50, if_pos (by omega)]
                      rw [eF]
                      exact ⟨rfl, ⟨c57, c58, c59, c55, c60, c61, c62, c63, c64, c65, c66, c67⟩, ((g_Fr.rf.tr hFw50).step f56 ⟨by omega, by omega⟩)⟩
                    · refine g_aload_n (q := 263) dX9_item_262 rfl rfl ?_
                      refine g_bipush (v := iZ 32) (q := 265) dX9_item_263 (by decide) rfl ?_
                      refine g_iload_n (q := 266) dX9_item_265 rfl rfl ?_
                      refine z_iconst (q := 267) dX9_item_266 rfl ?_
                      refine g_aload_n (q := 268) dX9_item_267 rfl rfl ?_
                      refine g_get (q := 271) flX9_16 dX9_item_268 c57 rfl rfl ?_
                      refine z_iconst (q := 272) dX9_item_271 rfl ?_
                      refine z_iald (q := 273) dX9_item_272 c55 (by omega) rfl ?_
                      have b70 := bRz 0
                      refine z_iconst (q := 274) dX9_item_273 rfl ?_
                      refine z_isub (q := 275) dX9_item_274 rfl ?_
                      have hN71 : rM a (nup I 1 (p + 5)) (nup A 2 (zup R 4 ((R 4) + 1))) σ54 := ⟨c57, c58, c59, c55, c60, c61, c62, c63, c64, c65, c66, c67⟩
                      obtain ⟨⟨k72, p72, R72⟩, e72⟩ : ∃ x, x = mNumber (I 0) (A 0) (p + 5) (zup R 4 ((R 4) + 1)) 32 ((R 4) + 49) 0 (((zup R 4 ((R 4) + 1)) 0) - 2) := ⟨_, rfl⟩
                      have n72 := mNumber_p ht (p := (p + 5)) (by omega) (zup R 4 ((R 4) + 1)) 32 ((R 4) + 49) 0 (((zup R 4 ((R 4) + 1)) 0) - 2)
                      rw [← e72] at n72
                      dsimp only at n72
                      have bR72 := mNumber_R ht (p := (p + 5)) (by omega) 32 ((R 4) + 49) 0 (((zup R 4 ((R 4) + 1)) 0) - 2) bRz
                      rw [← e72] at bR72
                      replace bR72 : zBr R72 := bR72
                      refine g_callV (As := [.int (iZ 32), .int (iZ ((R 4) + 49)), .int (iZ 0), .int (iZ (((zup R 4 ((R 4) + 1)) 0) - 2))]) (rest := []) (q := 278) moX9_number lkX9_item_80 dX9_item_275 rfl c57 (r_M_number σ54 a I (nup A 2 (zup R 4 ((R 4) + 1))) (p + 5) (by omega) hN71 hL ht 32 ((R 4) + 49) 0 (((zup R 4 ((R 4) + 1)) 0) - 2) (by omega) (by omega) (by omega) (by omega)) rfl rfl (Nat.le_of_ble_eq_true rfl) (Nat.le_of_ble_eq_true rfl) (Nat.le_of_ble_eq_true rfl) rfl ?_
                      rintro r72 σ72 ⟨hr72, hq72, hf72⟩
                      rw [show mNumber (I 0) (nup A 2 (zup R 4 ((R 4) + 1)) 0) (p + 5) (nup A 2 (zup R 4 ((R 4) + 1)) 2) 32 ((R 4) + 49) 0 (((zup R 4 ((R 4) + 1)) 0) - 2) = (k72, p72, R72) from e72.symm] at hr72 hq72
                      obtain rfl : r72 = some (.int (iZ k72)) := hr72
                      have hM72 : rM a (nup I 1 p72) (nup A 2 R72) σ72 := hq72.congr (fun _ _ => rfl) (fun j _ => by rw [nup_nup])
                      obtain ⟨m0, m1, m2, m3, m4, m5, m6, m7, m8, m9, m10, m11⟩ := id hM72
                      have m3 : σ72[a + 3]? = some (.inl (0, 51, .inl (zA R72))) := m3
                      have m1 : σ72[a + 1]? = some (.inl (0, 200, .inl (zA (A 0)))) := m1
                      have m2 : σ72[a + 2]? = some (.inl (0, 51, .inl (zA (A 1)))) := m2
                      have m4 : σ72[a + 4]? = some (.inl (0, 156, .inl (zA (A 3)))) := m4
                      have m5 : σ72[a + 5]? = some (.inl (0, 936, .inl (zA (A 4)))) := m5
                      have m6 : σ72[a + 6]? = some (.inl (0, 156, .inl (zA (A 5)))) := m6
                      have m7 : σ72[a + 7]? = some (.inl (0, 64, .inl (zA (A 6)))) := m7
                      have m8 : σ72[a + 8]? = some (.inl (0, 5, .inl (zA (A 7)))) := m8
                      have m9 : σ72[a + 9]? = some (.inl (0, 5, .inl (zA (A 8)))) := m9
                      have m10 : σ72[a + 10]? = some (.inl (0, 60, .inl (zA (A 9)))) := m10
                      have m11 : σ72[a + 11]? = some (.inl (0, 5, .inl (zA (A 10)))) := m11
                      have m0 : σ72[a]? = some (.inr (9, [.int (iZ (I 0)), .ref (a + 1), .int (iZ p72), .ref (a + 2), .ref (a + 3), .ref (a + 4), .ref (a + 5), .int (iZ (I 2)), .ref (a + 6), .ref (a + 7), .ref (a + 8), .int (iZ (I 3)), .int (iZ (I 4)), .ref (a + 9), .ref (a + 10), .ref (a + 11)])) := m0
                      show Go w mX9_item (0, 0) 278 [some (.ref a), some (.int (iZ ((R 4) + 49)))] [.int (iZ k72)] σ72 (fun r σ' => r = some (.int (iZ (mItem (I 0) (A 0) p R).1)) ∧ rM a (nup I 1 (mItem (I 0) (A 0) p R).2.1) (nup A 2 (mItem (I 0) (A 0) p R).2.2) σ' ∧ g_Fr (mR a) σ σ')
                      refine z_if_eq (t := 329) (q := 281) dX9_item_278 rfl (by omega) rfl (fun pc73 => ?_) (fun pc73 => ?_)
                      · refine z_iconst (q := 330) dX9_item_329 rfl ?_
                        refine z_zret dX9_item_330 rfl rfl ?_
                        have eF : mItem (I 0) (A 0) p R = (0, p72, R72) := by
                          unfold mItem; rw [if_neg hP1, if_neg (by omega), if_neg hP14, if_neg hP47, if_pos hP50, if_neg (by omega), ← e72, mSeq1_f (by omega)]
                        rw [eF]
                        exact ⟨rfl, ⟨m0, m1, m2, m3, m4, m5, m6, m7, m8, m9, m10, m11⟩, (((g_Fr.rf.tr hFw50).step f56 ⟨by omega, by omega⟩).tr hf72)⟩
                      · refine g_iload_n (q := 282) dX9_item_281 rfl rfl ?_
                        refine g_bipush (v := iZ 49) (q := 284) dX9_item_282 (by decide) rfl ?_
                        refine z_icmp_eq (t := 325) (q := 287) dX9_item_284 rfl (by omega) rfl (fun pc74 => ?_) (fun pc74 => ?_)
                        · refine z_iconst (q := 326) dX9_item_325 rfl ?_
                          refine g_goto (q := 330) dX9_item_326 rfl ?_
                          refine z_zret dX9_item_330 rfl rfl ?_
                          have eF : mItem (I 0) (A 0) p R = (1, p72, R72) := by
                            unfold mItem; rw [if_neg hP1, if_neg (by omega), if_neg hP14, if_neg hP47, if_pos hP50, if_neg (by omega), ← e72, mSeq1_t (by omega)]; exact pr2 (by first | (rw [if_pos (by omega)]; done) | (rw [if_neg (by omega)]; done)) rfl
                          rw [eF]
                          exact ⟨rfl, ⟨m0, m1, m2, m3, m4, m5, m6, m7, m8, m9, m10, m11⟩, (((g_Fr.rf.tr hFw50).step f56 ⟨by omega, by omega⟩).tr hf72)⟩
                        · refine g_aload_n (q := 288) dX9_item_287 rfl rfl ?_
                          refine g_get (q := 291) flX9_16 dX9_item_288 m0 rfl rfl ?_
                          refine g_bipush (v := iZ 50) (q := 293) dX9_item_291 (by decide) rfl ?_
                          refine z_iald (q := 294) dX9_item_293 m3 (by omega) rfl ?_
                          have b75 := bR72 50
                          refine g_aload_n (q := 295) dX9_item_294 rfl rfl ?_
                          refine g_get (q := 298) flX9_16 dX9_item_295 m0 rfl rfl ?_
                          refine g_bipush (v := iZ 49) (q := 300) dX9_item_298 (by decide) rfl ?_
                          refine z_iald (q := 301) dX9_item_300 m3 (by omega) rfl ?_
                          have b76 := bR72 49
                          refine z_isub (q := 302) dX9_item_301 rfl ?_
                          refine z_iconst (q := 303) dX9_item_302 rfl ?_
                          refine z_icmp_gt (t := 325) (q := 306) dX9_item_303 rfl (by omega) rfl (fun pc77 => ?_) (fun pc77 => ?_)
                          · refine z_iconst (q := 326) dX9_item_325 rfl ?_
                            refine g_goto (q := 330) dX9_item_326 rfl ?_
                            refine z_zret dX9_item_330 rfl rfl ?_
                            have eF : mItem (I 0) (A 0) p R = (1, p72, R72) := by
                              unfold mItem; rw [if_neg hP1, if_neg (by omega), if_neg hP14, if_neg hP47, if_pos hP50, if_neg (by omega), ← e72, mSeq1_t (by omega)]; exact pr2 (by first | (rw [if_pos (by omega)]; done) | (rw [if_neg (by omega)]; done)) rfl
                            rw [eF]
                            exact ⟨rfl, ⟨m0, m1, m2, m3, m4, m5, m6, m7, m8, m9, m10, m11⟩, (((g_Fr.rf.tr hFw50).step f56 ⟨by omega, by omega⟩).tr hf72)⟩
                          · refine g_aload_n (q := 307) dX9_item_306 rfl rfl ?_
                            refine g_get (q := 310) flX9_16 dX9_item_307 m0 rfl rfl ?_
                            refine g_bipush (v := iZ 49) (q := 312) dX9_item_310 (by decide) rfl ?_
                            refine z_iald (q := 313) dX9_item_312 m3 (by omega) rfl ?_
                            have b78 := bR72 49
                            refine g_aload_n (q := 314) dX9_item_313 rfl rfl ?_
                            refine g_get (q := 317) flX9_16 dX9_item_314 m0 rfl rfl ?_
                            refine g_bipush (v := iZ 50) (q := 319) dX9_item_317 (by decide) rfl ?_
                            refine z_iald (q := 320) dX9_item_319 m3 (by omega) rfl ?_
                            have b79 := bR72 50
                            refine z_isub (q := 321) dX9_item_320 rfl ?_
                            refine z_iconst (q := 322) dX9_item_321 rfl ?_
                            refine z_icmp_le (t := 329) (q := 325) dX9_item_322 rfl (by omega) rfl (fun pc80 => ?_) (fun pc80 => ?_)
                            · refine z_iconst (q := 330) dX9_item_329 rfl ?_
                              refine z_zret dX9_item_330 rfl rfl ?_
                              have eF : mItem (I 0) (A 0) p R = (0, p72, R72) := by
                                unfold mItem; rw [if_neg hP1, if_neg (by omega), if_neg hP14, if_neg hP47, if_pos hP50, if_neg (by omega), ← e72, mSeq1_t (by omega)]; exact pr2 (by first | (rw [if_pos (by omega)]; done) | (rw [if_neg (by omega)]; done)) rfl
                              rw [eF]
                              exact ⟨rfl, ⟨m0, m1, m2, m3, m4, m5, m6, m7, m8, m9, m10, m11⟩, (((g_Fr.rf.tr hFw50).step f56 ⟨by omega, by omega⟩).tr hf72)⟩
                            · refine z_iconst (q := 326) dX9_item_325 rfl ?_
                              refine g_goto (q := 330) dX9_item_326 rfl ?_
                              refine z_zret dX9_item_330 rfl rfl ?_
                              have eF : mItem (I 0) (A 0) p R = (1, p72, R72) := by
                                unfold mItem; rw [if_neg hP1, if_neg (by omega), if_neg hP14, if_neg hP47, if_pos hP50, if_neg (by omega), ← e72, mSeq1_t (by omega)]; exact pr2 (by first | (rw [if_pos (by omega)]; done) | (rw [if_neg (by omega)]; done)) rfl
                              rw [eF]
                              exact ⟨rfl, ⟨m0, m1, m2, m3, m4, m5, m6, m7, m8, m9, m10, m11⟩, (((g_Fr.rf.tr hFw50).step f56 ⟨by omega, by omega⟩).tr hf72)⟩
                · replace hP50 : ¬ (mB (I 0) (A 0) p = 99 ∧ mB (I 0) (A 0) (p + 1) = 108 ∧ mB (I 0) (A 0) (p + 2) = 97 ∧ mB (I 0) (A 0) (p + 3) = 109 ∧ mB (I 0) (A 0) (p + 4) = 112) := hP50
                  rw [hs50]
                  show Go w mX9_item (0, 0) 229 [some (.ref a), none] [.int (iZ 0)] σ (fun r σ' => r = some (.int (iZ (mItem (I 0) (A 0) p R).1)) ∧ rM a (nup I 1 (mItem (I 0) (A 0) p R).2.1) (nup A 2 (mItem (I 0) (A 0) p R).2.2) σ' ∧ g_Fr (mR a) σ σ')
                  refine z_if_eq (t := 331) (q := 232) dX9_item_229 rfl (by omega) rfl (fun pc81 => ?_) (fun pc81 => ?_)
                  · refine z_iconst (q := 332) dX9_item_331 rfl ?_
                    refine z_zret dX9_item_332 rfl rfl ?_
                    have eF : mItem (I 0) (A 0) p R = (0, p, R) := by
                      unfold mItem; rw [if_neg hP1, if_neg (by omega), if_neg hP14, if_neg hP47, if_neg hP50]
                    rw [eF]
                    exact ⟨rfl, ⟨m0, m1, m2, m3, m4, m5, m6, m7, m8, m9, m10, m11⟩, g_Fr.rf⟩
                  · exfalso; omega
              · exfalso; omega
          · exfalso; omega
      · refine z_iconst (q := 72) dX9_item_71 rfl ?_
        refine z_zret dX9_item_72 rfl rfl ?_
        have eF : mItem (I 0) (A 0) p R = (0, p, R) := by
          unfold mItem; rw [if_neg hP1, if_pos (by omega)]
        rw [eF]
        exact ⟨rfl, ⟨m0, m1, m2, m3, m4, m5, m6, m7, m8, m9, m10, m11⟩, g_Fr.rf⟩
    · exfalso; omega
