theorem l_M_hi (w : g_W) (σ : g_H0) (a : Nat) (I : Nat → Int) (A : Nat → Int → Int) (hM : rM a I A σ) (h v2 : Int) (bh : 0 ≤ h ∧ h < 5) (bR : zBr (A 2)) : ∀ (n : Nat) (o l : Int), 0 ≤ o → o + n = h → (0 ≤ l ∧ l ≤ 1) → Go w mX9_holeItem (0, 0) 134 [some (.ref a), some (.int (iZ h)), some (.int (iZ v2)), some (.int (iZ l)), some (.int (iZ o))] [] σ (fun r σ' => r = some (.int (iZ (mApF (A 2) h n o l))) ∧ σ' = σ) := by
  intro n
  induction n with
  | zero =>
    intro o l ho hon hl
    obtain ⟨m0, m1, m2, m3, m4, m5, m6, m7, m8, m9, m10, m11⟩ := id hM
    refine g_iload (q := 136) dX9_holeItem_134 rfl rfl ?_
    refine g_iload_n (q := 137) dX9_holeItem_136 rfl rfl ?_
    refine z_icmp_ge (t := 158) (q := 140) dX9_holeItem_137 rfl (by omega) rfl (fun pc1 => ?_) (fun pc1 => ?_)
    · refine g_iload_n (q := 159) dX9_holeItem_158 rfl rfl ?_
      refine z_zret dX9_holeItem_159 rfl (z01_nar (by omega)) ?_
      exact ⟨rfl, rfl⟩
    · exfalso
      omega
  | succ n ih =>
    intro o l ho hon hl
    obtain ⟨m0, m1, m2, m3, m4, m5, m6, m7, m8, m9, m10, m11⟩ := id hM
    refine g_iload (q := 136) dX9_holeItem_134 rfl rfl ?_
    refine g_iload_n (q := 137) dX9_holeItem_136 rfl rfl ?_
    refine z_icmp_ge (t := 158) (q := 140) dX9_holeItem_137 rfl (by omega) rfl (fun pc1 => ?_) (fun pc1 => ?_)
    · refine g_iload_n (q := 159) dX9_holeItem_158 rfl rfl ?_
      refine z_zret dX9_holeItem_159 rfl (z01_nar (by omega)) ?_
      exact ⟨congrArg (fun z => some (Value.int (iZ z))) (by unfold mApF; rw [if_pos (by omega)]; omega), rfl⟩
    · refine g_iload_n (q := 141) dX9_holeItem_140 rfl rfl ?_
      refine z_if_eq (t := 158) (q := 144) dX9_holeItem_141 rfl (by omega) rfl (fun pc2 => ?_) (fun pc2 => ?_)
      · refine g_iload_n (q := 159) dX9_holeItem_158 rfl rfl ?_
        refine z_zret dX9_holeItem_159 rfl (z01_nar (by omega)) ?_
        exact ⟨congrArg (fun z => some (Value.int (iZ z))) (by unfold mApF; rw [if_pos (by omega)]; omega), rfl⟩
      · refine g_aload_n (q := 145) dX9_holeItem_144 rfl rfl ?_
        refine g_iload_n (q := 146) dX9_holeItem_145 rfl rfl ?_
        refine g_iload (q := 148) dX9_holeItem_146 rfl rfl ?_
        refine g_callV (As := [.int (iZ h), .int (iZ o)]) (rest := []) (q := 151) moX9_isApart lkX9_holeItem_84 dX9_holeItem_148 rfl m0 (r_M_isApart σ a I A hM h o (by omega) (by omega) bR) rfl rfl (Nat.le_of_ble_eq_true rfl) (Nat.le_of_ble_eq_true rfl) (Nat.le_of_ble_eq_true rfl) rfl ?_
        rintro r1 s1 hp
        rw [hp.1, hp.2]
        show Go w mX9_holeItem (0, 0) 151 [some (.ref a), some (.int (iZ h)), some (.int (iZ v2)), some (.int (iZ l)), some (.int (iZ o))] [.int (iZ (mAp (A 2) h o))] σ (fun r σ' => r = some (.int (iZ (mApF (A 2) h (n + 1) o l))) ∧ σ' = σ)
        have ab : 0 ≤ mAp (A 2) h o ∧ mAp (A 2) h o ≤ 1 := by unfold mAp; split <;> omega
        refine g_istore_n (ml' := [some (.ref a), some (.int (iZ h)), some (.int (iZ v2)), some (.int (iZ (mAp (A 2) h o))), some (.int (iZ o))]) (q := 152) dX9_holeItem_151 rfl (Nat.le_of_ble_eq_true rfl) rfl rfl ?_
        refine z_iincc (c := (o + 1)) (ml' := [some (.ref a), some (.int (iZ h)), some (.int (iZ v2)), some (.int (iZ (mAp (A 2) h o))), some (.int (iZ (o + 1)))]) (q := 155) dX9_holeItem_152 rfl (by omega) rfl rfl rfl ?_
        refine g_goto (q := 134) dX9_holeItem_155 rfl ?_
        refine (ih (o + 1) _ (by omega) (by omega) ab).mono (fun r σ1 hp => ⟨hp.1.trans (congrArg (fun z => some (Value.int (iZ z))) ?_), hp.2⟩)
        conv => rhs; unfold mApF; rw [if_neg (by omega)]
theorem mApF_b (R : Int → Int) (h : Int) : ∀ (n : Nat) (o l : Int), (0 ≤ l ∧ l ≤ 1) → 0 ≤ mApF R h n o l ∧ mApF R h n o l ≤ 1
  | 0, o, l, hl => hl
  | n + 1, o, l, hl => by
    unfold mApF
    split
    · omega
    · exact mApF_b R h n _ _ (by unfold mAp; split <;> omega)
theorem r_M_holeItem (σ : g_H0) (a : Nat) (I : Nat → Int) (A : Nat → Int → Int) (p : Int) (bp : 0 ≤ p ∧ p < 2000) (R : Int → Int) (bR : zBr R) (hM : rM a (nup I 1 p) (nup A 2 R) σ) (hL : 0 ≤ I 0 ∧ I 0 ≤ 200) (ht : zBt (I 0) (A 0)) (c2 : 0 ≤ R 2 ∧ R 2 ≤ 6) (c3 : 0 ≤ R 3 ∧ R 3 ≤ 5) (c4 : 0 ≤ R 4 ∧ R 4 ≤ 2) : Ret mX9_holeItem [.ref a] σ (fun r σ' => r = some (.int (iZ (mHoleI (I 0) (A 0) p R).1)) ∧ rM a (nup I 1 (mHoleI (I 0) (A 0) p R).2.1) (nup A 2 (mHoleI (I 0) (A 0) p R).2.2) σ' ∧ g_Fr (mR a) σ σ') := by
  refine Ret.of moX9_holeItem.1 (Nat.le_of_ble_eq_true rfl) (fun w => ?_)
  obtain ⟨m0, m1, m2, m3, m4, m5, m6, m7, m8, m9, m10, m11⟩ := id hM
  have m3 : σ[a + 3]? = some (.inl (0, 51, .inl (zA R))) := m3
  have m1 : σ[a + 1]? = some (.inl (0, 200, .inl (zA (A 0)))) := m1
  have m2 : σ[a + 2]? = some (.inl (0, 51, .inl (zA (A 1)))) := m2
  have m4 : σ[a + 4]? = some (.inl (0, 156, .inl (zA (A 3)))) := m4
  have m5 : σ[a + 5]? = some (.inl (0, 936, .inl (zA (A 4)))) := m5
  have m6 : σ[a + 6]? = some (.inl (0, 156, .inl (zA (A 5)))) := m6
  have m7 : σ[a + 7]? = some (.inl (0, 64, .inl (zA (A 6)))) := m7
  have m8 : σ[a + 8]? = some (.inl (0, 5, .inl (zA (A 7)))) := m8
  have m9 : σ[a + 9]? = some (.inl (0, 5, .inl (zA (A 8)))) := m9
  have m10 : σ[a + 10]? = some (.inl (0, 60, .inl (zA (A 9)))) := m10
  have m11 : σ[a + 11]? = some (.inl (0, 5, .inl (zA (A 10)))) := m11
  have m0 : σ[a]? = some (.inr (9, [.int (iZ (I 0)), .ref (a + 1), .int (iZ p), .ref (a + 2), .ref (a + 3), .ref (a + 4), .ref (a + 5), .int (iZ (I 2)), .ref (a + 6), .ref (a + 7), .ref (a + 8), .int (iZ (I 3)), .int (iZ (I 4)), .ref (a + 9), .ref (a + 10), .ref (a + 11)])) := m0
  show Go w mX9_holeItem (0, 0) 0 [some (.ref a), none, none, none, none] [] σ (fun r σ' => r = some (.int (iZ (mHoleI (I 0) (A 0) p R).1)) ∧ rM a (nup I 1 (mHoleI (I 0) (A 0) p R).2.1) (nup A 2 (mHoleI (I 0) (A 0) p R).2.2) σ' ∧ g_Fr (mR a) σ σ')
  refine g_aload_n (q := 1) dX9_holeItem_0 rfl rfl ?_
  refine g_get (q := 4) flX9_16 dX9_holeItem_1 m0 rfl rfl ?_
  refine z_iconst (q := 5) dX9_holeItem_4 rfl ?_
  refine z_iald (q := 6) dX9_holeItem_5 m3 (by omega) rfl ?_
  have b1 := bR 3
  refine g_istore_n (ml' := [some (.ref a), some (.int (iZ (R 3))), none, none, none]) (q := 7) dX9_holeItem_6 rfl (Nat.le_of_ble_eq_true rfl) rfl rfl ?_
  refine g_iload_n (q := 8) dX9_holeItem_7 rfl rfl ?_
  refine z_iconst (q := 9) dX9_holeItem_8 rfl ?_
  refine z_icmp_ne (t := 14) (q := 12) dX9_holeItem_9 rfl (by omega) rfl (fun pc2 => ?_) (fun pc2 => ?_)
  · refine g_bipush (v := iZ 29) (q := 16) dX9_holeItem_14 (by decide) rfl ?_
    refine z_iconst (q := 17) dX9_holeItem_16 rfl ?_
    refine g_iload_n (q := 18) dX9_holeItem_17 rfl rfl ?_
    refine z_imul (q := 19) dX9_holeItem_18 rfl ?_
    refine z_iaddc (c := (4 * (R 3) + 29)) (q := 20) dX9_holeItem_19 (by omega) rfl ?_
    refine g_istore_n (ml' := [some (.ref a), some (.int (iZ (R 3))), some (.int (iZ (4 * (R 3) + 29))), none, none]) (q := 21) dX9_holeItem_20 rfl (Nat.le_of_ble_eq_true rfl) rfl rfl ?_
    refine g_aload_n (q := 22) dX9_holeItem_21 rfl rfl ?_
    refine g_get (q := 25) flX9_16 dX9_holeItem_22 m0 rfl rfl ?_
    refine z_iconst (q := 26) dX9_holeItem_25 rfl ?_
    refine g_dup2 (q := 27) dX9_holeItem_26 rfl rfl rfl ?_
    refine z_iald (q := 28) dX9_holeItem_27 m3 (by omega) rfl ?_
    have b3 := bR 3
    refine z_iconst (q := 29) dX9_holeItem_28 rfl ?_
    refine z_iadd (q := 30) dX9_holeItem_29 rfl ?_
    refine z_iast (q := 31) dX9_holeItem_30 m3 (by omega) rfl (fun σ4 c5 f6 => ?_)
    have c7 := (f6.2 a (by omega)).trans m0
    have c8 := (f6.2 (a + 1) (by omega)).trans m1
    have c9 := (f6.2 (a + 2) (by omega)).trans m2
    have c10 := (f6.2 (a + 4) (by omega)).trans m4
    have c11 := (f6.2 (a + 5) (by omega)).trans m5
    have c12 := (f6.2 (a + 6) (by omega)).trans m6
    have c13 := (f6.2 (a + 7) (by omega)).trans m7
    have c14 := (f6.2 (a + 8) (by omega)).trans m8
    have c15 := (f6.2 (a + 9) (by omega)).trans m9
    have c16 := (f6.2 (a + 10) (by omega)).trans m10
    have c17 := (f6.2 (a + 11) (by omega)).trans m11
    have bRz : zBr (zup R 3 (R 3 + 1)) := bR.up 3 (by omega)
    refine g_aload_n (q := 32) dX9_holeItem_31 rfl rfl ?_
    refine g_bipush (v := iZ 32) (q := 34) dX9_holeItem_32 (by decide) rfl ?_
    refine g_iload_n (q := 35) dX9_holeItem_34 rfl rfl ?_
    refine z_iconst (q := 36) dX9_holeItem_35 rfl ?_
    refine g_aload_n (q := 37) dX9_holeItem_36 rfl rfl ?_
    refine g_get (q := 40) flX9_16 dX9_holeItem_37 c7 rfl rfl ?_
    refine z_iconst (q := 41) dX9_holeItem_40 rfl ?_
    refine z_iald (q := 42) dX9_holeItem_41 c5 (by omega) rfl ?_
    have b18 := bRz 0
    refine z_iconst (q := 43) dX9_holeItem_42 rfl ?_
    refine z_isub (q := 44) dX9_holeItem_43 rfl ?_
    have hN19 : rM a (nup I 1 p) (nup A 2 (zup R 3 ((R 3) + 1))) σ4 := ⟨c7, c8, c9, c5, c10, c11, c12, c13, c14, c15, c16, c17⟩
    obtain ⟨⟨k20, p20, R20⟩, e20⟩ : ∃ x, x = mNumber (I 0) (A 0) p (zup R 3 ((R 3) + 1)) 32 (4 * (R 3) + 29) 0 (((zup R 3 ((R 3) + 1)) 0) - 1) := ⟨_, rfl⟩
    have n20 := mNumber_p ht (p := p) (by omega) (zup R 3 ((R 3) + 1)) 32 (4 * (R 3) + 29) 0 (((zup R 3 ((R 3) + 1)) 0) - 1)
    rw [← e20] at n20
    dsimp only at n20
    have bR20 := mNumber_R ht (p := p) (by omega) 32 (4 * (R 3) + 29) 0 (((zup R 3 ((R 3) + 1)) 0) - 1) bRz
    rw [← e20] at bR20
    replace bR20 : zBr R20 := bR20
    refine g_callV (As := [.int (iZ 32), .int (iZ (4 * (R 3) + 29)), .int (iZ 0), .int (iZ (((zup R 3 ((R 3) + 1)) 0) - 1))]) (rest := []) (q := 47) moX9_number lkX9_holeItem_80 dX9_holeItem_44 rfl c7 (r_M_number σ4 a I (nup A 2 (zup R 3 ((R 3) + 1))) p (by omega) hN19 hL ht 32 (4 * (R 3) + 29) 0 (((zup R 3 ((R 3) + 1)) 0) - 1) (by omega) (by omega) (by omega) (by omega)) rfl rfl (Nat.le_of_ble_eq_true rfl) (Nat.le_of_ble_eq_true rfl) (Nat.le_of_ble_eq_true rfl) rfl ?_
    rintro r20 σ20 ⟨hr20, hq20, hf20⟩
    rw [show mNumber (I 0) (nup A 2 (zup R 3 ((R 3) + 1)) 0) p (nup A 2 (zup R 3 ((R 3) + 1)) 2) 32 (4 * (R 3) + 29) 0 (((zup R 3 ((R 3) + 1)) 0) - 1) = (k20, p20, R20) from e20.symm] at hr20 hq20
    obtain rfl : r20 = some (.int (iZ k20)) := hr20
    have hM20 : rM a (nup I 1 p20) (nup A 2 R20) σ20 := hq20.congr (fun _ _ => rfl) (fun j _ => by rw [nup_nup])
    obtain ⟨m0, m1, m2, m3, m4, m5, m6, m7, m8, m9, m10, m11⟩ := id hM20
    have m3 : σ20[a + 3]? = some (.inl (0, 51, .inl (zA R20))) := m3
    have m1 : σ20[a + 1]? = some (.inl (0, 200, .inl (zA (A 0)))) := m1
    have m2 : σ20[a + 2]? = some (.inl (0, 51, .inl (zA (A 1)))) := m2
    have m4 : σ20[a + 4]? = some (.inl (0, 156, .inl (zA (A 3)))) := m4
    have m5 : σ20[a + 5]? = some (.inl (0, 936, .inl (zA (A 4)))) := m5
    have m6 : σ20[a + 6]? = some (.inl (0, 156, .inl (zA (A 5)))) := m6
    have m7 : σ20[a + 7]? = some (.inl (0, 64, .inl (zA (A 6)))) := m7
    have m8 : σ20[a + 8]? = some (.inl (0, 5, .inl (zA (A 7)))) := m8
    have m9 : σ20[a + 9]? = some (.inl (0, 5, .inl (zA (A 8)))) := m9
    have m10 : σ20[a + 10]? = some (.inl (0, 60, .inl (zA (A 9)))) := m10
    have m11 : σ20[a + 11]? = some (.inl (0, 5, .inl (zA (A 10)))) := m11
    have m0 : σ20[a]? = some (.inr (9, [.int (iZ (I 0)), .ref (a + 1), .int (iZ p20), .ref (a + 2), .ref (a + 3), .ref (a + 4), .ref (a + 5), .int (iZ (I 2)), .ref (a + 6), .ref (a + 7), .ref (a + 8), .int (iZ (I 3)), .int (iZ (I 4)), .ref (a + 9), .ref (a + 10), .ref (a + 11)])) := m0
    show Go w mX9_holeItem (0, 0) 47 [some (.ref a), some (.int (iZ (R 3))), some (.int (iZ (4 * (R 3) + 29))), none, none] [.int (iZ k20)] σ20 (fun r σ' => r = some (.int (iZ (mHoleI (I 0) (A 0) p R).1)) ∧ rM a (nup I 1 (mHoleI (I 0) (A 0) p R).2.1) (nup A 2 (mHoleI (I 0) (A 0) p R).2.2) σ' ∧ g_Fr (mR a) σ σ')
    refine z_if_eq (t := 129) (q := 50) dX9_holeItem_47 rfl (by omega) rfl (fun pc21 => ?_) (fun pc21 => ?_)
    · refine z_iconst (q := 130) dX9_holeItem_129 rfl ?_
      refine g_istore_n (ml' := [some (.ref a), some (.int (iZ (R 3))), some (.int (iZ (4 * (R 3) + 29))), some (.int (iZ 0)), none]) (q := 131) dX9_holeItem_130 rfl (Nat.le_of_ble_eq_true rfl) rfl rfl ?_
      refine z_iconst (q := 132) dX9_holeItem_131 rfl ?_
      refine g_istore (ml' := [some (.ref a), some (.int (iZ (R 3))), some (.int (iZ (4 * (R 3) + 29))), some (.int (iZ 0)), some (.int (iZ 0))]) (q := 134) dX9_holeItem_132 rfl (Nat.le_of_ble_eq_true rfl) rfl rfl ?_
      refine g_iload (q := 136) dX9_holeItem_134 rfl rfl ?_
      refine g_iload_n (q := 137) dX9_holeItem_136 rfl rfl ?_
      refine z_icmp_ge (t := 158) (q := 140) dX9_holeItem_137 rfl (by omega) rfl (fun pc22 => ?_) (fun pc22 => ?_)
      · refine g_iload_n (q := 159) dX9_holeItem_158 rfl rfl ?_
        refine z_zret dX9_holeItem_159 rfl rfl ?_
        have eF : mHoleI (I 0) (A 0) p R = (0, p20, R20) := by unfold mHoleI; rw [if_neg (by omega), ← e20, mSeq1_f (by omega)]
        rw [eF]
        exact ⟨rfl, ⟨m0, m1, m2, m3, m4, m5, m6, m7, m8, m9, m10, m11⟩, ((g_Fr.rf.step f6 ⟨by omega, by omega⟩).tr hf20)⟩
      · refine g_iload_n (q := 141) dX9_holeItem_140 rfl rfl ?_
        refine z_if_eq (t := 158) (q := 144) dX9_holeItem_141 rfl (by omega) rfl (fun pc23 => ?_) (fun pc23 => ?_)
        · refine g_iload_n (q := 159) dX9_holeItem_158 rfl rfl ?_
          refine z_zret dX9_holeItem_159 rfl rfl ?_
          have eF : mHoleI (I 0) (A 0) p R = (0, p20, R20) := by unfold mHoleI; rw [if_neg (by omega), ← e20, mSeq1_f (by omega)]
          rw [eF]
          exact ⟨rfl, ⟨m0, m1, m2, m3, m4, m5, m6, m7, m8, m9, m10, m11⟩, ((g_Fr.rf.step f6 ⟨by omega, by omega⟩).tr hf20)⟩
        · exfalso; omega
    · refine g_aload_n (q := 51) dX9_holeItem_50 rfl rfl ?_
      refine g_bipush (v := iZ 44) (q := 53) dX9_holeItem_51 (by decide) rfl ?_
      refine g_iload_n (q := 54) dX9_holeItem_53 rfl rfl ?_
      refine z_iconst (q := 55) dX9_holeItem_54 rfl ?_
      refine z_iaddc (c := (4 * (R 3) + 30)) (q := 56) dX9_holeItem_55 (by omega) rfl ?_
      refine z_iconst (q := 57) dX9_holeItem_56 rfl ?_
      refine g_aload_n (q := 58) dX9_holeItem_57 rfl rfl ?_
      refine g_get (q := 61) flX9_16 dX9_holeItem_58 m0 rfl rfl ?_
      refine z_iconst (q := 62) dX9_holeItem_61 rfl ?_
      refine z_iald (q := 63) dX9_holeItem_62 m3 (by omega) rfl ?_
      have b24 := bR20 1
      refine z_iconst (q := 64) dX9_holeItem_63 rfl ?_
      refine z_isub (q := 65) dX9_holeItem_64 rfl ?_
      have hN25 : rM a (nup I 1 p20) (nup A 2 R20) σ20 := ⟨m0, m1, m2, m3, m4, m5, m6, m7, m8, m9, m10, m11⟩
      obtain ⟨⟨k26, p26, R26⟩, e26⟩ : ∃ x, x = mNumber (I 0) (A 0) p20 R20 44 (4 * (R 3) + 30) 0 ((R20 1) - 1) := ⟨_, rfl⟩
      have n26 := mNumber_p ht (p := p20) (by omega) R20 44 (4 * (R 3) + 30) 0 ((R20 1) - 1)
      rw [← e26] at n26
      dsimp only at n26
      have bR26 := mNumber_R ht (p := p20) (by omega) 44 (4 * (R 3) + 30) 0 ((R20 1) - 1) bR20
      rw [← e26] at bR26
      replace bR26 : zBr R26 := bR26
      refine g_callV (As := [.int (iZ 44), .int (iZ (4 * (R 3) + 30)), .int (iZ 0), .int (iZ ((R20 1) - 1))]) (rest := []) (q := 68) moX9_number lkX9_holeItem_80 dX9_holeItem_65 rfl m0 (r_M_number σ20 a I (nup A 2 R20) p20 (by omega) hN25 hL ht 44 (4 * (R 3) + 30) 0 ((R20 1) - 1) (by omega) (by omega) (by omega) (by omega)) rfl rfl (Nat.le_of_ble_eq_true rfl) (Nat.le_of_ble_eq_true rfl) (Nat.le_of_ble_eq_true rfl) rfl ?_
      rintro r26 σ26 ⟨hr26, hq26, hf26⟩
      rw [show mNumber (I 0) (nup A 2 R20 0) p20 (nup A 2 R20 2) 44 (4 * (R 3) + 30) 0 ((R20 1) - 1) = (k26, p26, R26) from e26.symm] at hr26 hq26
      obtain rfl : r26 = some (.int (iZ k26)) := hr26
      have hM26 : rM a (nup I 1 p26) (nup A 2 R26) σ26 := hq26.congr (fun _ _ => rfl) (fun j _ => by rw [nup_nup])
      obtain ⟨m0, m1, m2, m3, m4, m5, m6, m7, m8, m9, m10, m11⟩ := id hM26
      have m3 : σ26[a + 3]? = some (.inl (0, 51, .inl (zA R26))) := m3
      have m1 : σ26[a + 1]? = some (.inl (0, 200, .inl (zA (A 0)))) := m1
      have m2 : σ26[a + 2]? = some (.inl (0, 51, .inl (zA (A 1)))) := m2
      have m4 : σ26[a + 4]? = some (.inl (0, 156, .inl (zA (A 3)))) := m4
      have m5 : σ26[a + 5]? = some (.inl (0, 936, .inl (zA (A 4)))) := m5
      have m6 : σ26[a + 6]? = some (.inl (0, 156, .inl (zA (A 5)))) := m6
      have m7 : σ26[a + 7]? = some (.inl (0, 64, .inl (zA (A 6)))) := m7
      have m8 : σ26[a + 8]? = some (.inl (0, 5, .inl (zA (A 7)))) := m8
      have m9 : σ26[a + 9]? = some (.inl (0, 5, .inl (zA (A 8)))) := m9
      have m10 : σ26[a + 10]? = some (.inl (0, 60, .inl (zA (A 9)))) := m10
      have m11 : σ26[a + 11]? = some (.inl (0, 5, .inl (zA (A 10)))) := m11
      have m0 : σ26[a]? = some (.inr (9, [.int (iZ (I 0)), .ref (a + 1), .int (iZ p26), .ref (a + 2), .ref (a + 3), .ref (a + 4), .ref (a + 5), .int (iZ (I 2)), .ref (a + 6), .ref (a + 7), .ref (a + 8), .int (iZ (I 3)), .int (iZ (I 4)), .ref (a + 9), .ref (a + 10), .ref (a + 11)])) := m0
      show Go w mX9_holeItem (0, 0) 68 [some (.ref a), some (.int (iZ (R 3))), some (.int (iZ (4 * (R 3) + 29))), none, none] [.int (iZ k26)] σ26 (fun r σ' => r = some (.int (iZ (mHoleI (I 0) (A 0) p R).1)) ∧ rM a (nup I 1 (mHoleI (I 0) (A 0) p R).2.1) (nup A 2 (mHoleI (I 0) (A 0) p R).2.2) σ' ∧ g_Fr (mR a) σ σ')
      refine z_if_eq (t := 129) (q := 71) dX9_holeItem_68 rfl (by omega) rfl (fun pc27 => ?_) (fun pc27 => ?_)
      · refine z_iconst (q := 130) dX9_holeItem_129 rfl ?_
        refine g_istore_n (ml' := [some (.ref a), some (.int (iZ (R 3))), some (.int (iZ (4 * (R 3) + 29))), some (.int (iZ 0)), none]) (q := 131) dX9_holeItem_130 rfl (Nat.le_of_ble_eq_true rfl) rfl rfl ?_
        refine z_iconst (q := 132) dX9_holeItem_131 rfl ?_
        refine g_istore (ml' := [some (.ref a), some (.int (iZ (R 3))), some (.int (iZ (4 * (R 3) + 29))), some (.int (iZ 0)), some (.int (iZ 0))]) (q := 134) dX9_holeItem_132 rfl (Nat.le_of_ble_eq_true rfl) rfl rfl ?_
        refine g_iload (q := 136) dX9_holeItem_134 rfl rfl ?_
        refine g_iload_n (q := 137) dX9_holeItem_136 rfl rfl ?_
        refine z_icmp_ge (t := 158) (q := 140) dX9_holeItem_137 rfl (by omega) rfl (fun pc28 => ?_) (fun pc28 => ?_)
        · refine g_iload_n (q := 159) dX9_holeItem_158 rfl rfl ?_
          refine z_zret dX9_holeItem_159 rfl rfl ?_
          have eF : mHoleI (I 0) (A 0) p R = (0, p26, R26) := by unfold mHoleI; rw [if_neg (by omega), ← e20, mSeq1_t (by omega), ← e26, mSeq1_f (by omega)]
          rw [eF]
          exact ⟨rfl, ⟨m0, m1, m2, m3, m4, m5, m6, m7, m8, m9, m10, m11⟩, (((g_Fr.rf.step f6 ⟨by omega, by omega⟩).tr hf20).tr hf26)⟩
        · refine g_iload_n (q := 141) dX9_holeItem_140 rfl rfl ?_
          refine z_if_eq (t := 158) (q := 144) dX9_holeItem_141 rfl (by omega) rfl (fun pc29 => ?_) (fun pc29 => ?_)
          · refine g_iload_n (q := 159) dX9_holeItem_158 rfl rfl ?_
            refine z_zret dX9_holeItem_159 rfl rfl ?_
            have eF : mHoleI (I 0) (A 0) p R = (0, p26, R26) := by unfold mHoleI; rw [if_neg (by omega), ← e20, mSeq1_t (by omega), ← e26, mSeq1_f (by omega)]
            rw [eF]
            exact ⟨rfl, ⟨m0, m1, m2, m3, m4, m5, m6, m7, m8, m9, m10, m11⟩, (((g_Fr.rf.step f6 ⟨by omega, by omega⟩).tr hf20).tr hf26)⟩
          · exfalso; omega
      · refine g_aload_n (q := 72) dX9_holeItem_71 rfl rfl ?_
        refine g_bipush (v := iZ 44) (q := 74) dX9_holeItem_72 (by decide) rfl ?_
        refine g_iload_n (q := 75) dX9_holeItem_74 rfl rfl ?_
        refine z_iconst (q := 76) dX9_holeItem_75 rfl ?_
        refine z_iaddc (c := (4 * (R 3) + 31)) (q := 77) dX9_holeItem_76 (by omega) rfl ?_
        refine z_iconst (q := 78) dX9_holeItem_77 rfl ?_
        refine g_aload_n (q := 79) dX9_holeItem_78 rfl rfl ?_
        refine g_get (q := 82) flX9_16 dX9_holeItem_79 m0 rfl rfl ?_
        refine z_iconst (q := 83) dX9_holeItem_82 rfl ?_
        refine z_iald (q := 84) dX9_holeItem_83 m3 (by omega) rfl ?_
        have b30 := bR26 0
        refine g_aload_n (q := 85) dX9_holeItem_84 rfl rfl ?_
        refine g_get (q := 88) flX9_16 dX9_holeItem_85 m0 rfl rfl ?_
        refine g_iload_n (q := 89) dX9_holeItem_88 rfl rfl ?_
        refine z_iald (q := 90) dX9_holeItem_89 m3 (by omega) rfl ?_
        have b31 := bR26 (4 * (R 3) + 29)
        refine z_isub (q := 91) dX9_holeItem_90 rfl ?_
        have hN32 : rM a (nup I 1 p26) (nup A 2 R26) σ26 := ⟨m0, m1, m2, m3, m4, m5, m6, m7, m8, m9, m10, m11⟩
        obtain ⟨⟨k33, p33, R33⟩, e33⟩ : ∃ x, x = mNumber (I 0) (A 0) p26 R26 44 (4 * (R 3) + 31) 1 ((R26 0) - (R26 (4 * (R 3) + 29))) := ⟨_, rfl⟩
        have n33 := mNumber_p ht (p := p26) (by omega) R26 44 (4 * (R 3) + 31) 1 ((R26 0) - (R26 (4 * (R 3) + 29)))
        rw [← e33] at n33
        dsimp only at n33
        have bR33 := mNumber_R ht (p := p26) (by omega) 44 (4 * (R 3) + 31) 1 ((R26 0) - (R26 (4 * (R 3) + 29))) bR26
        rw [← e33] at bR33
        replace bR33 : zBr R33 := bR33
        refine g_callV (As := [.int (iZ 44), .int (iZ (4 * (R 3) + 31)), .int (iZ 1), .int (iZ ((R26 0) - (R26 (4 * (R 3) + 29))))]) (rest := []) (q := 94) moX9_number lkX9_holeItem_80 dX9_holeItem_91 rfl m0 (r_M_number σ26 a I (nup A 2 R26) p26 (by omega) hN32 hL ht 44 (4 * (R 3) + 31) 1 ((R26 0) - (R26 (4 * (R 3) + 29))) (by omega) (by omega) (by omega) (by omega)) rfl rfl (Nat.le_of_ble_eq_true rfl) (Nat.le_of_ble_eq_true rfl) (Nat.le_of_ble_eq_true rfl) rfl ?_
        rintro r33 σ33 ⟨hr33, hq33, hf33⟩
        rw [show mNumber (I 0) (nup A 2 R26 0) p26 (nup A 2 R26 2) 44 (4 * (R 3) + 31) 1 ((R26 0) - (R26 (4 * (R 3) + 29))) = (k33, p33, R33) from e33.symm] at hr33 hq33
        obtain rfl : r33 = some (.int (iZ k33)) := hr33
        have hM33 : rM a (nup I 1 p33) (nup A 2 R33) σ33 := hq33.congr (fun _ _ => rfl) (fun j _ => by rw [nup_nup])
        obtain ⟨m0, m1, m2, m3, m4, m5, m6, m7, m8, m9, m10, m11⟩ := id hM33
        have m3 : σ33[a + 3]? = some (.inl (0, 51, .inl (zA R33))) := m3
        have m1 : σ33[a + 1]? = some (.inl (0, 200, .inl (zA (A 0)))) := m1
        have m2 : σ33[a + 2]? = some (.inl (0, 51, .inl (zA (A 1)))) := m2
        have m4 : σ33[a + 4]? = some (.inl (0, 156, .inl (zA (A 3)))) := m4
        have m5 : σ33[a + 5]? = some (.inl (0, 936, .inl (zA (A 4)))) := m5
        have m6 : σ33[a + 6]? = some (.inl (0, 156, .inl (zA (A 5)))) := m6
        have m7 : σ33[a + 7]? = some (.inl (0, 64, .inl (zA (A 6)))) := m7
        have m8 : σ33[a + 8]? = some (.inl (0, 5, .inl (zA (A 7)))) := m8
        have m9 : σ33[a + 9]? = some (.inl (0, 5, .inl (zA (A 8)))) := m9
        have m10 : σ33[a + 10]? = some (.inl (0, 60, .inl (zA (A 9)))) := m10
        have m11 : σ33[a + 11]? = some (.inl (0, 5, .inl (zA (A 10)))) := m11
        have m0 : σ33[a]? = some (.inr (9, [.int (iZ (I 0)), .ref (a + 1), .int (iZ p33), .ref (a + 2), .ref (a + 3), .ref (a + 4), .ref (a + 5), .int (iZ (I 2)), .ref (a + 6), .ref (a + 7), .ref (a + 8), .int (iZ (I 3)), .int (iZ (I 4)), .ref (a + 9), .ref (a + 10), .ref (a + 11)])) := m0
        show Go w mX9_holeItem (0, 0) 94 [some (.ref a), some (.int (iZ (R 3))), some (.int (iZ (4 * (R 3) + 29))), none, none] [.int (iZ k33)] σ33 (fun r σ' => r = some (.int (iZ (mHoleI (I 0) (A 0) p R).1)) ∧ rM a (nup I 1 (mHoleI (I 0) (A 0) p R).2.1) (nup A 2 (mHoleI (I 0) (A 0) p R).2.2) σ' ∧ g_Fr (mR a) σ σ')
        refine z_if_eq (t := 129) (q := 97) dX9_holeItem_94 rfl (by omega) rfl (fun pc34 => ?_) (fun pc34 => ?_)
        · refine z_iconst (q := 130) dX9_holeItem_129 rfl ?_
          refine g_istore_n (ml' := [some (.ref a), some (.int (iZ (R 3))), some (.int (iZ (4 * (R 3) + 29))), some (.int (iZ 0)), none]) (q := 131) dX9_holeItem_130 rfl (Nat.le_of_ble_eq_true rfl) rfl rfl ?_
          refine z_iconst (q := 132) dX9_holeItem_131 rfl ?_
          refine g_istore (ml' := [some (.ref a), some (.int (iZ (R 3))), some (.int (iZ (4 * (R 3) + 29))), some (.int (iZ 0)), some (.int (iZ 0))]) (q := 134) dX9_holeItem_132 rfl (Nat.le_of_ble_eq_true rfl) rfl rfl ?_
          refine g_iload (q := 136) dX9_holeItem_134 rfl rfl ?_
          refine g_iload_n (q := 137) dX9_holeItem_136 rfl rfl ?_
          refine z_icmp_ge (t := 158) (q := 140) dX9_holeItem_137 rfl (by omega) rfl (fun pc35 => ?_) (fun pc35 => ?_)
          · refine g_iload_n (q := 159) dX9_holeItem_158 rfl rfl ?_
            refine z_zret dX9_holeItem_159 rfl rfl ?_
            have eF : mHoleI (I 0) (A 0) p R = (0, p33, R33) := by unfold mHoleI; rw [if_neg (by omega), ← e20, mSeq1_t (by omega), ← e26, mSeq1_t (by omega), ← e33, mSeq1_f (by omega)]
            rw [eF]
            exact ⟨rfl, ⟨m0, m1, m2, m3, m4, m5, m6, m7, m8, m9, m10, m11⟩, ((((g_Fr.rf.step f6 ⟨by omega, by omega⟩).tr hf20).tr hf26).tr hf33)⟩
          · refine g_iload_n (q := 141) dX9_holeItem_140 rfl rfl ?_
            refine z_if_eq (t := 158) (q := 144) dX9_holeItem_141 rfl (by omega) rfl (fun pc36 => ?_) (fun pc36 => ?_)
            · refine g_iload_n (q := 159) dX9_holeItem_158 rfl rfl ?_
              refine z_zret dX9_holeItem_159 rfl rfl ?_
              have eF : mHoleI (I 0) (A 0) p R = (0, p33, R33) := by unfold mHoleI; rw [if_neg (by omega), ← e20, mSeq1_t (by omega), ← e26, mSeq1_t (by omega), ← e33, mSeq1_f (by omega)]
              rw [eF]
              exact ⟨rfl, ⟨m0, m1, m2, m3, m4, m5, m6, m7, m8, m9, m10, m11⟩, ((((g_Fr.rf.step f6 ⟨by omega, by omega⟩).tr hf20).tr hf26).tr hf33)⟩
            · exfalso; omega
        · refine g_aload_n (q := 98) dX9_holeItem_97 rfl rfl ?_
          refine g_bipush (v := iZ 44) (q := 100) dX9_holeItem_98 (by decide) rfl ?_
          refine g_iload_n (q := 101) dX9_holeItem_100 rfl rfl ?_
          refine z_iconst (q := 102) dX9_holeItem_101 rfl ?_
          refine z_iaddc (c := (4 * (R 3) + 32)) (q := 103) dX9_holeItem_102 (by omega) rfl ?_
          refine z_iconst (q := 104) dX9_holeItem_103 rfl ?_
          refine g_aload_n (q := 105) dX9_holeItem_104 rfl rfl ?_
          refine g_get (q := 108) flX9_16 dX9_holeItem_105 m0 rfl rfl ?_
          refine z_iconst (q := 109) dX9_holeItem_108 rfl ?_
          refine z_iald (q := 110) dX9_holeItem_109 m3 (by omega) rfl ?_
          have b37 := bR33 1
          refine g_aload_n (q := 111) dX9_holeItem_110 rfl rfl ?_
          refine g_get (q := 114) flX9_16 dX9_holeItem_111 m0 rfl rfl ?_
          refine g_iload_n (q := 115) dX9_holeItem_114 rfl rfl ?_
          refine z_iconst (q := 116) dX9_holeItem_115 rfl ?_
          refine z_iaddc (c := (4 * (R 3) + 30)) (q := 117) dX9_holeItem_116 (by omega) rfl ?_
          refine z_iald (q := 118) dX9_holeItem_117 m3 (by omega) rfl ?_
          have b38 := bR33 (4 * (R 3) + 30)
          refine z_isub (q := 119) dX9_holeItem_118 rfl ?_
          have hN39 : rM a (nup I 1 p33) (nup A 2 R33) σ33 := ⟨m0, m1, m2, m3, m4, m5, m6, m7, m8, m9, m10, m11⟩
          obtain ⟨⟨k40, p40, R40⟩, e40⟩ : ∃ x, x = mNumber (I 0) (A 0) p33 R33 44 (4 * (R 3) + 32) 1 ((R33 1) - (R33 (4 * (R 3) + 30))) := ⟨_, rfl⟩
          have n40 := mNumber_p ht (p := p33) (by omega) R33 44 (4 * (R 3) + 32) 1 ((R33 1) - (R33 (4 * (R 3) + 30)))
          rw [← e40] at n40
          dsimp only at n40
          have bR40 := mNumber_R ht (p := p33) (by omega) 44 (4 * (R 3) + 32) 1 ((R33 1) - (R33 (4 * (R 3) + 30))) bR33
          rw [← e40] at bR40
          replace bR40 : zBr R40 := bR40
          refine g_callV (As := [.int (iZ 44), .int (iZ (4 * (R 3) + 32)), .int (iZ 1), .int (iZ ((R33 1) - (R33 (4 * (R 3) + 30))))]) (rest := []) (q := 122) moX9_number lkX9_holeItem_80 dX9_holeItem_119 rfl m0 (r_M_number σ33 a I (nup A 2 R33) p33 (by omega) hN39 hL ht 44 (4 * (R 3) + 32) 1 ((R33 1) - (R33 (4 * (R 3) + 30))) (by omega) (by omega) (by omega) (by omega)) rfl rfl (Nat.le_of_ble_eq_true rfl) (Nat.le_of_ble_eq_true rfl) (Nat.le_of_ble_eq_true rfl) rfl ?_
          rintro r40 σ40 ⟨hr40, hq40, hf40⟩
          rw [show mNumber (I 0) (nup A 2 R33 0) p33 (nup A 2 R33 2) 44 (4 * (R 3) + 32) 1 ((R33 1) - (R33 (4 * (R 3) + 30))) = (k40, p40, R40) from e40.symm] at hr40 hq40
          obtain rfl : r40 = some (.int (iZ k40)) := hr40
          have hM40 : rM a (nup I 1 p40) (nup A 2 R40) σ40 := hq40.congr (fun _ _ => rfl) (fun j _ => by rw [nup_nup])
          obtain ⟨m0, m1, m2, m3, m4, m5, m6, m7, m8, m9, m10, m11⟩ := id hM40
          have m3 : σ40[a + 3]? = some (.inl (0, 51, .inl (zA R40))) := m3
          have m1 : σ40[a + 1]? = some (.inl (0, 200, .inl (zA (A 0)))) := m1
          have m2 : σ40[a + 2]? = some (.inl (0, 51, .inl (zA (A 1)))) := m2
          have m4 : σ40[a + 4]? = some (.inl (0, 156, .inl (zA (A 3)))) := m4
          have m5 : σ40[a + 5]? = some (.inl (0, 936, .inl (zA (A 4)))) := m5
          have m6 : σ40[a + 6]? = some (.inl (0, 156, .inl (zA (A 5)))) := m6
          have m7 : σ40[a + 7]? = some (.inl (0, 64, .inl (zA (A 6)))) := m7
          have m8 : σ40[a + 8]? = some (.inl (0, 5, .inl (zA (A 7)))) := m8
          have m9 : σ40[a + 9]? = some (.inl (0, 5, .inl (zA (A 8)))) := m9
          have m10 : σ40[a + 10]? = some (.inl (0, 60, .inl (zA (A 9)))) := m10
          have m11 : σ40[a + 11]? = some (.inl (0, 5, .inl (zA (A 10)))) := m11
          have m0 : σ40[a]? = some (.inr (9, [.int (iZ (I 0)), .ref (a + 1), .int (iZ p40), .ref (a + 2), .ref (a + 3), .ref (a + 4), .ref (a + 5), .int (iZ (I 2)), .ref (a + 6), .ref (a + 7), .ref (a + 8), .int (iZ (I 3)), .int (iZ (I 4)), .ref (a + 9), .ref (a + 10), .ref (a + 11)])) := m0
          show Go w mX9_holeItem (0, 0) 122 [some (.ref a), some (.int (iZ (R 3))), some (.int (iZ (4 * (R 3) + 29))), none, none] [.int (iZ k40)] σ40 (fun r σ' => r = some (.int (iZ (mHoleI (I 0) (A 0) p R).1)) ∧ rM a (nup I 1 (mHoleI (I 0) (A 0) p R).2.1) (nup A 2 (mHoleI (I 0) (A 0) p R).2.2) σ' ∧ g_Fr (mR a) σ σ')
          refine z_if_eq (t := 129) (q := 125) dX9_holeItem_122 rfl (by omega) rfl (fun pc41 => ?_) (fun pc41 => ?_)
          · refine z_iconst (q := 130) dX9_holeItem_129 rfl ?_
            refine g_istore_n (ml' := [some (.ref a), some (.int (iZ (R 3))), some (.int (iZ (4 * (R 3) + 29))), some (.int (iZ 0)), none]) (q := 131) dX9_holeItem_130 rfl (Nat.le_of_ble_eq_true rfl) rfl rfl ?_
            refine z_iconst (q := 132) dX9_holeItem_131 rfl ?_
            refine g_istore (ml' := [some (.ref a), some (.int (iZ (R 3))), some (.int (iZ (4 * (R 3) + 29))), some (.int (iZ 0)), some (.int (iZ 0))]) (q := 134) dX9_holeItem_132 rfl (Nat.le_of_ble_eq_true rfl) rfl rfl ?_
            refine g_iload (q := 136) dX9_holeItem_134 rfl rfl ?_
            refine g_iload_n (q := 137) dX9_holeItem_136 rfl rfl ?_
            refine z_icmp_ge (t := 158) (q := 140) dX9_holeItem_137 rfl (by omega) rfl (fun pc42 => ?_) (fun pc42 => ?_)
            · refine g_iload_n (q := 159) dX9_holeItem_158 rfl rfl ?_
              refine z_zret dX9_holeItem_159 rfl rfl ?_
              have eF : mHoleI (I 0) (A 0) p R = (0, p40, R40) := by unfold mHoleI; rw [if_neg (by omega), ← e20, mSeq1_t (by omega), ← e26, mSeq1_t (by omega), ← e33, mSeq1_t (by omega), ← e40, mSeq1_f (by omega)]
              rw [eF]
              exact ⟨rfl, ⟨m0, m1, m2, m3, m4, m5, m6, m7, m8, m9, m10, m11⟩, (((((g_Fr.rf.step f6 ⟨by omega, by omega⟩).tr hf20).tr hf26).tr hf33).tr hf40)⟩
            · refine g_iload_n (q := 141) dX9_holeItem_140 rfl rfl ?_
              refine z_if_eq (t := 158) (q := 144) dX9_holeItem_141 rfl (by omega) rfl (fun pc43 => ?_) (fun pc43 => ?_)
              · refine g_iload_n (q := 159) dX9_holeItem_158 rfl rfl ?_
                refine z_zret dX9_holeItem_159 rfl rfl ?_
                have eF : mHoleI (I 0) (A 0) p R = (0, p40, R40) := by unfold mHoleI; rw [if_neg (by omega), ← e20, mSeq1_t (by omega), ← e26, mSeq1_t (by omega), ← e33, mSeq1_t (by omega), ← e40, mSeq1_f (by omega)]
                rw [eF]
                exact ⟨rfl, ⟨m0, m1, m2, m3, m4, m5, m6, m7, m8, m9, m10, m11⟩, (((((g_Fr.rf.step f6 ⟨by omega, by omega⟩).tr hf20).tr hf26).tr hf33).tr hf40)⟩
              · exfalso; omega
          · refine z_iconst (q := 126) dX9_holeItem_125 rfl ?_
            refine g_goto (q := 130) dX9_holeItem_126 rfl ?_
            refine g_istore_n (ml' := [some (.ref a), some (.int (iZ (R 3))), some (.int (iZ (4 * (R 3) + 29))), some (.int (iZ 1)), none]) (q := 131) dX9_holeItem_130 rfl (Nat.le_of_ble_eq_true rfl) rfl rfl ?_
            refine z_iconst (q := 132) dX9_holeItem_131 rfl ?_
            refine g_istore (ml' := [some (.ref a), some (.int (iZ (R 3))), some (.int (iZ (4 * (R 3) + 29))), some (.int (iZ 1)), some (.int (iZ 0))]) (q := 134) dX9_holeItem_132 rfl (Nat.le_of_ble_eq_true rfl) rfl rfl ?_
            have eF : mHoleI (I 0) (A 0) p R = (mApF R40 (R 3) (R 3).toNat 0 1, p40, R40) := by unfold mHoleI; rw [if_neg (by omega), ← e20, mSeq1_t (by omega), ← e26, mSeq1_t (by omega), ← e33, mSeq1_t (by omega), ← e40, mSeq1_t (by omega)]
            rw [eF]
            exact (l_M_hi w σ40 a (nup I 1 p40) (nup A 2 R40) hM40 (R 3) (4 * (R 3) + 29) (by omega) bR40 (R 3).toNat 0 1 (by omega) (by omega) (by omega)).mono (fun r σ1 hp => by rw [hp.1, hp.2]; exact ⟨rfl, hM40, (((((g_Fr.rf.step f6 ⟨by omega, by omega⟩).tr hf20).tr hf26).tr hf33).tr hf40)⟩)
  · refine z_iconst (q := 13) dX9_holeItem_12 rfl ?_
    refine z_zret dX9_holeItem_13 rfl rfl ?_
    have eF : mHoleI (I 0) (A 0) p R = (0, p, R) := by unfold mHoleI; rw [if_pos (by omega)]
    rw [eF]
    exact ⟨rfl, hM, g_Fr.rf⟩
