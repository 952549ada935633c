/-! what is open, HITS by each way -/
def mLkF (T : Int → Int) (h : Int) : Nat → Int → (Int → Int) → (Int → Int)
  | 0, _, Ha => Ha
  | n + 1, v, Ha => mLkF T h n (v + 1) (zup Ha (12 * h + v) (mNib T h (v / 2) (v % 2)))
def mLkO (T S : Int → Int) : Nat → Int → (Int → Int) → (Int → Int) → (Int → Int) × (Int → Int)
  | 0, _, O, Ha => (O, Ha)
  | n + 1, h, O, Ha => mLkO T S n (h + 1) (zup O h (if 0 < mOpen T S h then 1 else 0)) (mLkF T h (2 * T 2).toNat 0 Ha)
theorem l_M_looks1 (w : g_W) (Φ : g_Post) (σ0 : g_H0) (a : Nat) (I : Nat → Int) (A : Nat → Int → Int) (hT : wfT (A 1)) (hS : wfS (A 1) (A 3)) (h : Int) (bh : 0 ≤ h ∧ h < A 1 3) (O Hf : Int → Int) (K : ∀ σ : g_H0, rM a I (nup (nup A 8 O) 9 Hf) σ → g_Fr (mR a) σ0 σ → Go w mX9_looks (0, 0) 73 [some (.ref a), some (.int (iZ h)), none] [] σ Φ) : ∀ (n : Nat) (v : Int) (Ha : Int → Int) (σ : g_H0), 0 ≤ v → v + n = 2 * A 1 2 → mLkF (A 1) h n v Ha = Hf → rM a I (nup (nup A 8 O) 9 Ha) σ → g_Fr (mR a) σ0 σ → Go w mX9_looks (0, 0) 33 [some (.ref a), some (.int (iZ h)), some (.int (iZ v))] [] σ (Φ) := by
  intro n
  induction n with
  | zero =>
    intro v Ha σ hv hvn hf hM hF
    obtain ⟨m0, m1, m2, m3, m4, m5, m6, m7, m8, m9, m10, m11⟩ := id hM
    have m9 : σ[a + 9]? = some (.inl (0, 5, .inl (zA O))) := m9
    have m10 : σ[a + 10]? = some (.inl (0, 60, .inl (zA Ha))) := m10
    have m1 : σ[a + 1]? = some (.inl (0, 200, .inl (zA (A 0)))) := m1
    have m2 : σ[a + 2]? = some (.inl (0, 51, .inl (zA (A 1)))) := m2
    have m3 : σ[a + 3]? = some (.inl (0, 51, .inl (zA (A 2)))) := m3
    have m4 : σ[a + 4]? = some (.inl (0, 156, .inl (zA (A 3)))) := m4
    have m5 : σ[a + 5]? = some (.inl (0, 936, .inl (zA (A 4)))) := m5
    have m6 : σ[a + 6]? = some (.inl (0, 156, .inl (zA (A 5)))) := m6
    have m7 : σ[a + 7]? = some (.inl (0, 64, .inl (zA (A 6)))) := m7
    have m8 : σ[a + 8]? = some (.inl (0, 5, .inl (zA (A 7)))) := m8
    have m11 : σ[a + 11]? = some (.inl (0, 5, .inl (zA (A 10)))) := m11
    have bT := hT.1
    have bS := hS.bs hT
    have q0 := hT.2.1
    have q1 := hT.2.2.1
    have q2 := hT.2.2.2.1
    have h3 := hT.2.2.2.2.1
    have h4 := hT.2.2.2.2.2.1
    have s150 := hS.2.2.1
    refine g_iload_n (q := 34) dX9_looks_33 rfl rfl ?_
    refine z_iconst (q := 35) dX9_looks_34 rfl ?_
    refine g_aload_n (q := 36) dX9_looks_35 rfl rfl ?_
    refine g_get (q := 39) flX9_13 dX9_looks_36 m0 rfl rfl ?_
    refine z_iconst (q := 40) dX9_looks_39 rfl ?_
    refine z_iald (q := 41) dX9_looks_40 m2 (by omega) rfl ?_
    have b1 := bT 2
    refine z_imul (q := 42) dX9_looks_41 rfl ?_
    refine z_icmp_ge (t := 73) (q := 45) dX9_looks_42 rfl (by omega) rfl (fun pc2 => ?_) (fun pc2 => ?_)
    · refine Go.wk (ml' := [some (.ref a), some (.int (iZ h)), none]) ⟨Or.inr rfl, Or.inr rfl, Or.inl rfl, trivial⟩ ?_
      subst hf
      exact K σ hM hF
    · exfalso
      omega
  | succ n ih =>
    intro v Ha σ hv hvn hf hM hF
    obtain ⟨m0, m1, m2, m3, m4, m5, m6, m7, m8, m9, m10, m11⟩ := id hM
    have m9 : σ[a + 9]? = some (.inl (0, 5, .inl (zA O))) := m9
    have m10 : σ[a + 10]? = some (.inl (0, 60, .inl (zA Ha))) := m10
    have m1 : σ[a + 1]? = some (.inl (0, 200, .inl (zA (A 0)))) := m1
    have m2 : σ[a + 2]? = some (.inl (0, 51, .inl (zA (A 1)))) := m2
    have m3 : σ[a + 3]? = some (.inl (0, 51, .inl (zA (A 2)))) := m3
    have m4 : σ[a + 4]? = some (.inl (0, 156, .inl (zA (A 3)))) := m4
    have m5 : σ[a + 5]? = some (.inl (0, 936, .inl (zA (A 4)))) := m5
    have m6 : σ[a + 6]? = some (.inl (0, 156, .inl (zA (A 5)))) := m6
    have m7 : σ[a + 7]? = some (.inl (0, 64, .inl (zA (A 6)))) := m7
    have m8 : σ[a + 8]? = some (.inl (0, 5, .inl (zA (A 7)))) := m8
    have m11 : σ[a + 11]? = some (.inl (0, 5, .inl (zA (A 10)))) := m11
    have bT := hT.1
    have bS := hS.bs hT
    have q0 := hT.2.1
    have q1 := hT.2.2.1
    have q2 := hT.2.2.2.1
    have h3 := hT.2.2.2.2.1
    have h4 := hT.2.2.2.2.2.1
    have s150 := hS.2.2.1
    refine g_iload_n (q := 34) dX9_looks_33 rfl rfl ?_
    refine z_iconst (q := 35) dX9_looks_34 rfl ?_
    refine g_aload_n (q := 36) dX9_looks_35 rfl rfl ?_
    refine g_get (q := 39) flX9_13 dX9_looks_36 m0 rfl rfl ?_
    refine z_iconst (q := 40) dX9_looks_39 rfl ?_
    refine z_iald (q := 41) dX9_looks_40 m2 (by omega) rfl ?_
    have b1 := bT 2
    refine z_imul (q := 42) dX9_looks_41 rfl ?_
    refine z_icmp_ge (t := 73) (q := 45) dX9_looks_42 rfl (by omega) rfl (fun pc2 => ?_) (fun pc2 => ?_)
    · exfalso
      omega
    · refine g_aload_n (q := 46) dX9_looks_45 rfl rfl ?_
      refine g_get (q := 49) flX9_37 dX9_looks_46 m0 rfl rfl ?_
      refine g_bipush (v := iZ 12) (q := 51) dX9_looks_49 (by decide) rfl ?_
      refine g_iload_n (q := 52) dX9_looks_51 rfl rfl ?_
      refine z_imul (q := 53) dX9_looks_52 rfl ?_
      refine g_iload_n (q := 54) dX9_looks_53 rfl rfl ?_
      refine z_iaddc (c := (12 * h + v)) (q := 55) dX9_looks_54 (by omega) rfl ?_
      refine g_aload_n (q := 56) dX9_looks_55 rfl rfl ?_
      refine g_iload_n (q := 57) dX9_looks_56 rfl rfl ?_
      refine g_iload_n (q := 58) dX9_looks_57 rfl rfl ?_
      refine z_iconst (q := 59) dX9_looks_58 rfl ?_
      refine z_idiv (q := 60) dX9_looks_59 (by omega) rfl ?_
      refine g_iload_n (q := 61) dX9_looks_60 rfl rfl ?_
      refine z_iconst (q := 62) dX9_looks_61 rfl ?_
      refine z_irem (q := 63) dX9_looks_62 (by omega) rfl ?_
      have b3 := hT.2.2.2.2.2.2.2.1 h (by omega) (by omega)
      refine g_callV (As := [.int (iZ h), .int (iZ (v / 2)), .int (iZ (v % 2))]) (rest := [.int (iZ (12 * h + v)), .ref (a + 10)]) (q := 66) moX9_nibbles lkX9_looks_161 dX9_looks_63 rfl m0 (r_M_nibbles σ a I (nup (nup A 8 O) 9 Ha) hM h (v / 2) (v % 2) (by omega) (by omega) (by omega) bT (hT.w (by omega) (by omega) _) (hT.h (by omega) (by omega) _) (show 0 ≤ A 1 (4 * h + 31) ∧ A 1 (4 * h + 31) ≤ 12 by omega) (show 0 ≤ A 1 (4 * h + 32) ∧ A 1 (4 * h + 32) ≤ 12 by omega)) rfl rfl (Nat.le_of_ble_eq_true rfl) (Nat.le_of_ble_eq_true rfl) (Nat.le_of_ble_eq_true rfl) rfl ?_
      rintro r1 s1 hp
      rw [hp.1, hp.2]
      show Go w mX9_looks (0, 0) 66 [some (.ref a), some (.int (iZ h)), some (.int (iZ v))] [.int (iZ (mNib (A 1) h (v / 2) (v % 2))), .int (iZ (12 * h + v)), .ref (a + 10)] σ Φ
      refine z_iast (q := 67) dX9_looks_66 m10 (by omega) rfl (fun σ4 c5 f6 => ?_)
      have c7 := (f6.2 a (by omega)).trans m0
      have c8 := (f6.2 (a + 1) (by omega)).trans m1
      have c9 := (f6.2 (a + 2) (by omega)).trans m2
      have c10 := (f6.2 (a + 3) (by omega)).trans m3
      have c11 := (f6.2 (a + 4) (by omega)).trans m4
      have c12 := (f6.2 (a + 5) (by omega)).trans m5
      have c13 := (f6.2 (a + 6) (by omega)).trans m6
      have c14 := (f6.2 (a + 7) (by omega)).trans m7
      have c15 := (f6.2 (a + 8) (by omega)).trans m8
      have c16 := (f6.2 (a + 9) (by omega)).trans m9
      have c17 := (f6.2 (a + 11) (by omega)).trans m11
      refine z_iincc (c := (v + 1)) (ml' := [some (.ref a), some (.int (iZ h)), some (.int (iZ (v + 1)))]) (q := 70) dX9_looks_67 rfl (by omega) rfl rfl rfl ?_
      refine g_goto (q := 33) dX9_looks_70 rfl ?_
      exact ih (v + 1) _ σ4 (by omega) (by omega) hf ⟨c7, c8, c9, c10, c11, c12, c13, c14, c15, c16, c5, c17⟩ (hF.step f6 ⟨by omega, by omega⟩)
theorem l_M_looks2 (w : g_W) (Φ : g_Post) (σ0 : g_H0) (a : Nat) (I : Nat → Int) (A : Nat → Int → Int) (hT : wfT (A 1)) (hS : wfS (A 1) (A 3)) (OH : (Int → Int) × (Int → Int))  : ∀ (n : Nat) (h : Int) (O Ha : Int → Int) (σ : g_H0), 0 ≤ h → h + n = A 1 3 → mLkO (A 1) (A 3) n h O Ha = OH → rM a I (nup (nup A 8 O) 9 Ha) σ → g_Fr (mR a) σ0 σ → Go w mX9_looks (0, 0) 2 [some (.ref a), some (.int (iZ h)), none] [] σ (fun r σ' => r = none ∧ rM a I (nup (nup A 8 OH.1) 9 OH.2) σ' ∧ g_Fr (mR a) σ0 σ') := by
  intro n
  induction n with
  | zero =>
    intro h O Ha σ hh hhn hf hM hF
    obtain ⟨m0, m1, m2, m3, m4, m5, m6, m7, m8, m9, m10, m11⟩ := id hM
    have m9 : σ[a + 9]? = some (.inl (0, 5, .inl (zA O))) := m9
    have m10 : σ[a + 10]? = some (.inl (0, 60, .inl (zA Ha))) := m10
    have m1 : σ[a + 1]? = some (.inl (0, 200, .inl (zA (A 0)))) := m1
    have m2 : σ[a + 2]? = some (.inl (0, 51, .inl (zA (A 1)))) := m2
    have m3 : σ[a + 3]? = some (.inl (0, 51, .inl (zA (A 2)))) := m3
    have m4 : σ[a + 4]? = some (.inl (0, 156, .inl (zA (A 3)))) := m4
    have m5 : σ[a + 5]? = some (.inl (0, 936, .inl (zA (A 4)))) := m5
    have m6 : σ[a + 6]? = some (.inl (0, 156, .inl (zA (A 5)))) := m6
    have m7 : σ[a + 7]? = some (.inl (0, 64, .inl (zA (A 6)))) := m7
    have m8 : σ[a + 8]? = some (.inl (0, 5, .inl (zA (A 7)))) := m8
    have m11 : σ[a + 11]? = some (.inl (0, 5, .inl (zA (A 10)))) := m11
    have bT := hT.1
    have bS := hS.bs hT
    have q0 := hT.2.1
    have q1 := hT.2.2.1
    have q2 := hT.2.2.2.1
    have h3 := hT.2.2.2.2.1
    have h4 := hT.2.2.2.2.2.1
    have s150 := hS.2.2.1
    refine g_iload_n (q := 3) dX9_looks_2 rfl rfl ?_
    refine g_aload_n (q := 4) dX9_looks_3 rfl rfl ?_
    refine g_get (q := 7) flX9_13 dX9_looks_4 m0 rfl rfl ?_
    refine z_iconst (q := 8) dX9_looks_7 rfl ?_
    refine z_iald (q := 9) dX9_looks_8 m2 (by omega) rfl ?_
    have b1 := bT 3
    refine z_icmp_ge (t := 79) (q := 12) dX9_looks_9 rfl (by omega) rfl (fun pc2 => ?_) (fun pc2 => ?_)
    · refine z_vret dX9_looks_79 rfl ?_
      subst hf
      exact ⟨rfl, hM, hF⟩
    · exfalso
      omega
  | succ n ih =>
    intro h O Ha σ hh hhn hf hM hF
    obtain ⟨m0, m1, m2, m3, m4, m5, m6, m7, m8, m9, m10, m11⟩ := id hM
    have m9 : σ[a + 9]? = some (.inl (0, 5, .inl (zA O))) := m9
    have m10 : σ[a + 10]? = some (.inl (0, 60, .inl (zA Ha))) := m10
    have m1 : σ[a + 1]? = some (.inl (0, 200, .inl (zA (A 0)))) := m1
    have m2 : σ[a + 2]? = some (.inl (0, 51, .inl (zA (A 1)))) := m2
    have m3 : σ[a + 3]? = some (.inl (0, 51, .inl (zA (A 2)))) := m3
    have m4 : σ[a + 4]? = some (.inl (0, 156, .inl (zA (A 3)))) := m4
    have m5 : σ[a + 5]? = some (.inl (0, 936, .inl (zA (A 4)))) := m5
    have m6 : σ[a + 6]? = some (.inl (0, 156, .inl (zA (A 5)))) := m6
    have m7 : σ[a + 7]? = some (.inl (0, 64, .inl (zA (A 6)))) := m7
    have m8 : σ[a + 8]? = some (.inl (0, 5, .inl (zA (A 7)))) := m8
    have m11 : σ[a + 11]? = some (.inl (0, 5, .inl (zA (A 10)))) := m11
    have bT := hT.1
    have bS := hS.bs hT
    have q0 := hT.2.1
    have q1 := hT.2.2.1
    have q2 := hT.2.2.2.1
    have h3 := hT.2.2.2.2.1
    have h4 := hT.2.2.2.2.2.1
    have s150 := hS.2.2.1
    refine g_iload_n (q := 3) dX9_looks_2 rfl rfl ?_
    refine g_aload_n (q := 4) dX9_looks_3 rfl rfl ?_
    refine g_get (q := 7) flX9_13 dX9_looks_4 m0 rfl rfl ?_
    refine z_iconst (q := 8) dX9_looks_7 rfl ?_
    refine z_iald (q := 9) dX9_looks_8 m2 (by omega) rfl ?_
    have b1 := bT 3
    refine z_icmp_ge (t := 79) (q := 12) dX9_looks_9 rfl (by omega) rfl (fun pc2 => ?_) (fun pc2 => ?_)
    · exfalso
      omega
    · refine g_aload_n (q := 13) dX9_looks_12 rfl rfl ?_
      refine g_get (q := 16) flX9_34 dX9_looks_13 m0 rfl rfl ?_
      refine g_iload_n (q := 17) dX9_looks_16 rfl rfl ?_
      have J3 : ∀ z4 : Int, z4 = (if 0 < mOpen (A 1) (A 3) h then 1 else 0) → Go w mX9_looks (0, 0) 30 [some (.ref a), some (.int (iZ h)), none] [.int (iZ z4), .int (iZ h), .ref (a + 9)] σ (fun r σ' => r = none ∧ rM a I (nup (nup A 8 OH.1) 9 OH.2) σ' ∧ g_Fr (mR a) σ0 σ') := by
        intro z4 e5
        refine z_iast (q := 31) dX9_looks_30 m9 (by omega) rfl (fun σ6 c7 f8 => ?_)
        have c9 := (f8.2 a (by omega)).trans m0
        have c10 := (f8.2 (a + 1) (by omega)).trans m1
        have c11 := (f8.2 (a + 2) (by omega)).trans m2
        have c12 := (f8.2 (a + 3) (by omega)).trans m3
        have c13 := (f8.2 (a + 4) (by omega)).trans m4
        have c14 := (f8.2 (a + 5) (by omega)).trans m5
        have c15 := (f8.2 (a + 6) (by omega)).trans m6
        have c16 := (f8.2 (a + 7) (by omega)).trans m7
        have c17 := (f8.2 (a + 8) (by omega)).trans m8
        have c18 := (f8.2 (a + 10) (by omega)).trans m10
        have c19 := (f8.2 (a + 11) (by omega)).trans m11
        refine z_iconst (q := 32) dX9_looks_31 rfl ?_
        refine g_istore_n (ml' := [some (.ref a), some (.int (iZ h)), some (.int (iZ 0))]) (q := 33) dX9_looks_32 rfl (Nat.le_of_ble_eq_true rfl) rfl rfl ?_
        refine l_M_looks1 w _ σ0 a I A hT hS h (by omega) (zup O h z4) _ (fun σ9 hM9 hF9 => ?_) (2 * A 1 2).toNat 0 Ha σ6 (by omega) (by omega) rfl ⟨c9, c10, c11, c12, c13, c14, c15, c16, c17, c7, c18, c19⟩ (hF.step f8 ⟨by omega, by omega⟩)
        obtain ⟨m0, m1, m2, m3, m4, m5, m6, m7, m8, m9, m10, m11⟩ := id hM9
        refine z_iincc (c := (h + 1)) (ml' := [some (.ref a), some (.int (iZ (h + 1))), none]) (q := 76) dX9_looks_73 rfl (by omega) rfl rfl rfl ?_
        refine g_goto (q := 2) dX9_looks_76 rfl ?_
        exact ih (h + 1) _ _ σ9 (by omega) (by omega) (by rw [← hf]; subst_vars; rfl) hM9 hF9
      refine g_aload_n (q := 18) dX9_looks_17 rfl rfl ?_
      refine g_iload_n (q := 19) dX9_looks_18 rfl rfl ?_
      refine g_callV (As := [.int (iZ h)]) (rest := [.int (iZ h), .ref (a + 9)]) (q := 22) moX9_open lkX9_looks_165 dX9_looks_19 rfl m0 (r_M_open σ a I (nup (nup A 8 O) 9 Ha) hM h (by omega) bT bS h3) rfl rfl (Nat.le_of_ble_eq_true rfl) (Nat.le_of_ble_eq_true rfl) (Nat.le_of_ble_eq_true rfl) rfl ?_
      rintro r1 s1 hp
      rw [hp.1, hp.2]
      show Go w mX9_looks (0, 0) 22 [some (.ref a), some (.int (iZ h)), none] [.int (iZ (mOpen (A 1) (A 3) h)), .int (iZ h), .ref (a + 9)] σ (fun r σ' => r = none ∧ rM a I (nup (nup A 8 OH.1) 9 OH.2) σ' ∧ g_Fr (mR a) σ0 σ')
      have b20 := mOpen_b (A 1) (A 3) h hS.1
      refine z_if_le (t := 29) (q := 25) dX9_looks_22 rfl (by omega) rfl (fun pc21 => ?_) (fun pc21 => ?_)
      · refine z_iconst (q := 30) dX9_looks_29 rfl ?_
        exact J3 _ (by omega)
      · refine z_iconst (q := 26) dX9_looks_25 rfl ?_
        refine g_goto (q := 30) dX9_looks_26 rfl ?_
        exact J3 _ (by omega)
theorem r_M_looks (σ : g_H0) (a : Nat) (I : Nat → Int) (A : Nat → Int → Int) (hM : rM a I A σ) (hT : wfT (A 1)) (hS : wfS (A 1) (A 3)) : Ret mX9_looks [.ref a] σ (fun r σ' => r = none ∧ rM a I (nup (nup A 8 (mLkO (A 1) (A 3) (A 1 3).toNat 0 (A 8) (A 9)).1) 9 (mLkO (A 1) (A 3) (A 1 3).toNat 0 (A 8) (A 9)).2) σ' ∧ g_Fr (mR a) σ σ') := by
  refine Ret.of moX9_looks.1 (Nat.le_of_ble_eq_true rfl) (fun w => ?_)
  obtain ⟨m0, m1, m2, m3, m4, m5, m6, m7, m8, m9, m10, m11⟩ := id hM
  show Go w mX9_looks (0, 0) 0 [some (.ref a), none, none] [] σ (fun r σ' => r = none ∧ rM a I (nup (nup A 8 (mLkO (A 1) (A 3) (A 1 3).toNat 0 (A 8) (A 9)).1) 9 (mLkO (A 1) (A 3) (A 1 3).toNat 0 (A 8) (A 9)).2) σ' ∧ g_Fr (mR a) σ σ')
  refine z_iconst (q := 1) dX9_looks_0 rfl ?_
  refine g_istore_n (ml' := [some (.ref a), some (.int (iZ 0)), none]) (q := 2) dX9_looks_1 rfl (Nat.le_of_ble_eq_true rfl) rfl rfl ?_
  exact l_M_looks2 w (fun _ _ => True) σ a I A hT hS _ (A 1 3).toNat 0 (A 8) (A 9) σ (by omega) (by have := hT.2.2.2.2.1; omega) rfl (hM.congr (fun _ _ => rfl) (fun j _ => by rw [nup_id, nup_id])) g_Fr.rf
def mTurF (n here : Int) : Nat → Int → (Int → Int) → (Int → Int)
  | 0, _, R => R
  | m + 1, s, R => mTurF n here m (s + 1) (zup R s (mRound n here s))
/-- how many plans -/
def mCodF (T S : Int → Int) : Nat → Int → Int → Int
  | 0, _, p => p
  | m + 1, h, p => mCodF T S m (h + 1) (p * (if 0 < mOpen T S h then 2 * T 2 else 1))
theorem l_M_plans1 (w : g_W) (Φ : g_Post) (σ0 : g_H0) (a : Nat) (I : Nat → Int) (A : Nat → Int → Int) (hT : wfT (A 1)) (hS : wfS (A 1) (A 3)) (Rf : Int → Int) (K : ∀ σ : g_H0, rM a I (nup A 6 Rf) σ → g_Fr (mR a) σ0 σ → Go w mX9_plans (0, 0) 33 [some (.ref a), some (.int (iZ (A 1 2))), none, none, none, none, none, none, none, none, none, none] [] σ Φ) : ∀ (n : Nat) (s : Int) (R : Int → Int) (σ : g_H0), 0 ≤ s → s + n = pw (A 1 2) → mTurF (A 1 2) (A 3 150) n s R = Rf → rM a I (nup A 6 R) σ → g_Fr (mR a) σ0 σ → Go w mX9_plans (0, 0) 9 [some (.ref a), some (.int (iZ (A 1 2))), some (.int (iZ s)), none, none, none, none, none, none, none, none, none] [] σ (Φ) := by
  intro n
  induction n with
  | zero =>
    intro s R σ hs hsn hf hM hF
    obtain ⟨m0, m1, m2, m3, m4, m5, m6, m7, m8, m9, m10, m11⟩ := id hM
    have m7 : σ[a + 7]? = some (.inl (0, 64, .inl (zA R))) := m7
    have m1 : σ[a + 1]? = some (.inl (0, 200, .inl (zA (A 0)))) := m1
    have m2 : σ[a + 2]? = some (.inl (0, 51, .inl (zA (A 1)))) := m2
    have m3 : σ[a + 3]? = some (.inl (0, 51, .inl (zA (A 2)))) := m3
    have m4 : σ[a + 4]? = some (.inl (0, 156, .inl (zA (A 3)))) := m4
    have m5 : σ[a + 5]? = some (.inl (0, 936, .inl (zA (A 4)))) := m5
    have m6 : σ[a + 6]? = some (.inl (0, 156, .inl (zA (A 5)))) := m6
    have m8 : σ[a + 8]? = some (.inl (0, 5, .inl (zA (A 7)))) := m8
    have m9 : σ[a + 9]? = some (.inl (0, 5, .inl (zA (A 8)))) := m9
    have m10 : σ[a + 10]? = some (.inl (0, 60, .inl (zA (A 9)))) := m10
    have m11 : σ[a + 11]? = some (.inl (0, 5, .inl (zA (A 10)))) := m11
    have bT := hT.1
    have bS := hS.bs hT
    have q0 := hT.2.1
    have q1 := hT.2.2.1
    have q2 := hT.2.2.2.1
    have h3 := hT.2.2.2.2.1
    have h4 := hT.2.2.2.2.2.1
    have s150 := hS.2.2.1
    have pb := pw_b (b := A 1 2) (by omega)
    refine g_iload_n (q := 10) dX9_plans_9 rfl rfl ?_
    refine z_iconst (q := 11) dX9_plans_10 rfl ?_
    refine g_iload_n (q := 12) dX9_plans_11 rfl rfl ?_
    refine z_shl1 (q := 13) dX9_plans_12 (by omega) rfl ?_
    have b1 := pw_b (b := (A 1 2)) (by omega)
    refine z_icmp_ge (t := 33) (q := 16) dX9_plans_13 rfl (by omega) rfl (fun pc2 => ?_) (fun pc2 => ?_)
    · refine Go.wk (ml' := [some (.ref a), some (.int (iZ (A 1 2))), none, none, none, none, none, none, none, none, none, none]) ⟨Or.inr rfl, Or.inr rfl, Or.inl rfl, Or.inl rfl, Or.inl rfl, Or.inl rfl, Or.inl rfl, Or.inl rfl, Or.inl rfl, Or.inl rfl, Or.inl rfl, Or.inl rfl, trivial⟩ ?_
      subst hf
      exact K σ hM hF
    · exfalso
      omega
  | succ n ih =>
    intro s R σ hs hsn hf hM hF
    obtain ⟨m0, m1, m2, m3, m4, m5, m6, m7, m8, m9, m10, m11⟩ := id hM
    have m7 : σ[a + 7]? = some (.inl (0, 64, .inl (zA R))) := m7
    have m1 : σ[a + 1]? = some (.inl (0, 200, .inl (zA (A 0)))) := m1
    have m2 : σ[a + 2]? = some (.inl (0, 51, .inl (zA (A 1)))) := m2
    have m3 : σ[a + 3]? = some (.inl (0, 51, .inl (zA (A 2)))) := m3
    have m4 : σ[a + 4]? = some (.inl (0, 156, .inl (zA (A 3)))) := m4
    have m5 : σ[a + 5]? = some (.inl (0, 936, .inl (zA (A 4)))) := m5
    have m6 : σ[a + 6]? = some (.inl (0, 156, .inl (zA (A 5)))) := m6
    have m8 : σ[a + 8]? = some (.inl (0, 5, .inl (zA (A 7)))) := m8
    have m9 : σ[a + 9]? = some (.inl (0, 5, .inl (zA (A 8)))) := m9
    have m10 : σ[a + 10]? = some (.inl (0, 60, .inl (zA (A 9)))) := m10
    have m11 : σ[a + 11]? = some (.inl (0, 5, .inl (zA (A 10)))) := m11
    have bT := hT.1
    have bS := hS.bs hT
    have q0 := hT.2.1
    have q1 := hT.2.2.1
    have q2 := hT.2.2.2.1
    have h3 := hT.2.2.2.2.1
    have h4 := hT.2.2.2.2.2.1
    have s150 := hS.2.2.1
    have pb := pw_b (b := A 1 2) (by omega)
    refine g_iload_n (q := 10) dX9_plans_9 rfl rfl ?_
    refine z_iconst (q := 11) dX9_plans_10 rfl ?_
    refine g_iload_n (q := 12) dX9_plans_11 rfl rfl ?_
    refine z_shl1 (q := 13) dX9_plans_12 (by omega) rfl ?_
    have b1 := pw_b (b := (A 1 2)) (by omega)
    refine z_icmp_ge (t := 33) (q := 16) dX9_plans_13 rfl (by omega) rfl (fun pc2 => ?_) (fun pc2 => ?_)
    · exfalso
      omega
    · refine g_aload_n (q := 17) dX9_plans_16 rfl rfl ?_
      refine g_get (q := 20) flX9_28 dX9_plans_17 m0 rfl rfl ?_
      refine g_iload_n (q := 21) dX9_plans_20 rfl rfl ?_
      refine g_aload_n (q := 22) dX9_plans_21 rfl rfl ?_
      refine g_iload_n (q := 23) dX9_plans_22 rfl rfl ?_
      refine g_callV (As := [.int (iZ s)]) (rest := [.int (iZ s), .ref (a + 7)]) (q := 26) moX9_round lkX9_plans_182 dX9_plans_23 rfl m0 (r_M_round σ a I (nup A 6 R) hM s (by omega) bT bS q2 s150) rfl rfl (Nat.le_of_ble_eq_true rfl) (Nat.le_of_ble_eq_true rfl) (Nat.le_of_ble_eq_true rfl) rfl ?_
      rintro r1 s1 hp
      rw [hp.1, hp.2]
      show Go w mX9_plans (0, 0) 26 [some (.ref a), some (.int (iZ (A 1 2))), some (.int (iZ s)), none, none, none, none, none, none, none, none, none] [.int (iZ (mRound (A 1 2) (A 3 150) s)), .int (iZ s), .ref (a + 7)] σ Φ
      refine z_iast (q := 27) dX9_plans_26 m7 (by omega) rfl (fun σ3 c4 f5 => ?_)
      have c6 := (f5.2 a (by omega)).trans m0
      have c7 := (f5.2 (a + 1) (by omega)).trans m1
      have c8 := (f5.2 (a + 2) (by omega)).trans m2
      have c9 := (f5.2 (a + 3) (by omega)).trans m3
      have c10 := (f5.2 (a + 4) (by omega)).trans m4
      have c11 := (f5.2 (a + 5) (by omega)).trans m5
      have c12 := (f5.2 (a + 6) (by omega)).trans m6
      have c13 := (f5.2 (a + 8) (by omega)).trans m8
      have c14 := (f5.2 (a + 9) (by omega)).trans m9
      have c15 := (f5.2 (a + 10) (by omega)).trans m10
      have c16 := (f5.2 (a + 11) (by omega)).trans m11
      refine z_iincc (c := (s + 1)) (ml' := [some (.ref a), some (.int (iZ (A 1 2))), some (.int (iZ (s + 1))), none, none, none, none, none, none, none, none, none]) (q := 30) dX9_plans_27 rfl (by omega) rfl rfl rfl ?_
      refine g_goto (q := 9) dX9_plans_30 rfl ?_
      exact ih (s + 1) _ σ3 (by omega) (by omega) hf ⟨c6, c7, c8, c9, c10, c11, c12, c4, c13, c14, c15, c16⟩ (hF.step f5 ⟨by omega, by omega⟩)
theorem l_M_plans2 (w : g_W) (Φ : g_Post) (σ0 : g_H0) (a : Nat) (I : Nat → Int) (A : Nat → Int → Int) (hT : wfT (A 1)) (hS : wfS (A 1) (A 3)) (pf : Int) (K : ∀ σ : g_H0, rM a I A σ → g_Fr (mR a) σ0 σ → Go w mX9_plans (0, 0) 71 [some (.ref a), some (.int (iZ (A 1 2))), some (.int (iZ pf)), none, none, none, none, none, none, none, none, none] [] σ Φ) : ∀ (n : Nat) (h p : Int) (σ : g_H0), 0 ≤ h → h + n = A 1 3 → mCodF (A 1) (A 3) n h p = pf → rM a I A σ → g_Fr (mR a) σ0 σ → Go w mX9_plans (0, 0) 37 [some (.ref a), some (.int (iZ (A 1 2))), some (.int (iZ p)), some (.int (iZ h)), none, none, none, none, none, none, none, none] [] σ (Φ) := by
  intro n
  induction n with
  | zero =>
    intro h p σ hh hhn hf hM hF
    obtain ⟨m0, m1, m2, m3, m4, m5, m6, m7, m8, m9, m10, m11⟩ := id hM
    have bT := hT.1
    have bS := hS.bs hT
    have q0 := hT.2.1
    have q1 := hT.2.2.1
    have q2 := hT.2.2.2.1
    have h3 := hT.2.2.2.2.1
    have h4 := hT.2.2.2.2.2.1
    have s150 := hS.2.2.1
    refine g_iload_n (q := 38) dX9_plans_37 rfl rfl ?_
    refine g_aload_n (q := 39) dX9_plans_38 rfl rfl ?_
    refine g_get (q := 42) flX9_13 dX9_plans_39 m0 rfl rfl ?_
    refine z_iconst (q := 43) dX9_plans_42 rfl ?_
    refine z_iald (q := 44) dX9_plans_43 m2 (by omega) rfl ?_
    have b1 := bT 3
    refine z_icmp_ge (t := 71) (q := 47) dX9_plans_44 rfl (by omega) rfl (fun pc2 => ?_) (fun pc2 => ?_)
    · refine Go.wk (ml' := [some (.ref a), some (.int (iZ (A 1 2))), some (.int (iZ p)), none, none, none, none, none, none, none, none, none]) ⟨Or.inr rfl, Or.inr rfl, Or.inr rfl, Or.inl rfl, Or.inl rfl, Or.inl rfl, Or.inl rfl, Or.inl rfl, Or.inl rfl, Or.inl rfl, Or.inl rfl, Or.inl rfl, trivial⟩ ?_
      subst hf
      exact K σ hM hF
    · exfalso
      omega
  | succ n ih =>
    intro h p σ hh hhn hf hM hF
    obtain ⟨m0, m1, m2, m3, m4, m5, m6, m7, m8, m9, m10, m11⟩ := id hM
    have bT := hT.1
    have bS := hS.bs hT
    have q0 := hT.2.1
    have q1 := hT.2.2.1
    have q2 := hT.2.2.2.1
    have h3 := hT.2.2.2.2.1
    have h4 := hT.2.2.2.2.2.1
    have s150 := hS.2.2.1
    refine g_iload_n (q := 38) dX9_plans_37 rfl rfl ?_
    refine g_aload_n (q := 39) dX9_plans_38 rfl rfl ?_
    refine g_get (q := 42) flX9_13 dX9_plans_39 m0 rfl rfl ?_
    refine z_iconst (q := 43) dX9_plans_42 rfl ?_
    refine z_iald (q := 44) dX9_plans_43 m2 (by omega) rfl ?_
    have b1 := bT 3
    refine z_icmp_ge (t := 71) (q := 47) dX9_plans_44 rfl (by omega) rfl (fun pc2 => ?_) (fun pc2 => ?_)
    · exfalso
      omega
    · refine g_iload_n (q := 48) dX9_plans_47 rfl rfl ?_
      have J3 : ∀ z4 : Int, z4 = (if 0 < mOpen (A 1) (A 3) h then 2 * A 1 2 else 1) → Go w mX9_plans (0, 0) 63 [some (.ref a), some (.int (iZ (A 1 2))), some (.int (iZ p)), some (.int (iZ h)), none, none, none, none, none, none, none, none] [.int (iZ z4), .int (iZ p)] σ Φ := by
        intro z4 e5
        refine z_imul (q := 64) dX9_plans_63 rfl ?_
        refine g_istore_n (ml' := [some (.ref a), some (.int (iZ (A 1 2))), some (.int (iZ (p * z4))), some (.int (iZ h)), none, none, none, none, none, none, none, none]) (q := 65) dX9_plans_64 rfl (Nat.le_of_ble_eq_true rfl) rfl rfl ?_
        refine z_iincc (c := (h + 1)) (ml' := [some (.ref a), some (.int (iZ (A 1 2))), some (.int (iZ (p * z4))), some (.int (iZ (h + 1))), none, none, none, none, none, none, none, none]) (q := 68) dX9_plans_65 rfl (by omega) rfl rfl rfl ?_
        refine g_goto (q := 37) dX9_plans_68 rfl ?_
        exact ih (h + 1) (p * z4) σ (by omega) (by omega) (by rw [← hf]; subst_vars; rfl) hM hF
      refine g_aload_n (q := 49) dX9_plans_48 rfl rfl ?_
      refine g_iload_n (q := 50) dX9_plans_49 rfl rfl ?_
      refine g_callV (As := [.int (iZ h)]) (rest := [.int (iZ p)]) (q := 53) moX9_open lkX9_plans_165 dX9_plans_50 rfl m0 (r_M_open σ a I A hM h (by omega) bT bS h3) rfl rfl (Nat.le_of_ble_eq_true rfl) (Nat.le_of_ble_eq_true rfl) (Nat.le_of_ble_eq_true rfl) rfl ?_
      rintro r1 s1 hp
      rw [hp.1, hp.2]
      show Go w mX9_plans (0, 0) 53 [some (.ref a), some (.int (iZ (A 1 2))), some (.int (iZ p)), some (.int (iZ h)), none, none, none, none, none, none, none, none] [.int (iZ (mOpen (A 1) (A 3) h)), .int (iZ p)] σ Φ
      have b6 := mOpen_b (A 1) (A 3) h hS.1
      refine z_if_le (t := 62) (q := 56) dX9_plans_53 rfl (by omega) rfl (fun pc7 => ?_) (fun pc7 => ?_)
      · refine z_iconst (q := 63) dX9_plans_62 rfl ?_
        exact J3 _ (by omega)
      · refine z_iconst (q := 57) dX9_plans_56 rfl ?_
        refine g_iload_n (q := 58) dX9_plans_57 rfl rfl ?_
        refine z_imul (q := 59) dX9_plans_58 rfl ?_
        refine g_goto (q := 63) dX9_plans_59 rfl ?_
        exact J3 _ (by omega)
