def mAnew (T S : Int → Int) : Int → Int := zup (zup (zcp S (fun _ => 0) 0 0 156) 151 (T 49)) 152 (T 50)
theorem l_M_an (w : g_W) (Φ : g_Post) (σ0 : g_H0) (a : Nat) (I : Nat → Int) (A : Nat → Int → Int)  (K : ∀ σ : g_H0, rM a I (nup A 3 (zcp (A 3) (fun _ => (0 : Int)) 0 0 156)) σ → g_Fr (mR a) σ0 σ → Go w mX9_anew (0, 0) 22 [some (.ref a), none] [] σ Φ) : ∀ (n : Nat) (i : Int) (σ : g_H0), 0 ≤ i → i + n = 156 → rM a I (nup A 3 (zcp (A 3) (fun _ => (0 : Int)) 0 0 i)) σ → g_Fr (mR a) σ0 σ → Go w mX9_anew (0, 0) 2 [some (.ref a), some (.int (iZ i))] [] σ Φ := by
  intro n
  induction n with
  | zero =>
    intro i σ h0 h1 hM hF
    obtain ⟨m0, m1, m2, m3, m4, m5, m6, m7, m8, m9, m10, m11⟩ := id hM
    have m4 : σ[a + 4]? = some (.inl (0, 156, .inl (zA (zcp (A 3) (fun _ => (0 : Int)) 0 0 i)))) := m4
    have m1 : σ[a + 1]? = some (.inl (0, 200, .inl (zA (A 0)))) := m1
    have m2 : σ[a + 2]? = some (.inl (0, 51, .inl (zA (A 1)))) := m2
    have m3 : σ[a + 3]? = some (.inl (0, 51, .inl (zA (A 2)))) := m3
    have m5 : σ[a + 5]? = some (.inl (0, 936, .inl (zA (A 4)))) := m5
    have m6 : σ[a + 6]? = some (.inl (0, 156, .inl (zA (A 5)))) := m6
    have m7 : σ[a + 7]? = some (.inl (0, 64, .inl (zA (A 6)))) := m7
    have m8 : σ[a + 8]? = some (.inl (0, 5, .inl (zA (A 7)))) := m8
    have m9 : σ[a + 9]? = some (.inl (0, 5, .inl (zA (A 8)))) := m9
    have m10 : σ[a + 10]? = some (.inl (0, 60, .inl (zA (A 9)))) := m10
    have m11 : σ[a + 11]? = some (.inl (0, 5, .inl (zA (A 10)))) := m11
    refine g_iload_n (q := 3) dX9_anew_2 rfl rfl ?_
    refine g_sipush (v := iZ 156) (q := 6) dX9_anew_3 (by decide) rfl ?_
    refine z_icmp_ge (t := 22) (q := 9) dX9_anew_6 rfl (by omega) rfl (fun pc1 => ?_) (fun pc1 => ?_)
    · obtain rfl : i = 156 := by omega
      refine Go.wk (ml' := [some (.ref a), none]) ⟨Or.inr rfl, Or.inl rfl, trivial⟩ ?_
      exact K σ hM hF
    · exfalso
      omega
  | succ n ih =>
    intro i σ h0 h1 hM hF
    obtain ⟨m0, m1, m2, m3, m4, m5, m6, m7, m8, m9, m10, m11⟩ := id hM
    have m4 : σ[a + 4]? = some (.inl (0, 156, .inl (zA (zcp (A 3) (fun _ => (0 : Int)) 0 0 i)))) := m4
    have m1 : σ[a + 1]? = some (.inl (0, 200, .inl (zA (A 0)))) := m1
    have m2 : σ[a + 2]? = some (.inl (0, 51, .inl (zA (A 1)))) := m2
    have m3 : σ[a + 3]? = some (.inl (0, 51, .inl (zA (A 2)))) := m3
    have m5 : σ[a + 5]? = some (.inl (0, 936, .inl (zA (A 4)))) := m5
    have m6 : σ[a + 6]? = some (.inl (0, 156, .inl (zA (A 5)))) := m6
    have m7 : σ[a + 7]? = some (.inl (0, 64, .inl (zA (A 6)))) := m7
    have m8 : σ[a + 8]? = some (.inl (0, 5, .inl (zA (A 7)))) := m8
    have m9 : σ[a + 9]? = some (.inl (0, 5, .inl (zA (A 8)))) := m9
    have m10 : σ[a + 10]? = some (.inl (0, 60, .inl (zA (A 9)))) := m10
    have m11 : σ[a + 11]? = some (.inl (0, 5, .inl (zA (A 10)))) := m11
    refine g_iload_n (q := 3) dX9_anew_2 rfl rfl ?_
    refine g_sipush (v := iZ 156) (q := 6) dX9_anew_3 (by decide) rfl ?_
    refine z_icmp_ge (t := 22) (q := 9) dX9_anew_6 rfl (by omega) rfl (fun pc1 => ?_) (fun pc1 => ?_)
    · exfalso
      omega
    · refine g_aload_n (q := 10) dX9_anew_9 rfl rfl ?_
      refine g_get (q := 13) flX9_19 dX9_anew_10 m0 rfl rfl ?_
      refine g_iload_n (q := 14) dX9_anew_13 rfl rfl ?_
      refine z_iconst (q := 15) dX9_anew_14 rfl ?_
      refine z_iast (q := 16) dX9_anew_15 m4 (by omega) rfl (fun σ2 c3 f4 => ?_)
      have c5 := (f4.2 a (by omega)).trans m0
      have c6 := (f4.2 (a + 1) (by omega)).trans m1
      have c7 := (f4.2 (a + 2) (by omega)).trans m2
      have c8 := (f4.2 (a + 3) (by omega)).trans m3
      have c9 := (f4.2 (a + 5) (by omega)).trans m5
      have c10 := (f4.2 (a + 6) (by omega)).trans m6
      have c11 := (f4.2 (a + 7) (by omega)).trans m7
      have c12 := (f4.2 (a + 8) (by omega)).trans m8
      have c13 := (f4.2 (a + 9) (by omega)).trans m9
      have c14 := (f4.2 (a + 10) (by omega)).trans m10
      have c15 := (f4.2 (a + 11) (by omega)).trans m11
      refine z_iincc (c := (i + 1)) (ml' := [some (.ref a), some (.int (iZ (i + 1)))]) (q := 19) dX9_anew_16 rfl (by omega) rfl rfl rfl ?_
      refine g_goto (q := 2) dX9_anew_19 rfl ?_
      exact ih (i + 1) σ2 (by omega) (by omega) (by rw [← zcp_step (i := i) (j := i) (v := 0) (by omega) (by omega) rfl]; exact ⟨c5, c6, c7, c8, c3, c9, c10, c11, c12, c13, c14, c15⟩) (hF.step f4 ⟨by omega, by omega⟩)
theorem r_M_anew (σ : g_H0) (a : Nat) (I : Nat → Int) (A : Nat → Int → Int) (hM : rM a I A σ) : Ret mX9_anew [.ref a] σ (fun r σ' => r = none ∧ rM a (nup I 2 0) (nup A 3 (mAnew (A 1) (A 3))) σ' ∧ g_Fr (mR a) σ σ') := by
  refine Ret.of moX9_anew.1 (Nat.le_of_ble_eq_true rfl) (fun w => ?_)
  obtain ⟨m0, m1, m2, m3, m4, m5, m6, m7, m8, m9, m10, m11⟩ := id hM
  show Go w mX9_anew (0, 0) 0 [some (.ref a), none] [] σ (fun r σ' => r = none ∧ rM a (nup I 2 0) (nup A 3 (mAnew (A 1) (A 3))) σ' ∧ g_Fr (mR a) σ σ')
  refine z_iconst (q := 1) dX9_anew_0 rfl ?_
  refine g_istore_n (ml' := [some (.ref a), some (.int (iZ 0))]) (q := 2) dX9_anew_1 rfl (Nat.le_of_ble_eq_true rfl) rfl rfl ?_
  refine l_M_an w _ σ a I A (fun σ1 hM1 hF1 => ?_) 156 0 σ (by omega) (by omega) (by rw [zcp_0, nup_id]; exact hM) g_Fr.rf
  obtain ⟨m0, m1, m2, m3, m4, m5, m6, m7, m8, m9, m10, m11⟩ := id hM1
  have m4 : σ1[a + 4]? = some (.inl (0, 156, .inl (zA (zcp (A 3) (fun _ => (0 : Int)) 0 0 156)))) := m4
  have m1 : σ1[a + 1]? = some (.inl (0, 200, .inl (zA (A 0)))) := m1
  have m2 : σ1[a + 2]? = some (.inl (0, 51, .inl (zA (A 1)))) := m2
  have m3 : σ1[a + 3]? = some (.inl (0, 51, .inl (zA (A 2)))) := m3
  have m5 : σ1[a + 5]? = some (.inl (0, 936, .inl (zA (A 4)))) := m5
  have m6 : σ1[a + 6]? = some (.inl (0, 156, .inl (zA (A 5)))) := m6
  have m7 : σ1[a + 7]? = some (.inl (0, 64, .inl (zA (A 6)))) := m7
  have m8 : σ1[a + 8]? = some (.inl (0, 5, .inl (zA (A 7)))) := m8
  have m9 : σ1[a + 9]? = some (.inl (0, 5, .inl (zA (A 8)))) := m9
  have m10 : σ1[a + 10]? = some (.inl (0, 60, .inl (zA (A 9)))) := m10
  have m11 : σ1[a + 11]? = some (.inl (0, 5, .inl (zA (A 10)))) := m11
  have m0 : σ1[a]? = some (.inr (9, [.int (iZ (I 0)), .ref (a + 1), .int (iZ (I 1)), .ref (a + 2), .ref (a + 3), .ref (a + 4), .ref (a + 5), .int (iZ (I 2)), .ref (a + 6), .ref (a + 7), .ref (a + 8), .int (iZ (I 3)), .int (iZ (I 4)), .ref (a + 9), .ref (a + 10), .ref (a + 11)])) := m0
  refine g_aload_n (q := 23) dX9_anew_22 rfl rfl ?_
  refine g_get (q := 26) flX9_19 dX9_anew_23 m0 rfl rfl ?_
  refine g_sipush (v := iZ 151) (q := 29) dX9_anew_26 (by decide) rfl ?_
  refine g_aload_n (q := 30) dX9_anew_29 rfl rfl ?_
  refine g_get (q := 33) flX9_13 dX9_anew_30 m0 rfl rfl ?_
  refine g_bipush (v := iZ 49) (q := 35) dX9_anew_33 (by decide) rfl ?_
  refine z_iald (q := 36) dX9_anew_35 m2 (by omega) rfl ?_
  refine z_iast (q := 37) dX9_anew_36 m4 (by omega) rfl (fun σ1 c2 f3 => ?_)
  have c4 := (f3.2 a (by omega)).trans m0
  have c5 := (f3.2 (a + 1) (by omega)).trans m1
  have c6 := (f3.2 (a + 2) (by omega)).trans m2
  have c7 := (f3.2 (a + 3) (by omega)).trans m3
  have c8 := (f3.2 (a + 5) (by omega)).trans m5
  have c9 := (f3.2 (a + 6) (by omega)).trans m6
  have c10 := (f3.2 (a + 7) (by omega)).trans m7
  have c11 := (f3.2 (a + 8) (by omega)).trans m8
  have c12 := (f3.2 (a + 9) (by omega)).trans m9
  have c13 := (f3.2 (a + 10) (by omega)).trans m10
  have c14 := (f3.2 (a + 11) (by omega)).trans m11
  refine g_aload_n (q := 38) dX9_anew_37 rfl rfl ?_
  refine g_get (q := 41) flX9_19 dX9_anew_38 c4 rfl rfl ?_
  refine g_sipush (v := iZ 152) (q := 44) dX9_anew_41 (by decide) rfl ?_
  refine g_aload_n (q := 45) dX9_anew_44 rfl rfl ?_
  refine g_get (q := 48) flX9_13 dX9_anew_45 c4 rfl rfl ?_
  refine g_bipush (v := iZ 50) (q := 50) dX9_anew_48 (by decide) rfl ?_
  refine z_iald (q := 51) dX9_anew_50 c6 (by omega) rfl ?_
  refine z_iast (q := 52) dX9_anew_51 c2 (by omega) rfl (fun σ15 c16 f17 => ?_)
  have c18 := (f17.2 a (by omega)).trans c4
  have c19 := (f17.2 (a + 1) (by omega)).trans c5
  have c20 := (f17.2 (a + 2) (by omega)).trans c6
  have c21 := (f17.2 (a + 3) (by omega)).trans c7
  have c22 := (f17.2 (a + 5) (by omega)).trans c8
  have c23 := (f17.2 (a + 6) (by omega)).trans c9
  have c24 := (f17.2 (a + 7) (by omega)).trans c10
  have c25 := (f17.2 (a + 8) (by omega)).trans c11
  have c26 := (f17.2 (a + 9) (by omega)).trans c12
  have c27 := (f17.2 (a + 10) (by omega)).trans c13
  have c28 := (f17.2 (a + 11) (by omega)).trans c14
  refine g_aload_n (q := 53) dX9_anew_52 rfl rfl ?_
  refine z_iconst (q := 54) dX9_anew_53 rfl ?_
  refine z_put (fs' := [.int (iZ (I 0)), .ref (a + 1), .int (iZ (I 1)), .ref (a + 2), .ref (a + 3), .ref (a + 4), .ref (a + 5), .int (iZ 0), .ref (a + 6), .ref (a + 7), .ref (a + 8), .int (iZ (I 3)), .int (iZ (I 4)), .ref (a + 9), .ref (a + 10), .ref (a + 11)]) (q := 57) fpX9_50 dX9_anew_54 c18 (Nat.le_of_ble_eq_true rfl) rfl rfl rfl rfl (fun σ29 c30 f31 => ?_)
  have c32 := (f31.2 (a + 1) (by omega)).trans c19
  have c33 := (f31.2 (a + 2) (by omega)).trans c20
  have c34 := (f31.2 (a + 3) (by omega)).trans c21
  have c35 := (f31.2 (a + 5) (by omega)).trans c22
  have c36 := (f31.2 (a + 6) (by omega)).trans c23
  have c37 := (f31.2 (a + 7) (by omega)).trans c24
  have c38 := (f31.2 (a + 8) (by omega)).trans c25
  have c39 := (f31.2 (a + 9) (by omega)).trans c26
  have c40 := (f31.2 (a + 10) (by omega)).trans c27
  have c41 := (f31.2 (a + 11) (by omega)).trans c28
  have c42 := (f31.2 (a + 4) (by omega)).trans c16
  refine z_vret dX9_anew_57 rfl ?_
  exact ⟨rfl, ⟨c30, c32, c33, c34, c42, c35, c36, c37, c38, c39, c40, c41⟩, (((hF1.step f3 ⟨by omega, by omega⟩).step f17 ⟨by omega, by omega⟩).step f31 ⟨by omega, by omega⟩)⟩
theorem l_M_ly (w : g_W) (Φ : g_Post) (σ0 : g_H0) (a : Nat) (I : Nat → Int) (A : Nat → Int → Int)  (K : ∀ σ : g_H0, rM a I (nup A 1 (zcp (A 1) (A 2) 0 0 51)) σ → g_Fr (mR a) σ0 σ → Go w mX9_lay (0, 0) 56 [some (.ref a), none] [] σ Φ) : ∀ (n : Nat) (i : Int) (σ : g_H0), 0 ≤ i → i + n = 51 → rM a I (nup A 1 (zcp (A 1) (A 2) 0 0 i)) σ → g_Fr (mR a) σ0 σ → Go w mX9_lay (0, 0) 32 [some (.ref a), some (.int (iZ i))] [] σ Φ := by
  intro n
  induction n with
  | zero =>
    intro i σ h0 h1 hM hF
    obtain ⟨m0, m1, m2, m3, m4, m5, m6, m7, m8, m9, m10, m11⟩ := id hM
    have m2 : σ[a + 2]? = some (.inl (0, 51, .inl (zA (zcp (A 1) (A 2) 0 0 i)))) := m2
    have m1 : σ[a + 1]? = some (.inl (0, 200, .inl (zA (A 0)))) := m1
    have m3 : σ[a + 3]? = some (.inl (0, 51, .inl (zA (A 2)))) := m3
    have m4 : σ[a + 4]? = some (.inl (0, 156, .inl (zA (A 3)))) := m4
    have m5 : σ[a + 5]? = some (.inl (0, 936, .inl (zA (A 4)))) := m5
    have m6 : σ[a + 6]? = some (.inl (0, 156, .inl (zA (A 5)))) := m6
    have m7 : σ[a + 7]? = some (.inl (0, 64, .inl (zA (A 6)))) := m7
    have m8 : σ[a + 8]? = some (.inl (0, 5, .inl (zA (A 7)))) := m8
    have m9 : σ[a + 9]? = some (.inl (0, 5, .inl (zA (A 8)))) := m9
    have m10 : σ[a + 10]? = some (.inl (0, 60, .inl (zA (A 9)))) := m10
    have m11 : σ[a + 11]? = some (.inl (0, 5, .inl (zA (A 10)))) := m11
    refine g_iload_n (q := 33) dX9_lay_32 rfl rfl ?_
    refine g_bipush (v := iZ 51) (q := 35) dX9_lay_33 (by decide) rfl ?_
    refine z_icmp_ge (t := 56) (q := 38) dX9_lay_35 rfl (by omega) rfl (fun pc1 => ?_) (fun pc1 => ?_)
    · obtain rfl : i = 51 := by omega
      refine Go.wk (ml' := [some (.ref a), none]) ⟨Or.inr rfl, Or.inl rfl, trivial⟩ ?_
      exact K σ hM hF
    · exfalso
      omega
  | succ n ih =>
    intro i σ h0 h1 hM hF
    obtain ⟨m0, m1, m2, m3, m4, m5, m6, m7, m8, m9, m10, m11⟩ := id hM
    have m2 : σ[a + 2]? = some (.inl (0, 51, .inl (zA (zcp (A 1) (A 2) 0 0 i)))) := m2
    have m1 : σ[a + 1]? = some (.inl (0, 200, .inl (zA (A 0)))) := m1
    have m3 : σ[a + 3]? = some (.inl (0, 51, .inl (zA (A 2)))) := m3
    have m4 : σ[a + 4]? = some (.inl (0, 156, .inl (zA (A 3)))) := m4
    have m5 : σ[a + 5]? = some (.inl (0, 936, .inl (zA (A 4)))) := m5
    have m6 : σ[a + 6]? = some (.inl (0, 156, .inl (zA (A 5)))) := m6
    have m7 : σ[a + 7]? = some (.inl (0, 64, .inl (zA (A 6)))) := m7
    have m8 : σ[a + 8]? = some (.inl (0, 5, .inl (zA (A 7)))) := m8
    have m9 : σ[a + 9]? = some (.inl (0, 5, .inl (zA (A 8)))) := m9
    have m10 : σ[a + 10]? = some (.inl (0, 60, .inl (zA (A 9)))) := m10
    have m11 : σ[a + 11]? = some (.inl (0, 5, .inl (zA (A 10)))) := m11
    refine g_iload_n (q := 33) dX9_lay_32 rfl rfl ?_
    refine g_bipush (v := iZ 51) (q := 35) dX9_lay_33 (by decide) rfl ?_
    refine z_icmp_ge (t := 56) (q := 38) dX9_lay_35 rfl (by omega) rfl (fun pc1 => ?_) (fun pc1 => ?_)
    · exfalso
      omega
    · refine g_aload_n (q := 39) dX9_lay_38 rfl rfl ?_
      refine g_get (q := 42) flX9_13 dX9_lay_39 m0 rfl rfl ?_
      refine g_iload_n (q := 43) dX9_lay_42 rfl rfl ?_
      refine g_aload_n (q := 44) dX9_lay_43 rfl rfl ?_
      refine g_get (q := 47) flX9_16 dX9_lay_44 m0 rfl rfl ?_
      refine g_iload_n (q := 48) dX9_lay_47 rfl rfl ?_
      refine z_iald (q := 49) dX9_lay_48 m3 (by omega) rfl ?_
      refine z_iast (q := 50) dX9_lay_49 m2 (by omega) rfl (fun σ2 c3 f4 => ?_)
      have c5 := (f4.2 a (by omega)).trans m0
      have c6 := (f4.2 (a + 1) (by omega)).trans m1
      have c7 := (f4.2 (a + 3) (by omega)).trans m3
      have c8 := (f4.2 (a + 4) (by omega)).trans m4
      have c9 := (f4.2 (a + 5) (by omega)).trans m5
      have c10 := (f4.2 (a + 6) (by omega)).trans m6
      have c11 := (f4.2 (a + 7) (by omega)).trans m7
      have c12 := (f4.2 (a + 8) (by omega)).trans m8
      have c13 := (f4.2 (a + 9) (by omega)).trans m9
      have c14 := (f4.2 (a + 10) (by omega)).trans m10
      have c15 := (f4.2 (a + 11) (by omega)).trans m11
      refine z_iincc (c := (i + 1)) (ml' := [some (.ref a), some (.int (iZ (i + 1)))]) (q := 53) dX9_lay_50 rfl (by omega) rfl rfl rfl ?_
      refine g_goto (q := 32) dX9_lay_53 rfl ?_
      exact ih (i + 1) σ2 (by omega) (by omega) (by rw [← zcp_step (i := i) (j := i) (v := ((A 2) i)) (by omega) (by omega) (congrArg (A 2) (by omega))]; exact ⟨c5, c6, c3, c7, c8, c9, c10, c11, c12, c13, c14, c15⟩) (hF.step f4 ⟨by omega, by omega⟩)
def mFlt (L : Int) (t R : Int → Int) : Int × (Int → Int) := mFlF L t 200 0 (zcp R (fun _ => 0) 0 0 51)
def spLay (L : Int) (t T S B : Int → Int) (n : Int) (R : Int → Int) : Int × (Int → Int) × mSp :=
  if (mFlt L t R).1 = -4 ∧ (mFlt L t R).2 2 ≠ 0 then ((mFlt L t R).2 2, zcp T (mFlt L t R).2 0 0 51, (0, mAnew (zcp T (mFlt L t R).2 0 0 51) S, B, 0)) else (-2, T, (0, S, B, n))
theorem mFlF_b {L : Int} {t : Int → Int} (ht : zBt L t) : ∀ (n : Nat) (p : Int) (R : Int → Int), L ≤ 200 → 0 ≤ p → pR R → -2147483648 ≤ (mFlF L t n p R).1 ∧ (mFlF L t n p R).1 < 2147483648
  | 0, p, R, _, _, _ => by show -2147483648 ≤ (-4 : Int) ∧ (-4 : Int) < 2147483648; omega
  | n + 1, p, R, h, hp, hR => by
    unfold mFlF
    by_cases h1 : L ≤ p
    · rw [if_pos h1]; show -2147483648 ≤ (-4 : Int) ∧ (-4 : Int) < 2147483648; omega
    · rw [if_neg h1]
      by_cases h2 : (mItem L t p R).1 = 0 ∨ mB L t (mItem L t p R).2.1 ≠ 59
      · rw [if_pos h2]; show -2147483648 ≤ p ∧ p < 2147483648; omega
      · rw [if_neg h2]
        have q := pR_item ht hp hR (by omega)
        exact mFlF_b ht n _ _ h (by omega) q.1
theorem r_M_lay (σ : g_H0) (a : Nat) (I : Nat → Int) (A : Nat → Int → Int) (hM : rM a I A σ) (hL : 0 ≤ I 0 ∧ I 0 ≤ 200) (ht : zBt (I 0) (A 0)) : Ret mX9_lay [.ref a] σ (fun r σ' => r = some (.int (iZ (spLay (I 0) (A 0) (A 1) (A 3) (A 4) (I 2) (A 2)).1)) ∧ MC a (I 0) (A 0) (spLay (I 0) (A 0) (A 1) (A 3) (A 4) (I 2) (A 2)).2.1 (spLay (I 0) (A 0) (A 1) (A 3) (A 4) (I 2) (A 2)).2.2.2.1 (spLay (I 0) (A 0) (A 1) (A 3) (A 4) (I 2) (A 2)).2.2.2.2.1 (spLay (I 0) (A 0) (A 1) (A 3) (A 4) (I 2) (A 2)).2.2.2.2.2 σ' ∧ g_Fr (mR a) σ σ') := by
  refine Ret.of moX9_lay.1 (Nat.le_of_ble_eq_true rfl) (fun w => ?_)
  obtain ⟨m0, m1, m2, m3, m4, m5, m6, m7, m8, m9, m10, m11⟩ := id hM
  show Go w mX9_lay (0, 0) 0 [some (.ref a), none] [] σ (fun r σ' => r = some (.int (iZ (spLay (I 0) (A 0) (A 1) (A 3) (A 4) (I 2) (A 2)).1)) ∧ MC a (I 0) (A 0) (spLay (I 0) (A 0) (A 1) (A 3) (A 4) (I 2) (A 2)).2.1 (spLay (I 0) (A 0) (A 1) (A 3) (A 4) (I 2) (A 2)).2.2.2.1 (spLay (I 0) (A 0) (A 1) (A 3) (A 4) (I 2) (A 2)).2.2.2.2.1 (spLay (I 0) (A 0) (A 1) (A 3) (A 4) (I 2) (A 2)).2.2.2.2.2 σ' ∧ g_Fr (mR a) σ σ')
  refine g_aload_n (q := 1) dX9_lay_0 rfl rfl ?_
  refine g_callV (As := []) (rest := []) (q := 4) moX9_fault lkX9_lay_107 dX9_lay_1 rfl m0 (r_M_fault σ a I A hM hL ht) rfl rfl (Nat.le_of_ble_eq_true rfl) (Nat.le_of_ble_eq_true rfl) (Nat.le_of_ble_eq_true rfl) rfl ?_
  rintro r1 σ1 ⟨hr1, ⟨p1, hq1⟩, hf1⟩
  have bnF : -2147483648 ≤ (mFlt (I 0) (A 0) (A 2)).1 ∧ (mFlt (I 0) (A 0) (A 2)).1 < 2147483648 := mFlF_b ht _ _ _ hL.2 (by omega) (pR_0 _)
  obtain rfl : r1 = some (.int (iZ (mFlt (I 0) (A 0) (A 2)).1)) := hr1
  have hq1 : rM a (nup I 1 p1) (nup A 2 (mFlt (I 0) (A 0) (A 2)).2) σ1 := hq1
  obtain ⟨m0, m1, m2, m3, m4, m5, m6, m7, m8, m9, m10, m11⟩ := id hq1
  have m3 : σ1[a + 3]? = some (.inl (0, 51, .inl (zA ((mFlt (I 0) (A 0) (A 2)).2)))) := m3
  have m1 : σ1[a + 1]? = some (.inl (0, 200, .inl (zA (A 0)))) := m1
  have m2 : σ1[a + 2]? = some (.inl (0, 51, .inl (zA (A 1)))) := m2
  have m4 : σ1[a + 4]? = some (.inl (0, 156, .inl (zA (A 3)))) := m4
  have m5 : σ1[a + 5]? = some (.inl (0, 936, .inl (zA (A 4)))) := m5
  have m6 : σ1[a + 6]? = some (.inl (0, 156, .inl (zA (A 5)))) := m6
  have m7 : σ1[a + 7]? = some (.inl (0, 64, .inl (zA (A 6)))) := m7
  have m8 : σ1[a + 8]? = some (.inl (0, 5, .inl (zA (A 7)))) := m8
  have m9 : σ1[a + 9]? = some (.inl (0, 5, .inl (zA (A 8)))) := m9
  have m10 : σ1[a + 10]? = some (.inl (0, 60, .inl (zA (A 9)))) := m10
  have m11 : σ1[a + 11]? = some (.inl (0, 5, .inl (zA (A 10)))) := m11
  have m0 : σ1[a]? = some (.inr (9, [.int (iZ (I 0)), .ref (a + 1), .int (iZ p1), .ref (a + 2), .ref (a + 3), .ref (a + 4), .ref (a + 5), .int (iZ (I 2)), .ref (a + 6), .ref (a + 7), .ref (a + 8), .int (iZ (I 3)), .int (iZ (I 4)), .ref (a + 9), .ref (a + 10), .ref (a + 11)])) := m0
  show Go w mX9_lay (0, 0) 4 [some (.ref a), none] [.int (iZ ((mFlt (I 0) (A 0) (A 2)).1))] σ1 (fun r σ' => r = some (.int (iZ (spLay (I 0) (A 0) (A 1) (A 3) (A 4) (I 2) (A 2)).1)) ∧ MC a (I 0) (A 0) (spLay (I 0) (A 0) (A 1) (A 3) (A 4) (I 2) (A 2)).2.1 (spLay (I 0) (A 0) (A 1) (A 3) (A 4) (I 2) (A 2)).2.2.2.1 (spLay (I 0) (A 0) (A 1) (A 3) (A 4) (I 2) (A 2)).2.2.2.2.1 (spLay (I 0) (A 0) (A 1) (A 3) (A 4) (I 2) (A 2)).2.2.2.2.2 σ' ∧ g_Fr (mR a) σ σ')
  refine g_bipush (v := iZ (-4)) (q := 6) dX9_lay_4 (by decide) rfl ?_
  refine z_icmp_ne (t := 27) (q := 9) dX9_lay_6 rfl (by omega) rfl (fun pc1 => ?_) (fun pc1 => ?_)
  · refine g_bipush (v := iZ (-2)) (q := 29) dX9_lay_27 (by decide) rfl ?_
    refine z_iret dX9_lay_29 rfl ?_
    have eF : spLay (I 0) (A 0) (A 1) (A 3) (A 4) (I 2) (A 2) = (-2, A 1, (0, A 3, A 4, I 2)) := by unfold spLay; rw [if_neg (by omega)]
    rw [eF]
    exact ⟨rfl, ⟨_, _, hq1, rfl, rfl, rfl, rfl, rfl, rfl⟩, hf1⟩
  · have hPR : pR (mFlt (I 0) (A 0) (A 2)).2 := mFl_pR ht (by omega) (pR_0 _) (show (mFlt (I 0) (A 0) (A 2)).1 = -4 by omega)
    have q1 := hPR.2.1
    have q2 := hPR.2.2.1
    refine g_aload_n (q := 10) dX9_lay_9 rfl rfl ?_
    refine g_get (q := 13) flX9_16 dX9_lay_10 m0 rfl rfl ?_
    refine z_iconst (q := 14) dX9_lay_13 rfl ?_
    refine z_iald (q := 15) dX9_lay_14 m3 (by omega) rfl ?_
    refine z_if_eq (t := 27) (q := 18) dX9_lay_15 rfl (by omega) rfl (fun pc2 => ?_) (fun pc2 => ?_)
    · refine g_bipush (v := iZ (-2)) (q := 29) dX9_lay_27 (by decide) rfl ?_
      refine z_iret dX9_lay_29 rfl ?_
      have eF : spLay (I 0) (A 0) (A 1) (A 3) (A 4) (I 2) (A 2) = (-2, A 1, (0, A 3, A 4, I 2)) := by unfold spLay; rw [if_neg (by omega)]
      rw [eF]
      exact ⟨rfl, ⟨_, _, hq1, rfl, rfl, rfl, rfl, rfl, rfl⟩, hf1⟩
    · refine g_aload_n (q := 19) dX9_lay_18 rfl rfl ?_
      refine g_get (q := 22) flX9_16 dX9_lay_19 m0 rfl rfl ?_
      refine z_iconst (q := 23) dX9_lay_22 rfl ?_
      refine z_iald (q := 24) dX9_lay_23 m3 (by omega) rfl ?_
      refine z_if_ne (t := 30) (q := 27) dX9_lay_24 rfl (by omega) rfl (fun pc3 => ?_) (fun pc3 => ?_)
      · refine z_iconst (q := 31) dX9_lay_30 rfl ?_
        refine g_istore_n (ml' := [some (.ref a), some (.int (iZ 0))]) (q := 32) dX9_lay_31 rfl (Nat.le_of_ble_eq_true rfl) rfl rfl ?_
        have eF : spLay (I 0) (A 0) (A 1) (A 3) (A 4) (I 2) (A 2) = ((mFlt (I 0) (A 0) (A 2)).2 2, zcp (A 1) (mFlt (I 0) (A 0) (A 2)).2 0 0 51, (0, mAnew (zcp (A 1) (mFlt (I 0) (A 0) (A 2)).2 0 0 51) (A 3), A 4, 0)) := by unfold spLay; rw [if_pos (by omega)]
        refine l_M_ly w _ σ1 a (nup I 1 p1) (nup A 2 (mFlt (I 0) (A 0) (A 2)).2) (fun σ2 hM2 hF2 => ?_) 51 0 σ1 (by omega) (by omega) (by rw [zcp_0, nup_id]; exact hq1) g_Fr.rf
        obtain ⟨m0, m1, m2, m3, m4, m5, m6, m7, m8, m9, m10, m11⟩ := id hM2
        have m3 : σ2[a + 3]? = some (.inl (0, 51, .inl (zA ((mFlt (I 0) (A 0) (A 2)).2)))) := m3
        have m2 : σ2[a + 2]? = some (.inl (0, 51, .inl (zA (zcp (A 1) (mFlt (I 0) (A 0) (A 2)).2 0 0 51)))) := m2
        have m1 : σ2[a + 1]? = some (.inl (0, 200, .inl (zA (A 0)))) := m1
        have m4 : σ2[a + 4]? = some (.inl (0, 156, .inl (zA (A 3)))) := m4
        have m5 : σ2[a + 5]? = some (.inl (0, 936, .inl (zA (A 4)))) := m5
        have m6 : σ2[a + 6]? = some (.inl (0, 156, .inl (zA (A 5)))) := m6
        have m7 : σ2[a + 7]? = some (.inl (0, 64, .inl (zA (A 6)))) := m7
        have m8 : σ2[a + 8]? = some (.inl (0, 5, .inl (zA (A 7)))) := m8
        have m9 : σ2[a + 9]? = some (.inl (0, 5, .inl (zA (A 8)))) := m9
        have m10 : σ2[a + 10]? = some (.inl (0, 60, .inl (zA (A 9)))) := m10
        have m11 : σ2[a + 11]? = some (.inl (0, 5, .inl (zA (A 10)))) := m11
        have m0 : σ2[a]? = some (.inr (9, [.int (iZ (I 0)), .ref (a + 1), .int (iZ p1), .ref (a + 2), .ref (a + 3), .ref (a + 4), .ref (a + 5), .int (iZ (I 2)), .ref (a + 6), .ref (a + 7), .ref (a + 8), .int (iZ (I 3)), .int (iZ (I 4)), .ref (a + 9), .ref (a + 10), .ref (a + 11)])) := m0
        refine g_aload_n (q := 57) dX9_lay_56 rfl rfl ?_
        refine g_callV (As := []) (rest := []) (q := 60) moX9_anew lkX9_lay_47 dX9_lay_57 rfl m0 (r_M_anew σ2 a _ _ hM2) rfl rfl (Nat.le_of_ble_eq_true rfl) (Nat.le_of_ble_eq_true rfl) (Nat.le_of_ble_eq_true rfl) rfl ?_
        rintro r3 σ3 ⟨rfl, hM3, hF3⟩
        have m2 : σ3[a + 2]? = some (.inl (0, 51, .inl (zA (zcp (A 1) (mFlt (I 0) (A 0) (A 2)).2 0 0 51)))) := hM3.2.2.1
        have m0 : σ3[a]? = some (.inr (9, [.int (iZ (I 0)), .ref (a + 1), .int (iZ p1), .ref (a + 2), .ref (a + 3), .ref (a + 4), .ref (a + 5), .int (iZ 0), .ref (a + 6), .ref (a + 7), .ref (a + 8), .int (iZ (I 3)), .int (iZ (I 4)), .ref (a + 9), .ref (a + 10), .ref (a + 11)])) := hM3.1
        show Go w mX9_lay (0, 0) 60 [some (.ref a), none] [] σ3 (fun r σ' => r = some (.int (iZ (spLay (I 0) (A 0) (A 1) (A 3) (A 4) (I 2) (A 2)).1)) ∧ MC a (I 0) (A 0) (spLay (I 0) (A 0) (A 1) (A 3) (A 4) (I 2) (A 2)).2.1 (spLay (I 0) (A 0) (A 1) (A 3) (A 4) (I 2) (A 2)).2.2.2.1 (spLay (I 0) (A 0) (A 1) (A 3) (A 4) (I 2) (A 2)).2.2.2.2.1 (spLay (I 0) (A 0) (A 1) (A 3) (A 4) (I 2) (A 2)).2.2.2.2.2 σ' ∧ g_Fr (mR a) σ σ')
        refine g_aload_n (q := 61) dX9_lay_60 rfl rfl ?_
        refine g_get (q := 64) flX9_13 dX9_lay_61 m0 rfl rfl ?_
        refine z_iconst (q := 65) dX9_lay_64 rfl ?_
        refine z_iald (q := 66) dX9_lay_65 m2 (by omega) rfl ?_
        refine z_iret dX9_lay_66 rfl ?_
        rw [eF]
        refine ⟨congrArg (fun z => some (Value.int (iZ z))) (if_pos (by omega)), ⟨_, _, hM3, rfl, rfl, rfl, rfl, rfl, rfl⟩, (hf1.tr hF2).tr hF3⟩
      · refine g_bipush (v := iZ (-2)) (q := 29) dX9_lay_27 (by decide) rfl ?_
        refine z_iret dX9_lay_29 rfl ?_
        have eF : spLay (I 0) (A 0) (A 1) (A 3) (A 4) (I 2) (A 2) = (-2, A 1, (0, A 3, A 4, I 2)) := by unfold spLay; rw [if_neg (by omega)]
        rw [eF]
        exact ⟨rfl, ⟨_, _, hq1, rfl, rfl, rfl, rfl, rfl, rfl⟩, hf1⟩
