theorem mItem_b (L : Int) (t : Int → Int) (p : Int) (R : Int → Int) : 0 ≤ (mItem L t p R).1 ∧ (mItem L t p R).1 ≤ 1 := by
  have z : ∀ (q : Int) (R' : Int → Int), 0 ≤ ((0, q, R') : Int × Int × (Int → Int)).1 ∧ ((0, q, R') : Int × Int × (Int → Int)).1 ≤ 1 := fun q R' => by show (0 : Int) ≤ 0 ∧ (0 : Int) ≤ 1; omega
  have o : ∀ (q : Int) (R' : Int → Int), 0 ≤ ((1, q, R') : Int × Int × (Int → Int)).1 ∧ ((1, q, R') : Int × Int × (Int → Int)).1 ≤ 1 := fun q R' => by show (0 : Int) ≤ 1 ∧ (1 : Int) ≤ 1; omega
  unfold mItem
  split
  · split
    · exact z _ _
    · exact mSeq1_b (fun _ _ => mSeq1_b (fun _ _ => o _ _))
  · split
    · exact z _ _
    · split
      · split
        · exact z _ _
        · exact mSeq1_b (fun _ _ => mSeq1_b (fun _ _ => mSeq1_b (fun _ _ => mSeq1_b (fun _ _ => o _ _))))
      · split
        · exact mHoleI_b _ _ _ _
        · split
          · split
            · exact z _ _
            · refine mSeq1_b (fun _ _ => ?_)
              dsimp only
              split <;> omega
          · exact z _ _
theorem pR_0 (t : Int → Int) : pR (zcp t (fun _ => 0) 0 0 51) := by
  have e : ∀ k, 0 ≤ k → k < 51 → zcp t (fun _ => 0) 0 0 51 k = 0 := fun k k0 k1 => by unfold zcp; exact if_pos (by omega)
  have e0 := e 0 (by omega) (by omega)
  have e2 := e 2 (by omega) (by omega)
  have e3 := e 3 (by omega) (by omega)
  have e4 := e 4 (by omega) (by omega)
  refine ⟨fun k k0 k1 => by rw [e k k0 k1]; omega, by omega, by omega, by omega, by omega, fun k k0 k1 => ?_, fun k k0 k1 => ?_, fun k o o0 o1 k1 => ?_, fun k k0 k1 => ?_, fun k1 => ?_⟩
  · exfalso; omega
  · exfalso; omega
  · exfalso; omega
  · exfalso; omega
  · exfalso; omega
theorem mFl_pR {L : Int} {t : Int → Int} (ht : zBt L t) : ∀ {n : Nat} {p : Int} {R : Int → Int}, 0 ≤ p → pR R → (mFlF L t n p R).1 = -4 → pR (mFlF L t n p R).2
  | 0, p, R, hp, h, _ => h
  | n + 1, p, R, hp, h, e => by
    unfold mFlF at e ⊢
    by_cases h1 : L ≤ p
    · rw [if_pos h1]; exact h
    · rw [if_neg h1] at e ⊢
      by_cases h2 : (mItem L t p R).1 = 0 ∨ mB L t (mItem L t p R).2.1 ≠ 59
      · rw [if_pos h2] at e; exfalso; have e : p = -4 := e; omega
      · rw [if_neg h2] at e ⊢
        have q := pR_item ht hp h (by omega)
        exact mFl_pR ht (by omega) q.1 e
theorem l_M_fl1 (w : g_W) (Φ : g_Post) (σ0 : g_H0) (a : Nat) (I : Nat → Int) (A : Nat → Int → Int)  (K : ∀ σ : g_H0, rM a I (nup A 2 (zcp (A 2) (fun _ => (0 : Int)) 0 0 51)) σ → g_Fr (mR a) σ0 σ → Go w mX9_fault (0, 0) 21 [some (.ref a), none] [] σ Φ) : ∀ (n : Nat) (i : Int) (σ : g_H0), 0 ≤ i → i + n = 51 → rM a I (nup A 2 (zcp (A 2) (fun _ => (0 : Int)) 0 0 i)) σ → g_Fr (mR a) σ0 σ → Go w mX9_fault (0, 0) 2 [some (.ref a), some (.int (iZ i))] [] σ Φ := by
  intro n
  induction n with
  | zero =>
    intro i σ h0 h1 hM hF
    obtain ⟨m0, m1, m2, m3, m4, m5, m6, m7, m8, m9, m10, m11⟩ := id hM
    have m3 : σ[a + 3]? = some (.inl (0, 51, .inl (zA (zcp (A 2) (fun _ => (0 : Int)) 0 0 i)))) := m3
    have m1 : σ[a + 1]? = some (.inl (0, 200, .inl (zA (A 0)))) := m1
    have m2 : σ[a + 2]? = some (.inl (0, 51, .inl (zA (A 1)))) := m2
    have m4 : σ[a + 4]? = some (.inl (0, 156, .inl (zA (A 3)))) := m4
    have m5 : σ[a + 5]? = some (.inl (0, 936, .inl (zA (A 4)))) := m5
    have m6 : σ[a + 6]? = some (.inl (0, 156, .inl (zA (A 5)))) := m6
    have m7 : σ[a + 7]? = some (.inl (0, 64, .inl (zA (A 6)))) := m7
    have m8 : σ[a + 8]? = some (.inl (0, 5, .inl (zA (A 7)))) := m8
    have m9 : σ[a + 9]? = some (.inl (0, 5, .inl (zA (A 8)))) := m9
    have m10 : σ[a + 10]? = some (.inl (0, 60, .inl (zA (A 9)))) := m10
    have m11 : σ[a + 11]? = some (.inl (0, 5, .inl (zA (A 10)))) := m11
    refine g_iload_n (q := 3) dX9_fault_2 rfl rfl ?_
    refine g_bipush (v := iZ 51) (q := 5) dX9_fault_3 (by decide) rfl ?_
    refine z_icmp_ge (t := 21) (q := 8) dX9_fault_5 rfl (by omega) rfl (fun pc1 => ?_) (fun pc1 => ?_)
    · obtain rfl : i = 51 := by omega
      refine Go.wk (ml' := [some (.ref a), none]) ⟨Or.inr rfl, Or.inl rfl, trivial⟩ ?_
      exact K σ hM hF
    · exfalso
      omega
  | succ n ih =>
    intro i σ h0 h1 hM hF
    obtain ⟨m0, m1, m2, m3, m4, m5, m6, m7, m8, m9, m10, m11⟩ := id hM
    have m3 : σ[a + 3]? = some (.inl (0, 51, .inl (zA (zcp (A 2) (fun _ => (0 : Int)) 0 0 i)))) := m3
    have m1 : σ[a + 1]? = some (.inl (0, 200, .inl (zA (A 0)))) := m1
    have m2 : σ[a + 2]? = some (.inl (0, 51, .inl (zA (A 1)))) := m2
    have m4 : σ[a + 4]? = some (.inl (0, 156, .inl (zA (A 3)))) := m4
    have m5 : σ[a + 5]? = some (.inl (0, 936, .inl (zA (A 4)))) := m5
    have m6 : σ[a + 6]? = some (.inl (0, 156, .inl (zA (A 5)))) := m6
    have m7 : σ[a + 7]? = some (.inl (0, 64, .inl (zA (A 6)))) := m7
    have m8 : σ[a + 8]? = some (.inl (0, 5, .inl (zA (A 7)))) := m8
    have m9 : σ[a + 9]? = some (.inl (0, 5, .inl (zA (A 8)))) := m9
    have m10 : σ[a + 10]? = some (.inl (0, 60, .inl (zA (A 9)))) := m10
    have m11 : σ[a + 11]? = some (.inl (0, 5, .inl (zA (A 10)))) := m11
    refine g_iload_n (q := 3) dX9_fault_2 rfl rfl ?_
    refine g_bipush (v := iZ 51) (q := 5) dX9_fault_3 (by decide) rfl ?_
    refine z_icmp_ge (t := 21) (q := 8) dX9_fault_5 rfl (by omega) rfl (fun pc1 => ?_) (fun pc1 => ?_)
    · exfalso
      omega
    · refine g_aload_n (q := 9) dX9_fault_8 rfl rfl ?_
      refine g_get (q := 12) flX9_16 dX9_fault_9 m0 rfl rfl ?_
      refine g_iload_n (q := 13) dX9_fault_12 rfl rfl ?_
      refine z_iconst (q := 14) dX9_fault_13 rfl ?_
      refine z_iast (q := 15) dX9_fault_14 m3 (by omega) rfl (fun σ2 c3 f4 => ?_)
      have c5 := (f4.2 a (by omega)).trans m0
      have c6 := (f4.2 (a + 1) (by omega)).trans m1
      have c7 := (f4.2 (a + 2) (by omega)).trans m2
      have c8 := (f4.2 (a + 4) (by omega)).trans m4
      have c9 := (f4.2 (a + 5) (by omega)).trans m5
      have c10 := (f4.2 (a + 6) (by omega)).trans m6
      have c11 := (f4.2 (a + 7) (by omega)).trans m7
      have c12 := (f4.2 (a + 8) (by omega)).trans m8
      have c13 := (f4.2 (a + 9) (by omega)).trans m9
      have c14 := (f4.2 (a + 10) (by omega)).trans m10
      have c15 := (f4.2 (a + 11) (by omega)).trans m11
      refine z_iincc (c := (i + 1)) (ml' := [some (.ref a), some (.int (iZ (i + 1)))]) (q := 18) dX9_fault_15 rfl (by omega) rfl rfl rfl ?_
      refine g_goto (q := 2) dX9_fault_18 rfl ?_
      exact ih (i + 1) σ2 (by omega) (by omega) (by rw [← zcp_step (i := i) (j := i) (v := 0) (by omega) (by omega) rfl]; exact ⟨c5, c6, c7, c3, c8, c9, c10, c11, c12, c13, c14, c15⟩) (hF.step f4 ⟨by omega, by omega⟩)
theorem l_M_fl2 (w : g_W) (σ0 : g_H0) (a : Nat) (I : Nat → Int) (A : Nat → Int → Int) (hL : 0 ≤ I 0 ∧ I 0 ≤ 200) (ht : zBt (I 0) (A 0)) : ∀ (n : Nat) (p : Int) (R : Int → Int) (σ : g_H0), 0 ≤ p → p ≤ I 0 → I 0 - p ≤ n → pR R → rM a (nup I 1 p) (nup A 2 R) σ → g_Fr (mR a) σ0 σ → Go w mX9_fault (0, 0) 26 [some (.ref a), none] [] σ (fun r σ' => r = some (.int (iZ (mFlF (I 0) (A 0) n p R).1)) ∧ (∃ p', rM a (nup I 1 p') (nup A 2 (mFlF (I 0) (A 0) n p R).2) σ') ∧ g_Fr (mR a) σ0 σ') := by
  intro n
  induction n with
  | zero =>
    intro p R σ p0 p1 pn hP hM hF
    obtain ⟨m0, m1, m2, m3, m4, m5, m6, m7, m8, m9, m10, m11⟩ := id hM
    have m3 : σ[a + 3]? = some (.inl (0, 51, .inl (zA R))) := m3
    have m1 : σ[a + 1]? = some (.inl (0, 200, .inl (zA (A 0)))) := m1
    have m2 : σ[a + 2]? = some (.inl (0, 51, .inl (zA (A 1)))) := m2
    have m4 : σ[a + 4]? = some (.inl (0, 156, .inl (zA (A 3)))) := m4
    have m5 : σ[a + 5]? = some (.inl (0, 936, .inl (zA (A 4)))) := m5
    have m6 : σ[a + 6]? = some (.inl (0, 156, .inl (zA (A 5)))) := m6
    have m7 : σ[a + 7]? = some (.inl (0, 64, .inl (zA (A 6)))) := m7
    have m8 : σ[a + 8]? = some (.inl (0, 5, .inl (zA (A 7)))) := m8
    have m9 : σ[a + 9]? = some (.inl (0, 5, .inl (zA (A 8)))) := m9
    have m10 : σ[a + 10]? = some (.inl (0, 60, .inl (zA (A 9)))) := m10
    have m11 : σ[a + 11]? = some (.inl (0, 5, .inl (zA (A 10)))) := m11
    have m0 : σ[a]? = some (.inr (9, [.int (iZ (I 0)), .ref (a + 1), .int (iZ p), .ref (a + 2), .ref (a + 3), .ref (a + 4), .ref (a + 5), .int (iZ (I 2)), .ref (a + 6), .ref (a + 7), .ref (a + 8), .int (iZ (I 3)), .int (iZ (I 4)), .ref (a + 9), .ref (a + 10), .ref (a + 11)])) := m0
    refine g_aload_n (q := 27) dX9_fault_26 rfl rfl ?_
    refine g_get (q := 30) flX9_65 dX9_fault_27 m0 rfl rfl ?_
    refine g_aload_n (q := 31) dX9_fault_30 rfl rfl ?_
    refine g_get (q := 34) flX9_62 dX9_fault_31 m0 rfl rfl ?_
    refine z_icmp_ge (t := 77) (q := 37) dX9_fault_34 rfl (by omega) rfl (fun pc1 => ?_) (fun pc1 => ?_)
    · refine g_bipush (v := iZ (-4)) (q := 79) dX9_fault_77 (by decide) rfl ?_
      refine z_iret dX9_fault_79 rfl ?_
      have eF : mFlF (I 0) (A 0) 0 p R = (-4, R) := rfl
      rw [eF]
      exact ⟨rfl, ⟨p, hM⟩, hF⟩
    · exfalso
      omega
  | succ n ih =>
    intro p R σ p0 p1 pn hP hM hF
    obtain ⟨m0, m1, m2, m3, m4, m5, m6, m7, m8, m9, m10, m11⟩ := id hM
    have m3 : σ[a + 3]? = some (.inl (0, 51, .inl (zA R))) := m3
    have m1 : σ[a + 1]? = some (.inl (0, 200, .inl (zA (A 0)))) := m1
    have m2 : σ[a + 2]? = some (.inl (0, 51, .inl (zA (A 1)))) := m2
    have m4 : σ[a + 4]? = some (.inl (0, 156, .inl (zA (A 3)))) := m4
    have m5 : σ[a + 5]? = some (.inl (0, 936, .inl (zA (A 4)))) := m5
    have m6 : σ[a + 6]? = some (.inl (0, 156, .inl (zA (A 5)))) := m6
    have m7 : σ[a + 7]? = some (.inl (0, 64, .inl (zA (A 6)))) := m7
    have m8 : σ[a + 8]? = some (.inl (0, 5, .inl (zA (A 7)))) := m8
    have m9 : σ[a + 9]? = some (.inl (0, 5, .inl (zA (A 8)))) := m9
    have m10 : σ[a + 10]? = some (.inl (0, 60, .inl (zA (A 9)))) := m10
    have m11 : σ[a + 11]? = some (.inl (0, 5, .inl (zA (A 10)))) := m11
    have m0 : σ[a]? = some (.inr (9, [.int (iZ (I 0)), .ref (a + 1), .int (iZ p), .ref (a + 2), .ref (a + 3), .ref (a + 4), .ref (a + 5), .int (iZ (I 2)), .ref (a + 6), .ref (a + 7), .ref (a + 8), .int (iZ (I 3)), .int (iZ (I 4)), .ref (a + 9), .ref (a + 10), .ref (a + 11)])) := m0
    refine g_aload_n (q := 27) dX9_fault_26 rfl rfl ?_
    refine g_get (q := 30) flX9_65 dX9_fault_27 m0 rfl rfl ?_
    refine g_aload_n (q := 31) dX9_fault_30 rfl rfl ?_
    refine g_get (q := 34) flX9_62 dX9_fault_31 m0 rfl rfl ?_
    refine z_icmp_ge (t := 77) (q := 37) dX9_fault_34 rfl (by omega) rfl (fun pc1 => ?_) (fun pc1 => ?_)
    · refine g_bipush (v := iZ (-4)) (q := 79) dX9_fault_77 (by decide) rfl ?_
      refine z_iret dX9_fault_79 rfl ?_
      have eF : mFlF (I 0) (A 0) (n + 1) p R = (-4, R) := by unfold mFlF; rw [if_pos (by omega)]
      rw [eF]
      exact ⟨rfl, ⟨p, hM⟩, hF⟩
    · refine g_aload_n (q := 38) dX9_fault_37 rfl rfl ?_
      refine g_get (q := 41) flX9_65 dX9_fault_38 m0 rfl rfl ?_
      refine g_istore_n (ml' := [some (.ref a), some (.int (iZ p))]) (q := 42) dX9_fault_41 rfl (Nat.le_of_ble_eq_true rfl) rfl rfl ?_
      refine g_aload_n (q := 43) dX9_fault_42 rfl rfl ?_
      have iB := mItem_b (I 0) (A 0) p R
      refine g_callV (As := []) (rest := []) (q := 46) moX9_item lkX9_fault_104 dX9_fault_43 rfl m0 (r_M_item σ a I A p (by omega) R hP.1 hM hL ht hP.2.2.1 hP.2.2.2.1 hP.2.2.2.2.1) rfl rfl (Nat.le_of_ble_eq_true rfl) (Nat.le_of_ble_eq_true rfl) (Nat.le_of_ble_eq_true rfl) rfl ?_
      rintro r1 σ1 ⟨hr1, hq1, hf1⟩
      obtain rfl := hr1
      have hF1 := hF.tr hf1
      obtain ⟨m0, m1, m2, m3, m4, m5, m6, m7, m8, m9, m10, m11⟩ := id hq1
      have m3 : σ1[a + 3]? = some (.inl (0, 51, .inl (zA ((mItem (I 0) (A 0) p R).2.2)))) := m3
      have m1 : σ1[a + 1]? = some (.inl (0, 200, .inl (zA (A 0)))) := m1
      have m2 : σ1[a + 2]? = some (.inl (0, 51, .inl (zA (A 1)))) := m2
      have m4 : σ1[a + 4]? = some (.inl (0, 156, .inl (zA (A 3)))) := m4
      have m5 : σ1[a + 5]? = some (.inl (0, 936, .inl (zA (A 4)))) := m5
      have m6 : σ1[a + 6]? = some (.inl (0, 156, .inl (zA (A 5)))) := m6
      have m7 : σ1[a + 7]? = some (.inl (0, 64, .inl (zA (A 6)))) := m7
      have m8 : σ1[a + 8]? = some (.inl (0, 5, .inl (zA (A 7)))) := m8
      have m9 : σ1[a + 9]? = some (.inl (0, 5, .inl (zA (A 8)))) := m9
      have m10 : σ1[a + 10]? = some (.inl (0, 60, .inl (zA (A 9)))) := m10
      have m11 : σ1[a + 11]? = some (.inl (0, 5, .inl (zA (A 10)))) := m11
      have m0 : σ1[a]? = some (.inr (9, [.int (iZ (I 0)), .ref (a + 1), .int (iZ ((mItem (I 0) (A 0) p R).2.1)), .ref (a + 2), .ref (a + 3), .ref (a + 4), .ref (a + 5), .int (iZ (I 2)), .ref (a + 6), .ref (a + 7), .ref (a + 8), .int (iZ (I 3)), .int (iZ (I 4)), .ref (a + 9), .ref (a + 10), .ref (a + 11)])) := m0
      show Go w mX9_fault (0, 0) 46 [some (.ref a), some (.int (iZ p))] [.int (iZ ((mItem (I 0) (A 0) p R).1))] σ1 (fun r σ' => r = some (.int (iZ (mFlF (I 0) (A 0) (n + 1) p R).1)) ∧ (∃ p', rM a (nup I 1 p') (nup A 2 (mFlF (I 0) (A 0) (n + 1) p R).2) σ') ∧ g_Fr (mR a) σ0 σ')
      refine z_if_eq (t := 62) (q := 49) dX9_fault_46 rfl (by omega) rfl (fun pc2 => ?_) (fun pc2 => ?_)
      · refine g_iload_n (q := 63) dX9_fault_62 rfl rfl ?_
        refine z_iret dX9_fault_63 rfl ?_
        have eF : mFlF (I 0) (A 0) (n + 1) p R = (p, (mItem (I 0) (A 0) p R).2.2) := by unfold mFlF; rw [if_neg (by omega), if_pos (by omega)]
        rw [eF]
        exact ⟨rfl, ⟨_, hq1⟩, hF1⟩
      · have hI := pR_item ht (by omega) hP (by omega)
        refine g_aload_n (q := 50) dX9_fault_49 rfl rfl ?_
        refine g_aload_n (q := 51) dX9_fault_50 rfl rfl ?_
        refine g_get (q := 54) flX9_65 dX9_fault_51 m0 rfl rfl ?_
        refine g_callV (As := [.int (iZ ((mItem (I 0) (A 0) p R).2.1))]) (rest := []) (q := 57) moX9_byteAt lkX9_fault_68 dX9_fault_54 rfl m0 (r_M_byteAt σ1 a _ _ hq1 (mItem (I 0) (A 0) p R).2.1 (by omega) hL) rfl rfl (Nat.le_of_ble_eq_true rfl) (Nat.le_of_ble_eq_true rfl) (Nat.le_of_ble_eq_true rfl) rfl ?_
        rintro r1 s1 hp
        rw [hp.1, hp.2]
        show Go w mX9_fault (0, 0) 57 [some (.ref a), some (.int (iZ p))] [.int (iZ (mB (I 0) (A 0) (mItem (I 0) (A 0) p R).2.1))] σ1 (fun r σ' => r = some (.int (iZ (mFlF (I 0) (A 0) (n + 1) p R).1)) ∧ (∃ p', rM a (nup I 1 p') (nup A 2 (mFlF (I 0) (A 0) (n + 1) p R).2) σ') ∧ g_Fr (mR a) σ0 σ')
        have bb := mB_b ht (k := (mItem (I 0) (A 0) p R).2.1) (by omega)
        refine g_bipush (v := iZ 59) (q := 59) dX9_fault_57 (by decide) rfl ?_
        refine z_icmp_eq (t := 64) (q := 62) dX9_fault_59 rfl (by omega) rfl (fun pc3 => ?_) (fun pc3 => ?_)
        · refine g_aload_n (q := 65) dX9_fault_64 rfl rfl ?_
          refine g_dup (q := 66) dX9_fault_65 rfl rfl ?_
          refine g_get (q := 69) flX9_65 dX9_fault_66 m0 rfl rfl ?_
          refine z_iconst (q := 70) dX9_fault_69 rfl ?_
          refine z_iadd (q := 71) dX9_fault_70 rfl ?_
          refine z_put (fs' := [.int (iZ (I 0)), .ref (a + 1), .int (iZ ((mItem (I 0) (A 0) p R).2.1 + 1)), .ref (a + 2), .ref (a + 3), .ref (a + 4), .ref (a + 5), .int (iZ (I 2)), .ref (a + 6), .ref (a + 7), .ref (a + 8), .int (iZ (I 3)), .int (iZ (I 4)), .ref (a + 9), .ref (a + 10), .ref (a + 11)]) (q := 74) fpX9_65 dX9_fault_71 m0 (Nat.le_of_ble_eq_true rfl) rfl rfl rfl rfl (fun σ4 c5 f6 => ?_)
          have c7 := (f6.2 (a + 1) (by omega)).trans m1
          have c8 := (f6.2 (a + 2) (by omega)).trans m2
          have c9 := (f6.2 (a + 3) (by omega)).trans m3
          have c10 := (f6.2 (a + 4) (by omega)).trans m4
          have c11 := (f6.2 (a + 5) (by omega)).trans m5
          have c12 := (f6.2 (a + 6) (by omega)).trans m6
          have c13 := (f6.2 (a + 7) (by omega)).trans m7
          have c14 := (f6.2 (a + 8) (by omega)).trans m8
          have c15 := (f6.2 (a + 9) (by omega)).trans m9
          have c16 := (f6.2 (a + 10) (by omega)).trans m10
          have c17 := (f6.2 (a + 11) (by omega)).trans m11
          refine g_goto (q := 26) dX9_fault_74 rfl ?_
          refine Go.wk (ml' := [some (.ref a), none]) ⟨Or.inr rfl, Or.inl rfl, trivial⟩ ?_
          have hlt : (mItem (I 0) (A 0) p R).2.1 < I 0 := by
            have e59 : mB (I 0) (A 0) (mItem (I 0) (A 0) p R).2.1 = 59 := by omega
            unfold mB at e59; split at e59 <;> omega
          refine (ih ((mItem (I 0) (A 0) p R).2.1 + 1) (mItem (I 0) (A 0) p R).2.2 σ4 (by omega) (by omega) (by omega) hI.1 ⟨c5, c7, c8, c9, c10, c11, c12, c13, c14, c15, c16, c17⟩ (hF1.step f6 ⟨by omega, by omega⟩)).mono (fun r σx hp => ?_)
          have eF : mFlF (I 0) (A 0) (n + 1) p R = mFlF (I 0) (A 0) n ((mItem (I 0) (A 0) p R).2.1 + 1) (mItem (I 0) (A 0) p R).2.2 := by conv => lhs; unfold mFlF; rw [if_neg (by omega), if_neg (by omega)]
          rw [eF]; exact hp
        · refine g_iload_n (q := 63) dX9_fault_62 rfl rfl ?_
          refine z_iret dX9_fault_63 rfl ?_
          have eF : mFlF (I 0) (A 0) (n + 1) p R = (p, (mItem (I 0) (A 0) p R).2.2) := by unfold mFlF; rw [if_neg (by omega), if_pos (by omega)]
          rw [eF]
          exact ⟨rfl, ⟨_, hq1⟩, hF1⟩
theorem r_M_fault (σ : g_H0) (a : Nat) (I : Nat → Int) (A : Nat → Int → Int) (hM : rM a I A σ) (hL : 0 ≤ I 0 ∧ I 0 ≤ 200) (ht : zBt (I 0) (A 0)) : Ret mX9_fault [.ref a] σ (fun r σ' => r = some (.int (iZ (mFlF (I 0) (A 0) 200 0 (zcp (A 2) (fun _ => 0) 0 0 51)).1)) ∧ (∃ p', rM a (nup I 1 p') (nup A 2 (mFlF (I 0) (A 0) 200 0 (zcp (A 2) (fun _ => 0) 0 0 51)).2) σ') ∧ g_Fr (mR a) σ σ') := by
  refine Ret.of moX9_fault.1 (Nat.le_of_ble_eq_true rfl) (fun w => ?_)
  obtain ⟨m0, m1, m2, m3, m4, m5, m6, m7, m8, m9, m10, m11⟩ := id hM
  show Go w mX9_fault (0, 0) 0 [some (.ref a), none] [] σ (fun r σ' => r = some (.int (iZ (mFlF (I 0) (A 0) 200 0 (zcp (A 2) (fun _ => 0) 0 0 51)).1)) ∧ (∃ p', rM a (nup I 1 p') (nup A 2 (mFlF (I 0) (A 0) 200 0 (zcp (A 2) (fun _ => 0) 0 0 51)).2) σ') ∧ g_Fr (mR a) σ σ')
  refine z_iconst (q := 1) dX9_fault_0 rfl ?_
  refine g_istore_n (ml' := [some (.ref a), some (.int (iZ 0))]) (q := 2) dX9_fault_1 rfl (Nat.le_of_ble_eq_true rfl) rfl rfl ?_
  refine l_M_fl1 w _ σ a I A (fun σ1 hM1 hF1 => ?_) 51 0 σ (by omega) (by omega) (by rw [zcp_0, nup_id]; exact hM) g_Fr.rf
  obtain ⟨m0, m1, m2, m3, m4, m5, m6, m7, m8, m9, m10, m11⟩ := id hM1
  have m3 : σ1[a + 3]? = some (.inl (0, 51, .inl (zA (zcp (A 2) (fun _ => (0 : Int)) 0 0 51)))) := m3
  have m1 : σ1[a + 1]? = some (.inl (0, 200, .inl (zA (A 0)))) := m1
  have m2 : σ1[a + 2]? = some (.inl (0, 51, .inl (zA (A 1)))) := m2
  have m4 : σ1[a + 4]? = some (.inl (0, 156, .inl (zA (A 3)))) := m4
  have m5 : σ1[a + 5]? = some (.inl (0, 936, .inl (zA (A 4)))) := m5
  have m6 : σ1[a + 6]? = some (.inl (0, 156, .inl (zA (A 5)))) := m6
  have m7 : σ1[a + 7]? = some (.inl (0, 64, .inl (zA (A 6)))) := m7
  have m8 : σ1[a + 8]? = some (.inl (0, 5, .inl (zA (A 7)))) := m8
  have m9 : σ1[a + 9]? = some (.inl (0, 5, .inl (zA (A 8)))) := m9
  have m10 : σ1[a + 10]? = some (.inl (0, 60, .inl (zA (A 9)))) := m10
  have m11 : σ1[a + 11]? = some (.inl (0, 5, .inl (zA (A 10)))) := m11
  have m0 : σ1[a]? = some (.inr (9, [.int (iZ (I 0)), .ref (a + 1), .int (iZ (I 1)), .ref (a + 2), .ref (a + 3), .ref (a + 4), .ref (a + 5), .int (iZ (I 2)), .ref (a + 6), .ref (a + 7), .ref (a + 8), .int (iZ (I 3)), .int (iZ (I 4)), .ref (a + 9), .ref (a + 10), .ref (a + 11)])) := m0
  refine g_aload_n (q := 22) dX9_fault_21 rfl rfl ?_
  refine z_iconst (q := 23) dX9_fault_22 rfl ?_
  refine z_put (fs' := [.int (iZ (I 0)), .ref (a + 1), .int (iZ 0), .ref (a + 2), .ref (a + 3), .ref (a + 4), .ref (a + 5), .int (iZ (I 2)), .ref (a + 6), .ref (a + 7), .ref (a + 8), .int (iZ (I 3)), .int (iZ (I 4)), .ref (a + 9), .ref (a + 10), .ref (a + 11)]) (q := 26) fpX9_65 dX9_fault_23 m0 (Nat.le_of_ble_eq_true rfl) rfl rfl rfl rfl (fun σ1 c2 f3 => ?_)
  have c4 := (f3.2 (a + 1) (by omega)).trans m1
  have c5 := (f3.2 (a + 2) (by omega)).trans m2
  have c6 := (f3.2 (a + 3) (by omega)).trans m3
  have c7 := (f3.2 (a + 4) (by omega)).trans m4
  have c8 := (f3.2 (a + 5) (by omega)).trans m5
  have c9 := (f3.2 (a + 6) (by omega)).trans m6
  have c10 := (f3.2 (a + 7) (by omega)).trans m7
  have c11 := (f3.2 (a + 8) (by omega)).trans m8
  have c12 := (f3.2 (a + 9) (by omega)).trans m9
  have c13 := (f3.2 (a + 10) (by omega)).trans m10
  have c14 := (f3.2 (a + 11) (by omega)).trans m11
  exact l_M_fl2 w σ a I A hL ht 200 0 _ σ1 (by omega) (by omega) (by omega) (pR_0 _) ⟨c2, c4, c5, c6, c7, c8, c9, c10, c11, c12, c13, c14⟩ (hF1.step f3 ⟨by omega, by omega⟩)
