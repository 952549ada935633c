theorem r_M_wv_sheet (σ : g_H0) : Ret mX9_word5 [.int (iZ 115), .int (iZ 104), .int (iZ 101), .int (iZ 101), .int (iZ 116)] σ (fun r σ' => r = some (.long (lZ 20190388)) ∧ σ' = σ) := by
  refine Ret.of moX9_word5.1 (Nat.le_of_ble_eq_true rfl) (fun w => ?_)
  show Go w mX9_word5 (0, 0) 0 [some (.int (iZ 115)), some (.int (iZ 104)), some (.int (iZ 101)), some (.int (iZ 101)), some (.int (iZ 116))] [] σ (fun r σ' => r = some (.long (lZ 20190388)) ∧ σ' = σ)
  refine g_iload_n (q := 1) dX9_word5_0 rfl rfl ?_
  refine z_i2l (q := 2) dX9_word5_1 (by omega) rfl ?_
  refine g_ldc2 (v := lZ 96) (q := 5) dX9_word5_2 klX9_78 rfl ?_
  refine z_lsubc (c := 19) (q := 6) dX9_word5_5 (by omega) rfl ?_
  refine g_ldc2 (v := lZ 32) (q := 9) dX9_word5_6 klX9_54 rfl ?_
  refine z_lmulc (c := 608) (q := 10) dX9_word5_9 (by omega) rfl ?_
  refine g_iload_n (q := 11) dX9_word5_10 rfl rfl ?_
  refine z_i2l (q := 12) dX9_word5_11 (by omega) rfl ?_
  refine z_laddc (c := 712) (q := 13) dX9_word5_12 (by omega) rfl ?_
  refine g_ldc2 (v := lZ 96) (q := 16) dX9_word5_13 klX9_78 rfl ?_
  refine z_lsubc (c := 616) (q := 17) dX9_word5_16 (by omega) rfl ?_
  refine g_ldc2 (v := lZ 32) (q := 20) dX9_word5_17 klX9_54 rfl ?_
  refine z_lmulc (c := 19712) (q := 21) dX9_word5_20 (by omega) rfl ?_
  refine g_iload_n (q := 22) dX9_word5_21 rfl rfl ?_
  refine z_i2l (q := 23) dX9_word5_22 (by omega) rfl ?_
  refine z_laddc (c := 19813) (q := 24) dX9_word5_23 (by omega) rfl ?_
  refine g_ldc2 (v := lZ 96) (q := 27) dX9_word5_24 klX9_78 rfl ?_
  refine z_lsubc (c := 19717) (q := 28) dX9_word5_27 (by omega) rfl ?_
  refine g_ldc2 (v := lZ 32) (q := 31) dX9_word5_28 klX9_54 rfl ?_
  refine z_lmulc (c := 630944) (q := 32) dX9_word5_31 (by omega) rfl ?_
  refine g_iload_n (q := 33) dX9_word5_32 rfl rfl ?_
  refine z_i2l (q := 34) dX9_word5_33 (by omega) rfl ?_
  refine z_laddc (c := 631045) (q := 35) dX9_word5_34 (by omega) rfl ?_
  refine g_ldc2 (v := lZ 96) (q := 38) dX9_word5_35 klX9_78 rfl ?_
  refine z_lsubc (c := 630949) (q := 39) dX9_word5_38 (by omega) rfl ?_
  refine g_ldc2 (v := lZ 32) (q := 42) dX9_word5_39 klX9_54 rfl ?_
  refine z_lmulc (c := 20190368) (q := 43) dX9_word5_42 (by omega) rfl ?_
  refine g_iload (q := 45) dX9_word5_43 rfl rfl ?_
  refine z_i2l (q := 46) dX9_word5_45 (by omega) rfl ?_
  refine z_laddc (c := 20190484) (q := 47) dX9_word5_46 (by omega) rfl ?_
  refine g_ldc2 (v := lZ 96) (q := 50) dX9_word5_47 klX9_78 rfl ?_
  refine z_lsubc (c := 20190388) (q := 51) dX9_word5_50 (by omega) rfl ?_
  refine g_lret dX9_word5_51 rfl (Nat.zero_le _) (Nat.zero_le _) ?_
  exact ⟨rfl, rfl⟩
theorem r_M_w_sheet (σ : g_H0) (a : Nat) (I : Nat → Int) (A : Nat → Int → Int) (p : Int) (bp : 0 ≤ p ∧ p < 100000) (hM : rM a (nup I 1 p) A σ) (hL : 0 ≤ I 0 ∧ I 0 ≤ 200) (ht : zBt (I 0) (A 0)) : Ret mX9_word [.ref a, .long (lZ 20190388), .int (iZ 5)] σ (fun r σ' => ((mB (I 0) (A 0) p = 115 ∧ mB (I 0) (A 0) (p + 1) = 104 ∧ mB (I 0) (A 0) (p + 2) = 101 ∧ mB (I 0) (A 0) (p + 3) = 101 ∧ mB (I 0) (A 0) (p + 4) = 116) ∧ r = some (.int (iZ 1)) ∧ rM a (nup I 1 (p + 5)) A σ' ∧ g_Fr (mR a) σ σ') ∨ (¬ (mB (I 0) (A 0) p = 115 ∧ mB (I 0) (A 0) (p + 1) = 104 ∧ mB (I 0) (A 0) (p + 2) = 101 ∧ mB (I 0) (A 0) (p + 3) = 101 ∧ mB (I 0) (A 0) (p + 4) = 116) ∧ r = some (.int (iZ 0)) ∧ σ' = σ)) := by
  refine Ret.of moX9_word.1 (Nat.le_of_ble_eq_true rfl) (fun w => ?_)
  obtain ⟨m0, m1, m2, m3, m4, m5, m6, m7, m8, m9, m10, m11⟩ := id hM
  have m0 : σ[a]? = some (.inr (9, [.int (iZ (I 0)), .ref (a + 1), .int (iZ p), .ref (a + 2), .ref (a + 3), .ref (a + 4), .ref (a + 5), .int (iZ (I 2)), .ref (a + 6), .ref (a + 7), .ref (a + 8), .int (iZ (I 3)), .int (iZ (I 4)), .ref (a + 9), .ref (a + 10), .ref (a + 11)])) := m0
  show Go w mX9_word (0, 0) 0 [some (.ref a), some (.long (lZ 20190388)), none, some (.int (iZ 5)), none] [] σ (fun r σ' => ((mB (I 0) (A 0) p = 115 ∧ mB (I 0) (A 0) (p + 1) = 104 ∧ mB (I 0) (A 0) (p + 2) = 101 ∧ mB (I 0) (A 0) (p + 3) = 101 ∧ mB (I 0) (A 0) (p + 4) = 116) ∧ r = some (.int (iZ 1)) ∧ rM a (nup I 1 (p + 5)) A σ' ∧ g_Fr (mR a) σ σ') ∨ (¬ (mB (I 0) (A 0) p = 115 ∧ mB (I 0) (A 0) (p + 1) = 104 ∧ mB (I 0) (A 0) (p + 2) = 101 ∧ mB (I 0) (A 0) (p + 3) = 101 ∧ mB (I 0) (A 0) (p + 4) = 116) ∧ r = some (.int (iZ 0)) ∧ σ' = σ))
  refine z_iconst (q := 1) dX9_word_0 rfl ?_
  refine g_istore (ml' := [some (.ref a), some (.long (lZ 20190388)), none, some (.int (iZ 5)), some (.int (iZ 0))]) (q := 3) dX9_word_1 rfl (Nat.le_of_ble_eq_true rfl) rfl rfl ?_
  refine g_iload (q := 5) dX9_word_3 rfl rfl ?_
  refine g_iload_n (q := 6) dX9_word_5 rfl rfl ?_
  refine z_icmp_ge (t := 50) (q := 9) dX9_word_6 rfl (by omega) rfl (fun pc1 => ?_) (fun pc1 => ?_)
  · exfalso; omega
  · refine g_aload_n (q := 10) dX9_word_9 rfl rfl ?_
    refine g_aload_n (q := 11) dX9_word_10 rfl rfl ?_
    refine g_get (q := 14) flX9_65 dX9_word_11 m0 rfl rfl ?_
    refine g_iload (q := 16) dX9_word_14 rfl rfl ?_
    refine z_iaddc (c := p) (q := 17) dX9_word_16 (by omega) rfl ?_
    have hN2 : rM a (nup I 1 p) A σ := ⟨m0, m1, m2, m3, m4, m5, m6, m7, m8, m9, m10, m11⟩
    refine g_callV (As := [.int (iZ p)]) (rest := []) (q := 20) moX9_byteAt lkX9_word_68 dX9_word_17 rfl m0 (r_M_byteAt σ a _ _ hN2 p (by omega) hL) rfl rfl (Nat.le_of_ble_eq_true rfl) (Nat.le_of_ble_eq_true rfl) (Nat.le_of_ble_eq_true rfl) rfl ?_
    rintro r1 s1 hp
    rw [hp.1, hp.2]
    show Go w mX9_word (0, 0) 20 [some (.ref a), some (.long (lZ 20190388)), none, some (.int (iZ 5)), some (.int (iZ 0))] [.int (iZ (mB (I 0) (A 0) p))] σ (fun r σ' => ((mB (I 0) (A 0) p = 115 ∧ mB (I 0) (A 0) (p + 1) = 104 ∧ mB (I 0) (A 0) (p + 2) = 101 ∧ mB (I 0) (A 0) (p + 3) = 101 ∧ mB (I 0) (A 0) (p + 4) = 116) ∧ r = some (.int (iZ 1)) ∧ rM a (nup I 1 (p + 5)) A σ' ∧ g_Fr (mR a) σ σ') ∨ (¬ (mB (I 0) (A 0) p = 115 ∧ mB (I 0) (A 0) (p + 1) = 104 ∧ mB (I 0) (A 0) (p + 2) = 101 ∧ mB (I 0) (A 0) (p + 3) = 101 ∧ mB (I 0) (A 0) (p + 4) = 116) ∧ r = some (.int (iZ 0)) ∧ σ' = σ))
    have b3 := mB_b ht (k := p) (by omega)
    refine g_bipush (v := iZ 96) (q := 22) dX9_word_20 (by decide) rfl ?_
    refine z_isub (q := 23) dX9_word_22 rfl ?_
    refine z_i2l (q := 24) dX9_word_23 (by omega) rfl ?_
    refine g_lload_n (q := 25) dX9_word_24 rfl rfl ?_
    refine z_iconst (q := 26) dX9_word_25 rfl ?_
    refine g_iload_n (q := 27) dX9_word_26 rfl rfl ?_
    refine z_iconst (q := 28) dX9_word_27 rfl ?_
    refine z_isubc (c := 4) (q := 29) dX9_word_28 (by omega) rfl ?_
    refine g_iload (q := 31) dX9_word_29 rfl rfl ?_
    refine z_isubc (c := 4) (q := 32) dX9_word_31 (by omega) rfl ?_
    refine z_imulc (c := 20) (q := 33) dX9_word_32 (by omega) rfl ?_
    refine z_lshr (c := 19) (q := 34) dX9_word_33 (by decide +kernel) rfl ?_
    refine g_ldc2 (v := lZ 31) (q := 37) dX9_word_34 klX9_76 rfl ?_
    refine z_land (c := 19) (q := 38) dX9_word_37 (by decide +kernel) rfl ?_
    refine z_lcmp (q := 39) dX9_word_38 (by omega) rfl (fun pc4 => ?_)
    refine z_if_eq (t := 44) (q := 42) dX9_word_39 rfl (by omega) rfl (fun pc5 => ?_) (fun pc5 => ?_)
    · refine z_iincc (c := 1) (ml' := [some (.ref a), some (.long (lZ 20190388)), none, some (.int (iZ 5)), some (.int (iZ 1))]) (q := 47) dX9_word_44 rfl (by omega) rfl rfl rfl ?_
      refine g_goto (q := 3) dX9_word_47 rfl ?_
      refine g_iload (q := 5) dX9_word_3 rfl rfl ?_
      refine g_iload_n (q := 6) dX9_word_5 rfl rfl ?_
      refine z_icmp_ge (t := 50) (q := 9) dX9_word_6 rfl (by omega) rfl (fun pc6 => ?_) (fun pc6 => ?_)
      · exfalso; omega
      · refine g_aload_n (q := 10) dX9_word_9 rfl rfl ?_
        refine g_aload_n (q := 11) dX9_word_10 rfl rfl ?_
        refine g_get (q := 14) flX9_65 dX9_word_11 m0 rfl rfl ?_
        refine g_iload (q := 16) dX9_word_14 rfl rfl ?_
        refine z_iadd (q := 17) dX9_word_16 rfl ?_
        have hN7 : rM a (nup I 1 p) A σ := ⟨m0, m1, m2, m3, m4, m5, m6, m7, m8, m9, m10, m11⟩
        refine g_callV (As := [.int (iZ (p + 1))]) (rest := []) (q := 20) moX9_byteAt lkX9_word_68 dX9_word_17 rfl m0 (r_M_byteAt σ a _ _ hN7 (p + 1) (by omega) hL) rfl rfl (Nat.le_of_ble_eq_true rfl) (Nat.le_of_ble_eq_true rfl) (Nat.le_of_ble_eq_true rfl) rfl ?_
        rintro r1 s1 hp
        rw [hp.1, hp.2]
        show Go w mX9_word (0, 0) 20 [some (.ref a), some (.long (lZ 20190388)), none, some (.int (iZ 5)), some (.int (iZ 1))] [.int (iZ (mB (I 0) (A 0) (p + 1)))] σ (fun r σ' => ((mB (I 0) (A 0) p = 115 ∧ mB (I 0) (A 0) (p + 1) = 104 ∧ mB (I 0) (A 0) (p + 2) = 101 ∧ mB (I 0) (A 0) (p + 3) = 101 ∧ mB (I 0) (A 0) (p + 4) = 116) ∧ r = some (.int (iZ 1)) ∧ rM a (nup I 1 (p + 5)) A σ' ∧ g_Fr (mR a) σ σ') ∨ (¬ (mB (I 0) (A 0) p = 115 ∧ mB (I 0) (A 0) (p + 1) = 104 ∧ mB (I 0) (A 0) (p + 2) = 101 ∧ mB (I 0) (A 0) (p + 3) = 101 ∧ mB (I 0) (A 0) (p + 4) = 116) ∧ r = some (.int (iZ 0)) ∧ σ' = σ))
        have b8 := mB_b ht (k := (p + 1)) (by omega)
        refine g_bipush (v := iZ 96) (q := 22) dX9_word_20 (by decide) rfl ?_
        refine z_isub (q := 23) dX9_word_22 rfl ?_
        refine z_i2l (q := 24) dX9_word_23 (by omega) rfl ?_
        refine g_lload_n (q := 25) dX9_word_24 rfl rfl ?_
        refine z_iconst (q := 26) dX9_word_25 rfl ?_
        refine g_iload_n (q := 27) dX9_word_26 rfl rfl ?_
        refine z_iconst (q := 28) dX9_word_27 rfl ?_
        refine z_isubc (c := 4) (q := 29) dX9_word_28 (by omega) rfl ?_
        refine g_iload (q := 31) dX9_word_29 rfl rfl ?_
        refine z_isubc (c := 3) (q := 32) dX9_word_31 (by omega) rfl ?_
        refine z_imulc (c := 15) (q := 33) dX9_word_32 (by omega) rfl ?_
        refine z_lshr (c := 616) (q := 34) dX9_word_33 (by decide +kernel) rfl ?_
        refine g_ldc2 (v := lZ 31) (q := 37) dX9_word_34 klX9_76 rfl ?_
        refine z_land (c := 8) (q := 38) dX9_word_37 (by decide +kernel) rfl ?_
        refine z_lcmp (q := 39) dX9_word_38 (by omega) rfl (fun pc9 => ?_)
        refine z_if_eq (t := 44) (q := 42) dX9_word_39 rfl (by omega) rfl (fun pc10 => ?_) (fun pc10 => ?_)
        · refine z_iincc (c := 2) (ml' := [some (.ref a), some (.long (lZ 20190388)), none, some (.int (iZ 5)), some (.int (iZ 2))]) (q := 47) dX9_word_44 rfl (by omega) rfl rfl rfl ?_
          refine g_goto (q := 3) dX9_word_47 rfl ?_
          refine g_iload (q := 5) dX9_word_3 rfl rfl ?_
          refine g_iload_n (q := 6) dX9_word_5 rfl rfl ?_
          refine z_icmp_ge (t := 50) (q := 9) dX9_word_6 rfl (by omega) rfl (fun pc11 => ?_) (fun pc11 => ?_)
          · exfalso; omega
          · refine g_aload_n (q := 10) dX9_word_9 rfl rfl ?_
            refine g_aload_n (q := 11) dX9_word_10 rfl rfl ?_
            refine g_get (q := 14) flX9_65 dX9_word_11 m0 rfl rfl ?_
            refine g_iload (q := 16) dX9_word_14 rfl rfl ?_
            refine z_iadd (q := 17) dX9_word_16 rfl ?_
            have hN12 : rM a (nup I 1 p) A σ := ⟨m0, m1, m2, m3, m4, m5, m6, m7, m8, m9, m10, m11⟩
            refine g_callV (As := [.int (iZ (p + 2))]) (rest := []) (q := 20) moX9_byteAt lkX9_word_68 dX9_word_17 rfl m0 (r_M_byteAt σ a _ _ hN12 (p + 2) (by omega) hL) rfl rfl (Nat.le_of_ble_eq_true rfl) (Nat.le_of_ble_eq_true rfl) (Nat.le_of_ble_eq_true rfl) rfl ?_
            rintro r1 s1 hp
            rw [hp.1, hp.2]
            show Go w mX9_word (0, 0) 20 [some (.ref a), some (.long (lZ 20190388)), none, some (.int (iZ 5)), some (.int (iZ 2))] [.int (iZ (mB (I 0) (A 0) (p + 2)))] σ (fun r σ' => ((mB (I 0) (A 0) p = 115 ∧ mB (I 0) (A 0) (p + 1) = 104 ∧ mB (I 0) (A 0) (p + 2) = 101 ∧ mB (I 0) (A 0) (p + 3) = 101 ∧ mB (I 0) (A 0) (p + 4) = 116) ∧ r = some (.int (iZ 1)) ∧ rM a (nup I 1 (p + 5)) A σ' ∧ g_Fr (mR a) σ σ') ∨ (¬ (mB (I 0) (A 0) p = 115 ∧ mB (I 0) (A 0) (p + 1) = 104 ∧ mB (I 0) (A 0) (p + 2) = 101 ∧ mB (I 0) (A 0) (p + 3) = 101 ∧ mB (I 0) (A 0) (p + 4) = 116) ∧ r = some (.int (iZ 0)) ∧ σ' = σ))
            have b13 := mB_b ht (k := (p + 2)) (by omega)
            refine g_bipush (v := iZ 96) (q := 22) dX9_word_20 (by decide) rfl ?_
            refine z_isub (q := 23) dX9_word_22 rfl ?_
            refine z_i2l (q := 24) dX9_word_23 (by omega) rfl ?_
            refine g_lload_n (q := 25) dX9_word_24 rfl rfl ?_
            refine z_iconst (q := 26) dX9_word_25 rfl ?_
            refine g_iload_n (q := 27) dX9_word_26 rfl rfl ?_
            refine z_iconst (q := 28) dX9_word_27 rfl ?_
            refine z_isubc (c := 4) (q := 29) dX9_word_28 (by omega) rfl ?_
            refine g_iload (q := 31) dX9_word_29 rfl rfl ?_
            refine z_isubc (c := 2) (q := 32) dX9_word_31 (by omega) rfl ?_
            refine z_imulc (c := 10) (q := 33) dX9_word_32 (by omega) rfl ?_
            refine z_lshr (c := 19717) (q := 34) dX9_word_33 (by decide +kernel) rfl ?_
            refine g_ldc2 (v := lZ 31) (q := 37) dX9_word_34 klX9_76 rfl ?_
            refine z_land (c := 5) (q := 38) dX9_word_37 (by decide +kernel) rfl ?_
            refine z_lcmp (q := 39) dX9_word_38 (by omega) rfl (fun pc14 => ?_)
            refine z_if_eq (t := 44) (q := 42) dX9_word_39 rfl (by omega) rfl (fun pc15 => ?_) (fun pc15 => ?_)
            · refine z_iincc (c := 3) (ml' := [some (.ref a), some (.long (lZ 20190388)), none, some (.int (iZ 5)), some (.int (iZ 3))]) (q := 47) dX9_word_44 rfl (by omega) rfl rfl rfl ?_
              refine g_goto (q := 3) dX9_word_47 rfl ?_
              refine g_iload (q := 5) dX9_word_3 rfl rfl ?_
              refine g_iload_n (q := 6) dX9_word_5 rfl rfl ?_
              refine z_icmp_ge (t := 50) (q := 9) dX9_word_6 rfl (by omega) rfl (fun pc16 => ?_) (fun pc16 => ?_)
              · exfalso; omega
              · refine g_aload_n (q := 10) dX9_word_9 rfl rfl ?_
                refine g_aload_n (q := 11) dX9_word_10 rfl rfl ?_
                refine g_get (q := 14) flX9_65 dX9_word_11 m0 rfl rfl ?_
                refine g_iload (q := 16) dX9_word_14 rfl rfl ?_
                refine z_iadd (q := 17) dX9_word_16 rfl ?_
                have hN17 : rM a (nup I 1 p) A σ := ⟨m0, m1, m2, m3, m4, m5, m6, m7, m8, m9, m10, m11⟩
                refine g_callV (As := [.int (iZ (p + 3))]) (rest := []) (q := 20) moX9_byteAt lkX9_word_68 dX9_word_17 rfl m0 (r_M_byteAt σ a _ _ hN17 (p + 3) (by omega) hL) rfl rfl (Nat.le_of_ble_eq_true rfl) (Nat.le_of_ble_eq_true rfl) (Nat.le_of_ble_eq_true rfl) rfl ?_
                rintro r1 s1 hp
                rw [hp.1, hp.2]
                show Go w mX9_word (0, 0) 20 [some (.ref a), some (.long (lZ 20190388)), none, some (.int (iZ 5)), some (.int (iZ 3))] [.int (iZ (mB (I 0) (A 0) (p + 3)))] σ (fun r σ' => ((mB (I 0) (A 0) p = 115 ∧ mB (I 0) (A 0) (p + 1) = 104 ∧ mB (I 0) (A 0) (p + 2) = 101 ∧ mB (I 0) (A 0) (p + 3) = 101 ∧ mB (I 0) (A 0) (p + 4) = 116) ∧ r = some (.int (iZ 1)) ∧ rM a (nup I 1 (p + 5)) A σ' ∧ g_Fr (mR a) σ σ') ∨ (¬ (mB (I 0) (A 0) p = 115 ∧ mB (I 0) (A 0) (p + 1) = 104 ∧ mB (I 0) (A 0) (p + 2) = 101 ∧ mB (I 0) (A 0) (p + 3) = 101 ∧ mB (I 0) (A 0) (p + 4) = 116) ∧ r = some (.int (iZ 0)) ∧ σ' = σ))
                have b18 := mB_b ht (k := (p + 3)) (by omega)
                refine g_bipush (v := iZ 96) (q := 22) dX9_word_20 (by decide) rfl ?_
                refine z_isub (q := 23) dX9_word_22 rfl ?_
                refine z_i2l (q := 24) dX9_word_23 (by omega) rfl ?_
                refine g_lload_n (q := 25) dX9_word_24 rfl rfl ?_
                refine z_iconst (q := 26) dX9_word_25 rfl ?_
                refine g_iload_n (q := 27) dX9_word_26 rfl rfl ?_
                refine z_iconst (q := 28) dX9_word_27 rfl ?_
                refine z_isubc (c := 4) (q := 29) dX9_word_28 (by omega) rfl ?_
                refine g_iload (q := 31) dX9_word_29 rfl rfl ?_
                refine z_isubc (c := 1) (q := 32) dX9_word_31 (by omega) rfl ?_
                refine z_imulc (c := 5) (q := 33) dX9_word_32 (by omega) rfl ?_
                refine z_lshr (c := 630949) (q := 34) dX9_word_33 (by decide +kernel) rfl ?_
                refine g_ldc2 (v := lZ 31) (q := 37) dX9_word_34 klX9_76 rfl ?_
                refine z_land (c := 5) (q := 38) dX9_word_37 (by decide +kernel) rfl ?_
                refine z_lcmp (q := 39) dX9_word_38 (by omega) rfl (fun pc19 => ?_)
                refine z_if_eq (t := 44) (q := 42) dX9_word_39 rfl (by omega) rfl (fun pc20 => ?_) (fun pc20 => ?_)
                · refine z_iincc (c := 4) (ml' := [some (.ref a), some (.long (lZ 20190388)), none, some (.int (iZ 5)), some (.int (iZ 4))]) (q := 47) dX9_word_44 rfl (by omega) rfl rfl rfl ?_
                  refine g_goto (q := 3) dX9_word_47 rfl ?_
                  refine g_iload (q := 5) dX9_word_3 rfl rfl ?_
                  refine g_iload_n (q := 6) dX9_word_5 rfl rfl ?_
                  refine z_icmp_ge (t := 50) (q := 9) dX9_word_6 rfl (by omega) rfl (fun pc21 => ?_) (fun pc21 => ?_)
                  · exfalso; omega
                  · refine g_aload_n (q := 10) dX9_word_9 rfl rfl ?_
                    refine g_aload_n (q := 11) dX9_word_10 rfl rfl ?_
                    refine g_get (q := 14) flX9_65 dX9_word_11 m0 rfl rfl ?_
                    refine g_iload (q := 16) dX9_word_14 rfl rfl ?_
                    refine z_iadd (q := 17) dX9_word_16 rfl ?_
                    have hN22 : rM a (nup I 1 p) A σ := ⟨m0, m1, m2, m3, m4, m5, m6, m7, m8, m9, m10, m11⟩
                    refine g_callV (As := [.int (iZ (p + 4))]) (rest := []) (q := 20) moX9_byteAt lkX9_word_68 dX9_word_17 rfl m0 (r_M_byteAt σ a _ _ hN22 (p + 4) (by omega) hL) rfl rfl (Nat.le_of_ble_eq_true rfl) (Nat.le_of_ble_eq_true rfl) (Nat.le_of_ble_eq_true rfl) rfl ?_
                    rintro r1 s1 hp
                    rw [hp.1, hp.2]
                    show Go w mX9_word (0, 0) 20 [some (.ref a), some (.long (lZ 20190388)), none, some (.int (iZ 5)), some (.int (iZ 4))] [.int (iZ (mB (I 0) (A 0) (p + 4)))] σ (fun r σ' => ((mB (I 0) (A 0) p = 115 ∧ mB (I 0) (A 0) (p + 1) = 104 ∧ mB (I 0) (A 0) (p + 2) = 101 ∧ mB (I 0) (A 0) (p + 3) = 101 ∧ mB (I 0) (A 0) (p + 4) = 116) ∧ r = some (.int (iZ 1)) ∧ rM a (nup I 1 (p + 5)) A σ' ∧ g_Fr (mR a) σ σ') ∨ (¬ (mB (I 0) (A 0) p = 115 ∧ mB (I 0) (A 0) (p + 1) = 104 ∧ mB (I 0) (A 0) (p + 2) = 101 ∧ mB (I 0) (A 0) (p + 3) = 101 ∧ mB (I 0) (A 0) (p + 4) = 116) ∧ r = some (.int (iZ 0)) ∧ σ' = σ))
                    have b23 := mB_b ht (k := (p + 4)) (by omega)
                    refine g_bipush (v := iZ 96) (q := 22) dX9_word_20 (by decide) rfl ?_
                    refine z_isub (q := 23) dX9_word_22 rfl ?_
                    refine z_i2l (q := 24) dX9_word_23 (by omega) rfl ?_
                    refine g_lload_n (q := 25) dX9_word_24 rfl rfl ?_
                    refine z_iconst (q := 26) dX9_word_25 rfl ?_
                    refine g_iload_n (q := 27) dX9_word_26 rfl rfl ?_
                    refine z_iconst (q := 28) dX9_word_27 rfl ?_
                    refine z_isubc (c := 4) (q := 29) dX9_word_28 (by omega) rfl ?_
                    refine g_iload (q := 31) dX9_word_29 rfl rfl ?_
                    refine z_isubc (c := 0) (q := 32) dX9_word_31 (by omega) rfl ?_
                    refine z_imulc (c := 0) (q := 33) dX9_word_32 (by omega) rfl ?_
                    refine z_lshr (c := 20190388) (q := 34) dX9_word_33 (by decide +kernel) rfl ?_
                    refine g_ldc2 (v := lZ 31) (q := 37) dX9_word_34 klX9_76 rfl ?_
                    refine z_land (c := 20) (q := 38) dX9_word_37 (by decide +kernel) rfl ?_
                    refine z_lcmp (q := 39) dX9_word_38 (by omega) rfl (fun pc24 => ?_)
                    refine z_if_eq (t := 44) (q := 42) dX9_word_39 rfl (by omega) rfl (fun pc25 => ?_) (fun pc25 => ?_)
                    · refine z_iincc (c := 5) (ml' := [some (.ref a), some (.long (lZ 20190388)), none, some (.int (iZ 5)), some (.int (iZ 5))]) (q := 47) dX9_word_44 rfl (by omega) rfl rfl rfl ?_
                      refine g_goto (q := 3) dX9_word_47 rfl ?_
                      refine g_iload (q := 5) dX9_word_3 rfl rfl ?_
                      refine g_iload_n (q := 6) dX9_word_5 rfl rfl ?_
                      refine z_icmp_ge (t := 50) (q := 9) dX9_word_6 rfl (by omega) rfl (fun pc26 => ?_) (fun pc26 => ?_)
                      · refine g_aload_n (q := 51) dX9_word_50 rfl rfl ?_
                        refine g_dup (q := 52) dX9_word_51 rfl rfl ?_
                        refine g_get (q := 55) flX9_65 dX9_word_52 m0 rfl rfl ?_
                        refine g_iload_n (q := 56) dX9_word_55 rfl rfl ?_
                        refine z_iadd (q := 57) dX9_word_56 rfl ?_
                        refine z_put (fs' := [.int (iZ (I 0)), .ref (a + 1), .int (iZ (p + 5)), .ref (a + 2), .ref (a + 3), .ref (a + 4), .ref (a + 5), .int (iZ (I 2)), .ref (a + 6), .ref (a + 7), .ref (a + 8), .int (iZ (I 3)), .int (iZ (I 4)), .ref (a + 9), .ref (a + 10), .ref (a + 11)]) (q := 60) fpX9_65 dX9_word_57 m0 (Nat.le_of_ble_eq_true rfl) rfl rfl rfl rfl (fun σ27 c28 f29 => ?_)
                        have c30 := (f29.2 (a + 1) (by omega)).trans m1
                        have c31 := (f29.2 (a + 2) (by omega)).trans m2
                        have c32 := (f29.2 (a + 3) (by omega)).trans m3
                        have c33 := (f29.2 (a + 4) (by omega)).trans m4
                        have c34 := (f29.2 (a + 5) (by omega)).trans m5
                        have c35 := (f29.2 (a + 6) (by omega)).trans m6
                        have c36 := (f29.2 (a + 7) (by omega)).trans m7
                        have c37 := (f29.2 (a + 8) (by omega)).trans m8
                        have c38 := (f29.2 (a + 9) (by omega)).trans m9
                        have c39 := (f29.2 (a + 10) (by omega)).trans m10
                        have c40 := (f29.2 (a + 11) (by omega)).trans m11
                        refine z_iconst (q := 61) dX9_word_60 rfl ?_
                        refine z_zret dX9_word_61 rfl rfl ?_
                        exact Or.inl ⟨by omega, rfl, ⟨c28, c30, c31, c32, c33, c34, c35, c36, c37, c38, c39, c40⟩, (g_Fr.rf.step f29 ⟨by omega, by omega⟩)⟩
                      · exfalso; omega
                    · refine z_iconst (q := 43) dX9_word_42 rfl ?_
                      refine z_zret dX9_word_43 rfl rfl ?_
                      exact Or.inr ⟨by omega, rfl, rfl⟩
                · refine z_iconst (q := 43) dX9_word_42 rfl ?_
                  refine z_zret dX9_word_43 rfl rfl ?_
                  exact Or.inr ⟨by omega, rfl, rfl⟩
            · refine z_iconst (q := 43) dX9_word_42 rfl ?_
              refine z_zret dX9_word_43 rfl rfl ?_
              exact Or.inr ⟨by omega, rfl, rfl⟩
        · refine z_iconst (q := 43) dX9_word_42 rfl ?_
          refine z_zret dX9_word_43 rfl rfl ?_
          exact Or.inr ⟨by omega, rfl, rfl⟩
    · refine z_iconst (q := 43) dX9_word_42 rfl ?_
      refine z_zret dX9_word_43 rfl rfl ?_
      exact Or.inr ⟨by omega, rfl, rfl⟩
theorem r_M_wv_tool (σ : g_H0) : Ret mX9_word4 [.int (iZ 116), .int (iZ 111), .int (iZ 111), .int (iZ 108)] σ (fun r σ' => r = some (.long (lZ 671212)) ∧ σ' = σ) := by
  refine Ret.of moX9_word4.1 (Nat.le_of_ble_eq_true rfl) (fun w => ?_)
  show Go w mX9_word4 (0, 0) 0 [some (.int (iZ 116)), some (.int (iZ 111)), some (.int (iZ 111)), some (.int (iZ 108))] [] σ (fun r σ' => r = some (.long (lZ 671212)) ∧ σ' = σ)
  refine g_iload_n (q := 1) dX9_word4_0 rfl rfl ?_
  refine z_i2l (q := 2) dX9_word4_1 (by omega) rfl ?_
  refine g_ldc2 (v := lZ 96) (q := 5) dX9_word4_2 klX9_78 rfl ?_
  refine z_lsubc (c := 20) (q := 6) dX9_word4_5 (by omega) rfl ?_
  refine g_ldc2 (v := lZ 32) (q := 9) dX9_word4_6 klX9_54 rfl ?_
  refine z_lmulc (c := 640) (q := 10) dX9_word4_9 (by omega) rfl ?_
  refine g_iload_n (q := 11) dX9_word4_10 rfl rfl ?_
  refine z_i2l (q := 12) dX9_word4_11 (by omega) rfl ?_
  refine z_laddc (c := 751) (q := 13) dX9_word4_12 (by omega) rfl ?_
  refine g_ldc2 (v := lZ 96) (q := 16) dX9_word4_13 klX9_78 rfl ?_
  refine z_lsubc (c := 655) (q := 17) dX9_word4_16 (by omega) rfl ?_
  refine g_ldc2 (v := lZ 32) (q := 20) dX9_word4_17 klX9_54 rfl ?_
  refine z_lmulc (c := 20960) (q := 21) dX9_word4_20 (by omega) rfl ?_
  refine g_iload_n (q := 22) dX9_word4_21 rfl rfl ?_
  refine z_i2l (q := 23) dX9_word4_22 (by omega) rfl ?_
  refine z_laddc (c := 21071) (q := 24) dX9_word4_23 (by omega) rfl ?_
  refine g_ldc2 (v := lZ 96) (q := 27) dX9_word4_24 klX9_78 rfl ?_
  refine z_lsubc (c := 20975) (q := 28) dX9_word4_27 (by omega) rfl ?_
  refine g_ldc2 (v := lZ 32) (q := 31) dX9_word4_28 klX9_54 rfl ?_
  refine z_lmulc (c := 671200) (q := 32) dX9_word4_31 (by omega) rfl ?_
  refine g_iload_n (q := 33) dX9_word4_32 rfl rfl ?_
  refine z_i2l (q := 34) dX9_word4_33 (by omega) rfl ?_
  refine z_laddc (c := 671308) (q := 35) dX9_word4_34 (by omega) rfl ?_
  refine g_ldc2 (v := lZ 96) (q := 38) dX9_word4_35 klX9_78 rfl ?_
  refine z_lsubc (c := 671212) (q := 39) dX9_word4_38 (by omega) rfl ?_
  refine g_lret dX9_word4_39 rfl (Nat.zero_le _) (Nat.zero_le _) ?_
  exact ⟨rfl, rfl⟩
theorem r_M_w_tool (σ : g_H0) (a : Nat) (I : Nat → Int) (A : Nat → Int → Int) (p : Int) (bp : 0 ≤ p ∧ p < 100000) (hM : rM a (nup I 1 p) A σ) (hL : 0 ≤ I 0 ∧ I 0 ≤ 200) (ht : zBt (I 0) (A 0)) : Ret mX9_word [.ref a, .long (lZ 671212), .int (iZ 4)] σ (fun r σ' => ((mB (I 0) (A 0) p = 116 ∧ mB (I 0) (A 0) (p + 1) = 111 ∧ mB (I 0) (A 0) (p + 2) = 111 ∧ mB (I 0) (A 0) (p + 3) = 108) ∧ r = some (.int (iZ 1)) ∧ rM a (nup I 1 (p + 4)) A σ' ∧ g_Fr (mR a) σ σ') ∨ (¬ (mB (I 0) (A 0) p = 116 ∧ mB (I 0) (A 0) (p + 1) = 111 ∧ mB (I 0) (A 0) (p + 2) = 111 ∧ mB (I 0) (A 0) (p + 3) = 108) ∧ r = some (.int (iZ 0)) ∧ σ' = σ)) := by
  refine Ret.of moX9_word.1 (Nat.le_of_ble_eq_true rfl) (fun w => ?_)
  obtain ⟨m0, m1, m2, m3, m4, m5, m6, m7, m8, m9, m10, m11⟩ := id hM
  have m0 : σ[a]? = some (.inr (9, [.int (iZ (I 0)), .ref (a + 1), .int (iZ p), .ref (a + 2), .ref (a + 3), .ref (a + 4), .ref (a + 5), .int (iZ (I 2)), .ref (a + 6), .ref (a + 7), .ref (a + 8), .int (iZ (I 3)), .int (iZ (I 4)), .ref (a + 9), .ref (a + 10), .ref (a + 11)])) := m0
  show Go w mX9_word (0, 0) 0 [some (.ref a), some (.long (lZ 671212)), none, some (.int (iZ 4)), none] [] σ (fun r σ' => ((mB (I 0) (A 0) p = 116 ∧ mB (I 0) (A 0) (p + 1) = 111 ∧ mB (I 0) (A 0) (p + 2) = 111 ∧ mB (I 0) (A 0) (p + 3) = 108) ∧ r = some (.int (iZ 1)) ∧ rM a (nup I 1 (p + 4)) A σ' ∧ g_Fr (mR a) σ σ') ∨ (¬ (mB (I 0) (A 0) p = 116 ∧ mB (I 0) (A 0) (p + 1) = 111 ∧ mB (I 0) (A 0) (p + 2) = 111 ∧ mB (I 0) (A 0) (p + 3) = 108) ∧ r = some (.int (iZ 0)) ∧ σ' = σ))
  refine z_iconst (q := 1) dX9_word_0 rfl ?_
  refine g_istore (ml' := [some (.ref a), some (.long (lZ 671212)), none, some (.int (iZ 4)), some (.int (iZ 0))]) (q := 3) dX9_word_1 rfl (Nat.le_of_ble_eq_true rfl) rfl rfl ?_
  refine g_iload (q := 5) dX9_word_3 rfl rfl ?_
  refine g_iload_n (q := 6) dX9_word_5 rfl rfl ?_
  refine z_icmp_ge (t := 50) (q := 9) dX9_word_6 rfl (by omega) rfl (fun pc1 => ?_) (fun pc1 => ?_)
  · exfalso; omega
  · refine g_aload_n (q := 10) dX9_word_9 rfl rfl ?_
    refine g_aload_n (q := 11) dX9_word_10 rfl rfl ?_
    refine g_get (q := 14) flX9_65 dX9_word_11 m0 rfl rfl ?_
    refine g_iload (q := 16) dX9_word_14 rfl rfl ?_
    refine z_iaddc (c := p) (q := 17) dX9_word_16 (by omega) rfl ?_
    have hN2 : rM a (nup I 1 p) A σ := ⟨m0, m1, m2, m3, m4, m5, m6, m7, m8, m9, m10, m11⟩
    refine g_callV (As := [.int (iZ p)]) (rest := []) (q := 20) moX9_byteAt lkX9_word_68 dX9_word_17 rfl m0 (r_M_byteAt σ a _ _ hN2 p (by omega) hL) rfl rfl (Nat.le_of_ble_eq_true rfl) (Nat.le_of_ble_eq_true rfl) (Nat.le_of_ble_eq_true rfl) rfl ?_
    rintro r1 s1 hp
    rw [hp.1, hp.2]
    show Go w mX9_word (0, 0) 20 [some (.ref a), some (.long (lZ 671212)), none, some (.int (iZ 4)), some (.int (iZ 0))] [.int (iZ (mB (I 0) (A 0) p))] σ (fun r σ' => ((mB (I 0) (A 0) p = 116 ∧ mB (I 0) (A 0) (p + 1) = 111 ∧ mB (I 0) (A 0) (p + 2) = 111 ∧ mB (I 0) (A 0) (p + 3) = 108) ∧ r = some (.int (iZ 1)) ∧ rM a (nup I 1 (p + 4)) A σ' ∧ g_Fr (mR a) σ σ') ∨ (¬ (mB (I 0) (A 0) p = 116 ∧ mB (I 0) (A 0) (p + 1) = 111 ∧ mB (I 0) (A 0) (p + 2) = 111 ∧ mB (I 0) (A 0) (p + 3) = 108) ∧ r = some (.int (iZ 0)) ∧ σ' = σ))
    have b3 := mB_b ht (k := p) (by omega)
    refine g_bipush (v := iZ 96) (q := 22) dX9_word_20 (by decide) rfl ?_
    refine z_isub (q := 23) dX9_word_22 rfl ?_
    refine z_i2l (q := 24) dX9_word_23 (by omega) rfl ?_
    refine g_lload_n (q := 25) dX9_word_24 rfl rfl ?_
    refine z_iconst (q := 26) dX9_word_25 rfl ?_
    refine g_iload_n (q := 27) dX9_word_26 rfl rfl ?_
    refine z_iconst (q := 28) dX9_word_27 rfl ?_
    refine z_isubc (c := 3) (q := 29) dX9_word_28 (by omega) rfl ?_
    refine g_iload (q := 31) dX9_word_29 rfl rfl ?_
    refine z_isubc (c := 3) (q := 32) dX9_word_31 (by omega) rfl ?_
    refine z_imulc (c := 15) (q := 33) dX9_word_32 (by omega) rfl ?_
    refine z_lshr (c := 20) (q := 34) dX9_word_33 (by decide +kernel) rfl ?_
    refine g_ldc2 (v := lZ 31) (q := 37) dX9_word_34 klX9_76 rfl ?_
    refine z_land (c := 20) (q := 38) dX9_word_37 (by decide +kernel) rfl ?_
    refine z_lcmp (q := 39) dX9_word_38 (by omega) rfl (fun pc4 => ?_)
    refine z_if_eq (t := 44) (q := 42) dX9_word_39 rfl (by omega) rfl (fun pc5 => ?_) (fun pc5 => ?_)
    · refine z_iincc (c := 1) (ml' := [some (.ref a), some (.long (lZ 671212)), none, some (.int (iZ 4)), some (.int (iZ 1))]) (q := 47) dX9_word_44 rfl (by omega) rfl rfl rfl ?_
      refine g_goto (q := 3) dX9_word_47 rfl ?_
      refine g_iload (q := 5) dX9_word_3 rfl rfl ?_
      refine g_iload_n (q := 6) dX9_word_5 rfl rfl ?_
      refine z_icmp_ge (t := 50) (q := 9) dX9_word_6 rfl (by omega) rfl (fun pc6 => ?_) (fun pc6 => ?_)
      · exfalso; omega
      · refine g_aload_n (q := 10) dX9_word_9 rfl rfl ?_
        refine g_aload_n (q := 11) dX9_word_10 rfl rfl ?_
        refine g_get (q := 14) flX9_65 dX9_word_11 m0 rfl rfl ?_
        refine g_iload (q := 16) dX9_word_14 rfl rfl ?_
        refine z_iadd (q := 17) dX9_word_16 rfl ?_
        have hN7 : rM a (nup I 1 p) A σ := ⟨m0, m1, m2, m3, m4, m5, m6, m7, m8, m9, m10, m11⟩
        refine g_callV (As := [.int (iZ (p + 1))]) (rest := []) (q := 20) moX9_byteAt lkX9_word_68 dX9_word_17 rfl m0 (r_M_byteAt σ a _ _ hN7 (p + 1) (by omega) hL) rfl rfl (Nat.le_of_ble_eq_true rfl) (Nat.le_of_ble_eq_true rfl) (Nat.le_of_ble_eq_true rfl) rfl ?_
        rintro r1 s1 hp
        rw [hp.1, hp.2]
        show Go w mX9_word (0, 0) 20 [some (.ref a), some (.long (lZ 671212)), none, some (.int (iZ 4)), some (.int (iZ 1))] [.int (iZ (mB (I 0) (A 0) (p + 1)))] σ (fun r σ' => ((mB (I 0) (A 0) p = 116 ∧ mB (I 0) (A 0) (p + 1) = 111 ∧ mB (I 0) (A 0) (p + 2) = 111 ∧ mB (I 0) (A 0) (p + 3) = 108) ∧ r = some (.int (iZ 1)) ∧ rM a (nup I 1 (p + 4)) A σ' ∧ g_Fr (mR a) σ σ') ∨ (¬ (mB (I 0) (A 0) p = 116 ∧ mB (I 0) (A 0) (p + 1) = 111 ∧ mB (I 0) (A 0) (p + 2) = 111 ∧ mB (I 0) (A 0) (p + 3) = 108) ∧ r = some (.int (iZ 0)) ∧ σ' = σ))
        have b8 := mB_b ht (k := (p + 1)) (by omega)
        refine g_bipush (v := iZ 96) (q := 22) dX9_word_20 (by decide) rfl ?_
        refine z_isub (q := 23) dX9_word_22 rfl ?_
        refine z_i2l (q := 24) dX9_word_23 (by omega) rfl ?_
        refine g_lload_n (q := 25) dX9_word_24 rfl rfl ?_
        refine z_iconst (q := 26) dX9_word_25 rfl ?_
        refine g_iload_n (q := 27) dX9_word_26 rfl rfl ?_
        refine z_iconst (q := 28) dX9_word_27 rfl ?_
        refine z_isubc (c := 3) (q := 29) dX9_word_28 (by omega) rfl ?_
        refine g_iload (q := 31) dX9_word_29 rfl rfl ?_
        refine z_isubc (c := 2) (q := 32) dX9_word_31 (by omega) rfl ?_
        refine z_imulc (c := 10) (q := 33) dX9_word_32 (by omega) rfl ?_
        refine z_lshr (c := 655) (q := 34) dX9_word_33 (by decide +kernel) rfl ?_
        refine g_ldc2 (v := lZ 31) (q := 37) dX9_word_34 klX9_76 rfl ?_
        refine z_land (c := 15) (q := 38) dX9_word_37 (by decide +kernel) rfl ?_
        refine z_lcmp (q := 39) dX9_word_38 (by omega) rfl (fun pc9 => ?_)
        refine z_if_eq (t := 44) (q := 42) dX9_word_39 rfl (by omega) rfl (fun pc10 => ?_) (fun pc10 => ?_)
        · refine z_iincc (c := 2) (ml' := [some (.ref a), some (.long (lZ 671212)), none, some (.int (iZ 4)), some (.int (iZ 2))]) (q := 47) dX9_word_44 rfl (by omega) rfl rfl rfl ?_
          refine g_goto (q := 3) dX9_word_47 rfl ?_
          refine g_iload (q := 5) dX9_word_3 rfl rfl ?_
          refine g_iload_n (q := 6) dX9_word_5 rfl rfl ?_
          refine z_icmp_ge (t := 50) (q := 9) dX9_word_6 rfl (by omega) rfl (fun pc11 => ?_) (fun pc11 => ?_)
          · exfalso; omega
          · refine g_aload_n (q := 10) dX9_word_9 rfl rfl ?_
            refine g_aload_n (q := 11) dX9_word_10 rfl rfl ?_
            refine g_get (q := 14) flX9_65 dX9_word_11 m0 rfl rfl ?_
            refine g_iload (q := 16) dX9_word_14 rfl rfl ?_
            refine z_iadd (q := 17) dX9_word_16 rfl ?_
            have hN12 : rM a (nup I 1 p) A σ := ⟨m0, m1, m2, m3, m4, m5, m6, m7, m8, m9, m10, m11⟩
            refine g_callV (As := [.int (iZ (p + 2))]) (rest := []) (q := 20) moX9_byteAt lkX9_word_68 dX9_word_17 rfl m0 (r_M_byteAt σ a _ _ hN12 (p + 2) (by omega) hL) rfl rfl (Nat.le_of_ble_eq_true rfl) (Nat.le_of_ble_eq_true rfl) (Nat.le_of_ble_eq_true rfl) rfl ?_
            rintro r1 s1 hp
            rw [hp.1, hp.2]
            show Go w mX9_word (0, 0) 20 [some (.ref a), some (.long (lZ 671212)), none, some (.int (iZ 4)), some (.int (iZ 2))] [.int (iZ (mB (I 0) (A 0) (p + 2)))] σ (fun r σ' => ((mB (I 0) (A 0) p = 116 ∧ mB (I 0) (A 0) (p + 1) = 111 ∧ mB (I 0) (A 0) (p + 2) = 111 ∧ mB (I 0) (A 0) (p + 3) = 108) ∧ r = some (.int (iZ 1)) ∧ rM a (nup I 1 (p + 4)) A σ' ∧ g_Fr (mR a) σ σ') ∨ (¬ (mB (I 0) (A 0) p = 116 ∧ mB (I 0) (A 0) (p + 1) = 111 ∧ mB (I 0) (A 0) (p + 2) = 111 ∧ mB (I 0) (A 0) (p + 3) = 108) ∧ r = some (.int (iZ 0)) ∧ σ' = σ))
            have b13 := mB_b ht (k := (p + 2)) (by omega)
            refine g_bipush (v := iZ 96) (q := 22) dX9_word_20 (by decide) rfl ?_
            refine z_isub (q := 23) dX9_word_22 rfl ?_
            refine z_i2l (q := 24) dX9_word_23 (by omega) rfl ?_
            refine g_lload_n (q := 25) dX9_word_24 rfl rfl ?_
            refine z_iconst (q := 26) dX9_word_25 rfl ?_
            refine g_iload_n (q := 27) dX9_word_26 rfl rfl ?_
            refine z_iconst (q := 28) dX9_word_27 rfl ?_
            refine z_isubc (c := 3) (q := 29) dX9_word_28 (by omega) rfl ?_
            refine g_iload (q := 31) dX9_word_29 rfl rfl ?_
            refine z_isubc (c := 1) (q := 32) dX9_word_31 (by omega) rfl ?_
            refine z_imulc (c := 5) (q := 33) dX9_word_32 (by omega) rfl ?_
            refine z_lshr (c := 20975) (q := 34) dX9_word_33 (by decide +kernel) rfl ?_
            refine g_ldc2 (v := lZ 31) (q := 37) dX9_word_34 klX9_76 rfl ?_
            refine z_land (c := 15) (q := 38) dX9_word_37 (by decide +kernel) rfl ?_
            refine z_lcmp (q := 39) dX9_word_38 (by omega) rfl (fun pc14 => ?_)
            refine z_if_eq (t := 44) (q := 42) dX9_word_39 rfl (by omega) rfl (fun pc15 => ?_) (fun pc15 => ?_)
            · refine z_iincc (c := 3) (ml' := [some (.ref a), some (.long (lZ 671212)), none, some (.int (iZ 4)), some (.int (iZ 3))]) (q := 47) dX9_word_44 rfl (by omega) rfl rfl rfl ?_
              refine g_goto (q := 3) dX9_word_47 rfl ?_
              refine g_iload (q := 5) dX9_word_3 rfl rfl ?_
              refine g_iload_n (q := 6) dX9_word_5 rfl rfl ?_
              refine z_icmp_ge (t := 50) (q := 9) dX9_word_6 rfl (by omega) rfl (fun pc16 => ?_) (fun pc16 => ?_)
              · exfalso; omega
              · refine g_aload_n (q := 10) dX9_word_9 rfl rfl ?_
                refine g_aload_n (q := 11) dX9_word_10 rfl rfl ?_
                refine g_get (q := 14) flX9_65 dX9_word_11 m0 rfl rfl ?_
                refine g_iload (q := 16) dX9_word_14 rfl rfl ?_
                refine z_iadd (q := 17) dX9_word_16 rfl ?_
                have hN17 : rM a (nup I 1 p) A σ := ⟨m0, m1, m2, m3, m4, m5, m6, m7, m8, m9, m10, m11⟩
                refine g_callV (As := [.int (iZ (p + 3))]) (rest := []) (q := 20) moX9_byteAt lkX9_word_68 dX9_word_17 rfl m0 (r_M_byteAt σ a _ _ hN17 (p + 3) (by omega) hL) rfl rfl (Nat.le_of_ble_eq_true rfl) (Nat.le_of_ble_eq_true rfl) (Nat.le_of_ble_eq_true rfl) rfl ?_
                rintro r1 s1 hp
                rw [hp.1, hp.2]
                show Go w mX9_word (0, 0) 20 [some (.ref a), some (.long (lZ 671212)), none, some (.int (iZ 4)), some (.int (iZ 3))] [.int (iZ (mB (I 0) (A 0) (p + 3)))] σ (fun r σ' => ((mB (I 0) (A 0) p = 116 ∧ mB (I 0) (A 0) (p + 1) = 111 ∧ mB (I 0) (A 0) (p + 2) = 111 ∧ mB (I 0) (A 0) (p + 3) = 108) ∧ r = some (.int (iZ 1)) ∧ rM a (nup I 1 (p + 4)) A σ' ∧ g_Fr (mR a) σ σ') ∨ (¬ (mB (I 0) (A 0) p = 116 ∧ mB (I 0) (A 0) (p + 1) = 111 ∧ mB (I 0) (A 0) (p + 2) = 111 ∧ mB (I 0) (A 0) (p + 3) = 108) ∧ r = some (.int (iZ 0)) ∧ σ' = σ))
                have b18 := mB_b ht (k := (p + 3)) (by omega)
                refine g_bipush (v := iZ 96) (q := 22) dX9_word_20 (by decide) rfl ?_
                refine z_isub (q := 23) dX9_word_22 rfl ?_
                refine z_i2l (q := 24) dX9_word_23 (by omega) rfl ?_
                refine g_lload_n (q := 25) dX9_word_24 rfl rfl ?_
                refine z_iconst (q := 26) dX9_word_25 rfl ?_
                refine g_iload_n (q := 27) dX9_word_26 rfl rfl ?_
                refine z_iconst (q := 28) dX9_word_27 rfl ?_
                refine z_isubc (c := 3) (q := 29) dX9_word_28 (by omega) rfl ?_
                refine g_iload (q := 31) dX9_word_29 rfl rfl ?_
                refine z_isubc (c := 0) (q := 32) dX9_word_31 (by omega) rfl ?_
                refine z_imulc (c := 0) (q := 33) dX9_word_32 (by omega) rfl ?_
                refine z_lshr (c := 671212) (q := 34) dX9_word_33 (by decide +kernel) rfl ?_
                refine g_ldc2 (v := lZ 31) (q := 37) dX9_word_34 klX9_76 rfl ?_
                refine z_land (c := 12) (q := 38) dX9_word_37 (by decide +kernel) rfl ?_
                refine z_lcmp (q := 39) dX9_word_38 (by omega) rfl (fun pc19 => ?_)
                refine z_if_eq (t := 44) (q := 42) dX9_word_39 rfl (by omega) rfl (fun pc20 => ?_) (fun pc20 => ?_)
                · refine z_iincc (c := 4) (ml' := [some (.ref a), some (.long (lZ 671212)), none, some (.int (iZ 4)), some (.int (iZ 4))]) (q := 47) dX9_word_44 rfl (by omega) rfl rfl rfl ?_
                  refine g_goto (q := 3) dX9_word_47 rfl ?_
                  refine g_iload (q := 5) dX9_word_3 rfl rfl ?_
                  refine g_iload_n (q := 6) dX9_word_5 rfl rfl ?_
                  refine z_icmp_ge (t := 50) (q := 9) dX9_word_6 rfl (by omega) rfl (fun pc21 => ?_) (fun pc21 => ?_)
                  · refine g_aload_n (q := 51) dX9_word_50 rfl rfl ?_
                    refine g_dup (q := 52) dX9_word_51 rfl rfl ?_
                    refine g_get (q := 55) flX9_65 dX9_word_52 m0 rfl rfl ?_
                    refine g_iload_n (q := 56) dX9_word_55 rfl rfl ?_
                    refine z_iadd (q := 57) dX9_word_56 rfl ?_
                    refine z_put (fs' := [.int (iZ (I 0)), .ref (a + 1), .int (iZ (p + 4)), .ref (a + 2), .ref (a + 3), .ref (a + 4), .ref (a + 5), .int (iZ (I 2)), .ref (a + 6), .ref (a + 7), .ref (a + 8), .int (iZ (I 3)), .int (iZ (I 4)), .ref (a + 9), .ref (a + 10), .ref (a + 11)]) (q := 60) fpX9_65 dX9_word_57 m0 (Nat.le_of_ble_eq_true rfl) rfl rfl rfl rfl (fun σ22 c23 f24 => ?_)
                    have c25 := (f24.2 (a + 1) (by omega)).trans m1
                    have c26 := (f24.2 (a + 2) (by omega)).trans m2
                    have c27 := (f24.2 (a + 3) (by omega)).trans m3
                    have c28 := (f24.2 (a + 4) (by omega)).trans m4
                    have c29 := (f24.2 (a + 5) (by omega)).trans m5
                    have c30 := (f24.2 (a + 6) (by omega)).trans m6
                    have c31 := (f24.2 (a + 7) (by omega)).trans m7
                    have c32 := (f24.2 (a + 8) (by omega)).trans m8
                    have c33 := (f24.2 (a + 9) (by omega)).trans m9
                    have c34 := (f24.2 (a + 10) (by omega)).trans m10
                    have c35 := (f24.2 (a + 11) (by omega)).trans m11
                    refine z_iconst (q := 61) dX9_word_60 rfl ?_
                    refine z_zret dX9_word_61 rfl rfl ?_
                    exact Or.inl ⟨by omega, rfl, ⟨c23, c25, c26, c27, c28, c29, c30, c31, c32, c33, c34, c35⟩, (g_Fr.rf.step f24 ⟨by omega, by omega⟩)⟩
                  · exfalso; omega
                · refine z_iconst (q := 43) dX9_word_42 rfl ?_
                  refine z_zret dX9_word_43 rfl rfl ?_
                  exact Or.inr ⟨by omega, rfl, rfl⟩
            · refine z_iconst (q := 43) dX9_word_42 rfl ?_
              refine z_zret dX9_word_43 rfl rfl ?_
              exact Or.inr ⟨by omega, rfl, rfl⟩
        · refine z_iconst (q := 43) dX9_word_42 rfl ?_
          refine z_zret dX9_word_43 rfl rfl ?_
          exact Or.inr ⟨by omega, rfl, rfl⟩
    · refine z_iconst (q := 43) dX9_word_42 rfl ?_
      refine z_zret dX9_word_43 rfl rfl ?_
      exact Or.inr ⟨by omega, rfl, rfl⟩
theorem r_M_wv_hole (σ : g_H0) : Ret mX9_word4 [.int (iZ 104), .int (iZ 111), .int (iZ 108), .int (iZ 101)] σ (fun r σ' => r = some (.long (lZ 277893)) ∧ σ' = σ) := by
  refine Ret.of moX9_word4.1 (Nat.le_of_ble_eq_true rfl) (fun w => ?_)
  show Go w mX9_word4 (0, 0) 0 [some (.int (iZ 104)), some (.int (iZ 111)), some (.int (iZ 108)), some (.int (iZ 101))] [] σ (fun r σ' => r = some (.long (lZ 277893)) ∧ σ' = σ)
  refine g_iload_n (q := 1) dX9_word4_0 rfl rfl ?_
  refine z_i2l (q := 2) dX9_word4_1 (by omega) rfl ?_
  refine g_ldc2 (v := lZ 96) (q := 5) dX9_word4_2 klX9_78 rfl ?_
  refine z_lsubc (c := 8) (q := 6) dX9_word4_5 (by omega) rfl ?_
  refine g_ldc2 (v := lZ 32) (q := 9) dX9_word4_6 klX9_54 rfl ?_
  refine z_lmulc (c := 256) (q := 10) dX9_word4_9 (by omega) rfl ?_
  refine g_iload_n (q := 11) dX9_word4_10 rfl rfl ?_
  refine z_i2l (q := 12) dX9_word4_11 (by omega) rfl ?_
  refine z_laddc (c := 367) (q := 13) dX9_word4_12 (by omega) rfl ?_
  refine g_ldc2 (v := lZ 96) (q := 16) dX9_word4_13 klX9_78 rfl ?_
  refine z_lsubc (c := 271) (q := 17) dX9_word4_16 (by omega) rfl ?_
  refine g_ldc2 (v := lZ 32) (q := 20) dX9_word4_17 klX9_54 rfl ?_
  refine z_lmulc (c := 8672) (q := 21) dX9_word4_20 (by omega) rfl ?_
  refine g_iload_n (q := 22) dX9_word4_21 rfl rfl ?_
  refine z_i2l (q := 23) dX9_word4_22 (by omega) rfl ?_
  refine z_laddc (c := 8780) (q := 24) dX9_word4_23 (by omega) rfl ?_
  refine g_ldc2 (v := lZ 96) (q := 27) dX9_word4_24 klX9_78 rfl ?_
  refine z_lsubc (c := 8684) (q := 28) dX9_word4_27 (by omega) rfl ?_
  refine g_ldc2 (v := lZ 32) (q := 31) dX9_word4_28 klX9_54 rfl ?_
  refine z_lmulc (c := 277888) (q := 32) dX9_word4_31 (by omega) rfl ?_
  refine g_iload_n (q := 33) dX9_word4_32 rfl rfl ?_
  refine z_i2l (q := 34) dX9_word4_33 (by omega) rfl ?_
  refine z_laddc (c := 277989) (q := 35) dX9_word4_34 (by omega) rfl ?_
  refine g_ldc2 (v := lZ 96) (q := 38) dX9_word4_35 klX9_78 rfl ?_
  refine z_lsubc (c := 277893) (q := 39) dX9_word4_38 (by omega) rfl ?_
  refine g_lret dX9_word4_39 rfl (Nat.zero_le _) (Nat.zero_le _) ?_
  exact ⟨rfl, rfl⟩
theorem r_M_w_hole (σ : g_H0) (a : Nat) (I : Nat → Int) (A : Nat → Int → Int) (p : Int) (bp : 0 ≤ p ∧ p < 100000) (hM : rM a (nup I 1 p) A σ) (hL : 0 ≤ I 0 ∧ I 0 ≤ 200) (ht : zBt (I 0) (A 0)) : Ret mX9_word [.ref a, .long (lZ 277893), .int (iZ 4)] σ (fun r σ' => ((mB (I 0) (A 0) p = 104 ∧ mB (I 0) (A 0) (p + 1) = 111 ∧ mB (I 0) (A 0) (p + 2) = 108 ∧ mB (I 0) (A 0) (p + 3) = 101) ∧ r = some (.int (iZ 1)) ∧ rM a (nup I 1 (p + 4)) A σ' ∧ g_Fr (mR a) σ σ') ∨ (¬ (mB (I 0) (A 0) p = 104 ∧ mB (I 0) (A 0) (p + 1) = 111 ∧ mB (I 0) (A 0) (p + 2) = 108 ∧ mB (I 0) (A 0) (p + 3) = 101) ∧ r = some (.int (iZ 0)) ∧ σ' = σ)) := by
  refine Ret.of moX9_word.1 (Nat.le_of_ble_eq_true rfl) (fun w => ?_)
  obtain ⟨m0, m1, m2, m3, m4, m5, m6, m7, m8, m9, m10, m11⟩ := id hM
  have m0 : σ[a]? = some (.inr (9, [.int (iZ (I 0)), .ref (a + 1), .int (iZ p), .ref (a + 2), .ref (a + 3), .ref (a + 4), .ref (a + 5), .int (iZ (I 2)), .ref (a + 6), .ref (a + 7), .ref (a + 8), .int (iZ (I 3)), .int (iZ (I 4)), .ref (a + 9), .ref (a + 10), .ref (a + 11)])) := m0
  show Go w mX9_word (0, 0) 0 [some (.ref a), some (.long (lZ 277893)), none, some (.int (iZ 4)), none] [] σ (fun r σ' => ((mB (I 0) (A 0) p = 104 ∧ mB (I 0) (A 0) (p + 1) = 111 ∧ mB (I 0) (A 0) (p + 2) = 108 ∧ mB (I 0) (A 0) (p + 3) = 101) ∧ r = some (.int (iZ 1)) ∧ rM a (nup I 1 (p + 4)) A σ' ∧ g_Fr (mR a) σ σ') ∨ (¬ (mB (I 0) (A 0) p = 104 ∧ mB (I 0) (A 0) (p + 1) = 111 ∧ mB (I 0) (A 0) (p + 2) = 108 ∧ mB (I 0) (A 0) (p + 3) = 101) ∧ r = some (.int (iZ 0)) ∧ σ' = σ))
  refine z_iconst (q := 1) dX9_word_0 rfl ?_
  refine g_istore (ml' := [some (.ref a), some (.long (lZ 277893)), none, some (.int (iZ 4)), some (.int (iZ 0))]) (q := 3) dX9_word_1 rfl (Nat.le_of_ble_eq_true rfl) rfl rfl ?_
  refine g_iload (q := 5) dX9_word_3 rfl rfl ?_
  refine g_iload_n (q := 6) dX9_word_5 rfl rfl ?_
  refine z_icmp_ge (t := 50) (q := 9) dX9_word_6 rfl (by omega) rfl (fun pc1 => ?_) (fun pc1 => ?_)
  · exfalso; omega
  · refine g_aload_n (q := 10) dX9_word_9 rfl rfl ?_
    refine g_aload_n (q := 11) dX9_word_10 rfl rfl ?_
    refine g_get (q := 14) flX9_65 dX9_word_11 m0 rfl rfl ?_
    refine g_iload (q := 16) dX9_word_14 rfl rfl ?_
    refine z_iaddc (c := p) (q := 17) dX9_word_16 (by omega) rfl ?_
    have hN2 : rM a (nup I 1 p) A σ := ⟨m0, m1, m2, m3, m4, m5, m6, m7, m8, m9, m10, m11⟩
    refine g_callV (As := [.int (iZ p)]) (rest := []) (q := 20) moX9_byteAt lkX9_word_68 dX9_word_17 rfl m0 (r_M_byteAt σ a _ _ hN2 p (by omega) hL) rfl rfl (Nat.le_of_ble_eq_true rfl) (Nat.le_of_ble_eq_true rfl) (Nat.le_of_ble_eq_true rfl) rfl ?_
    rintro r1 s1 hp
    rw [hp.1, hp.2]
    show Go w mX9_word (0, 0) 20 [some (.ref a), some (.long (lZ 277893)), none, some (.int (iZ 4)), some (.int (iZ 0))] [.int (iZ (mB (I 0) (A 0) p))] σ (fun r σ' => ((mB (I 0) (A 0) p = 104 ∧ mB (I 0) (A 0) (p + 1) = 111 ∧ mB (I 0) (A 0) (p + 2) = 108 ∧ mB (I 0) (A 0) (p + 3) = 101) ∧ r = some (.int (iZ 1)) ∧ rM a (nup I 1 (p + 4)) A σ' ∧ g_Fr (mR a) σ σ') ∨ (¬ (mB (I 0) (A 0) p = 104 ∧ mB (I 0) (A 0) (p + 1) = 111 ∧ mB (I 0) (A 0) (p + 2) = 108 ∧ mB (I 0) (A 0) (p + 3) = 101) ∧ r = some (.int (iZ 0)) ∧ σ' = σ))
    have b3 := mB_b ht (k := p) (by omega)
    refine g_bipush (v := iZ 96) (q := 22) dX9_word_20 (by decide) rfl ?_
    refine z_isub (q := 23) dX9_word_22 rfl ?_
    refine z_i2l (q := 24) dX9_word_23 (by omega) rfl ?_
    refine g_lload_n (q := 25) dX9_word_24 rfl rfl ?_
    refine z_iconst (q := 26) dX9_word_25 rfl ?_
    refine g_iload_n (q := 27) dX9_word_26 rfl rfl ?_
    refine z_iconst (q := 28) dX9_word_27 rfl ?_
    refine z_isubc (c := 3) (q := 29) dX9_word_28 (by omega) rfl ?_
    refine g_iload (q := 31) dX9_word_29 rfl rfl ?_
    refine z_isubc (c := 3) (q := 32) dX9_word_31 (by omega) rfl ?_
    refine z_imulc (c := 15) (q := 33) dX9_word_32 (by omega) rfl ?_
    refine z_lshr (c := 8) (q := 34) dX9_word_33 (by decide +kernel) rfl ?_
    refine g_ldc2 (v := lZ 31) (q := 37) dX9_word_34 klX9_76 rfl ?_
    refine z_land (c := 8) (q := 38) dX9_word_37 (by decide +kernel) rfl ?_
    refine z_lcmp (q := 39) dX9_word_38 (by omega) rfl (fun pc4 => ?_)
    refine z_if_eq (t := 44) (q := 42) dX9_word_39 rfl (by omega) rfl (fun pc5 => ?_) (fun pc5 => ?_)
    · refine z_iincc (c := 1) (ml' := [some (.ref a), some (.long (lZ 277893)), none, some (.int (iZ 4)), some (.int (iZ 1))]) (q := 47) dX9_word_44 rfl (by omega) rfl rfl rfl ?_
      refine g_goto (q := 3) dX9_word_47 rfl ?_
      refine g_iload (q := 5) dX9_word_3 rfl rfl ?_
      refine g_iload_n (q := 6) dX9_word_5 rfl rfl ?_
      refine z_icmp_ge (t := 50) (q := 9) dX9_word_6 rfl (by omega) rfl (fun pc6 => ?_) (fun pc6 => ?_)
      · exfalso; omega
      · refine g_aload_n (q := 10) dX9_word_9 rfl rfl ?_
        refine g_aload_n (q := 11) dX9_word_10 rfl rfl ?_
        refine g_get (q := 14) flX9_65 dX9_word_11 m0 rfl rfl ?_
        refine g_iload (q := 16) dX9_word_14 rfl rfl ?_
        refine z_iadd (q := 17) dX9_word_16 rfl ?_
        have hN7 : rM a (nup I 1 p) A σ := ⟨m0, m1, m2, m3, m4, m5, m6, m7, m8, m9, m10, m11⟩
        refine g_callV (As := [.int (iZ (p + 1))]) (rest := []) (q := 20) moX9_byteAt lkX9_word_68 dX9_word_17 rfl m0 (r_M_byteAt σ a _ _ hN7 (p + 1) (by omega) hL) rfl rfl (Nat.le_of_ble_eq_true rfl) (Nat.le_of_ble_eq_true rfl) (Nat.le_of_ble_eq_true rfl) rfl ?_
        rintro r1 s1 hp
        rw [hp.1, hp.2]
        show Go w mX9_word (0, 0) 20 [some (.ref a), some (.long (lZ 277893)), none, some (.int (iZ 4)), some (.int (iZ 1))] [.int (iZ (mB (I 0) (A 0) (p + 1)))] σ (fun r σ' => ((mB (I 0) (A 0) p = 104 ∧ mB (I 0) (A 0) (p + 1) = 111 ∧ mB (I 0) (A 0) (p + 2) = 108 ∧ mB (I 0) (A 0) (p + 3) = 101) ∧ r = some (.int (iZ 1)) ∧ rM a (nup I 1 (p + 4)) A σ' ∧ g_Fr (mR a) σ σ') ∨ (¬ (mB (I 0) (A 0) p = 104 ∧ mB (I 0) (A 0) (p + 1) = 111 ∧ mB (I 0) (A 0) (p + 2) = 108 ∧ mB (I 0) (A 0) (p + 3) = 101) ∧ r = some (.int (iZ 0)) ∧ σ' = σ))
        have b8 := mB_b ht (k := (p + 1)) (by omega)
        refine g_bipush (v := iZ 96) (q := 22) dX9_word_20 (by decide) rfl ?_
        refine z_isub (q := 23) dX9_word_22 rfl ?_
        refine z_i2l (q := 24) dX9_word_23 (by omega) rfl ?_
        refine g_lload_n (q := 25) dX9_word_24 rfl rfl ?_
        refine z_iconst (q := 26) dX9_word_25 rfl ?_
        refine g_iload_n (q := 27) dX9_word_26 rfl rfl ?_
        refine z_iconst (q := 28) dX9_word_27 rfl ?_
        refine z_isubc (c := 3) (q := 29) dX9_word_28 (by omega) rfl ?_
        refine g_iload (q := 31) dX9_word_29 rfl rfl ?_
        refine z_isubc (c := 2) (q := 32) dX9_word_31 (by omega) rfl ?_
        refine z_imulc (c := 10) (q := 33) dX9_word_32 (by omega) rfl ?_
        refine z_lshr (c := 271) (q := 34) dX9_word_33 (by decide +kernel) rfl ?_
        refine g_ldc2 (v := lZ 31) (q := 37) dX9_word_34 klX9_76 rfl ?_
        refine z_land (c := 15) (q := 38) dX9_word_37 (by decide +kernel) rfl ?_
        refine z_lcmp (q := 39) dX9_word_38 (by omega) rfl (fun pc9 => ?_)
        refine z_if_eq (t := 44) (q := 42) dX9_word_39 rfl (by omega) rfl (fun pc10 => ?_) (fun pc10 => ?_)
        · refine z_iincc (c := 2) (ml' := [some (.ref a), some (.long (lZ 277893)), none, some (.int (iZ 4)), some (.int (iZ 2))]) (q := 47) dX9_word_44 rfl (by omega) rfl rfl rfl ?_
          refine g_goto (q := 3) dX9_word_47 rfl ?_
          refine g_iload (q := 5) dX9_word_3 rfl rfl ?_
          refine g_iload_n (q := 6) dX9_word_5 rfl rfl ?_
          refine z_icmp_ge (t := 50) (q := 9) dX9_word_6 rfl (by omega) rfl (fun pc11 => ?_) (fun pc11 => ?_)
          · exfalso; omega
          · refine g_aload_n (q := 10) dX9_word_9 rfl rfl ?_
            refine g_aload_n (q := 11) dX9_word_10 rfl rfl ?_
            refine g_get (q := 14) flX9_65 dX9_word_11 m0 rfl rfl ?_
            refine g_iload (q := 16) dX9_word_14 rfl rfl ?_
            refine z_iadd (q := 17) dX9_word_16 rfl ?_
            have hN12 : rM a (nup I 1 p) A σ := ⟨m0, m1, m2, m3, m4, m5, m6, m7, m8, m9, m10, m11⟩
            refine g_callV (As := [.int (iZ (p + 2))]) (rest := []) (q := 20) moX9_byteAt lkX9_word_68 dX9_word_17 rfl m0 (r_M_byteAt σ a _ _ hN12 (p + 2) (by omega) hL) rfl rfl (Nat.le_of_ble_eq_true rfl) (Nat.le_of_ble_eq_true rfl) (Nat.le_of_ble_eq_true rfl) rfl ?_
            rintro r1 s1 hp
            rw [hp.1, hp.2]
            show Go w mX9_word (0, 0) 20 [some (.ref a), some (.long (lZ 277893)), none, some (.int (iZ 4)), some (.int (iZ 2))] [.int (iZ (mB (I 0) (A 0) (p + 2)))] σ (fun r σ' => ((mB (I 0) (A 0) p = 104 ∧ mB (I 0) (A 0) (p + 1) = 111 ∧ mB (I 0) (A 0) (p + 2) = 108 ∧ mB (I 0) (A 0) (p + 3) = 101) ∧ r = some (.int (iZ 1)) ∧ rM a (nup I 1 (p + 4)) A σ' ∧ g_Fr (mR a) σ σ') ∨ (¬ (mB (I 0) (A 0) p = 104 ∧ mB (I 0) (A 0) (p + 1) = 111 ∧ mB (I 0) (A 0) (p + 2) = 108 ∧ mB (I 0) (A 0) (p + 3) = 101) ∧ r = some (.int (iZ 0)) ∧ σ' = σ))
            have b13 := mB_b ht (k := (p + 2)) (by omega)
            refine g_bipush (v := iZ 96) (q := 22) dX9_word_20 (by decide) rfl ?_
            refine z_isub (q := 23) dX9_word_22 rfl ?_
            refine z_i2l (q := 24) dX9_word_23 (by omega) rfl ?_
            refine g_lload_n (q := 25) dX9_word_24 rfl rfl ?_
            refine z_iconst (q := 26) dX9_word_25 rfl ?_
            refine g_iload_n (q := 27) dX9_word_26 rfl rfl ?_
            refine z_iconst (q := 28) dX9_word_27 rfl ?_
            refine z_isubc (c := 3) (q := 29) dX9_word_28 (by omega) rfl ?_
            refine g_iload (q := 31) dX9_word_29 rfl rfl ?_
            refine z_isubc (c := 1) (q := 32) dX9_word_31 (by omega) rfl ?_
            refine z_imulc (c := 5) (q := 33) dX9_word_32 (by omega) rfl ?_
            refine z_lshr (c := 8684) (q := 34) dX9_word_33 (by decide +kernel) rfl ?_
            refine g_ldc2 (v := lZ 31) (q := 37) dX9_word_34 klX9_76 rfl ?_
            refine z_land (c := 12) (q := 38) dX9_word_37 (by decide +kernel) rfl ?_
            refine z_lcmp (q := 39) dX9_word_38 (by omega) rfl (fun pc14 => ?_)
            refine z_if_eq (t := 44) (q := 42) dX9_word_39 rfl (by omega) rfl (fun pc15 => ?_) (fun pc15 => ?_)
            · refine z_iincc (c := 3) (ml' := [some (.ref a), some (.long (lZ 277893)), none, some (.int (iZ 4)), some (.int (iZ 3))]) (q := 47) dX9_word_44 rfl (by omega) rfl rfl rfl ?_
              refine g_goto (q := 3) dX9_word_47 rfl ?_
              refine g_iload (q := 5) dX9_word_3 rfl rfl ?_
              refine g_iload_n (q := 6) dX9_word_5 rfl rfl ?_
              refine z_icmp_ge (t := 50) (q := 9) dX9_word_6 rfl (by omega) rfl (fun pc16 => ?_) (fun pc16 => ?_)
              · exfalso; omega
              · refine g_aload_n (q := 10) dX9_word_9 rfl rfl ?_
                refine g_aload_n (q := 11) dX9_word_10 rfl rfl ?_
                refine g_get (q := 14) flX9_65 dX9_word_11 m0 rfl rfl ?_
                refine g_iload (q := 16) dX9_word_14 rfl rfl ?_
                refine z_iadd (q := 17) dX9_word_16 rfl ?_
                have hN17 : rM a (nup I 1 p) A σ := ⟨m0, m1, m2, m3, m4, m5, m6, m7, m8, m9, m10, m11⟩
                refine g_callV (As := [.int (iZ (p + 3))]) (rest := []) (q := 20) moX9_byteAt lkX9_word_68 dX9_word_17 rfl m0 (r_M_byteAt σ a _ _ hN17 (p + 3) (by omega) hL) rfl rfl (Nat.le_of_ble_eq_true rfl) (Nat.le_of_ble_eq_true rfl) (Nat.le_of_ble_eq_true rfl) rfl ?_
                rintro r1 s1 hp
                rw [hp.1, hp.2]
                show Go w mX9_word (0, 0) 20 [some (.ref a), some (.long (lZ 277893)), none, some (.int (iZ 4)), some (.int (iZ 3))] [.int (iZ (mB (I 0) (A 0) (p + 3)))] σ (fun r σ' => ((mB (I 0) (A 0) p = 104 ∧ mB (I 0) (A 0) (p + 1) = 111 ∧ mB (I 0) (A 0) (p + 2) = 108 ∧ mB (I 0) (A 0) (p + 3) = 101) ∧ r = some (.int (iZ 1)) ∧ rM a (nup I 1 (p + 4)) A σ' ∧ g_Fr (mR a) σ σ') ∨ (¬ (mB (I 0) (A 0) p = 104 ∧ mB (I 0) (A 0) (p + 1) = 111 ∧ mB (I 0) (A 0) (p + 2) = 108 ∧ mB (I 0) (A 0) (p + 3) = 101) ∧ r = some (.int (iZ 0)) ∧ σ' = σ))
                have b18 := mB_b ht (k := (p + 3)) (by omega)
                refine g_bipush (v := iZ 96) (q := 22) dX9_word_20 (by decide) rfl ?_
                refine z_isub (q := 23) dX9_word_22 rfl ?_
                refine z_i2l (q := 24) dX9_word_23 (by omega) rfl ?_
                refine g_lload_n (q := 25) dX9_word_24 rfl rfl ?_
                refine z_iconst (q := 26) dX9_word_25 rfl ?_
                refine g_iload_n (q := 27) dX9_word_26 rfl rfl ?_
                refine z_iconst (q := 28) dX9_word_27 rfl ?_
                refine z_isubc (c := 3) (q := 29) dX9_word_28 (by omega) rfl ?_
                refine g_iload (q := 31) dX9_word_29 rfl rfl ?_
                refine z_isubc (c := 0) (q := 32) dX9_word_31 (by omega) rfl ?_
                refine z_imulc (c := 0) (q := 33) dX9_word_32 (by omega) rfl ?_
                refine z_lshr (c := 277893) (q := 34) dX9_word_33 (by decide +kernel) rfl ?_
                refine g_ldc2 (v := lZ 31) (q := 37) dX9_word_34 klX9_76 rfl ?_
                refine z_land (c := 5) (q := 38) dX9_word_37 (by decide +kernel) rfl ?_
                refine z_lcmp (q := 39) dX9_word_38 (by omega) rfl (fun pc19 => ?_)
                refine z_if_eq (t := 44) (q := 42) dX9_word_39 rfl (by omega) rfl (fun pc20 => ?_) (fun pc20 => ?_)
                · refine z_iincc (c := 4) (ml' := [some (.ref a), some (.long (lZ 277893)), none, some (.int (iZ 4)), some (.int (iZ 4))]) (q := 47) dX9_word_44 rfl (by omega) rfl rfl rfl ?_
                  refine g_goto (q := 3) dX9_word_47 rfl ?_
                  refine g_iload (q := 5) dX9_word_3 rfl rfl ?_
                  refine g_iload_n (q := 6) dX9_word_5 rfl rfl ?_
                  refine z_icmp_ge (t := 50) (q := 9) dX9_word_6 rfl (by omega) rfl (fun pc21 => ?_) (fun pc21 => ?_)
                  · refine g_aload_n (q := 51) dX9_word_50 rfl rfl ?_
                    refine g_dup (q := 52) dX9_word_51 rfl rfl ?_
                    refine g_get (q := 55) flX9_65 dX9_word_52 m0 rfl rfl ?_
                    refine g_iload_n (q := 56) dX9_word_55 rfl rfl ?_
                    refine z_iadd (q := 57) dX9_word_56 rfl ?_
                    refine z_put (fs' := [.int (iZ (I 0)), .ref (a + 1), .int (iZ (p + 4)), .ref (a + 2), .ref (a + 3), .ref (a + 4), .ref (a + 5), .int (iZ (I 2)), .ref (a + 6), .ref (a + 7), .ref (a + 8), .int (iZ (I 3)), .int (iZ (I 4)), .ref (a + 9), .ref (a + 10), .ref (a + 11)]) (q := 60) fpX9_65 dX9_word_57 m0 (Nat.le_of_ble_eq_true rfl) rfl rfl rfl rfl (fun σ22 c23 f24 => ?_)
                    have c25 := (f24.2 (a + 1) (by omega)).trans m1
                    have c26 := (f24.2 (a + 2) (by omega)).trans m2
                    have c27 := (f24.2 (a + 3) (by omega)).trans m3
                    have c28 := (f24.2 (a + 4) (by omega)).trans m4
                    have c29 := (f24.2 (a + 5) (by omega)).trans m5
                    have c30 := (f24.2 (a + 6) (by omega)).trans m6
                    have c31 := (f24.2 (a + 7) (by omega)).trans m7
                    have c32 := (f24.2 (a + 8) (by omega)).trans m8
                    have c33 := (f24.2 (a + 9) (by omega)).trans m9
                    have c34 := (f24.2 (a + 10) (by omega)).trans m10
                    have c35 := (f24.2 (a + 11) (by omega)).trans m11
                    refine z_iconst (q := 61) dX9_word_60 rfl ?_
                    refine z_zret dX9_word_61 rfl rfl ?_
                    exact Or.inl ⟨by omega, rfl, ⟨c23, c25, c26, c27, c28, c29, c30, c31, c32, c33, c34, c35⟩, (g_Fr.rf.step f24 ⟨by omega, by omega⟩)⟩
                  · exfalso; omega
                · refine z_iconst (q := 43) dX9_word_42 rfl ?_
                  refine z_zret dX9_word_43 rfl rfl ?_
                  exact Or.inr ⟨by omega, rfl, rfl⟩
            · refine z_iconst (q := 43) dX9_word_42 rfl ?_
              refine z_zret dX9_word_43 rfl rfl ?_
              exact Or.inr ⟨by omega, rfl, rfl⟩
        · refine z_iconst (q := 43) dX9_word_42 rfl ?_
          refine z_zret dX9_word_43 rfl rfl ?_
          exact Or.inr ⟨by omega, rfl, rfl⟩
    · refine z_iconst (q := 43) dX9_word_42 rfl ?_
      refine z_zret dX9_word_43 rfl rfl ?_
      exact Or.inr ⟨by omega, rfl, rfl⟩
theorem r_M_wv_clamp (σ : g_H0) : Ret mX9_word5 [.int (iZ 99), .int (iZ 108), .int (iZ 97), .int (iZ 109), .int (iZ 112)] σ (fun r σ' => r = some (.long (lZ 3540400)) ∧ σ' = σ) := by
  refine Ret.of moX9_word5.1 (Nat.le_of_ble_eq_true rfl) (fun w => ?_)
  show Go w mX9_word5 (0, 0) 0 [some (.int (iZ 99)), some (.int (iZ 108)), some (.int (iZ 97)), some (.int (iZ 109)), some (.int (iZ 112))] [] σ (fun r σ' => r = some (.long (lZ 3540400)) ∧ σ' = σ)
  refine g_iload_n (q := 1) dX9_word5_0 rfl rfl ?_
  refine z_i2l (q := 2) dX9_word5_1 (by omega) rfl ?_
  refine g_ldc2 (v := lZ 96) (q := 5) dX9_word5_2 klX9_78 rfl ?_
  refine z_lsubc (c := 3) (q := 6) dX9_word5_5 (by omega) rfl ?_
  refine g_ldc2 (v := lZ 32) (q := 9) dX9_word5_6 klX9_54 rfl ?_
  refine z_lmulc (c := 96) (q := 10) dX9_word5_9 (by omega) rfl ?_
  refine g_iload_n (q := 11) dX9_word5_10 rfl rfl ?_
  refine z_i2l (q := 12) dX9_word5_11 (by omega) rfl ?_
  refine z_laddc (c := 204) (q := 13) dX9_word5_12 (by omega) rfl ?_
  refine g_ldc2 (v := lZ 96) (q := 16) dX9_word5_13 klX9_78 rfl ?_
  refine z_lsubc (c := 108) (q := 17) dX9_word5_16 (by omega) rfl ?_
  refine g_ldc2 (v := lZ 32) (q := 20) dX9_word5_17 klX9_54 rfl ?_
  refine z_lmulc (c := 3456) (q := 21) dX9_word5_20 (by omega) rfl ?_
  refine g_iload_n (q := 22) dX9_word5_21 rfl rfl ?_
  refine z_i2l (q := 23) dX9_word5_22 (by omega) rfl ?_
  refine z_laddc (c := 3553) (q := 24) dX9_word5_23 (by omega) rfl ?_
  refine g_ldc2 (v := lZ 96) (q := 27) dX9_word5_24 klX9_78 rfl ?_
  refine z_lsubc (c := 3457) (q := 28) dX9_word5_27 (by omega) rfl ?_
  refine g_ldc2 (v := lZ 32) (q := 31) dX9_word5_28 klX9_54 rfl ?_
  refine z_lmulc (c := 110624) (q := 32) dX9_word5_31 (by omega) rfl ?_
  refine g_iload_n (q := 33) dX9_word5_32 rfl rfl ?_
  refine z_i2l (q := 34) dX9_word5_33 (by omega) rfl ?_
  refine z_laddc (c := 110733) (q := 35) dX9_word5_34 (by omega) rfl ?_
  refine g_ldc2 (v := lZ 96) (q := 38) dX9_word5_35 klX9_78 rfl ?_
  refine z_lsubc (c := 110637) (q := 39) dX9_word5_38 (by omega) rfl ?_
  refine g_ldc2 (v := lZ 32) (q := 42) dX9_word5_39 klX9_54 rfl ?_
  refine z_lmulc (c := 3540384) (q := 43) dX9_word5_42 (by omega) rfl ?_
  refine g_iload (q := 45) dX9_word5_43 rfl rfl ?_
  refine z_i2l (q := 46) dX9_word5_45 (by omega) rfl ?_
  refine z_laddc (c := 3540496) (q := 47) dX9_word5_46 (by omega) rfl ?_
  refine g_ldc2 (v := lZ 96) (q := 50) dX9_word5_47 klX9_78 rfl ?_
  refine z_lsubc (c := 3540400) (q := 51) dX9_word5_50 (by omega) rfl ?_
  refine g_lret dX9_word5_51 rfl (Nat.zero_le _) (Nat.zero_le _) ?_
  exact ⟨rfl, rfl⟩
theorem r_M_w_clamp (σ : g_H0) (a : Nat) (I : Nat → Int) (A : Nat → Int → Int) (p : Int) (bp : 0 ≤ p ∧ p < 100000) (hM : rM a (nup I 1 p) A σ) (hL : 0 ≤ I 0 ∧ I 0 ≤ 200) (ht : zBt (I 0) (A 0)) : Ret mX9_word [.ref a, .long (lZ 3540400), .int (iZ 5)] σ (fun r σ' => ((mB (I 0) (A 0) p = 99 ∧ mB (I 0) (A 0) (p + 1) = 108 ∧ mB (I 0) (A 0) (p + 2) = 97 ∧ mB (I 0) (A 0) (p + 3) = 109 ∧ mB (I 0) (A 0) (p + 4) = 112) ∧ r = some (.int (iZ 1)) ∧ rM a (nup I 1 (p + 5)) A σ' ∧ g_Fr (mR a) σ σ') ∨ (¬ (mB (I 0) (A 0) p = 99 ∧ mB (I 0) (A 0) (p + 1) = 108 ∧ mB (I 0) (A 0) (p + 2) = 97 ∧ mB (I 0) (A 0) (p + 3) = 109 ∧ mB (I 0) (A 0) (p + 4) = 112) ∧ r = some (.int (iZ 0)) ∧ σ' = σ)) := by
  refine Ret.of moX9_word.1 (Nat.le_of_ble_eq_true rfl) (fun w => ?_)
  obtain ⟨m0, m1, m2, m3, m4, m5, m6, m7, m8, m9, m10, m11⟩ := id hM
  have m0 : σ[a]? = some (.inr (9, [.int (iZ (I 0)), .ref (a + 1), .int (iZ p), .ref (a + 2), .ref (a + 3), .ref (a + 4), .ref (a + 5), .int (iZ (I 2)), .ref (a + 6), .ref (a + 7), .ref (a + 8), .int (iZ (I 3)), .int (iZ (I 4)), .ref (a + 9), .ref (a + 10), .ref (a + 11)])) := m0
  show Go w mX9_word (0, 0) 0 [some (.ref a), some (.long (lZ 3540400)), none, some (.int (iZ 5)), none] [] σ (fun r σ' => ((mB (I 0) (A 0) p = 99 ∧ mB (I 0) (A 0) (p + 1) = 108 ∧ mB (I 0) (A 0) (p + 2) = 97 ∧ mB (I 0) (A 0) (p + 3) = 109 ∧ mB (I 0) (A 0) (p + 4) = 112) ∧ r = some (.int (iZ 1)) ∧ rM a (nup I 1 (p + 5)) A σ' ∧ g_Fr (mR a) σ σ') ∨ (¬ (mB (I 0) (A 0) p = 99 ∧ mB (I 0) (A 0) (p + 1) = 108 ∧ mB (I 0) (A 0) (p + 2) = 97 ∧ mB (I 0) (A 0) (p + 3) = 109 ∧ mB (I 0) (A 0) (p + 4) = 112) ∧ r = some (.int (iZ 0)) ∧ σ' = σ))
  refine z_iconst (q := 1) dX9_word_0 rfl ?_
  refine g_istore (ml' := [some (.ref a), some (.long (lZ 3540400)), none, some (.int (iZ 5)), some (.int (iZ 0))]) (q := 3) dX9_word_1 rfl (Nat.le_of_ble_eq_true rfl) rfl rfl ?_
  refine g_iload (q := 5) dX9_word_3 rfl rfl ?_
  refine g_iload_n (q := 6) dX9_word_5 rfl rfl ?_
  refine z_icmp_ge (t := 50) (q := 9) dX9_word_6 rfl (by omega) rfl (fun pc1 => ?_) (fun pc1 => ?_)
  · exfalso; omega
  · refine g_aload_n (q := 10) dX9_word_9 rfl rfl ?_
    refine g_aload_n (q := 11) dX9_word_10 rfl rfl ?_
    refine g_get (q := 14) flX9_65 dX9_word_11 m0 rfl rfl ?_
    refine g_iload (q := 16) dX9_word_14 rfl rfl ?_
    refine z_iaddc (c := p) (q := 17) dX9_word_16 (by omega) rfl ?_
    have hN2 : rM a (nup I 1 p) A σ := ⟨m0, m1, m2, m3, m4, m5, m6, m7, m8, m9, m10, m11⟩
    refine g_callV (As := [.int (iZ p)]) (rest := []) (q := 20) moX9_byteAt lkX9_word_68 dX9_word_17 rfl m0 (r_M_byteAt σ a _ _ hN2 p (by omega) hL) rfl rfl (Nat.le_of_ble_eq_true rfl) (Nat.le_of_ble_eq_true rfl) (Nat.le_of_ble_eq_true rfl) rfl ?_
    rintro r1 s1 hp
    rw [hp.1, hp.2]
    show Go w mX9_word (0, 0) 20 [some (.ref a), some (.long (lZ 3540400)), none, some (.int (iZ 5)), some (.int (iZ 0))] [.int (iZ (mB (I 0) (A 0) p))] σ (fun r σ' => ((mB (I 0) (A 0) p = 99 ∧ mB (I 0) (A 0) (p + 1) = 108 ∧ mB (I 0) (A 0) (p + 2) = 97 ∧ mB (I 0) (A 0) (p + 3) = 109 ∧ mB (I 0) (A 0) (p + 4) = 112) ∧ r = some (.int (iZ 1)) ∧ rM a (nup I 1 (p + 5)) A σ' ∧ g_Fr (mR a) σ σ') ∨ (¬ (mB (I 0) (A 0) p = 99 ∧ mB (I 0) (A 0) (p + 1) = 108 ∧ mB (I 0) (A 0) (p + 2) = 97 ∧ mB (I 0) (A 0) (p + 3) = 109 ∧ mB (I 0) (A 0) (p + 4) = 112) ∧ r = some (.int (iZ 0)) ∧ σ' = σ))
    have b3 := mB_b ht (k := p) (by omega)
    refine g_bipush (v := iZ 96) (q := 22) dX9_word_20 (by decide) rfl ?_
    refine z_isub (q := 23) dX9_word_22 rfl ?_
    refine z_i2l (q := 24) dX9_word_23 (by omega) rfl ?_
    refine g_lload_n (q := 25) dX9_word_24 rfl rfl ?_
    refine z_iconst (q := 26) dX9_word_25 rfl ?_
    refine g_iload_n (q := 27) dX9_word_26 rfl rfl ?_
    refine z_iconst (q := 28) dX9_word_27 rfl ?_
    refine z_isubc (c := 4) (q := 29) dX9_word_28 (by omega) rfl ?_
    refine g_iload (q := 31) dX9_word_29 rfl rfl ?_
    refine z_isubc (c := 4) (q := 32) dX9_word_31 (by omega) rfl ?_
    refine z_imulc (c := 20) (q := 33) dX9_word_32 (by omega) rfl ?_
    refine z_lshr (c := 3) (q := 34) dX9_word_33 (by decide +kernel) rfl ?_
    refine g_ldc2 (v := lZ 31) (q := 37) dX9_word_34 klX9_76 rfl ?_
    refine z_land (c := 3) (q := 38) dX9_word_37 (by decide +kernel) rfl ?_
    refine z_lcmp (q := 39) dX9_word_38 (by omega) rfl (fun pc4 => ?_)
    refine z_if_eq (t := 44) (q := 42) dX9_word_39 rfl (by omega) rfl (fun pc5 => ?_) (fun pc5 => ?_)
    · refine z_iincc (c := 1) (ml' := [some (.ref a), some (.long (lZ 3540400)), none, some (.int (iZ 5)), some (.int (iZ 1))]) (q := 47) dX9_word_44 rfl (by omega) rfl rfl rfl ?_
      refine g_goto (q := 3) dX9_word_47 rfl ?_
      refine g_iload (q := 5) dX9_word_3 rfl rfl ?_
      refine g_iload_n (q := 6) dX9_word_5 rfl rfl ?_
      refine z_icmp_ge (t := 50) (q := 9) dX9_word_6 rfl (by omega) rfl (fun pc6 => ?_) (fun pc6 => ?_)
      · exfalso; omega
      · refine g_aload_n (q := 10) dX9_word_9 rfl rfl ?_
        refine g_aload_n (q := 11) dX9_word_10 rfl rfl ?_
        refine g_get (q := 14) flX9_65 dX9_word_11 m0 rfl rfl ?_
        refine g_iload (q := 16) dX9_word_14 rfl rfl ?_
        refine z_iadd (q := 17) dX9_word_16 rfl ?_
        have hN7 : rM a (nup I 1 p) A σ := ⟨m0, m1, m2, m3, m4, m5, m6, m7, m8, m9, m10, m11⟩
        refine g_callV (As := [.int (iZ (p + 1))]) (rest := []) (q := 20) moX9_byteAt lkX9_word_68 dX9_word_17 rfl m0 (r_M_byteAt σ a _ _ hN7 (p + 1) (by omega) hL) rfl rfl (Nat.le_of_ble_eq_true rfl) (Nat.le_of_ble_eq_true rfl) (Nat.le_of_ble_eq_true rfl) rfl ?_
        rintro r1 s1 hp
        rw [hp.1, hp.2]
        show Go w mX9_word (0, 0) 20 [some (.ref a), some (.long (lZ 3540400)), none, some (.int (iZ 5)), some (.int (iZ 1))] [.int (iZ (mB (I 0) (A 0) (p + 1)))] σ (fun r σ' => ((mB (I 0) (A 0) p = 99 ∧ mB (I 0) (A 0) (p + 1) = 108 ∧ mB (I 0) (A 0) (p + 2) = 97 ∧ mB (I 0) (A 0) (p + 3) = 109 ∧ mB (I 0) (A 0) (p + 4) = 112) ∧ r = some (.int (iZ 1)) ∧ rM a (nup I 1 (p + 5)) A σ' ∧ g_Fr (mR a) σ σ') ∨ (¬ (mB (I 0) (A 0) p = 99 ∧ mB (I 0) (A 0) (p + 1) = 108 ∧ mB (I 0) (A 0) (p + 2) = 97 ∧ mB (I 0) (A 0) (p + 3) = 109 ∧ mB (I 0) (A 0) (p + 4) = 112) ∧ r = some (.int (iZ 0)) ∧ σ' = σ))
        have b8 := mB_b ht (k := (p + 1)) (by omega)
        refine g_bipush (v := iZ 96) (q := 22) dX9_word_20 (by decide) rfl ?_
        refine z_isub (q := 23) dX9_word_22 rfl ?_
        refine z_i2l (q := 24) dX9_word_23 (by omega) rfl ?_
        refine g_lload_n (q := 25) dX9_word_24 rfl rfl ?_
        refine z_iconst (q := 26) dX9_word_25 rfl ?_
        refine g_iload_n (q := 27) dX9_word_26 rfl rfl ?_
        refine z_iconst (q := 28) dX9_word_27 rfl ?_
        refine z_isubc (c := 4) (q := 29) dX9_word_28 (by omega) rfl ?_
        refine g_iload (q := 31) dX9_word_29 rfl rfl ?_
        refine z_isubc (c := 3) (q := 32) dX9_word_31 (by omega) rfl ?_
        refine z_imulc (c := 15) (q := 33) dX9_word_32 (by omega) rfl ?_
        refine z_lshr (c := 108) (q := 34) dX9_word_33 (by decide +kernel) rfl ?_
        refine g_ldc2 (v := lZ 31) (q := 37) dX9_word_34 klX9_76 rfl ?_
        refine z_land (c := 12) (q := 38) dX9_word_37 (by decide +kernel) rfl ?_
        refine z_lcmp (q := 39) dX9_word_38 (by omega) rfl (fun pc9 => ?_)
        refine z_if_eq (t := 44) (q := 42) dX9_word_39 rfl (by omega) rfl (fun pc10 => ?_) (fun pc10 => ?_)
        · refine z_iincc (c := 2) (ml' := [some (.ref a), some (.long (lZ 3540400)), none, some (.int (iZ 5)), some (.int (iZ 2))]) (q := 47) dX9_word_44 rfl (by omega) rfl rfl rfl ?_
          refine g_goto (q := 3) dX9_word_47 rfl ?_
          refine g_iload (q := 5) dX9_word_3 rfl rfl ?_
          refine g_iload_n (q := 6) dX9_word_5 rfl rfl ?_
          refine z_icmp_ge (t := 50) (q := 9) dX9_word_6 rfl (by omega) rfl (fun pc11 => ?_) (fun pc11 => ?_)
          · exfalso; omega
          · refine g_aload_n (q := 10) dX9_word_9 rfl rfl ?_
            refine g_aload_n (q := 11) dX9_word_10 rfl rfl ?_
            refine g_get (q := 14) flX9_65 dX9_word_11 m0 rfl rfl ?_
            refine g_iload (q := 16) dX9_word_14 rfl rfl ?_
            refine z_iadd (q := 17) dX9_word_16 rfl ?_
            have hN12 : rM a (nup I 1 p) A σ := ⟨m0, m1, m2, m3, m4, m5, m6, m7, m8, m9, m10, m11⟩
            refine g_callV (As := [.int (iZ (p + 2))]) (rest := []) (q := 20) moX9_byteAt lkX9_word_68 dX9_word_17 rfl m0 (r_M_byteAt σ a _ _ hN12 (p + 2) (by omega) hL) rfl rfl (Nat.le_of_ble_eq_true rfl) (Nat.le_of_ble_eq_true rfl) (Nat.le_of_ble_eq_true rfl) rfl ?_
            rintro r1 s1 hp
            rw [hp.1, hp.2]
            show Go w mX9_word (0, 0) 20 [some (.ref a), some (.long (lZ 3540400)), none, some (.int (iZ 5)), some (.int (iZ 2))] [.int (iZ (mB (I 0) (A 0) (p + 2)))] σ (fun r σ' => ((mB (I 0) (A 0) p = 99 ∧ mB (I 0) (A 0) (p + 1) = 108 ∧ mB (I 0) (A 0) (p + 2) = 97 ∧ mB (I 0) (A 0) (p + 3) = 109 ∧ mB (I 0) (A 0) (p + 4) = 112) ∧ r = some (.int (iZ 1)) ∧ rM a (nup I 1 (p + 5)) A σ' ∧ g_Fr (mR a) σ σ') ∨ (¬ (mB (I 0) (A 0) p = 99 ∧ mB (I 0) (A 0) (p + 1) = 108 ∧ mB (I 0) (A 0) (p + 2) = 97 ∧ mB (I 0) (A 0) (p + 3) = 109 ∧ mB (I 0) (A 0) (p + 4) = 112) ∧ r = some (.int (iZ 0)) ∧ σ' = σ))
            have b13 := mB_b ht (k := (p + 2)) (by omega)
            refine g_bipush (v := iZ 96) (q := 22) dX9_word_20 (by decide) rfl ?_
            refine z_isub (q := 23) dX9_word_22 rfl ?_
            refine z_i2l (q := 24) dX9_word_23 (by omega) rfl ?_
            refine g_lload_n (q := 25) dX9_word_24 rfl rfl ?_
            refine z_iconst (q := 26) dX9_word_25 rfl ?_
            refine g_iload_n (q := 27) dX9_word_26 rfl rfl ?_
            refine z_iconst (q := 28) dX9_word_27 rfl ?_
            refine z_isubc (c := 4) (q := 29) dX9_word_28 (by omega) rfl ?_
            refine g_iload (q := 31) dX9_word_29 rfl rfl ?_
            refine z_isubc (c := 2) (q := 32) dX9_word_31 (by omega) rfl ?_
            refine z_imulc (c := 10) (q := 33) dX9_word_32 (by omega) rfl ?_
            refine z_lshr (c := 3457) (q := 34) dX9_word_33 (by decide +kernel) rfl ?_
            refine g_ldc2 (v := lZ 31) (q := 37) dX9_word_34 klX9_76 rfl ?_
            refine z_land (c := 1) (q := 38) dX9_word_37 (by decide +kernel) rfl ?_
            refine z_lcmp (q := 39) dX9_word_38 (by omega) rfl (fun pc14 => ?_)
            refine z_if_eq (t := 44) (q := 42) dX9_word_39 rfl (by omega) rfl (fun pc15 => ?_) (fun pc15 => ?_)
            · refine z_iincc (c := 3) (ml' := [some (.ref a), some (.long (lZ 3540400)), none, some (.int (iZ 5)), some (.int (iZ 3))]) (q := 47) dX9_word_44 rfl (by omega) rfl rfl rfl ?_
              refine g_goto (q := 3) dX9_word_47 rfl ?_
              refine g_iload (q := 5) dX9_word_3 rfl rfl ?_
              refine g_iload_n (q := 6) dX9_word_5 rfl rfl ?_
              refine z_icmp_ge (t := 50) (q := 9) dX9_word_6 rfl (by omega) rfl (fun pc16 => ?_) (fun pc16 => ?_)
              · exfalso; omega
              · refine g_aload_n (q := 10) dX9_word_9 rfl rfl ?_
                refine g_aload_n (q := 11) dX9_word_10 rfl rfl ?_
                refine g_get (q := 14) flX9_65 dX9_word_11 m0 rfl rfl ?_
                refine g_iload (q := 16) dX9_word_14 rfl rfl ?_
                refine z_iadd (q := 17) dX9_word_16 rfl ?_
                have hN17 : rM a (nup I 1 p) A σ := ⟨m0, m1, m2, m3, m4, m5, m6, m7, m8, m9, m10, m11⟩
                refine g_callV (As := [.int (iZ (p + 3))]) (rest := []) (q := 20) moX9_byteAt lkX9_word_68 dX9_word_17 rfl m0 (r_M_byteAt σ a _ _ hN17 (p + 3) (by omega) hL) rfl rfl (Nat.le_of_ble_eq_true rfl) (Nat.le_of_ble_eq_true rfl) (Nat.le_of_ble_eq_true rfl) rfl ?_
                rintro r1 s1 hp
                rw [hp.1, hp.2]
                show Go w mX9_word (0, 0) 20 [some (.ref a), some (.long (lZ 3540400)), none, some (.int (iZ 5)), some (.int (iZ 3))] [.int (iZ (mB (I 0) (A 0) (p + 3)))] σ (fun r σ' => ((mB (I 0) (A 0) p = 99 ∧ mB (I 0) (A 0) (p + 1) = 108 ∧ mB (I 0) (A 0) (p + 2) = 97 ∧ mB (I 0) (A 0) (p + 3) = 109 ∧ mB (I 0) (A 0) (p + 4) = 112) ∧ r = some (.int (iZ 1)) ∧ rM a (nup I 1 (p + 5)) A σ' ∧ g_Fr (mR a) σ σ') ∨ (¬ (mB (I 0) (A 0) p = 99 ∧ mB (I 0) (A 0) (p + 1) = 108 ∧ mB (I 0) (A 0) (p + 2) = 97 ∧ mB (I 0) (A 0) (p + 3) = 109 ∧ mB (I 0) (A 0) (p + 4) = 112) ∧ r = some (.int (iZ 0)) ∧ σ' = σ))
                have b18 := mB_b ht (k := (p + 3)) (by omega)
                refine g_bipush (v := iZ 96) (q := 22) dX9_word_20 (by decide) rfl ?_
                refine z_isub (q := 23) dX9_word_22 rfl ?_
                refine z_i2l (q := 24) dX9_word_23 (by omega) rfl ?_
                refine g_lload_n (q := 25) dX9_word_24 rfl rfl ?_
                refine z_iconst (q := 26) dX9_word_25 rfl ?_
                refine g_iload_n (q := 27) dX9_word_26 rfl rfl ?_
                refine z_iconst (q := 28) dX9_word_27 rfl ?_
                refine z_isubc (c := 4) (q := 29) dX9_word_28 (by omega) rfl ?_
                refine g_iload (q := 31) dX9_word_29 rfl rfl ?_
                refine z_isubc (c := 1) (q := 32) dX9_word_31 (by omega) rfl ?_
                refine z_imulc (c := 5) (q := 33) dX9_word_32 (by omega) rfl ?_
                refine z_lshr (c := 110637) (q := 34) dX9_word_33 (by decide +kernel) rfl ?_
                refine g_ldc2 (v := lZ 31) (q := 37) dX9_word_34 klX9_76 rfl ?_
                refine z_land (c := 13) (q := 38) dX9_word_37 (by decide +kernel) rfl ?_
                refine z_lcmp (q := 39) dX9_word_38 (by omega) rfl (fun pc19 => ?_)
                refine z_if_eq (t := 44) (q := 42) dX9_word_39 rfl (by omega) rfl (fun pc20 => ?_) (fun pc20 => ?_)
                · refine z_iincc (c := 4) (ml' := [some (.ref a), some (.long (lZ 3540400)), none, some (.int (iZ 5)), some (.int (iZ 4))]) (q := 47) dX9_word_44 rfl (by omega) rfl rfl rfl ?_
                  refine g_goto (q := 3) dX9_word_47 rfl ?_
                  refine g_iload (q := 5) dX9_word_3 rfl rfl ?_
                  refine g_iload_n (q := 6) dX9_word_5 rfl rfl ?_
                  refine z_icmp_ge (t := 50) (q := 9) dX9_word_6 rfl (by omega) rfl (fun pc21 => ?_) (fun pc21 => ?_)
                  · exfalso; omega
                  · refine g_aload_n (q := 10) dX9_word_9 rfl rfl ?_
                    refine g_aload_n (q := 11) dX9_word_10 rfl rfl ?_
                    refine g_get (q := 14) flX9_65 dX9_word_11 m0 rfl rfl ?_
                    refine g_iload (q := 16) dX9_word_14 rfl rfl ?_
                    refine z_iadd (q := 17) dX9_word_16 rfl ?_
                    have hN22 : rM a (nup I 1 p) A σ := ⟨m0, m1, m2, m3, m4, m5, m6, m7, m8, m9, m10, m11⟩
                    refine g_callV (As := [.int (iZ (p + 4))]) (rest := []) (q := 20) moX9_byteAt lkX9_word_68 dX9_word_17 rfl m0 (r_M_byteAt σ a _ _ hN22 (p + 4) (by omega) hL) rfl rfl (Nat.le_of_ble_eq_true rfl) (Nat.le_of_ble_eq_true rfl) (Nat.le_of_ble_eq_true rfl) rfl ?_
                    rintro r1 s1 hp
                    rw [hp.1, hp.2]
                    show Go w mX9_word (0, 0) 20 [some (.ref a), some (.long (lZ 3540400)), none, some (.int (iZ 5)), some (.int (iZ 4))] [.int (iZ (mB (I 0) (A 0) (p + 4)))] σ (fun r σ' => ((mB (I 0) (A 0) p = 99 ∧ mB (I 0) (A 0) (p + 1) = 108 ∧ mB (I 0) (A 0) (p + 2) = 97 ∧ mB (I 0) (A 0) (p + 3) = 109 ∧ mB (I 0) (A 0) (p + 4) = 112) ∧ r = some (.int (iZ 1)) ∧ rM a (nup I 1 (p + 5)) A σ' ∧ g_Fr (mR a) σ σ') ∨ (¬ (mB (I 0) (A 0) p = 99 ∧ mB (I 0) (A 0) (p + 1) = 108 ∧ mB (I 0) (A 0) (p + 2) = 97 ∧ mB (I 0) (A 0) (p + 3) = 109 ∧ mB (I 0) (A 0) (p + 4) = 112) ∧ r = some (.int (iZ 0)) ∧ σ' = σ))
                    have b23 := mB_b ht (k := (p + 4)) (by omega)
                    refine g_bipush (v := iZ 96) (q := 22) dX9_word_20 (by decide) rfl ?_
                    refine z_isub (q := 23) dX9_word_22 rfl ?_
                    refine z_i2l (q := 24) dX9_word_23 (by omega) rfl ?_
                    refine g_lload_n (q := 25) dX9_word_24 rfl rfl ?_
                    refine z_iconst (q := 26) dX9_word_25 rfl ?_
                    refine g_iload_n (q := 27) dX9_word_26 rfl rfl ?_
                    refine z_iconst (q := 28) dX9_word_27 rfl ?_
                    refine z_isubc (c := 4) (q := 29) dX9_word_28 (by omega) rfl ?_
                    refine g_iload (q := 31) dX9_word_29 rfl rfl ?_
                    refine z_isubc (c := 0) (q := 32) dX9_word_31 (by omega) rfl ?_
                    refine z_imulc (c := 0) (q := 33) dX9_word_32 (by omega) rfl ?_
                    refine z_lshr (c := 3540400) (q := 34) dX9_word_33 (by decide +kernel) rfl ?_
                    refine g_ldc2 (v := lZ 31) (q := 37) dX9_word_34 klX9_76 rfl ?_
                    refine z_land (c := 16) (q := 38) dX9_word_37 (by decide +kernel) rfl ?_
                    refine z_lcmp (q := 39) dX9_word_38 (by omega) rfl (fun pc24 => ?_)
                    refine z_if_eq (t := 44) (q := 42) dX9_word_39 rfl (by omega) rfl (fun pc25 => ?_) (fun pc25 => ?_)
                    · refine z_iincc (c := 5) (ml' := [some (.ref a), some (.long (lZ 3540400)), none, some (.int (iZ 5)), some (.int (iZ 5))]) (q := 47) dX9_word_44 rfl (by omega) rfl rfl rfl ?_
                      refine g_goto (q := 3) dX9_word_47 rfl ?_
                      refine g_iload (q := 5) dX9_word_3 rfl rfl ?_
                      refine g_iload_n (q := 6) dX9_word_5 rfl rfl ?_
                      refine z_icmp_ge (t := 50) (q := 9) dX9_word_6 rfl (by omega) rfl (fun pc26 => ?_) (fun pc26 => ?_)
                      · refine g_aload_n (q := 51) dX9_word_50 rfl rfl ?_
                        refine g_dup (q := 52) dX9_word_51 rfl rfl ?_
                        refine g_get (q := 55) flX9_65 dX9_word_52 m0 rfl rfl ?_
                        refine g_iload_n (q := 56) dX9_word_55 rfl rfl ?_
                        refine z_iadd (q := 57) dX9_word_56 rfl ?_
                        refine z_put (fs' := [.int (iZ (I 0)), .ref (a + 1), .int (iZ (p + 5)), .ref (a + 2), .ref (a + 3), .ref (a + 4), .ref (a + 5), .int (iZ (I 2)), .ref (a + 6), .ref (a + 7), .ref (a + 8), .int (iZ (I 3)), .int (iZ (I 4)), .ref (a + 9), .ref (a + 10), .ref (a + 11)]) (q := 60) fpX9_65 dX9_word_57 m0 (Nat.le_of_ble_eq_true rfl) rfl rfl rfl rfl (fun σ27 c28 f29 => ?_)
                        have c30 := (f29.2 (a + 1) (by omega)).trans m1
                        have c31 := (f29.2 (a + 2) (by omega)).trans m2
                        have c32 := (f29.2 (a + 3) (by omega)).trans m3
                        have c33 := (f29.2 (a + 4) (by omega)).trans m4
                        have c34 := (f29.2 (a + 5) (by omega)).trans m5
                        have c35 := (f29.2 (a + 6) (by omega)).trans m6
                        have c36 := (f29.2 (a + 7) (by omega)).trans m7
                        have c37 := (f29.2 (a + 8) (by omega)).trans m8
                        have c38 := (f29.2 (a + 9) (by omega)).trans m9
                        have c39 := (f29.2 (a + 10) (by omega)).trans m10
                        have c40 := (f29.2 (a + 11) (by omega)).trans m11
                        refine z_iconst (q := 61) dX9_word_60 rfl ?_
                        refine z_zret dX9_word_61 rfl rfl ?_
                        exact Or.inl ⟨by omega, rfl, ⟨c28, c30, c31, c32, c33, c34, c35, c36, c37, c38, c39, c40⟩, (g_Fr.rf.step f29 ⟨by omega, by omega⟩)⟩
                      · exfalso; omega
                    · refine z_iconst (q := 43) dX9_word_42 rfl ?_
                      refine z_zret dX9_word_43 rfl rfl ?_
                      exact Or.inr ⟨by omega, rfl, rfl⟩
                · refine z_iconst (q := 43) dX9_word_42 rfl ?_
                  refine z_zret dX9_word_43 rfl rfl ?_
                  exact Or.inr ⟨by omega, rfl, rfl⟩
            · refine z_iconst (q := 43) dX9_word_42 rfl ?_
              refine z_zret dX9_word_43 rfl rfl ?_
              exact Or.inr ⟨by omega, rfl, rfl⟩
        · refine z_iconst (q := 43) dX9_word_42 rfl ?_
          refine z_zret dX9_word_43 rfl rfl ?_
          exact Or.inr ⟨by omega, rfl, rfl⟩
    · refine z_iconst (q := 43) dX9_word_42 rfl ?_
      refine z_zret dX9_word_43 rfl rfl ?_
      exact Or.inr ⟨by omega, rfl, rfl⟩
def zBr (t : Int → Int) : Prop := ∀ k, 0 ≤ k → k < 51 → -1000 ≤ t k ∧ t k ≤ 1000
theorem zBr.up {t : Int → Int} (h : zBr t) (i : Int) {x : Int} (hx : -1000 ≤ x ∧ x ≤ 1000) : zBr (zup t i x) := by
  intro k k0 k1
  unfold zup
  split
  · exact hx
  · exact h k k0 k1
def mAp (R : Int → Int) (h o : Int) : Int := if R (4 * h + 29) + R (4 * h + 31) ≤ R (4 * o + 29) ∨ R (4 * o + 29) + R (4 * o + 31) ≤ R (4 * h + 29) ∨ R (4 * h + 30) + R (4 * h + 32) ≤ R (4 * o + 30) ∨ R (4 * o + 30) + R (4 * o + 32) ≤ R (4 * h + 30) then 1 else 0
def mApF (R : Int → Int) (h : Int) : Nat → Int → Int → Int
  | 0, _, l => l
  | n + 1, o, l => if l = 0 then 0 else mApF R h n (o + 1) (mAp R h o)
def mSeq1 (r : Int × Int × (Int → Int)) (k : Int → (Int → Int) → Int × Int × (Int → Int)) : Int × Int × (Int → Int) := if r.1 = 0 then (0, r.2.1, r.2.2) else k r.2.1 r.2.2
theorem mSeq1_t {a p : Int} {R : Int → Int} {k : Int → (Int → Int) → Int × Int × (Int → Int)} (h : a ≠ 0) : mSeq1 (a, p, R) k = k p R := if_neg h
theorem mSeq1_f {a p : Int} {R : Int → Int} {k : Int → (Int → Int) → Int × Int × (Int → Int)} (h : a = 0) : mSeq1 (a, p, R) k = (0, p, R) := if_pos h
def mHoleI (L : Int) (t : Int → Int) (p : Int) (R : Int → Int) : Int × Int × (Int → Int) :=
  if R 3 = 5 then (0, p, R) else
  mSeq1 (mNumber L t p (zup R 3 (R 3 + 1)) 32 (4 * R 3 + 29) 0 (zup R 3 (R 3 + 1) 0 - 1)) (fun p1 R1 =>
  mSeq1 (mNumber L t p1 R1 44 (4 * R 3 + 30) 0 (R1 1 - 1)) (fun p2 R2 =>
  mSeq1 (mNumber L t p2 R2 44 (4 * R 3 + 31) 1 (R2 0 - R2 (4 * R 3 + 29))) (fun p3 R3 =>
  mSeq1 (mNumber L t p3 R3 44 (4 * R 3 + 32) 1 (R3 1 - R3 (4 * R 3 + 30))) (fun p4 R4 => (mApF R4 (R 3) (R 3).toNat 0 1, p4, R4)))))
def mItem (L : Int) (t : Int → Int) (p : Int) (R : Int → Int) : Int × Int × (Int → Int) :=
  if mB L t p = 115 ∧ mB L t (p + 1) = 104 ∧ mB L t (p + 2) = 101 ∧ mB L t (p + 3) = 101 ∧ mB L t (p + 4) = 116 then
    (if R 0 ≠ 0 then (0, p + 5, R) else mSeq1 (mNumber L t (p + 5) R 32 0 3 12) (fun p1 R1 => mSeq1 (mNumber L t p1 R1 44 1 3 12) (fun p2 R2 => (1, p2, R2))))
  else if R 0 = 0 then (0, p, R)
  else if mB L t p = 116 ∧ mB L t (p + 1) = 111 ∧ mB L t (p + 2) = 111 ∧ mB L t (p + 3) = 108 then
    (if 7 ≤ R 2 + 1 then (0, p + 4, zup R 2 (R 2 + 1)) else
    mSeq1 (mNumber L t (p + 4) (zup R 2 (R 2 + 1)) 32 (4 * R 2 + 5) 1 6) (fun p1 R1 => mSeq1 (mNumber L t p1 R1 44 (4 * R 2 + 6) 1 6) (fun p2 R2 => mSeq1 (mNumber L t p2 R2 44 (4 * R 2 + 7) 0 1) (fun p3 R3 => mSeq1 (mNumber L t p3 R3 44 (4 * R 2 + 8) 1 99) (fun p4 R4 => (1, p4, R4))))))
  else if mB L t p = 104 ∧ mB L t (p + 1) = 111 ∧ mB L t (p + 2) = 108 ∧ mB L t (p + 3) = 101 then mHoleI L t (p + 4) R
  else if mB L t p = 99 ∧ mB L t (p + 1) = 108 ∧ mB L t (p + 2) = 97 ∧ mB L t (p + 3) = 109 ∧ mB L t (p + 4) = 112 then
    (if 3 ≤ R 4 + 1 then (0, p + 5, zup R 4 (R 4 + 1)) else
    mSeq1 (mNumber L t (p + 5) (zup R 4 (R 4 + 1)) 32 (R 4 + 49) 0 (zup R 4 (R 4 + 1) 0 - 2)) (fun p1 R1 => (if R 4 = 0 ∨ 1 < R1 50 - R1 49 ∨ 1 < R1 49 - R1 50 then 1 else 0, p1, R1)))
  else (0, p, R)
theorem r_M_isApart (σ : g_H0) (a : Nat) (I : Nat → Int) (A : Nat → Int → Int) (hM : rM a I A σ) (h o : Int) (bh : 0 ≤ h ∧ h < 5) (bo : 0 ≤ o ∧ o < 5) (bR : zBr (A 2)) : Ret mX9_isApart [.ref a, .int (iZ h), .int (iZ o)] σ (fun r σ' => r = some (.int (iZ (mAp (A 2) h o))) ∧ σ' = σ) := by
  refine Ret.of moX9_isApart.1 (Nat.le_of_ble_eq_true rfl) (fun w => ?_)
  obtain ⟨m0, m1, m2, m3, m4, m5, m6, m7, m8, m9, m10, m11⟩ := id hM
  show Go w mX9_isApart (0, 0) 0 [some (.ref a), some (.int (iZ h)), some (.int (iZ o)), none, none] [] σ (fun r σ' => r = some (.int (iZ (mAp (A 2) h o))) ∧ σ' = σ)
  refine g_bipush (v := iZ 29) (q := 2) dX9_isApart_0 (by decide) rfl ?_
  refine z_iconst (q := 3) dX9_isApart_2 rfl ?_
  refine g_iload_n (q := 4) dX9_isApart_3 rfl rfl ?_
  refine z_imul (q := 5) dX9_isApart_4 rfl ?_
  refine z_iaddc (c := (4 * h + 29)) (q := 6) dX9_isApart_5 (by omega) rfl ?_
  refine g_istore_n (ml' := [some (.ref a), some (.int (iZ h)), some (.int (iZ o)), some (.int (iZ (4 * h + 29))), none]) (q := 7) dX9_isApart_6 rfl (Nat.le_of_ble_eq_true rfl) rfl rfl ?_
  refine g_bipush (v := iZ 29) (q := 9) dX9_isApart_7 (by decide) rfl ?_
  refine z_iconst (q := 10) dX9_isApart_9 rfl ?_
  refine g_iload_n (q := 11) dX9_isApart_10 rfl rfl ?_
  refine z_imul (q := 12) dX9_isApart_11 rfl ?_
  refine z_iaddc (c := (4 * o + 29)) (q := 13) dX9_isApart_12 (by omega) rfl ?_
  refine g_istore (ml' := [some (.ref a), some (.int (iZ h)), some (.int (iZ o)), some (.int (iZ (4 * h + 29))), some (.int (iZ (4 * o + 29)))]) (q := 15) dX9_isApart_13 rfl (Nat.le_of_ble_eq_true rfl) rfl rfl ?_
  refine g_aload_n (q := 16) dX9_isApart_15 rfl rfl ?_
  refine g_get (q := 19) flX9_16 dX9_isApart_16 m0 rfl rfl ?_
  refine g_iload_n (q := 20) dX9_isApart_19 rfl rfl ?_
  refine z_iald (q := 21) dX9_isApart_20 m3 (by omega) rfl ?_
  have b1 := bR (4 * h + 29)
  refine g_aload_n (q := 22) dX9_isApart_21 rfl rfl ?_
  refine g_get (q := 25) flX9_16 dX9_isApart_22 m0 rfl rfl ?_
  refine g_iload_n (q := 26) dX9_isApart_25 rfl rfl ?_
  refine z_iconst (q := 27) dX9_isApart_26 rfl ?_
  refine z_iaddc (c := (4 * h + 31)) (q := 28) dX9_isApart_27 (by omega) rfl ?_
  refine z_iald (q := 29) dX9_isApart_28 m3 (by omega) rfl ?_
  have b2 := bR (4 * h + 31)
  refine z_iadd (q := 30) dX9_isApart_29 rfl ?_
  refine g_aload_n (q := 31) dX9_isApart_30 rfl rfl ?_
  refine g_get (q := 34) flX9_16 dX9_isApart_31 m0 rfl rfl ?_
  refine g_iload (q := 36) dX9_isApart_34 rfl rfl ?_
  refine z_iald (q := 37) dX9_isApart_36 m3 (by omega) rfl ?_
  have b3 := bR (4 * o + 29)
  refine z_icmp_le (t := 125) (q := 40) dX9_isApart_37 rfl (by omega) rfl (fun pc4 => ?_) (fun pc4 => ?_)
  · refine z_iconst (q := 126) dX9_isApart_125 rfl ?_
    refine g_goto (q := 130) dX9_isApart_126 rfl ?_
    refine z_zret dX9_isApart_130 rfl rfl ?_
    exact ⟨congrArg (fun z => some (Value.int (iZ z))) (by unfold mAp; omega), rfl⟩
  · refine g_aload_n (q := 41) dX9_isApart_40 rfl rfl ?_
    refine g_get (q := 44) flX9_16 dX9_isApart_41 m0 rfl rfl ?_
    refine g_iload (q := 46) dX9_isApart_44 rfl rfl ?_
    refine z_iald (q := 47) dX9_isApart_46 m3 (by omega) rfl ?_
    have b5 := bR (4 * o + 29)
    refine g_aload_n (q := 48) dX9_isApart_47 rfl rfl ?_
    refine g_get (q := 51) flX9_16 dX9_isApart_48 m0 rfl rfl ?_
    refine g_iload (q := 53) dX9_isApart_51 rfl rfl ?_
    refine z_iconst (q := 54) dX9_isApart_53 rfl ?_
    refine z_iaddc (c := (4 * o + 31)) (q := 55) dX9_isApart_54 (by omega) rfl ?_
    refine z_iald (q := 56) dX9_isApart_55 m3 (by omega) rfl ?_
    have b6 := bR (4 * o + 31)
    refine z_iadd (q := 57) dX9_isApart_56 rfl ?_
    refine g_aload_n (q := 58) dX9_isApart_57 rfl rfl ?_
    refine g_get (q := 61) flX9_16 dX9_isApart_58 m0 rfl rfl ?_
    refine g_iload_n (q := 62) dX9_isApart_61 rfl rfl ?_
    refine z_iald (q := 63) dX9_isApart_62 m3 (by omega) rfl ?_
    have b7 := bR (4 * h + 29)
    refine z_icmp_le (t := 125) (q := 66) dX9_isApart_63 rfl (by omega) rfl (fun pc8 => ?_) (fun pc8 => ?_)
    · refine z_iconst (q := 126) dX9_isApart_125 rfl ?_
      refine g_goto (q := 130) dX9_isApart_126 rfl ?_
      refine z_zret dX9_isApart_130 rfl rfl ?_
      exact ⟨congrArg (fun z => some (Value.int (iZ z))) (by unfold mAp; omega), rfl⟩
    · refine g_aload_n (q := 67) dX9_isApart_66 rfl rfl ?_
      refine g_get (q := 70) flX9_16 dX9_isApart_67 m0 rfl rfl ?_
      refine g_iload_n (q := 71) dX9_isApart_70 rfl rfl ?_
      refine z_iconst (q := 72) dX9_isApart_71 rfl ?_
      refine z_iaddc (c := (4 * h + 30)) (q := 73) dX9_isApart_72 (by omega) rfl ?_
      refine z_iald (q := 74) dX9_isApart_73 m3 (by omega) rfl ?_
      have b9 := bR (4 * h + 30)
      refine g_aload_n (q := 75) dX9_isApart_74 rfl rfl ?_
      refine g_get (q := 78) flX9_16 dX9_isApart_75 m0 rfl rfl ?_
      refine g_iload_n (q := 79) dX9_isApart_78 rfl rfl ?_
      refine z_iconst (q := 80) dX9_isApart_79 rfl ?_
      refine z_iaddc (c := (4 * h + 32)) (q := 81) dX9_isApart_80 (by omega) rfl ?_
      refine z_iald (q := 82) dX9_isApart_81 m3 (by omega) rfl ?_
      have b10 := bR (4 * h + 32)
      refine z_iadd (q := 83) dX9_isApart_82 rfl ?_
      refine g_aload_n (q := 84) dX9_isApart_83 rfl rfl ?_
      refine g_get (q := 87) flX9_16 dX9_isApart_84 m0 rfl rfl ?_
      refine g_iload (q := 89) dX9_isApart_87 rfl rfl ?_
      refine z_iconst (q := 90) dX9_isApart_89 rfl ?_
      refine z_iaddc (c := (4 * o + 30)) (q := 91) dX9_isApart_90 (by omega) rfl ?_
      refine z_iald (q := 92) dX9_isApart_91 m3 (by omega) rfl ?_
      have b11 := bR (4 * o + 30)
      refine z_icmp_le (t := 125) (q := 95) dX9_isApart_92 rfl (by omega) rfl (fun pc12 => ?_) (fun pc12 => ?_)
      · refine z_iconst (q := 126) dX9_isApart_125 rfl ?_
        refine g_goto (q := 130) dX9_isApart_126 rfl ?_
        refine z_zret dX9_isApart_130 rfl rfl ?_
        exact ⟨congrArg (fun z => some (Value.int (iZ z))) (by unfold mAp; omega), rfl⟩
      · refine g_aload_n (q := 96) dX9_isApart_95 rfl rfl ?_
        refine g_get (q := 99) flX9_16 dX9_isApart_96 m0 rfl rfl ?_
        refine g_iload (q := 101) dX9_isApart_99 rfl rfl ?_
        refine z_iconst (q := 102) dX9_isApart_101 rfl ?_
        refine z_iaddc (c := (4 * o + 30)) (q := 103) dX9_isApart_102 (by omega) rfl ?_
        refine z_iald (q := 104) dX9_isApart_103 m3 (by omega) rfl ?_
        have b13 := bR (4 * o + 30)
        refine g_aload_n (q := 105) dX9_isApart_104 rfl rfl ?_
        refine g_get (q := 108) flX9_16 dX9_isApart_105 m0 rfl rfl ?_
        refine g_iload (q := 110) dX9_isApart_108 rfl rfl ?_
        refine z_iconst (q := 111) dX9_isApart_110 rfl ?_
        refine z_iaddc (c := (4 * o + 32)) (q := 112) dX9_isApart_111 (by omega) rfl ?_
        refine z_iald (q := 113) dX9_isApart_112 m3 (by omega) rfl ?_
        have b14 := bR (4 * o + 32)
        refine z_iadd (q := 114) dX9_isApart_113 rfl ?_
        refine g_aload_n (q := 115) dX9_isApart_114 rfl rfl ?_
        refine g_get (q := 118) flX9_16 dX9_isApart_115 m0 rfl rfl ?_
        refine g_iload_n (q := 119) dX9_isApart_118 rfl rfl ?_
        refine z_iconst (q := 120) dX9_isApart_119 rfl ?_
        refine z_iaddc (c := (4 * h + 30)) (q := 121) dX9_isApart_120 (by omega) rfl ?_
        refine z_iald (q := 122) dX9_isApart_121 m3 (by omega) rfl ?_
        have b15 := bR (4 * h + 30)
        refine z_icmp_gt (t := 129) (q := 125) dX9_isApart_122 rfl (by omega) rfl (fun pc16 => ?_) (fun pc16 => ?_)
        · refine z_iconst (q := 130) dX9_isApart_129 rfl ?_
          refine z_zret dX9_isApart_130 rfl rfl ?_
          exact ⟨congrArg (fun z => some (Value.int (iZ z))) (by unfold mAp; omega), rfl⟩
        · refine z_iconst (q := 126) dX9_isApart_125 rfl ?_
          refine g_goto (q := 130) dX9_isApart_126 rfl ?_
          refine z_zret dX9_isApart_130 rfl rfl ?_
          exact ⟨congrArg (fun z => some (Value.int (iZ z))) (by unfold mAp; omega), rfl⟩
