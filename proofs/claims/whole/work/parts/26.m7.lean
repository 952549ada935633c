theorem r_M_drawn (σ : g_H0) (a : Nat) (I : Nat → Int) (A : Nat → Int → Int) (hM : rM a I A σ) (k : Int) (b_k : -2147483648 ≤ k ∧ k < 2147483648) (hT : wfT (A 1)) (hS : wfS (A 1) (A 3)) : Ret mX9_drawn [.ref a, .int (iZ k)] σ (fun r σ' => r = some (.int (iZ (spDrawn (A 1) (A 3) k))) ∧ σ' = σ) := by
  refine Ret.of moX9_drawn.1 (Nat.le_of_ble_eq_true rfl) (fun w => ?_)
  obtain ⟨m0, m1, m2, m3, m4, m5, m6, m7, m8, m9, m10, m11⟩ := id hM
  have bT := hT.1
  have bS := hS.bs hT
  have q0 := hT.2.1
  have q1 := hT.2.2.1
  have q2 := hT.2.2.2.1
  have h3 := hT.2.2.2.2.1
  have h4 := hT.2.2.2.2.2.1
  have s150 := hS.2.2.1
  show Go w mX9_drawn (0, 0) 0 [some (.ref a), some (.int (iZ k)), none, none, none] [] σ (fun r σ' => r = some (.int (iZ (spDrawn (A 1) (A 3) k))) ∧ σ' = σ)
  refine g_iload_n (q := 1) dX9_drawn_0 rfl rfl ?_
  refine z_if_ge (t := 6) (q := 4) dX9_drawn_1 rfl (by omega) rfl (fun pc1 => ?_) (fun pc1 => ?_)
  · refine g_aload_n (q := 7) dX9_drawn_6 rfl rfl ?_
    refine g_get (q := 10) flX9_13 dX9_drawn_7 m0 rfl rfl ?_
    refine z_iconst (q := 11) dX9_drawn_10 rfl ?_
    refine z_iald (q := 12) dX9_drawn_11 m2 (by omega) rfl ?_
    have b2 := bT 0
    refine z_iconst (q := 13) dX9_drawn_12 rfl ?_
    refine z_iadd (q := 14) dX9_drawn_13 rfl ?_
    refine g_istore_n (ml' := [some (.ref a), some (.int (iZ k)), some (.int (iZ (((A 1) 0) + 1))), none, none]) (q := 15) dX9_drawn_14 rfl (Nat.le_of_ble_eq_true rfl) rfl rfl ?_
    refine g_iload_n (q := 16) dX9_drawn_15 rfl rfl ?_
    refine g_iload_n (q := 17) dX9_drawn_16 rfl rfl ?_
    refine z_irem (q := 18) dX9_drawn_17 (by omega) rfl ?_
    refine g_istore_n (ml' := [some (.ref a), some (.int (iZ k)), some (.int (iZ (((A 1) 0) + 1))), some (.int (iZ (k % (((A 1) 0) + 1)))), none]) (q := 19) dX9_drawn_18 rfl (Nat.le_of_ble_eq_true rfl) rfl rfl ?_
    refine g_iload_n (q := 20) dX9_drawn_19 rfl rfl ?_
    refine g_iload_n (q := 21) dX9_drawn_20 rfl rfl ?_
    refine z_idiv (q := 22) dX9_drawn_21 (by omega) rfl ?_
    refine g_istore (ml' := [some (.ref a), some (.int (iZ k)), some (.int (iZ (((A 1) 0) + 1))), some (.int (iZ (k % (((A 1) 0) + 1)))), some (.int (iZ (k / (((A 1) 0) + 1))))]) (q := 24) dX9_drawn_22 rfl (Nat.le_of_ble_eq_true rfl) rfl rfl ?_
    have d1 := Int.emod_nonneg k (b := (A 1 0 + 1)) (by omega)
    have d2 := Int.emod_lt_of_pos k (b := (A 1 0 + 1)) (by omega)
    have d3 := Int.ediv_nonneg (a := k) (b := (A 1 0 + 1)) (by omega) (by omega)
    have d4 := Int.ediv_le_self (A 1 0 + 1) (a := k) (by omega)
    refine g_iload (q := 26) dX9_drawn_24 rfl rfl ?_
    refine g_aload_n (q := 27) dX9_drawn_26 rfl rfl ?_
    refine g_get (q := 30) flX9_13 dX9_drawn_27 m0 rfl rfl ?_
    refine z_iconst (q := 31) dX9_drawn_30 rfl ?_
    refine z_iald (q := 32) dX9_drawn_31 m2 (by omega) rfl ?_
    have b3 := bT 1
    refine z_icmp_lt (t := 38) (q := 35) dX9_drawn_32 rfl (by omega) rfl (fun pc4 => ?_) (fun pc4 => ?_)
    · refine g_iload_n (q := 39) dX9_drawn_38 rfl rfl ?_
      refine g_aload_n (q := 40) dX9_drawn_39 rfl rfl ?_
      refine g_get (q := 43) flX9_13 dX9_drawn_40 m0 rfl rfl ?_
      refine z_iconst (q := 44) dX9_drawn_43 rfl ?_
      refine z_iald (q := 45) dX9_drawn_44 m2 (by omega) rfl ?_
      have b5 := bT 0
      refine z_icmp_ne (t := 53) (q := 48) dX9_drawn_45 rfl (by omega) rfl (fun pc6 => ?_) (fun pc6 => ?_)
      · refine g_aload_n (q := 54) dX9_drawn_53 rfl rfl ?_
        refine g_iload_n (q := 55) dX9_drawn_54 rfl rfl ?_
        refine g_iload (q := 57) dX9_drawn_55 rfl rfl ?_
        refine g_callV (As := [.int (iZ (k % (((A 1) 0) + 1))), .int (iZ (k / (((A 1) 0) + 1)))]) (rest := []) (q := 60) moX9_clampAt lkX9_drawn_127 dX9_drawn_57 rfl m0 (r_M_clampAt σ a I A hM (k % (((A 1) 0) + 1)) (k / (((A 1) 0) + 1)) (by omega) (by omega) bT bS h4) rfl rfl (Nat.le_of_ble_eq_true rfl) (Nat.le_of_ble_eq_true rfl) (Nat.le_of_ble_eq_true rfl) rfl ?_
        rintro r1 s1 hp
        rw [hp.1, hp.2]
        show Go w mX9_drawn (0, 0) 60 [some (.ref a), some (.int (iZ k)), some (.int (iZ (((A 1) 0) + 1))), some (.int (iZ (k % (((A 1) 0) + 1)))), some (.int (iZ (k / (((A 1) 0) + 1))))] [.int (iZ (mClamp (A 1) (A 3) (k % (((A 1) 0) + 1)) (k / (((A 1) 0) + 1))))] σ (fun r σ' => r = some (.int (iZ (spDrawn (A 1) (A 3) k))) ∧ σ' = σ)
        have b7 := mClamp_b (A 1) (A 3) (k % (((A 1) 0) + 1)) (k / (((A 1) 0) + 1)) h4
        refine g_bipush (v := iZ (-4)) (q := 62) dX9_drawn_60 (by decide) rfl ?_
        refine z_icmp_eq (t := 70) (q := 65) dX9_drawn_62 rfl (by omega) rfl (fun pc8 => ?_) (fun pc8 => ?_)
        · refine g_aload_n (q := 71) dX9_drawn_70 rfl rfl ?_
          refine g_get (q := 74) flX9_19 dX9_drawn_71 m0 rfl rfl ?_
          refine g_bipush (v := iZ 12) (q := 76) dX9_drawn_74 (by decide) rfl ?_
          refine g_iload (q := 78) dX9_drawn_76 rfl rfl ?_
          refine z_imul (q := 79) dX9_drawn_78 rfl ?_
          refine g_iload_n (q := 80) dX9_drawn_79 rfl rfl ?_
          refine z_iaddc (c := (12 * (k / (((A 1) 0) + 1)) + (k % (((A 1) 0) + 1)))) (q := 81) dX9_drawn_80 (by omega) rfl ?_
          refine z_iald (q := 82) dX9_drawn_81 m4 (by omega) rfl ?_
          have b9 := bS (12 * (k / (((A 1) 0) + 1)) + (k % (((A 1) 0) + 1)))
          refine z_iconst (q := 83) dX9_drawn_82 rfl ?_
          refine z_icmp_ne (t := 91) (q := 86) dX9_drawn_83 rfl (by omega) rfl (fun pc10 => ?_) (fun pc10 => ?_)
          · refine g_aload_n (q := 92) dX9_drawn_91 rfl rfl ?_
            refine g_iload_n (q := 93) dX9_drawn_92 rfl rfl ?_
            refine g_iload (q := 95) dX9_drawn_93 rfl rfl ?_
            refine g_callV (As := [.int (iZ (k % (((A 1) 0) + 1))), .int (iZ (k / (((A 1) 0) + 1)))]) (rest := []) (q := 98) moX9_holeAt lkX9_drawn_124 dX9_drawn_95 rfl m0 (r_M_holeAt σ a I A hM (k % (((A 1) 0) + 1)) (k / (((A 1) 0) + 1)) (by omega) (by omega) bT h3) rfl rfl (Nat.le_of_ble_eq_true rfl) (Nat.le_of_ble_eq_true rfl) (Nat.le_of_ble_eq_true rfl) rfl ?_
            rintro r1 s1 hp
            rw [hp.1, hp.2]
            show Go w mX9_drawn (0, 0) 98 [some (.ref a), some (.int (iZ k)), some (.int (iZ (((A 1) 0) + 1))), some (.int (iZ (k % (((A 1) 0) + 1)))), some (.int (iZ (k / (((A 1) 0) + 1))))] [.int (iZ (mHole (A 1) (k % (((A 1) 0) + 1)) (k / (((A 1) 0) + 1))))] σ (fun r σ' => r = some (.int (iZ (spDrawn (A 1) (A 3) k))) ∧ σ' = σ)
            have b11 := mHole_b (A 1) (k % (((A 1) 0) + 1)) (k / (((A 1) 0) + 1)) h3
            refine g_bipush (v := iZ (-4)) (q := 100) dX9_drawn_98 (by decide) rfl ?_
            refine z_icmp_eq (t := 108) (q := 103) dX9_drawn_100 rfl (by omega) rfl (fun pc12 => ?_) (fun pc12 => ?_)
            · refine g_bipush (v := iZ 46) (q := 110) dX9_drawn_108 (by decide) rfl ?_
              refine z_iret dX9_drawn_110 rfl ?_
              exact ⟨congrArg (fun z => some (Value.int (iZ z))) (by unfold spDrawn; (repeat (first | rw [if_pos (by omega)] | rw [if_neg (by omega)])); first | done | rfl | (congr 1; omega) | omega), rfl⟩
            · refine g_bipush (v := iZ 35) (q := 105) dX9_drawn_103 (by decide) rfl ?_
              refine g_goto (q := 110) dX9_drawn_105 rfl ?_
              refine z_iret dX9_drawn_110 rfl ?_
              exact ⟨congrArg (fun z => some (Value.int (iZ z))) (by unfold spDrawn; (repeat (first | rw [if_pos (by omega)] | rw [if_neg (by omega)])); first | done | rfl | (congr 1; omega) | omega), rfl⟩
          · refine g_bipush (v := iZ 111) (q := 88) dX9_drawn_86 (by decide) rfl ?_
            refine g_goto (q := 110) dX9_drawn_88 rfl ?_
            refine z_iret dX9_drawn_110 rfl ?_
            exact ⟨congrArg (fun z => some (Value.int (iZ z))) (by unfold spDrawn; (repeat (first | rw [if_pos (by omega)] | rw [if_neg (by omega)])); first | done | rfl | (congr 1; omega) | omega), rfl⟩
        · refine g_bipush (v := iZ 99) (q := 67) dX9_drawn_65 (by decide) rfl ?_
          refine g_goto (q := 110) dX9_drawn_67 rfl ?_
          refine z_iret dX9_drawn_110 rfl ?_
          exact ⟨congrArg (fun z => some (Value.int (iZ z))) (by unfold spDrawn; (repeat (first | rw [if_pos (by omega)] | rw [if_neg (by omega)])); first | done | rfl | (congr 1; omega) | omega), rfl⟩
      · refine g_bipush (v := iZ 47) (q := 50) dX9_drawn_48 (by decide) rfl ?_
        refine g_goto (q := 110) dX9_drawn_50 rfl ?_
        refine z_iret dX9_drawn_110 rfl ?_
        exact ⟨congrArg (fun z => some (Value.int (iZ z))) (by unfold spDrawn; (repeat (first | rw [if_pos (by omega)] | rw [if_neg (by omega)])); first | done | rfl | (congr 1; omega) | omega), rfl⟩
    · refine g_bipush (v := iZ (-4)) (q := 37) dX9_drawn_35 (by decide) rfl ?_
      refine z_iret dX9_drawn_37 rfl ?_
      exact ⟨congrArg (fun z => some (Value.int (iZ z))) (by unfold spDrawn; (repeat (first | rw [if_pos (by omega)] | rw [if_neg (by omega)])); first | done | rfl | (congr 1; omega) | omega), rfl⟩
  · refine z_iconst (q := 5) dX9_drawn_4 rfl ?_
    refine z_iret dX9_drawn_5 rfl ?_
    exact ⟨congrArg (fun z => some (Value.int (iZ z))) (by unfold spDrawn; (repeat (first | rw [if_pos (by omega)] | rw [if_neg (by omega)])); first | done | rfl | (congr 1; omega) | omega), rfl⟩
theorem l_M_count1 (w : g_W) (Φ : g_Post) (σ : g_H0) (a : Nat) (I : Nat → Int) (A : Nat → Int → Int) (hM : rM a I A σ) (q mf : Int) (K : Go w mX9_count (0, 0) 26 [some (.ref a), some (.int (iZ q)), some (.int (iZ mf)), none, none] [] σ Φ) : ∀ (n : Nat) (c m : Int), 0 ≤ c → c + n = 144 → mCutN (A 3) n c m = mf → Go w mX9_count (0, 0) 4 [some (.ref a), some (.int (iZ q)), some (.int (iZ m)), some (.int (iZ c)), none] [] σ (Φ) := by
  intro n
  induction n with
  | zero =>
    intro c m hc hcn hm
    obtain ⟨m0, m1, m2, m3, m4, m5, m6, m7, m8, m9, m10, m11⟩ := id hM
    refine g_iload_n (q := 5) dX9_count_4 rfl rfl ?_
    refine g_sipush (v := iZ 144) (q := 8) dX9_count_5 (by decide) rfl ?_
    refine z_icmp_ge (t := 26) (q := 11) dX9_count_8 rfl (by omega) rfl (fun pc1 => ?_) (fun pc1 => ?_)
    · refine Go.wk (ml' := [some (.ref a), some (.int (iZ q)), some (.int (iZ m)), none, none]) ⟨Or.inr rfl, Or.inr rfl, Or.inr rfl, Or.inl rfl, Or.inl rfl, trivial⟩ ?_
      subst hm
      exact K
    · exfalso
      omega
  | succ n ih =>
    intro c m hc hcn hm
    obtain ⟨m0, m1, m2, m3, m4, m5, m6, m7, m8, m9, m10, m11⟩ := id hM
    refine g_iload_n (q := 5) dX9_count_4 rfl rfl ?_
    refine g_sipush (v := iZ 144) (q := 8) dX9_count_5 (by decide) rfl ?_
    refine z_icmp_ge (t := 26) (q := 11) dX9_count_8 rfl (by omega) rfl (fun pc1 => ?_) (fun pc1 => ?_)
    · exfalso
      omega
    · refine g_iload_n (q := 12) dX9_count_11 rfl rfl ?_
      refine g_aload_n (q := 13) dX9_count_12 rfl rfl ?_
      refine g_get (q := 16) flX9_19 dX9_count_13 m0 rfl rfl ?_
      refine g_iload_n (q := 17) dX9_count_16 rfl rfl ?_
      refine z_iald (q := 18) dX9_count_17 m4 (by omega) rfl ?_
      refine z_iadd (q := 19) dX9_count_18 rfl ?_
      refine g_istore_n (ml' := [some (.ref a), some (.int (iZ q)), some (.int (iZ (m + ((A 3) c)))), some (.int (iZ c)), none]) (q := 20) dX9_count_19 rfl (Nat.le_of_ble_eq_true rfl) rfl rfl ?_
      refine z_iincc (c := (c + 1)) (ml' := [some (.ref a), some (.int (iZ q)), some (.int (iZ (m + ((A 3) c)))), some (.int (iZ (c + 1))), none]) (q := 23) dX9_count_20 rfl (by omega) rfl rfl rfl ?_
      refine g_goto (q := 4) dX9_count_23 rfl ?_
      exact ih (c + 1) (m + ((A 3) c)) (by omega) (by omega) hm
theorem l_M_count2 (w : g_W) (Φ : g_Post) (σ : g_H0) (a : Nat) (I : Nat → Int) (A : Nat → Int → Int) (hM : rM a I A σ) (q mf df : Int) (hT : wfT (A 1)) (hS : wfS (A 1) (A 3)) (K : Go w mX9_count (0, 0) 65 [some (.ref a), some (.int (iZ q)), some (.int (iZ mf)), some (.int (iZ df)), none] [] σ Φ) : ∀ (n : Nat) (h m : Int), 0 ≤ h → h + n = A 1 3 → mDoneN (A 1) (A 3) n h m = df → Go w mX9_count (0, 0) 31 [some (.ref a), some (.int (iZ q)), some (.int (iZ mf)), some (.int (iZ m)), some (.int (iZ h))] [] σ (Φ) := by
  intro n
  induction n with
  | zero =>
    intro h m hc hcn hm
    obtain ⟨m0, m1, m2, m3, m4, m5, m6, m7, m8, m9, m10, m11⟩ := id hM
    have bT := hT.1
    have bS := hS.bs hT
    have q0 := hT.2.1
    have q1 := hT.2.2.1
    have q2 := hT.2.2.2.1
    have h3 := hT.2.2.2.2.1
    have h4 := hT.2.2.2.2.2.1
    have s150 := hS.2.2.1
    refine g_iload (q := 33) dX9_count_31 rfl rfl ?_
    refine g_aload_n (q := 34) dX9_count_33 rfl rfl ?_
    refine g_get (q := 37) flX9_13 dX9_count_34 m0 rfl rfl ?_
    refine z_iconst (q := 38) dX9_count_37 rfl ?_
    refine z_iald (q := 39) dX9_count_38 m2 (by omega) rfl ?_
    have b1 := bT 3
    refine z_icmp_ge (t := 65) (q := 42) dX9_count_39 rfl (by omega) rfl (fun pc2 => ?_) (fun pc2 => ?_)
    · refine Go.wk (ml' := [some (.ref a), some (.int (iZ q)), some (.int (iZ mf)), some (.int (iZ m)), none]) ⟨Or.inr rfl, Or.inr rfl, Or.inr rfl, Or.inr rfl, Or.inl rfl, trivial⟩ ?_
      subst hm
      exact K
    · exfalso
      omega
  | succ n ih =>
    intro h m hc hcn hm
    obtain ⟨m0, m1, m2, m3, m4, m5, m6, m7, m8, m9, m10, m11⟩ := id hM
    have bT := hT.1
    have bS := hS.bs hT
    have q0 := hT.2.1
    have q1 := hT.2.2.1
    have q2 := hT.2.2.2.1
    have h3 := hT.2.2.2.2.1
    have h4 := hT.2.2.2.2.2.1
    have s150 := hS.2.2.1
    refine g_iload (q := 33) dX9_count_31 rfl rfl ?_
    refine g_aload_n (q := 34) dX9_count_33 rfl rfl ?_
    refine g_get (q := 37) flX9_13 dX9_count_34 m0 rfl rfl ?_
    refine z_iconst (q := 38) dX9_count_37 rfl ?_
    refine z_iald (q := 39) dX9_count_38 m2 (by omega) rfl ?_
    have b1 := bT 3
    refine z_icmp_ge (t := 65) (q := 42) dX9_count_39 rfl (by omega) rfl (fun pc2 => ?_) (fun pc2 => ?_)
    · exfalso
      omega
    · refine g_iload_n (q := 43) dX9_count_42 rfl rfl ?_
      have J3 : ∀ z4 : Int, z4 = (if mOpen (A 1) (A 3) h = 0 then 1 else 0) → Go w mX9_count (0, 0) 57 [some (.ref a), some (.int (iZ q)), some (.int (iZ mf)), some (.int (iZ m)), some (.int (iZ h))] [.int (iZ z4), .int (iZ m)] σ (Φ) := by
        intro z4 e5
        refine z_iadd (q := 58) dX9_count_57 rfl ?_
        refine g_istore_n (ml' := [some (.ref a), some (.int (iZ q)), some (.int (iZ mf)), some (.int (iZ (m + z4))), some (.int (iZ h))]) (q := 59) dX9_count_58 rfl (Nat.le_of_ble_eq_true rfl) rfl rfl ?_
        refine z_iincc (c := (h + 1)) (ml' := [some (.ref a), some (.int (iZ q)), some (.int (iZ mf)), some (.int (iZ (m + z4))), some (.int (iZ (h + 1)))]) (q := 62) dX9_count_59 rfl (by omega) rfl rfl rfl ?_
        refine g_goto (q := 31) dX9_count_62 rfl ?_
        exact ih (h + 1) (m + z4) (by omega) (by omega) (by rw [← hm]; subst_vars; rfl)
      refine g_aload_n (q := 44) dX9_count_43 rfl rfl ?_
      refine g_iload (q := 46) dX9_count_44 rfl rfl ?_
      refine g_callV (As := [.int (iZ h)]) (rest := [.int (iZ m)]) (q := 49) moX9_open lkX9_count_165 dX9_count_46 rfl m0 (r_M_open σ a I A hM h (by omega) bT bS h3) rfl rfl (Nat.le_of_ble_eq_true rfl) (Nat.le_of_ble_eq_true rfl) (Nat.le_of_ble_eq_true rfl) rfl ?_
      rintro r1 s1 hp
      rw [hp.1, hp.2]
      show Go w mX9_count (0, 0) 49 [some (.ref a), some (.int (iZ q)), some (.int (iZ mf)), some (.int (iZ m)), some (.int (iZ h))] [.int (iZ (mOpen (A 1) (A 3) h)), .int (iZ m)] σ (Φ)
      have b6 := mOpen_b (A 1) (A 3) h hS.1
      refine z_if_ne (t := 56) (q := 52) dX9_count_49 rfl (by omega) rfl (fun pc7 => ?_) (fun pc7 => ?_)
      · refine z_iconst (q := 57) dX9_count_56 rfl ?_
        exact J3 _ (by omega)
      · refine z_iconst (q := 53) dX9_count_52 rfl ?_
        refine g_goto (q := 57) dX9_count_53 rfl ?_
        exact J3 _ (by omega)
theorem r_M_count (σ : g_H0) (a : Nat) (I : Nat → Int) (A : Nat → Int → Int) (hM : rM a I A σ) (q : Int) (b_q : -2147483648 ≤ q ∧ q < 2147483648) (hT : wfT (A 1)) (hS : wfS (A 1) (A 3)) : Ret mX9_count [.ref a, .int (iZ q)] σ (fun r σ' => r = some (.int (iZ (spCount (A 1) (A 3) (I 2) (I 0) q))) ∧ σ' = σ) := by
  refine Ret.of moX9_count.1 (Nat.le_of_ble_eq_true rfl) (fun w => ?_)
  obtain ⟨m0, m1, m2, m3, m4, m5, m6, m7, m8, m9, m10, m11⟩ := id hM
  have bT := hT.1
  have bS := hS.bs hT
  have q0 := hT.2.1
  have q1 := hT.2.2.1
  have q2 := hT.2.2.2.1
  have h3 := hT.2.2.2.2.1
  have h4 := hT.2.2.2.2.2.1
  have s150 := hS.2.2.1
  show Go w mX9_count (0, 0) 0 [some (.ref a), some (.int (iZ q)), none, none, none] [] σ (fun r σ' => r = some (.int (iZ (spCount (A 1) (A 3) (I 2) (I 0) q))) ∧ σ' = σ)
  refine z_iconst (q := 1) dX9_count_0 rfl ?_
  refine g_istore_n (ml' := [some (.ref a), some (.int (iZ q)), some (.int (iZ 0)), none, none]) (q := 2) dX9_count_1 rfl (Nat.le_of_ble_eq_true rfl) rfl rfl ?_
  refine z_iconst (q := 3) dX9_count_2 rfl ?_
  refine g_istore_n (ml' := [some (.ref a), some (.int (iZ q)), some (.int (iZ 0)), some (.int (iZ 0)), none]) (q := 4) dX9_count_3 rfl (Nat.le_of_ble_eq_true rfl) rfl rfl ?_
  refine l_M_count1 w _ σ a I A hM q _ ?_ 144 0 0 (by omega) (by omega) rfl
  refine z_iconst (q := 27) dX9_count_26 rfl ?_
  refine g_istore_n (ml' := [some (.ref a), some (.int (iZ q)), some (.int (iZ (mCutN (A 3) 144 0 0))), some (.int (iZ 0)), none]) (q := 28) dX9_count_27 rfl (Nat.le_of_ble_eq_true rfl) rfl rfl ?_
  refine z_iconst (q := 29) dX9_count_28 rfl ?_
  refine g_istore (ml' := [some (.ref a), some (.int (iZ q)), some (.int (iZ (mCutN (A 3) 144 0 0))), some (.int (iZ 0)), some (.int (iZ 0))]) (q := 31) dX9_count_29 rfl (Nat.le_of_ble_eq_true rfl) rfl rfl ?_
  refine l_M_count2 w _ σ a I A hM q _ _ hT hS ?_ (A 1 3).toNat 0 0 (by omega) (by omega) rfl
  refine g_iload_n (q := 66) dX9_count_65 rfl rfl ?_
  refine z_table (ts := [132, 132, 132, 132, 132, 139, 139, 139, 152, 154, 156, 165, 170]) (dt := 175) dX9_count_66 (by omega) rfl rfl rfl ⟨fun pc1 => ?_, fun pc1 => ?_, fun pc1 => ?_, fun pc1 => ?_, fun pc1 => ?_, fun pc1 => ?_, fun pc1 => ?_, fun pc1 => ?_, fun pc1 => ?_, fun pc1 => ?_, fun pc1 => ?_, fun pc1 => ?_, fun pc1 => ?_, trivial⟩ (fun pc1 => ?_)
  · refine g_aload_n (q := 133) dX9_count_132 rfl rfl ?_
    refine g_get (q := 136) flX9_13 dX9_count_133 m0 rfl rfl ?_
    refine g_iload_n (q := 137) dX9_count_136 rfl rfl ?_
    refine z_iald (q := 138) dX9_count_137 m2 (by omega) rfl ?_
    have b2 := bT q
    refine z_iret dX9_count_138 rfl ?_
    exact ⟨congrArg (fun z => some (Value.int (iZ z))) (by unfold spCount; (repeat (first | rw [if_pos (by omega)] | rw [if_neg (by omega)])); first | done | rfl | (congr 1; omega) | omega), rfl⟩
  · refine g_aload_n (q := 133) dX9_count_132 rfl rfl ?_
    refine g_get (q := 136) flX9_13 dX9_count_133 m0 rfl rfl ?_
    refine g_iload_n (q := 137) dX9_count_136 rfl rfl ?_
    refine z_iald (q := 138) dX9_count_137 m2 (by omega) rfl ?_
    have b3 := bT q
    refine z_iret dX9_count_138 rfl ?_
    exact ⟨congrArg (fun z => some (Value.int (iZ z))) (by unfold spCount; (repeat (first | rw [if_pos (by omega)] | rw [if_neg (by omega)])); first | done | rfl | (congr 1; omega) | omega), rfl⟩
  · refine g_aload_n (q := 133) dX9_count_132 rfl rfl ?_
    refine g_get (q := 136) flX9_13 dX9_count_133 m0 rfl rfl ?_
    refine g_iload_n (q := 137) dX9_count_136 rfl rfl ?_
    refine z_iald (q := 138) dX9_count_137 m2 (by omega) rfl ?_
    have b4 := bT q
    refine z_iret dX9_count_138 rfl ?_
    exact ⟨congrArg (fun z => some (Value.int (iZ z))) (by unfold spCount; (repeat (first | rw [if_pos (by omega)] | rw [if_neg (by omega)])); first | done | rfl | (congr 1; omega) | omega), rfl⟩
  · refine g_aload_n (q := 133) dX9_count_132 rfl rfl ?_
    refine g_get (q := 136) flX9_13 dX9_count_133 m0 rfl rfl ?_
    refine g_iload_n (q := 137) dX9_count_136 rfl rfl ?_
    refine z_iald (q := 138) dX9_count_137 m2 (by omega) rfl ?_
    have b5 := bT q
    refine z_iret dX9_count_138 rfl ?_
    exact ⟨congrArg (fun z => some (Value.int (iZ z))) (by unfold spCount; (repeat (first | rw [if_pos (by omega)] | rw [if_neg (by omega)])); first | done | rfl | (congr 1; omega) | omega), rfl⟩
  · refine g_aload_n (q := 133) dX9_count_132 rfl rfl ?_
    refine g_get (q := 136) flX9_13 dX9_count_133 m0 rfl rfl ?_
    refine g_iload_n (q := 137) dX9_count_136 rfl rfl ?_
    refine z_iald (q := 138) dX9_count_137 m2 (by omega) rfl ?_
    have b6 := bT q
    refine z_iret dX9_count_138 rfl ?_
    exact ⟨congrArg (fun z => some (Value.int (iZ z))) (by unfold spCount; (repeat (first | rw [if_pos (by omega)] | rw [if_neg (by omega)])); first | done | rfl | (congr 1; omega) | omega), rfl⟩
  · refine g_aload_n (q := 140) dX9_count_139 rfl rfl ?_
    refine g_get (q := 143) flX9_19 dX9_count_140 m0 rfl rfl ?_
    refine g_sipush (v := iZ 153) (q := 146) dX9_count_143 (by decide) rfl ?_
    refine g_iload_n (q := 147) dX9_count_146 rfl rfl ?_
    refine z_iaddc (c := (q + 153)) (q := 148) dX9_count_147 (by omega) rfl ?_
    refine z_iconst (q := 149) dX9_count_148 rfl ?_
    refine z_isubc (c := (q + 148)) (q := 150) dX9_count_149 (by omega) rfl ?_
    refine z_iald (q := 151) dX9_count_150 m4 (by omega) rfl ?_
    have b7 := bS (q + 148)
    refine z_iret dX9_count_151 rfl ?_
    exact ⟨congrArg (fun z => some (Value.int (iZ z))) (by unfold spCount; (repeat (first | rw [if_pos (by omega)] | rw [if_neg (by omega)])); first | done | rfl | (congr 1; omega) | omega), rfl⟩
  · refine g_aload_n (q := 140) dX9_count_139 rfl rfl ?_
    refine g_get (q := 143) flX9_19 dX9_count_140 m0 rfl rfl ?_
    refine g_sipush (v := iZ 153) (q := 146) dX9_count_143 (by decide) rfl ?_
    refine g_iload_n (q := 147) dX9_count_146 rfl rfl ?_
    refine z_iaddc (c := (q + 153)) (q := 148) dX9_count_147 (by omega) rfl ?_
    refine z_iconst (q := 149) dX9_count_148 rfl ?_
    refine z_isubc (c := (q + 148)) (q := 150) dX9_count_149 (by omega) rfl ?_
    refine z_iald (q := 151) dX9_count_150 m4 (by omega) rfl ?_
    have b8 := bS (q + 148)
    refine z_iret dX9_count_151 rfl ?_
    exact ⟨congrArg (fun z => some (Value.int (iZ z))) (by unfold spCount; (repeat (first | rw [if_pos (by omega)] | rw [if_neg (by omega)])); first | done | rfl | (congr 1; omega) | omega), rfl⟩
  · refine g_aload_n (q := 140) dX9_count_139 rfl rfl ?_
    refine g_get (q := 143) flX9_19 dX9_count_140 m0 rfl rfl ?_
    refine g_sipush (v := iZ 153) (q := 146) dX9_count_143 (by decide) rfl ?_
    refine g_iload_n (q := 147) dX9_count_146 rfl rfl ?_
    refine z_iaddc (c := (q + 153)) (q := 148) dX9_count_147 (by omega) rfl ?_
    refine z_iconst (q := 149) dX9_count_148 rfl ?_
    refine z_isubc (c := (q + 148)) (q := 150) dX9_count_149 (by omega) rfl ?_
    refine z_iald (q := 151) dX9_count_150 m4 (by omega) rfl ?_
    have b9 := bS (q + 148)
    refine z_iret dX9_count_151 rfl ?_
    exact ⟨congrArg (fun z => some (Value.int (iZ z))) (by unfold spCount; (repeat (first | rw [if_pos (by omega)] | rw [if_neg (by omega)])); first | done | rfl | (congr 1; omega) | omega), rfl⟩
  · refine g_iload_n (q := 153) dX9_count_152 rfl rfl ?_
    refine z_iret dX9_count_153 rfl ?_
    exact ⟨congrArg (fun z => some (Value.int (iZ z))) (by unfold spCount; (repeat (first | rw [if_pos (by omega)] | rw [if_neg (by omega)])); first | done | rfl | (congr 1; omega) | omega), rfl⟩
  · refine g_iload_n (q := 155) dX9_count_154 rfl rfl ?_
    refine z_iret dX9_count_155 rfl ?_
    exact ⟨congrArg (fun z => some (Value.int (iZ z))) (by unfold spCount; (repeat (first | rw [if_pos (by omega)] | rw [if_neg (by omega)])); first | done | rfl | (congr 1; omega) | omega), rfl⟩
  · refine g_aload_n (q := 157) dX9_count_156 rfl rfl ?_
    refine g_get (q := 160) flX9_19 dX9_count_157 m0 rfl rfl ?_
    refine g_sipush (v := iZ 150) (q := 163) dX9_count_160 (by decide) rfl ?_
    refine z_iald (q := 164) dX9_count_163 m4 (by omega) rfl ?_
    have b10 := bS 150
    refine z_iret dX9_count_164 rfl ?_
    exact ⟨congrArg (fun z => some (Value.int (iZ z))) (by unfold spCount; (repeat (first | rw [if_pos (by omega)] | rw [if_neg (by omega)])); first | done | rfl | (congr 1; omega) | omega), rfl⟩
  · refine g_aload_n (q := 166) dX9_count_165 rfl rfl ?_
    refine g_get (q := 169) flX9_50 dX9_count_166 m0 rfl rfl ?_
    refine z_iret dX9_count_169 rfl ?_
    exact ⟨congrArg (fun z => some (Value.int (iZ z))) (by unfold spCount; (repeat (first | rw [if_pos (by omega)] | rw [if_neg (by omega)])); first | done | rfl | (congr 1; omega) | omega), rfl⟩
  · refine g_aload_n (q := 171) dX9_count_170 rfl rfl ?_
    refine g_get (q := 174) flX9_62 dX9_count_171 m0 rfl rfl ?_
    refine z_iret dX9_count_174 rfl ?_
    exact ⟨congrArg (fun z => some (Value.int (iZ z))) (by unfold spCount; (repeat (first | rw [if_pos (by omega)] | rw [if_neg (by omega)])); first | done | rfl | (congr 1; omega) | omega), rfl⟩
  · refine z_iconst (q := 176) dX9_count_175 rfl ?_
    refine z_iret dX9_count_176 rfl ?_
    exact ⟨congrArg (fun z => some (Value.int (iZ z))) (by unfold spCount; (repeat (first | rw [if_pos (by omega)] | rw [if_neg (by omega)])); first | done | rfl | (congr 1; omega) | omega), rfl⟩
def tWrite (len : Int) (tx : Int → Int) (c : Int) : Int × Int × (Int → Int) := if ¬ (32 ≤ c ∧ c ≤ 126) then (-1, len, tx) else if len = 200 then (-3, len, tx) else (len + 1, len + 1, zup tx len c)
def tPost (a : Nat) (I : Nat → Int) (A : Nat → Int → Int) (σ : g_H0) (v len : Int) (tx : Int → Int) : g_Post := fun r σ' => r = some (.int (iZ v)) ∧ MC a len tx (A 1) (A 3) (A 4) (I 2) σ' ∧ g_Fr (mR a) σ σ'
theorem r_M_write (σ : g_H0) (a : Nat) (I : Nat → Int) (A : Nat → Int → Int) (hM : rM a I A σ) (c : Int) (b_c : -2147483648 ≤ c ∧ c < 2147483648) (hl : 0 ≤ I 0 ∧ I 0 ≤ 200) : Ret mX9_write [.ref a, .int (iZ c)] σ (tPost a I A σ (tWrite (I 0) (A 0) c).1 (tWrite (I 0) (A 0) c).2.1 (tWrite (I 0) (A 0) c).2.2) := by
  refine Ret.of moX9_write.1 (Nat.le_of_ble_eq_true rfl) (fun w => ?_)
  obtain ⟨m0, m1, m2, m3, m4, m5, m6, m7, m8, m9, m10, m11⟩ := id hM
  show Go w mX9_write (0, 0) 0 [some (.ref a), some (.int (iZ c))] [] σ (tPost a I A σ (tWrite (I 0) (A 0) c).1 (tWrite (I 0) (A 0) c).2.1 (tWrite (I 0) (A 0) c).2.2)
  refine g_iload_n (q := 1) dX9_write_0 rfl rfl ?_
  refine z_i2l (q := 2) dX9_write_1 (by omega) rfl ?_
  refine g_ldc2 (v := lZ 32) (q := 5) dX9_write_2 klX9_54 rfl ?_
  refine g_ldc2 (v := lZ 126) (q := 8) dX9_write_5 klX9_56 rfl ?_
  refine g_callS (As := [.long (lZ c), .long (lZ 32), .long (lZ 126)]) (rest := []) (q := 11) moX9_in lkX9_write_58 dX9_write_8 (r_M_in σ c 32 126 (by omega) (by omega) (by omega)) rfl rfl (Nat.le_of_ble_eq_true rfl) (Nat.le_of_ble_eq_true rfl) (Nat.le_of_ble_eq_true rfl) rfl ?_
  rintro r1 s1 hp
  rw [hp.1, hp.2]
  show Go w mX9_write (0, 0) 11 [some (.ref a), some (.int (iZ c))] [.int (bI (32 ≤ c ∧ c ≤ 126))] σ (tPost a I A σ (tWrite (I 0) (A 0) c).1 (tWrite (I 0) (A 0) c).2.1 (tWrite (I 0) (A 0) c).2.2)
  refine z_ifB_ne (t := 16) (q := 14) dX9_write_11 rfl rfl (fun pc1 => ?_) (fun pc1 => ?_)
  · refine g_aload_n (q := 17) dX9_write_16 rfl rfl ?_
    refine g_get (q := 20) flX9_62 dX9_write_17 m0 rfl rfl ?_
    refine g_sipush (v := iZ 200) (q := 23) dX9_write_20 (by decide) rfl ?_
    refine z_icmp_ne (t := 29) (q := 26) dX9_write_23 rfl (by omega) rfl (fun pc2 => ?_) (fun pc2 => ?_)
    · refine g_aload_n (q := 30) dX9_write_29 rfl rfl ?_
      refine g_get (q := 33) flX9_7 dX9_write_30 m0 rfl rfl ?_
      refine g_aload_n (q := 34) dX9_write_33 rfl rfl ?_
      refine g_get (q := 37) flX9_62 dX9_write_34 m0 rfl rfl ?_
      refine g_iload_n (q := 38) dX9_write_37 rfl rfl ?_
      refine z_iast (q := 39) dX9_write_38 m1 (by omega) rfl (fun σ3 c4 f5 => ?_)
      have c6 := (f5.2 a (by omega)).trans m0
      have c7 := (f5.2 (a + 2) (by omega)).trans m2
      have c8 := (f5.2 (a + 3) (by omega)).trans m3
      have c9 := (f5.2 (a + 4) (by omega)).trans m4
      have c10 := (f5.2 (a + 5) (by omega)).trans m5
      have c11 := (f5.2 (a + 6) (by omega)).trans m6
      have c12 := (f5.2 (a + 7) (by omega)).trans m7
      have c13 := (f5.2 (a + 8) (by omega)).trans m8
      have c14 := (f5.2 (a + 9) (by omega)).trans m9
      have c15 := (f5.2 (a + 10) (by omega)).trans m10
      have c16 := (f5.2 (a + 11) (by omega)).trans m11
      refine g_aload_n (q := 40) dX9_write_39 rfl rfl ?_
      refine g_dup (q := 41) dX9_write_40 rfl rfl ?_
      refine g_get (q := 44) flX9_62 dX9_write_41 c6 rfl rfl ?_
      refine z_iconst (q := 45) dX9_write_44 rfl ?_
      refine z_iadd (q := 46) dX9_write_45 rfl ?_
      refine z_put (fs' := [.int (iZ ((I 0) + 1)), .ref (a + 1), .int (iZ (I 1)), .ref (a + 2), .ref (a + 3), .ref (a + 4), .ref (a + 5), .int (iZ (I 2)), .ref (a + 6), .ref (a + 7), .ref (a + 8), .int (iZ (I 3)), .int (iZ (I 4)), .ref (a + 9), .ref (a + 10), .ref (a + 11)]) (q := 49) fpX9_62 dX9_write_46 c6 (Nat.le_of_ble_eq_true rfl) rfl rfl rfl rfl (fun σ17 c18 f19 => ?_)
      have c20 := (f19.2 (a + 2) (by omega)).trans c7
      have c21 := (f19.2 (a + 3) (by omega)).trans c8
      have c22 := (f19.2 (a + 4) (by omega)).trans c9
      have c23 := (f19.2 (a + 5) (by omega)).trans c10
      have c24 := (f19.2 (a + 6) (by omega)).trans c11
      have c25 := (f19.2 (a + 7) (by omega)).trans c12
      have c26 := (f19.2 (a + 8) (by omega)).trans c13
      have c27 := (f19.2 (a + 9) (by omega)).trans c14
      have c28 := (f19.2 (a + 10) (by omega)).trans c15
      have c29 := (f19.2 (a + 11) (by omega)).trans c16
      have c30 := (f19.2 (a + 1) (by omega)).trans c4
      refine g_aload_n (q := 50) dX9_write_49 rfl rfl ?_
      refine g_get (q := 53) flX9_62 dX9_write_50 c18 rfl rfl ?_
      refine z_iret dX9_write_53 rfl ?_
      unfold tWrite; (repeat (first | rw [if_pos (by omega)] | rw [if_neg (by omega)])); exact ⟨rfl, rM.mc (I := nup I 0 (I 0 + 1)) (A := nup A 0 (zup (A 0) (I 0) c)) ⟨c18, c30, c20, c21, c22, c23, c24, c25, c26, c27, c28, c29⟩, ((g_Fr.rf.step f5 ⟨by omega, by omega⟩).step f19 ⟨by omega, by omega⟩)⟩
    · refine g_bipush (v := iZ (-3)) (q := 28) dX9_write_26 (by decide) rfl ?_
      refine z_iret dX9_write_28 rfl ?_
      unfold tWrite; (repeat (first | rw [if_pos (by omega)] | rw [if_neg (by omega)])); exact ⟨rfl, hM.mc, g_Fr.rf⟩
  · refine z_iconst (q := 15) dX9_write_14 rfl ?_
    refine z_iret dX9_write_15 rfl ?_
    unfold tWrite; (repeat (first | rw [if_pos (by omega)] | rw [if_neg (by omega)])); exact ⟨rfl, hM.mc, g_Fr.rf⟩
theorem r_M_wipe (σ : g_H0) (a : Nat) (I : Nat → Int) (A : Nat → Int → Int) (hM : rM a I A σ) : Ret mX9_wipe [.ref a] σ (tPost a I A σ (I 0) 0 (A 0)) := by
  refine Ret.of moX9_wipe.1 (Nat.le_of_ble_eq_true rfl) (fun w => ?_)
  obtain ⟨m0, m1, m2, m3, m4, m5, m6, m7, m8, m9, m10, m11⟩ := id hM
  show Go w mX9_wipe (0, 0) 0 [some (.ref a), none] [] σ (tPost a I A σ (I 0) 0 (A 0))
  refine g_aload_n (q := 1) dX9_wipe_0 rfl rfl ?_
  refine g_get (q := 4) flX9_62 dX9_wipe_1 m0 rfl rfl ?_
  refine g_istore_n (ml' := [some (.ref a), some (.int (iZ (I 0)))]) (q := 5) dX9_wipe_4 rfl (Nat.le_of_ble_eq_true rfl) rfl rfl ?_
  refine g_aload_n (q := 6) dX9_wipe_5 rfl rfl ?_
  refine z_iconst (q := 7) dX9_wipe_6 rfl ?_
  refine z_put (fs' := [.int (iZ 0), .ref (a + 1), .int (iZ (I 1)), .ref (a + 2), .ref (a + 3), .ref (a + 4), .ref (a + 5), .int (iZ (I 2)), .ref (a + 6), .ref (a + 7), .ref (a + 8), .int (iZ (I 3)), .int (iZ (I 4)), .ref (a + 9), .ref (a + 10), .ref (a + 11)]) (q := 10) fpX9_62 dX9_wipe_7 m0 (Nat.le_of_ble_eq_true rfl) rfl rfl rfl rfl (fun σ1 c2 f3 => ?_)
  have c4 := (f3.2 (a + 1) (by omega)).trans m1
  have c5 := (f3.2 (a + 2) (by omega)).trans m2
  have c6 := (f3.2 (a + 3) (by omega)).trans m3
  have c7 := (f3.2 (a + 4) (by omega)).trans m4
  have c8 := (f3.2 (a + 5) (by omega)).trans m5
  have c9 := (f3.2 (a + 6) (by omega)).trans m6
  have c10 := (f3.2 (a + 7) (by omega)).trans m7
  have c11 := (f3.2 (a + 8) (by omega)).trans m8
  have c12 := (f3.2 (a + 9) (by omega)).trans m9
  have c13 := (f3.2 (a + 10) (by omega)).trans m10
  have c14 := (f3.2 (a + 11) (by omega)).trans m11
  refine g_iload_n (q := 11) dX9_wipe_10 rfl rfl ?_
  refine z_iret dX9_wipe_11 rfl ?_
  exact ⟨rfl, rM.mc (I := nup I 0 0) (A := A) ⟨c2, c4, c5, c6, c7, c8, c9, c10, c11, c12, c13, c14⟩, (g_Fr.rf.step f3 ⟨by omega, by omega⟩)⟩
theorem r_M_sharpen (σ : g_H0) (a : Nat) (I : Nat → Int) (A : Nat → Int → Int) (hM : rM a I A σ) (k : Int) (b_k : -2147483648 ≤ k ∧ k < 2147483648) (hT : wfT (A 1)) (hS : wfS (A 1) (A 3)) (hn : 0 ≤ I 2 ∧ I 2 ≤ 6) : Ret mX9_sharpen [.ref a, .int (iZ k)] σ (mPost a I A σ (spSharpen (A 1) (A 3) (A 4) (I 2) k)) := by
  refine Ret.of moX9_sharpen.1 (Nat.le_of_ble_eq_true rfl) (fun w => ?_)
  obtain ⟨m0, m1, m2, m3, m4, m5, m6, m7, m8, m9, m10, m11⟩ := id hM
  have bT := hT.1
  have bS := hS.bs hT
  have q0 := hT.2.1
  have q1 := hT.2.2.1
  have q2 := hT.2.2.2.1
  have h3 := hT.2.2.2.2.1
  have h4 := hT.2.2.2.2.2.1
  have s150 := hS.2.2.1
  show Go w mX9_sharpen (0, 0) 0 [some (.ref a), some (.int (iZ k)), none] [] σ (mPost a I A σ (spSharpen (A 1) (A 3) (A 4) (I 2) k))
  refine g_aload_n (q := 1) dX9_sharpen_0 rfl rfl ?_
  refine g_iload_n (q := 2) dX9_sharpen_1 rfl rfl ?_
  refine g_callV (As := [.int (iZ k)]) (rest := []) (q := 5) moX9_isStation lkX9_sharpen_134 dX9_sharpen_2 rfl m0 (r_M_isStation σ a I A hM k (by omega) bT) rfl rfl (Nat.le_of_ble_eq_true rfl) (Nat.le_of_ble_eq_true rfl) (Nat.le_of_ble_eq_true rfl) rfl ?_
  rintro r1 s1 hp
  rw [hp.1, hp.2]
  show Go w mX9_sharpen (0, 0) 5 [some (.ref a), some (.int (iZ k)), none] [.int (bI (0 ≤ k ∧ k < A 1 2))] σ (mPost a I A σ (spSharpen (A 1) (A 3) (A 4) (I 2) k))
  refine z_ifB_ne (t := 10) (q := 8) dX9_sharpen_5 rfl rfl (fun pc1 => ?_) (fun pc1 => ?_)
  · refine g_aload_n (q := 11) dX9_sharpen_10 rfl rfl ?_
    refine g_get (q := 14) flX9_19 dX9_sharpen_11 m0 rfl rfl ?_
    refine g_sipush (v := iZ 144) (q := 17) dX9_sharpen_14 (by decide) rfl ?_
    refine g_iload_n (q := 18) dX9_sharpen_17 rfl rfl ?_
    refine z_iaddc (c := (k + 144)) (q := 19) dX9_sharpen_18 (by omega) rfl ?_
    refine z_iald (q := 20) dX9_sharpen_19 m4 (by omega) rfl ?_
    have b2 := bS (k + 144)
    refine g_istore_n (ml' := [some (.ref a), some (.int (iZ k)), some (.int (iZ ((A 3) (k + 144))))]) (q := 21) dX9_sharpen_20 rfl (Nat.le_of_ble_eq_true rfl) rfl rfl ?_
    refine g_iload_n (q := 22) dX9_sharpen_21 rfl rfl ?_
    refine z_if_ne (t := 28) (q := 25) dX9_sharpen_22 rfl (by omega) rfl (fun pc3 => ?_) (fun pc3 => ?_)
    · refine g_aload_n (q := 29) dX9_sharpen_28 rfl rfl ?_
      refine g_callV (As := []) (rest := []) (q := 32) moX9_note lkX9_sharpen_149 dX9_sharpen_29 rfl m0 (r_M_note σ a I A hM hn) rfl rfl (Nat.le_of_ble_eq_true rfl) (Nat.le_of_ble_eq_true rfl) (Nat.le_of_ble_eq_true rfl) rfl ?_
      rintro r1 σn ⟨rfl, hMn, hFn⟩
      clear m0 m1 m2 m3 m4 m5 m6 m7 m8 m9 m10 m11
      obtain ⟨m0, m1, m2, m3, m4, m5, m6, m7, m8, m9, m10, m11⟩ := id hMn
      have m0 : σn[a]? = some (.inr (9, [.int (iZ (I 0)), .ref (a + 1), .int (iZ (I 1)), .ref (a + 2), .ref (a + 3), .ref (a + 4), .ref (a + 5), .int (iZ (mNoteN (I 2))), .ref (a + 6), .ref (a + 7), .ref (a + 8), .int (iZ (I 3)), .int (iZ (I 4)), .ref (a + 9), .ref (a + 10), .ref (a + 11)])) := m0
      have m2 : σn[a + 2]? = some (.inl (0, 51, .inl (zA (A 1)))) := m2
      have m4 : σn[a + 4]? = some (.inl (0, 156, .inl (zA (A 3)))) := m4
      show Go w mX9_sharpen (0, 0) 32 [some (.ref a), some (.int (iZ k)), some (.int (iZ ((A 3) (k + 144))))] [] σn (mPost a I A σ (spSharpen (A 1) (A 3) (A 4) (I 2) k))
      refine g_aload_n (q := 33) dX9_sharpen_32 rfl rfl ?_
      refine g_get (q := 36) flX9_19 dX9_sharpen_33 m0 rfl rfl ?_
      refine g_sipush (v := iZ 144) (q := 39) dX9_sharpen_36 (by decide) rfl ?_
      refine g_iload_n (q := 40) dX9_sharpen_39 rfl rfl ?_
      refine z_iaddc (c := (k + 144)) (q := 41) dX9_sharpen_40 (by omega) rfl ?_
      refine z_iconst (q := 42) dX9_sharpen_41 rfl ?_
      refine z_iast (q := 43) dX9_sharpen_42 m4 (by omega) rfl (fun σ4 c5 f6 => ?_)
      have c7 := (f6.2 a (by omega)).trans m0
      have c8 := (f6.2 (a + 1) (by omega)).trans m1
      have c9 := (f6.2 (a + 2) (by omega)).trans m2
      have c10 := (f6.2 (a + 3) (by omega)).trans m3
      have c11 := (f6.2 (a + 5) (by omega)).trans m5
      have c12 := (f6.2 (a + 6) (by omega)).trans m6
      have c13 := (f6.2 (a + 7) (by omega)).trans m7
      have c14 := (f6.2 (a + 8) (by omega)).trans m8
      have c15 := (f6.2 (a + 9) (by omega)).trans m9
      have c16 := (f6.2 (a + 10) (by omega)).trans m10
      have c17 := (f6.2 (a + 11) (by omega)).trans m11
      refine g_iload_n (q := 44) dX9_sharpen_43 rfl rfl ?_
      refine z_iret dX9_sharpen_44 rfl ?_
      unfold spSharpen; (repeat (first | rw [if_pos (by omega)] | rw [if_neg (by omega)]))
      exact ⟨rfl, rM.mc (I := nup I 2 (mNoteN (I 2))) (A := nup (nup A 4 (mNoteB (A 4) (A 3) (I 2))) 3 (zup (A 3) (k + 144) 0)) ⟨c7, c8, c9, c10, c5, c11, c12, c13, c14, c15, c16, c17⟩, (hFn.step f6 ⟨by omega, by omega⟩)⟩
    · refine g_bipush (v := iZ (-2)) (q := 27) dX9_sharpen_25 (by decide) rfl ?_
      refine z_iret dX9_sharpen_27 rfl ?_
      unfold spSharpen; (repeat (first | rw [if_pos (by omega)] | rw [if_neg (by omega)]))
      exact mPost.same hM _
  · refine z_iconst (q := 9) dX9_sharpen_8 rfl ?_
    refine z_iret dX9_sharpen_9 rfl ?_
    unfold spSharpen; (repeat (first | rw [if_pos (by omega)] | rw [if_neg (by omega)]))
    exact mPost.same hM _
theorem r_M_clamp (σ : g_H0) (a : Nat) (I : Nat → Int) (A : Nat → Int → Int) (hM : rM a I A σ) (c col : Int) (b_c : -2147483648 ≤ c ∧ c < 2147483648) (b_col : -2147483648 ≤ col ∧ col < 2147483648) (hT : wfT (A 1)) (hS : wfS (A 1) (A 3)) (hn : 0 ≤ I 2 ∧ I 2 ≤ 6) : Ret mX9_clamp [.ref a, .int (iZ c), .int (iZ col)] σ (mPost a I A σ (spClamp (A 1) (A 3) (A 4) (I 2) c col)) := by
  refine Ret.of moX9_clamp.1 (Nat.le_of_ble_eq_true rfl) (fun w => ?_)
  obtain ⟨m0, m1, m2, m3, m4, m5, m6, m7, m8, m9, m10, m11⟩ := id hM
  have bT := hT.1
  have bS := hS.bs hT
  have q0 := hT.2.1
  have q1 := hT.2.2.1
  have q2 := hT.2.2.2.1
  have h3 := hT.2.2.2.2.1
  have h4 := hT.2.2.2.2.2.1
  have s150 := hS.2.2.1
  show Go w mX9_clamp (0, 0) 0 [some (.ref a), some (.int (iZ c)), some (.int (iZ col)), none, none] [] σ (mPost a I A σ (spClamp (A 1) (A 3) (A 4) (I 2) c col))
  refine g_iload_n (q := 1) dX9_clamp_0 rfl rfl ?_
  refine z_i2l (q := 2) dX9_clamp_1 (by omega) rfl ?_
  refine g_lconst (v := lZ 0) (q := 3) dX9_clamp_2 (by decide) rfl ?_
  refine g_aload_n (q := 4) dX9_clamp_3 rfl rfl ?_
  refine g_get (q := 7) flX9_13 dX9_clamp_4 m0 rfl rfl ?_
  refine z_iconst (q := 8) dX9_clamp_7 rfl ?_
  refine z_iald (q := 9) dX9_clamp_8 m2 (by omega) rfl ?_
  have b1 := bT 4
  refine z_iconst (q := 10) dX9_clamp_9 rfl ?_
  refine z_isub (q := 11) dX9_clamp_10 rfl ?_
  refine z_i2l (q := 12) dX9_clamp_11 (by omega) rfl ?_
  refine g_callS (As := [.long (lZ c), .long (lZ 0), .long (lZ (((A 1) 4) - 1))]) (rest := []) (q := 15) moX9_in lkX9_clamp_58 dX9_clamp_12 (r_M_in σ c 0 (((A 1) 4) - 1) (by omega) (by omega) (by omega)) rfl rfl (Nat.le_of_ble_eq_true rfl) (Nat.le_of_ble_eq_true rfl) (Nat.le_of_ble_eq_true rfl) rfl ?_
  rintro r1 s1 hp
  rw [hp.1, hp.2]
  show Go w mX9_clamp (0, 0) 15 [some (.ref a), some (.int (iZ c)), some (.int (iZ col)), none, none] [.int (bI (0 ≤ c ∧ c ≤ (((A 1) 4) - 1)))] σ (mPost a I A σ (spClamp (A 1) (A 3) (A 4) (I 2) c col))
  refine z_ifB_eq (t := 36) (q := 18) dX9_clamp_15 rfl rfl (fun pc2 => ?_) (fun pc2 => ?_)
  · refine z_iconst (q := 37) dX9_clamp_36 rfl ?_
    refine z_iret dX9_clamp_37 rfl ?_
    unfold spClamp; (repeat (first | rw [if_pos (by omega)] | rw [if_neg (by omega)]))
    exact mPost.same hM _
  · refine g_iload_n (q := 19) dX9_clamp_18 rfl rfl ?_
    refine z_i2l (q := 20) dX9_clamp_19 (by omega) rfl ?_
    refine g_lconst (v := lZ 0) (q := 21) dX9_clamp_20 (by decide) rfl ?_
    refine g_aload_n (q := 22) dX9_clamp_21 rfl rfl ?_
    refine g_get (q := 25) flX9_13 dX9_clamp_22 m0 rfl rfl ?_
    refine z_iconst (q := 26) dX9_clamp_25 rfl ?_
    refine z_iald (q := 27) dX9_clamp_26 m2 (by omega) rfl ?_
    have b3 := bT 0
    refine z_iconst (q := 28) dX9_clamp_27 rfl ?_
    refine z_isub (q := 29) dX9_clamp_28 rfl ?_
    refine z_i2l (q := 30) dX9_clamp_29 (by omega) rfl ?_
    refine g_callS (As := [.long (lZ col), .long (lZ 0), .long (lZ (((A 1) 0) - 2))]) (rest := []) (q := 33) moX9_in lkX9_clamp_58 dX9_clamp_30 (r_M_in σ col 0 (((A 1) 0) - 2) (by omega) (by omega) (by omega)) rfl rfl (Nat.le_of_ble_eq_true rfl) (Nat.le_of_ble_eq_true rfl) (Nat.le_of_ble_eq_true rfl) rfl ?_
    rintro r1 s1 hp
    rw [hp.1, hp.2]
    show Go w mX9_clamp (0, 0) 33 [some (.ref a), some (.int (iZ c)), some (.int (iZ col)), none, none] [.int (bI (0 ≤ col ∧ col ≤ (((A 1) 0) - 2)))] σ (mPost a I A σ (spClamp (A 1) (A 3) (A 4) (I 2) c col))
    refine z_ifB_ne (t := 38) (q := 36) dX9_clamp_33 rfl rfl (fun pc4 => ?_) (fun pc4 => ?_)
    · refine g_aload_n (q := 39) dX9_clamp_38 rfl rfl ?_
      refine g_get (q := 42) flX9_19 dX9_clamp_39 m0 rfl rfl ?_
      refine g_sipush (v := iZ 151) (q := 45) dX9_clamp_42 (by decide) rfl ?_
      refine g_iload_n (q := 46) dX9_clamp_45 rfl rfl ?_
      refine z_iaddc (c := (c + 151)) (q := 47) dX9_clamp_46 (by omega) rfl ?_
      refine z_iald (q := 48) dX9_clamp_47 m4 (by omega) rfl ?_
      have b5 := bS (c + 151)
      refine g_istore_n (ml' := [some (.ref a), some (.int (iZ c)), some (.int (iZ col)), some (.int (iZ ((A 3) (c + 151)))), none]) (q := 49) dX9_clamp_48 rfl (Nat.le_of_ble_eq_true rfl) rfl rfl ?_
      refine g_aload_n (q := 50) dX9_clamp_49 rfl rfl ?_
      refine g_get (q := 53) flX9_19 dX9_clamp_50 m0 rfl rfl ?_
      refine g_sipush (v := iZ 152) (q := 56) dX9_clamp_53 (by decide) rfl ?_
      refine g_iload_n (q := 57) dX9_clamp_56 rfl rfl ?_
      refine z_isubc (c := (-c + 152)) (q := 58) dX9_clamp_57 (by omega) rfl ?_
      refine z_iald (q := 59) dX9_clamp_58 m4 (by omega) rfl ?_
      have b6 := bS (-c + 152)
      refine g_istore (ml' := [some (.ref a), some (.int (iZ c)), some (.int (iZ col)), some (.int (iZ ((A 3) (c + 151)))), some (.int (iZ ((A 3) (-c + 152))))]) (q := 61) dX9_clamp_59 rfl (Nat.le_of_ble_eq_true rfl) rfl rfl ?_
      refine g_iload_n (q := 62) dX9_clamp_61 rfl rfl ?_
      refine g_iload_n (q := 63) dX9_clamp_62 rfl rfl ?_
      refine z_icmp_eq (t := 91) (q := 66) dX9_clamp_63 rfl (by omega) rfl (fun pc7 => ?_) (fun pc7 => ?_)
      · refine g_bipush (v := iZ (-2)) (q := 93) dX9_clamp_91 (by decide) rfl ?_
        refine z_iret dX9_clamp_93 rfl ?_
        unfold spClamp; (repeat (first | rw [if_pos (by omega)] | rw [if_neg (by omega)]))
        exact mPost.same hM _
      · refine g_aload_n (q := 67) dX9_clamp_66 rfl rfl ?_
        refine g_get (q := 70) flX9_13 dX9_clamp_67 m0 rfl rfl ?_
        refine z_iconst (q := 71) dX9_clamp_70 rfl ?_
        refine z_iald (q := 72) dX9_clamp_71 m2 (by omega) rfl ?_
        have b8 := bT 4
        refine z_iconst (q := 73) dX9_clamp_72 rfl ?_
        refine z_icmp_ne (t := 94) (q := 76) dX9_clamp_73 rfl (by omega) rfl (fun pc9 => ?_) (fun pc9 => ?_)
        · refine g_aload_n (q := 95) dX9_clamp_94 rfl rfl ?_
          refine g_callV (As := []) (rest := []) (q := 98) moX9_note lkX9_clamp_149 dX9_clamp_95 rfl m0 (r_M_note σ a I A hM hn) rfl rfl (Nat.le_of_ble_eq_true rfl) (Nat.le_of_ble_eq_true rfl) (Nat.le_of_ble_eq_true rfl) rfl ?_
          rintro r1 σn ⟨rfl, hMn, hFn⟩
          clear m0 m1 m2 m3 m4 m5 m6 m7 m8 m9 m10 m11
          obtain ⟨m0, m1, m2, m3, m4, m5, m6, m7, m8, m9, m10, m11⟩ := id hMn
          have m0 : σn[a]? = some (.inr (9, [.int (iZ (I 0)), .ref (a + 1), .int (iZ (I 1)), .ref (a + 2), .ref (a + 3), .ref (a + 4), .ref (a + 5), .int (iZ (mNoteN (I 2))), .ref (a + 6), .ref (a + 7), .ref (a + 8), .int (iZ (I 3)), .int (iZ (I 4)), .ref (a + 9), .ref (a + 10), .ref (a + 11)])) := m0
          have m2 : σn[a + 2]? = some (.inl (0, 51, .inl (zA (A 1)))) := m2
          have m4 : σn[a + 4]? = some (.inl (0, 156, .inl (zA (A 3)))) := m4
          show Go w mX9_clamp (0, 0) 98 [some (.ref a), some (.int (iZ c)), some (.int (iZ col)), some (.int (iZ ((A 3) (c + 151)))), some (.int (iZ ((A 3) (-c + 152))))] [] σn (mPost a I A σ (spClamp (A 1) (A 3) (A 4) (I 2) c col))
          refine g_aload_n (q := 99) dX9_clamp_98 rfl rfl ?_
          refine g_get (q := 102) flX9_19 dX9_clamp_99 m0 rfl rfl ?_
          refine g_sipush (v := iZ 151) (q := 105) dX9_clamp_102 (by decide) rfl ?_
          refine g_iload_n (q := 106) dX9_clamp_105 rfl rfl ?_
          refine z_iaddc (c := (c + 151)) (q := 107) dX9_clamp_106 (by omega) rfl ?_
          refine g_iload_n (q := 108) dX9_clamp_107 rfl rfl ?_
          refine z_iast (q := 109) dX9_clamp_108 m4 (by omega) rfl (fun σ10 c11 f12 => ?_)
          have c13 := (f12.2 a (by omega)).trans m0
          have c14 := (f12.2 (a + 1) (by omega)).trans m1
          have c15 := (f12.2 (a + 2) (by omega)).trans m2
          have c16 := (f12.2 (a + 3) (by omega)).trans m3
          have c17 := (f12.2 (a + 5) (by omega)).trans m5
          have c18 := (f12.2 (a + 6) (by omega)).trans m6
          have c19 := (f12.2 (a + 7) (by omega)).trans m7
          have c20 := (f12.2 (a + 8) (by omega)).trans m8
          have c21 := (f12.2 (a + 9) (by omega)).trans m9
          have c22 := (f12.2 (a + 10) (by omega)).trans m10
          have c23 := (f12.2 (a + 11) (by omega)).trans m11
          refine g_aload_n (q := 110) dX9_clamp_109 rfl rfl ?_
          refine g_get (q := 113) flX9_19 dX9_clamp_110 c13 rfl rfl ?_
          refine g_sipush (v := iZ 155) (q := 116) dX9_clamp_113 (by decide) rfl ?_
          refine g_dup2 (q := 117) dX9_clamp_116 rfl rfl rfl ?_
          refine z_iald (q := 118) dX9_clamp_117 c11 (by omega) rfl ?_
          refine z_iconst (q := 119) dX9_clamp_118 rfl ?_
          refine z_iadd (q := 120) dX9_clamp_119 rfl ?_
          refine z_iast (q := 121) dX9_clamp_120 c11 (by omega) rfl (fun σ24 c25 f26 => ?_)
          have c27 := (f26.2 a (by omega)).trans c13
          have c28 := (f26.2 (a + 1) (by omega)).trans c14
          have c29 := (f26.2 (a + 2) (by omega)).trans c15
          have c30 := (f26.2 (a + 3) (by omega)).trans c16
          have c31 := (f26.2 (a + 5) (by omega)).trans c17
          have c32 := (f26.2 (a + 6) (by omega)).trans c18
          have c33 := (f26.2 (a + 7) (by omega)).trans c19
          have c34 := (f26.2 (a + 8) (by omega)).trans c20
          have c35 := (f26.2 (a + 9) (by omega)).trans c21
          have c36 := (f26.2 (a + 10) (by omega)).trans c22
          have c37 := (f26.2 (a + 11) (by omega)).trans c23
          refine g_iload_n (q := 122) dX9_clamp_121 rfl rfl ?_
          refine z_iret dX9_clamp_122 rfl ?_
          unfold spClamp; (repeat (first | rw [if_pos (by omega)] | rw [if_neg (by omega)]))
          exact ⟨rfl, rM.mc (I := nup I 2 (mNoteN (I 2))) (A := nup (nup A 4 (mNoteB (A 4) (A 3) (I 2))) 3 (zup (zup (A 3) (c + 151) col) 155 (((zup (A 3) (c + 151) col) 155) + 1))) ⟨c27, c28, c29, c30, c25, c31, c32, c33, c34, c35, c36, c37⟩, ((hFn.step f12 ⟨by omega, by omega⟩).step f26 ⟨by omega, by omega⟩)⟩
        · refine g_iload_n (q := 77) dX9_clamp_76 rfl rfl ?_
          refine g_iload (q := 79) dX9_clamp_77 rfl rfl ?_
          refine z_isub (q := 80) dX9_clamp_79 rfl ?_
          refine z_i2l (q := 81) dX9_clamp_80 (by omega) rfl ?_
          refine g_ldc2 (v := lZ (-1)) (q := 84) dX9_clamp_81 klX9_174 rfl ?_
          refine g_lconst (v := lZ 1) (q := 85) dX9_clamp_84 (by decide) rfl ?_
          refine g_callS (As := [.long (lZ (col - ((A 3) (-c + 152)))), .long (lZ (-1)), .long (lZ 1)]) (rest := []) (q := 88) moX9_in lkX9_clamp_58 dX9_clamp_85 (r_M_in σ (col - ((A 3) (-c + 152))) (-1) 1 (by omega) (by omega) (by omega)) rfl rfl (Nat.le_of_ble_eq_true rfl) (Nat.le_of_ble_eq_true rfl) (Nat.le_of_ble_eq_true rfl) rfl ?_
          rintro r1 s1 hp
          rw [hp.1, hp.2]
          show Go w mX9_clamp (0, 0) 88 [some (.ref a), some (.int (iZ c)), some (.int (iZ col)), some (.int (iZ ((A 3) (c + 151)))), some (.int (iZ ((A 3) (-c + 152))))] [.int (bI ((-1) ≤ (col - ((A 3) (-c + 152))) ∧ (col - ((A 3) (-c + 152))) ≤ 1))] σ (mPost a I A σ (spClamp (A 1) (A 3) (A 4) (I 2) c col))
          refine z_ifB_eq (t := 94) (q := 91) dX9_clamp_88 rfl rfl (fun pc38 => ?_) (fun pc38 => ?_)
          · refine g_aload_n (q := 95) dX9_clamp_94 rfl rfl ?_
            refine g_callV (As := []) (rest := []) (q := 98) moX9_note lkX9_clamp_149 dX9_clamp_95 rfl m0 (r_M_note σ a I A hM hn) rfl rfl (Nat.le_of_ble_eq_true rfl) (Nat.le_of_ble_eq_true rfl) (Nat.le_of_ble_eq_true rfl) rfl ?_
            rintro r1 σn ⟨rfl, hMn, hFn⟩
            clear m0 m1 m2 m3 m4 m5 m6 m7 m8 m9 m10 m11
            obtain ⟨m0, m1, m2, m3, m4, m5, m6, m7, m8, m9, m10, m11⟩ := id hMn
            have m0 : σn[a]? = some (.inr (9, [.int (iZ (I 0)), .ref (a + 1), .int (iZ (I 1)), .ref (a + 2), .ref (a + 3), .ref (a + 4), .ref (a + 5), .int (iZ (mNoteN (I 2))), .ref (a + 6), .ref (a + 7), .ref (a + 8), .int (iZ (I 3)), .int (iZ (I 4)), .ref (a + 9), .ref (a + 10), .ref (a + 11)])) := m0
            have m2 : σn[a + 2]? = some (.inl (0, 51, .inl (zA (A 1)))) := m2
            have m4 : σn[a + 4]? = some (.inl (0, 156, .inl (zA (A 3)))) := m4
            show Go w mX9_clamp (0, 0) 98 [some (.ref a), some (.int (iZ c)), some (.int (iZ col)), some (.int (iZ ((A 3) (c + 151)))), some (.int (iZ ((A 3) (-c + 152))))] [] σn (mPost a I A σ (spClamp (A 1) (A 3) (A 4) (I 2) c col))
            refine g_aload_n (q := 99) dX9_clamp_98 rfl rfl ?_
            refine g_get (q := 102) flX9_19 dX9_clamp_99 m0 rfl rfl ?_
            refine g_sipush (v := iZ 151) (q := 105) dX9_clamp_102 (by decide) rfl ?_
            refine g_iload_n (q := 106) dX9_clamp_105 rfl rfl ?_
            refine z_iaddc (c := (c + 151)) (q := 107) dX9_clamp_106 (by omega) rfl ?_
            refine g_iload_n (q := 108) dX9_clamp_107 rfl rfl ?_
            refine z_iast (q := 109) dX9_clamp_108 m4 (by omega) rfl (fun σ39 c40 f41 => ?_)
            have c42 := (f41.2 a (by omega)).trans m0
            have c43 := (f41.2 (a + 1) (by omega)).trans m1
            have c44 := (f41.2 (a + 2) (by omega)).trans m2
            have c45 := (f41.2 (a + 3) (by omega)).trans m3
            have c46 := (f41.2 (a + 5) (by omega)).trans m5
            have c47 := (f41.2 (a + 6) (by omega)).trans m6
            have c48 := (f41.2 (a + 7) (by omega)).trans m7
            have c49 := (f41.2 (a + 8) (by omega)).trans m8
            have c50 := (f41.2 (a + 9) (by omega)).trans m9
            have c51 := (f41.2 (a + 10) (by omega)).trans m10
            have c52 := (f41.2 (a + 11) (by omega)).trans m11
            refine g_aload_n (q := 110) dX9_clamp_109 rfl rfl ?_
            refine g_get (q := 113) flX9_19 dX9_clamp_110 c42 rfl rfl ?_
            refine g_sipush (v := iZ 155) (q := 116) dX9_clamp_113 (by decide) rfl ?_
            refine g_dup2 (q := 117) dX9_clamp_116 rfl rfl rfl ?_
            refine z_iald (q := 118) dX9_clamp_117 c40 (by omega) rfl ?_
            refine z_iconst (q := 119) dX9_clamp_118 rfl ?_
            refine z_iadd (q := 120) dX9_clamp_119 rfl ?_
            refine z_iast (q := 121) dX9_clamp_120 c40 (by omega) rfl (fun σ53 c54 f55 => ?_)
            have c56 := (f55.2 a (by omega)).trans c42
            have c57 := (f55.2 (a + 1) (by omega)).trans c43
            have c58 := (f55.2 (a + 2) (by omega)).trans c44
            have c59 := (f55.2 (a + 3) (by omega)).trans c45
            have c60 := (f55.2 (a + 5) (by omega)).trans c46
            have c61 := (f55.2 (a + 6) (by omega)).trans c47
            have c62 := (f55.2 (a + 7) (by omega)).trans c48
            have c63 := (f55.2 (a + 8) (by omega)).trans c49
            have c64 := (f55.2 (a + 9) (by omega)).trans c50
            have c65 := (f55.2 (a + 10) (by omega)).trans c51
            have c66 := (f55.2 (a + 11) (by omega)).trans c52
            refine g_iload_n (q := 122) dX9_clamp_121 rfl rfl ?_
            refine z_iret dX9_clamp_122 rfl ?_
            unfold spClamp; (repeat (first | rw [if_pos (by omega)] | rw [if_neg (by omega)]))
            exact ⟨rfl, rM.mc (I := nup I 2 (mNoteN (I 2))) (A := nup (nup A 4 (mNoteB (A 4) (A 3) (I 2))) 3 (zup (zup (A 3) (c + 151) col) 155 (((zup (A 3) (c + 151) col) 155) + 1))) ⟨c56, c57, c58, c59, c54, c60, c61, c62, c63, c64, c65, c66⟩, ((hFn.step f41 ⟨by omega, by omega⟩).step f55 ⟨by omega, by omega⟩)⟩
          · refine g_bipush (v := iZ (-2)) (q := 93) dX9_clamp_91 (by decide) rfl ?_
            refine z_iret dX9_clamp_93 rfl ?_
            unfold spClamp; (repeat (first | rw [if_pos (by omega)] | rw [if_neg (by omega)]))
            exact mPost.same hM _
    · refine z_iconst (q := 37) dX9_clamp_36 rfl ?_
      refine z_iret dX9_clamp_37 rfl ?_
      unfold spClamp; (repeat (first | rw [if_pos (by omega)] | rw [if_neg (by omega)]))
      exact mPost.same hM _
theorem r_M_undo2 (σ : g_H0) (a : Nat) (I : Nat → Int) (A : Nat → Int → Int) (hM : rM a I A σ) (hn : 0 ≤ I 2 ∧ I 2 ≤ 6) : Ret mX9_undo [.ref a] σ (mPost a I A σ (spUndo (A 3) (A 4) (I 2))) := by
  refine (r_M_undo σ a I A hM hn).mono (fun r σ1 hp => ?_)
  unfold spUndo
  rcases hp with ⟨h0, rfl, rfl⟩ | ⟨h0, rfl, h1, h2⟩
  · rw [if_pos h0]; exact mPost.same hM _
  · rw [if_neg h0]; exact ⟨rfl, h1.mc, h2⟩
theorem r_M_hit (σ : g_H0) (a : Nat) (I : Nat → Int) (A : Nat → Int → Int) (hM : rM a I A σ) (k x y t : Int) (b_k : -2147483648 ≤ k ∧ k < 2147483648) (b_x : -2147483648 ≤ x ∧ x < 2147483648) (b_y : -2147483648 ≤ y ∧ y < 2147483648) (b_t : -2147483648 ≤ t ∧ t < 2147483648) (hT : wfT (A 1)) (hS : wfS (A 1) (A 3)) (hn : 0 ≤ I 2 ∧ I 2 ≤ 6) : Ret mX9_hit [.ref a, .int (iZ k), .int (iZ x), .int (iZ y), .int (iZ t)] σ (mPost a I A σ (spHit (A 1) (A 3) (A 4) (I 2) k x y t)) := by
  refine Ret.of moX9_hit.1 (Nat.le_of_ble_eq_true rfl) (fun w => ?_)
  obtain ⟨m0, m1, m2, m3, m4, m5, m6, m7, m8, m9, m10, m11⟩ := id hM
  have bT := hT.1
  have bS := hS.bs hT
  have q0 := hT.2.1
  have q1 := hT.2.2.1
  have q2 := hT.2.2.2.1
  have h3 := hT.2.2.2.2.1
  have h4 := hT.2.2.2.2.2.1
  have s150 := hS.2.2.1
  show Go w mX9_hit (0, 0) 0 [some (.ref a), some (.int (iZ k)), some (.int (iZ x)), some (.int (iZ y)), some (.int (iZ t)), none] [] σ (mPost a I A σ (spHit (A 1) (A 3) (A 4) (I 2) k x y t))
  refine g_aload_n (q := 1) dX9_hit_0 rfl rfl ?_
  refine g_iload_n (q := 2) dX9_hit_1 rfl rfl ?_
  refine g_iload_n (q := 3) dX9_hit_2 rfl rfl ?_
  refine g_iload_n (q := 4) dX9_hit_3 rfl rfl ?_
  refine g_iload (q := 6) dX9_hit_4 rfl rfl ?_
  refine g_callV (As := [.int (iZ k), .int (iZ x), .int (iZ y), .int (iZ t)]) (rest := []) (q := 9) moX9_why lkX9_hit_146 dX9_hit_6 rfl m0 (r_M_why σ a I A hM k x y t (by omega) (by omega) (by omega) (by omega) hT hS) rfl rfl (Nat.le_of_ble_eq_true rfl) (Nat.le_of_ble_eq_true rfl) (Nat.le_of_ble_eq_true rfl) rfl ?_
  rintro r1 s1 hp
  rw [hp.1, hp.2]
  show Go w mX9_hit (0, 0) 9 [some (.ref a), some (.int (iZ k)), some (.int (iZ x)), some (.int (iZ y)), some (.int (iZ t)), none] [.int (iZ (mWhyQ (A 1) (A 3) k x y t))] σ (mPost a I A σ (spHit (A 1) (A 3) (A 4) (I 2) k x y t))
  have bq : -1 ≤ mWhyQ (A 1) (A 3) k x y t ∧ mWhyQ (A 1) (A 3) k x y t ≤ 6 := by have := mWhy_b (A 1) (A 3) k x y t; unfold mWhyQ; split <;> omega
  refine g_istore (ml' := [some (.ref a), some (.int (iZ k)), some (.int (iZ x)), some (.int (iZ y)), some (.int (iZ t)), some (.int (iZ (mWhyQ (A 1) (A 3) k x y t)))]) (q := 11) dX9_hit_9 rfl (Nat.le_of_ble_eq_true rfl) rfl rfl ?_
  refine g_iload (q := 13) dX9_hit_11 rfl rfl ?_
  refine z_if_eq (t := 29) (q := 16) dX9_hit_13 rfl (by omega) rfl (fun pc1 => ?_) (fun pc1 => ?_)
  · refine g_aload_n (q := 30) dX9_hit_29 rfl rfl ?_
    refine g_callV (As := []) (rest := []) (q := 33) moX9_note lkX9_hit_149 dX9_hit_30 rfl m0 (r_M_note σ a I A hM hn) rfl rfl (Nat.le_of_ble_eq_true rfl) (Nat.le_of_ble_eq_true rfl) (Nat.le_of_ble_eq_true rfl) rfl ?_
    rintro r1 σn ⟨rfl, hMn, hFn⟩
    clear m0 m1 m2 m3 m4 m5 m6 m7 m8 m9 m10 m11
    obtain ⟨m0, m1, m2, m3, m4, m5, m6, m7, m8, m9, m10, m11⟩ := id hMn
    have m0 : σn[a]? = some (.inr (9, [.int (iZ (I 0)), .ref (a + 1), .int (iZ (I 1)), .ref (a + 2), .ref (a + 3), .ref (a + 4), .ref (a + 5), .int (iZ (mNoteN (I 2))), .ref (a + 6), .ref (a + 7), .ref (a + 8), .int (iZ (I 3)), .int (iZ (I 4)), .ref (a + 9), .ref (a + 10), .ref (a + 11)])) := m0
    have m2 : σn[a + 2]? = some (.inl (0, 51, .inl (zA (A 1)))) := m2
    have m4 : σn[a + 4]? = some (.inl (0, 156, .inl (zA (A 3)))) := m4
    show Go w mX9_hit (0, 0) 33 [some (.ref a), some (.int (iZ k)), some (.int (iZ x)), some (.int (iZ y)), some (.int (iZ t)), some (.int (iZ (mWhyQ (A 1) (A 3) k x y t)))] [] σn (mPost a I A σ (spHit (A 1) (A 3) (A 4) (I 2) k x y t))
    refine g_aload_n (q := 34) dX9_hit_33 rfl rfl ?_
    refine g_iload_n (q := 35) dX9_hit_34 rfl rfl ?_
    refine g_iload_n (q := 36) dX9_hit_35 rfl rfl ?_
    refine g_iload_n (q := 37) dX9_hit_36 rfl rfl ?_
    refine g_iload (q := 39) dX9_hit_37 rfl rfl ?_
    have hv : (0 ≤ k ∧ k < A 1 2) ∧ (0 ≤ x ∧ x ≤ 99) ∧ (0 ≤ y ∧ y ≤ 99) ∧ (0 ≤ t ∧ t ≤ 1) := by
      by_cases hv : (0 ≤ k ∧ k < A 1 2) ∧ (0 ≤ x ∧ x ≤ 99) ∧ (0 ≤ y ∧ y ≤ 99) ∧ (0 ≤ t ∧ t ≤ 1)
      · exact hv
      · exfalso; have : mWhyQ (A 1) (A 3) k x y t = -1 := if_neg hv
        omega
    have h00 : mWhy (A 1) (A 3) k x y t = 0 := by rw [← show mWhyQ (A 1) (A 3) k x y t = mWhy (A 1) (A 3) k x y t from if_pos hv]; omega
    have hb0 := mWhy_0 h00
    have hw := hT.w hv.1.1 hv.1.2 t
    have hh := hT.h hv.1.1 hv.1.2 t
    have hS150 : mStrS x y (mWide (A 1) k t) ((mWide (A 1) k t) * (mHigh (A 1) k t)).toNat 0 (A 3) 150 = A 3 150 := mStrS_hi (b := (mHigh (A 1) k t)) (by omega) (by omega) (by omega) _ 0 (A 3) 150 (by omega) (by have := zmul36 hw hh; omega) (by omega)
    refine g_callV (As := [.int (iZ k), .int (iZ x), .int (iZ y), .int (iZ t)]) (rest := []) (q := 42) moX9_strikes lkX9_hit_152 dX9_hit_39 rfl m0 (r_M_strikes σn a (nup I 2 (mNoteN (I 2))) (nup A 4 (mNoteB (A 4) (A 3) (I 2))) hMn k x y t (by omega) (by omega) (by omega) (by omega) bT hw hh (show x + (mWide (A 1) k t) - 1 < 12 by omega) (show y + (mHigh (A 1) k t) - 1 < 12 by omega) ⟨hS150, s150.1, (show A 3 150 < 6 by omega)⟩) rfl rfl (Nat.le_of_ble_eq_true rfl) (Nat.le_of_ble_eq_true rfl) (Nat.le_of_ble_eq_true rfl) rfl ?_
    rintro r2 σs ⟨rfl, hMs, hFs⟩
    refine z_iret dX9_hit_42 rfl ?_
    unfold spHit; rw [if_pos (by omega)]
    exact ⟨rfl, hMs.mc, hFn.tr hFs⟩
  · refine g_iload (q := 18) dX9_hit_16 rfl rfl ?_
    refine z_iconst (q := 19) dX9_hit_18 rfl ?_
    refine z_icmp_ne (t := 26) (q := 22) dX9_hit_19 rfl (by omega) rfl (fun pc2 => ?_) (fun pc2 => ?_)
    · refine g_bipush (v := iZ (-2)) (q := 28) dX9_hit_26 (by decide) rfl ?_
      refine z_iret dX9_hit_28 rfl ?_
      unfold spHit; (repeat (first | rw [if_pos (by omega)] | rw [if_neg (by omega)]))
      exact mPost.same hM _
    · refine z_iconst (q := 23) dX9_hit_22 rfl ?_
      refine g_goto (q := 28) dX9_hit_23 rfl ?_
      refine z_iret dX9_hit_28 rfl ?_
      unfold spHit; (repeat (first | rw [if_pos (by omega)] | rw [if_neg (by omega)]))
      exact mPost.same hM _
