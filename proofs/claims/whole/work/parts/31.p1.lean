/-! the way round the TURRET -/
def mBackF (n here set on : Int) : Nat → Int → Int → Int
  | 0, _, b => b
  | m + 1, k, b => mBackF n here set on m (k + 1) (if (set / pw k) % 2 = 1 ∧ on < (k - here + n) % n ∧ b < n - (k - here + n) % n then n - (k - here + n) % n else b)
def mRoundF (n here set : Int) : Nat → Int → Int → Int
  | 0, _, l => l
  | m + 1, on, l => mRoundF n here set m (on + 1) (if (if on < mBackF n here set on n.toNat 0 0 then 2 * on + mBackF n here set on n.toNat 0 0 else on + 2 * mBackF n here set on n.toNat 0 0) < l then (if on < mBackF n here set on n.toNat 0 0 then 2 * on + mBackF n here set on n.toNat 0 0 else on + 2 * mBackF n here set on n.toNat 0 0) else l)
def mRound (n here set : Int) : Int := mRoundF n here set n.toNat 0 100
theorem mBackF_b (n here set on : Int) (hn : 1 ≤ n) : ∀ (m : Nat) (k b : Int), 0 ≤ b ∧ b ≤ n → 0 ≤ mBackF n here set on m k b ∧ mBackF n here set on m k b ≤ n
  | 0, k, b, h => h
  | m + 1, k, b, h => by
    unfold mBackF
    have h1 := Int.emod_nonneg (k - here + n) (b := n) (by omega)
    have h2 := Int.emod_lt_of_pos (k - here + n) (b := n) (by omega)
    exact mBackF_b n here set on hn m _ _ (by split <;> omega)
theorem mRoundF_b (n here set : Int) (hn : 1 ≤ n) : ∀ (m : Nat) (on l : Int), 0 ≤ on → 0 ≤ l ∧ l ≤ 100 → 0 ≤ mRoundF n here set m on l ∧ mRoundF n here set m on l ≤ 100
  | 0, on, l, _, h => h
  | m + 1, on, l, h0, h => by
    have hb := mBackF_b n here set on hn n.toNat 0 0 (by omega)
    unfold mRoundF
    refine mRoundF_b n here set hn m _ _ (by omega) ?_
    split <;> split <;> omega
theorem mRound_b {n here set : Int} (hn : 1 ≤ n) : 0 ≤ mRound n here set ∧ mRound n here set ≤ 100 := mRoundF_b n here set hn _ 0 100 (by omega) (by omega)
theorem l_M_round1 (w : g_W) (Φ : g_Post) (σ : g_H0) (a : Nat) (I : Nat → Int) (A : Nat → Int → Int) (hM : rM a I A σ) (set l on bf : Int) (bs : 0 ≤ set ∧ set < 64) (bT : zBd (A 1) 1000) (bS : zBs (A 3)) (q2 : 1 ≤ A 1 2 ∧ A 1 2 ≤ 6) (s150 : 0 ≤ A 3 150 ∧ A 3 150 < A 1 2) (bo : 0 ≤ on ∧ on < 7) (K : Go w mX9_round (0, 0) 91 [some (.ref a), some (.int (iZ set)), some (.int (iZ (A 1 2))), some (.int (iZ l)), some (.int (iZ on)), some (.int (iZ bf)), none, none] [] σ Φ) : ∀ (n : Nat) (k b : Int), 0 ≤ k → k + n = (A 1 2) → (0 ≤ b ∧ b ≤ (A 1 2)) → mBackF (A 1 2) (A 3 150) set on n k b = bf → Go w mX9_round (0, 0) 25 [some (.ref a), some (.int (iZ set)), some (.int (iZ (A 1 2))), some (.int (iZ l)), some (.int (iZ on)), some (.int (iZ b)), some (.int (iZ k)), none] [] σ (Φ) := by
  intro n
  induction n with
  | zero =>
    intro k b hk hkn hb0 hb
    obtain ⟨m0, m1, m2, m3, m4, m5, m6, m7, m8, m9, m10, m11⟩ := id hM
    refine g_iload (q := 27) dX9_round_25 rfl rfl ?_
    refine g_iload_n (q := 28) dX9_round_27 rfl rfl ?_
    refine z_icmp_ge (t := 91) (q := 31) dX9_round_28 rfl (by omega) rfl (fun pc1 => ?_) (fun pc1 => ?_)
    · refine Go.wk (ml' := [some (.ref a), some (.int (iZ set)), some (.int (iZ (A 1 2))), some (.int (iZ l)), some (.int (iZ on)), some (.int (iZ b)), none, none]) ⟨Or.inr rfl, Or.inr rfl, Or.inr rfl, Or.inr rfl, Or.inr rfl, Or.inr rfl, Or.inl rfl, Or.inl rfl, trivial⟩ ?_
      subst hb
      exact K
    · exfalso
      omega
  | succ n ih =>
    intro k b hk hkn hb0 hb
    obtain ⟨m0, m1, m2, m3, m4, m5, m6, m7, m8, m9, m10, m11⟩ := id hM
    refine g_iload (q := 27) dX9_round_25 rfl rfl ?_
    refine g_iload_n (q := 28) dX9_round_27 rfl rfl ?_
    refine z_icmp_ge (t := 91) (q := 31) dX9_round_28 rfl (by omega) rfl (fun pc1 => ?_) (fun pc1 => ?_)
    · exfalso
      omega
    · refine g_iload (q := 33) dX9_round_31 rfl rfl ?_
      refine g_aload_n (q := 34) dX9_round_33 rfl rfl ?_
      refine g_get (q := 37) flX9_19 dX9_round_34 m0 rfl rfl ?_
      refine g_sipush (v := iZ 150) (q := 40) dX9_round_37 (by decide) rfl ?_
      refine z_iald (q := 41) dX9_round_40 m4 (by omega) rfl ?_
      refine z_isub (q := 42) dX9_round_41 rfl ?_
      refine g_iload_n (q := 43) dX9_round_42 rfl rfl ?_
      refine z_iaddc (c := (k - ((A 3) 150) + (A 1 2))) (q := 44) dX9_round_43 (by omega) rfl ?_
      refine g_iload_n (q := 45) dX9_round_44 rfl rfl ?_
      refine z_irem (q := 46) dX9_round_45 (by omega) rfl ?_
      refine g_istore (ml' := [some (.ref a), some (.int (iZ set)), some (.int (iZ (A 1 2))), some (.int (iZ l)), some (.int (iZ on)), some (.int (iZ b)), some (.int (iZ k)), some (.int (iZ ((k - ((A 3) 150) + (A 1 2)) % (A 1 2))))]) (q := 48) dX9_round_46 rfl (Nat.le_of_ble_eq_true rfl) rfl rfl ?_
      have e1 := Int.emod_nonneg (k - (A 3 150) + (A 1 2)) (b := (A 1 2)) (by omega)
      have e2 := Int.emod_lt_of_pos (k - (A 3 150) + (A 1 2)) (b := (A 1 2)) (by omega)
      have J2 : ∀ z3 : Int, z3 = (if (set / pw k) % 2 = 1 ∧ on < ((k - (A 3 150) + (A 1 2)) % (A 1 2)) ∧ b < (A 1 2) - ((k - (A 3 150) + (A 1 2)) % (A 1 2)) then (A 1 2) - ((k - (A 3 150) + (A 1 2)) % (A 1 2)) else b) → Go w mX9_round (0, 0) 83 [some (.ref a), some (.int (iZ set)), some (.int (iZ (A 1 2))), some (.int (iZ l)), some (.int (iZ on)), some (.int (iZ b)), some (.int (iZ k)), some (.int (iZ ((k - ((A 3) 150) + (A 1 2)) % (A 1 2))))] [.int (iZ z3)] σ (Φ) := by
        intro z3 e4
        refine g_istore (ml' := [some (.ref a), some (.int (iZ set)), some (.int (iZ (A 1 2))), some (.int (iZ l)), some (.int (iZ on)), some (.int (iZ z3)), some (.int (iZ k)), some (.int (iZ ((k - ((A 3) 150) + (A 1 2)) % (A 1 2))))]) (q := 85) dX9_round_83 rfl (Nat.le_of_ble_eq_true rfl) rfl rfl ?_
        refine z_iincc (c := (k + 1)) (ml' := [some (.ref a), some (.int (iZ set)), some (.int (iZ (A 1 2))), some (.int (iZ l)), some (.int (iZ on)), some (.int (iZ z3)), some (.int (iZ (k + 1))), some (.int (iZ ((k - ((A 3) 150) + (A 1 2)) % (A 1 2))))]) (q := 88) dX9_round_85 rfl (by omega) rfl rfl rfl ?_
        refine g_goto (q := 25) dX9_round_88 rfl ?_
        refine Go.wk (ml' := [some (.ref a), some (.int (iZ set)), some (.int (iZ (A 1 2))), some (.int (iZ l)), some (.int (iZ on)), some (.int (iZ z3)), some (.int (iZ (k + 1))), none]) ⟨Or.inr rfl, Or.inr rfl, Or.inr rfl, Or.inr rfl, Or.inr rfl, Or.inr rfl, Or.inr rfl, Or.inl rfl, trivial⟩ ?_
        exact ih (k + 1) z3 (by omega) (by omega) (by omega) (by rw [← hb]; subst_vars; rfl)
      refine g_iload_n (q := 49) dX9_round_48 rfl rfl ?_
      refine g_iload (q := 51) dX9_round_49 rfl rfl ?_
      refine z_ishr (q := 52) dX9_round_51 (by omega) rfl ?_
      have b5 := pw_div (a := set) (b := k) (by omega) (by omega)
      refine z_iconst (q := 53) dX9_round_52 rfl ?_
      refine z_iand1 (q := 54) dX9_round_53 (by omega) rfl ?_
      refine z_iconst (q := 55) dX9_round_54 rfl ?_
      refine z_icmp_ne (t := 81) (q := 58) dX9_round_55 rfl (by omega) rfl (fun pc6 => ?_) (fun pc6 => ?_)
      · refine g_iload (q := 83) dX9_round_81 rfl rfl ?_
        exact J2 _ (by omega)
      · refine g_iload (q := 60) dX9_round_58 rfl rfl ?_
        refine g_iload (q := 62) dX9_round_60 rfl rfl ?_
        refine z_icmp_le (t := 81) (q := 65) dX9_round_62 rfl (by omega) rfl (fun pc7 => ?_) (fun pc7 => ?_)
        · refine g_iload (q := 83) dX9_round_81 rfl rfl ?_
          exact J2 _ (by omega)
        · refine g_iload_n (q := 66) dX9_round_65 rfl rfl ?_
          refine g_iload (q := 68) dX9_round_66 rfl rfl ?_
          refine z_isub (q := 69) dX9_round_68 rfl ?_
          refine g_iload (q := 71) dX9_round_69 rfl rfl ?_
          refine z_icmp_le (t := 81) (q := 74) dX9_round_71 rfl (by omega) rfl (fun pc8 => ?_) (fun pc8 => ?_)
          · refine g_iload (q := 83) dX9_round_81 rfl rfl ?_
            exact J2 _ (by omega)
          · refine g_iload_n (q := 75) dX9_round_74 rfl rfl ?_
            refine g_iload (q := 77) dX9_round_75 rfl rfl ?_
            refine z_isub (q := 78) dX9_round_77 rfl ?_
            refine g_goto (q := 83) dX9_round_78 rfl ?_
            exact J2 _ (by omega)
theorem l_M_round2 (w : g_W) (σ : g_H0) (a : Nat) (I : Nat → Int) (A : Nat → Int → Int) (hM : rM a I A σ) (set : Int) (bs : 0 ≤ set ∧ set < 64) (bT : zBd (A 1) 1000) (bS : zBs (A 3)) (q2 : 1 ≤ A 1 2 ∧ A 1 2 ≤ 6) (s150 : 0 ≤ A 3 150 ∧ A 3 150 < A 1 2) : ∀ (n : Nat) (on l : Int), 0 ≤ on → on + n = (A 1 2) → (0 ≤ l ∧ l ≤ 100) → Go w mX9_round (0, 0) 13 [some (.ref a), some (.int (iZ set)), some (.int (iZ (A 1 2))), some (.int (iZ l)), some (.int (iZ on)), none, none, none] [] σ (fun r σ' => r = some (.int (iZ (mRoundF (A 1 2) (A 3 150) set n on l))) ∧ σ' = σ) := by
  intro n
  induction n with
  | zero =>
    intro on l ho hon hl
    obtain ⟨m0, m1, m2, m3, m4, m5, m6, m7, m8, m9, m10, m11⟩ := id hM
    refine g_iload (q := 15) dX9_round_13 rfl rfl ?_
    refine g_iload_n (q := 16) dX9_round_15 rfl rfl ?_
    refine z_icmp_ge (t := 136) (q := 19) dX9_round_16 rfl (by omega) rfl (fun pc1 => ?_) (fun pc1 => ?_)
    · refine g_iload_n (q := 137) dX9_round_136 rfl rfl ?_
      refine z_iret dX9_round_137 rfl ?_
      exact ⟨rfl, rfl⟩
    · exfalso
      omega
  | succ n ih =>
    intro on l ho hon hl
    obtain ⟨m0, m1, m2, m3, m4, m5, m6, m7, m8, m9, m10, m11⟩ := id hM
    refine g_iload (q := 15) dX9_round_13 rfl rfl ?_
    refine g_iload_n (q := 16) dX9_round_15 rfl rfl ?_
    refine z_icmp_ge (t := 136) (q := 19) dX9_round_16 rfl (by omega) rfl (fun pc1 => ?_) (fun pc1 => ?_)
    · exfalso
      omega
    · refine z_iconst (q := 20) dX9_round_19 rfl ?_
      refine g_istore (ml' := [some (.ref a), some (.int (iZ set)), some (.int (iZ (A 1 2))), some (.int (iZ l)), some (.int (iZ on)), some (.int (iZ 0)), none, none]) (q := 22) dX9_round_20 rfl (Nat.le_of_ble_eq_true rfl) rfl rfl ?_
      refine z_iconst (q := 23) dX9_round_22 rfl ?_
      refine g_istore (ml' := [some (.ref a), some (.int (iZ set)), some (.int (iZ (A 1 2))), some (.int (iZ l)), some (.int (iZ on)), some (.int (iZ 0)), some (.int (iZ 0)), none]) (q := 25) dX9_round_23 rfl (Nat.le_of_ble_eq_true rfl) rfl rfl ?_
      refine l_M_round1 w _ σ a I A hM set l on (mBackF (A 1 2) (A 3 150) set on (A 1 2).toNat 0 0) bs bT bS q2 s150 (by omega) ?_ (A 1 2).toNat 0 0 (by omega) (by omega) (by omega) rfl
      have bb := mBackF_b (A 1 2) (A 3 150) set on (by omega) (A 1 2).toNat 0 0 (by omega)
      have J2 : ∀ z3 : Int, z3 = (if on < (mBackF (A 1 2) (A 3 150) set on (A 1 2).toNat 0 0) then 2 * on + (mBackF (A 1 2) (A 3 150) set on (A 1 2).toNat 0 0) else on + 2 * (mBackF (A 1 2) (A 3 150) set on (A 1 2).toNat 0 0)) → Go w mX9_round (0, 0) 115 [some (.ref a), some (.int (iZ set)), some (.int (iZ (A 1 2))), some (.int (iZ l)), some (.int (iZ on)), some (.int (iZ (mBackF (A 1 2) (A 3 150) set on (A 1 2).toNat 0 0))), none, none] [.int (iZ z3)] σ (fun r σ' => r = some (.int (iZ (mRoundF (A 1 2) (A 3 150) set (n + 1) on l))) ∧ σ' = σ) := by
        intro z3 e4
        refine g_istore (ml' := [some (.ref a), some (.int (iZ set)), some (.int (iZ (A 1 2))), some (.int (iZ l)), some (.int (iZ on)), some (.int (iZ (mBackF (A 1 2) (A 3 150) set on (A 1 2).toNat 0 0))), some (.int (iZ z3)), none]) (q := 117) dX9_round_115 rfl (Nat.le_of_ble_eq_true rfl) rfl rfl ?_
        have J5 : ∀ z6 : Int, z6 = (if z3 < l then z3 else l) → Go w mX9_round (0, 0) 129 [some (.ref a), some (.int (iZ set)), some (.int (iZ (A 1 2))), some (.int (iZ l)), some (.int (iZ on)), some (.int (iZ (mBackF (A 1 2) (A 3 150) set on (A 1 2).toNat 0 0))), some (.int (iZ z3)), none] [.int (iZ z6)] σ (fun r σ' => r = some (.int (iZ (mRoundF (A 1 2) (A 3 150) set (n + 1) on l))) ∧ σ' = σ) := by
          intro z6 e7
          refine g_istore_n (ml' := [some (.ref a), some (.int (iZ set)), some (.int (iZ (A 1 2))), some (.int (iZ z6)), some (.int (iZ on)), some (.int (iZ (mBackF (A 1 2) (A 3 150) set on (A 1 2).toNat 0 0))), some (.int (iZ z3)), none]) (q := 130) dX9_round_129 rfl (Nat.le_of_ble_eq_true rfl) rfl rfl ?_
          refine z_iincc (c := (on + 1)) (ml' := [some (.ref a), some (.int (iZ set)), some (.int (iZ (A 1 2))), some (.int (iZ z6)), some (.int (iZ (on + 1))), some (.int (iZ (mBackF (A 1 2) (A 3 150) set on (A 1 2).toNat 0 0))), some (.int (iZ z3)), none]) (q := 133) dX9_round_130 rfl (by omega) rfl rfl rfl ?_
          refine g_goto (q := 13) dX9_round_133 rfl ?_
          refine Go.wk (ml' := [some (.ref a), some (.int (iZ set)), some (.int (iZ (A 1 2))), some (.int (iZ z6)), some (.int (iZ (on + 1))), none, none, none]) ⟨Or.inr rfl, Or.inr rfl, Or.inr rfl, Or.inr rfl, Or.inr rfl, Or.inl rfl, Or.inl rfl, Or.inl rfl, trivial⟩ ?_
          refine (ih (on + 1) z6 (by omega) (by omega) (by omega)).mono (fun r σ1 hp => ⟨hp.1.trans ?_, hp.2⟩)
          subst_vars
          rfl
        refine g_iload (q := 119) dX9_round_117 rfl rfl ?_
        refine g_iload_n (q := 120) dX9_round_119 rfl rfl ?_
        refine z_icmp_ge (t := 128) (q := 123) dX9_round_120 rfl (by omega) rfl (fun pc8 => ?_) (fun pc8 => ?_)
        · refine g_iload_n (q := 129) dX9_round_128 rfl rfl ?_
          exact J5 _ (by omega)
        · refine g_iload (q := 125) dX9_round_123 rfl rfl ?_
          refine g_goto (q := 129) dX9_round_125 rfl ?_
          exact J5 _ (by omega)
      refine g_iload (q := 93) dX9_round_91 rfl rfl ?_
      refine g_iload (q := 95) dX9_round_93 rfl rfl ?_
      refine z_icmp_ge (t := 108) (q := 98) dX9_round_95 rfl (by omega) rfl (fun pc9 => ?_) (fun pc9 => ?_)
      · refine g_iload (q := 110) dX9_round_108 rfl rfl ?_
        refine z_iconst (q := 111) dX9_round_110 rfl ?_
        refine g_iload (q := 113) dX9_round_111 rfl rfl ?_
        refine z_imul (q := 114) dX9_round_113 rfl ?_
        refine z_iaddc (c := (on + 2 * (mBackF (A 1 2) (A 3 150) set on (A 1 2).toNat 0 0))) (q := 115) dX9_round_114 (by omega) rfl ?_
        exact J2 _ (by omega)
      · refine z_iconst (q := 99) dX9_round_98 rfl ?_
        refine g_iload (q := 101) dX9_round_99 rfl rfl ?_
        refine z_imul (q := 102) dX9_round_101 rfl ?_
        refine g_iload (q := 104) dX9_round_102 rfl rfl ?_
        refine z_iaddc (c := (2 * on + (mBackF (A 1 2) (A 3 150) set on (A 1 2).toNat 0 0))) (q := 105) dX9_round_104 (by omega) rfl ?_
        refine g_goto (q := 115) dX9_round_105 rfl ?_
        exact J2 _ (by omega)
theorem r_M_round (σ : g_H0) (a : Nat) (I : Nat → Int) (A : Nat → Int → Int) (hM : rM a I A σ) (set : Int) (bs : 0 ≤ set ∧ set < 64) (bT : zBd (A 1) 1000) (bS : zBs (A 3)) (q2 : 1 ≤ A 1 2 ∧ A 1 2 ≤ 6) (s150 : 0 ≤ A 3 150 ∧ A 3 150 < A 1 2) : Ret mX9_round [.ref a, .int (iZ set)] σ (fun r σ' => r = some (.int (iZ (mRound (A 1 2) (A 3 150) set))) ∧ σ' = σ) := by
  refine Ret.of moX9_round.1 (Nat.le_of_ble_eq_true rfl) (fun w => ?_)
  obtain ⟨m0, m1, m2, m3, m4, m5, m6, m7, m8, m9, m10, m11⟩ := id hM
  show Go w mX9_round (0, 0) 0 [some (.ref a), some (.int (iZ set)), none, none, none, none, none, none] [] σ (fun r σ' => r = some (.int (iZ (mRound (A 1 2) (A 3 150) set))) ∧ σ' = σ)
  refine g_aload_n (q := 1) dX9_round_0 rfl rfl ?_
  refine g_get (q := 4) flX9_13 dX9_round_1 m0 rfl rfl ?_
  refine z_iconst (q := 5) dX9_round_4 rfl ?_
  refine z_iald (q := 6) dX9_round_5 m2 (by omega) rfl ?_
  refine g_istore_n (ml' := [some (.ref a), some (.int (iZ set)), some (.int (iZ ((A 1) 2))), none, none, none, none, none]) (q := 7) dX9_round_6 rfl (Nat.le_of_ble_eq_true rfl) rfl rfl ?_
  refine g_bipush (v := iZ 100) (q := 9) dX9_round_7 (by decide) rfl ?_
  refine g_istore_n (ml' := [some (.ref a), some (.int (iZ set)), some (.int (iZ ((A 1) 2))), some (.int (iZ 100)), none, none, none, none]) (q := 10) dX9_round_9 rfl (Nat.le_of_ble_eq_true rfl) rfl rfl ?_
  refine z_iconst (q := 11) dX9_round_10 rfl ?_
  refine g_istore (ml' := [some (.ref a), some (.int (iZ set)), some (.int (iZ ((A 1) 2))), some (.int (iZ 100)), some (.int (iZ 0)), none, none, none]) (q := 13) dX9_round_11 rfl (Nat.le_of_ble_eq_true rfl) rfl rfl ?_
  exact l_M_round2 w σ a I A hM set bs bT bS q2 s150 (A 1 2).toNat 0 100 (by omega) (by omega) (by omega)
