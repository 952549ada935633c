/-! HOLES, CLAMPS -/
def mHoleF (T : Int → Int) (x y : Int) : Nat → Int → Int
  | 0, _ => -4
  | n + 1, h => if (T (4 * h + 29) ≤ x ∧ x < T (4 * h + 29) + T (4 * h + 31)) ∧ (T (4 * h + 30) ≤ y ∧ y < T (4 * h + 30) + T (4 * h + 32)) then h else mHoleF T x y n (h + 1)
def mHole (T : Int → Int) (x y : Int) : Int := mHoleF T x y (T 3).toNat 0
theorem mHoleF_rng (T : Int → Int) (x y : Int) : ∀ (n : Nat) (h : Int), mHoleF T x y n h = -4 ∨ (h ≤ mHoleF T x y n h ∧ mHoleF T x y n h < h + n)
  | 0, h => Or.inl rfl
  | n + 1, h => by
    unfold mHoleF
    split
    · right; omega
    · rcases mHoleF_rng T x y n (h + 1) with e | e
      · left; exact e
      · right; omega
def mClampF (T S : Int → Int) (x y : Int) : Nat → Int → Int
  | 0, _ => -4
  | n + 1, c => if y = T 1 - 1 ∧ (S (c + 151) ≤ x ∧ x ≤ S (c + 151) + 1) then c else mClampF T S x y n (c + 1)
def mClamp (T S : Int → Int) (x y : Int) : Int := mClampF T S x y (T 4).toNat 0
theorem mClampF_rng (T S : Int → Int) (x y : Int) : ∀ (n : Nat) (h : Int), mClampF T S x y n h = -4 ∨ (h ≤ mClampF T S x y n h ∧ mClampF T S x y n h < h + n)
  | 0, h => Or.inl rfl
  | n + 1, h => by
    unfold mClampF
    split
    · right; omega
    · rcases mClampF_rng T S x y n (h + 1) with e | e
      · left; exact e
      · right; omega
theorem l_M_holeAt (w : g_W) (σ : g_H0) (a : Nat) (I : Nat → Int) (A : Nat → Int → Int) (hM : rM a I A σ) (x y : Int) (b_x : -2147483648 ≤ x ∧ x < 2147483648) (b_y : -2147483648 ≤ y ∧ y < 2147483648) (bT : zBd (A 1) 1000) (h3 : 0 ≤ A 1 3 ∧ A 1 3 ≤ 5) : ∀ (n : Nat) (h : Int), 0 ≤ h → h + n = A 1 3 → Go w mX9_holeAt (0, 0) 2 [some (.ref a), some (.int (iZ x)), some (.int (iZ y)), some (.int (iZ h)), none] [] σ (fun r σ' => r = some (.int (iZ (mHoleF (A 1) x y n h))) ∧ σ' = σ) := by
  intro n
  induction n with
  | zero =>
    intro h h0 h1
    obtain ⟨m0, m1, m2, m3, m4, m5, m6, m7, m8, m9, m10, m11⟩ := id hM
    refine g_iload_n (q := 3) dX9_holeAt_2 rfl rfl ?_
    refine g_aload_n (q := 4) dX9_holeAt_3 rfl rfl ?_
    refine g_get (q := 7) flX9_13 dX9_holeAt_4 m0 rfl rfl ?_
    refine z_iconst (q := 8) dX9_holeAt_7 rfl ?_
    refine z_iald (q := 9) dX9_holeAt_8 m2 (by omega) rfl ?_
    have b1 := bT 3
    refine z_icmp_ge (t := 104) (q := 12) dX9_holeAt_9 rfl (by omega) rfl (fun pc2 => ?_) (fun pc2 => ?_)
    · refine g_bipush (v := iZ (-4)) (q := 106) dX9_holeAt_104 (by decide) rfl ?_
      refine z_iret dX9_holeAt_106 rfl ?_
      exact ⟨congrArg (fun z => some (Value.int (iZ z))) (by unfold mHoleF; rfl), rfl⟩
    · exfalso
      omega
  | succ n ih =>
    intro h h0 h1
    obtain ⟨m0, m1, m2, m3, m4, m5, m6, m7, m8, m9, m10, m11⟩ := id hM
    refine g_iload_n (q := 3) dX9_holeAt_2 rfl rfl ?_
    refine g_aload_n (q := 4) dX9_holeAt_3 rfl rfl ?_
    refine g_get (q := 7) flX9_13 dX9_holeAt_4 m0 rfl rfl ?_
    refine z_iconst (q := 8) dX9_holeAt_7 rfl ?_
    refine z_iald (q := 9) dX9_holeAt_8 m2 (by omega) rfl ?_
    have b1 := bT 3
    refine z_icmp_ge (t := 104) (q := 12) dX9_holeAt_9 rfl (by omega) rfl (fun pc2 => ?_) (fun pc2 => ?_)
    · exfalso
      omega
    · refine g_bipush (v := iZ 29) (q := 14) dX9_holeAt_12 (by decide) rfl ?_
      refine z_iconst (q := 15) dX9_holeAt_14 rfl ?_
      refine g_iload_n (q := 16) dX9_holeAt_15 rfl rfl ?_
      refine z_imul (q := 17) dX9_holeAt_16 rfl ?_
      refine z_iaddc (c := (4 * h + 29)) (q := 18) dX9_holeAt_17 (by omega) rfl ?_
      refine g_istore (ml' := [some (.ref a), some (.int (iZ x)), some (.int (iZ y)), some (.int (iZ h)), some (.int (iZ (4 * h + 29)))]) (q := 20) dX9_holeAt_18 rfl (Nat.le_of_ble_eq_true rfl) rfl rfl ?_
      refine g_iload_n (q := 21) dX9_holeAt_20 rfl rfl ?_
      refine z_i2l (q := 22) dX9_holeAt_21 (by omega) rfl ?_
      refine g_aload_n (q := 23) dX9_holeAt_22 rfl rfl ?_
      refine g_get (q := 26) flX9_13 dX9_holeAt_23 m0 rfl rfl ?_
      refine g_iload (q := 28) dX9_holeAt_26 rfl rfl ?_
      refine z_iald (q := 29) dX9_holeAt_28 m2 (by omega) rfl ?_
      have b3 := bT (4 * h + 29)
      refine z_i2l (q := 30) dX9_holeAt_29 (by omega) rfl ?_
      refine g_aload_n (q := 31) dX9_holeAt_30 rfl rfl ?_
      refine g_get (q := 34) flX9_13 dX9_holeAt_31 m0 rfl rfl ?_
      refine g_iload (q := 36) dX9_holeAt_34 rfl rfl ?_
      refine z_iald (q := 37) dX9_holeAt_36 m2 (by omega) rfl ?_
      have b4 := bT (4 * h + 29)
      refine g_aload_n (q := 38) dX9_holeAt_37 rfl rfl ?_
      refine g_get (q := 41) flX9_13 dX9_holeAt_38 m0 rfl rfl ?_
      refine g_iload (q := 43) dX9_holeAt_41 rfl rfl ?_
      refine z_iconst (q := 44) dX9_holeAt_43 rfl ?_
      refine z_iaddc (c := (4 * h + 31)) (q := 45) dX9_holeAt_44 (by omega) rfl ?_
      refine z_iald (q := 46) dX9_holeAt_45 m2 (by omega) rfl ?_
      have b5 := bT (4 * h + 31)
      refine z_iadd (q := 47) dX9_holeAt_46 rfl ?_
      refine z_iconst (q := 48) dX9_holeAt_47 rfl ?_
      refine z_isubc (c := (((A 1) (4 * h + 29)) + ((A 1) (4 * h + 31)) - 1)) (q := 49) dX9_holeAt_48 (by omega) rfl ?_
      refine z_i2l (q := 50) dX9_holeAt_49 (by omega) rfl ?_
      refine g_callS (As := [.long (lZ x), .long (lZ ((A 1) (4 * h + 29))), .long (lZ (((A 1) (4 * h + 29)) + ((A 1) (4 * h + 31)) - 1))]) (rest := []) (q := 53) moX9_in lkX9_holeAt_58 dX9_holeAt_50 (r_M_in σ x ((A 1) (4 * h + 29)) (((A 1) (4 * h + 29)) + ((A 1) (4 * h + 31)) - 1) (by omega) (by omega) (by omega)) rfl rfl (Nat.le_of_ble_eq_true rfl) (Nat.le_of_ble_eq_true rfl) (Nat.le_of_ble_eq_true rfl) rfl ?_
      rintro r1 s1 hp
      rw [hp.1, hp.2]
      show Go w mX9_holeAt (0, 0) 53 [some (.ref a), some (.int (iZ x)), some (.int (iZ y)), some (.int (iZ h)), some (.int (iZ (4 * h + 29)))] [.int (bI (((A 1) (4 * h + 29)) ≤ x ∧ x ≤ (((A 1) (4 * h + 29)) + ((A 1) (4 * h + 31)) - 1)))] σ (fun r σ' => r = some (.int (iZ (mHoleF (A 1) x y (n + 1) h))) ∧ σ' = σ)
      refine z_ifB_eq (t := 98) (q := 56) dX9_holeAt_53 rfl rfl (fun pc6 => ?_) (fun pc6 => ?_)
      · refine z_iincc (c := (h + 1)) (ml' := [some (.ref a), some (.int (iZ x)), some (.int (iZ y)), some (.int (iZ (h + 1))), some (.int (iZ (4 * h + 29)))]) (q := 101) dX9_holeAt_98 rfl (by omega) rfl rfl rfl ?_
        refine g_goto (q := 2) dX9_holeAt_101 rfl ?_
        refine Go.wk (ml' := [some (.ref a), some (.int (iZ x)), some (.int (iZ y)), some (.int (iZ (h + 1))), none]) ⟨Or.inr rfl, Or.inr rfl, Or.inr rfl, Or.inr rfl, Or.inl rfl, trivial⟩ ?_
        exact (ih (h + 1) (by omega) (by omega)).mono (fun r σ1 hp => ⟨hp.1.trans (congrArg (fun z => some (Value.int (iZ z))) (by conv => rhs; unfold mHoleF; rw [if_neg (by omega)])), hp.2⟩)
      · refine g_iload_n (q := 57) dX9_holeAt_56 rfl rfl ?_
        refine z_i2l (q := 58) dX9_holeAt_57 (by omega) rfl ?_
        refine g_aload_n (q := 59) dX9_holeAt_58 rfl rfl ?_
        refine g_get (q := 62) flX9_13 dX9_holeAt_59 m0 rfl rfl ?_
        refine g_iload (q := 64) dX9_holeAt_62 rfl rfl ?_
        refine z_iconst (q := 65) dX9_holeAt_64 rfl ?_
        refine z_iaddc (c := (4 * h + 30)) (q := 66) dX9_holeAt_65 (by omega) rfl ?_
        refine z_iald (q := 67) dX9_holeAt_66 m2 (by omega) rfl ?_
        have b7 := bT (4 * h + 30)
        refine z_i2l (q := 68) dX9_holeAt_67 (by omega) rfl ?_
        refine g_aload_n (q := 69) dX9_holeAt_68 rfl rfl ?_
        refine g_get (q := 72) flX9_13 dX9_holeAt_69 m0 rfl rfl ?_
        refine g_iload (q := 74) dX9_holeAt_72 rfl rfl ?_
        refine z_iconst (q := 75) dX9_holeAt_74 rfl ?_
        refine z_iaddc (c := (4 * h + 30)) (q := 76) dX9_holeAt_75 (by omega) rfl ?_
        refine z_iald (q := 77) dX9_holeAt_76 m2 (by omega) rfl ?_
        have b8 := bT (4 * h + 30)
        refine g_aload_n (q := 78) dX9_holeAt_77 rfl rfl ?_
        refine g_get (q := 81) flX9_13 dX9_holeAt_78 m0 rfl rfl ?_
        refine g_iload (q := 83) dX9_holeAt_81 rfl rfl ?_
        refine z_iconst (q := 84) dX9_holeAt_83 rfl ?_
        refine z_iaddc (c := (4 * h + 32)) (q := 85) dX9_holeAt_84 (by omega) rfl ?_
        refine z_iald (q := 86) dX9_holeAt_85 m2 (by omega) rfl ?_
        have b9 := bT (4 * h + 32)
        refine z_iadd (q := 87) dX9_holeAt_86 rfl ?_
        refine z_iconst (q := 88) dX9_holeAt_87 rfl ?_
        refine z_isubc (c := (((A 1) (4 * h + 30)) + ((A 1) (4 * h + 32)) - 1)) (q := 89) dX9_holeAt_88 (by omega) rfl ?_
        refine z_i2l (q := 90) dX9_holeAt_89 (by omega) rfl ?_
        refine g_callS (As := [.long (lZ y), .long (lZ ((A 1) (4 * h + 30))), .long (lZ (((A 1) (4 * h + 30)) + ((A 1) (4 * h + 32)) - 1))]) (rest := []) (q := 93) moX9_in lkX9_holeAt_58 dX9_holeAt_90 (r_M_in σ y ((A 1) (4 * h + 30)) (((A 1) (4 * h + 30)) + ((A 1) (4 * h + 32)) - 1) (by omega) (by omega) (by omega)) rfl rfl (Nat.le_of_ble_eq_true rfl) (Nat.le_of_ble_eq_true rfl) (Nat.le_of_ble_eq_true rfl) rfl ?_
        rintro r1 s1 hp
        rw [hp.1, hp.2]
        show Go w mX9_holeAt (0, 0) 93 [some (.ref a), some (.int (iZ x)), some (.int (iZ y)), some (.int (iZ h)), some (.int (iZ (4 * h + 29)))] [.int (bI (((A 1) (4 * h + 30)) ≤ y ∧ y ≤ (((A 1) (4 * h + 30)) + ((A 1) (4 * h + 32)) - 1)))] σ (fun r σ' => r = some (.int (iZ (mHoleF (A 1) x y (n + 1) h))) ∧ σ' = σ)
        refine z_ifB_eq (t := 98) (q := 96) dX9_holeAt_93 rfl rfl (fun pc10 => ?_) (fun pc10 => ?_)
        · refine z_iincc (c := (h + 1)) (ml' := [some (.ref a), some (.int (iZ x)), some (.int (iZ y)), some (.int (iZ (h + 1))), some (.int (iZ (4 * h + 29)))]) (q := 101) dX9_holeAt_98 rfl (by omega) rfl rfl rfl ?_
          refine g_goto (q := 2) dX9_holeAt_101 rfl ?_
          refine Go.wk (ml' := [some (.ref a), some (.int (iZ x)), some (.int (iZ y)), some (.int (iZ (h + 1))), none]) ⟨Or.inr rfl, Or.inr rfl, Or.inr rfl, Or.inr rfl, Or.inl rfl, trivial⟩ ?_
          exact (ih (h + 1) (by omega) (by omega)).mono (fun r σ1 hp => ⟨hp.1.trans (congrArg (fun z => some (Value.int (iZ z))) (by conv => rhs; unfold mHoleF; rw [if_neg (by omega)])), hp.2⟩)
        · refine g_iload_n (q := 97) dX9_holeAt_96 rfl rfl ?_
          refine z_iret dX9_holeAt_97 rfl ?_
          exact ⟨congrArg (fun z => some (Value.int (iZ z))) (by unfold mHoleF; rw [if_pos (by omega)]), rfl⟩
theorem r_M_holeAt (σ : g_H0) (a : Nat) (I : Nat → Int) (A : Nat → Int → Int) (hM : rM a I A σ) (x y : Int) (b_x : -2147483648 ≤ x ∧ x < 2147483648) (b_y : -2147483648 ≤ y ∧ y < 2147483648) (bT : zBd (A 1) 1000) (h3 : 0 ≤ A 1 3 ∧ A 1 3 ≤ 5) : Ret mX9_holeAt [.ref a, .int (iZ x), .int (iZ y)] σ (fun r σ' => r = some (.int (iZ (mHole (A 1) x y))) ∧ σ' = σ) := by
  refine Ret.of moX9_holeAt.1 (Nat.le_of_ble_eq_true rfl) (fun w => ?_)
  show Go w mX9_holeAt (0, 0) 0 [some (.ref a), some (.int (iZ x)), some (.int (iZ y)), none, none] [] σ (fun r σ' => r = some (.int (iZ (mHole (A 1) x y))) ∧ σ' = σ)
  refine z_iconst (q := 1) dX9_holeAt_0 rfl ?_
  refine g_istore_n (ml' := [some (.ref a), some (.int (iZ x)), some (.int (iZ y)), some (.int (iZ 0)), none]) (q := 2) dX9_holeAt_1 rfl (Nat.le_of_ble_eq_true rfl) rfl rfl ?_
  exact l_M_holeAt w σ a I A hM x y b_x b_y bT h3 (A 1 3).toNat 0 (by omega) (by omega)
theorem l_M_clampAt (w : g_W) (σ : g_H0) (a : Nat) (I : Nat → Int) (A : Nat → Int → Int) (hM : rM a I A σ) (x y : Int) (b_x : -2147483648 ≤ x ∧ x < 2147483648) (b_y : -2147483648 ≤ y ∧ y < 2147483648) (bT : zBd (A 1) 1000) (bS : zBs (A 3)) (h4 : 0 ≤ A 1 4 ∧ A 1 4 ≤ 2) : ∀ (n : Nat) (h : Int), 0 ≤ h → h + n = A 1 4 → Go w mX9_clampAt (0, 0) 2 [some (.ref a), some (.int (iZ x)), some (.int (iZ y)), some (.int (iZ h))] [] σ (fun r σ' => r = some (.int (iZ (mClampF (A 1) (A 3) x y n h))) ∧ σ' = σ) := by
  intro n
  induction n with
  | zero =>
    intro h h0 h1
    obtain ⟨m0, m1, m2, m3, m4, m5, m6, m7, m8, m9, m10, m11⟩ := id hM
    refine g_iload_n (q := 3) dX9_clampAt_2 rfl rfl ?_
    refine g_aload_n (q := 4) dX9_clampAt_3 rfl rfl ?_
    refine g_get (q := 7) flX9_13 dX9_clampAt_4 m0 rfl rfl ?_
    refine z_iconst (q := 8) dX9_clampAt_7 rfl ?_
    refine z_iald (q := 9) dX9_clampAt_8 m2 (by omega) rfl ?_
    have b1 := bT 4
    refine z_icmp_ge (t := 64) (q := 12) dX9_clampAt_9 rfl (by omega) rfl (fun pc2 => ?_) (fun pc2 => ?_)
    · refine g_bipush (v := iZ (-4)) (q := 66) dX9_clampAt_64 (by decide) rfl ?_
      refine z_iret dX9_clampAt_66 rfl ?_
      exact ⟨congrArg (fun z => some (Value.int (iZ z))) (by unfold mClampF; rfl), rfl⟩
    · exfalso
      omega
  | succ n ih =>
    intro h h0 h1
    obtain ⟨m0, m1, m2, m3, m4, m5, m6, m7, m8, m9, m10, m11⟩ := id hM
    refine g_iload_n (q := 3) dX9_clampAt_2 rfl rfl ?_
    refine g_aload_n (q := 4) dX9_clampAt_3 rfl rfl ?_
    refine g_get (q := 7) flX9_13 dX9_clampAt_4 m0 rfl rfl ?_
    refine z_iconst (q := 8) dX9_clampAt_7 rfl ?_
    refine z_iald (q := 9) dX9_clampAt_8 m2 (by omega) rfl ?_
    have b1 := bT 4
    refine z_icmp_ge (t := 64) (q := 12) dX9_clampAt_9 rfl (by omega) rfl (fun pc2 => ?_) (fun pc2 => ?_)
    · exfalso
      omega
    · refine g_iload_n (q := 13) dX9_clampAt_12 rfl rfl ?_
      refine g_aload_n (q := 14) dX9_clampAt_13 rfl rfl ?_
      refine g_get (q := 17) flX9_13 dX9_clampAt_14 m0 rfl rfl ?_
      refine z_iconst (q := 18) dX9_clampAt_17 rfl ?_
      refine z_iald (q := 19) dX9_clampAt_18 m2 (by omega) rfl ?_
      have b3 := bT 1
      refine z_iconst (q := 20) dX9_clampAt_19 rfl ?_
      refine z_isub (q := 21) dX9_clampAt_20 rfl ?_
      refine z_icmp_ne (t := 58) (q := 24) dX9_clampAt_21 rfl (by omega) rfl (fun pc4 => ?_) (fun pc4 => ?_)
      · refine z_iincc (c := (h + 1)) (ml' := [some (.ref a), some (.int (iZ x)), some (.int (iZ y)), some (.int (iZ (h + 1)))]) (q := 61) dX9_clampAt_58 rfl (by omega) rfl rfl rfl ?_
        refine g_goto (q := 2) dX9_clampAt_61 rfl ?_
        exact (ih (h + 1) (by omega) (by omega)).mono (fun r σ1 hp => ⟨hp.1.trans (congrArg (fun z => some (Value.int (iZ z))) (by conv => rhs; unfold mClampF; rw [if_neg (by omega)])), hp.2⟩)
      · refine g_iload_n (q := 25) dX9_clampAt_24 rfl rfl ?_
        refine z_i2l (q := 26) dX9_clampAt_25 (by omega) rfl ?_
        refine g_aload_n (q := 27) dX9_clampAt_26 rfl rfl ?_
        refine g_get (q := 30) flX9_19 dX9_clampAt_27 m0 rfl rfl ?_
        refine g_sipush (v := iZ 151) (q := 33) dX9_clampAt_30 (by decide) rfl ?_
        refine g_iload_n (q := 34) dX9_clampAt_33 rfl rfl ?_
        refine z_iaddc (c := (h + 151)) (q := 35) dX9_clampAt_34 (by omega) rfl ?_
        refine z_iald (q := 36) dX9_clampAt_35 m4 (by omega) rfl ?_
        have b5 := bS (h + 151)
        refine z_i2l (q := 37) dX9_clampAt_36 (by omega) rfl ?_
        refine g_aload_n (q := 38) dX9_clampAt_37 rfl rfl ?_
        refine g_get (q := 41) flX9_19 dX9_clampAt_38 m0 rfl rfl ?_
        refine g_sipush (v := iZ 151) (q := 44) dX9_clampAt_41 (by decide) rfl ?_
        refine g_iload_n (q := 45) dX9_clampAt_44 rfl rfl ?_
        refine z_iaddc (c := (h + 151)) (q := 46) dX9_clampAt_45 (by omega) rfl ?_
        refine z_iald (q := 47) dX9_clampAt_46 m4 (by omega) rfl ?_
        have b6 := bS (h + 151)
        refine z_iconst (q := 48) dX9_clampAt_47 rfl ?_
        refine z_iadd (q := 49) dX9_clampAt_48 rfl ?_
        refine z_i2l (q := 50) dX9_clampAt_49 (by omega) rfl ?_
        refine g_callS (As := [.long (lZ x), .long (lZ ((A 3) (h + 151))), .long (lZ (((A 3) (h + 151)) + 1))]) (rest := []) (q := 53) moX9_in lkX9_clampAt_58 dX9_clampAt_50 (r_M_in σ x ((A 3) (h + 151)) (((A 3) (h + 151)) + 1) (by omega) (by omega) (by omega)) rfl rfl (Nat.le_of_ble_eq_true rfl) (Nat.le_of_ble_eq_true rfl) (Nat.le_of_ble_eq_true rfl) rfl ?_
        rintro r1 s1 hp
        rw [hp.1, hp.2]
        show Go w mX9_clampAt (0, 0) 53 [some (.ref a), some (.int (iZ x)), some (.int (iZ y)), some (.int (iZ h))] [.int (bI (((A 3) (h + 151)) ≤ x ∧ x ≤ (((A 3) (h + 151)) + 1)))] σ (fun r σ' => r = some (.int (iZ (mClampF (A 1) (A 3) x y (n + 1) h))) ∧ σ' = σ)
        refine z_ifB_eq (t := 58) (q := 56) dX9_clampAt_53 rfl rfl (fun pc7 => ?_) (fun pc7 => ?_)
        · refine z_iincc (c := (h + 1)) (ml' := [some (.ref a), some (.int (iZ x)), some (.int (iZ y)), some (.int (iZ (h + 1)))]) (q := 61) dX9_clampAt_58 rfl (by omega) rfl rfl rfl ?_
          refine g_goto (q := 2) dX9_clampAt_61 rfl ?_
          exact (ih (h + 1) (by omega) (by omega)).mono (fun r σ1 hp => ⟨hp.1.trans (congrArg (fun z => some (Value.int (iZ z))) (by conv => rhs; unfold mClampF; rw [if_neg (by omega)])), hp.2⟩)
        · refine g_iload_n (q := 57) dX9_clampAt_56 rfl rfl ?_
          refine z_iret dX9_clampAt_57 rfl ?_
          exact ⟨congrArg (fun z => some (Value.int (iZ z))) (by unfold mClampF; rw [if_pos (by omega)]), rfl⟩
theorem r_M_clampAt (σ : g_H0) (a : Nat) (I : Nat → Int) (A : Nat → Int → Int) (hM : rM a I A σ) (x y : Int) (b_x : -2147483648 ≤ x ∧ x < 2147483648) (b_y : -2147483648 ≤ y ∧ y < 2147483648) (bT : zBd (A 1) 1000) (bS : zBs (A 3)) (h4 : 0 ≤ A 1 4 ∧ A 1 4 ≤ 2) : Ret mX9_clampAt [.ref a, .int (iZ x), .int (iZ y)] σ (fun r σ' => r = some (.int (iZ (mClamp (A 1) (A 3) x y))) ∧ σ' = σ) := by
  refine Ret.of moX9_clampAt.1 (Nat.le_of_ble_eq_true rfl) (fun w => ?_)
  show Go w mX9_clampAt (0, 0) 0 [some (.ref a), some (.int (iZ x)), some (.int (iZ y)), none] [] σ (fun r σ' => r = some (.int (iZ (mClamp (A 1) (A 3) x y))) ∧ σ' = σ)
  refine z_iconst (q := 1) dX9_clampAt_0 rfl ?_
  refine g_istore_n (ml' := [some (.ref a), some (.int (iZ x)), some (.int (iZ y)), some (.int (iZ 0))]) (q := 2) dX9_clampAt_1 rfl (Nat.le_of_ble_eq_true rfl) rfl rfl ?_
  exact l_M_clampAt w σ a I A hM x y b_x b_y bT bS h4 (A 1 4).toNat 0 (by omega) (by omega)
