theorem r_isWithin (σ : g_H0) (n l m : Int) (b_n : -2147483648 ≤ n ∧ n < 2147483648) (b_l : -2147483648 ≤ l ∧ l < 2147483648) (b_m : -2147483648 ≤ m ∧ m < 2147483648) : Ret mX8_isWithin [.int (iZ n), .int (iZ l), .int (iZ m)] σ (fun r σ' => r = some (.int (bI (l ≤ n ∧ n ≤ m))) ∧ σ' = σ) := by
  refine Ret.of moX8_isWithin.1 (Nat.le_of_ble_eq_true rfl) (fun w => ?_)
  show Go w mX8_isWithin (0, 0) 0 [some (.int (iZ n)), some (.int (iZ l)), some (.int (iZ m))] [] σ (fun r σ' => r = some (.int (bI (l ≤ n ∧ n ≤ m))) ∧ σ' = σ)
  refine g_iload_n (q := 1) dX8_isWithin_0 rfl rfl ?_
  refine g_iload_n (q := 2) dX8_isWithin_1 rfl rfl ?_
  refine z_icmp_lt (t := 14) (q := 5) dX8_isWithin_2 rfl (by omega) rfl (fun pc1 => ?_) (fun pc1 => ?_)
  · refine z_iconst (q := 15) dX8_isWithin_14 rfl ?_
    refine z_zret dX8_isWithin_15 rfl rfl ?_
    exact ⟨congrArg (fun v => some (Value.int v)) (bI_f (by omega)).symm, rfl⟩
  · refine g_iload_n (q := 6) dX8_isWithin_5 rfl rfl ?_
    refine g_iload_n (q := 7) dX8_isWithin_6 rfl rfl ?_
    refine z_icmp_gt (t := 14) (q := 10) dX8_isWithin_7 rfl (by omega) rfl (fun pc2 => ?_) (fun pc2 => ?_)
    · refine z_iconst (q := 15) dX8_isWithin_14 rfl ?_
      refine z_zret dX8_isWithin_15 rfl rfl ?_
      exact ⟨congrArg (fun v => some (Value.int v)) (bI_f (by omega)).symm, rfl⟩
    · refine z_iconst (q := 11) dX8_isWithin_10 rfl ?_
      refine g_goto (q := 15) dX8_isWithin_11 rfl ?_
      refine z_zret dX8_isWithin_15 rfl rfl ?_
      exact ⟨congrArg (fun v => some (Value.int v)) (bI_t (by omega)).symm, rfl⟩
theorem r_isFlag (σ : g_H0) (n : Int) (b_n : -2147483648 ≤ n ∧ n < 2147483648) : Ret mX8_isFlag [.int (iZ n)] σ (fun r σ' => r = some (.int (bI (n = 0 ∨ n = 1))) ∧ σ' = σ) := by
  refine Ret.of moX8_isFlag.1 (Nat.le_of_ble_eq_true rfl) (fun w => ?_)
  show Go w mX8_isFlag (0, 0) 0 [some (.int (iZ n))] [] σ (fun r σ' => r = some (.int (bI (n = 0 ∨ n = 1))) ∧ σ' = σ)
  refine g_iload_n (q := 1) dX8_isFlag_0 rfl rfl ?_
  refine z_if_eq (t := 9) (q := 4) dX8_isFlag_1 rfl (by omega) rfl (fun pc1 => ?_) (fun pc1 => ?_)
  · refine z_iconst (q := 10) dX8_isFlag_9 rfl ?_
    refine g_goto (q := 14) dX8_isFlag_10 rfl ?_
    refine z_zret dX8_isFlag_14 rfl rfl ?_
    exact ⟨congrArg (fun v => some (Value.int v)) (bI_t (by omega)).symm, rfl⟩
  · refine g_iload_n (q := 5) dX8_isFlag_4 rfl rfl ?_
    refine z_iconst (q := 6) dX8_isFlag_5 rfl ?_
    refine z_icmp_ne (t := 13) (q := 9) dX8_isFlag_6 rfl (by omega) rfl (fun pc2 => ?_) (fun pc2 => ?_)
    · refine z_iconst (q := 14) dX8_isFlag_13 rfl ?_
      refine z_zret dX8_isFlag_14 rfl rfl ?_
      exact ⟨congrArg (fun v => some (Value.int v)) (bI_f (by omega)).symm, rfl⟩
    · refine z_iconst (q := 10) dX8_isFlag_9 rfl ?_
      refine g_goto (q := 14) dX8_isFlag_10 rfl ?_
      refine z_zret dX8_isFlag_14 rfl rfl ?_
      exact ⟨congrArg (fun v => some (Value.int v)) (bI_t (by omega)).symm, rfl⟩
theorem r_asFlag (σ : g_H0) (p : Prop) [Decidable p] : Ret mX8_asFlag [.int (bI (p))] σ (fun r σ' => r = some (.int (bI (p))) ∧ σ' = σ) := by
  refine Ret.of moX8_asFlag.1 (Nat.le_of_ble_eq_true rfl) (fun w => ?_)
  show Go w mX8_asFlag (0, 0) 0 [some (.int (bI (p)))] [] σ (fun r σ' => r = some (.int (bI (p))) ∧ σ' = σ)
  refine g_iload_n (q := 1) dX8_asFlag_0 rfl rfl ?_
  refine z_ifB_eq (t := 8) (q := 4) dX8_asFlag_1 rfl rfl (fun pc1 => ?_) (fun pc1 => ?_)
  · refine z_iconst (q := 9) dX8_asFlag_8 rfl ?_
    refine z_iret dX8_asFlag_9 rfl ?_
    exact ⟨congrArg (fun z => some (Value.int z)) ((bI_f (by omega)).symm), rfl⟩
  · refine z_iconst (q := 5) dX8_asFlag_4 rfl ?_
    refine g_goto (q := 9) dX8_asFlag_5 rfl ?_
    refine z_iret dX8_asFlag_9 rfl ?_
    exact ⟨congrArg (fun z => some (Value.int z)) ((bI_t (by omega)).symm), rfl⟩
theorem r_asFlagZ (σ : g_H0) (p : Int) (bp : 0 ≤ p ∧ p ≤ 1) : Ret mX8_asFlag [.int (iZ p)] σ (fun r σ' => r = some (.int (iZ p)) ∧ σ' = σ) := by
  refine Ret.of moX8_asFlag.1 (Nat.le_of_ble_eq_true rfl) (fun w => ?_)
  show Go w mX8_asFlag (0, 0) 0 [some (.int (iZ p))] [] σ (fun r σ' => r = some (.int (iZ p)) ∧ σ' = σ)
  refine g_iload_n (q := 1) dX8_asFlag_0 rfl rfl ?_
  refine z_if_eq (t := 8) (q := 4) dX8_asFlag_1 rfl (by omega) rfl (fun pc1 => ?_) (fun pc1 => ?_)
  · refine z_iconst (q := 9) dX8_asFlag_8 rfl ?_
    refine z_iret dX8_asFlag_9 rfl ?_
    exact ⟨congrArg (fun z => some (Value.int (iZ z))) (by omega), rfl⟩
  · refine z_iconst (q := 5) dX8_asFlag_4 rfl ?_
    refine g_goto (q := 9) dX8_asFlag_5 rfl ?_
    refine z_iret dX8_asFlag_9 rfl ?_
    exact ⟨congrArg (fun z => some (Value.int (iZ z))) (by omega), rfl⟩
def cSt (l s : Int) : Int := if s < 1 then 0 else (l + s - 1) / s
theorem r_stepsOver (σ : g_H0) (l s : Int) (b_l : 0 ≤ l ∧ l < 1000) (b_s : 0 ≤ s ∧ s < 1000) : Ret mX8_stepsOver [.int (iZ l), .int (iZ s)] σ (fun r σ' => r = some (.int (iZ (cSt l s))) ∧ σ' = σ) := by
  refine Ret.of moX8_stepsOver.1 (Nat.le_of_ble_eq_true rfl) (fun w => ?_)
  show Go w mX8_stepsOver (0, 0) 0 [some (.int (iZ l)), some (.int (iZ s))] [] σ (fun r σ' => r = some (.int (iZ (cSt l s))) ∧ σ' = σ)
  refine g_iload_n (q := 1) dX8_stepsOver_0 rfl rfl ?_
  refine z_iconst (q := 2) dX8_stepsOver_1 rfl ?_
  refine z_icmp_ge (t := 9) (q := 5) dX8_stepsOver_2 rfl (by omega) rfl (fun pc1 => ?_) (fun pc1 => ?_)
  · refine g_iload_n (q := 10) dX8_stepsOver_9 rfl rfl ?_
    refine g_iload_n (q := 11) dX8_stepsOver_10 rfl rfl ?_
    refine z_iadd (q := 12) dX8_stepsOver_11 rfl ?_
    refine z_iconst (q := 13) dX8_stepsOver_12 rfl ?_
    refine z_isubc (c := (l + s - 1)) (q := 14) dX8_stepsOver_13 (by omega) rfl ?_
    refine g_iload_n (q := 15) dX8_stepsOver_14 rfl rfl ?_
    refine z_idiv (q := 16) dX8_stepsOver_15 (by omega) rfl ?_
    refine z_iret dX8_stepsOver_16 rfl ?_
    exact ⟨congrArg (fun z => some (Value.int (iZ z))) (by unfold cSt; rw [if_neg (by omega)]), rfl⟩
  · refine z_iconst (q := 6) dX8_stepsOver_5 rfl ?_
    refine g_goto (q := 16) dX8_stepsOver_6 rfl ?_
    refine z_iret dX8_stepsOver_16 rfl ?_
    exact ⟨congrArg (fun z => some (Value.int (iZ z))) (by unfold cSt; rw [if_pos (by omega)]), rfl⟩
theorem r_isFigure (σ : g_H0) (n : Int) (b_n : -2147483648 ≤ n ∧ n < 2147483648) : Ret mX4_isFigure [.int (iZ n)] σ (fun r σ' => r = some (.int (bI (48 ≤ n ∧ n ≤ 57))) ∧ σ' = σ) := by
  refine Ret.of moX4_isFigure.1 (Nat.le_of_ble_eq_true rfl) (fun w => ?_)
  show Go w mX4_isFigure (0, 0) 0 [some (.int (iZ n))] [] σ (fun r σ' => r = some (.int (bI (48 ≤ n ∧ n ≤ 57))) ∧ σ' = σ)
  refine g_iload_n (q := 1) dX4_isFigure_0 rfl rfl ?_
  refine g_bipush (v := iZ 48) (q := 3) dX4_isFigure_1 (by decide) rfl ?_
  refine z_icmp_lt (t := 16) (q := 6) dX4_isFigure_3 rfl (by omega) rfl (fun pc1 => ?_) (fun pc1 => ?_)
  · refine z_iconst (q := 17) dX4_isFigure_16 rfl ?_
    refine z_zret dX4_isFigure_17 rfl rfl ?_
    exact ⟨congrArg (fun v => some (Value.int v)) (bI_f (by omega)).symm, rfl⟩
  · refine g_iload_n (q := 7) dX4_isFigure_6 rfl rfl ?_
    refine g_bipush (v := iZ 57) (q := 9) dX4_isFigure_7 (by decide) rfl ?_
    refine z_icmp_gt (t := 16) (q := 12) dX4_isFigure_9 rfl (by omega) rfl (fun pc2 => ?_) (fun pc2 => ?_)
    · refine z_iconst (q := 17) dX4_isFigure_16 rfl ?_
      refine z_zret dX4_isFigure_17 rfl rfl ?_
      exact ⟨congrArg (fun v => some (Value.int v)) (bI_f (by omega)).symm, rfl⟩
    · refine z_iconst (q := 13) dX4_isFigure_12 rfl ?_
      refine g_goto (q := 17) dX4_isFigure_13 rfl ?_
      refine z_zret dX4_isFigure_17 rfl rfl ?_
      exact ⟨congrArg (fun v => some (Value.int v)) (bI_t (by omega)).symm, rfl⟩
theorem r_areTooNear (σ : g_H0) (n m : Int) (bn : -1000 ≤ n ∧ n ≤ 1000) (bm : -1000 ≤ m ∧ m ≤ 1000) : Ret mX2_areTooNear [.int (iZ n), .int (iZ m)] σ (fun r σ' => r = some (.int (bI (-1 ≤ n - m ∧ n - m ≤ 1))) ∧ σ' = σ) := by
  refine Ret.of moX2_areTooNear.1 (Nat.le_of_ble_eq_true rfl) (fun w => ?_)
  show Go w mX2_areTooNear (0, 0) 0 [some (.int (iZ n)), some (.int (iZ m))] [] σ (fun r σ' => r = some (.int (bI (-1 ≤ n - m ∧ n - m ≤ 1))) ∧ σ' = σ)
  refine g_iload_n (q := 1) dX2_areTooNear_0 rfl rfl ?_
  refine g_iload_n (q := 2) dX2_areTooNear_1 rfl rfl ?_
  refine z_isub (q := 3) dX2_areTooNear_2 rfl ?_
  refine z_iconst (q := 4) dX2_areTooNear_3 rfl ?_
  refine z_iconst (q := 5) dX2_areTooNear_4 rfl ?_
  refine g_callSN (As := [.int (iZ (n - m)), .int (iZ (-1)), .int (iZ 1)]) (rest := []) (q := 8) moX8_isWithin lkX2_areTooNear_54 dX2_areTooNear_5 (r_isWithin σ (n - m) (-1) 1 (by omega) (by omega) (by omega)) rfl rfl (Nat.le_of_ble_eq_true rfl) (Nat.le_of_ble_eq_true rfl) (Nat.le_of_ble_eq_true rfl) rfl ?_
  rintro r1 s1 hp
  rw [hp.1, hp.2]
  show Go w mX2_areTooNear (0, 0) 8 [some (.int (iZ n)), some (.int (iZ m))] [.int (bI ((-1) ≤ (n - m) ∧ (n - m) ≤ 1))] σ (fun r σ' => r = some (.int (bI (-1 ≤ n - m ∧ n - m ≤ 1))) ∧ σ' = σ)
  refine z_zret dX2_areTooNear_8 rfl (bI_nar _) ?_
  exact ⟨congrArg (fun v => some (Value.int v)) (bI_c (by omega)), rfl⟩
theorem r_covers (σ : g_H0) (a o : Nat) (x y wd hg ox oy ow oh : Int) (h0 : σ[a]? = some (.inr (0, [.int (iZ x), .int (iZ y), .int (iZ wd), .int (iZ hg)]))) (h1 : σ[o]? = some (.inr (0, [.int (iZ ox), .int (iZ oy), .int (iZ ow), .int (iZ oh)]))) (b_x : 0 ≤ x ∧ x < 1000) (b_y : 0 ≤ y ∧ y < 1000) (b_wd : 0 ≤ wd ∧ wd < 1000) (b_hg : 0 ≤ hg ∧ hg < 1000) (b_ox : 0 ≤ ox ∧ ox < 1000) (b_oy : 0 ≤ oy ∧ oy < 1000) (b_ow : 0 ≤ ow ∧ ow < 1000) (b_oh : 0 ≤ oh ∧ oh < 1000) : Ret mX0_covers [.ref a, .ref o] σ (fun r σ' => r = some (.int (bI (x ≤ ox ∧ ox + ow ≤ x + wd ∧ y ≤ oy ∧ oy + oh ≤ y + hg))) ∧ σ' = σ) := by
  refine Ret.of moX0_covers.1 (Nat.le_of_ble_eq_true rfl) (fun w => ?_)
  show Go w mX0_covers (0, 0) 0 [some (.ref a), some (.ref o)] [] σ (fun r σ' => r = some (.int (bI (x ≤ ox ∧ ox + ow ≤ x + wd ∧ y ≤ oy ∧ oy + oh ≤ y + hg))) ∧ σ' = σ)
  refine g_aload_n (q := 1) dX0_covers_0 rfl rfl ?_
  refine g_get (q := 4) flX0_7 dX0_covers_1 h1 rfl rfl ?_
  refine g_aload_n (q := 5) dX0_covers_4 rfl rfl ?_
  refine g_get (q := 8) flX0_7 dX0_covers_5 h0 rfl rfl ?_
  refine z_icmp_lt (t := 68) (q := 11) dX0_covers_8 rfl (by omega) rfl (fun pc1 => ?_) (fun pc1 => ?_)
  · refine z_iconst (q := 69) dX0_covers_68 rfl ?_
    refine z_zret dX0_covers_69 rfl rfl ?_
    exact ⟨congrArg (fun v => some (Value.int v)) (bI_f (by omega)).symm, rfl⟩
  · refine g_aload_n (q := 12) dX0_covers_11 rfl rfl ?_
    refine g_get (q := 15) flX0_7 dX0_covers_12 h1 rfl rfl ?_
    refine g_aload_n (q := 16) dX0_covers_15 rfl rfl ?_
    refine g_get (q := 19) flX0_16 dX0_covers_16 h1 rfl rfl ?_
    refine z_iadd (q := 20) dX0_covers_19 rfl ?_
    refine g_aload_n (q := 21) dX0_covers_20 rfl rfl ?_
    refine g_get (q := 24) flX0_7 dX0_covers_21 h0 rfl rfl ?_
    refine g_aload_n (q := 25) dX0_covers_24 rfl rfl ?_
    refine g_get (q := 28) flX0_16 dX0_covers_25 h0 rfl rfl ?_
    refine z_iadd (q := 29) dX0_covers_28 rfl ?_
    refine z_icmp_gt (t := 68) (q := 32) dX0_covers_29 rfl (by omega) rfl (fun pc2 => ?_) (fun pc2 => ?_)
    · refine z_iconst (q := 69) dX0_covers_68 rfl ?_
      refine z_zret dX0_covers_69 rfl rfl ?_
      exact ⟨congrArg (fun v => some (Value.int v)) (bI_f (by omega)).symm, rfl⟩
    · refine g_aload_n (q := 33) dX0_covers_32 rfl rfl ?_
      refine g_get (q := 36) flX0_13 dX0_covers_33 h1 rfl rfl ?_
      refine g_aload_n (q := 37) dX0_covers_36 rfl rfl ?_
      refine g_get (q := 40) flX0_13 dX0_covers_37 h0 rfl rfl ?_
      refine z_icmp_lt (t := 68) (q := 43) dX0_covers_40 rfl (by omega) rfl (fun pc3 => ?_) (fun pc3 => ?_)
      · refine z_iconst (q := 69) dX0_covers_68 rfl ?_
        refine z_zret dX0_covers_69 rfl rfl ?_
        exact ⟨congrArg (fun v => some (Value.int v)) (bI_f (by omega)).symm, rfl⟩
      · refine g_aload_n (q := 44) dX0_covers_43 rfl rfl ?_
        refine g_get (q := 47) flX0_13 dX0_covers_44 h1 rfl rfl ?_
        refine g_aload_n (q := 48) dX0_covers_47 rfl rfl ?_
        refine g_get (q := 51) flX0_19 dX0_covers_48 h1 rfl rfl ?_
        refine z_iadd (q := 52) dX0_covers_51 rfl ?_
        refine g_aload_n (q := 53) dX0_covers_52 rfl rfl ?_
        refine g_get (q := 56) flX0_13 dX0_covers_53 h0 rfl rfl ?_
        refine g_aload_n (q := 57) dX0_covers_56 rfl rfl ?_
        refine g_get (q := 60) flX0_19 dX0_covers_57 h0 rfl rfl ?_
        refine z_iadd (q := 61) dX0_covers_60 rfl ?_
        refine z_icmp_gt (t := 68) (q := 64) dX0_covers_61 rfl (by omega) rfl (fun pc4 => ?_) (fun pc4 => ?_)
        · refine z_iconst (q := 69) dX0_covers_68 rfl ?_
          refine z_zret dX0_covers_69 rfl rfl ?_
          exact ⟨congrArg (fun v => some (Value.int v)) (bI_f (by omega)).symm, rfl⟩
        · refine z_iconst (q := 65) dX0_covers_64 rfl ?_
          refine g_goto (q := 69) dX0_covers_65 rfl ?_
          refine z_zret dX0_covers_69 rfl rfl ?_
          exact ⟨congrArg (fun v => some (Value.int v)) (bI_t (by omega)).symm, rfl⟩
theorem r_meets (σ : g_H0) (a o : Nat) (x y wd hg ox oy ow oh : Int) (h0 : σ[a]? = some (.inr (0, [.int (iZ x), .int (iZ y), .int (iZ wd), .int (iZ hg)]))) (h1 : σ[o]? = some (.inr (0, [.int (iZ ox), .int (iZ oy), .int (iZ ow), .int (iZ oh)]))) (b_x : 0 ≤ x ∧ x < 1000) (b_y : 0 ≤ y ∧ y < 1000) (b_wd : 0 ≤ wd ∧ wd < 1000) (b_hg : 0 ≤ hg ∧ hg < 1000) (b_ox : 0 ≤ ox ∧ ox < 1000) (b_oy : 0 ≤ oy ∧ oy < 1000) (b_ow : 0 ≤ ow ∧ ow < 1000) (b_oh : 0 ≤ oh ∧ oh < 1000) : Ret mX0_meets [.ref a, .ref o] σ (fun r σ' => r = some (.int (bI (ox < x + wd ∧ x < ox + ow ∧ oy < y + hg ∧ y < oy + oh))) ∧ σ' = σ) := by
  refine Ret.of moX0_meets.1 (Nat.le_of_ble_eq_true rfl) (fun w => ?_)
  show Go w mX0_meets (0, 0) 0 [some (.ref a), some (.ref o)] [] σ (fun r σ' => r = some (.int (bI (ox < x + wd ∧ x < ox + ow ∧ oy < y + hg ∧ y < oy + oh))) ∧ σ' = σ)
  refine g_aload_n (q := 1) dX0_meets_0 rfl rfl ?_
  refine g_get (q := 4) flX0_7 dX0_meets_1 h1 rfl rfl ?_
  refine g_aload_n (q := 5) dX0_meets_4 rfl rfl ?_
  refine g_get (q := 8) flX0_7 dX0_meets_5 h0 rfl rfl ?_
  refine g_aload_n (q := 9) dX0_meets_8 rfl rfl ?_
  refine g_get (q := 12) flX0_16 dX0_meets_9 h0 rfl rfl ?_
  refine z_iadd (q := 13) dX0_meets_12 rfl ?_
  refine z_icmp_ge (t := 68) (q := 16) dX0_meets_13 rfl (by omega) rfl (fun pc1 => ?_) (fun pc1 => ?_)
  · refine z_iconst (q := 69) dX0_meets_68 rfl ?_
    refine z_zret dX0_meets_69 rfl rfl ?_
    exact ⟨congrArg (fun v => some (Value.int v)) (bI_f (by omega)).symm, rfl⟩
  · refine g_aload_n (q := 17) dX0_meets_16 rfl rfl ?_
    refine g_get (q := 20) flX0_7 dX0_meets_17 h0 rfl rfl ?_
    refine g_aload_n (q := 21) dX0_meets_20 rfl rfl ?_
    refine g_get (q := 24) flX0_7 dX0_meets_21 h1 rfl rfl ?_
    refine g_aload_n (q := 25) dX0_meets_24 rfl rfl ?_
    refine g_get (q := 28) flX0_16 dX0_meets_25 h1 rfl rfl ?_
    refine z_iadd (q := 29) dX0_meets_28 rfl ?_
    refine z_icmp_ge (t := 68) (q := 32) dX0_meets_29 rfl (by omega) rfl (fun pc2 => ?_) (fun pc2 => ?_)
    · refine z_iconst (q := 69) dX0_meets_68 rfl ?_
      refine z_zret dX0_meets_69 rfl rfl ?_
      exact ⟨congrArg (fun v => some (Value.int v)) (bI_f (by omega)).symm, rfl⟩
    · refine g_aload_n (q := 33) dX0_meets_32 rfl rfl ?_
      refine g_get (q := 36) flX0_13 dX0_meets_33 h1 rfl rfl ?_
      refine g_aload_n (q := 37) dX0_meets_36 rfl rfl ?_
      refine g_get (q := 40) flX0_13 dX0_meets_37 h0 rfl rfl ?_
      refine g_aload_n (q := 41) dX0_meets_40 rfl rfl ?_
      refine g_get (q := 44) flX0_19 dX0_meets_41 h0 rfl rfl ?_
      refine z_iadd (q := 45) dX0_meets_44 rfl ?_
      refine z_icmp_ge (t := 68) (q := 48) dX0_meets_45 rfl (by omega) rfl (fun pc3 => ?_) (fun pc3 => ?_)
      · refine z_iconst (q := 69) dX0_meets_68 rfl ?_
        refine z_zret dX0_meets_69 rfl rfl ?_
        exact ⟨congrArg (fun v => some (Value.int v)) (bI_f (by omega)).symm, rfl⟩
      · refine g_aload_n (q := 49) dX0_meets_48 rfl rfl ?_
        refine g_get (q := 52) flX0_13 dX0_meets_49 h0 rfl rfl ?_
        refine g_aload_n (q := 53) dX0_meets_52 rfl rfl ?_
        refine g_get (q := 56) flX0_13 dX0_meets_53 h1 rfl rfl ?_
        refine g_aload_n (q := 57) dX0_meets_56 rfl rfl ?_
        refine g_get (q := 60) flX0_19 dX0_meets_57 h1 rfl rfl ?_
        refine z_iadd (q := 61) dX0_meets_60 rfl ?_
        refine z_icmp_ge (t := 68) (q := 64) dX0_meets_61 rfl (by omega) rfl (fun pc4 => ?_) (fun pc4 => ?_)
        · refine z_iconst (q := 69) dX0_meets_68 rfl ?_
          refine z_zret dX0_meets_69 rfl rfl ?_
          exact ⟨congrArg (fun v => some (Value.int v)) (bI_f (by omega)).symm, rfl⟩
        · refine z_iconst (q := 65) dX0_meets_64 rfl ?_
          refine g_goto (q := 69) dX0_meets_65 rfl ?_
          refine z_zret dX0_meets_69 rfl rfl ?_
          exact ⟨congrArg (fun v => some (Value.int v)) (bI_t (by omega)).symm, rfl⟩
theorem r_has (σ : g_H0) (a : Nat) (x y wd hg cx cy : Int) (h0 : σ[a]? = some (.inr (0, [.int (iZ x), .int (iZ y), .int (iZ wd), .int (iZ hg)]))) (b_x : 0 ≤ x ∧ x < 1000) (b_y : 0 ≤ y ∧ y < 1000) (b_wd : 0 ≤ wd ∧ wd < 1000) (b_hg : 0 ≤ hg ∧ hg < 1000) (b_cx : -2147483648 ≤ cx ∧ cx < 2147483648) (b_cy : -2147483648 ≤ cy ∧ cy < 2147483648) : Ret mX0_has [.ref a, .int (iZ cx), .int (iZ cy)] σ (fun r σ' => r = some (.int (bI (x ≤ cx ∧ cx < x + wd ∧ y ≤ cy ∧ cy < y + hg))) ∧ σ' = σ) := by
  refine Ret.of moX0_has.1 (Nat.le_of_ble_eq_true rfl) (fun w => ?_)
  show Go w mX0_has (0, 0) 0 [some (.ref a), some (.int (iZ cx)), some (.int (iZ cy))] [] σ (fun r σ' => r = some (.int (bI (x ≤ cx ∧ cx < x + wd ∧ y ≤ cy ∧ cy < y + hg))) ∧ σ' = σ)
  refine g_iload_n (q := 1) dX0_has_0 rfl rfl ?_
  refine g_aload_n (q := 2) dX0_has_1 rfl rfl ?_
  refine g_get (q := 5) flX0_7 dX0_has_2 h0 rfl rfl ?_
  refine z_icmp_lt (t := 46) (q := 8) dX0_has_5 rfl (by omega) rfl (fun pc1 => ?_) (fun pc1 => ?_)
  · refine z_iconst (q := 47) dX0_has_46 rfl ?_
    refine z_zret dX0_has_47 rfl rfl ?_
    exact ⟨congrArg (fun v => some (Value.int v)) (bI_f (by omega)).symm, rfl⟩
  · refine g_iload_n (q := 9) dX0_has_8 rfl rfl ?_
    refine g_aload_n (q := 10) dX0_has_9 rfl rfl ?_
    refine g_get (q := 13) flX0_7 dX0_has_10 h0 rfl rfl ?_
    refine g_aload_n (q := 14) dX0_has_13 rfl rfl ?_
    refine g_get (q := 17) flX0_16 dX0_has_14 h0 rfl rfl ?_
    refine z_iadd (q := 18) dX0_has_17 rfl ?_
    refine z_icmp_ge (t := 46) (q := 21) dX0_has_18 rfl (by omega) rfl (fun pc2 => ?_) (fun pc2 => ?_)
    · refine z_iconst (q := 47) dX0_has_46 rfl ?_
      refine z_zret dX0_has_47 rfl rfl ?_
      exact ⟨congrArg (fun v => some (Value.int v)) (bI_f (by omega)).symm, rfl⟩
    · refine g_iload_n (q := 22) dX0_has_21 rfl rfl ?_
      refine g_aload_n (q := 23) dX0_has_22 rfl rfl ?_
      refine g_get (q := 26) flX0_13 dX0_has_23 h0 rfl rfl ?_
      refine z_icmp_lt (t := 46) (q := 29) dX0_has_26 rfl (by omega) rfl (fun pc3 => ?_) (fun pc3 => ?_)
      · refine z_iconst (q := 47) dX0_has_46 rfl ?_
        refine z_zret dX0_has_47 rfl rfl ?_
        exact ⟨congrArg (fun v => some (Value.int v)) (bI_f (by omega)).symm, rfl⟩
      · refine g_iload_n (q := 30) dX0_has_29 rfl rfl ?_
        refine g_aload_n (q := 31) dX0_has_30 rfl rfl ?_
        refine g_get (q := 34) flX0_13 dX0_has_31 h0 rfl rfl ?_
        refine g_aload_n (q := 35) dX0_has_34 rfl rfl ?_
        refine g_get (q := 38) flX0_19 dX0_has_35 h0 rfl rfl ?_
        refine z_iadd (q := 39) dX0_has_38 rfl ?_
        refine z_icmp_ge (t := 46) (q := 42) dX0_has_39 rfl (by omega) rfl (fun pc4 => ?_) (fun pc4 => ?_)
        · refine z_iconst (q := 47) dX0_has_46 rfl ?_
          refine z_zret dX0_has_47 rfl rfl ?_
          exact ⟨congrArg (fun v => some (Value.int v)) (bI_f (by omega)).symm, rfl⟩
        · refine z_iconst (q := 43) dX0_has_42 rfl ?_
          refine g_goto (q := 47) dX0_has_43 rfl ?_
          refine z_zret dX0_has_47 rfl rfl ?_
          exact ⟨congrArg (fun v => some (Value.int v)) (bI_t (by omega)).symm, rfl⟩
theorem r_put (σ : g_H0) (a : Nat) (x y wd hg ox oy ow oh : Int) (h0 : σ[a]? = some (.inr (0, [.int (iZ x), .int (iZ y), .int (iZ wd), .int (iZ hg)]))) : Ret mX0_put [.ref a, .int (iZ ox), .int (iZ oy), .int (iZ ow), .int (iZ oh)] σ (fun r σ' => r = none ∧ σ'[a]? = some (.inr (0, [.int (iZ ox), .int (iZ oy), .int (iZ ow), .int (iZ oh)])) ∧ g_Fr (fun b => b = a) σ σ') := by
  refine Ret.of moX0_put.1 (Nat.le_of_ble_eq_true rfl) (fun w => ?_)
  show Go w mX0_put (0, 0) 0 [some (.ref a), some (.int (iZ ox)), some (.int (iZ oy)), some (.int (iZ ow)), some (.int (iZ oh))] [] σ (fun r σ' => r = none ∧ σ'[a]? = some (.inr (0, [.int (iZ ox), .int (iZ oy), .int (iZ ow), .int (iZ oh)])) ∧ g_Fr (fun b => b = a) σ σ')
  refine g_aload_n (q := 1) dX0_put_0 rfl rfl ?_
  refine g_iload_n (q := 2) dX0_put_1 rfl rfl ?_
  refine z_put (fs' := [.int (iZ ox), .int (iZ y), .int (iZ wd), .int (iZ hg)]) (q := 5) fpX0_7 dX0_put_2 h0 (Nat.le_of_ble_eq_true rfl) rfl rfl rfl rfl (fun σ1 c2 f3 => ?_)
  refine g_aload_n (q := 6) dX0_put_5 rfl rfl ?_
  refine g_iload_n (q := 7) dX0_put_6 rfl rfl ?_
  refine z_put (fs' := [.int (iZ ox), .int (iZ oy), .int (iZ wd), .int (iZ hg)]) (q := 10) fpX0_13 dX0_put_7 c2 (Nat.le_of_ble_eq_true rfl) rfl rfl rfl rfl (fun σ4 c5 f6 => ?_)
  refine g_aload_n (q := 11) dX0_put_10 rfl rfl ?_
  refine g_iload_n (q := 12) dX0_put_11 rfl rfl ?_
  refine z_put (fs' := [.int (iZ ox), .int (iZ oy), .int (iZ ow), .int (iZ hg)]) (q := 15) fpX0_16 dX0_put_12 c5 (Nat.le_of_ble_eq_true rfl) rfl rfl rfl rfl (fun σ7 c8 f9 => ?_)
  refine g_aload_n (q := 16) dX0_put_15 rfl rfl ?_
  refine g_iload (q := 18) dX0_put_16 rfl rfl ?_
  refine z_put (fs' := [.int (iZ ox), .int (iZ oy), .int (iZ ow), .int (iZ oh)]) (q := 21) fpX0_19 dX0_put_18 c8 (Nat.le_of_ble_eq_true rfl) rfl rfl rfl rfl (fun σ10 c11 f12 => ?_)
  refine z_vret dX0_put_21 rfl ?_
  exact ⟨rfl, c11, ((((g_Fr.rf.tr f3).tr f6).tr f9).tr f12)⟩
def rb (x w : Int) : Int := (pw w - 1) * pw x
theorem rb_ok0 : ∀ x : Nat, x < 13 → ∀ w : Nat, w < 13 → x + w ≤ 12 → ((iZ 1 <<< (iZ (w : Int) &&& 31)) - iZ 1) <<< (iZ (x : Int) &&& 31) = iZ (rb (x : Int) (w : Int)) := by decide +kernel
theorem rb_ok {x w : Int} (h : 0 ≤ x ∧ 0 ≤ w ∧ x + w ≤ 12) : ((iZ 1 <<< (iZ w &&& 31)) - iZ 1) <<< (iZ x &&& 31) = iZ (rb x w) := by
  obtain ⟨n, rfl⟩ := Int.eq_ofNat_of_zero_le h.1
  obtain ⟨m, rfl⟩ := Int.eq_ofNat_of_zero_le h.2.1
  exact rb_ok0 n (by omega) m (by omega) (by omega)
theorem r_rowBits (σ : g_H0) (a : Nat) (x y wd hg : Int) (h0 : σ[a]? = some (.inr (0, [.int (iZ x), .int (iZ y), .int (iZ wd), .int (iZ hg)]))) (h : 0 ≤ x ∧ 0 ≤ wd ∧ x + wd ≤ 12) : Ret mX0_rowBits [.ref a] σ (fun r σ' => r = some (.int (iZ (rb x wd))) ∧ σ' = σ) := by
  refine Ret.of moX0_rowBits.1 (Nat.le_of_ble_eq_true rfl) (fun w => ?_)
  show Go w mX0_rowBits (0, 0) 0 [some (.ref a)] [] σ (fun r σ' => r = some (.int (iZ (rb x wd))) ∧ σ' = σ)
  refine z_iconst (q := 1) dX0_rowBits_0 rfl ?_
  refine g_aload_n (q := 2) dX0_rowBits_1 rfl rfl ?_
  refine g_get (q := 5) flX0_16 dX0_rowBits_2 h0 rfl rfl ?_
  refine g_ishl (q := 6) dX0_rowBits_5 rfl ?_
  refine z_iconst (q := 7) dX0_rowBits_6 rfl ?_
  refine g_isub (q := 8) dX0_rowBits_7 rfl ?_
  refine g_aload_n (q := 9) dX0_rowBits_8 rfl rfl ?_
  refine g_get (q := 12) flX0_7 dX0_rowBits_9 h0 rfl rfl ?_
  refine g_ishl (q := 13) dX0_rowBits_12 rfl ?_
  refine z_iret dX0_rowBits_13 rfl ?_
  exact ⟨congrArg (fun z => some (Value.int z)) (rb_ok h), rfl⟩
def cW (tw th t : Int) : Int := if t = 1 then th else tw
theorem r_wideWhen (σ : g_H0) (a : Nat) (tw th tl tc t : Int) (h0 : σ[a]? = some (.inr (7, [.int (iZ tw), .int (iZ th), .int (iZ tl), .int (iZ tc)]))) (bt : 0 ≤ t ∧ t ≤ 1) : Ret mX7_wideWhen [.ref a, .int (iZ t)] σ (fun r σ' => r = some (.int (iZ (cW tw th t))) ∧ σ' = σ) := by
  refine Ret.of moX7_wideWhen.1 (Nat.le_of_ble_eq_true rfl) (fun w => ?_)
  show Go w mX7_wideWhen (0, 0) 0 [some (.ref a), some (.int (iZ t))] [] σ (fun r σ' => r = some (.int (iZ (cW tw th t))) ∧ σ' = σ)
  refine g_iload_n (q := 1) dX7_wideWhen_0 rfl rfl ?_
  refine z_if_eq (t := 11) (q := 4) dX7_wideWhen_1 rfl (by omega) rfl (fun pc1 => ?_) (fun pc1 => ?_)
  · refine g_aload_n (q := 12) dX7_wideWhen_11 rfl rfl ?_
    refine g_get (q := 15) flX7_13 dX7_wideWhen_12 h0 rfl rfl ?_
    refine z_iret dX7_wideWhen_15 rfl ?_
    exact ⟨congrArg (fun z => some (Value.int (iZ z))) (by unfold cW; first | (rw [if_pos (by omega)]; done) | (rw [if_neg (by omega)]; done)), rfl⟩
  · refine g_aload_n (q := 5) dX7_wideWhen_4 rfl rfl ?_
    refine g_get (q := 8) flX7_7 dX7_wideWhen_5 h0 rfl rfl ?_
    refine g_goto (q := 15) dX7_wideWhen_8 rfl ?_
    refine z_iret dX7_wideWhen_15 rfl ?_
    exact ⟨congrArg (fun z => some (Value.int (iZ z))) (by unfold cW; first | (rw [if_pos (by omega)]; done) | (rw [if_neg (by omega)]; done)), rfl⟩
theorem r_highWhen (σ : g_H0) (a : Nat) (tw th tl tc t : Int) (h0 : σ[a]? = some (.inr (7, [.int (iZ tw), .int (iZ th), .int (iZ tl), .int (iZ tc)]))) (bt : 0 ≤ t ∧ t ≤ 1) : Ret mX7_highWhen [.ref a, .int (iZ t)] σ (fun r σ' => r = some (.int (iZ (cW th tw t))) ∧ σ' = σ) := by
  refine Ret.of moX7_highWhen.1 (Nat.le_of_ble_eq_true rfl) (fun w => ?_)
  show Go w mX7_highWhen (0, 0) 0 [some (.ref a), some (.int (iZ t))] [] σ (fun r σ' => r = some (.int (iZ (cW th tw t))) ∧ σ' = σ)
  refine g_iload_n (q := 1) dX7_highWhen_0 rfl rfl ?_
  refine z_if_eq (t := 11) (q := 4) dX7_highWhen_1 rfl (by omega) rfl (fun pc1 => ?_) (fun pc1 => ?_)
  · refine g_aload_n (q := 12) dX7_highWhen_11 rfl rfl ?_
    refine g_get (q := 15) flX7_7 dX7_highWhen_12 h0 rfl rfl ?_
    refine z_iret dX7_highWhen_15 rfl ?_
    exact ⟨congrArg (fun z => some (Value.int (iZ z))) (by unfold cW; first | (rw [if_pos (by omega)]; done) | (rw [if_neg (by omega)]; done)), rfl⟩
  · refine g_aload_n (q := 5) dX7_highWhen_4 rfl rfl ?_
    refine g_get (q := 8) flX7_13 dX7_highWhen_5 h0 rfl rfl ?_
    refine g_goto (q := 15) dX7_highWhen_8 rfl ?_
    refine z_iret dX7_highWhen_15 rfl ?_
    exact ⟨congrArg (fun z => some (Value.int (iZ z))) (by unfold cW; first | (rw [if_pos (by omega)]; done) | (rw [if_neg (by omega)]; done)), rfl⟩
theorem r_stampAt (σ : g_H0) (a o : Nat) (hne : a ≠ o) (tw th tl tc ox oy ow oh x y t : Int) (h0 : σ[a]? = some (.inr (7, [.int (iZ tw), .int (iZ th), .int (iZ tl), .int (iZ tc)]))) (h1 : σ[o]? = some (.inr (0, [.int (iZ ox), .int (iZ oy), .int (iZ ow), .int (iZ oh)]))) (bt : 0 ≤ t ∧ t ≤ 1) : Ret mX7_stampAt [.ref a, .ref o, .int (iZ x), .int (iZ y), .int (iZ t)] σ (fun r σ' => r = none ∧ σ'[o]? = some (.inr (0, [.int (iZ x), .int (iZ y), .int (iZ (cW tw th t)), .int (iZ (cW th tw t))])) ∧ g_Fr (fun b => b = o) σ σ') := by
  refine Ret.of moX7_stampAt.1 (Nat.le_of_ble_eq_true rfl) (fun w => ?_)
  show Go w mX7_stampAt (0, 0) 0 [some (.ref a), some (.ref o), some (.int (iZ x)), some (.int (iZ y)), some (.int (iZ t))] [] σ (fun r σ' => r = none ∧ σ'[o]? = some (.inr (0, [.int (iZ x), .int (iZ y), .int (iZ (cW tw th t)), .int (iZ (cW th tw t))])) ∧ g_Fr (fun b => b = o) σ σ')
  refine g_aload_n (q := 1) dX7_stampAt_0 rfl rfl ?_
  refine g_iload_n (q := 2) dX7_stampAt_1 rfl rfl ?_
  refine g_iload_n (q := 3) dX7_stampAt_2 rfl rfl ?_
  refine g_aload_n (q := 4) dX7_stampAt_3 rfl rfl ?_
  refine g_iload (q := 6) dX7_stampAt_4 rfl rfl ?_
  refine g_callV (As := [.int (iZ t)]) (rest := [.int (iZ y), .int (iZ x), .ref o]) (q := 9) moX7_wideWhen lkX7_stampAt_16 dX7_stampAt_6 rfl h0 (r_wideWhen σ a tw th tl tc t h0 (by omega)) rfl rfl (Nat.le_of_ble_eq_true rfl) (Nat.le_of_ble_eq_true rfl) (Nat.le_of_ble_eq_true rfl) rfl ?_
  rintro r1 s1 hp
  rw [hp.1, hp.2]
  show Go w mX7_stampAt (0, 0) 9 [some (.ref a), some (.ref o), some (.int (iZ x)), some (.int (iZ y)), some (.int (iZ t))] [.int (iZ (cW tw th t)), .int (iZ y), .int (iZ x), .ref o] σ (fun r σ' => r = none ∧ σ'[o]? = some (.inr (0, [.int (iZ x), .int (iZ y), .int (iZ (cW tw th t)), .int (iZ (cW th tw t))])) ∧ g_Fr (fun b => b = o) σ σ')
  refine g_aload_n (q := 10) dX7_stampAt_9 rfl rfl ?_
  refine g_iload (q := 12) dX7_stampAt_10 rfl rfl ?_
  refine g_callV (As := [.int (iZ t)]) (rest := [.int (iZ (cW tw th t)), .int (iZ y), .int (iZ x), .ref o]) (q := 15) moX7_highWhen lkX7_stampAt_20 dX7_stampAt_12 rfl h0 (r_highWhen σ a tw th tl tc t h0 (by omega)) rfl rfl (Nat.le_of_ble_eq_true rfl) (Nat.le_of_ble_eq_true rfl) (Nat.le_of_ble_eq_true rfl) rfl ?_
  rintro r1 s1 hp
  rw [hp.1, hp.2]
  show Go w mX7_stampAt (0, 0) 15 [some (.ref a), some (.ref o), some (.int (iZ x)), some (.int (iZ y)), some (.int (iZ t))] [.int (iZ (cW th tw t)), .int (iZ (cW tw th t)), .int (iZ y), .int (iZ x), .ref o] σ (fun r σ' => r = none ∧ σ'[o]? = some (.inr (0, [.int (iZ x), .int (iZ y), .int (iZ (cW tw th t)), .int (iZ (cW th tw t))])) ∧ g_Fr (fun b => b = o) σ σ')
  refine g_callV (As := [.int (iZ x), .int (iZ y), .int (iZ (cW tw th t)), .int (iZ (cW th tw t))]) (rest := []) (q := 18) moX0_put lkX7_stampAt_23 dX7_stampAt_15 rfl h1 (r_put σ o ox oy ow oh x y (cW tw th t) (cW th tw t) h1) rfl rfl (Nat.le_of_ble_eq_true rfl) (Nat.le_of_ble_eq_true rfl) (Nat.le_of_ble_eq_true rfl) rfl ?_
  rintro rp1 σ1 ⟨rfl, hp1, fp1⟩
  have c2 := (fp1.2 a (by omega)).trans h0
  show Go w mX7_stampAt (0, 0) 18 [some (.ref a), some (.ref o), some (.int (iZ x)), some (.int (iZ y)), some (.int (iZ t))] [] σ1 (fun r σ' => r = none ∧ σ'[o]? = some (.inr (0, [.int (iZ x), .int (iZ y), .int (iZ (cW tw th t)), .int (iZ (cW th tw t))])) ∧ g_Fr (fun b => b = o) σ σ')
  refine z_vret dX7_stampAt_18 rfl ?_
  exact ⟨rfl, hp1, fp1⟩
/-- HITS by which a HOLE so wide and high is NIBBLED; 0 if it can not be -/
def cHf (tw th tc ow oh t : Int) : Int := if (t = 1 ∧ tc = 0) ∨ ow < cW tw th t ∨ oh < cW th tw t then 0 else cSt ow (cW tw th t) * cSt oh (cW th tw t)
theorem r_hitsFor (σ : g_H0) (a o : Nat) (tw th tl tc ox oy ow oh t : Int) (h0 : σ[a]? = some (.inr (7, [.int (iZ tw), .int (iZ th), .int (iZ tl), .int (iZ tc)]))) (h1 : σ[o]? = some (.inr (0, [.int (iZ ox), .int (iZ oy), .int (iZ ow), .int (iZ oh)]))) (bt : 0 ≤ t ∧ t ≤ 1) (b_tw : 0 ≤ tw ∧ tw < 1000) (b_th : 0 ≤ th ∧ th < 1000) (b_tc : 0 ≤ tc ∧ tc ≤ 1) (b_ow : 0 ≤ ow ∧ ow < 1000) (b_oh : 0 ≤ oh ∧ oh < 1000) : Ret mX7_hitsFor [.ref a, .ref o, .int (iZ t)] σ (fun r σ' => r = some (.int (iZ (cHf tw th tc ow oh t))) ∧ σ' = σ) := by
  refine Ret.of moX7_hitsFor.1 (Nat.le_of_ble_eq_true rfl) (fun w => ?_)
  have bcw : 0 ≤ cW tw th t ∧ cW tw th t < 1000 := by unfold cW; split <;> omega
  have bch : 0 ≤ cW th tw t ∧ cW th tw t < 1000 := by unfold cW; split <;> omega
  show Go w mX7_hitsFor (0, 0) 0 [some (.ref a), some (.ref o), some (.int (iZ t)), none, none] [] σ (fun r σ' => r = some (.int (iZ (cHf tw th tc ow oh t))) ∧ σ' = σ)
  refine g_aload_n (q := 1) dX7_hitsFor_0 rfl rfl ?_
  refine g_iload_n (q := 2) dX7_hitsFor_1 rfl rfl ?_
  refine g_callV (As := [.int (iZ t)]) (rest := []) (q := 5) moX7_wideWhen lkX7_hitsFor_16 dX7_hitsFor_2 rfl h0 (r_wideWhen σ a tw th tl tc t h0 (by omega)) rfl rfl (Nat.le_of_ble_eq_true rfl) (Nat.le_of_ble_eq_true rfl) (Nat.le_of_ble_eq_true rfl) rfl ?_
  rintro r1 s1 hp
  rw [hp.1, hp.2]
  show Go w mX7_hitsFor (0, 0) 5 [some (.ref a), some (.ref o), some (.int (iZ t)), none, none] [.int (iZ (cW tw th t))] σ (fun r σ' => r = some (.int (iZ (cHf tw th tc ow oh t))) ∧ σ' = σ)
  refine g_istore_n (ml' := [some (.ref a), some (.ref o), some (.int (iZ t)), some (.int (iZ (cW tw th t))), none]) (q := 6) dX7_hitsFor_5 rfl (Nat.le_of_ble_eq_true rfl) rfl rfl ?_
  refine g_aload_n (q := 7) dX7_hitsFor_6 rfl rfl ?_
  refine g_iload_n (q := 8) dX7_hitsFor_7 rfl rfl ?_
  refine g_callV (As := [.int (iZ t)]) (rest := []) (q := 11) moX7_highWhen lkX7_hitsFor_20 dX7_hitsFor_8 rfl h0 (r_highWhen σ a tw th tl tc t h0 (by omega)) rfl rfl (Nat.le_of_ble_eq_true rfl) (Nat.le_of_ble_eq_true rfl) (Nat.le_of_ble_eq_true rfl) rfl ?_
  rintro r1 s1 hp
  rw [hp.1, hp.2]
  show Go w mX7_hitsFor (0, 0) 11 [some (.ref a), some (.ref o), some (.int (iZ t)), some (.int (iZ (cW tw th t))), none] [.int (iZ (cW th tw t))] σ (fun r σ' => r = some (.int (iZ (cHf tw th tc ow oh t))) ∧ σ' = σ)
  refine g_istore (ml' := [some (.ref a), some (.ref o), some (.int (iZ t)), some (.int (iZ (cW tw th t))), some (.int (iZ (cW th tw t)))]) (q := 13) dX7_hitsFor_11 rfl (Nat.le_of_ble_eq_true rfl) rfl rfl ?_
  refine g_iload_n (q := 14) dX7_hitsFor_13 rfl rfl ?_
  refine z_if_eq (t := 24) (q := 17) dX7_hitsFor_14 rfl (by omega) rfl (fun pc1 => ?_) (fun pc1 => ?_)
  · refine g_iload_n (q := 25) dX7_hitsFor_24 rfl rfl ?_
    refine g_aload_n (q := 26) dX7_hitsFor_25 rfl rfl ?_
    refine g_get (q := 29) flX7_33 dX7_hitsFor_26 h1 rfl rfl ?_
    refine z_icmp_gt (t := 41) (q := 32) dX7_hitsFor_29 rfl (by omega) rfl (fun pc2 => ?_) (fun pc2 => ?_)
    · refine z_iconst (q := 42) dX7_hitsFor_41 rfl ?_
      refine z_iret dX7_hitsFor_42 rfl ?_
      exact ⟨congrArg (fun z => some (Value.int (iZ z))) (by unfold cHf; rw [if_pos (by omega)]), rfl⟩
    · refine g_iload (q := 34) dX7_hitsFor_32 rfl rfl ?_
      refine g_aload_n (q := 35) dX7_hitsFor_34 rfl rfl ?_
      refine g_get (q := 38) flX7_34 dX7_hitsFor_35 h1 rfl rfl ?_
      refine z_icmp_le (t := 43) (q := 41) dX7_hitsFor_38 rfl (by omega) rfl (fun pc3 => ?_) (fun pc3 => ?_)
      · refine g_aload_n (q := 44) dX7_hitsFor_43 rfl rfl ?_
        refine g_get (q := 47) flX7_33 dX7_hitsFor_44 h1 rfl rfl ?_
        refine g_iload_n (q := 48) dX7_hitsFor_47 rfl rfl ?_
        refine g_callSN (As := [.int (iZ ow), .int (iZ (cW tw th t))]) (rest := []) (q := 51) moX8_stepsOver lkX7_hitsFor_35 dX7_hitsFor_48 (r_stepsOver σ ow (cW tw th t) (by omega) (by omega)) rfl rfl (Nat.le_of_ble_eq_true rfl) (Nat.le_of_ble_eq_true rfl) (Nat.le_of_ble_eq_true rfl) rfl ?_
        rintro r1 s1 hp
        rw [hp.1, hp.2]
        show Go w mX7_hitsFor (0, 0) 51 [some (.ref a), some (.ref o), some (.int (iZ t)), some (.int (iZ (cW tw th t))), some (.int (iZ (cW th tw t)))] [.int (iZ (cSt ow (cW tw th t)))] σ (fun r σ' => r = some (.int (iZ (cHf tw th tc ow oh t))) ∧ σ' = σ)
        refine g_aload_n (q := 52) dX7_hitsFor_51 rfl rfl ?_
        refine g_get (q := 55) flX7_34 dX7_hitsFor_52 h1 rfl rfl ?_
        refine g_iload (q := 57) dX7_hitsFor_55 rfl rfl ?_
        refine g_callSN (As := [.int (iZ oh), .int (iZ (cW th tw t))]) (rest := [.int (iZ (cSt ow (cW tw th t)))]) (q := 60) moX8_stepsOver lkX7_hitsFor_35 dX7_hitsFor_57 (r_stepsOver σ oh (cW th tw t) (by omega) (by omega)) rfl rfl (Nat.le_of_ble_eq_true rfl) (Nat.le_of_ble_eq_true rfl) (Nat.le_of_ble_eq_true rfl) rfl ?_
        rintro r1 s1 hp
        rw [hp.1, hp.2]
        show Go w mX7_hitsFor (0, 0) 60 [some (.ref a), some (.ref o), some (.int (iZ t)), some (.int (iZ (cW tw th t))), some (.int (iZ (cW th tw t)))] [.int (iZ (cSt oh (cW th tw t))), .int (iZ (cSt ow (cW tw th t)))] σ (fun r σ' => r = some (.int (iZ (cHf tw th tc ow oh t))) ∧ σ' = σ)
        refine z_imul (q := 61) dX7_hitsFor_60 rfl ?_
        refine z_iret dX7_hitsFor_61 rfl ?_
        exact ⟨congrArg (fun z => some (Value.int (iZ z))) (by unfold cHf; rw [if_neg (by omega)]), rfl⟩
      · refine z_iconst (q := 42) dX7_hitsFor_41 rfl ?_
        refine z_iret dX7_hitsFor_42 rfl ?_
        exact ⟨congrArg (fun z => some (Value.int (iZ z))) (by unfold cHf; rw [if_pos (by omega)]), rfl⟩
  · refine g_aload_n (q := 18) dX7_hitsFor_17 rfl rfl ?_
    refine g_get (q := 21) flX7_29 dX7_hitsFor_18 h0 rfl rfl ?_
    refine z_if_eq (t := 41) (q := 24) dX7_hitsFor_21 rfl (by omega) rfl (fun pc4 => ?_) (fun pc4 => ?_)
    · refine z_iconst (q := 42) dX7_hitsFor_41 rfl ?_
      refine z_iret dX7_hitsFor_42 rfl ?_
      exact ⟨congrArg (fun z => some (Value.int (iZ z))) (by unfold cHf; rw [if_pos (by omega)]), rfl⟩
    · refine g_iload_n (q := 25) dX7_hitsFor_24 rfl rfl ?_
      refine g_aload_n (q := 26) dX7_hitsFor_25 rfl rfl ?_
      refine g_get (q := 29) flX7_33 dX7_hitsFor_26 h1 rfl rfl ?_
      refine z_icmp_gt (t := 41) (q := 32) dX7_hitsFor_29 rfl (by omega) rfl (fun pc5 => ?_) (fun pc5 => ?_)
      · refine z_iconst (q := 42) dX7_hitsFor_41 rfl ?_
        refine z_iret dX7_hitsFor_42 rfl ?_
        exact ⟨congrArg (fun z => some (Value.int (iZ z))) (by unfold cHf; rw [if_pos (by omega)]), rfl⟩
      · refine g_iload (q := 34) dX7_hitsFor_32 rfl rfl ?_
        refine g_aload_n (q := 35) dX7_hitsFor_34 rfl rfl ?_
        refine g_get (q := 38) flX7_34 dX7_hitsFor_35 h1 rfl rfl ?_
        refine z_icmp_le (t := 43) (q := 41) dX7_hitsFor_38 rfl (by omega) rfl (fun pc6 => ?_) (fun pc6 => ?_)
        · refine g_aload_n (q := 44) dX7_hitsFor_43 rfl rfl ?_
          refine g_get (q := 47) flX7_33 dX7_hitsFor_44 h1 rfl rfl ?_
          refine g_iload_n (q := 48) dX7_hitsFor_47 rfl rfl ?_
          refine g_callSN (As := [.int (iZ ow), .int (iZ (cW tw th t))]) (rest := []) (q := 51) moX8_stepsOver lkX7_hitsFor_35 dX7_hitsFor_48 (r_stepsOver σ ow (cW tw th t) (by omega) (by omega)) rfl rfl (Nat.le_of_ble_eq_true rfl) (Nat.le_of_ble_eq_true rfl) (Nat.le_of_ble_eq_true rfl) rfl ?_
          rintro r1 s1 hp
          rw [hp.1, hp.2]
          show Go w mX7_hitsFor (0, 0) 51 [some (.ref a), some (.ref o), some (.int (iZ t)), some (.int (iZ (cW tw th t))), some (.int (iZ (cW th tw t)))] [.int (iZ (cSt ow (cW tw th t)))] σ (fun r σ' => r = some (.int (iZ (cHf tw th tc ow oh t))) ∧ σ' = σ)
          refine g_aload_n (q := 52) dX7_hitsFor_51 rfl rfl ?_
          refine g_get (q := 55) flX7_34 dX7_hitsFor_52 h1 rfl rfl ?_
          refine g_iload (q := 57) dX7_hitsFor_55 rfl rfl ?_
          refine g_callSN (As := [.int (iZ oh), .int (iZ (cW th tw t))]) (rest := [.int (iZ (cSt ow (cW tw th t)))]) (q := 60) moX8_stepsOver lkX7_hitsFor_35 dX7_hitsFor_57 (r_stepsOver σ oh (cW th tw t) (by omega) (by omega)) rfl rfl (Nat.le_of_ble_eq_true rfl) (Nat.le_of_ble_eq_true rfl) (Nat.le_of_ble_eq_true rfl) rfl ?_
          rintro r1 s1 hp
          rw [hp.1, hp.2]
          show Go w mX7_hitsFor (0, 0) 60 [some (.ref a), some (.ref o), some (.int (iZ t)), some (.int (iZ (cW tw th t))), some (.int (iZ (cW th tw t)))] [.int (iZ (cSt oh (cW th tw t))), .int (iZ (cSt ow (cW tw th t)))] σ (fun r σ' => r = some (.int (iZ (cHf tw th tc ow oh t))) ∧ σ' = σ)
          refine z_imul (q := 61) dX7_hitsFor_60 rfl ?_
          refine z_iret dX7_hitsFor_61 rfl ?_
          exact ⟨congrArg (fun z => some (Value.int (iZ z))) (by unfold cHf; rw [if_neg (by omega)]), rfl⟩
        · refine z_iconst (q := 42) dX7_hitsFor_41 rfl ?_
          refine z_iret dX7_hitsFor_42 rfl ?_
          exact ⟨congrArg (fun z => some (Value.int (iZ z))) (by unfold cHf; rw [if_pos (by omega)]), rfl⟩
/-! THE TEXT -/
def rText (a : Nat) (L : Int) (tx : Int → Int) (σ : g_H0) : Prop := σ[a]? = some (.inr (6, [.ref (a + 1), .int (iZ L)])) ∧ ∃ X : Int → Int, σ[a + 1]? = some (.inl (1, 200, .inl (zA X))) ∧ ∀ k, 0 ≤ k → k < L → X k = tx k
theorem r_letterAt (σ : g_H0) (a : Nat) (L : Int) (tx : Int → Int) (h : rText a L tx σ) (hL : 0 ≤ L ∧ L ≤ 200) (ht : zBt L tx) (k : Int) (bk : 0 ≤ k ∧ k < 100000) : Ret mX6_letterAt [.ref a, .int (iZ k)] σ (fun r σ' => r = some (.int (iZ (mB L tx k))) ∧ σ' = σ) := by
  refine Ret.of moX6_letterAt.1 (Nat.le_of_ble_eq_true rfl) (fun w => ?_)
  obtain ⟨h0, X, h1, hX⟩ := h
  show Go w mX6_letterAt (0, 0) 0 [some (.ref a), some (.int (iZ k))] [] σ (fun r σ' => r = some (.int (iZ (mB L tx k))) ∧ σ' = σ)
  refine g_iload_n (q := 1) dX6_letterAt_0 rfl rfl ?_
  refine z_if_lt (t := 21) (q := 4) dX6_letterAt_1 rfl (by omega) rfl (fun pc1 => ?_) (fun pc1 => ?_)
  · refine z_iconst (q := 22) dX6_letterAt_21 rfl ?_
    refine z_zret dX6_letterAt_22 rfl rfl ?_
    exact ⟨congrArg (fun z => some (Value.int (iZ z))) (by unfold mB; rw [if_neg (by omega)]), rfl⟩
  · refine g_iload_n (q := 5) dX6_letterAt_4 rfl rfl ?_
    refine g_aload_n (q := 6) dX6_letterAt_5 rfl rfl ?_
    refine g_get (q := 9) flX6_15 dX6_letterAt_6 h0 rfl rfl ?_
    refine z_icmp_ge (t := 21) (q := 12) dX6_letterAt_9 rfl (by omega) rfl (fun pc2 => ?_) (fun pc2 => ?_)
    · refine z_iconst (q := 22) dX6_letterAt_21 rfl ?_
      refine z_zret dX6_letterAt_22 rfl rfl ?_
      exact ⟨congrArg (fun z => some (Value.int (iZ z))) (by unfold mB; rw [if_neg (by omega)]), rfl⟩
    · refine g_aload_n (q := 13) dX6_letterAt_12 rfl rfl ?_
      refine g_get (q := 16) flX6_9 dX6_letterAt_13 h0 rfl rfl ?_
      refine g_iload_n (q := 17) dX6_letterAt_16 rfl rfl ?_
      refine z_cald (q := 18) dX6_letterAt_17 h1 (by omega) rfl ?_
      refine g_goto (q := 22) dX6_letterAt_18 rfl ?_
      refine z_zret dX6_letterAt_22 rfl (ch_ret (by have q := hX k (by omega) (by omega); have q2 := ht k (by omega) (by omega); omega)) ?_
      exact ⟨congrArg (fun z => some (Value.int (iZ z))) (by unfold mB; rw [if_pos (by omega)]; exact hX k (by omega) (by omega)), rfl⟩
theorem r_tclear (σ : g_H0) (a : Nat) (L : Int) (tx tx2 : Int → Int) (h : rText a L tx σ) : Ret mX6_clear [.ref a] σ (fun r σ' => r = none ∧ rText a 0 tx2 σ' ∧ g_Fr (fun b => b = a ∨ b = a + 1) σ σ') := by
  refine Ret.of moX6_clear.1 (Nat.le_of_ble_eq_true rfl) (fun w => ?_)
  obtain ⟨h0, X, h1, hX⟩ := h
  show Go w mX6_clear (0, 0) 0 [some (.ref a)] [] σ (fun r σ' => r = none ∧ rText a 0 tx2 σ' ∧ g_Fr (fun b => b = a ∨ b = a + 1) σ σ')
  refine g_aload_n (q := 1) dX6_clear_0 rfl rfl ?_
  refine z_iconst (q := 2) dX6_clear_1 rfl ?_
  refine z_put (fs' := [.ref (a + 1), .int (iZ 0)]) (q := 5) fpX6_15 dX6_clear_2 h0 (Nat.le_of_ble_eq_true rfl) rfl rfl rfl rfl (fun σ1 c2 f3 => ?_)
  have c4 := (f3.2 (a + 1) (by omega)).trans h1
  refine z_vret dX6_clear_5 rfl ?_
  exact ⟨rfl, ⟨c2, X, c4, fun k k0 k1 => by omega⟩, (g_Fr.rf.tr (f3.wk (fun b e => Or.inl e)))⟩
theorem r_append (σ : g_H0) (a : Nat) (L : Int) (tx : Int → Int) (h : rText a L tx σ) (hL : 0 ≤ L ∧ L ≤ 200) (c : Int) (bc : 0 ≤ c ∧ c < 128) : Ret mX6_append [.ref a, .int (iZ c)] σ (fun r σ' => (L = 200 ∧ r = some (.int (iZ 0)) ∧ σ' = σ) ∨ (L < 200 ∧ r = some (.int (iZ 1)) ∧ rText a (L + 1) (zup tx L c) σ' ∧ g_Fr (fun b => b = a ∨ b = a + 1) σ σ')) := by
  refine Ret.of moX6_append.1 (Nat.le_of_ble_eq_true rfl) (fun w => ?_)
  obtain ⟨h0, X, h1, hX⟩ := h
  show Go w mX6_append (0, 0) 0 [some (.ref a), some (.int (iZ c))] [] σ (fun r σ' => (L = 200 ∧ r = some (.int (iZ 0)) ∧ σ' = σ) ∨ (L < 200 ∧ r = some (.int (iZ 1)) ∧ rText a (L + 1) (zup tx L c) σ' ∧ g_Fr (fun b => b = a ∨ b = a + 1) σ σ'))
  refine g_aload_n (q := 1) dX6_append_0 rfl rfl ?_
  refine g_get (q := 4) flX6_15 dX6_append_1 h0 rfl rfl ?_
  refine g_sipush (v := iZ 200) (q := 7) dX6_append_4 (by decide) rfl ?_
  refine z_icmp_lt (t := 12) (q := 10) dX6_append_7 rfl (by omega) rfl (fun pc1 => ?_) (fun pc1 => ?_)
  · refine g_aload_n (q := 13) dX6_append_12 rfl rfl ?_
    refine g_get (q := 16) flX6_9 dX6_append_13 h0 rfl rfl ?_
    refine g_aload_n (q := 17) dX6_append_16 rfl rfl ?_
    refine g_get (q := 20) flX6_15 dX6_append_17 h0 rfl rfl ?_
    refine g_iload_n (q := 21) dX6_append_20 rfl rfl ?_
    refine z_cast (q := 22) dX6_append_21 h1 (by omega) (by exact (ch_nar (by omega)).1) rfl (fun σ2 c3 f4 => ?_)
    have c5 := (f4.2 a (by omega)).trans h0
    refine g_aload_n (q := 23) dX6_append_22 rfl rfl ?_
    refine g_dup (q := 24) dX6_append_23 rfl rfl ?_
    refine g_get (q := 27) flX6_15 dX6_append_24 c5 rfl rfl ?_
    refine z_iconst (q := 28) dX6_append_27 rfl ?_
    refine z_iadd (q := 29) dX6_append_28 rfl ?_
    refine z_put (fs' := [.ref (a + 1), .int (iZ (L + 1))]) (q := 32) fpX6_15 dX6_append_29 c5 (Nat.le_of_ble_eq_true rfl) rfl rfl rfl rfl (fun σ6 c7 f8 => ?_)
    have c9 := (f8.2 (a + 1) (by omega)).trans c3
    refine z_iconst (q := 33) dX6_append_32 rfl ?_
    refine z_zret dX6_append_33 rfl rfl ?_
    refine Or.inr ⟨by omega, rfl, ⟨c7, _, c9, fun k k0 k1 => ?_⟩, (f4.wk (fun b e => Or.inr e)).tr (f8.wk (fun b e => Or.inl e))⟩
    by_cases e : k = L
    · subst e; rw [zup_self, zup_self]
    · rw [zup_ne _ _ e, zup_ne _ _ e]; exact hX k k0 (by omega)
  · refine z_iconst (q := 11) dX6_append_10 rfl ?_
    refine z_zret dX6_append_11 rfl rfl ?_
    exact Or.inl ⟨by omega, rfl, rfl⟩
