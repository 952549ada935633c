theorem l_uncut (w : g_W) (σ : g_H0) (b : Nat) (T S : Int → Int) (hS : rSt b T S σ) (wT : wfT T) (wS : wfS T S) (o : Nat) (x y wd hg : Int) (hA : σ[o]? = some (.inr (0, [.int (iZ x), .int (iZ y), .int (iZ wd), .int (iZ hg)]))) (bx : 0 ≤ x ∧ 0 ≤ wd ∧ x + wd ≤ 12) (by_ : 0 ≤ y ∧ 0 ≤ hg ∧ y + hg ≤ 12) : ∀ (n : Nat) (yy m : Int), y ≤ yy → yy + n = y + hg → Go w mX5_uncutIn (0, 0) 7 [some (.ref b), some (.ref o), some (.int (iZ m)), some (.int (iZ yy))] [] σ (fun r σ' => r = some (.int (iZ (cUnF S x wd n yy m))) ∧ σ' = σ) := by
  intro n
  induction n with
  | zero =>
    intro yy m h0 h1
    obtain ⟨bT, t0, t1, t2, t3, t4, tt, th, tap, tcl, tc2⟩ := id wT
    obtain ⟨s0, C, W, K, s1, s2, s3, hC, hW, hK⟩ := id hS
    obtain ⟨w1, w2, w3, w4, w5, w6⟩ := id wS
    refine g_iload_n (q := 8) dX5_uncutIn_7 rfl rfl ?_
    refine g_aload_n (q := 9) dX5_uncutIn_8 rfl rfl ?_
    refine g_get (q := 12) flX5_87 dX5_uncutIn_9 hA rfl rfl ?_
    refine g_aload_n (q := 13) dX5_uncutIn_12 rfl rfl ?_
    refine g_get (q := 16) flX5_90 dX5_uncutIn_13 hA rfl rfl ?_
    refine z_iadd (q := 17) dX5_uncutIn_16 rfl ?_
    refine z_icmp_ge (t := 51) (q := 20) dX5_uncutIn_17 rfl (by omega) rfl (fun pc1 => ?_) (fun pc1 => ?_)
    · refine g_iload_n (q := 52) dX5_uncutIn_51 rfl rfl ?_
      refine z_iret dX5_uncutIn_52 rfl ?_
      exact ⟨rfl, rfl⟩
    · exfalso
      omega
  | succ n ih =>
    intro yy m h0 h1
    obtain ⟨bT, t0, t1, t2, t3, t4, tt, th, tap, tcl, tc2⟩ := id wT
    obtain ⟨s0, C, W, K, s1, s2, s3, hC, hW, hK⟩ := id hS
    obtain ⟨w1, w2, w3, w4, w5, w6⟩ := id wS
    refine g_iload_n (q := 8) dX5_uncutIn_7 rfl rfl ?_
    refine g_aload_n (q := 9) dX5_uncutIn_8 rfl rfl ?_
    refine g_get (q := 12) flX5_87 dX5_uncutIn_9 hA rfl rfl ?_
    refine g_aload_n (q := 13) dX5_uncutIn_12 rfl rfl ?_
    refine g_get (q := 16) flX5_90 dX5_uncutIn_13 hA rfl rfl ?_
    refine z_iadd (q := 17) dX5_uncutIn_16 rfl ?_
    refine z_icmp_ge (t := 51) (q := 20) dX5_uncutIn_17 rfl (by omega) rfl (fun pc1 => ?_) (fun pc1 => ?_)
    · exfalso
      omega
    · refine g_iload_n (q := 21) dX5_uncutIn_20 rfl rfl ?_
      refine g_bipush (v := iZ 12) (q := 23) dX5_uncutIn_21 (by decide) rfl ?_
      refine z_icmp_ge (t := 51) (q := 26) dX5_uncutIn_23 rfl (by omega) rfl (fun pc2 => ?_) (fun pc2 => ?_)
      · exfalso
        omega
      · refine g_iload_n (q := 27) dX5_uncutIn_26 rfl rfl ?_
        refine g_aload_n (q := 28) dX5_uncutIn_27 rfl rfl ?_
        refine g_callV (As := []) (rest := [.int (iZ m)]) (q := 31) moX0_rowBits lkX5_uncutIn_93 dX5_uncutIn_28 rfl hA (r_rowBits σ o x y wd hg hA (by omega)) rfl rfl (Nat.le_of_ble_eq_true rfl) (Nat.le_of_ble_eq_true rfl) (Nat.le_of_ble_eq_true rfl) rfl ?_
        rintro rQ sQ hpQ
        rw [hpQ.1, hpQ.2]
        show Go w mX5_uncutIn (0, 0) 31 [some (.ref b), some (.ref o), some (.int (iZ m)), some (.int (iZ yy))] [.int (iZ (rb x wd)), .int (iZ m)] σ (fun r σ' => r = some (.int (iZ (cUnF S x wd (n + 1) yy m))) ∧ σ' = σ)
        refine g_aload_n (q := 32) dX5_uncutIn_31 rfl rfl ?_
        refine g_get (q := 35) flX5_9 dX5_uncutIn_32 s0 rfl rfl ?_
        refine g_iload_n (q := 36) dX5_uncutIn_35 rfl rfl ?_
        refine z_iald (q := 37) dX5_uncutIn_36 s1 (by omega) rfl ?_
        rw [show C yy = (rowB S yy) from (hC yy (by omega) (by omega))]
        have b3 := rowB_b (S := S) (row01 w1 (y := yy) (by omega))
        refine z_iconst (q := 38) dX5_uncutIn_37 rfl ?_
        refine g_ixor (q := 39) dX5_uncutIn_38 rfl ?_
        refine g_iand (q := 40) dX5_uncutIn_39 rfl ?_
        have hb1 := rowB_b (S := S) (row01 w1 (y := yy) (by omega))
        have hb2 := bw_unc (x := x) (w := wd) (c := rowB S yy) bx hb1
        rw [hb2.1]
        refine g_callS (As := [.int (iZ ((unM x wd (rowB S yy) : Nat) : Int))]) (rest := [.int (iZ m)]) (q := 43) moJ6_bitCount_0f7a4 lkX5_uncutIn_104 dX5_uncutIn_40 (r_bitCount σ (unM x wd (rowB S yy)) hb2.2) rfl rfl (Nat.le_of_ble_eq_true rfl) (Nat.le_of_ble_eq_true rfl) (Nat.le_of_ble_eq_true rfl) rfl ?_
        rintro rQ sQ hpQ
        rw [hpQ.1, hpQ.2]
        show Go w mX5_uncutIn (0, 0) 43 [some (.ref b), some (.ref o), some (.int (iZ m)), some (.int (iZ yy))] [.int (iZ (popc ((unM x wd (rowB S yy) : Nat) : Int))), .int (iZ m)] σ (fun r σ' => r = some (.int (iZ (cUnF S x wd (n + 1) yy m))) ∧ σ' = σ)
        rw [row_un (row01 w1 (y := yy) (by omega)) bx]
        show Go w mX5_uncutIn (0, 0) 43 [some (.ref b), some (.ref o), some (.int (iZ m)), some (.int (iZ yy))] [.int (iZ (rowU S yy x wd)), .int (iZ m)] σ (fun r σ' => r = some (.int (iZ (cUnF S x wd (n + 1) yy m))) ∧ σ' = σ)
        refine z_iadd (q := 44) dX5_uncutIn_43 rfl ?_
        refine g_istore_n (ml' := [some (.ref b), some (.ref o), some (.int (iZ (m + (rowU S yy x wd)))), some (.int (iZ yy))]) (q := 45) dX5_uncutIn_44 rfl (Nat.le_of_ble_eq_true rfl) rfl rfl ?_
        refine z_iincc (c := (yy + 1)) (ml' := [some (.ref b), some (.ref o), some (.int (iZ (m + (rowU S yy x wd)))), some (.int (iZ (yy + 1)))]) (q := 48) dX5_uncutIn_45 rfl (by omega) rfl rfl rfl ?_
        refine g_goto (q := 7) dX5_uncutIn_48 rfl ?_
        exact (ih (yy + 1) _ (by omega) (by omega)).mono (fun r σ1 hp => ⟨hp.1, hp.2⟩)
theorem r_uncutIn (σ : g_H0) (b : Nat) (T S : Int → Int) (hS : rSt b T S σ) (wT : wfT T) (wS : wfS T S) (o : Nat) (x y wd hg : Int) (hA : σ[o]? = some (.inr (0, [.int (iZ x), .int (iZ y), .int (iZ wd), .int (iZ hg)]))) (bx : 0 ≤ x ∧ 0 ≤ wd ∧ x + wd ≤ 12) (by_ : 0 ≤ y ∧ 0 ≤ hg ∧ y + hg ≤ 12) : Ret mX5_uncutIn [.ref b, .ref o] σ (fun r σ' => r = some (.int (iZ (cUn S x y wd hg))) ∧ σ' = σ) := by
  refine Ret.of moX5_uncutIn.1 (Nat.le_of_ble_eq_true rfl) (fun w => ?_)
  show Go w mX5_uncutIn (0, 0) 0 [some (.ref b), some (.ref o), none, none] [] σ (fun r σ' => r = some (.int (iZ (cUn S x y wd hg))) ∧ σ' = σ)
  refine z_iconst (q := 1) dX5_uncutIn_0 rfl ?_
  refine g_istore_n (ml' := [some (.ref b), some (.ref o), some (.int (iZ 0)), none]) (q := 2) dX5_uncutIn_1 rfl (Nat.le_of_ble_eq_true rfl) rfl rfl ?_
  refine g_aload_n (q := 3) dX5_uncutIn_2 rfl rfl ?_
  refine g_get (q := 6) flX5_87 dX5_uncutIn_3 hA rfl rfl ?_
  refine g_istore_n (ml' := [some (.ref b), some (.ref o), some (.int (iZ 0)), some (.int (iZ y))]) (q := 7) dX5_uncutIn_6 rfl (Nat.le_of_ble_eq_true rfl) rfl rfl ?_
  exact l_uncut w σ b T S hS wT wS o x y wd hg hA bx by_ hg.toNat y 0 (by omega) (by omega)
theorem r_isCut (σ : g_H0) (b : Nat) (T S : Int → Int) (hS : rSt b T S σ) (wT : wfT T) (wS : wfS T S) (o : Nat) (x y wd hg : Int) (hA : σ[o]? = some (.inr (0, [.int (iZ x), .int (iZ y), .int (iZ wd), .int (iZ hg)]))) (bx : 0 ≤ x ∧ 0 ≤ wd ∧ x + wd ≤ 12) (by_ : 0 ≤ y ∧ 0 ≤ hg ∧ y + hg ≤ 12) : Ret mX5_isCut [.ref b, .ref o] σ (fun r σ' => r = some (.int (bI (cUn S x y wd hg = 0))) ∧ σ' = σ) := by
  refine Ret.of moX5_isCut.1 (Nat.le_of_ble_eq_true rfl) (fun w => ?_)
  obtain ⟨s0, C, W, K, s1, s2, s3, hC, hW, hK⟩ := id hS
  obtain ⟨w1, w2, w3, w4, w5, w6⟩ := id wS
  show Go w mX5_isCut (0, 0) 0 [some (.ref b), some (.ref o)] [] σ (fun r σ' => r = some (.int (bI (cUn S x y wd hg = 0))) ∧ σ' = σ)
  refine g_aload_n (q := 1) dX5_isCut_0 rfl rfl ?_
  refine g_aload_n (q := 2) dX5_isCut_1 rfl rfl ?_
  refine g_callV (As := [.ref o]) (rest := []) (q := 5) moX5_uncutIn lkX5_isCut_83 dX5_isCut_2 rfl s0 (r_uncutIn σ _ T _ hS wT wS o x y wd hg hA (by omega) (by omega)) rfl rfl (Nat.le_of_ble_eq_true rfl) (Nat.le_of_ble_eq_true rfl) (Nat.le_of_ble_eq_true rfl) rfl ?_
  rintro rQ sQ hpQ
  rw [hpQ.1, hpQ.2]
  show Go w mX5_isCut (0, 0) 5 [some (.ref b), some (.ref o)] [.int (iZ (cUn S x y wd hg))] σ (fun r σ' => r = some (.int (bI (cUn S x y wd hg = 0))) ∧ σ' = σ)
  have b1 := cUn_b (S := S) (x := x) (y := y) (w := wd) (h := hg) w1 (by omega) (by omega)
  refine z_if_ne (t := 12) (q := 8) dX5_isCut_5 rfl (by omega) rfl (fun pc2 => ?_) (fun pc2 => ?_)
  · refine z_iconst (q := 13) dX5_isCut_12 rfl ?_
    refine z_zret dX5_isCut_13 rfl rfl ?_
    exact ⟨congrArg (fun v => some (Value.int v)) (bI_f (by omega)).symm, rfl⟩
  · refine z_iconst (q := 9) dX5_isCut_8 rfl ?_
    refine g_goto (q := 13) dX5_isCut_9 rfl ?_
    refine z_zret dX5_isCut_13 rfl rfl ?_
    exact ⟨congrArg (fun v => some (Value.int v)) (bI_t (by omega)).symm, rfl⟩
theorem r_isCellCut (σ : g_H0) (b : Nat) (T S : Int → Int) (hS : rSt b T S σ) (wT : wfT T) (wS : wfS T S) (x y : Int) (bx : 0 ≤ x ∧ x < 12) (by_ : 0 ≤ y ∧ y < 12) : Ret mX5_isCellCut [.ref b, .int (iZ x), .int (iZ y)] σ (fun r σ' => r = some (.int (bI (S (12 * y + x) = 1))) ∧ σ' = σ) := by
  refine Ret.of moX5_isCellCut.1 (Nat.le_of_ble_eq_true rfl) (fun w => ?_)
  obtain ⟨s0, C, W, K, s1, s2, s3, hC, hW, hK⟩ := id hS
  obtain ⟨w1, w2, w3, w4, w5, w6⟩ := id wS
  show Go w mX5_isCellCut (0, 0) 0 [some (.ref b), some (.int (iZ x)), some (.int (iZ y))] [] σ (fun r σ' => r = some (.int (bI (S (12 * y + x) = 1))) ∧ σ' = σ)
  refine g_aload_n (q := 1) dX5_isCellCut_0 rfl rfl ?_
  refine g_get (q := 4) flX5_9 dX5_isCellCut_1 s0 rfl rfl ?_
  refine g_iload_n (q := 5) dX5_isCellCut_4 rfl rfl ?_
  refine z_iald (q := 6) dX5_isCellCut_5 s1 (by omega) rfl ?_
  rw [show C y = (rowB S y) from (hC y (by omega) (by omega))]
  have b1 := rowB_b (S := S) (row01 w1 (y := y) (by omega))
  refine z_iconst (q := 7) dX5_isCellCut_6 rfl ?_
  refine g_iload_n (q := 8) dX5_isCellCut_7 rfl rfl ?_
  refine g_ishl (q := 9) dX5_isCellCut_8 rfl ?_
  have hb := rowB_b (S := S) (row01 w1 (y := y) (by omega))
  have hc := bw_cell (c := rowB S y) (x := x) hb bx
  have he : bt (rowB S y) x = S (12 * y + x) := by have q := rowB_bt (row01 w1 (y := y) (by omega)) (j := x.toNat) (by omega); rwa [Int.toNat_of_nonneg (by omega)] at q
  have h01 := w1 (12 * y + x) (by omega) (by omega)
  refine g_iand (q := 10) dX5_isCellCut_9 rfl ?_
  rw [hc.1]
  show Go w mX5_isCellCut (0, 0) 10 [some (.ref b), some (.int (iZ x)), some (.int (iZ y))] [.int (iZ (bt (rowB S y) x * pw x))] σ (fun r σ' => r = some (.int (bI (S (12 * y + x) = 1))) ∧ σ' = σ)
  refine z_if_eq (t := 17) (q := 13) dX5_isCellCut_10 rfl (by omega) rfl (fun pc2 => ?_) (fun pc2 => ?_)
  · refine z_iconst (q := 18) dX5_isCellCut_17 rfl ?_
    refine z_zret dX5_isCellCut_18 rfl rfl ?_
    exact ⟨congrArg (fun v => some (Value.int v)) (bI_f (by omega)).symm, rfl⟩
  · refine z_iconst (q := 14) dX5_isCellCut_13 rfl ?_
    refine g_goto (q := 18) dX5_isCellCut_14 rfl ?_
    refine z_zret dX5_isCellCut_18 rfl rfl ?_
    exact ⟨congrArg (fun v => some (Value.int v)) (bI_t (by omega)).symm, rfl⟩
def cCutF (S : Int → Int) : Nat → Int → Int → Int
  | 0, _, m => m
  | n + 1, y, m => cCutF S n (y + 1) (m + sm (fun i => S (12 * y + i)) 12)
theorem l_cutCells (w : g_W) (σ : g_H0) (b : Nat) (T S : Int → Int) (hS : rSt b T S σ) (wT : wfT T) (wS : wfS T S) : ∀ (n : Nat) (yy m : Int), 0 ≤ yy → yy + n = 12 → Go w mX5_cutCells (0, 0) 4 [some (.ref b), some (.int (iZ m)), some (.int (iZ yy))] [] σ (fun r σ' => r = some (.int (iZ (cCutF S n yy m))) ∧ σ' = σ) := by
  intro n
  induction n with
  | zero =>
    intro yy m h0 h1
    obtain ⟨s0, C, W, K, s1, s2, s3, hC, hW, hK⟩ := id hS
    obtain ⟨w1, w2, w3, w4, w5, w6⟩ := id wS
    refine g_iload_n (q := 5) dX5_cutCells_4 rfl rfl ?_
    refine g_bipush (v := iZ 12) (q := 7) dX5_cutCells_5 (by decide) rfl ?_
    refine z_icmp_ge (t := 28) (q := 10) dX5_cutCells_7 rfl (by omega) rfl (fun pc1 => ?_) (fun pc1 => ?_)
    · refine g_iload_n (q := 29) dX5_cutCells_28 rfl rfl ?_
      refine z_iret dX5_cutCells_29 rfl ?_
      exact ⟨rfl, rfl⟩
    · exfalso
      omega
  | succ n ih =>
    intro yy m h0 h1
    obtain ⟨s0, C, W, K, s1, s2, s3, hC, hW, hK⟩ := id hS
    obtain ⟨w1, w2, w3, w4, w5, w6⟩ := id wS
    refine g_iload_n (q := 5) dX5_cutCells_4 rfl rfl ?_
    refine g_bipush (v := iZ 12) (q := 7) dX5_cutCells_5 (by decide) rfl ?_
    refine z_icmp_ge (t := 28) (q := 10) dX5_cutCells_7 rfl (by omega) rfl (fun pc1 => ?_) (fun pc1 => ?_)
    · exfalso
      omega
    · refine g_iload_n (q := 11) dX5_cutCells_10 rfl rfl ?_
      refine g_aload_n (q := 12) dX5_cutCells_11 rfl rfl ?_
      refine g_get (q := 15) flX5_9 dX5_cutCells_12 s0 rfl rfl ?_
      refine g_iload_n (q := 16) dX5_cutCells_15 rfl rfl ?_
      refine z_iald (q := 17) dX5_cutCells_16 s1 (by omega) rfl ?_
      rw [show C yy = (rowB S yy) from (hC yy (by omega) (by omega))]
      have b2 := rowB_b (S := S) (row01 w1 (y := yy) (by omega))
      have hb1 := rowB_b (S := S) (row01 w1 (y := yy) (by omega))
      obtain ⟨rn, hrn⟩ := Int.eq_ofNat_of_zero_le hb1.1
      have hpp := row_pop (row01 w1 (y := yy) (by omega))
      rw [hrn] at hpp ⊢
      refine g_callS (As := [.int (iZ ((rn : Nat) : Int))]) (rest := [.int (iZ m)]) (q := 20) moJ6_bitCount_0f7a4 lkX5_cutCells_104 dX5_cutCells_17 (r_bitCount σ rn (by omega)) rfl rfl (Nat.le_of_ble_eq_true rfl) (Nat.le_of_ble_eq_true rfl) (Nat.le_of_ble_eq_true rfl) rfl ?_
      rintro rQ sQ hpQ
      rw [hpQ.1, hpQ.2]
      show Go w mX5_cutCells (0, 0) 20 [some (.ref b), some (.int (iZ m)), some (.int (iZ yy))] [.int (iZ (popc ((rn : Nat) : Int))), .int (iZ m)] σ (fun r σ' => r = some (.int (iZ (cCutF S (n + 1) yy m))) ∧ σ' = σ)
      rw [hpp]
      show Go w mX5_cutCells (0, 0) 20 [some (.ref b), some (.int (iZ m)), some (.int (iZ yy))] [.int (iZ (sm (fun i => S (12 * yy + i)) 12)), .int (iZ m)] σ (fun r σ' => r = some (.int (iZ (cCutF S (n + 1) yy m))) ∧ σ' = σ)
      refine z_iadd (q := 21) dX5_cutCells_20 rfl ?_
      refine g_istore_n (ml' := [some (.ref b), some (.int (iZ (m + (sm (fun i => S (12 * yy + i)) 12)))), some (.int (iZ yy))]) (q := 22) dX5_cutCells_21 rfl (Nat.le_of_ble_eq_true rfl) rfl rfl ?_
      refine z_iincc (c := (yy + 1)) (ml' := [some (.ref b), some (.int (iZ (m + (sm (fun i => S (12 * yy + i)) 12)))), some (.int (iZ (yy + 1)))]) (q := 25) dX5_cutCells_22 rfl (by omega) rfl rfl rfl ?_
      refine g_goto (q := 4) dX5_cutCells_25 rfl ?_
      exact (ih (yy + 1) _ (by omega) (by omega)).mono (fun r σ1 hp => ⟨hp.1, hp.2⟩)
theorem r_cutCells (σ : g_H0) (b : Nat) (T S : Int → Int) (hS : rSt b T S σ) (wT : wfT T) (wS : wfS T S) : Ret mX5_cutCells [.ref b] σ (fun r σ' => r = some (.int (iZ (cCutF S 12 0 0))) ∧ σ' = σ) := by
  refine Ret.of moX5_cutCells.1 (Nat.le_of_ble_eq_true rfl) (fun w => ?_)
  show Go w mX5_cutCells (0, 0) 0 [some (.ref b), none, none] [] σ (fun r σ' => r = some (.int (iZ (cCutF S 12 0 0))) ∧ σ' = σ)
  refine z_iconst (q := 1) dX5_cutCells_0 rfl ?_
  refine g_istore_n (ml' := [some (.ref b), some (.int (iZ 0)), none]) (q := 2) dX5_cutCells_1 rfl (Nat.le_of_ble_eq_true rfl) rfl rfl ?_
  refine z_iconst (q := 3) dX5_cutCells_2 rfl ?_
  refine g_istore_n (ml' := [some (.ref b), some (.int (iZ 0)), some (.int (iZ 0))]) (q := 4) dX5_cutCells_3 rfl (Nat.le_of_ble_eq_true rfl) rfl rfl ?_
  exact l_cutCells w σ b T S hS wT wS 12 0 0 (by omega) (by omega)
def cOpen (T S : Int → Int) (h : Int) : Int := cUn S (T (4 * h + 29)) (T (4 * h + 30)) (T (4 * h + 31)) (T (4 * h + 32))
def cDoneF (T S : Int → Int) : Nat → Int → Int → Int
  | 0, _, m => m
  | n + 1, h, m => cDoneF T S n (h + 1) (if cOpen T S h = 0 then m + 1 else m)
theorem l_holesDone (w : g_W) (σ : g_H0) (b j : Nat) (T S : Int → Int) (hS : rSt b T S σ) (hJ : rJob j T σ) (wT : wfT T) (wS : wfS T S) : ∀ (n : Nat) (h m : Int), 0 ≤ h → h + n = T 3 → Go w mX5_holesDone (0, 0) 4 [some (.ref b), some (.ref j), some (.int (iZ m)), some (.int (iZ h))] [] σ (fun r σ' => r = some (.int (iZ (cDoneF T S n h m))) ∧ σ' = σ) := by
  intro n
  induction n with
  | zero =>
    intro h m h0 h1
    obtain ⟨bT, t0, t1, t2, t3, t4, tt, th, tap, tcl, tc2⟩ := id wT
    obtain ⟨j0, j1, ⟨jf, j2, j2'⟩, ⟨jg, j3, j3'⟩, ⟨jC, j4, j4'⟩, j5, j6⟩ := id hJ
    obtain ⟨s0, C, W, K, s1, s2, s3, hC, hW, hK⟩ := id hS
    obtain ⟨w1, w2, w3, w4, w5, w6⟩ := id wS
    refine g_iload_n (q := 5) dX5_holesDone_4 rfl rfl ?_
    refine g_aload_n (q := 6) dX5_holesDone_5 rfl rfl ?_
    refine g_get (q := 9) flX5_110 dX5_holesDone_6 j0 rfl rfl ?_
    refine z_icmp_ge (t := 34) (q := 12) dX5_holesDone_9 rfl (by omega) rfl (fun pc1 => ?_) (fun pc1 => ?_)
    · refine g_iload_n (q := 35) dX5_holesDone_34 rfl rfl ?_
      refine z_iret dX5_holesDone_35 rfl ?_
      exact ⟨rfl, rfl⟩
    · exfalso
      omega
  | succ n ih =>
    intro h m h0 h1
    obtain ⟨bT, t0, t1, t2, t3, t4, tt, th, tap, tcl, tc2⟩ := id wT
    obtain ⟨j0, j1, ⟨jf, j2, j2'⟩, ⟨jg, j3, j3'⟩, ⟨jC, j4, j4'⟩, j5, j6⟩ := id hJ
    obtain ⟨s0, C, W, K, s1, s2, s3, hC, hW, hK⟩ := id hS
    obtain ⟨w1, w2, w3, w4, w5, w6⟩ := id wS
    refine g_iload_n (q := 5) dX5_holesDone_4 rfl rfl ?_
    refine g_aload_n (q := 6) dX5_holesDone_5 rfl rfl ?_
    refine g_get (q := 9) flX5_110 dX5_holesDone_6 j0 rfl rfl ?_
    refine z_icmp_ge (t := 34) (q := 12) dX5_holesDone_9 rfl (by omega) rfl (fun pc1 => ?_) (fun pc1 => ?_)
    · exfalso
      omega
    · refine g_aload_n (q := 13) dX5_holesDone_12 rfl rfl ?_
      refine g_aload_n (q := 14) dX5_holesDone_13 rfl rfl ?_
      refine g_get (q := 17) flX5_113 dX5_holesDone_14 j0 rfl rfl ?_
      refine g_iload_n (q := 18) dX5_holesDone_17 rfl rfl ?_
      obtain ⟨f2, e2, g2, k2⟩ := hJ.hole (s := h) (by omega) (by omega) (by omega)
      have k2 : σ[(j + 11 + h.toNat)]? = some (.inr (0, [.int (iZ (T (4 * h + 29))), .int (iZ (T (4 * h + 30))), .int (iZ (T (4 * h + 31))), .int (iZ (T (4 * h + 32)))])) := k2
      have q2 := th h (by omega) (by omega)
      refine z_aald (b := (j + 11 + h.toNat)) (q := 19) dX5_holesDone_18 rfl e2 (by omega) g2 rfl ?_
      refine g_callV (As := [.ref (j + 11 + h.toNat)]) (rest := []) (q := 22) moX5_isCut lkX5_holesDone_76 dX5_holesDone_19 rfl s0 (r_isCut σ _ T _ hS wT wS (j + 11 + h.toNat) (T (4 * h + 29)) (T (4 * h + 30)) (T (4 * h + 31)) (T (4 * h + 32)) k2 (by omega) (by omega)) rfl rfl (Nat.le_of_ble_eq_true rfl) (Nat.le_of_ble_eq_true rfl) (Nat.le_of_ble_eq_true rfl) rfl ?_
      rintro rQ sQ hpQ
      rw [hpQ.1, hpQ.2]
      show Go w mX5_holesDone (0, 0) 22 [some (.ref b), some (.ref j), some (.int (iZ m)), some (.int (iZ h))] [.int (bI (cUn S (T (4 * h + 29)) (T (4 * h + 30)) (T (4 * h + 31)) (T (4 * h + 32)) = 0))] σ (fun r σ' => r = some (.int (iZ (cDoneF T S (n + 1) h m))) ∧ σ' = σ)
      refine z_ifB_eq (t := 28) (q := 25) dX5_holesDone_22 rfl rfl (fun pc3 => ?_) (fun pc3 => ?_)
      · refine z_iincc (c := (h + 1)) (ml' := [some (.ref b), some (.ref j), some (.int (iZ m)), some (.int (iZ (h + 1)))]) (q := 31) dX5_holesDone_28 rfl (by omega) rfl rfl rfl ?_
        refine g_goto (q := 4) dX5_holesDone_31 rfl ?_
        refine (ih (h + 1) m (by omega) (by omega)).mono (fun r σ1 hp => ⟨hp.1.trans (congrArg (fun z => some (Value.int (iZ z))) ?_), hp.2⟩)
        conv => rhs; unfold cDoneF; unfold cOpen
        first | (rw [if_pos (by omega)]; done) | (rw [if_neg (by omega)]; done)
      · refine z_iincc (c := (m + 1)) (ml' := [some (.ref b), some (.ref j), some (.int (iZ (m + 1))), some (.int (iZ h))]) (q := 28) dX5_holesDone_25 rfl (by omega) rfl rfl rfl ?_
        refine z_iincc (c := (h + 1)) (ml' := [some (.ref b), some (.ref j), some (.int (iZ (m + 1))), some (.int (iZ (h + 1)))]) (q := 31) dX5_holesDone_28 rfl (by omega) rfl rfl rfl ?_
        refine g_goto (q := 4) dX5_holesDone_31 rfl ?_
        refine (ih (h + 1) (m + 1) (by omega) (by omega)).mono (fun r σ1 hp => ⟨hp.1.trans (congrArg (fun z => some (Value.int (iZ z))) ?_), hp.2⟩)
        conv => rhs; unfold cDoneF; unfold cOpen
        first | (rw [if_pos (by omega)]; done) | (rw [if_neg (by omega)]; done)
theorem r_holesDone (σ : g_H0) (b j : Nat) (T S : Int → Int) (hS : rSt b T S σ) (hJ : rJob j T σ) (wT : wfT T) (wS : wfS T S) : Ret mX5_holesDone [.ref b, .ref j] σ (fun r σ' => r = some (.int (iZ (cDoneF T S (T 3).toNat 0 0))) ∧ σ' = σ) := by
  refine Ret.of moX5_holesDone.1 (Nat.le_of_ble_eq_true rfl) (fun w => ?_)
  obtain ⟨bT, t0, t1, t2, t3, t4, tt, th, tap, tcl, tc2⟩ := id wT
  show Go w mX5_holesDone (0, 0) 0 [some (.ref b), some (.ref j), none, none] [] σ (fun r σ' => r = some (.int (iZ (cDoneF T S (T 3).toNat 0 0))) ∧ σ' = σ)
  refine z_iconst (q := 1) dX5_holesDone_0 rfl ?_
  refine g_istore_n (ml' := [some (.ref b), some (.ref j), some (.int (iZ 0)), none]) (q := 2) dX5_holesDone_1 rfl (Nat.le_of_ble_eq_true rfl) rfl rfl ?_
  refine z_iconst (q := 3) dX5_holesDone_2 rfl ?_
  refine g_istore_n (ml' := [some (.ref b), some (.ref j), some (.int (iZ 0)), some (.int (iZ 0))]) (q := 4) dX5_holesDone_3 rfl (Nat.le_of_ble_eq_true rfl) rfl rfl ?_
  exact l_holesDone w σ b j T S hS hJ wT wS (T 3).toNat 0 0 (by omega) (by omega)
theorem r_isDull (σ : g_H0) (b j : Nat) (T S : Int → Int) (hS : rSt b T S σ) (hJ : rJob j T σ) (wT : wfT T) (wS : wfS T S) (s : Int) (bs : 0 ≤ s ∧ s < T 2) : Ret mX5_isDull [.ref b, .ref j, .int (iZ s)] σ (fun r σ' => r = some (.int (bI (T (4 * s + 8) ≤ S (s + 144)))) ∧ σ' = σ) := by
  refine Ret.of moX5_isDull.1 (Nat.le_of_ble_eq_true rfl) (fun w => ?_)
  obtain ⟨bT, t0, t1, t2, t3, t4, tt, th, tap, tcl, tc2⟩ := id wT
  obtain ⟨j0, j1, ⟨jf, j2, j2'⟩, ⟨jg, j3, j3'⟩, ⟨jC, j4, j4'⟩, j5, j6⟩ := id hJ
  obtain ⟨s0, C, W, K, s1, s2, s3, hC, hW, hK⟩ := id hS
  obtain ⟨w1, w2, w3, w4, w5, w6⟩ := id wS
  show Go w mX5_isDull (0, 0) 0 [some (.ref b), some (.ref j), some (.int (iZ s))] [] σ (fun r σ' => r = some (.int (bI (T (4 * s + 8) ≤ S (s + 144)))) ∧ σ' = σ)
  refine g_aload_n (q := 1) dX5_isDull_0 rfl rfl ?_
  refine g_get (q := 4) flX5_15 dX5_isDull_1 s0 rfl rfl ?_
  refine g_iload_n (q := 5) dX5_isDull_4 rfl rfl ?_
  refine z_iald (q := 6) dX5_isDull_5 s2 (by omega) rfl ?_
  rw [show W s = (S (s + 144)) from (hW s (by omega) (by omega))]
  have b1 := w2 s (by omega) (by omega)
  refine g_aload_n (q := 7) dX5_isDull_6 rfl rfl ?_
  refine g_get (q := 10) flX5_49 dX5_isDull_7 j0 rfl rfl ?_
  refine g_iload_n (q := 11) dX5_isDull_10 rfl rfl ?_
  obtain ⟨f2, e2, g2, k2⟩ := hJ.tool (s := s) (by omega) (by omega) (by omega)
  have k2 : σ[(j + 5 + s.toNat)]? = some (.inr (7, [.int (iZ (T (4 * s + 5))), .int (iZ (T (4 * s + 6))), .int (iZ (T (4 * s + 8))), .int (iZ (T (4 * s + 7)))])) := k2
  have q2 := tt s (by omega) (by omega)
  refine z_aald (b := (j + 5 + s.toNat)) (q := 12) dX5_isDull_11 rfl e2 (by omega) g2 rfl ?_
  refine g_get (q := 15) flX5_101 dX5_isDull_12 k2 rfl rfl ?_
  refine z_icmp_lt (t := 22) (q := 18) dX5_isDull_15 rfl (by omega) rfl (fun pc3 => ?_) (fun pc3 => ?_)
  · refine z_iconst (q := 23) dX5_isDull_22 rfl ?_
    refine z_zret dX5_isDull_23 rfl rfl ?_
    exact ⟨congrArg (fun v => some (Value.int v)) (bI_f (by omega)).symm, rfl⟩
  · refine z_iconst (q := 19) dX5_isDull_18 rfl ?_
    refine g_goto (q := 23) dX5_isDull_19 rfl ?_
    refine z_zret dX5_isDull_23 rfl rfl ?_
    exact ⟨congrArg (fun v => some (Value.int v)) (bI_t (by omega)).symm, rfl⟩
theorem l_clampAt (w : g_W) (σ : g_H0) (b j : Nat) (T S : Int → Int) (hS : rSt b T S σ) (hJ : rJob j T σ) (wT : wfT T) (wS : wfS T S) (x y : Int) (b_x : 0 ≤ x ∧ x < 1000) (b_y : 0 ≤ y ∧ y < 1000) (hy : y = T 1 - 1) : ∀ (n : Nat) (h : Int), 0 ≤ h → h + n = T 4 → Go w mX5_clampAt (0, 0) 19 [some (.ref b), some (.ref j), some (.int (iZ x)), some (.int (iZ y)), some (.int (iZ h))] [] σ (fun r σ' => r = some (.int (iZ (mClampF T S x y n h))) ∧ σ' = σ) := by
  intro n
  induction n with
  | zero =>
    intro h h0 h1
    obtain ⟨bT, t0, t1, t2, t3, t4, tt, th, tap, tcl, tc2⟩ := id wT
    obtain ⟨j0, j1, ⟨jf, j2, j2'⟩, ⟨jg, j3, j3'⟩, ⟨jC, j4, j4'⟩, j5, j6⟩ := id hJ
    obtain ⟨s0, C, W, K, s1, s2, s3, hC, hW, hK⟩ := id hS
    obtain ⟨w1, w2, w3, w4, w5, w6⟩ := id wS
    refine g_iload (q := 21) dX5_clampAt_19 rfl rfl ?_
    refine g_aload_n (q := 22) dX5_clampAt_21 rfl rfl ?_
    refine g_get (q := 25) flX5_117 dX5_clampAt_22 j0 rfl rfl ?_
    refine z_icmp_ge (t := 54) (q := 28) dX5_clampAt_25 rfl (by omega) rfl (fun pc1 => ?_) (fun pc1 => ?_)
    · refine g_bipush (v := iZ (-4)) (q := 56) dX5_clampAt_54 (by decide) rfl ?_
      refine z_iret dX5_clampAt_56 rfl ?_
      exact ⟨congrArg (fun z => some (Value.int (iZ z))) (by unfold mClampF; rfl), rfl⟩
    · exfalso
      omega
  | succ n ih =>
    intro h h0 h1
    obtain ⟨bT, t0, t1, t2, t3, t4, tt, th, tap, tcl, tc2⟩ := id wT
    obtain ⟨j0, j1, ⟨jf, j2, j2'⟩, ⟨jg, j3, j3'⟩, ⟨jC, j4, j4'⟩, j5, j6⟩ := id hJ
    obtain ⟨s0, C, W, K, s1, s2, s3, hC, hW, hK⟩ := id hS
    obtain ⟨w1, w2, w3, w4, w5, w6⟩ := id wS
    refine g_iload (q := 21) dX5_clampAt_19 rfl rfl ?_
    refine g_aload_n (q := 22) dX5_clampAt_21 rfl rfl ?_
    refine g_get (q := 25) flX5_117 dX5_clampAt_22 j0 rfl rfl ?_
    refine z_icmp_ge (t := 54) (q := 28) dX5_clampAt_25 rfl (by omega) rfl (fun pc1 => ?_) (fun pc1 => ?_)
    · exfalso
      omega
    · refine g_iload_n (q := 29) dX5_clampAt_28 rfl rfl ?_
      refine g_aload_n (q := 30) dX5_clampAt_29 rfl rfl ?_
      refine g_get (q := 33) flX5_18 dX5_clampAt_30 s0 rfl rfl ?_
      refine g_iload (q := 35) dX5_clampAt_33 rfl rfl ?_
      refine z_iald (q := 36) dX5_clampAt_35 s3 (by omega) rfl ?_
      rw [show K h = (S (h + 151)) from (hK h (by omega) (by omega))]
      have b2 : 0 ≤ S (h + 151) ∧ S (h + 151) ≤ 12 := w4 h (by omega) (by omega)
      refine z_isub (q := 37) dX5_clampAt_36 rfl ?_
      refine z_iconst (q := 38) dX5_clampAt_37 rfl ?_
      refine z_iconst (q := 39) dX5_clampAt_38 rfl ?_
      refine g_callSN (As := [.int (iZ (x - (S (h + 151)))), .int (iZ 0), .int (iZ 1)]) (rest := []) (q := 42) moX8_isWithin lkX5_clampAt_120 dX5_clampAt_39 (r_isWithin σ (x - (S (h + 151))) 0 1 (by omega) (by omega) (by omega)) rfl rfl (Nat.le_of_ble_eq_true rfl) (Nat.le_of_ble_eq_true rfl) (Nat.le_of_ble_eq_true rfl) rfl ?_
      rintro rQ sQ hpQ
      rw [hpQ.1, hpQ.2]
      show Go w mX5_clampAt (0, 0) 42 [some (.ref b), some (.ref j), some (.int (iZ x)), some (.int (iZ y)), some (.int (iZ h))] [.int (bI (0 ≤ (x - (S (h + 151))) ∧ (x - (S (h + 151))) ≤ 1))] σ (fun r σ' => r = some (.int (iZ (mClampF T S x y (n + 1) h))) ∧ σ' = σ)
      refine z_ifB_eq (t := 48) (q := 45) dX5_clampAt_42 rfl rfl (fun pc3 => ?_) (fun pc3 => ?_)
      · refine z_iincc (c := (h + 1)) (ml' := [some (.ref b), some (.ref j), some (.int (iZ x)), some (.int (iZ y)), some (.int (iZ (h + 1)))]) (q := 51) dX5_clampAt_48 rfl (by omega) rfl rfl rfl ?_
        refine g_goto (q := 19) dX5_clampAt_51 rfl ?_
        exact (ih (h + 1) (by omega) (by omega)).mono (fun r σ1 hp => ⟨hp.1.trans (congrArg (fun z => some (Value.int (iZ z))) (by conv => rhs; unfold mClampF; rw [if_neg (by omega)])), hp.2⟩)
      · refine g_iload (q := 47) dX5_clampAt_45 rfl rfl ?_
        refine z_iret dX5_clampAt_47 rfl ?_
        exact ⟨congrArg (fun z => some (Value.int (iZ z))) (by unfold mClampF; rw [if_pos (by omega)]), rfl⟩
theorem mClampF_no {T S : Int → Int} {x y : Int} (hy : y ≠ T 1 - 1) : ∀ (n : Nat) (c : Int), mClampF T S x y n c = -4
  | 0, c => rfl
  | n + 1, c => by unfold mClampF; rw [if_neg (fun q => hy q.1)]; exact mClampF_no hy n (c + 1)
theorem r_clampAt (σ : g_H0) (b j : Nat) (T S : Int → Int) (hS : rSt b T S σ) (hJ : rJob j T σ) (wT : wfT T) (wS : wfS T S) (x y : Int) (b_x : 0 ≤ x ∧ x < 1000) (b_y : 0 ≤ y ∧ y < 1000) : Ret mX5_clampAt [.ref b, .ref j, .int (iZ x), .int (iZ y)] σ (fun r σ' => r = some (.int (iZ (mClamp T S x y))) ∧ σ' = σ) := by
  refine Ret.of moX5_clampAt.1 (Nat.le_of_ble_eq_true rfl) (fun w => ?_)
  obtain ⟨bT, t0, t1, t2, t3, t4, tt, th, tap, tcl, tc2⟩ := id wT
  obtain ⟨j0, j1, ⟨jf, j2, j2'⟩, ⟨jg, j3, j3'⟩, ⟨jC, j4, j4'⟩, j5, j6⟩ := id hJ
  show Go w mX5_clampAt (0, 0) 0 [some (.ref b), some (.ref j), some (.int (iZ x)), some (.int (iZ y)), none] [] σ (fun r σ' => r = some (.int (iZ (mClamp T S x y))) ∧ σ' = σ)
  refine g_iload_n (q := 1) dX5_clampAt_0 rfl rfl ?_
  refine g_aload_n (q := 2) dX5_clampAt_1 rfl rfl ?_
  refine g_get (q := 5) flX5_59 dX5_clampAt_2 j0 rfl rfl ?_
  refine g_get (q := 8) flX5_90 dX5_clampAt_5 j1 rfl rfl ?_
  refine z_iconst (q := 9) dX5_clampAt_8 rfl ?_
  refine z_isub (q := 10) dX5_clampAt_9 rfl ?_
  refine z_icmp_eq (t := 16) (q := 13) dX5_clampAt_10 rfl (by omega) rfl (fun pc1 => ?_) (fun pc1 => ?_)
  · refine z_iconst (q := 17) dX5_clampAt_16 rfl ?_
    refine g_istore (ml' := [some (.ref b), some (.ref j), some (.int (iZ x)), some (.int (iZ y)), some (.int (iZ 0))]) (q := 19) dX5_clampAt_17 rfl (Nat.le_of_ble_eq_true rfl) rfl rfl ?_
    exact l_clampAt w σ b j T S hS hJ wT wS x y b_x b_y (by omega) (T 4).toNat 0 (by omega) (by omega)
  · refine g_bipush (v := iZ (-4)) (q := 15) dX5_clampAt_13 (by decide) rfl ?_
    refine z_iret dX5_clampAt_15 rfl ?_
    exact ⟨congrArg (fun z => some (Value.int (iZ z))) (mClampF_no (by omega) _ _).symm, rfl⟩
theorem cOth {S : Int → Int} {c : Int} (h : 0 ≤ c ∧ c < 2) : (c = 0 ∧ S (-c + 152) = S 152) ∨ (c = 1 ∧ S (-c + 152) = S 151) := by
  rcases (by omega : c = 0 ∨ c = 1) with rfl | rfl
  · exact Or.inl ⟨rfl, rfl⟩
  · exact Or.inr ⟨rfl, rfl⟩
theorem r_taken (σ : g_H0) (b j : Nat) (T S : Int → Int) (hS : rSt b T S σ) (hJ : rJob j T σ) (wT : wfT T) (wS : wfS T S) (c q : Int) (bc : 0 ≤ c ∧ c < T 4) (bq : 0 ≤ q ∧ q ≤ 12) : Ret mX5_isTakenByOther [.ref b, .ref j, .int (iZ c), .int (iZ q)] σ (fun r σ' => r = some (.int (bI (T 4 = 2 ∧ (-1 ≤ q - S (-c + 152) ∧ q - S (-c + 152) ≤ 1)))) ∧ σ' = σ) := by
  refine Ret.of moX5_isTakenByOther.1 (Nat.le_of_ble_eq_true rfl) (fun w => ?_)
  obtain ⟨bT, t0, t1, t2, t3, t4, tt, th, tap, tcl, tc2⟩ := id wT
  obtain ⟨j0, j1, ⟨jf, j2, j2'⟩, ⟨jg, j3, j3'⟩, ⟨jC, j4, j4'⟩, j5, j6⟩ := id hJ
  obtain ⟨s0, C, W, K, s1, s2, s3, hC, hW, hK⟩ := id hS
  obtain ⟨w1, w2, w3, w4, w5, w6⟩ := id wS
  have hcc := cOth (S := S) (c := c) (by omega)
  show Go w mX5_isTakenByOther (0, 0) 0 [some (.ref b), some (.ref j), some (.int (iZ c)), some (.int (iZ q)), none] [] σ (fun r σ' => r = some (.int (bI (T 4 = 2 ∧ (-1 ≤ q - S (-c + 152) ∧ q - S (-c + 152) ≤ 1)))) ∧ σ' = σ)
  refine z_iconst (q := 1) dX5_isTakenByOther_0 rfl ?_
  refine g_istore (ml' := [some (.ref b), some (.ref j), some (.int (iZ c)), some (.int (iZ q)), some (.int (iZ 0))]) (q := 3) dX5_isTakenByOther_1 rfl (Nat.le_of_ble_eq_true rfl) rfl rfl ?_
  refine g_iload (q := 5) dX5_isTakenByOther_3 rfl rfl ?_
  refine g_aload_n (q := 6) dX5_isTakenByOther_5 rfl rfl ?_
  refine g_get (q := 9) flX5_117 dX5_isTakenByOther_6 j0 rfl rfl ?_
  refine z_icmp_ge (t := 40) (q := 12) dX5_isTakenByOther_9 rfl (by omega) rfl (fun pc1 => ?_) (fun pc1 => ?_)
  · refine z_iconst (q := 41) dX5_isTakenByOther_40 rfl ?_
    refine z_zret dX5_isTakenByOther_41 rfl rfl ?_
    exact ⟨congrArg (fun v => some (Value.int v)) (bI_f (by omega)).symm, rfl⟩
  · refine g_iload (q := 14) dX5_isTakenByOther_12 rfl rfl ?_
    refine g_iload_n (q := 15) dX5_isTakenByOther_14 rfl rfl ?_
    refine z_icmp_eq (t := 34) (q := 18) dX5_isTakenByOther_15 rfl (by omega) rfl (fun pc2 => ?_) (fun pc2 => ?_)
    · refine z_iincc (c := 1) (ml' := [some (.ref b), some (.ref j), some (.int (iZ c)), some (.int (iZ q)), some (.int (iZ 1))]) (q := 37) dX5_isTakenByOther_34 rfl (by omega) rfl rfl rfl ?_
      refine g_goto (q := 3) dX5_isTakenByOther_37 rfl ?_
      refine g_iload (q := 5) dX5_isTakenByOther_3 rfl rfl ?_
      refine g_aload_n (q := 6) dX5_isTakenByOther_5 rfl rfl ?_
      refine g_get (q := 9) flX5_117 dX5_isTakenByOther_6 j0 rfl rfl ?_
      refine z_icmp_ge (t := 40) (q := 12) dX5_isTakenByOther_9 rfl (by omega) rfl (fun pc3 => ?_) (fun pc3 => ?_)
      · refine z_iconst (q := 41) dX5_isTakenByOther_40 rfl ?_
        refine z_zret dX5_isTakenByOther_41 rfl rfl ?_
        exact ⟨congrArg (fun v => some (Value.int v)) (bI_f (by omega)).symm, rfl⟩
      · refine g_iload (q := 14) dX5_isTakenByOther_12 rfl rfl ?_
        refine g_iload_n (q := 15) dX5_isTakenByOther_14 rfl rfl ?_
        refine z_icmp_eq (t := 34) (q := 18) dX5_isTakenByOther_15 rfl (by omega) rfl (fun pc4 => ?_) (fun pc4 => ?_)
        · refine z_iincc (c := 2) (ml' := [some (.ref b), some (.ref j), some (.int (iZ c)), some (.int (iZ q)), some (.int (iZ 2))]) (q := 37) dX5_isTakenByOther_34 rfl (by omega) rfl rfl rfl ?_
          refine g_goto (q := 3) dX5_isTakenByOther_37 rfl ?_
          refine g_iload (q := 5) dX5_isTakenByOther_3 rfl rfl ?_
          refine g_aload_n (q := 6) dX5_isTakenByOther_5 rfl rfl ?_
          refine g_get (q := 9) flX5_117 dX5_isTakenByOther_6 j0 rfl rfl ?_
          refine z_icmp_ge (t := 40) (q := 12) dX5_isTakenByOther_9 rfl (by omega) rfl (fun pc5 => ?_) (fun pc5 => ?_)
          · refine z_iconst (q := 41) dX5_isTakenByOther_40 rfl ?_
            refine z_zret dX5_isTakenByOther_41 rfl rfl ?_
            exact ⟨congrArg (fun v => some (Value.int v)) (bI_f (by omega)).symm, rfl⟩
          · exfalso
            omega
        · refine g_aload_n (q := 19) dX5_isTakenByOther_18 rfl rfl ?_
          refine g_get (q := 22) flX5_18 dX5_isTakenByOther_19 s0 rfl rfl ?_
          refine g_iload (q := 24) dX5_isTakenByOther_22 rfl rfl ?_
          refine z_iald (q := 25) dX5_isTakenByOther_24 s3 (by omega) rfl ?_
          rw [show K 1 = (S 152) from (hK 1 (by omega) (by omega))]
          have b6 : 0 ≤ S 152 ∧ S 152 ≤ 12 := w4 1 (by omega) (by omega)
          refine g_iload_n (q := 26) dX5_isTakenByOther_25 rfl rfl ?_
          refine g_callS (As := [.int (iZ (S 152)), .int (iZ q)]) (rest := []) (q := 29) moX2_areTooNear lkX5_isTakenByOther_124 dX5_isTakenByOther_26 (r_areTooNear σ (S 152) q (by omega) (by omega)) rfl rfl (Nat.le_of_ble_eq_true rfl) (Nat.le_of_ble_eq_true rfl) (Nat.le_of_ble_eq_true rfl) rfl ?_
          rintro rQ sQ hpQ
          rw [hpQ.1, hpQ.2]
          show Go w mX5_isTakenByOther (0, 0) 29 [some (.ref b), some (.ref j), some (.int (iZ c)), some (.int (iZ q)), some (.int (iZ 1))] [.int (bI (-1 ≤ (S 152) - q ∧ (S 152) - q ≤ 1))] σ (fun r σ' => r = some (.int (bI (T 4 = 2 ∧ (-1 ≤ q - S (-c + 152) ∧ q - S (-c + 152) ≤ 1)))) ∧ σ' = σ)
          refine z_ifB_eq (t := 34) (q := 32) dX5_isTakenByOther_29 rfl rfl (fun pc7 => ?_) (fun pc7 => ?_)
          · refine z_iincc (c := 2) (ml' := [some (.ref b), some (.ref j), some (.int (iZ c)), some (.int (iZ q)), some (.int (iZ 2))]) (q := 37) dX5_isTakenByOther_34 rfl (by omega) rfl rfl rfl ?_
            refine g_goto (q := 3) dX5_isTakenByOther_37 rfl ?_
            refine g_iload (q := 5) dX5_isTakenByOther_3 rfl rfl ?_
            refine g_aload_n (q := 6) dX5_isTakenByOther_5 rfl rfl ?_
            refine g_get (q := 9) flX5_117 dX5_isTakenByOther_6 j0 rfl rfl ?_
            refine z_icmp_ge (t := 40) (q := 12) dX5_isTakenByOther_9 rfl (by omega) rfl (fun pc8 => ?_) (fun pc8 => ?_)
            · refine z_iconst (q := 41) dX5_isTakenByOther_40 rfl ?_
              refine z_zret dX5_isTakenByOther_41 rfl rfl ?_
              exact ⟨congrArg (fun v => some (Value.int v)) (bI_f (by omega)).symm, rfl⟩
            · exfalso
              omega
          · refine z_iconst (q := 33) dX5_isTakenByOther_32 rfl ?_
            refine z_zret dX5_isTakenByOther_33 rfl rfl ?_
            exact ⟨congrArg (fun v => some (Value.int v)) (bI_t (by omega)).symm, rfl⟩
    · refine g_aload_n (q := 19) dX5_isTakenByOther_18 rfl rfl ?_
      refine g_get (q := 22) flX5_18 dX5_isTakenByOther_19 s0 rfl rfl ?_
      refine g_iload (q := 24) dX5_isTakenByOther_22 rfl rfl ?_
      refine z_iald (q := 25) dX5_isTakenByOther_24 s3 (by omega) rfl ?_
      rw [show K 0 = (S 151) from (hK 0 (by omega) (by omega))]
      have b9 : 0 ≤ S 151 ∧ S 151 ≤ 12 := w4 0 (by omega) (by omega)
      refine g_iload_n (q := 26) dX5_isTakenByOther_25 rfl rfl ?_
      refine g_callS (As := [.int (iZ (S 151)), .int (iZ q)]) (rest := []) (q := 29) moX2_areTooNear lkX5_isTakenByOther_124 dX5_isTakenByOther_26 (r_areTooNear σ (S 151) q (by omega) (by omega)) rfl rfl (Nat.le_of_ble_eq_true rfl) (Nat.le_of_ble_eq_true rfl) (Nat.le_of_ble_eq_true rfl) rfl ?_
      rintro rQ sQ hpQ
      rw [hpQ.1, hpQ.2]
      show Go w mX5_isTakenByOther (0, 0) 29 [some (.ref b), some (.ref j), some (.int (iZ c)), some (.int (iZ q)), some (.int (iZ 0))] [.int (bI (-1 ≤ (S 151) - q ∧ (S 151) - q ≤ 1))] σ (fun r σ' => r = some (.int (bI (T 4 = 2 ∧ (-1 ≤ q - S (-c + 152) ∧ q - S (-c + 152) ≤ 1)))) ∧ σ' = σ)
      refine z_ifB_eq (t := 34) (q := 32) dX5_isTakenByOther_29 rfl rfl (fun pc10 => ?_) (fun pc10 => ?_)
      · refine z_iincc (c := 1) (ml' := [some (.ref b), some (.ref j), some (.int (iZ c)), some (.int (iZ q)), some (.int (iZ 1))]) (q := 37) dX5_isTakenByOther_34 rfl (by omega) rfl rfl rfl ?_
        refine g_goto (q := 3) dX5_isTakenByOther_37 rfl ?_
        refine g_iload (q := 5) dX5_isTakenByOther_3 rfl rfl ?_
        refine g_aload_n (q := 6) dX5_isTakenByOther_5 rfl rfl ?_
        refine g_get (q := 9) flX5_117 dX5_isTakenByOther_6 j0 rfl rfl ?_
        refine z_icmp_ge (t := 40) (q := 12) dX5_isTakenByOther_9 rfl (by omega) rfl (fun pc11 => ?_) (fun pc11 => ?_)
        · refine z_iconst (q := 41) dX5_isTakenByOther_40 rfl ?_
          refine z_zret dX5_isTakenByOther_41 rfl rfl ?_
          exact ⟨congrArg (fun v => some (Value.int v)) (bI_f (by omega)).symm, rfl⟩
        · refine g_iload (q := 14) dX5_isTakenByOther_12 rfl rfl ?_
          refine g_iload_n (q := 15) dX5_isTakenByOther_14 rfl rfl ?_
          refine z_icmp_eq (t := 34) (q := 18) dX5_isTakenByOther_15 rfl (by omega) rfl (fun pc12 => ?_) (fun pc12 => ?_)
          · refine z_iincc (c := 2) (ml' := [some (.ref b), some (.ref j), some (.int (iZ c)), some (.int (iZ q)), some (.int (iZ 2))]) (q := 37) dX5_isTakenByOther_34 rfl (by omega) rfl rfl rfl ?_
            refine g_goto (q := 3) dX5_isTakenByOther_37 rfl ?_
            refine g_iload (q := 5) dX5_isTakenByOther_3 rfl rfl ?_
            refine g_aload_n (q := 6) dX5_isTakenByOther_5 rfl rfl ?_
            refine g_get (q := 9) flX5_117 dX5_isTakenByOther_6 j0 rfl rfl ?_
            refine z_icmp_ge (t := 40) (q := 12) dX5_isTakenByOther_9 rfl (by omega) rfl (fun pc13 => ?_) (fun pc13 => ?_)
            · refine z_iconst (q := 41) dX5_isTakenByOther_40 rfl ?_
              refine z_zret dX5_isTakenByOther_41 rfl rfl ?_
              exact ⟨congrArg (fun v => some (Value.int v)) (bI_f (by omega)).symm, rfl⟩
            · exfalso
              omega
          · refine g_aload_n (q := 19) dX5_isTakenByOther_18 rfl rfl ?_
            refine g_get (q := 22) flX5_18 dX5_isTakenByOther_19 s0 rfl rfl ?_
            refine g_iload (q := 24) dX5_isTakenByOther_22 rfl rfl ?_
            refine z_iald (q := 25) dX5_isTakenByOther_24 s3 (by omega) rfl ?_
            rw [show K 1 = (S 152) from (hK 1 (by omega) (by omega))]
            have b14 : 0 ≤ S 152 ∧ S 152 ≤ 12 := w4 1 (by omega) (by omega)
            refine g_iload_n (q := 26) dX5_isTakenByOther_25 rfl rfl ?_
            refine g_callS (As := [.int (iZ (S 152)), .int (iZ q)]) (rest := []) (q := 29) moX2_areTooNear lkX5_isTakenByOther_124 dX5_isTakenByOther_26 (r_areTooNear σ (S 152) q (by omega) (by omega)) rfl rfl (Nat.le_of_ble_eq_true rfl) (Nat.le_of_ble_eq_true rfl) (Nat.le_of_ble_eq_true rfl) rfl ?_
            rintro rQ sQ hpQ
            rw [hpQ.1, hpQ.2]
            show Go w mX5_isTakenByOther (0, 0) 29 [some (.ref b), some (.ref j), some (.int (iZ c)), some (.int (iZ q)), some (.int (iZ 1))] [.int (bI (-1 ≤ (S 152) - q ∧ (S 152) - q ≤ 1))] σ (fun r σ' => r = some (.int (bI (T 4 = 2 ∧ (-1 ≤ q - S (-c + 152) ∧ q - S (-c + 152) ≤ 1)))) ∧ σ' = σ)
            refine z_ifB_eq (t := 34) (q := 32) dX5_isTakenByOther_29 rfl rfl (fun pc15 => ?_) (fun pc15 => ?_)
            · refine z_iincc (c := 2) (ml' := [some (.ref b), some (.ref j), some (.int (iZ c)), some (.int (iZ q)), some (.int (iZ 2))]) (q := 37) dX5_isTakenByOther_34 rfl (by omega) rfl rfl rfl ?_
              refine g_goto (q := 3) dX5_isTakenByOther_37 rfl ?_
              refine g_iload (q := 5) dX5_isTakenByOther_3 rfl rfl ?_
              refine g_aload_n (q := 6) dX5_isTakenByOther_5 rfl rfl ?_
              refine g_get (q := 9) flX5_117 dX5_isTakenByOther_6 j0 rfl rfl ?_
              refine z_icmp_ge (t := 40) (q := 12) dX5_isTakenByOther_9 rfl (by omega) rfl (fun pc16 => ?_) (fun pc16 => ?_)
              · refine z_iconst (q := 41) dX5_isTakenByOther_40 rfl ?_
                refine z_zret dX5_isTakenByOther_41 rfl rfl ?_
                exact ⟨congrArg (fun v => some (Value.int v)) (bI_f (by omega)).symm, rfl⟩
              · exfalso
                omega
            · refine z_iconst (q := 33) dX5_isTakenByOther_32 rfl ?_
              refine z_zret dX5_isTakenByOther_33 rfl rfl ?_
              exact ⟨congrArg (fun v => some (Value.int v)) (bI_t (by omega)).symm, rfl⟩
      · refine z_iconst (q := 33) dX5_isTakenByOther_32 rfl ?_
        refine z_zret dX5_isTakenByOther_33 rfl rfl ?_
        exact ⟨congrArg (fun v => some (Value.int v)) (bI_t (by omega)).symm, rfl⟩
/-- whether a CLAMP holds a CELL of these -/
abbrev cHeld (T S : Int → Int) (x y wd hg : Int) : Prop := (y ≤ T 1 - 1 ∧ T 1 - 1 < y + hg) ∧ ((0 < T 4 ∧ x ≤ S 151 + 1 ∧ S 151 < x + wd ∧ (x ≤ S 151 ∨ S 151 + 1 < x + wd)) ∨ (1 < T 4 ∧ x ≤ S 152 + 1 ∧ S 152 < x + wd ∧ (x ≤ S 152 ∨ S 152 + 1 < x + wd)))
theorem r_isClamped (σ : g_H0) (b j : Nat) (T S : Int → Int) (hS : rSt b T S σ) (hJ : rJob j T σ) (wT : wfT T) (wS : wfS T S) (o : Nat) (x y wd hg : Int) (hA : σ[o]? = some (.inr (0, [.int (iZ x), .int (iZ y), .int (iZ wd), .int (iZ hg)]))) (b_x : 0 ≤ x ∧ x < 1000) (b_y : 0 ≤ y ∧ y < 1000) (b_wd : 0 ≤ wd ∧ wd < 1000) (b_hg : 0 ≤ hg ∧ hg < 1000) : Ret mX5_isClamped [.ref b, .ref j, .ref o] σ (fun r σ' => r = some (.int (bI (cHeld T S x y wd hg))) ∧ σ' = σ) := by
  refine Ret.of moX5_isClamped.1 (Nat.le_of_ble_eq_true rfl) (fun w => ?_)
  obtain ⟨bT, t0, t1, t2, t3, t4, tt, th, tap, tcl, tc2⟩ := id wT
  obtain ⟨j0, j1, ⟨jf, j2, j2'⟩, ⟨jg, j3, j3'⟩, ⟨jC, j4, j4'⟩, j5, j6⟩ := id hJ
  obtain ⟨s0, C, W, K, s1, s2, s3, hC, hW, hK⟩ := id hS
  obtain ⟨w1, w2, w3, w4, w5, w6⟩ := id wS
  show Go w mX5_isClamped (0, 0) 0 [some (.ref b), some (.ref j), some (.ref o), none, none] [] σ (fun r σ' => r = some (.int (bI (cHeld T S x y wd hg))) ∧ σ' = σ)
  refine g_aload_n (q := 1) dX5_isClamped_0 rfl rfl ?_
  refine g_get (q := 4) flX5_59 dX5_isClamped_1 j0 rfl rfl ?_
  refine g_get (q := 7) flX5_90 dX5_isClamped_4 j1 rfl rfl ?_
  refine z_iconst (q := 8) dX5_isClamped_7 rfl ?_
  refine z_isub (q := 9) dX5_isClamped_8 rfl ?_
  refine g_istore_n (ml' := [some (.ref b), some (.ref j), some (.ref o), some (.int (iZ ((T 1) - 1))), none]) (q := 10) dX5_isClamped_9 rfl (Nat.le_of_ble_eq_true rfl) rfl rfl ?_
  refine z_iconst (q := 11) dX5_isClamped_10 rfl ?_
  refine g_istore (ml' := [some (.ref b), some (.ref j), some (.ref o), some (.int (iZ ((T 1) - 1))), some (.int (iZ 0))]) (q := 13) dX5_isClamped_11 rfl (Nat.le_of_ble_eq_true rfl) rfl rfl ?_
  refine g_iload (q := 15) dX5_isClamped_13 rfl rfl ?_
  refine g_aload_n (q := 16) dX5_isClamped_15 rfl rfl ?_
  refine g_get (q := 19) flX5_117 dX5_isClamped_16 j0 rfl rfl ?_
  refine z_icmp_ge (t := 62) (q := 22) dX5_isClamped_19 rfl (by omega) rfl (fun pc1 => ?_) (fun pc1 => ?_)
  · refine z_iconst (q := 63) dX5_isClamped_62 rfl ?_
    refine z_zret dX5_isClamped_63 rfl rfl ?_
    exact ⟨congrArg (fun v => some (Value.int v)) (bI_f (by unfold cHeld; omega)).symm, rfl⟩
  · refine g_aload_n (q := 23) dX5_isClamped_22 rfl rfl ?_
    refine g_aload_n (q := 24) dX5_isClamped_23 rfl rfl ?_
    refine g_get (q := 27) flX5_18 dX5_isClamped_24 s0 rfl rfl ?_
    refine g_iload (q := 29) dX5_isClamped_27 rfl rfl ?_
    refine z_iald (q := 30) dX5_isClamped_29 s3 (by omega) rfl ?_
    rw [show K 0 = (S 151) from (hK 0 (by omega) (by omega))]
    have b2 : 0 ≤ S 151 ∧ S 151 ≤ 12 := w4 0 (by omega) (by omega)
    refine g_iload_n (q := 31) dX5_isClamped_30 rfl rfl ?_
    refine g_callV (As := [.int (iZ (S 151)), .int (iZ ((T 1) - 1))]) (rest := []) (q := 34) moX0_has lkX5_isClamped_128 dX5_isClamped_31 rfl hA (r_has σ o x y wd hg (S 151) ((T 1) - 1) hA (by omega) (by omega) (by omega) (by omega) (by omega) (by omega)) rfl rfl (Nat.le_of_ble_eq_true rfl) (Nat.le_of_ble_eq_true rfl) (Nat.le_of_ble_eq_true rfl) rfl ?_
    rintro rQ sQ hpQ
    rw [hpQ.1, hpQ.2]
    show Go w mX5_isClamped (0, 0) 34 [some (.ref b), some (.ref j), some (.ref o), some (.int (iZ ((T 1) - 1))), some (.int (iZ 0))] [.int (bI (x ≤ (S 151) ∧ (S 151) < x + wd ∧ y ≤ ((T 1) - 1) ∧ ((T 1) - 1) < y + hg))] σ (fun r σ' => r = some (.int (bI (cHeld T S x y wd hg))) ∧ σ' = σ)
    refine z_ifB_ne (t := 54) (q := 37) dX5_isClamped_34 rfl rfl (fun pc3 => ?_) (fun pc3 => ?_)
    · refine z_iconst (q := 55) dX5_isClamped_54 rfl ?_
      refine z_zret dX5_isClamped_55 rfl rfl ?_
      exact ⟨congrArg (fun v => some (Value.int v)) (bI_t (by unfold cHeld; omega)).symm, rfl⟩
    · refine g_aload_n (q := 38) dX5_isClamped_37 rfl rfl ?_
      refine g_aload_n (q := 39) dX5_isClamped_38 rfl rfl ?_
      refine g_get (q := 42) flX5_18 dX5_isClamped_39 s0 rfl rfl ?_
      refine g_iload (q := 44) dX5_isClamped_42 rfl rfl ?_
      refine z_iald (q := 45) dX5_isClamped_44 s3 (by omega) rfl ?_
      rw [show K 0 = (S 151) from (hK 0 (by omega) (by omega))]
      have b4 : 0 ≤ S 151 ∧ S 151 ≤ 12 := w4 0 (by omega) (by omega)
      refine z_iconst (q := 46) dX5_isClamped_45 rfl ?_
      refine z_iadd (q := 47) dX5_isClamped_46 rfl ?_
      refine g_iload_n (q := 48) dX5_isClamped_47 rfl rfl ?_
      refine g_callV (As := [.int (iZ ((S 151) + 1)), .int (iZ ((T 1) - 1))]) (rest := []) (q := 51) moX0_has lkX5_isClamped_128 dX5_isClamped_48 rfl hA (r_has σ o x y wd hg ((S 151) + 1) ((T 1) - 1) hA (by omega) (by omega) (by omega) (by omega) (by omega) (by omega)) rfl rfl (Nat.le_of_ble_eq_true rfl) (Nat.le_of_ble_eq_true rfl) (Nat.le_of_ble_eq_true rfl) rfl ?_
      rintro rQ sQ hpQ
      rw [hpQ.1, hpQ.2]
      show Go w mX5_isClamped (0, 0) 51 [some (.ref b), some (.ref j), some (.ref o), some (.int (iZ ((T 1) - 1))), some (.int (iZ 0))] [.int (bI (x ≤ ((S 151) + 1) ∧ ((S 151) + 1) < x + wd ∧ y ≤ ((T 1) - 1) ∧ ((T 1) - 1) < y + hg))] σ (fun r σ' => r = some (.int (bI (cHeld T S x y wd hg))) ∧ σ' = σ)
      refine z_ifB_eq (t := 56) (q := 54) dX5_isClamped_51 rfl rfl (fun pc5 => ?_) (fun pc5 => ?_)
      · refine z_iincc (c := 1) (ml' := [some (.ref b), some (.ref j), some (.ref o), some (.int (iZ ((T 1) - 1))), some (.int (iZ 1))]) (q := 59) dX5_isClamped_56 rfl (by omega) rfl rfl rfl ?_
        refine g_goto (q := 13) dX5_isClamped_59 rfl ?_
        refine g_iload (q := 15) dX5_isClamped_13 rfl rfl ?_
        refine g_aload_n (q := 16) dX5_isClamped_15 rfl rfl ?_
        refine g_get (q := 19) flX5_117 dX5_isClamped_16 j0 rfl rfl ?_
        refine z_icmp_ge (t := 62) (q := 22) dX5_isClamped_19 rfl (by omega) rfl (fun pc6 => ?_) (fun pc6 => ?_)
        · refine z_iconst (q := 63) dX5_isClamped_62 rfl ?_
          refine z_zret dX5_isClamped_63 rfl rfl ?_
          exact ⟨congrArg (fun v => some (Value.int v)) (bI_f (by unfold cHeld; omega)).symm, rfl⟩
        · refine g_aload_n (q := 23) dX5_isClamped_22 rfl rfl ?_
          refine g_aload_n (q := 24) dX5_isClamped_23 rfl rfl ?_
          refine g_get (q := 27) flX5_18 dX5_isClamped_24 s0 rfl rfl ?_
          refine g_iload (q := 29) dX5_isClamped_27 rfl rfl ?_
          refine z_iald (q := 30) dX5_isClamped_29 s3 (by omega) rfl ?_
          rw [show K 1 = (S 152) from (hK 1 (by omega) (by omega))]
          have b7 : 0 ≤ S 152 ∧ S 152 ≤ 12 := w4 1 (by omega) (by omega)
          refine g_iload_n (q := 31) dX5_isClamped_30 rfl rfl ?_
          refine g_callV (As := [.int (iZ (S 152)), .int (iZ ((T 1) - 1))]) (rest := []) (q := 34) moX0_has lkX5_isClamped_128 dX5_isClamped_31 rfl hA (r_has σ o x y wd hg (S 152) ((T 1) - 1) hA (by omega) (by omega) (by omega) (by omega) (by omega) (by omega)) rfl rfl (Nat.le_of_ble_eq_true rfl) (Nat.le_of_ble_eq_true rfl) (Nat.le_of_ble_eq_true rfl) rfl ?_
          rintro rQ sQ hpQ
          rw [hpQ.1, hpQ.2]
          show Go w mX5_isClamped (0, 0) 34 [some (.ref b), some (.ref j), some (.ref o), some (.int (iZ ((T 1) - 1))), some (.int (iZ 1))] [.int (bI (x ≤ (S 152) ∧ (S 152) < x + wd ∧ y ≤ ((T 1) - 1) ∧ ((T 1) - 1) < y + hg))] σ (fun r σ' => r = some (.int (bI (cHeld T S x y wd hg))) ∧ σ' = σ)
          refine z_ifB_ne (t := 54) (q := 37) dX5_isClamped_34 rfl rfl (fun pc8 => ?_) (fun pc8 => ?_)
          · refine z_iconst (q := 55) dX5_isClamped_54 rfl ?_
            refine z_zret dX5_isClamped_55 rfl rfl ?_
            exact ⟨congrArg (fun v => some (Value.int v)) (bI_t (by unfold cHeld; omega)).symm, rfl⟩
          · refine g_aload_n (q := 38) dX5_isClamped_37 rfl rfl ?_
            refine g_aload_n (q := 39) dX5_isClamped_38 rfl rfl ?_
            refine g_get (q := 42) flX5_18 dX5_isClamped_39 s0 rfl rfl ?_
            refine g_iload (q := 44) dX5_isClamped_42 rfl rfl ?_
            refine z_iald (q := 45) dX5_isClamped_44 s3 (by omega) rfl ?_
            rw [show K 1 = (S 152) from (hK 1 (by omega) (by omega))]
            have b9 : 0 ≤ S 152 ∧ S 152 ≤ 12 := w4 1 (by omega) (by omega)
            refine z_iconst (q := 46) dX5_isClamped_45 rfl ?_
            refine z_iadd (q := 47) dX5_isClamped_46 rfl ?_
            refine g_iload_n (q := 48) dX5_isClamped_47 rfl rfl ?_
            refine g_callV (As := [.int (iZ ((S 152) + 1)), .int (iZ ((T 1) - 1))]) (rest := []) (q := 51) moX0_has lkX5_isClamped_128 dX5_isClamped_48 rfl hA (r_has σ o x y wd hg ((S 152) + 1) ((T 1) - 1) hA (by omega) (by omega) (by omega) (by omega) (by omega) (by omega)) rfl rfl (Nat.le_of_ble_eq_true rfl) (Nat.le_of_ble_eq_true rfl) (Nat.le_of_ble_eq_true rfl) rfl ?_
            rintro rQ sQ hpQ
            rw [hpQ.1, hpQ.2]
            show Go w mX5_isClamped (0, 0) 51 [some (.ref b), some (.ref j), some (.ref o), some (.int (iZ ((T 1) - 1))), some (.int (iZ 1))] [.int (bI (x ≤ ((S 152) + 1) ∧ ((S 152) + 1) < x + wd ∧ y ≤ ((T 1) - 1) ∧ ((T 1) - 1) < y + hg))] σ (fun r σ' => r = some (.int (bI (cHeld T S x y wd hg))) ∧ σ' = σ)
            refine z_ifB_eq (t := 56) (q := 54) dX5_isClamped_51 rfl rfl (fun pc10 => ?_) (fun pc10 => ?_)
            · refine z_iincc (c := 2) (ml' := [some (.ref b), some (.ref j), some (.ref o), some (.int (iZ ((T 1) - 1))), some (.int (iZ 2))]) (q := 59) dX5_isClamped_56 rfl (by omega) rfl rfl rfl ?_
              refine g_goto (q := 13) dX5_isClamped_59 rfl ?_
              refine g_iload (q := 15) dX5_isClamped_13 rfl rfl ?_
              refine g_aload_n (q := 16) dX5_isClamped_15 rfl rfl ?_
              refine g_get (q := 19) flX5_117 dX5_isClamped_16 j0 rfl rfl ?_
              refine z_icmp_ge (t := 62) (q := 22) dX5_isClamped_19 rfl (by omega) rfl (fun pc11 => ?_) (fun pc11 => ?_)
              · refine z_iconst (q := 63) dX5_isClamped_62 rfl ?_
                refine z_zret dX5_isClamped_63 rfl rfl ?_
                exact ⟨congrArg (fun v => some (Value.int v)) (bI_f (by unfold cHeld; omega)).symm, rfl⟩
              · exfalso
                omega
            · refine z_iconst (q := 55) dX5_isClamped_54 rfl ?_
              refine z_zret dX5_isClamped_55 rfl rfl ?_
              exact ⟨congrArg (fun v => some (Value.int v)) (bI_t (by unfold cHeld; omega)).symm, rfl⟩
      · refine z_iconst (q := 55) dX5_isClamped_54 rfl ?_
        refine z_zret dX5_isClamped_55 rfl rfl ?_
        exact ⟨congrArg (fun v => some (Value.int v)) (bI_t (by unfold cHeld; omega)).symm, rfl⟩
def cRef (T S : Int → Int) (s t x y wd hg : Int) : Int :=
  if t = 1 ∧ T (4 * s + 7) = 0 then 1 else if ¬ (0 ≤ x ∧ x + wd ≤ T 0 ∧ 0 ≤ y ∧ y + hg ≤ T 1) then 2 else if cOneF T x y wd hg (T 3).toNat 0 = 0 then 3 else if cHeld T S x y wd hg then 4 else if cUn S x y wd hg = 0 then 5 else if T (4 * s + 8) ≤ S (s + 144) then 6 else 0
theorem r_refusal (σ : g_H0) (b j : Nat) (T S : Int → Int) (hS : rSt b T S σ) (hJ : rJob j T σ) (wT : wfT T) (wS : wfS T S) (s t : Int) (bs : 0 ≤ s ∧ s < T 2) (bt : 0 ≤ t ∧ t ≤ 1) (o : Nat) (x y wd hg : Int) (hA : σ[o]? = some (.inr (0, [.int (iZ x), .int (iZ y), .int (iZ wd), .int (iZ hg)]))) (b_x : 0 ≤ x ∧ x < 1000) (b_y : 0 ≤ y ∧ y < 1000) (b_wd : 0 ≤ wd ∧ wd < 1000) (b_hg : 0 ≤ hg ∧ hg < 1000) : Ret mX5_refusal [.ref b, .ref j, .int (iZ s), .int (iZ t), .ref o] σ (fun r σ' => r = some (.int (iZ (cRef T S s t x y wd hg))) ∧ σ' = σ) := by
  refine Ret.of moX5_refusal.1 (Nat.le_of_ble_eq_true rfl) (fun w => ?_)
  obtain ⟨bT, t0, t1, t2, t3, t4, tt, th, tap, tcl, tc2⟩ := id wT
  obtain ⟨j0, j1, ⟨jf, j2, j2'⟩, ⟨jg, j3, j3'⟩, ⟨jC, j4, j4'⟩, j5, j6⟩ := id hJ
  obtain ⟨s0, C, W, K, s1, s2, s3, hC, hW, hK⟩ := id hS
  obtain ⟨w1, w2, w3, w4, w5, w6⟩ := id wS
  show Go w mX5_refusal (0, 0) 0 [some (.ref b), some (.ref j), some (.int (iZ s)), some (.int (iZ t)), some (.ref o)] [] σ (fun r σ' => r = some (.int (iZ (cRef T S s t x y wd hg))) ∧ σ' = σ)
  refine g_iload_n (q := 1) dX5_refusal_0 rfl rfl ?_
  refine z_if_eq (t := 18) (q := 4) dX5_refusal_1 rfl (by omega) rfl (fun pc1 => ?_) (fun pc1 => ?_)
  · refine g_aload_n (q := 19) dX5_refusal_18 rfl rfl ?_
    refine g_get (q := 22) flX5_59 dX5_refusal_19 j0 rfl rfl ?_
    refine g_aload (q := 24) dX5_refusal_22 rfl rfl ?_
    refine g_callV (As := [.ref o]) (rest := []) (q := 27) moX0_covers lkX5_refusal_63 dX5_refusal_24 rfl j1 (r_covers σ (j + 1) o 0 0 (T 0) (T 1) x y wd hg j1 hA (by omega) (by omega) (by omega) (by omega) (by omega) (by omega) (by omega) (by omega)) rfl rfl (Nat.le_of_ble_eq_true rfl) (Nat.le_of_ble_eq_true rfl) (Nat.le_of_ble_eq_true rfl) rfl ?_
    rintro rQ sQ hpQ
    rw [hpQ.1, hpQ.2]
    show Go w mX5_refusal (0, 0) 27 [some (.ref b), some (.ref j), some (.int (iZ s)), some (.int (iZ t)), some (.ref o)] [.int (bI (0 ≤ x ∧ x + wd ≤ 0 + (T 0) ∧ 0 ≤ y ∧ y + hg ≤ 0 + (T 1)))] σ (fun r σ' => r = some (.int (iZ (cRef T S s t x y wd hg))) ∧ σ' = σ)
    refine z_ifB_ne (t := 32) (q := 30) dX5_refusal_27 rfl rfl (fun pc2 => ?_) (fun pc2 => ?_)
    · refine g_aload_n (q := 33) dX5_refusal_32 rfl rfl ?_
      refine g_aload (q := 35) dX5_refusal_33 rfl rfl ?_
      refine g_callV (As := [.ref o]) (rest := []) (q := 38) moX2_isOfOneHole lkX5_refusal_69 dX5_refusal_35 rfl j0 (r_one σ j T hJ wT o x y wd hg hA (by omega) (by omega) (by omega) (by omega)) rfl rfl (Nat.le_of_ble_eq_true rfl) (Nat.le_of_ble_eq_true rfl) (Nat.le_of_ble_eq_true rfl) rfl ?_
      rintro rQ sQ hpQ
      rw [hpQ.1, hpQ.2]
      show Go w mX5_refusal (0, 0) 38 [some (.ref b), some (.ref j), some (.int (iZ s)), some (.int (iZ t)), some (.ref o)] [.int (iZ (cOneF T x y wd hg (T 3).toNat 0))] σ (fun r σ' => r = some (.int (iZ (cRef T S s t x y wd hg))) ∧ σ' = σ)
      have b3 := cOneF_b T x y wd hg (T 3).toNat 0
      refine z_if_ne (t := 43) (q := 41) dX5_refusal_38 rfl (by omega) rfl (fun pc4 => ?_) (fun pc4 => ?_)
      · refine g_aload_n (q := 44) dX5_refusal_43 rfl rfl ?_
        refine g_aload_n (q := 45) dX5_refusal_44 rfl rfl ?_
        refine g_aload (q := 47) dX5_refusal_45 rfl rfl ?_
        refine g_callV (As := [.ref j, .ref o]) (rest := []) (q := 50) moX5_isClamped lkX5_refusal_72 dX5_refusal_47 rfl s0 (r_isClamped σ _ j T _ hS hJ wT wS o x y wd hg hA (by omega) (by omega) (by omega) (by omega)) rfl rfl (Nat.le_of_ble_eq_true rfl) (Nat.le_of_ble_eq_true rfl) (Nat.le_of_ble_eq_true rfl) rfl ?_
        rintro rQ sQ hpQ
        rw [hpQ.1, hpQ.2]
        show Go w mX5_refusal (0, 0) 50 [some (.ref b), some (.ref j), some (.int (iZ s)), some (.int (iZ t)), some (.ref o)] [.int (bI (cHeld T S x y wd hg))] σ (fun r σ' => r = some (.int (iZ (cRef T S s t x y wd hg))) ∧ σ' = σ)
        refine z_ifB_eq (t := 55) (q := 53) dX5_refusal_50 rfl rfl (fun pc5 => ?_) (fun pc5 => ?_)
        · refine g_aload_n (q := 56) dX5_refusal_55 rfl rfl ?_
          refine g_aload (q := 58) dX5_refusal_56 rfl rfl ?_
          refine g_callV (As := [.ref o]) (rest := []) (q := 61) moX5_isCut lkX5_refusal_76 dX5_refusal_58 rfl s0 (r_isCut σ _ T _ hS wT wS o x y wd hg hA (by omega) (by omega)) rfl rfl (Nat.le_of_ble_eq_true rfl) (Nat.le_of_ble_eq_true rfl) (Nat.le_of_ble_eq_true rfl) rfl ?_
          rintro rQ sQ hpQ
          rw [hpQ.1, hpQ.2]
          show Go w mX5_refusal (0, 0) 61 [some (.ref b), some (.ref j), some (.int (iZ s)), some (.int (iZ t)), some (.ref o)] [.int (bI (cUn S x y wd hg = 0))] σ (fun r σ' => r = some (.int (iZ (cRef T S s t x y wd hg))) ∧ σ' = σ)
          refine z_ifB_eq (t := 66) (q := 64) dX5_refusal_61 rfl rfl (fun pc6 => ?_) (fun pc6 => ?_)
          · refine g_aload_n (q := 67) dX5_refusal_66 rfl rfl ?_
            refine g_aload_n (q := 68) dX5_refusal_67 rfl rfl ?_
            refine g_iload_n (q := 69) dX5_refusal_68 rfl rfl ?_
            refine g_callV (As := [.ref j, .int (iZ s)]) (rest := []) (q := 72) moX5_isDull lkX5_refusal_79 dX5_refusal_69 rfl s0 (r_isDull σ _ j T _ hS hJ wT wS s (by omega)) rfl rfl (Nat.le_of_ble_eq_true rfl) (Nat.le_of_ble_eq_true rfl) (Nat.le_of_ble_eq_true rfl) rfl ?_
            rintro rQ sQ hpQ
            rw [hpQ.1, hpQ.2]
            show Go w mX5_refusal (0, 0) 72 [some (.ref b), some (.ref j), some (.int (iZ s)), some (.int (iZ t)), some (.ref o)] [.int (bI (T (4 * s + 8) ≤ S (s + 144)))] σ (fun r σ' => r = some (.int (iZ (cRef T S s t x y wd hg))) ∧ σ' = σ)
            refine z_ifB_eq (t := 80) (q := 75) dX5_refusal_72 rfl rfl (fun pc7 => ?_) (fun pc7 => ?_)
            · refine z_iconst (q := 81) dX5_refusal_80 rfl ?_
              refine z_iret dX5_refusal_81 rfl ?_
              exact ⟨congrArg (fun z => some (Value.int (iZ z))) (by unfold cRef; rw [if_neg (by omega), if_neg (by omega), if_neg (by omega), if_neg (by assumption), if_neg (by omega), if_neg (by omega)]), rfl⟩
            · refine g_bipush (v := iZ 6) (q := 77) dX5_refusal_75 (by decide) rfl ?_
              refine g_goto (q := 81) dX5_refusal_77 rfl ?_
              refine z_iret dX5_refusal_81 rfl ?_
              exact ⟨congrArg (fun z => some (Value.int (iZ z))) (by unfold cRef; rw [if_neg (by omega), if_neg (by omega), if_neg (by omega), if_neg (by assumption), if_neg (by omega), if_pos (by omega)]), rfl⟩
          · refine z_iconst (q := 65) dX5_refusal_64 rfl ?_
            refine z_iret dX5_refusal_65 rfl ?_
            exact ⟨congrArg (fun z => some (Value.int (iZ z))) (by unfold cRef; rw [if_neg (by omega), if_neg (by omega), if_neg (by omega), if_neg (by assumption), if_pos (by omega)]), rfl⟩
        · refine z_iconst (q := 54) dX5_refusal_53 rfl ?_
          refine z_iret dX5_refusal_54 rfl ?_
          exact ⟨congrArg (fun z => some (Value.int (iZ z))) (by unfold cRef; rw [if_neg (by omega), if_neg (by omega), if_neg (by omega), if_pos (by assumption)]), rfl⟩
      · refine z_iconst (q := 42) dX5_refusal_41 rfl ?_
        refine z_iret dX5_refusal_42 rfl ?_
        exact ⟨congrArg (fun z => some (Value.int (iZ z))) (by unfold cRef; rw [if_neg (by omega), if_neg (by omega), if_pos (by omega)]), rfl⟩
    · refine z_iconst (q := 31) dX5_refusal_30 rfl ?_
      refine z_iret dX5_refusal_31 rfl ?_
      exact ⟨congrArg (fun z => some (Value.int (iZ z))) (by unfold cRef; rw [if_neg (by omega), if_pos (by omega)]), rfl⟩
  · refine g_aload_n (q := 5) dX5_refusal_4 rfl rfl ?_
    refine g_get (q := 8) flX5_49 dX5_refusal_5 j0 rfl rfl ?_
    refine g_iload_n (q := 9) dX5_refusal_8 rfl rfl ?_
    obtain ⟨f8, e8, g8, k8⟩ := hJ.tool (s := s) (by omega) (by omega) (by omega)
    have k8 : σ[(j + 5 + s.toNat)]? = some (.inr (7, [.int (iZ (T (4 * s + 5))), .int (iZ (T (4 * s + 6))), .int (iZ (T (4 * s + 8))), .int (iZ (T (4 * s + 7)))])) := k8
    have q8 := tt s (by omega) (by omega)
    refine z_aald (b := (j + 5 + s.toNat)) (q := 10) dX5_refusal_9 rfl e8 (by omega) g8 rfl ?_
    refine g_get (q := 13) flX5_53 dX5_refusal_10 k8 rfl rfl ?_
    refine z_if_ne (t := 18) (q := 16) dX5_refusal_13 rfl (by omega) rfl (fun pc9 => ?_) (fun pc9 => ?_)
    · refine g_aload_n (q := 19) dX5_refusal_18 rfl rfl ?_
      refine g_get (q := 22) flX5_59 dX5_refusal_19 j0 rfl rfl ?_
      refine g_aload (q := 24) dX5_refusal_22 rfl rfl ?_
      refine g_callV (As := [.ref o]) (rest := []) (q := 27) moX0_covers lkX5_refusal_63 dX5_refusal_24 rfl j1 (r_covers σ (j + 1) o 0 0 (T 0) (T 1) x y wd hg j1 hA (by omega) (by omega) (by omega) (by omega) (by omega) (by omega) (by omega) (by omega)) rfl rfl (Nat.le_of_ble_eq_true rfl) (Nat.le_of_ble_eq_true rfl) (Nat.le_of_ble_eq_true rfl) rfl ?_
      rintro rQ sQ hpQ
      rw [hpQ.1, hpQ.2]
      show Go w mX5_refusal (0, 0) 27 [some (.ref b), some (.ref j), some (.int (iZ s)), some (.int (iZ t)), some (.ref o)] [.int (bI (0 ≤ x ∧ x + wd ≤ 0 + (T 0) ∧ 0 ≤ y ∧ y + hg ≤ 0 + (T 1)))] σ (fun r σ' => r = some (.int (iZ (cRef T S s t x y wd hg))) ∧ σ' = σ)
      refine z_ifB_ne (t := 32) (q := 30) dX5_refusal_27 rfl rfl (fun pc10 => ?_) (fun pc10 => ?_)
      · refine g_aload_n (q := 33) dX5_refusal_32 rfl rfl ?_
        refine g_aload (q := 35) dX5_refusal_33 rfl rfl ?_
        refine g_callV (As := [.ref o]) (rest := []) (q := 38) moX2_isOfOneHole lkX5_refusal_69 dX5_refusal_35 rfl j0 (r_one σ j T hJ wT o x y wd hg hA (by omega) (by omega) (by omega) (by omega)) rfl rfl (Nat.le_of_ble_eq_true rfl) (Nat.le_of_ble_eq_true rfl) (Nat.le_of_ble_eq_true rfl) rfl ?_
        rintro rQ sQ hpQ
        rw [hpQ.1, hpQ.2]
        show Go w mX5_refusal (0, 0) 38 [some (.ref b), some (.ref j), some (.int (iZ s)), some (.int (iZ t)), some (.ref o)] [.int (iZ (cOneF T x y wd hg (T 3).toNat 0))] σ (fun r σ' => r = some (.int (iZ (cRef T S s t x y wd hg))) ∧ σ' = σ)
        have b11 := cOneF_b T x y wd hg (T 3).toNat 0
        refine z_if_ne (t := 43) (q := 41) dX5_refusal_38 rfl (by omega) rfl (fun pc12 => ?_) (fun pc12 => ?_)
        · refine g_aload_n (q := 44) dX5_refusal_43 rfl rfl ?_
          refine g_aload_n (q := 45) dX5_refusal_44 rfl rfl ?_
          refine g_aload (q := 47) dX5_refusal_45 rfl rfl ?_
          refine g_callV (As := [.ref j, .ref o]) (rest := []) (q := 50) moX5_isClamped lkX5_refusal_72 dX5_refusal_47 rfl s0 (r_isClamped σ _ j T _ hS hJ wT wS o x y wd hg hA (by omega) (by omega) (by omega) (by omega)) rfl rfl (Nat.le_of_ble_eq_true rfl) (Nat.le_of_ble_eq_true rfl) (Nat.le_of_ble_eq_true rfl) rfl ?_
          rintro rQ sQ hpQ
          rw [hpQ.1, hpQ.2]
          show Go w mX5_refusal (0, 0) 50 [some (.ref b), some (.ref j), some (.int (iZ s)), some (.int (iZ t)), some (.ref o)] [.int (bI (cHeld T S x y wd hg))] σ (fun r σ' => r = some (.int (iZ (cRef T S s t x y wd hg))) ∧ σ' = σ)
          refine z_ifB_eq (t := 55) (q := 53) dX5_refusal_50 rfl rfl (fun pc13 => ?_) (fun pc13 => ?_)
          · refine g_aload_n (q := 56) dX5_refusal_55 rfl rfl ?_
            refine g_aload (q := 58) dX5_refusal_56 rfl rfl ?_
            refine g_callV (As := [.ref o]) (rest := []) (q := 61) moX5_isCut lkX5_refusal_76 dX5_refusal_58 rfl s0 (r_isCut σ _ T _ hS wT wS o x y wd hg hA (by omega) (by omega)) rfl rfl (Nat.le_of_ble_eq_true rfl) (Nat.le_of_ble_eq_true rfl) (Nat.le_of_ble_eq_true rfl) rfl ?_
            rintro rQ sQ hpQ
            rw [hpQ.1, hpQ.2]
            show Go w mX5_refusal (0, 0) 61 [some (.ref b), some (.ref j), some (.int (iZ s)), some (.int (iZ t)), some (.ref o)] [.int (bI (cUn S x y wd hg = 0))] σ (fun r σ' => r = some (.int (iZ (cRef T S s t x y wd hg))) ∧ σ' = σ)
            refine z_ifB_eq (t := 66) (q := 64) dX5_refusal_61 rfl rfl (fun pc14 => ?_) (fun pc14 => ?_)
            · refine g_aload_n (q := 67) dX5_refusal_66 rfl rfl ?_
              refine g_aload_n (q := 68) dX5_refusal_67 rfl rfl ?_
              refine g_iload_n (q := 69) dX5_refusal_68 rfl rfl ?_
              refine g_callV (As := [.ref j, .int (iZ s)]) (rest := []) (q := 72) moX5_isDull lkX5_refusal_79 dX5_refusal_69 rfl s0 (r_isDull σ _ j T _ hS hJ wT wS s (by omega)) rfl rfl (Nat.le_of_ble_eq_true rfl) (Nat.le_of_ble_eq_true rfl) (Nat.le_of_ble_eq_true rfl) rfl ?_
              rintro rQ sQ hpQ
              rw [hpQ.1, hpQ.2]
              show Go w mX5_refusal (0, 0) 72 [some (.ref b), some (.ref j), some (.int (iZ s)), some (.int (iZ t)), some (.ref o)] [.int (bI (T (4 * s + 8) ≤ S (s + 144)))] σ (fun r σ' => r = some (.int (iZ (cRef T S s t x y wd hg))) ∧ σ' = σ)
              refine z_ifB_eq (t := 80) (q := 75) dX5_refusal_72 rfl rfl (fun pc15 => ?_) (fun pc15 => ?_)
              · refine z_iconst (q := 81) dX5_refusal_80 rfl ?_
                refine z_iret dX5_refusal_81 rfl ?_
                exact ⟨congrArg (fun z => some (Value.int (iZ z))) (by unfold cRef; rw [if_neg (by omega), if_neg (by omega), if_neg (by omega), if_neg (by assumption), if_neg (by omega), if_neg (by omega)]), rfl⟩
              · refine g_bipush (v := iZ 6) (q := 77) dX5_refusal_75 (by decide) rfl ?_
                refine g_goto (q := 81) dX5_refusal_77 rfl ?_
                refine z_iret dX5_refusal_81 rfl ?_
                exact ⟨congrArg (fun z => some (Value.int (iZ z))) (by unfold cRef; rw [if_neg (by omega), if_neg (by omega), if_neg (by omega), if_neg (by assumption), if_neg (by omega), if_pos (by omega)]), rfl⟩
            · refine z_iconst (q := 65) dX5_refusal_64 rfl ?_
              refine z_iret dX5_refusal_65 rfl ?_
              exact ⟨congrArg (fun z => some (Value.int (iZ z))) (by unfold cRef; rw [if_neg (by omega), if_neg (by omega), if_neg (by omega), if_neg (by assumption), if_pos (by omega)]), rfl⟩
          · refine z_iconst (q := 54) dX5_refusal_53 rfl ?_
            refine z_iret dX5_refusal_54 rfl ?_
            exact ⟨congrArg (fun z => some (Value.int (iZ z))) (by unfold cRef; rw [if_neg (by omega), if_neg (by omega), if_neg (by omega), if_pos (by assumption)]), rfl⟩
        · refine z_iconst (q := 42) dX5_refusal_41 rfl ?_
          refine z_iret dX5_refusal_42 rfl ?_
          exact ⟨congrArg (fun z => some (Value.int (iZ z))) (by unfold cRef; rw [if_neg (by omega), if_neg (by omega), if_pos (by omega)]), rfl⟩
      · refine z_iconst (q := 31) dX5_refusal_30 rfl ?_
        refine z_iret dX5_refusal_31 rfl ?_
        exact ⟨congrArg (fun z => some (Value.int (iZ z))) (by unfold cRef; rw [if_neg (by omega), if_pos (by omega)]), rfl⟩
    · refine z_iconst (q := 17) dX5_refusal_16 rfl ?_
      refine z_iret dX5_refusal_17 rfl ?_
      exact ⟨congrArg (fun z => some (Value.int (iZ z))) (by unfold cRef; rw [if_pos (by omega)]), rfl⟩
