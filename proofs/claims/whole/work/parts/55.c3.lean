theorem zmin_c (a b : Int) : (b < a → zmin a b = b) ∧ (a ≤ b → zmin a b = a) := by unfold zmin; constructor <;> intro h <;> split <;> omega
theorem zabs_c (a : Int) : (0 ≤ a → zabs a = a) ∧ (a < 0 → zabs a = -a) := by unfold zabs; constructor <;> intro h <;> split <;> omega
theorem rowU_b {S : Int → Int} {y x w : Int} (hS : ∀ c, 0 ≤ c → c < 144 → 0 ≤ S c ∧ S c ≤ 1) (hy : 0 ≤ y ∧ y < 12) (h : 0 ≤ x ∧ 0 ≤ w ∧ x + w ≤ 12) : 0 ≤ rowU S y x w ∧ rowU S y x w ≤ w := by
  have := sm_b (f := fun i => 1 - S (12 * y + (x + i))) (lo := 0) (hi := 1) (n := w.toNat) (fun i i0 i1 => by have := hS (12 * y + (x + i)) (by omega) (by omega); omega)
  unfold rowU; omega
/-- how many CELLS are not cut, of n rows from y on -/
def cUnF (S : Int → Int) (x w : Int) : Nat → Int → Int → Int
  | 0, _, m => m
  | n + 1, y, m => cUnF S x w n (y + 1) (m + rowU S y x w)
theorem cUnF_b {S : Int → Int} {x w : Int} (hS : ∀ c, 0 ≤ c → c < 144 → 0 ≤ S c ∧ S c ≤ 1) (h : 0 ≤ x ∧ 0 ≤ w ∧ x + w ≤ 12) : ∀ (n : Nat) (y m : Int), 0 ≤ y → y + n ≤ 12 → m ≤ cUnF S x w n y m ∧ cUnF S x w n y m ≤ m + 12 * n
  | 0, y, m, _, _ => by unfold cUnF; omega
  | n + 1, y, m, h0, h1 => by
    have b := rowU_b hS (y := y) ⟨h0, by omega⟩ h
    have := cUnF_b hS h n (y + 1) (m + rowU S y x w) (by omega) (by omega)
    unfold cUnF; omega
def cUn (S : Int → Int) (x y w h : Int) : Int := cUnF S x w h.toNat y 0
theorem cUn_b {S : Int → Int} {x y w h : Int} (hS : ∀ c, 0 ≤ c → c < 144 → 0 ≤ S c ∧ S c ≤ 1) (hx : 0 ≤ x ∧ 0 ≤ w ∧ x + w ≤ 12) (hy : 0 ≤ y ∧ 0 ≤ h ∧ y + h ≤ 12) : 0 ≤ cUn S x y w h ∧ cUn S x y w h ≤ 144 := by
  have := cUnF_b hS hx h.toNat y 0 hy.1 (by omega)
  unfold cUn; omega
theorem row01 {S : Int → Int} (hS : ∀ c, 0 ≤ c → c < 144 → 0 ≤ S c ∧ S c ≤ 1) {y : Int} (hy : 0 ≤ y ∧ y < 12) : ∀ z, 0 ≤ z → z < 12 → 0 ≤ S (12 * y + z) ∧ S (12 * y + z) ≤ 1 := fun z z0 z1 => hS _ (by omega) (by omega)
theorem r_isColumn (σ : g_H0) (j : Nat) (T : Int → Int) (hJ : rJob j T σ) (wT : wfT T) (c : Int) (b_c : -2147483648 ≤ c ∧ c < 2147483648) : Ret mX2_isColumn [.ref j, .int (iZ c)] σ (fun r σ' => r = some (.int (bI (0 ≤ c ∧ c ≤ T 0 - 2))) ∧ σ' = σ) := by
  refine Ret.of moX2_isColumn.1 (Nat.le_of_ble_eq_true rfl) (fun w => ?_)
  obtain ⟨bT, t0, t1, t2, t3, t4, tt, th, tap, tcl, tc2⟩ := id wT
  obtain ⟨j0, j1, ⟨jf, j2, j2'⟩, ⟨jg, j3, j3'⟩, ⟨jC, j4, j4'⟩, j5, j6⟩ := id hJ
  show Go w mX2_isColumn (0, 0) 0 [some (.ref j), some (.int (iZ c))] [] σ (fun r σ' => r = some (.int (bI (0 ≤ c ∧ c ≤ T 0 - 2))) ∧ σ' = σ)
  refine g_iload_n (q := 1) dX2_isColumn_0 rfl rfl ?_
  refine z_iconst (q := 2) dX2_isColumn_1 rfl ?_
  refine g_aload_n (q := 3) dX2_isColumn_2 rfl rfl ?_
  refine g_get (q := 6) flX2_12 dX2_isColumn_3 j0 rfl rfl ?_
  refine g_get (q := 9) flX2_47 dX2_isColumn_6 j1 rfl rfl ?_
  refine z_iconst (q := 10) dX2_isColumn_9 rfl ?_
  refine z_isub (q := 11) dX2_isColumn_10 rfl ?_
  refine g_callSN (As := [.int (iZ c), .int (iZ 0), .int (iZ ((T 0) - 2))]) (rest := []) (q := 14) moX8_isWithin lkX2_isColumn_54 dX2_isColumn_11 (r_isWithin σ c 0 ((T 0) - 2) (by omega) (by omega) (by omega)) rfl rfl (Nat.le_of_ble_eq_true rfl) (Nat.le_of_ble_eq_true rfl) (Nat.le_of_ble_eq_true rfl) rfl ?_
  rintro rQ sQ hpQ
  rw [hpQ.1, hpQ.2]
  show Go w mX2_isColumn (0, 0) 14 [some (.ref j), some (.int (iZ c))] [.int (bI (0 ≤ c ∧ c ≤ ((T 0) - 2)))] σ (fun r σ' => r = some (.int (bI (0 ≤ c ∧ c ≤ T 0 - 2))) ∧ σ' = σ)
  refine z_zret dX2_isColumn_14 rfl (bI_nar _) ?_
  exact ⟨congrArg (fun v => some (Value.int v)) (bI_c (by omega)), rfl⟩
theorem l_holeAt (w : g_W) (σ : g_H0) (j : Nat) (T : Int → Int) (hJ : rJob j T σ) (wT : wfT T) (x y : Int) (b_x : -2147483648 ≤ x ∧ x < 2147483648) (b_y : -2147483648 ≤ y ∧ y < 2147483648) : ∀ (n : Nat) (h : Int), 0 ≤ h → h + n = T 3 → Go w mX2_holeAt (0, 0) 2 [some (.ref j), some (.int (iZ x)), some (.int (iZ y)), some (.int (iZ h))] [] σ (fun r σ' => r = some (.int (iZ (mHoleF T x y n h))) ∧ σ' = σ) := by
  intro n
  induction n with
  | zero =>
    intro h h0 h1
    obtain ⟨bT, t0, t1, t2, t3, t4, tt, th, tap, tcl, tc2⟩ := id wT
    obtain ⟨j0, j1, ⟨jf, j2, j2'⟩, ⟨jg, j3, j3'⟩, ⟨jC, j4, j4'⟩, j5, j6⟩ := id hJ
    refine g_iload_n (q := 3) dX2_holeAt_2 rfl rfl ?_
    refine g_aload_n (q := 4) dX2_holeAt_3 rfl rfl ?_
    refine g_get (q := 7) flX2_41 dX2_holeAt_4 j0 rfl rfl ?_
    refine z_icmp_ge (t := 32) (q := 10) dX2_holeAt_7 rfl (by omega) rfl (fun pc1 => ?_) (fun pc1 => ?_)
    · refine g_bipush (v := iZ (-4)) (q := 34) dX2_holeAt_32 (by decide) rfl ?_
      refine z_iret dX2_holeAt_34 rfl ?_
      exact ⟨congrArg (fun z => some (Value.int (iZ z))) (by unfold mHoleF; rfl), rfl⟩
    · exfalso
      omega
  | succ n ih =>
    intro h h0 h1
    obtain ⟨bT, t0, t1, t2, t3, t4, tt, th, tap, tcl, tc2⟩ := id wT
    obtain ⟨j0, j1, ⟨jf, j2, j2'⟩, ⟨jg, j3, j3'⟩, ⟨jC, j4, j4'⟩, j5, j6⟩ := id hJ
    refine g_iload_n (q := 3) dX2_holeAt_2 rfl rfl ?_
    refine g_aload_n (q := 4) dX2_holeAt_3 rfl rfl ?_
    refine g_get (q := 7) flX2_41 dX2_holeAt_4 j0 rfl rfl ?_
    refine z_icmp_ge (t := 32) (q := 10) dX2_holeAt_7 rfl (by omega) rfl (fun pc1 => ?_) (fun pc1 => ?_)
    · exfalso
      omega
    · refine g_aload_n (q := 11) dX2_holeAt_10 rfl rfl ?_
      refine g_get (q := 14) flX2_24 dX2_holeAt_11 j0 rfl rfl ?_
      refine g_iload_n (q := 15) dX2_holeAt_14 rfl rfl ?_
      obtain ⟨f2, e2, g2, k2⟩ := hJ.hole (s := h) (by omega) (by omega) (by omega)
      have k2 : σ[(j + 11 + h.toNat)]? = some (.inr (0, [.int (iZ (T (4 * h + 29))), .int (iZ (T (4 * h + 30))), .int (iZ (T (4 * h + 31))), .int (iZ (T (4 * h + 32)))])) := k2
      have q2 := th h (by omega) (by omega)
      refine z_aald (b := (j + 11 + h.toNat)) (q := 16) dX2_holeAt_15 rfl e2 (by omega) g2 rfl ?_
      refine g_iload_n (q := 17) dX2_holeAt_16 rfl rfl ?_
      refine g_iload_n (q := 18) dX2_holeAt_17 rfl rfl ?_
      refine g_callV (As := [.int (iZ x), .int (iZ y)]) (rest := []) (q := 21) moX0_has lkX2_holeAt_87 dX2_holeAt_18 rfl k2 (r_has σ (j + 11 + h.toNat) (T (4 * h + 29)) (T (4 * h + 30)) (T (4 * h + 31)) (T (4 * h + 32)) x y k2 (by omega) (by omega) (by omega) (by omega) (by omega) (by omega)) rfl rfl (Nat.le_of_ble_eq_true rfl) (Nat.le_of_ble_eq_true rfl) (Nat.le_of_ble_eq_true rfl) rfl ?_
      rintro rQ sQ hpQ
      rw [hpQ.1, hpQ.2]
      show Go w mX2_holeAt (0, 0) 21 [some (.ref j), some (.int (iZ x)), some (.int (iZ y)), some (.int (iZ h))] [.int (bI ((T (4 * h + 29)) ≤ x ∧ x < (T (4 * h + 29)) + (T (4 * h + 31)) ∧ (T (4 * h + 30)) ≤ y ∧ y < (T (4 * h + 30)) + (T (4 * h + 32))))] σ (fun r σ' => r = some (.int (iZ (mHoleF T x y (n + 1) h))) ∧ σ' = σ)
      refine z_ifB_eq (t := 26) (q := 24) dX2_holeAt_21 rfl rfl (fun pc3 => ?_) (fun pc3 => ?_)
      · refine z_iincc (c := (h + 1)) (ml' := [some (.ref j), some (.int (iZ x)), some (.int (iZ y)), some (.int (iZ (h + 1)))]) (q := 29) dX2_holeAt_26 rfl (by omega) rfl rfl rfl ?_
        refine g_goto (q := 2) dX2_holeAt_29 rfl ?_
        exact (ih (h + 1) (by omega) (by omega)).mono (fun r σ1 hp => ⟨hp.1.trans (congrArg (fun z => some (Value.int (iZ z))) (by conv => rhs; unfold mHoleF; rw [if_neg (by omega)])), hp.2⟩)
      · refine g_iload_n (q := 25) dX2_holeAt_24 rfl rfl ?_
        refine z_iret dX2_holeAt_25 rfl ?_
        exact ⟨congrArg (fun z => some (Value.int (iZ z))) (by unfold mHoleF; rw [if_pos (by omega)]), rfl⟩
theorem r_holeAt (σ : g_H0) (j : Nat) (T : Int → Int) (hJ : rJob j T σ) (wT : wfT T) (x y : Int) (b_x : -2147483648 ≤ x ∧ x < 2147483648) (b_y : -2147483648 ≤ y ∧ y < 2147483648) : Ret mX2_holeAt [.ref j, .int (iZ x), .int (iZ y)] σ (fun r σ' => r = some (.int (iZ (mHole T x y))) ∧ σ' = σ) := by
  refine Ret.of moX2_holeAt.1 (Nat.le_of_ble_eq_true rfl) (fun w => ?_)
  obtain ⟨bT, t0, t1, t2, t3, t4, tt, th, tap, tcl, tc2⟩ := id wT
  show Go w mX2_holeAt (0, 0) 0 [some (.ref j), some (.int (iZ x)), some (.int (iZ y)), none] [] σ (fun r σ' => r = some (.int (iZ (mHole T x y))) ∧ σ' = σ)
  refine z_iconst (q := 1) dX2_holeAt_0 rfl ?_
  refine g_istore_n (ml' := [some (.ref j), some (.int (iZ x)), some (.int (iZ y)), some (.int (iZ 0))]) (q := 2) dX2_holeAt_1 rfl (Nat.le_of_ble_eq_true rfl) rfl rfl ?_
  exact l_holeAt w σ j T hJ wT x y b_x b_y (T 3).toNat 0 (by omega) (by omega)
def cOneF (T : Int → Int) (x y wd hg : Int) : Nat → Int → Int
  | 0, _ => 0
  | n + 1, k => if T (4 * k + 29) ≤ x ∧ x + wd ≤ T (4 * k + 29) + T (4 * k + 31) ∧ T (4 * k + 30) ≤ y ∧ y + hg ≤ T (4 * k + 30) + T (4 * k + 32) then 1 else cOneF T x y wd hg n (k + 1)
theorem cOneF_b (T : Int → Int) (x y wd hg : Int) : ∀ (n : Nat) (k : Int), 0 ≤ cOneF T x y wd hg n k ∧ cOneF T x y wd hg n k ≤ 1
  | 0, k => by unfold cOneF; omega
  | n + 1, k => by
    unfold cOneF
    split
    · omega
    · exact cOneF_b T x y wd hg n (k + 1)
theorem l_one (w : g_W) (σ : g_H0) (j : Nat) (T : Int → Int) (hJ : rJob j T σ) (wT : wfT T) (o : Nat) (x y wd hg : Int) (hA : σ[o]? = some (.inr (0, [.int (iZ x), .int (iZ y), .int (iZ wd), .int (iZ hg)]))) (b_x : 0 ≤ x ∧ x < 1000) (b_y : 0 ≤ y ∧ y < 1000) (b_wd : 0 ≤ wd ∧ wd < 1000) (b_hg : 0 ≤ hg ∧ hg < 1000) : ∀ (n : Nat) (h : Int), 0 ≤ h → h + n = T 3 → Go w mX2_isOfOneHole (0, 0) 2 [some (.ref j), some (.ref o), some (.int (iZ h))] [] σ (fun r σ' => r = some (.int (iZ (cOneF T x y wd hg n h))) ∧ σ' = σ) := by
  intro n
  induction n with
  | zero =>
    intro h h0 h1
    obtain ⟨bT, t0, t1, t2, t3, t4, tt, th, tap, tcl, tc2⟩ := id wT
    obtain ⟨j0, j1, ⟨jf, j2, j2'⟩, ⟨jg, j3, j3'⟩, ⟨jC, j4, j4'⟩, j5, j6⟩ := id hJ
    refine g_iload_n (q := 3) dX2_isOfOneHole_2 rfl rfl ?_
    refine g_aload_n (q := 4) dX2_isOfOneHole_3 rfl rfl ?_
    refine g_get (q := 7) flX2_41 dX2_isOfOneHole_4 j0 rfl rfl ?_
    refine z_icmp_ge (t := 31) (q := 10) dX2_isOfOneHole_7 rfl (by omega) rfl (fun pc1 => ?_) (fun pc1 => ?_)
    · refine z_iconst (q := 32) dX2_isOfOneHole_31 rfl ?_
      refine z_zret dX2_isOfOneHole_32 rfl rfl ?_
      exact ⟨congrArg (fun z => some (Value.int (iZ z))) (by unfold cOneF; rfl), rfl⟩
    · exfalso
      omega
  | succ n ih =>
    intro h h0 h1
    obtain ⟨bT, t0, t1, t2, t3, t4, tt, th, tap, tcl, tc2⟩ := id wT
    obtain ⟨j0, j1, ⟨jf, j2, j2'⟩, ⟨jg, j3, j3'⟩, ⟨jC, j4, j4'⟩, j5, j6⟩ := id hJ
    refine g_iload_n (q := 3) dX2_isOfOneHole_2 rfl rfl ?_
    refine g_aload_n (q := 4) dX2_isOfOneHole_3 rfl rfl ?_
    refine g_get (q := 7) flX2_41 dX2_isOfOneHole_4 j0 rfl rfl ?_
    refine z_icmp_ge (t := 31) (q := 10) dX2_isOfOneHole_7 rfl (by omega) rfl (fun pc1 => ?_) (fun pc1 => ?_)
    · exfalso
      omega
    · refine g_aload_n (q := 11) dX2_isOfOneHole_10 rfl rfl ?_
      refine g_get (q := 14) flX2_24 dX2_isOfOneHole_11 j0 rfl rfl ?_
      refine g_iload_n (q := 15) dX2_isOfOneHole_14 rfl rfl ?_
      obtain ⟨f2, e2, g2, k2⟩ := hJ.hole (s := h) (by omega) (by omega) (by omega)
      have k2 : σ[(j + 11 + h.toNat)]? = some (.inr (0, [.int (iZ (T (4 * h + 29))), .int (iZ (T (4 * h + 30))), .int (iZ (T (4 * h + 31))), .int (iZ (T (4 * h + 32)))])) := k2
      have q2 := th h (by omega) (by omega)
      refine z_aald (b := (j + 11 + h.toNat)) (q := 16) dX2_isOfOneHole_15 rfl e2 (by omega) g2 rfl ?_
      refine g_aload_n (q := 17) dX2_isOfOneHole_16 rfl rfl ?_
      refine g_callV (As := [.ref o]) (rest := []) (q := 20) moX0_covers lkX2_isOfOneHole_73 dX2_isOfOneHole_17 rfl k2 (r_covers σ (j + 11 + h.toNat) o (T (4 * h + 29)) (T (4 * h + 30)) (T (4 * h + 31)) (T (4 * h + 32)) x y wd hg k2 hA (by omega) (by omega) (by omega) (by omega) (by omega) (by omega) (by omega) (by omega)) rfl rfl (Nat.le_of_ble_eq_true rfl) (Nat.le_of_ble_eq_true rfl) (Nat.le_of_ble_eq_true rfl) rfl ?_
      rintro rQ sQ hpQ
      rw [hpQ.1, hpQ.2]
      show Go w mX2_isOfOneHole (0, 0) 20 [some (.ref j), some (.ref o), some (.int (iZ h))] [.int (bI ((T (4 * h + 29)) ≤ x ∧ x + wd ≤ (T (4 * h + 29)) + (T (4 * h + 31)) ∧ (T (4 * h + 30)) ≤ y ∧ y + hg ≤ (T (4 * h + 30)) + (T (4 * h + 32))))] σ (fun r σ' => r = some (.int (iZ (cOneF T x y wd hg (n + 1) h))) ∧ σ' = σ)
      refine z_ifB_eq (t := 25) (q := 23) dX2_isOfOneHole_20 rfl rfl (fun pc3 => ?_) (fun pc3 => ?_)
      · refine z_iincc (c := (h + 1)) (ml' := [some (.ref j), some (.ref o), some (.int (iZ (h + 1)))]) (q := 28) dX2_isOfOneHole_25 rfl (by omega) rfl rfl rfl ?_
        refine g_goto (q := 2) dX2_isOfOneHole_28 rfl ?_
        exact (ih (h + 1) (by omega) (by omega)).mono (fun r σ1 hp => ⟨hp.1.trans (congrArg (fun z => some (Value.int (iZ z))) (by conv => rhs; unfold cOneF; rw [if_neg (by omega)])), hp.2⟩)
      · refine z_iconst (q := 24) dX2_isOfOneHole_23 rfl ?_
        refine z_zret dX2_isOfOneHole_24 rfl rfl ?_
        exact ⟨congrArg (fun z => some (Value.int (iZ z))) (by unfold cOneF; rw [if_pos (by omega)]), rfl⟩
theorem r_one (σ : g_H0) (j : Nat) (T : Int → Int) (hJ : rJob j T σ) (wT : wfT T) (o : Nat) (x y wd hg : Int) (hA : σ[o]? = some (.inr (0, [.int (iZ x), .int (iZ y), .int (iZ wd), .int (iZ hg)]))) (b_x : 0 ≤ x ∧ x < 1000) (b_y : 0 ≤ y ∧ y < 1000) (b_wd : 0 ≤ wd ∧ wd < 1000) (b_hg : 0 ≤ hg ∧ hg < 1000) : Ret mX2_isOfOneHole [.ref j, .ref o] σ (fun r σ' => r = some (.int (iZ (cOneF T x y wd hg (T 3).toNat 0))) ∧ σ' = σ) := by
  refine Ret.of moX2_isOfOneHole.1 (Nat.le_of_ble_eq_true rfl) (fun w => ?_)
  obtain ⟨bT, t0, t1, t2, t3, t4, tt, th, tap, tcl, tc2⟩ := id wT
  show Go w mX2_isOfOneHole (0, 0) 0 [some (.ref j), some (.ref o), none] [] σ (fun r σ' => r = some (.int (iZ (cOneF T x y wd hg (T 3).toNat 0))) ∧ σ' = σ)
  refine z_iconst (q := 1) dX2_isOfOneHole_0 rfl ?_
  refine g_istore_n (ml' := [some (.ref j), some (.ref o), some (.int (iZ 0))]) (q := 2) dX2_isOfOneHole_1 rfl (Nat.le_of_ble_eq_true rfl) rfl rfl ?_
  exact l_one w σ j T hJ wT o x y wd hg hA b_x b_y b_wd b_hg (T 3).toNat 0 (by omega) (by omega)
theorem r_turnsBetween (σ : g_H0) (j : Nat) (T : Int → Int) (hJ : rJob j T σ) (wT : wfT T) (x y : Int) (bx : 0 ≤ x ∧ x < 6) (by_ : 0 ≤ y ∧ y < 6) : Ret mX2_turnsBetween [.ref j, .int (iZ x), .int (iZ y)] σ (fun r σ' => r = some (.int (iZ (mRing T x y))) ∧ σ' = σ) := by
  refine Ret.of moX2_turnsBetween.1 (Nat.le_of_ble_eq_true rfl) (fun w => ?_)
  obtain ⟨bT, t0, t1, t2, t3, t4, tt, th, tap, tcl, tc2⟩ := id wT
  obtain ⟨j0, j1, ⟨jf, j2, j2'⟩, ⟨jg, j3, j3'⟩, ⟨jC, j4, j4'⟩, j5, j6⟩ := id hJ
  show Go w mX2_turnsBetween (0, 0) 0 [some (.ref j), some (.int (iZ x)), some (.int (iZ y)), none] [] σ (fun r σ' => r = some (.int (iZ (mRing T x y))) ∧ σ' = σ)
  refine g_iload_n (q := 1) dX2_turnsBetween_0 rfl rfl ?_
  refine g_iload_n (q := 2) dX2_turnsBetween_1 rfl rfl ?_
  refine z_isub (q := 3) dX2_turnsBetween_2 rfl ?_
  refine z_abs (q := 6) lkX2_turnsBetween_90.1 dX2_turnsBetween_3 (by omega) (Nat.le_of_ble_eq_true rfl) (Nat.le_of_ble_eq_true rfl) (Nat.le_of_ble_eq_true rfl) (Nat.le_of_ble_eq_true rfl) (Nat.le_of_ble_eq_true rfl) rfl ?_
  have b1 := zabs_c (x - y)
  refine g_istore_n (ml' := [some (.ref j), some (.int (iZ x)), some (.int (iZ y)), some (.int (iZ (zabs (x - y))))]) (q := 7) dX2_turnsBetween_6 rfl (Nat.le_of_ble_eq_true rfl) rfl rfl ?_
  refine g_iload_n (q := 8) dX2_turnsBetween_7 rfl rfl ?_
  refine g_aload_n (q := 9) dX2_turnsBetween_8 rfl rfl ?_
  refine g_get (q := 12) flX2_37 dX2_turnsBetween_9 j0 rfl rfl ?_
  refine g_iload_n (q := 13) dX2_turnsBetween_12 rfl rfl ?_
  refine z_isub (q := 14) dX2_turnsBetween_13 rfl ?_
  refine z_min (q := 17) lkX2_turnsBetween_96.1 dX2_turnsBetween_14 (by omega) (Nat.le_of_ble_eq_true rfl) (Nat.le_of_ble_eq_true rfl) (Nat.le_of_ble_eq_true rfl) (Nat.le_of_ble_eq_true rfl) (Nat.le_of_ble_eq_true rfl) rfl ?_
  have b2 := zmin_c (zabs (x - y)) ((T 2) - (zabs (x - y)))
  refine z_iret dX2_turnsBetween_17 rfl ?_
  exact ⟨congrArg (fun z => some (Value.int (iZ z))) (by unfold mRing; omega), rfl⟩
