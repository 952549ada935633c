/-! the start: what the Statement gives of the String constants -/
def sTm (i : Nat) : Term := .string (g_sOwn i) (g_sIdx i)
theorem st_ex : ∀ i : Nat, i < 5 → Cond.exactly (sTm i) "java/lang/String" ∈ flatC (Jvm.Cond.and given_1 narrow_1) := by decide +kernel
theorem st_co : ∀ i : Nat, i < 5 → Cond.eq (.field (sTm i) "java/lang/String" "coder" "B") (.int 0) ∈ flatC (Jvm.Cond.and given_1 narrow_1) := by decide +kernel
theorem st_ar : ∀ i : Nat, i < 5 → Cond.arrayOf (.field (sTm i) "java/lang/String" "value" "[B") .byte ∈ flatC (Jvm.Cond.and given_1 narrow_1) := by decide +kernel
theorem st_le : ∀ i : Nat, i < 5 → Cond.eq (.length (.field (sTm i) "java/lang/String" "value" "[B")) (.int (Int32.ofNat (g_sLen.getD i 0))) ∈ flatC (Jvm.Cond.and given_1 narrow_1) := by decide +kernel
theorem st_ne : ∀ i : Nat, i < 5 → ∀ j : Nat, j < 5 → i ≠ j → Cond.not (Cond.eq (sTm i) (sTm j)) ∈ flatC (Jvm.Cond.and given_1 narrow_1) ∨ Cond.not (Cond.eq (sTm j) (sTm i)) ∈ flatC (Jvm.Cond.and given_1 narrow_1) := by decide +kernel
theorem st_n : ∀ i : Nat, i < 5 → g_sLen.getD i 0 < 2 ^ 31 := by decide +kernel
theorem st_rf : ∀ i : Nat, i < 5 → Cond.stringRef (g_sOwn i) (g_sIdx i) (g_sTx i) ∈ tables_1 := by decide +kernel
theorem st_el_0_0 : ∀ j : Nat, j < 31 → (flatC (Jvm.Cond.and given_1 narrow_1))[43 + j]? = some (Cond.eq (.elem (.field (sTm 0) "java/lang/String" "value" "[B") (.int (Int32.ofNat (0 + j)))) (.int ((g_sByt.getD 0 []).getD (0 + j) 0))) := by decide +kernel
theorem st_el_0_31 : ∀ j : Nat, j < 31 → (flatC (Jvm.Cond.and given_1 narrow_1))[74 + j]? = some (Cond.eq (.elem (.field (sTm 0) "java/lang/String" "value" "[B") (.int (Int32.ofNat (31 + j)))) (.int ((g_sByt.getD 0 []).getD (31 + j) 0))) := by decide +kernel
theorem st_el_0_62 : ∀ j : Nat, j < 31 → (flatC (Jvm.Cond.and given_1 narrow_1))[105 + j]? = some (Cond.eq (.elem (.field (sTm 0) "java/lang/String" "value" "[B") (.int (Int32.ofNat (62 + j)))) (.int ((g_sByt.getD 0 []).getD (62 + j) 0))) := by decide +kernel
theorem st_el_0_93 : ∀ j : Nat, j < 28 → (flatC (Jvm.Cond.and given_1 narrow_1))[136 + j]? = some (Cond.eq (.elem (.field (sTm 0) "java/lang/String" "value" "[B") (.int (Int32.ofNat (93 + j)))) (.int ((g_sByt.getD 0 []).getD (93 + j) 0))) := by decide +kernel
theorem st_el_1_0 : ∀ j : Nat, j < 6 → (flatC (Jvm.Cond.and given_1 narrow_1))[168 + j]? = some (Cond.eq (.elem (.field (sTm 1) "java/lang/String" "value" "[B") (.int (Int32.ofNat (0 + j)))) (.int ((g_sByt.getD 1 []).getD (0 + j) 0))) := by decide +kernel
theorem st_el_2_0 : ∀ j : Nat, j < 5 → (flatC (Jvm.Cond.and given_1 narrow_1))[179 + j]? = some (Cond.eq (.elem (.field (sTm 2) "java/lang/String" "value" "[B") (.int (Int32.ofNat (0 + j)))) (.int ((g_sByt.getD 2 []).getD (0 + j) 0))) := by decide +kernel
theorem st_el_3_0 : ∀ j : Nat, j < 5 → (flatC (Jvm.Cond.and given_1 narrow_1))[190 + j]? = some (Cond.eq (.elem (.field (sTm 3) "java/lang/String" "value" "[B") (.int (Int32.ofNat (0 + j)))) (.int ((g_sByt.getD 3 []).getD (0 + j) 0))) := by decide +kernel
theorem st_el_4_0 : ∀ j : Nat, j < 6 → (flatC (Jvm.Cond.and given_1 narrow_1))[202 + j]? = some (Cond.eq (.elem (.field (sTm 4) "java/lang/String" "value" "[B") (.int (Int32.ofNat (0 + j)))) (.int ((g_sByt.getD 4 []).getD (0 + j) 0))) := by decide +kernel
theorem st_el : ∀ i : Nat, i < 5 → ∀ j : Nat, j < g_sLen.getD i 0 → Cond.eq (.elem (.field (sTm i) "java/lang/String" "value" "[B") (.int (Int32.ofNat j))) (.int ((g_sByt.getD i []).getD j 0)) ∈ flatC (Jvm.Cond.and given_1 narrow_1) := by
  intro i hi j hj
  rcases (by omega : i = 0 ∨ i = 1 ∨ i = 2 ∨ i = 3 ∨ i = 4) with rfl | rfl | rfl | rfl | rfl
  · rw [show g_sLen.getD 0 0 = 121 by decide +kernel] at hj
    by_cases h0 : j < 31
    · obtain ⟨q, rfl⟩ : ∃ q, j = 0 + q := ⟨j - 0, by omega⟩; exact List.mem_of_getElem? (st_el_0_0 q (by omega))
    by_cases h31 : j < 62
    · obtain ⟨q, rfl⟩ : ∃ q, j = 31 + q := ⟨j - 31, by omega⟩; exact List.mem_of_getElem? (st_el_0_31 q (by omega))
    by_cases h62 : j < 93
    · obtain ⟨q, rfl⟩ : ∃ q, j = 62 + q := ⟨j - 62, by omega⟩; exact List.mem_of_getElem? (st_el_0_62 q (by omega))
    obtain ⟨q, rfl⟩ : ∃ q, j = 93 + q := ⟨j - 93, by omega⟩; exact List.mem_of_getElem? (st_el_0_93 q (by omega))
  · rw [show g_sLen.getD 1 0 = 6 by decide +kernel] at hj
    obtain ⟨q, rfl⟩ : ∃ q, j = 0 + q := ⟨j - 0, by omega⟩; exact List.mem_of_getElem? (st_el_1_0 q (by omega))
  · rw [show g_sLen.getD 2 0 = 5 by decide +kernel] at hj
    obtain ⟨q, rfl⟩ : ∃ q, j = 0 + q := ⟨j - 0, by omega⟩; exact List.mem_of_getElem? (st_el_2_0 q (by omega))
  · rw [show g_sLen.getD 3 0 = 5 by decide +kernel] at hj
    obtain ⟨q, rfl⟩ : ∃ q, j = 0 + q := ⟨j - 0, by omega⟩; exact List.mem_of_getElem? (st_el_3_0 q (by omega))
  · rw [show g_sLen.getD 4 0 = 6 by decide +kernel] at hj
    obtain ⟨q, rfl⟩ : ∃ q, j = 0 + q := ⟨j - 0, by omega⟩; exact List.mem_of_getElem? (st_el_4_0 q (by omega))
