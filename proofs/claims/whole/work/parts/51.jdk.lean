def bc1 (i : Int32) : Int32 := i - ((((i).toUInt32 >>> ((iZ 1).toUInt32 &&& Int32.toUInt32 31)).toInt32) &&& Int32.ofInt 1431655765)
def bc2 (i : Int32) : Int32 := (i &&& Int32.ofInt 858993459) + ((((i).toUInt32 >>> ((iZ 2).toUInt32 &&& Int32.toUInt32 31)).toInt32) &&& Int32.ofInt 858993459)
def bc3 (i : Int32) : Int32 := (i + (((i).toUInt32 >>> ((iZ 4).toUInt32 &&& Int32.toUInt32 31)).toInt32)) &&& Int32.ofInt 252645135
def bc4 (i : Int32) : Int32 := i + (((i).toUInt32 >>> ((iZ 8).toUInt32 &&& Int32.toUInt32 31)).toInt32)
def bc5 (i : Int32) : Int32 := i + (((i).toUInt32 >>> ((iZ 16).toUInt32 &&& Int32.toUInt32 31)).toInt32)
theorem bc_ok0 : ∀ a : Nat, a < 64 → ∀ b : Nat, b < 64 → bc5 (bc4 (bc3 (bc2 (bc1 (iZ ((64 * a + b : Nat) : Int)))))) &&& iZ 63 = iZ (popc ((64 * a + b : Nat) : Int)) := by decide +kernel
theorem bc_ok (c : Nat) (h : c < 4096) : bc5 (bc4 (bc3 (bc2 (bc1 (iZ (c : Int)))))) &&& iZ 63 = iZ (popc (c : Int)) := by
  have := bc_ok0 (c / 64) (by omega) (c % 64) (by omega)
  rw [show 64 * (c / 64) + c % 64 = c by omega] at this
  exact this
theorem r_bitCount (σ : g_H0) (c : Nat) (bc : c < 4096) : Ret mJ6_bitCount_0f7a4 [.int (iZ (c : Int))] σ (fun r σ' => r = some (.int (iZ (popc (c : Int)))) ∧ σ' = σ) := by
  refine Ret.of moJ6_bitCount_0f7a4.1 (Nat.le_of_ble_eq_true rfl) (fun w => ?_)
  show Go w mJ6_bitCount_0f7a4 (0, 0) 0 [some (.int (iZ (c : Int)))] [] σ (fun r σ' => r = some (.int (iZ (popc (c : Int)))) ∧ σ' = σ)
  refine g_iload_n (q := 1) dJ6_bitCount_0f7a4_0 rfl rfl ?_
  refine g_iload_n (q := 2) dJ6_bitCount_0f7a4_1 rfl rfl ?_
  refine z_iconst (q := 3) dJ6_bitCount_0f7a4_2 rfl ?_
  refine g_iushr (q := 4) dJ6_bitCount_0f7a4_3 rfl ?_
  refine g_ldcw (q := 7) dJ6_bitCount_0f7a4_4 kiJ6_265 rfl ?_
  refine g_iand (q := 8) dJ6_bitCount_0f7a4_7 rfl ?_
  refine g_isub (q := 9) dJ6_bitCount_0f7a4_8 rfl ?_
  show Go w mJ6_bitCount_0f7a4 (0, 0) 9 [some (.int (iZ (c : Int)))] [.int (bc1 (iZ (c : Int)))] σ (fun r σ' => r = some (.int (iZ (popc (c : Int)))) ∧ σ' = σ)
  refine g_istore_n (ml' := [some (.int (bc1 (iZ (c : Int))))]) (q := 10) dJ6_bitCount_0f7a4_9 rfl (Nat.le_of_ble_eq_true rfl) rfl rfl ?_
  refine g_iload_n (q := 11) dJ6_bitCount_0f7a4_10 rfl rfl ?_
  refine g_ldcw (q := 14) dJ6_bitCount_0f7a4_11 kiJ6_266 rfl ?_
  refine g_iand (q := 15) dJ6_bitCount_0f7a4_14 rfl ?_
  refine g_iload_n (q := 16) dJ6_bitCount_0f7a4_15 rfl rfl ?_
  refine z_iconst (q := 17) dJ6_bitCount_0f7a4_16 rfl ?_
  refine g_iushr (q := 18) dJ6_bitCount_0f7a4_17 rfl ?_
  refine g_ldcw (q := 21) dJ6_bitCount_0f7a4_18 kiJ6_266 rfl ?_
  refine g_iand (q := 22) dJ6_bitCount_0f7a4_21 rfl ?_
  refine g_iadd (q := 23) dJ6_bitCount_0f7a4_22 rfl ?_
  show Go w mJ6_bitCount_0f7a4 (0, 0) 23 [some (.int (bc1 (iZ (c : Int))))] [.int (bc2 (bc1 (iZ (c : Int))))] σ (fun r σ' => r = some (.int (iZ (popc (c : Int)))) ∧ σ' = σ)
  refine g_istore_n (ml' := [some (.int (bc2 (bc1 (iZ (c : Int)))))]) (q := 24) dJ6_bitCount_0f7a4_23 rfl (Nat.le_of_ble_eq_true rfl) rfl rfl ?_
  refine g_iload_n (q := 25) dJ6_bitCount_0f7a4_24 rfl rfl ?_
  refine g_iload_n (q := 26) dJ6_bitCount_0f7a4_25 rfl rfl ?_
  refine z_iconst (q := 27) dJ6_bitCount_0f7a4_26 rfl ?_
  refine g_iushr (q := 28) dJ6_bitCount_0f7a4_27 rfl ?_
  refine g_iadd (q := 29) dJ6_bitCount_0f7a4_28 rfl ?_
  refine g_ldcw (q := 32) dJ6_bitCount_0f7a4_29 kiJ6_267 rfl ?_
  refine g_iand (q := 33) dJ6_bitCount_0f7a4_32 rfl ?_
  show Go w mJ6_bitCount_0f7a4 (0, 0) 33 [some (.int (bc2 (bc1 (iZ (c : Int)))))] [.int (bc3 (bc2 (bc1 (iZ (c : Int)))))] σ (fun r σ' => r = some (.int (iZ (popc (c : Int)))) ∧ σ' = σ)
  refine g_istore_n (ml' := [some (.int (bc3 (bc2 (bc1 (iZ (c : Int))))))]) (q := 34) dJ6_bitCount_0f7a4_33 rfl (Nat.le_of_ble_eq_true rfl) rfl rfl ?_
  refine g_iload_n (q := 35) dJ6_bitCount_0f7a4_34 rfl rfl ?_
  refine g_iload_n (q := 36) dJ6_bitCount_0f7a4_35 rfl rfl ?_
  refine g_bipush (v := iZ 8) (q := 38) dJ6_bitCount_0f7a4_36 (by decide) rfl ?_
  refine g_iushr (q := 39) dJ6_bitCount_0f7a4_38 rfl ?_
  refine g_iadd (q := 40) dJ6_bitCount_0f7a4_39 rfl ?_
  show Go w mJ6_bitCount_0f7a4 (0, 0) 40 [some (.int (bc3 (bc2 (bc1 (iZ (c : Int))))))] [.int (bc4 (bc3 (bc2 (bc1 (iZ (c : Int))))))] σ (fun r σ' => r = some (.int (iZ (popc (c : Int)))) ∧ σ' = σ)
  refine g_istore_n (ml' := [some (.int (bc4 (bc3 (bc2 (bc1 (iZ (c : Int)))))))]) (q := 41) dJ6_bitCount_0f7a4_40 rfl (Nat.le_of_ble_eq_true rfl) rfl rfl ?_
  refine g_iload_n (q := 42) dJ6_bitCount_0f7a4_41 rfl rfl ?_
  refine g_iload_n (q := 43) dJ6_bitCount_0f7a4_42 rfl rfl ?_
  refine g_bipush (v := iZ 16) (q := 45) dJ6_bitCount_0f7a4_43 (by decide) rfl ?_
  refine g_iushr (q := 46) dJ6_bitCount_0f7a4_45 rfl ?_
  refine g_iadd (q := 47) dJ6_bitCount_0f7a4_46 rfl ?_
  show Go w mJ6_bitCount_0f7a4 (0, 0) 47 [some (.int (bc4 (bc3 (bc2 (bc1 (iZ (c : Int)))))))] [.int (bc5 (bc4 (bc3 (bc2 (bc1 (iZ (c : Int)))))))] σ (fun r σ' => r = some (.int (iZ (popc (c : Int)))) ∧ σ' = σ)
  refine g_istore_n (ml' := [some (.int (bc5 (bc4 (bc3 (bc2 (bc1 (iZ (c : Int))))))))]) (q := 48) dJ6_bitCount_0f7a4_47 rfl (Nat.le_of_ble_eq_true rfl) rfl rfl ?_
  refine g_iload_n (q := 49) dJ6_bitCount_0f7a4_48 rfl rfl ?_
  refine g_bipush (v := iZ 63) (q := 51) dJ6_bitCount_0f7a4_49 (by decide) rfl ?_
  refine g_iand (q := 52) dJ6_bitCount_0f7a4_51 rfl ?_
  refine z_iret dJ6_bitCount_0f7a4_52 rfl ?_
  exact ⟨congrArg (fun z => some (Value.int z)) (bc_ok c bc), rfl⟩
