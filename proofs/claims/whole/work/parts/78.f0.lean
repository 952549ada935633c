/-! the first TEXT -/
def txL : List Int := [115, 104, 101, 101, 116, 32, 49, 48, 44, 56, 59, 116, 111, 111, 108, 32, 50, 44, 50, 44, 48, 44, 52, 48, 59, 116, 111, 111, 108, 32, 51, 44, 49, 44, 49, 44, 49, 50, 59, 116, 111, 111, 108, 32, 49, 44, 49, 44, 48, 44, 57, 57, 59, 104, 111, 108, 101, 32, 49, 44, 49, 44, 52, 44, 50, 59, 104, 111, 108, 101, 32, 54, 44, 49, 44, 51, 44, 51, 59, 104, 111, 108, 101, 32, 50, 44, 53, 44, 49, 44, 51, 59, 104, 111, 108, 101, 32, 54, 44, 54, 44, 51, 44, 49, 59, 99, 108, 97, 109, 112, 32, 48, 59, 99, 108, 97, 109, 112, 32, 55, 59]
def tx0 : Int → Int := fun k => txL.getD k.toNat 0
theorem sL_00 : sL 0 = 121 := by decide +kernel
theorem tx0_ok : ∀ k : Nat, k < 121 → sC 0 (k : Int) = tx0 (k : Int) := by decide +kernel
theorem tx0_b0 : ∀ k : Nat, k < 121 → 32 ≤ tx0 (k : Int) ∧ tx0 (k : Int) ≤ 126 := by decide +kernel
theorem tx0_b : zBt 121 tx0 := by
  intro k k0 k1
  obtain ⟨n, rfl⟩ := Int.eq_ofNat_of_zero_le k0
  exact tx0_b0 n (by omega)
theorem first_1 : (mFlt 121 tx0 (fun _ => 0)).1 = -4 := by decide +kernel
theorem first_2 : ∀ k : Nat, k < 51 → (mFlt 121 tx0 (fun _ => 0)).2 (k : Int) = mT0 (k : Int) := by decide +kernel
