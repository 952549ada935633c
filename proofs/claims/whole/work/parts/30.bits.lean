/-! sets of STATIONS as numbers below 64 -/
def pw (b : Int) : Int := ((2 ^ b.toNat : Nat) : Int)
def bor (a b : Int) : Int := ((a.toNat ||| b.toNat : Nat) : Int)
theorem bt_shl : ∀ n : Nat, n < 7 → iZ 1 <<< (iZ (n : Int) &&& 31) = iZ (((2 ^ n : Nat) : Int)) := by decide +kernel
theorem bt_or : ∀ a : Nat, a < 64 → ∀ b : Nat, b < 64 → iZ (a : Int) ||| iZ (b : Int) = iZ (((a ||| b : Nat) : Int)) := by decide +kernel
theorem bt_shr : ∀ a : Nat, a < 64 → ∀ b : Nat, b < 7 → iZ (a : Int) >>> (iZ (b : Int) &&& 31) = iZ (((a / 2 ^ b : Nat) : Int)) := by decide +kernel
theorem bt_and1 : ∀ a : Nat, a < 64 → iZ (a : Int) &&& iZ 1 = iZ (((a % 2 : Nat) : Int)) := by decide +kernel
theorem bt_and : ∀ a : Nat, a < 64 → ∀ b : Nat, b < 7 → (iZ (a : Int) &&& iZ (((2 ^ b : Nat) : Int)) = 0 ↔ a / 2 ^ b % 2 = 0) := by decide +kernel
theorem pw_of (n : Nat) : pw (n : Int) = ((2 ^ n : Nat) : Int) := by unfold pw; simp
theorem pw_b {b : Int} (h : 0 ≤ b ∧ b < 7) : 1 ≤ pw b ∧ pw b ≤ 64 := by
  obtain ⟨n, rfl⟩ := Int.eq_ofNat_of_zero_le h.1
  rw [pw_of]
  have h2 : n < 7 := by omega
  have : ∀ n : Nat, n < 7 → (1 : Int) ≤ ((2 ^ n : Nat) : Int) ∧ ((2 ^ n : Nat) : Int) ≤ 64 := by decide +kernel
  exact this n h2
theorem pw_b5 {b : Int} (h : 0 ≤ b ∧ b < 6) : 1 ≤ pw b ∧ pw b ≤ 32 := by
  obtain ⟨n, rfl⟩ := Int.eq_ofNat_of_zero_le h.1
  rw [pw_of]
  have h2 : n < 6 := by omega
  have : ∀ n : Nat, n < 6 → (1 : Int) ≤ ((2 ^ n : Nat) : Int) ∧ ((2 ^ n : Nat) : Int) ≤ 32 := by decide +kernel
  exact this n h2
theorem bor_b {a b : Int} (ha : 0 ≤ a ∧ a < 64) (hb : 0 ≤ b ∧ b < 64) : 0 ≤ bor a b ∧ bor a b < 64 := by
  unfold bor
  have h : a.toNat ||| b.toNat < 2 ^ 6 := Nat.or_lt_two_pow (by omega) (by omega)
  omega
section GB
variable {w : g_W} {M : g_MD} {cs : Nat × Nat} {pc q : Nat} {ml : List (Option Value)} {st : List Value} {σ : g_H0} {Φ : g_Post}
theorem z_shl1 {b : Int} (hd : decode M.2.1 pc = .ok (.ishl, 1)) (h : 0 ≤ b ∧ b < 7) (hq : pc + 1 = q) (k : Go w M cs q ml (.int (iZ (pw b)) :: st) σ Φ) : Go w M cs pc ml (.int (iZ b) :: .int (iZ 1) :: st) σ Φ := by
  obtain ⟨n, rfl⟩ := Int.eq_ofNat_of_zero_le h.1
  refine g_ishl hd hq ?_
  rw [bt_shl n (by omega), ← pw_of]; exact k
theorem z_ior {a b : Int} (hd : decode M.2.1 pc = .ok (.ior, 1)) (h : (0 ≤ a ∧ a < 64) ∧ (0 ≤ b ∧ b < 64)) (hq : pc + 1 = q) (k : Go w M cs q ml (.int (iZ (bor a b)) :: st) σ Φ) : Go w M cs pc ml (.int (iZ b) :: .int (iZ a) :: st) σ Φ := by
  obtain ⟨n, rfl⟩ := Int.eq_ofNat_of_zero_le h.1.1
  obtain ⟨m, rfl⟩ := Int.eq_ofNat_of_zero_le h.2.1
  refine g_ior hd hq ?_
  rw [bt_or n (by omega) m (by omega)]; exact k
theorem z_ishr {a b : Int} (hd : decode M.2.1 pc = .ok (.ishr, 1)) (h : (0 ≤ a ∧ a < 64) ∧ (0 ≤ b ∧ b < 7)) (hq : pc + 1 = q) (k : Go w M cs q ml (.int (iZ (a / pw b)) :: st) σ Φ) : Go w M cs pc ml (.int (iZ b) :: .int (iZ a) :: st) σ Φ := by
  obtain ⟨n, rfl⟩ := Int.eq_ofNat_of_zero_le h.1.1
  obtain ⟨m, rfl⟩ := Int.eq_ofNat_of_zero_le h.2.1
  refine g_ishr hd hq ?_
  rw [bt_shr n (by omega) m (by omega)]
  rw [pw_of] at k
  exact k
theorem z_iand1 {a : Int} (hd : decode M.2.1 pc = .ok (.iand, 1)) (h : 0 ≤ a ∧ a < 64) (hq : pc + 1 = q) (k : Go w M cs q ml (.int (iZ (a % 2)) :: st) σ Φ) : Go w M cs pc ml (.int (iZ 1) :: .int (iZ a) :: st) σ Φ := by
  obtain ⟨n, rfl⟩ := Int.eq_ofNat_of_zero_le h.1
  refine g_iand hd hq ?_
  rw [bt_and1 n (by omega)]; exact k
theorem pw_div {a b : Int} (ha : 0 ≤ a ∧ a < 64) (hb : 0 ≤ b ∧ b < 7) : 0 ≤ a / pw b ∧ a / pw b < 64 := by
  have := pw_b hb
  have h1 := Int.ediv_nonneg ha.1 (show (0 : Int) ≤ pw b by omega)
  have h2 := Int.ediv_le_self (pw b) ha.1
  omega
end GB
