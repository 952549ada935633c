/-! rows of CELLS as bits -/
def sm (f : Int → Int) : Nat → Int
  | 0 => 0
  | n + 1 => sm f n + f (n : Int)
theorem sm_congr {f g : Int → Int} : ∀ {n : Nat}, (∀ i : Int, 0 ≤ i → i < n → f i = g i) → sm f n = sm g n
  | 0, _ => rfl
  | n + 1, h => by
    unfold sm
    rw [sm_congr (fun i h0 h1 => h i h0 (by omega)), h n (by omega) (by omega)]
theorem sm_zero {f : Int → Int} {n : Nat} (h : ∀ i : Int, 0 ≤ i → i < n → f i = 0) : sm f n = 0 := by
  induction n with
  | zero => rfl
  | succ n ih =>
    unfold sm
    rw [ih (fun i h0 h1 => h i h0 (by omega)), h n (by omega) (by omega)]; rfl
theorem sm_b {f : Int → Int} {lo hi : Int} : ∀ {n : Nat}, (∀ i : Int, 0 ≤ i → i < n → lo ≤ f i ∧ f i ≤ hi) → lo * n ≤ sm f n ∧ sm f n ≤ hi * n
  | 0, _ => by simp [sm]
  | n + 1, h => by
    have h1 := sm_b (n := n) (fun i h0 h1 => h i h0 (by omega))
    have h2 := h n (by omega) (by omega)
    unfold sm
    have e1 : lo * ((n + 1 : Nat) : Int) = lo * n + lo := by push_cast; rw [Int.mul_add]; omega
    have e2 : hi * ((n + 1 : Nat) : Int) = hi * n + hi := by push_cast; rw [Int.mul_add]; omega
    omega
theorem sm_app (f : Int → Int) (m : Nat) : ∀ n : Nat, sm f (m + n) = sm f m + sm (fun i => f (m + i)) n
  | 0 => by simp [sm]
  | n + 1 => by
    show sm f (m + n) + f ((m + n : Nat) : Int) = sm f m + (sm (fun i => f (m + i)) n + f (m + n))
    rw [sm_app f m n]
    have : ((m + n : Nat) : Int) = (m : Int) + n := by push_cast; rfl
    rw [this]; omega
/-- a window of a sum -/
theorem sm_win {f g : Int → Int} {N x w : Nat} (h : x + w ≤ N) (h1 : ∀ i : Int, 0 ≤ i → i < w → f (x + i) = g i) (h2 : ∀ i : Int, 0 ≤ i → i < N → (i < x ∨ x + w ≤ i) → f i = 0) : sm f N = sm g w := by
  obtain ⟨r, rfl⟩ : ∃ r, N = x + w + r := ⟨N - (x + w), by omega⟩
  rw [sm_app f (x + w) r, sm_app f x w, sm_zero (f := f) (n := x) (fun i h0 h1 => h2 i h0 (by omega) (by omega)), sm_congr (f := fun i => f ((x : Int) + i)) (g := g) h1]
  rw [sm_zero (n := r) (fun i h0 h1 => h2 _ (by omega) (by omega) (by omega))]
  omega
def bt (c j : Int) : Int := c / pw j % 2
theorem bt_01 (c j : Int) : 0 ≤ bt c j ∧ bt c j ≤ 1 := by unfold bt; omega
theorem bt_nat (c j : Nat) : bt (c : Int) (j : Int) = ((c.testBit j).toNat : Nat) := by
  unfold bt
  rw [pw_of, Nat.toNat_testBit]
  push_cast
  rfl
/-- a number out of its bits -/
def rowL (f : Int → Int) : Int → Nat → Int
  | _, 0 => 0
  | s, n + 1 => f s + 2 * rowL f (s + 1) n
theorem rowL_b {f : Int → Int} : ∀ {n : Nat} {s : Int}, (∀ i, s ≤ i → i < s + n → 0 ≤ f i ∧ f i ≤ 1) → 0 ≤ rowL f s n ∧ rowL f s n < ((2 ^ n : Nat) : Int)
  | 0, s, _ => by simp [rowL]
  | n + 1, s, h => by
    have h1 := rowL_b (n := n) (s := s + 1) (fun i h0 h1 => h i (by omega) (by omega))
    have h2 := h s (by omega) (by omega)
    unfold rowL
    have e : ((2 ^ (n + 1) : Nat) : Int) = 2 * ((2 ^ n : Nat) : Int) := by rw [Nat.pow_succ]; push_cast; omega
    omega
theorem pw_s (j : Nat) : pw ((j + 1 : Nat) : Int) = 2 * pw (j : Int) := by
  rw [pw_of, pw_of, Nat.pow_succ]; push_cast; omega
theorem rowL_bt {f : Int → Int} : ∀ {n : Nat} {s : Int} {j : Nat}, (∀ i, s ≤ i → i < s + n → 0 ≤ f i ∧ f i ≤ 1) → j < n → bt (rowL f s n) (j : Int) = f (s + j)
  | 0, s, j, _, hj => by omega
  | n + 1, s, j, h, hj => by
    have h2 := h s (by omega) (by omega)
    have hb := rowL_b (n := n) (s := s + 1) (fun i h0 h1 => h i (by omega) (by omega))
    cases j with
    | zero =>
      show (f s + 2 * rowL f (s + 1) n) / pw 0 % 2 = f (s + 0)
      have : pw 0 = 1 := rfl
      rw [this, Int.ediv_one, Int.add_zero]; omega
    | succ j =>
      have ih := rowL_bt (n := n) (s := s + 1) (j := j) (fun i h0 h1 => h i (by omega) (by omega)) (by omega)
      unfold bt at ih ⊢
      show (f s + 2 * rowL f (s + 1) n) / pw ((j + 1 : Nat) : Int) % 2 = f (s + ((j + 1 : Nat) : Int))
      rw [pw_s, ← Int.ediv_ediv_of_nonneg (by omega), show (f s + 2 * rowL f (s + 1) n) / 2 = rowL f (s + 1) n by omega, ih]
      congr 1
      push_cast; omega
theorem bt_ext {a b : Int} (ha : 0 ≤ a ∧ a < 4096) (hb : 0 ≤ b ∧ b < 4096) (h : ∀ j : Nat, j < 12 → bt a j = bt b j) : a = b := by
  obtain ⟨n, rfl⟩ : ∃ n : Nat, a = n := ⟨a.toNat, by omega⟩
  obtain ⟨m, rfl⟩ : ∃ m : Nat, b = m := ⟨b.toNat, by omega⟩
  congr 1
  apply Nat.eq_of_testBit_eq
  intro i
  by_cases hi : i < 12
  · have := h i hi
    rw [bt_nat, bt_nat] at this
    have h3 : (n.testBit i).toNat = (m.testBit i).toNat := by exact_mod_cast this
    cases h4 : n.testBit i <;> cases h5 : m.testBit i <;> simp_all
  · have h1 : n < 2 ^ i := Nat.lt_of_lt_of_le (show n < 2 ^ 12 by omega) (Nat.pow_le_pow_right (by omega) (by omega))
    have h2 : m < 2 ^ i := Nat.lt_of_lt_of_le (show m < 2 ^ 12 by omega) (Nat.pow_le_pow_right (by omega) (by omega))
    rw [Nat.testBit_lt_two_pow h1, Nat.testBit_lt_two_pow h2]
/-- the CELLS of a row -/
def rowB (S : Int → Int) (y : Int) : Int := rowL (fun x => S (12 * y + x)) 0 12
theorem rowB_b {S : Int → Int} {y : Int} (h : ∀ x, 0 ≤ x → x < 12 → 0 ≤ S (12 * y + x) ∧ S (12 * y + x) ≤ 1) : 0 ≤ rowB S y ∧ rowB S y < 4096 := rowL_b (fun i h0 h1 => h i h0 (by omega))
theorem rowB_bt {S : Int → Int} {y : Int} (h : ∀ x, 0 ≤ x → x < 12 → 0 ≤ S (12 * y + x) ∧ S (12 * y + x) ≤ 1) {j : Nat} (hj : j < 12) : bt (rowB S y) j = S (12 * y + j) := by
  have := rowL_bt (f := fun x => S (12 * y + x)) (n := 12) (s := 0) (j := j) (fun i h0 h1 => h i h0 (by omega)) hj
  rw [Int.zero_add] at this
  exact this
theorem iZ_bv (n : Nat) : (iZ (n : Int)).toBitVec = BitVec.ofNat 32 n := by
  show BitVec.ofInt 32 (n : Int) = _
  exact BitVec.ofInt_natCast 32 n
theorem iZ_and (a b : Nat) : iZ (a : Int) &&& iZ (b : Int) = iZ ((a &&& b : Nat) : Int) := by
  apply Int32.toBitVec_inj.mp
  rw [Int32.toBitVec_and, iZ_bv, iZ_bv, iZ_bv]
  apply BitVec.eq_of_getLsbD_eq
  intro i hi
  rw [BitVec.getLsbD_and, BitVec.getLsbD_ofNat, BitVec.getLsbD_ofNat, BitVec.getLsbD_ofNat, Nat.testBit_and]
  simp [hi]
theorem iZ_or (a b : Nat) : iZ (a : Int) ||| iZ (b : Int) = iZ ((a ||| b : Nat) : Int) := by
  apply Int32.toBitVec_inj.mp
  rw [Int32.toBitVec_or, iZ_bv, iZ_bv, iZ_bv]
  apply BitVec.eq_of_getLsbD_eq
  intro i hi
  rw [BitVec.getLsbD_or, BitVec.getLsbD_ofNat, BitVec.getLsbD_ofNat, BitVec.getLsbD_ofNat, Nat.testBit_or]
  simp [hi]
theorem iZ_m1 : iZ (-1) = ~~~ (iZ 0) := by decide +kernel
theorem iZ_andn {a c : Nat} (ha : a < 4096) : iZ (a : Int) &&& (iZ (c : Int) ^^^ iZ (-1)) = iZ ((a &&& (4095 ^^^ c) : Nat) : Int) := by
  apply Int32.toBitVec_inj.mp
  rw [Int32.toBitVec_and, Int32.toBitVec_xor, iZ_m1, Int32.toBitVec_not, iZ_bv, iZ_bv, iZ_bv, show (iZ 0).toBitVec = BitVec.ofNat 32 0 from iZ_bv 0]
  apply BitVec.eq_of_getLsbD_eq
  intro i hi
  rw [BitVec.getLsbD_and, BitVec.getLsbD_xor, BitVec.getLsbD_not, BitVec.getLsbD_ofNat, BitVec.getLsbD_ofNat, BitVec.getLsbD_ofNat, BitVec.getLsbD_ofNat, Nat.testBit_and, Nat.testBit_xor]
  by_cases h : i < 12
  · have h5 : Nat.testBit 4095 i = true := by
      have : ∀ j : Fin 12, Nat.testBit 4095 j.val = true := by decide
      exact this ⟨i, h⟩
    rw [h5]
    cases a.testBit i <;> cases c.testBit i <;> simp [hi]
  · rw [Nat.testBit_lt_two_pow (x := a) (Nat.lt_of_lt_of_le (show a < 2 ^ 12 by omega) (Nat.pow_le_pow_right (by omega) (by omega)))]
    simp
def popc (c : Int) : Int := sm (fun j => bt c j) 12
def bcE (i : Int32) : Int32 :=
  let a := i - ((i.toUInt32 >>> 1).toInt32 &&& 1431655765)
  a
