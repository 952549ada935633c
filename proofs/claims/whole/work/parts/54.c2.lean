theorem w_min : Cond.static Lib.Math.min.name ∈ gTb ∧ Cond.initialized "java/lang/Math" ∈ gTb ∧ Cond.code Lib.Math.min.name Lib.Math.min.code 2 (some .int) ∈ gTb := ⟨g_tb 528 (by decide +kernel) (by decide +kernel), g_tb 18 (by decide +kernel) (by decide +kernel), g_tb 529 (by decide +kernel) (by decide +kernel)⟩
theorem w_abs : Cond.static Lib.Math.abs.name ∈ gTb ∧ Cond.initialized "java/lang/Math" ∈ gTb ∧ Cond.code Lib.Math.abs.name Lib.Math.abs.code 1 (some .int) ∈ gTb := ⟨g_tb 539 (by decide +kernel) (by decide +kernel), g_tb 18 (by decide +kernel) (by decide +kernel), g_tb 540 (by decide +kernel) (by decide +kernel)⟩
theorem w_ac : g_AC := ⟨g_tb 399 (by decide +kernel) (by decide +kernel), g_tb 398 (by decide +kernel) (by decide +kernel), g_tb 15 (by decide +kernel) (by decide +kernel)⟩
theorem laX5_30 : Cond.methodLink RX5 30 arraycopyName ∈ gTb := g_tb 397 (by decide +kernel) (by decide +kernel)
theorem laX3_97 : Cond.methodLink RX3 97 arraycopyName ∈ gTb := g_tb 677 (by decide +kernel) (by decide +kernel)
def zmin (a b : Int) : Int := if b < a then b else a
def zabs (a : Int) : Int := if 0 ≤ a then a else -a
section GQ
variable {w : g_W} {M : g_MD} {cs : Nat × Nat} {pc q : Nat} {ml : List (Option Value)} {st : List Value} {σ σ' : g_H0} {Φ : g_Post}
theorem z_min {idx : Nat} {x y : Int} (hl : Cond.methodLink M.1.cls idx Lib.Math.min.name ∈ gTb) (hd : decode M.2.1 pc = .ok (.invokestatic idx, 3)) (h : -2147483648 ≤ x ∧ x < 2147483648 ∧ -2147483648 ≤ y ∧ y < 2147483648) (hfr : 1 ≤ (g_rm M).frames) (hlo : (st.map Value.category).sum ≤ 8) (hlo2 : 21 ≤ (g_rm M).locals) (hc : cs.1 ≤ (g_rm M).cells) (hs : cs.2 ≤ (g_rm M).slots) (hq : pc + 3 = q) (k : Go w M cs q ml (.int (iZ (zmin x y)) :: st) σ Φ) : Go w M cs pc ml (.int (iZ y) :: .int (iZ x) :: st) σ Φ := by
  refine g_min hl w_min hd hfr hlo hlo2 hc hs hq ?_
  have : (if iZ y < iZ x then iZ y else iZ x) = iZ (zmin x y) := by
    unfold zmin
    by_cases e : y < x
    · rw [if_pos ((iZ_lt (by omega)).mpr e), if_pos e]
    · rw [if_neg (fun q => e ((iZ_lt (by omega)).mp q)), if_neg e]
  rw [this]; exact k
theorem z_abs {idx : Nat} {x : Int} (hl : Cond.methodLink M.1.cls idx Lib.Math.abs.name ∈ gTb) (hd : decode M.2.1 pc = .ok (.invokestatic idx, 3)) (h : -2147483647 ≤ x ∧ x < 2147483648) (hfr : 1 ≤ (g_rm M).frames) (hlo : (st.map Value.category).sum ≤ 8) (hlo2 : 21 ≤ (g_rm M).locals) (hc : cs.1 ≤ (g_rm M).cells) (hs : cs.2 ≤ (g_rm M).slots) (hq : pc + 3 = q) (k : Go w M cs q ml (.int (iZ (zabs x)) :: st) σ Φ) : Go w M cs pc ml (.int (iZ x) :: st) σ Φ := by
  refine g_abs hl w_abs hd hfr hlo hlo2 hc hs hq ?_
  have : (if 0 ≤ iZ x then iZ x else 0 - iZ x) = iZ (zabs x) := by
    unfold zabs
    rw [iZ_0]
    by_cases e : 0 ≤ x
    · rw [if_pos ((iZ_le (by omega)).mpr e), if_pos e]
    · rw [if_neg (fun q => e ((iZ_le (by omega)).mp q)), if_neg e, iZ_sub]
      congr 1; omega
  rw [this]; exact k
/-- n of a row, from its start, into another -/
theorem z_copy {idx a b n0 n1 : Nat} {f g : Int → Int} {n : Int} (hl : Cond.methodLink M.1.cls idx arraycopyName ∈ gTb) (hd : decode M.2.1 pc = .ok (.invokestatic idx, 3)) (hσ0 : σ[a]? = some (.inl (0, n0, .inl (zA f)))) (hσ1 : σ[b]? = some (.inl (0, n1, .inl (zA g)))) (hn : 0 ≤ n ∧ n ≤ n0 ∧ n ≤ n1 ∧ n < 2147483648) (hfr : 1 ≤ (g_rm M).frames) (hlo : (st.map Value.category).sum ≤ 8) (hlo2 : 26 ≤ (g_rm M).locals) (hq : pc + 3 = q)
    (k : ∀ σ' : g_H0, σ'[b]? = some (.inl (0, n1, .inl (zA (zcp g f 0 0 n)))) → g_Fr (fun c => c = b) σ σ' → Go w M cs q ml st σ' Φ) : Go w M cs pc ml (.int (iZ n) :: .int (iZ 0) :: .ref b :: .int (iZ 0) :: .ref a :: st) σ Φ := by
  have e0 : (iZ 0).toNatClampNeg = 0 := rfl
  have en : (iZ n).toNatClampNeg = n.toNat := iZ_clamp (by omega) (by omega)
  have nz : ¬ iZ n < 0 := by rw [iZ_0, iZ_lt (by omega)]; omega
  refine g_copy hl w_ac hd hσ0 hσ1 (by decide) (by decide) nz (by rw [e0, en]; omega) (by rw [e0, en]; omega) hfr hlo hlo2 rfl hq ?_
  have ef : va_cpy (zA f) (zA g) (iZ 0).toNatClampNeg (iZ 0).toNatClampNeg (iZ n).toNatClampNeg = zA (zcp g f 0 0 n) := by
    funext j
    rw [e0, en]
    unfold va_cpy zA zcp
    by_cases h : j < n.toNat
    · rw [if_pos (by omega), if_pos (by omega)]
      congr 2; omega
    · rw [if_neg (by omega), if_neg (by omega)]
  rw [ef]
  exact k _ (List.getElem?_set_self (List.getElem?_eq_some_iff.mp hσ1).1) (g_Fr.set rfl)
end GQ
/-! a Job, a State -/
def rJob (b : Nat) (T : Int → Int) (σ : g_H0) : Prop :=
  σ[b]? = some (.inr (2, [.ref (b + 1), .ref (b + 2), .ref (b + 3), .ref (b + 4), .int (iZ (T 2)), .int (iZ (T 3)), .int (iZ (T 4))])) ∧
  σ[b + 1]? = some (.inr (0, [.int (iZ 0), .int (iZ 0), .int (iZ (T 0)), .int (iZ (T 1))])) ∧
  (∃ f : Nat → Option Nat, σ[b + 2]? = some (.inl (3, 6, .inr (.inr (.inr (.inr f))))) ∧ ∀ k, k < 6 → f k = some (b + 5 + k)) ∧
  (∃ f : Nat → Option Nat, σ[b + 3]? = some (.inl (4, 5, .inr (.inr (.inr (.inr f))))) ∧ ∀ k, k < 5 → f k = some (b + 11 + k)) ∧
  (∃ C : Int → Int, σ[b + 4]? = some (.inl (0, 2, .inl (zA C))) ∧ ∀ c, 0 ≤ c → c < T 4 → C c = T (c + 49)) ∧
  (∀ k : Nat, k < 6 → ∃ x y l c : Int, σ[b + 5 + k]? = some (.inr (7, [.int (iZ x), .int (iZ y), .int (iZ l), .int (iZ c)])) ∧ ((k : Int) < T 2 → x = T (4 * k + 5) ∧ y = T (4 * k + 6) ∧ l = T (4 * k + 8) ∧ c = T (4 * k + 7))) ∧
  (∀ k : Nat, k < 5 → ∃ x y wd hg : Int, σ[b + 11 + k]? = some (.inr (0, [.int (iZ x), .int (iZ y), .int (iZ wd), .int (iZ hg)])) ∧ ((k : Int) < T 3 → x = T (4 * k + 29) ∧ y = T (4 * k + 30) ∧ wd = T (4 * k + 31) ∧ hg = T (4 * k + 32)))
theorem rJob.fr {b : Nat} {T : Int → Int} {σ σ' : g_H0} (h : rJob b T σ) (e : ∀ k, b ≤ k → k < b + 16 → σ'[k]? = σ[k]?) : rJob b T σ' := by
  obtain ⟨h1, h2, ⟨f, h3, h3'⟩, ⟨g, h4, h4'⟩, ⟨C, h5, h5'⟩, h6, h7⟩ := h
  refine ⟨(e _ (by omega) (by omega)).trans h1, (e _ (by omega) (by omega)).trans h2, ⟨f, (e _ (by omega) (by omega)).trans h3, h3'⟩, ⟨g, (e _ (by omega) (by omega)).trans h4, h4'⟩, ⟨C, (e _ (by omega) (by omega)).trans h5, h5'⟩, fun k hk => ?_, fun k hk => ?_⟩
  · obtain ⟨x, y, l, c, q1, q2⟩ := h6 k hk
    exact ⟨x, y, l, c, (e _ (by omega) (by omega)).trans q1, q2⟩
  · obtain ⟨x, y, l, c, q1, q2⟩ := h7 k hk
    exact ⟨x, y, l, c, (e _ (by omega) (by omega)).trans q1, q2⟩
theorem rJob.tool {b : Nat} {T : Int → Int} {σ : g_H0} (h : rJob b T σ) {s : Int} (h0 : 0 ≤ s) (h1 : s < T 2) (h2 : T 2 ≤ 6) : ∃ f : Nat → Option Nat, σ[b + 2]? = some (.inl (3, 6, .inr (.inr (.inr (.inr f))))) ∧ f s.toNat = some (b + 5 + s.toNat) ∧ σ[b + 5 + s.toNat]? = some (.inr (7, [.int (iZ (T (4 * s + 5))), .int (iZ (T (4 * s + 6))), .int (iZ (T (4 * s + 8))), .int (iZ (T (4 * s + 7)))])) := by
  obtain ⟨n, rfl⟩ := Int.eq_ofNat_of_zero_le h0
  obtain ⟨-, -, ⟨f, h3, h3'⟩, -, -, h6, -⟩ := h
  obtain ⟨x, y, l, c, q1, q2⟩ := h6 n (by omega)
  obtain ⟨rfl, rfl, rfl, rfl⟩ := q2 h1
  exact ⟨f, h3, h3' n (by omega), q1⟩
theorem rJob.hole {b : Nat} {T : Int → Int} {σ : g_H0} (h : rJob b T σ) {s : Int} (h0 : 0 ≤ s) (h1 : s < T 3) (h2 : T 3 ≤ 5) : ∃ f : Nat → Option Nat, σ[b + 3]? = some (.inl (4, 5, .inr (.inr (.inr (.inr f))))) ∧ f s.toNat = some (b + 11 + s.toNat) ∧ σ[b + 11 + s.toNat]? = some (.inr (0, [.int (iZ (T (4 * s + 29))), .int (iZ (T (4 * s + 30))), .int (iZ (T (4 * s + 31))), .int (iZ (T (4 * s + 32)))])) := by
  obtain ⟨n, rfl⟩ := Int.eq_ofNat_of_zero_le h0
  obtain ⟨-, -, -, ⟨f, h3, h3'⟩, -, -, h6⟩ := h
  obtain ⟨x, y, l, c, q1, q2⟩ := h6 n (by omega)
  obtain ⟨rfl, rfl, rfl, rfl⟩ := q2 h1
  exact ⟨f, h3, h3' n (by omega), q1⟩
def rSt (b : Nat) (T S : Int → Int) (σ : g_H0) : Prop :=
  σ[b]? = some (.inr (5, [.ref (b + 1), .ref (b + 2), .ref (b + 3), .int (iZ (S 150)), .int (iZ (S 153)), .int (iZ (S 154)), .int (iZ (S 155))])) ∧
  ∃ C W K : Int → Int, σ[b + 1]? = some (.inl (0, 12, .inl (zA C))) ∧ σ[b + 2]? = some (.inl (0, 6, .inl (zA W))) ∧ σ[b + 3]? = some (.inl (0, 2, .inl (zA K))) ∧
    (∀ y, 0 ≤ y → y < 12 → C y = rowB S y) ∧ (∀ k, 0 ≤ k → k < 6 → W k = S (k + 144)) ∧ (∀ c, 0 ≤ c → c < T 4 → K c = S (c + 151))
theorem rSt.fr {b : Nat} {T S : Int → Int} {σ σ' : g_H0} (h : rSt b T S σ) (e : ∀ k, b ≤ k → k < b + 4 → σ'[k]? = σ[k]?) : rSt b T S σ' := by
  obtain ⟨h1, C, W, K, h2, h3, h4, h5⟩ := h
  exact ⟨(e _ (by omega) (by omega)).trans h1, C, W, K, (e _ (by omega) (by omega)).trans h2, (e _ (by omega) (by omega)).trans h3, (e _ (by omega) (by omega)).trans h4, h5⟩
theorem rowL_congr {f g : Int → Int} : ∀ {n : Nat} {s : Int}, (∀ i, s ≤ i → i < s + n → f i = g i) → rowL f s n = rowL g s n
  | 0, s, _ => rfl
  | n + 1, s, h => by
    unfold rowL
    rw [h s (by omega) (by omega), rowL_congr (fun i h0 h1 => h i (by omega) (by omega))]
theorem rowB_congr {S S' : Int → Int} {y : Int} (h : ∀ x, 0 ≤ x → x < 12 → S (12 * y + x) = S' (12 * y + x)) : rowB S y = rowB S' y := rowL_congr (fun i h0 h1 => h i h0 (by omega))
theorem rSt.congr {b : Nat} {T S S' : Int → Int} {σ : g_H0} (h : rSt b T S σ) (hT : T 4 ≤ 2) (e : ∀ j, 0 ≤ j → j < 156 → S j = S' j) : rSt b T S' σ := by
  obtain ⟨h1, C, W, K, h2, h3, h4, h5, h6, h7⟩ := h
  rw [e 150 (by omega) (by omega), e 153 (by omega) (by omega), e 154 (by omega) (by omega), e 155 (by omega) (by omega)] at h1
  exact ⟨h1, C, W, K, h2, h3, h4, fun y y0 y1 => (h5 y y0 y1).trans (rowB_congr (fun x x0 x1 => e _ (by omega) (by omega))), fun k k0 k1 => (h6 k k0 k1).trans (e _ (by omega) (by omega)), fun c c0 c1 => (h7 c c0 c1).trans (e _ (by omega) (by omega))⟩
/-- a State, whatever it holds -/
def rS0 (b : Nat) (σ : g_H0) : Prop := ∃ (h1 h2 h3 h4 : Int) (C W K : Int → Int), σ[b]? = some (.inr (5, [.ref (b + 1), .ref (b + 2), .ref (b + 3), .int (iZ h1), .int (iZ h2), .int (iZ h3), .int (iZ h4)])) ∧ σ[b + 1]? = some (.inl (0, 12, .inl (zA C))) ∧ σ[b + 2]? = some (.inl (0, 6, .inl (zA W))) ∧ σ[b + 3]? = some (.inl (0, 2, .inl (zA K)))
theorem rSt.s0 {b : Nat} {T S : Int → Int} {σ : g_H0} (h : rSt b T S σ) : rS0 b σ := by
  obtain ⟨h1, C, W, K, h2, h3, h4, -⟩ := h
  exact ⟨_, _, _, _, C, W, K, h1, h2, h3, h4⟩
theorem rS0.fr {b : Nat} {σ σ' : g_H0} (h : rS0 b σ) (e : ∀ k, b ≤ k → k < b + 4 → σ'[k]? = σ[k]?) : rS0 b σ' := by
  obtain ⟨a1, a2, a3, a4, C, W, K, h1, h2, h3, h4⟩ := h
  exact ⟨a1, a2, a3, a4, C, W, K, (e _ (by omega) (by omega)).trans h1, (e _ (by omega) (by omega)).trans h2, (e _ (by omega) (by omega)).trans h3, (e _ (by omega) (by omega)).trans h4⟩
/-! bits and CELLS -/
def rowU (S : Int → Int) (y x w : Int) : Int := sm (fun i => 1 - S (12 * y + (x + i))) w.toNat
def unM (x w c : Int) : Nat := (rb x w).toNat &&& (4095 ^^^ c.toNat)
theorem rb_b0 : ∀ x : Nat, x < 13 → ∀ w : Nat, w < 13 → x + w ≤ 12 → 0 ≤ rb (x : Int) (w : Int) ∧ rb (x : Int) (w : Int) < 4096 := by decide +kernel
theorem rb_t0 : ∀ x : Nat, x < 13 → ∀ w : Nat, w < 13 → ∀ j : Nat, j < 12 → x + w ≤ 12 → (rb (x : Int) (w : Int)).toNat.testBit j = decide (x ≤ j ∧ j < x + w) := by decide +kernel
theorem and_2pow (c n : Nat) : c &&& 2 ^ n = (c.testBit n).toNat * 2 ^ n := by
  apply Nat.eq_of_testBit_eq
  intro i
  rw [Nat.testBit_and, Nat.testBit_two_pow]
  cases h : c.testBit n
  · rw [show (false.toNat * 2 ^ n) = 0 by simp, Nat.zero_testBit]
    by_cases e : n = i
    · subst e; rw [h]; rfl
    · simp [e]
  · rw [show (true.toNat * 2 ^ n) = 2 ^ n by simp, Nat.testBit_two_pow]
    by_cases e : n = i
    · subst e; rw [h]; simp
    · simp [e]
theorem rb_b {x w : Int} (h : 0 ≤ x ∧ 0 ≤ w ∧ x + w ≤ 12) : 0 ≤ rb x w ∧ rb x w < 4096 ∧ ∀ j : Nat, j < 12 → ((rb x w).toNat.testBit j = true ↔ x ≤ j ∧ j < x + w) := by
  obtain ⟨n, rfl⟩ := Int.eq_ofNat_of_zero_le h.1
  obtain ⟨m, rfl⟩ := Int.eq_ofNat_of_zero_le h.2.1
  have := rb_b0 n (by omega) m (by omega) (by omega)
  exact ⟨this.1, this.2, fun j hj => by rw [rb_t0 n (by omega) m (by omega) j hj (by omega), decide_eq_true_eq]; omega⟩
theorem bw_unc {x w c : Int} (h : 0 ≤ x ∧ 0 ≤ w ∧ x + w ≤ 12) (hc : 0 ≤ c ∧ c < 4096) : iZ (rb x w) &&& (iZ c ^^^ iZ (-1)) = iZ ((unM x w c : Nat) : Int) ∧ unM x w c < 4096 := by
  have b := rb_b h
  have e1 : rb x w = ((rb x w).toNat : Int) := by omega
  have e2 : c = (c.toNat : Int) := by omega
  have h4 : (rb x w).toNat < 4096 := by omega
  constructor
  · conv => lhs; rw [e1, e2]
    exact iZ_andn h4
  · exact Nat.lt_of_le_of_lt Nat.and_le_left h4
theorem popc_un {x w c : Int} (h : 0 ≤ x ∧ 0 ≤ w ∧ x + w ≤ 12) (hc : 0 ≤ c ∧ c < 4096) : popc ((unM x w c : Nat) : Int) = sm (fun i => 1 - bt c (x + i)) w.toNat := by
  have b := rb_b h
  unfold popc
  have key : ∀ j : Nat, j < 12 → bt ((unM x w c : Nat) : Int) (j : Int) = if x ≤ j ∧ j < x + w then 1 - bt c j else 0 := by
    intro j hj
    rw [bt_nat]
    unfold unM
    rw [Nat.testBit_and, Nat.testBit_xor]
    have h5 : Nat.testBit 4095 j = true := by
      have : ∀ j : Fin 12, Nat.testBit 4095 j.val = true := by decide
      exact this ⟨j, hj⟩
    rw [h5]
    have e2 : bt c j = ((c.toNat.testBit j).toNat : Nat) := by
      have := bt_nat c.toNat j
      rwa [Int.toNat_of_nonneg hc.1] at this
    rw [e2]
    by_cases e : x ≤ j ∧ j < x + w
    · rw [if_pos e, (b.2.2 j hj).mpr e]
      cases c.toNat.testBit j <;> rfl
    · rw [if_neg e]
      have : (rb x w).toNat.testBit j = false := by
        cases q : (rb x w).toNat.testBit j
        · rfl
        · exact absurd ((b.2.2 j hj).mp q) e
      rw [this]; rfl
  obtain ⟨n, rfl⟩ := Int.eq_ofNat_of_zero_le h.1
  obtain ⟨m, rfl⟩ := Int.eq_ofNat_of_zero_le h.2.1
  refine sm_win (x := n) (w := m) (by omega) (fun i i0 i1 => ?_) (fun i i0 i1 i2 => ?_)
  · obtain ⟨k, rfl⟩ := Int.eq_ofNat_of_zero_le i0
    have := key (n + k) (by omega)
    rw [if_pos (by push_cast; omega)] at this
    exact_mod_cast this
  · obtain ⟨k, rfl⟩ := Int.eq_ofNat_of_zero_le i0
    have := key k (by omega)
    rw [if_neg (by omega)] at this
    exact this
theorem row_un {S : Int → Int} {y x w : Int} (hS : ∀ z, 0 ≤ z → z < 12 → 0 ≤ S (12 * y + z) ∧ S (12 * y + z) ≤ 1) (h : 0 ≤ x ∧ 0 ≤ w ∧ x + w ≤ 12) : popc ((unM x w (rowB S y) : Nat) : Int) = rowU S y x w := by
  rw [popc_un h (rowB_b hS)]
  unfold rowU
  refine sm_congr (fun i i0 i1 => ?_)
  have := rowB_bt hS (j := (x + i).toNat) (by omega)
  rw [Int.toNat_of_nonneg (by omega)] at this
  rw [this]
theorem row_pop {S : Int → Int} {y : Int} (hS : ∀ z, 0 ≤ z → z < 12 → 0 ≤ S (12 * y + z) ∧ S (12 * y + z) ≤ 1) : popc (rowB S y) = sm (fun i => S (12 * y + i)) 12 := by
  unfold popc
  refine sm_congr (fun i i0 i1 => ?_)
  obtain ⟨k, rfl⟩ := Int.eq_ofNat_of_zero_le i0
  exact rowB_bt hS (by omega)
/-- the CELLS of a row, from x on, are cut -/
def boM (x w c : Int) : Nat := c.toNat ||| (rb x w).toNat
theorem bw_or {x w c : Int} (h : 0 ≤ x ∧ 0 ≤ w ∧ x + w ≤ 12) (hc : 0 ≤ c ∧ c < 4096) : iZ c ||| iZ (rb x w) = iZ ((boM x w c : Nat) : Int) ∧ boM x w c < 4096 := by
  have b := rb_b h
  have e1 : rb x w = ((rb x w).toNat : Int) := by omega
  have e2 : c = (c.toNat : Int) := by omega
  constructor
  · conv => lhs; rw [e1, e2]
    exact iZ_or _ _
  · have : c.toNat ||| (rb x w).toNat < 2 ^ 12 := Nat.or_lt_two_pow (by omega) (by omega)
    exact this
theorem bo_bt {x w c : Int} (h : 0 ≤ x ∧ 0 ≤ w ∧ x + w ≤ 12) (hc : 0 ≤ c ∧ c < 4096) {j : Nat} (hj : j < 12) : bt ((boM x w c : Nat) : Int) j = if x ≤ j ∧ j < x + w then 1 else bt c j := by
  have b := rb_b h
  rw [bt_nat]
  unfold boM
  rw [Nat.testBit_or]
  have e2 : bt c j = ((c.toNat.testBit j).toNat : Nat) := by
    have := bt_nat c.toNat j
    rwa [Int.toNat_of_nonneg hc.1] at this
  by_cases e : x ≤ j ∧ j < x + w
  · rw [if_pos e, (b.2.2 j hj).mpr e]
    cases c.toNat.testBit j <;> rfl
  · rw [if_neg e, e2]
    have : (rb x w).toNat.testBit j = false := by
      cases q : (rb x w).toNat.testBit j
      · rfl
      · exact absurd ((b.2.2 j hj).mp q) e
    rw [this, Bool.or_false]
/-- n rows of CELLS from (x, y) on, so wide, are cut -/
def strR (S : Int → Int) (x y w n : Int) : Int → Int := fun j => if (0 ≤ j ∧ j < 144) ∧ (y ≤ j / 12 ∧ j / 12 < y + n) ∧ (x ≤ j % 12 ∧ j % 12 < x + w) then 1 else S j
theorem strR_0 (S : Int → Int) (x y w : Int) : strR S x y w 0 = S := by
  funext j
  exact if_neg (by omega)
theorem strR_row {S : Int → Int} {x y w n r : Int} (hS : ∀ c, 0 ≤ c → c < 144 → 0 ≤ S c ∧ S c ≤ 1) (h : 0 ≤ x ∧ 0 ≤ w ∧ x + w ≤ 12) (hr : 0 ≤ r ∧ r < 12) (hy : 0 ≤ y ∧ 0 ≤ n ∧ y + n < 12) : rowB (strR S x y w (n + 1)) r = if r = y + n then ((boM x w (rowB (strR S x y w n) r) : Nat) : Int) else rowB (strR S x y w n) r := by
  have h01 : ∀ m, ∀ z, 0 ≤ z → z < 12 → 0 ≤ strR S x y w m (12 * r + z) ∧ strR S x y w m (12 * r + z) ≤ 1 := by
    intro m z z0 z1
    unfold strR
    have := hS (12 * r + z) (by omega) (by omega)
    split <;> omega
  by_cases e : r = y + n
  · rw [if_pos e]
    have hb := rowB_b (h01 n)
    refine bt_ext (rowB_b (h01 (n + 1))) (by have := (bw_or h hb).2; omega) (fun j hj => ?_)
    rw [rowB_bt (h01 (n + 1)) hj, bo_bt h hb hj, rowB_bt (h01 n) hj]
    unfold strR
    have e1 : (12 * r + (j : Int)) / 12 = r := by omega
    have e2 : (12 * r + (j : Int)) % 12 = j := by omega
    rw [e1, e2]
    by_cases q : x ≤ (j : Int) ∧ (j : Int) < x + w
    · rw [if_pos (by omega), if_pos q]
    · rw [if_neg (by omega), if_neg q, if_neg (by omega)]
  · rw [if_neg e]
    refine rowB_congr (fun z z0 z1 => ?_)
    unfold strR
    have e1 : (12 * r + z) / 12 = r := by omega
    have e2 : (12 * r + z) % 12 = z := by omega
    rw [e1, e2]
    by_cases q : (0 ≤ 12 * r + z ∧ 12 * r + z < 144) ∧ (y ≤ r ∧ r < y + n) ∧ (x ≤ z ∧ z < x + w)
    · rw [if_pos (by omega), if_pos q]
    · rw [if_neg (by omega), if_neg q]
theorem bw_cell0 : ∀ n : Nat, n < 12 → iZ 1 <<< (iZ (n : Int) &&& 31) = iZ ((2 ^ n : Nat) : Int) := by decide +kernel
theorem bw_cell {c x : Int} (hc : 0 ≤ c ∧ c < 4096) (hx : 0 ≤ x ∧ x < 12) : iZ c &&& (iZ 1 <<< (iZ x &&& 31)) = iZ (bt c x * pw x) ∧ (0 ≤ bt c x * pw x ∧ bt c x * pw x < 4096) ∧ (bt c x * pw x = 0 ↔ bt c x = 0) := by
  obtain ⟨n, rfl⟩ := Int.eq_ofNat_of_zero_le hx.1
  have e2 : c = (c.toNat : Int) := by omega
  have hp : (1 : Int) ≤ pw (n : Int) ∧ pw (n : Int) < 4096 := by
    have : ∀ n : Nat, n < 12 → (1 : Int) ≤ pw (n : Int) ∧ pw (n : Int) < 4096 := by decide +kernel
    exact this n (by omega)
  have h01 := bt_01 c n
  refine ⟨?_, ?_, ?_⟩
  · rw [bw_cell0 n (by omega)]
    conv => lhs; rw [e2]
    rw [iZ_and, and_2pow]
    have := bt_nat c.toNat n
    rw [Int.toNat_of_nonneg hc.1] at this
    rw [this, pw_of]
    push_cast; rfl
  · rcases (by omega : bt c n = 0 ∨ bt c n = 1) with e | e <;> rw [e] <;> omega
  · rcases (by omega : bt c n = 0 ∨ bt c n = 1) with e | e <;> rw [e] <;> omega
