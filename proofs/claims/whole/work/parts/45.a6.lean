theorem mSeq1_nz {r : Int × Int × (Int → Int)} {k : Int → (Int → Int) → Int × Int × (Int → Int)} (h : (mSeq1 r k).1 ≠ 0) : r.1 ≠ 0 ∧ mSeq1 r k = k r.2.1 r.2.2 := by
  by_cases e : r.1 = 0
  · unfold mSeq1 at h; rw [if_pos e] at h; exact absurd rfl h
  · exact ⟨e, if_neg e⟩
theorem pR_sheet {R : Int → Int} (h : pR R) (h0 : R 0 = 0) {a b : Int} (ha : 3 ≤ a ∧ a ≤ 12) (hb : 3 ≤ b ∧ b ≤ 12) : pR (zup (zup R 0 a) 1 b) := by
  obtain ⟨h1, h2, h3, h4, h5, h6, h7, h8, h9, h10⟩ := h
  have e : R 2 = 0 ∧ R 3 = 0 ∧ R 4 = 0 := by omega
  refine ⟨(h1.up 0 (by omega)).up 1 (by omega), Or.inr ⟨ha, hb⟩, h3, h4, h5, fun k k0 k1 => ?_, fun k k0 k1 => ?_, fun k o o0 o1 k1 => ?_, fun k k0 k1 => ?_, fun k1 => ?_⟩
  · exact absurd k1 (by show ¬ k < R 2; omega)
  · exact absurd k1 (by show ¬ k < R 3; omega)
  · exact absurd k1 (by show ¬ k < R 3; omega)
  · exact absurd k1 (by show ¬ k < R 4; omega)
  · exact absurd k1 (by show ¬ R 4 = 2; omega)
theorem zup5 (R : Int → Int) {n i x a b c d : Int} (hn : n < i) : ∃ R' : Int → Int, R' = zup (zup (zup (zup (zup R n x) i a) (i + 1) b) (i + 2) c) (i + 3) d ∧ R' n = x ∧ R' i = a ∧ R' (i + 1) = b ∧ R' (i + 2) = c ∧ R' (i + 3) = d ∧ ∀ j, j ≠ n → (j < i ∨ i + 4 ≤ j) → R' j = R j := by
  refine ⟨_, rfl, ?_, ?_, ?_, ?_, ?_, ?_⟩
  · rw [zup_ne _ _ (by omega), zup_ne _ _ (by omega), zup_ne _ _ (by omega), zup_ne _ _ (by omega), zup_self]
  · rw [zup_ne _ _ (by omega), zup_ne _ _ (by omega), zup_ne _ _ (by omega), zup_self]
  · rw [zup_ne _ _ (by omega), zup_ne _ _ (by omega), zup_self]
  · rw [zup_ne _ _ (by omega), zup_self]
  · rw [zup_self]
  · intro j h1 h2
    rw [zup_ne _ _ (by omega), zup_ne _ _ (by omega), zup_ne _ _ (by omega), zup_ne _ _ (by omega), zup_ne _ _ h1]
theorem pR_tool {R : Int → Int} (h : pR R) (h0 : R 0 ≠ 0) (h2' : R 2 < 6) {a b c d : Int} (ha : 1 ≤ a ∧ a ≤ 6) (hb : 1 ≤ b ∧ b ≤ 6) (hc : 0 ≤ c ∧ c ≤ 1) (hd : 1 ≤ d ∧ d ≤ 99) : pR (zup (zup (zup (zup (zup R 2 (R 2 + 1)) (4 * R 2 + 5) a) (4 * R 2 + 5 + 1) b) (4 * R 2 + 5 + 2) c) (4 * R 2 + 5 + 3) d) := by
  obtain ⟨h1, h2, h3, h4, h5, h6, h7, h8, h9, h10⟩ := h
  have hb' := ((((h1.up 2 (x := R 2 + 1) (by omega)).up (4 * R 2 + 5) (x := a) (by omega)).up (4 * R 2 + 5 + 1) (x := b) (by omega)).up (4 * R 2 + 5 + 2) (x := c) (by omega)).up (4 * R 2 + 5 + 3) (x := d) (by omega)
  obtain ⟨R', e, e2, ea, eb, ec, ed, out⟩ := zup5 R (n := 2) (i := 4 * R 2 + 5) (x := R 2 + 1) (a := a) (b := b) (c := c) (d := d) (by omega)
  rw [← e] at hb' ⊢
  have o0 := out 0 (by omega) (by omega)
  have o1 := out 1 (by omega) (by omega)
  have o3 := out 3 (by omega) (by omega)
  have o4 := out 4 (by omega) (by omega)
  refine ⟨hb', by omega, by omega, by omega, by omega, fun k k0 k1 => ?_, fun k k0 k1 => ?_, fun k o oo0 oo1 k1 => ?_, fun k k0 k1 => ?_, fun k1 => ?_⟩
  · by_cases hk : k = R 2
    · subst hk
      rw [show 4 * R 2 + 6 = 4 * R 2 + 5 + 1 by omega, show 4 * R 2 + 7 = 4 * R 2 + 5 + 2 by omega, show 4 * R 2 + 8 = 4 * R 2 + 5 + 3 by omega, ea, eb, ec, ed]
      exact ⟨ha, hb, hc, hd⟩
    · rw [out _ (by omega) (by omega), out _ (by omega) (by omega), out _ (by omega) (by omega), out _ (by omega) (by omega)]
      exact h6 k k0 (by omega)
  · have := h7 k k0 (by omega)
    rw [out (4 * k + 29) (by omega) (by omega), out (4 * k + 30) (by omega) (by omega), out (4 * k + 31) (by omega) (by omega), out (4 * k + 32) (by omega) (by omega), o0, o1]
    exact this
  · rw [out (4 * k + 29) (by omega) (by omega), out (4 * k + 30) (by omega) (by omega), out (4 * k + 31) (by omega) (by omega), out (4 * k + 32) (by omega) (by omega), out (4 * o + 29) (by omega) (by omega), out (4 * o + 30) (by omega) (by omega), out (4 * o + 31) (by omega) (by omega), out (4 * o + 32) (by omega) (by omega)]
    exact h8 k o oo0 oo1 (by omega)
  · rw [out (k + 49) (by omega) (by omega), o0]
    exact h9 k k0 (by omega)
  · rw [out 49 (by omega) (by omega), out 50 (by omega) (by omega)]
    exact h10 (by omega)
theorem mApF_t {R : Int → Int} {h : Int} : ∀ {n : Nat} {o l : Int}, mApF R h n o l ≠ 0 → ∀ q, o ≤ q → q < o + n → mAp R h q = 1
  | 0, o, l, _, q, q0, q1 => by omega
  | n + 1, o, l, hh, q, q0, q1 => by
    unfold mApF at hh
    by_cases e : l = 0
    · rw [if_pos e] at hh; exact absurd rfl hh
    · rw [if_neg e] at hh
      by_cases e2 : q = o
      · subst e2
        by_cases e3 : mAp R h q = 0
        · exfalso
          rw [e3] at hh
          cases n with
          | zero => exact hh rfl
          | succ n => unfold mApF at hh; rw [if_pos rfl] at hh; exact hh rfl
        · have : 0 ≤ mAp R h q ∧ mAp R h q ≤ 1 := by unfold mAp; split <;> omega
          omega
      · exact mApF_t hh q (by omega) (by omega)
theorem pR_hole {R : Int → Int} (h : pR R) (h0 : R 0 ≠ 0) (h2' : R 3 < 5) {a b c d : Int} (ha : 0 ≤ a ∧ a ≤ R 0 - 1) (hb : 0 ≤ b ∧ b ≤ R 1 - 1) (hc : 1 ≤ c ∧ c ≤ R 0 - a) (hd : 1 ≤ d ∧ d ≤ R 1 - b)
    (hap : ∀ o, 0 ≤ o → o < R 3 → mAp (zup (zup (zup (zup (zup R 3 (R 3 + 1)) (4 * R 3 + 29) a) (4 * R 3 + 29 + 1) b) (4 * R 3 + 29 + 2) c) (4 * R 3 + 29 + 3) d) (R 3) o = 1) : pR (zup (zup (zup (zup (zup R 3 (R 3 + 1)) (4 * R 3 + 29) a) (4 * R 3 + 29 + 1) b) (4 * R 3 + 29 + 2) c) (4 * R 3 + 29 + 3) d) := by
  obtain ⟨h1, h2, h3, h4, h5, h6, h7, h8, h9, h10⟩ := h
  have hb' := ((((h1.up 3 (x := R 3 + 1) (by omega)).up (4 * R 3 + 29) (x := a) (by omega)).up (4 * R 3 + 29 + 1) (x := b) (by omega)).up (4 * R 3 + 29 + 2) (x := c) (by omega)).up (4 * R 3 + 29 + 3) (x := d) (by omega)
  obtain ⟨R', e, e2, ea, eb, ec, ed, out⟩ := zup5 R (n := 3) (i := 4 * R 3 + 29) (x := R 3 + 1) (a := a) (b := b) (c := c) (d := d) (by omega)
  rw [← e] at hb' hap ⊢
  have o0 := out 0 (by omega) (by omega)
  have o1 := out 1 (by omega) (by omega)
  have o3 := out 2 (by omega) (by omega)
  have o4 := out 4 (by omega) (by omega)
  refine ⟨hb', by omega, by omega, by omega, by omega, fun k k0 k1 => ?_, fun k k0 k1 => ?_, fun k o oo0 oo1 k1 => ?_, fun k k0 k1 => ?_, fun k1 => ?_⟩
  · rw [out _ (by omega) (by omega), out _ (by omega) (by omega), out _ (by omega) (by omega), out _ (by omega) (by omega)]
    exact h6 k k0 (by omega)
  · by_cases hk : k = R 3
    · subst hk
      rw [show 4 * R 3 + 30 = 4 * R 3 + 29 + 1 by omega, show 4 * R 3 + 31 = 4 * R 3 + 29 + 2 by omega, show 4 * R 3 + 32 = 4 * R 3 + 29 + 3 by omega, ea, eb, ec, ed]
      omega
    · have := h7 k k0 (by omega)
      rw [out (4 * k + 29) (by omega) (by omega), out (4 * k + 30) (by omega) (by omega), out (4 * k + 31) (by omega) (by omega), out (4 * k + 32) (by omega) (by omega), o0, o1]
      exact this
  · by_cases hk : k = R 3
    · have q := hap o oo0 (by omega)
      rw [← hk] at q
      unfold mAp at q
      by_cases q2 : R' (4 * k + 29) + R' (4 * k + 31) ≤ R' (4 * o + 29) ∨ R' (4 * o + 29) + R' (4 * o + 31) ≤ R' (4 * k + 29) ∨ R' (4 * k + 30) + R' (4 * k + 32) ≤ R' (4 * o + 30) ∨ R' (4 * o + 30) + R' (4 * o + 32) ≤ R' (4 * k + 30)
      · exact q2
      · rw [if_neg q2] at q; omega
    · rw [out (4 * k + 29) (by omega) (by omega), out (4 * k + 30) (by omega) (by omega), out (4 * k + 31) (by omega) (by omega), out (4 * k + 32) (by omega) (by omega), out (4 * o + 29) (by omega) (by omega), out (4 * o + 30) (by omega) (by omega), out (4 * o + 31) (by omega) (by omega), out (4 * o + 32) (by omega) (by omega)]
      exact h8 k o oo0 oo1 (by omega)
  · rw [out (k + 49) (by omega) (by omega), o0]
    exact h9 k k0 (by omega)
  · rw [out 49 (by omega) (by omega), out 50 (by omega) (by omega)]
    exact h10 (by omega)
theorem pR_clamp {R : Int → Int} (h : pR R) (h0 : R 0 ≠ 0) (h2' : R 4 < 2) {a : Int} (ha : 0 ≤ a ∧ a ≤ R 0 - 2) (hap : R 4 = 0 ∨ 1 < a - R 49 ∨ 1 < R 49 - a) : pR (zup (zup R 4 (R 4 + 1)) (R 4 + 49) a) := by
  obtain ⟨h1, h2, h3, h4, h5, h6, h7, h8, h9, h10⟩ := h
  have hb' := (h1.up 4 (x := R 4 + 1) (by omega)).up (R 4 + 49) (x := a) (by omega)
  have out : ∀ j, j ≠ 4 → j ≠ R 4 + 49 → zup (zup R 4 (R 4 + 1)) (R 4 + 49) a j = R j := fun j j0 j1 => by rw [zup_ne _ _ j1, zup_ne _ _ j0]
  have ea : zup (zup R 4 (R 4 + 1)) (R 4 + 49) a (R 4 + 49) = a := zup_self _ _ _
  have e2 : zup (zup R 4 (R 4 + 1)) (R 4 + 49) a 4 = R 4 + 1 := by rw [zup_ne _ _ (by omega), zup_self]
  generalize zup (zup R 4 (R 4 + 1)) (R 4 + 49) a = R' at hb' out ea e2 ⊢
  have o0 := out 0 (by omega) (by omega)
  have o1 := out 1 (by omega) (by omega)
  have o3 := out 2 (by omega) (by omega)
  have o4 := out 3 (by omega) (by omega)
  refine ⟨hb', by omega, by omega, by omega, by omega, fun k k0 k1 => ?_, fun k k0 k1 => ?_, fun k o oo0 oo1 k1 => ?_, fun k k0 k1 => ?_, fun k1 => ?_⟩
  · rw [out _ (by omega) (by omega), out _ (by omega) (by omega), out _ (by omega) (by omega), out _ (by omega) (by omega)]
    exact h6 k k0 (by omega)
  · have := h7 k k0 (by omega)
    rw [out (4 * k + 29) (by omega) (by omega), out (4 * k + 30) (by omega) (by omega), out (4 * k + 31) (by omega) (by omega), out (4 * k + 32) (by omega) (by omega), o0, o1]
    exact this
  · rw [out (4 * k + 29) (by omega) (by omega), out (4 * k + 30) (by omega) (by omega), out (4 * k + 31) (by omega) (by omega), out (4 * k + 32) (by omega) (by omega), out (4 * o + 29) (by omega) (by omega), out (4 * o + 30) (by omega) (by omega), out (4 * o + 31) (by omega) (by omega), out (4 * o + 32) (by omega) (by omega)]
    exact h8 k o oo0 oo1 (by omega)
  · by_cases hk : k = R 4
    · subst hk
      rw [ea, o0]; exact ha
    · rw [out (k + 49) (by omega) (by omega), o0]
      exact h9 k k0 (by omega)
  · have e : R 4 = 1 := by omega
    rw [e] at ea
    have ea : R' 50 = a := ea
    rw [ea, out 49 (by omega) (by omega)]
    omega
