/-! fault, lay -/
def mFlF (L : Int) (t : Int → Int) : Nat → Int → (Int → Int) → Int × (Int → Int)
  | 0, _, R => (-4, R)
  | n + 1, p, R => if L ≤ p then (-4, R) else if (mItem L t p R).1 = 0 ∨ mB L t (mItem L t p R).2.1 ≠ 59 then (p, (mItem L t p R).2.2) else mFlF L t n ((mItem L t p R).2.1 + 1) (mItem L t p R).2.2
/-- what is read so far -/
def pR (R : Int → Int) : Prop := zBr R ∧ ((R 0 = 0 ∧ R 2 = 0 ∧ R 3 = 0 ∧ R 4 = 0) ∨ ((3 ≤ R 0 ∧ R 0 ≤ 12) ∧ (3 ≤ R 1 ∧ R 1 ≤ 12))) ∧ (0 ≤ R 2 ∧ R 2 ≤ 6) ∧ (0 ≤ R 3 ∧ R 3 ≤ 5) ∧ (0 ≤ R 4 ∧ R 4 ≤ 2) ∧
  (∀ k, 0 ≤ k → k < R 2 → (1 ≤ R (4 * k + 5) ∧ R (4 * k + 5) ≤ 6) ∧ (1 ≤ R (4 * k + 6) ∧ R (4 * k + 6) ≤ 6) ∧ (0 ≤ R (4 * k + 7) ∧ R (4 * k + 7) ≤ 1) ∧ (1 ≤ R (4 * k + 8) ∧ R (4 * k + 8) ≤ 99)) ∧
  (∀ h, 0 ≤ h → h < R 3 → 0 ≤ R (4 * h + 29) ∧ 0 ≤ R (4 * h + 30) ∧ 1 ≤ R (4 * h + 31) ∧ 1 ≤ R (4 * h + 32) ∧ R (4 * h + 29) + R (4 * h + 31) ≤ R 0 ∧ R (4 * h + 30) + R (4 * h + 32) ≤ R 1) ∧
  (∀ h o, 0 ≤ o → o < h → h < R 3 → R (4 * h + 29) + R (4 * h + 31) ≤ R (4 * o + 29) ∨ R (4 * o + 29) + R (4 * o + 31) ≤ R (4 * h + 29) ∨ R (4 * h + 30) + R (4 * h + 32) ≤ R (4 * o + 30) ∨ R (4 * o + 30) + R (4 * o + 32) ≤ R (4 * h + 30)) ∧
  (∀ c, 0 ≤ c → c < R 4 → 0 ≤ R (c + 49) ∧ R (c + 49) ≤ R 0 - 2) ∧ (R 4 = 2 → R 50 - R 49 > 1 ∨ R 49 - R 50 > 1)
theorem mNumber_t {L : Int} {t : Int → Int} (ht : zBt L t) {p : Int} (hp : 0 ≤ p) {R : Int → Int} {sg to lo hi : Int} (h : (mNumber L t p R sg to lo hi).1 ≠ 0) : ∃ v : Int, (lo ≤ v ∧ v ≤ hi) ∧ (0 ≤ v ∧ v ≤ 99) ∧ (mNumber L t p R sg to lo hi).2.2 = zup R to v ∧ (mB L t p = sg ∧ (48 ≤ mB L t (p + 1) ∧ mB L t (p + 1) ≤ 57)) ∧ p + 2 ≤ (mNumber L t p R sg to lo hi).2.1 := by
  unfold mNumber at h ⊢
  by_cases h1 : mB L t p ≠ sg
  · rw [if_pos h1] at h; exact absurd rfl h
  · rw [if_neg h1] at h ⊢
    dsimp only at h ⊢
    by_cases h2 : 0 < (mNum L t (p + 1)).2.1 ∧ (lo ≤ (mNum L t (p + 1)).1 ∧ (mNum L t (p + 1)).1 ≤ hi)
    · have b := mNum_b ht (p := p + 1) (by omega)
      have fg : (48 ≤ mB L t (p + 1) ∧ mB L t (p + 1) ≤ 57) ∧ p + 2 ≤ (mNum L t (p + 1)).2.2 := by
        have h3 := h2.1
        unfold mNum at h3 ⊢
        by_cases e1 : ¬ (48 ≤ mB L t (p + 1) ∧ mB L t (p + 1) ≤ 57)
        · rw [if_pos e1] at h3; exact absurd h3 (by show ¬ (0 : Int) < 0; omega)
        · rw [if_neg e1]
          refine ⟨by omega, ?_⟩
          split
          · show p + 2 ≤ p + 1 + 1; omega
          · show p + 2 ≤ p + 1 + 2; omega
      exact ⟨_, h2.2, b.1, rfl, ⟨by omega, fg.1⟩, fg.2⟩
    · rw [if_neg h2] at h; exact absurd rfl h
