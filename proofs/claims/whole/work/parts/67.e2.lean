/-! why a HIT is refused: the same -/
theorem mWhyF_3 {T S : Int → Int} {k x y a : Int} : ∀ {n : Nat} {c o h l : Int}, (o = 1 ∨ ∃ d, c ≤ d ∧ d < c + n ∧ (mHole T (x + d % a) (y + d / a) = -4 ∨ mHole T (x + d % a) (y + d / a) ≠ mHole T x y)) → mWhyF T S k x y a n c o h l = 3
  | 0, c, o, h, l, q => by
    unfold mWhyF
    rcases q with q | ⟨d, d0, d1, _⟩
    · exact if_pos q
    · omega
  | n + 1, c, o, h, l, q => by
    unfold mWhyF
    refine mWhyF_3 ?_
    by_cases e : o = 1 ∨ mHole T (x + c % a) (y + c / a) = -4 ∨ mHole T (x + c % a) (y + c / a) ≠ mHole T x y
    · exact Or.inl (if_pos e)
    · right
      rcases q with q | ⟨d, d0, d1, d2⟩
      · exact absurd (Or.inl q) e
      · by_cases dc : d = c
        · rw [dc] at d2; exact absurd (Or.inr d2) e
        · exact ⟨d, by omega, by omega, d2⟩
theorem mWhyF_n {T S : Int → Int} {k x y a : Int} : ∀ {n : Nat} {c o h l : Int}, o ≠ 1 → (∀ d, c ≤ d → d < c + n → ¬ (mHole T (x + d % a) (y + d / a) = -4 ∨ mHole T (x + d % a) (y + d / a) ≠ mHole T x y)) →
    ((h = 1 ∨ ∃ d, c ≤ d ∧ d < c + n ∧ mClamp T S (x + d % a) (y + d / a) ≠ -4) → mWhyF T S k x y a n c o h l = 4) ∧
    ((h ≠ 1 ∧ ∀ d, c ≤ d → d < c + n → mClamp T S (x + d % a) (y + d / a) = -4) → mWhyF T S k x y a n c o h l = if mCutF S x y a n c l = 1 then 5 else if T (4 * k + 8) ≤ S (k + 144) then 6 else 0)
  | 0, c, o, h, l, ho, _ => by
    unfold mWhyF mCutF
    rw [if_neg ho]
    constructor
    · rintro (q | ⟨d, d0, d1, _⟩)
      · exact if_pos q
      · omega
    · intro q
      exact if_neg q.1
  | n + 1, c, o, h, l, ho, hq => by
    have e : ¬ (o = 1 ∨ mHole T (x + c % a) (y + c / a) = -4 ∨ mHole T (x + c % a) (y + c / a) ≠ mHole T x y) := by
      rintro (e | e)
      · exact ho e
      · exact hq c (by omega) (by omega) e
    unfold mWhyF mCutF
    rw [if_neg e]
    have ih := mWhyF_n (T := T) (S := S) (k := k) (x := x) (y := y) (a := a) (n := n) (c := c + 1) (o := 0) (h := if h = 1 ∨ mClamp T S (x + c % a) (y + c / a) ≠ -4 then 1 else 0) (l := if l = 1 ∧ S (12 * y + 12 * (c / a) + x + c % a) = 1 then 1 else 0) (by omega) (fun d d0 d1 => hq d (by omega) (by omega))
    constructor
    · intro q
      refine ih.1 ?_
      by_cases g : h = 1 ∨ mClamp T S (x + c % a) (y + c / a) ≠ -4
      · exact Or.inl (if_pos g)
      · rcases q with q | ⟨d, d0, d1, d2⟩
        · exact absurd (Or.inl q) g
        · by_cases dc : d = c
          · rw [dc] at d2; exact absurd (Or.inr d2) g
          · exact Or.inr ⟨d, by omega, by omega, d2⟩
    · intro q
      refine ih.2 ⟨?_, fun d d0 d1 => q.2 d (by omega) (by omega)⟩
      rw [if_neg (by rintro (g | g); exact q.1 g; exact g (q.2 c (by omega) (by omega)))]
      omega
theorem cOneF_1 {T : Int → Int} {x y wd hg : Int} : ∀ {n : Nat} {k : Int}, cOneF T x y wd hg n k ≠ 0 ↔ ∃ q, k ≤ q ∧ q < k + n ∧ (T (4 * q + 29) ≤ x ∧ x + wd ≤ T (4 * q + 29) + T (4 * q + 31) ∧ T (4 * q + 30) ≤ y ∧ y + hg ≤ T (4 * q + 30) + T (4 * q + 32))
  | 0, k => ⟨fun h => absurd rfl h, fun ⟨q, q0, q1, _⟩ => by omega⟩
  | n + 1, k => by
    unfold cOneF
    by_cases e : T (4 * k + 29) ≤ x ∧ x + wd ≤ T (4 * k + 29) + T (4 * k + 31) ∧ T (4 * k + 30) ≤ y ∧ y + hg ≤ T (4 * k + 30) + T (4 * k + 32)
    · rw [if_pos e]
      exact ⟨fun _ => ⟨k, by omega, by omega, e⟩, fun _ => by omega⟩
    · rw [if_neg e, cOneF_1 (n := n) (k := k + 1)]
      refine ⟨fun ⟨q, q0, q1, q2⟩ => ⟨q, by omega, by omega, q2⟩, fun ⟨q, q0, q1, q2⟩ => ⟨q, ?_, by omega, q2⟩⟩
      by_cases g : q = k
      · rw [g] at q2; exact absurd q2 e
      · omega
theorem one_iff {T : Int → Int} (wT : wfT T) {x y a b : Int} (ha : 1 ≤ a) (hb : 1 ≤ b) : cOneF T x y a b (T 3).toNat 0 = 0 ↔ ∃ d, 0 ≤ d ∧ d < 0 + ((a * b).toNat : Int) ∧ (mHole T (x + d % a) (y + d / a) = -4 ∨ mHole T (x + d % a) (y + d / a) ≠ mHole T x y) := by
  have t3 := wT.2.2.2.2.1
  have hp : a ≤ a * b := by
    have := Int.mul_le_mul_of_nonneg_left hb (show (0 : Int) ≤ a by omega)
    rw [Int.mul_one] at this; exact this
  have c0 : mHole T (x + 0 % a) (y + 0 / a) = mHole T x y := by rw [Int.zero_emod, Int.zero_ediv, Int.add_zero, Int.add_zero]
  constructor
  · intro h
    apply Classical.byContradiction
    intro hn
    have all : ∀ d, 0 ≤ d → d < a * b → mHole T (x + d % a) (y + d / a) ≠ -4 ∧ mHole T (x + d % a) (y + d / a) = mHole T x y := by
      intro d d0 d1
      constructor
      · intro e; exact hn ⟨d, d0, by omega, Or.inl e⟩
      · apply Classical.byContradiction
        intro e; exact hn ⟨d, d0, by omega, Or.inr e⟩
    have h0 := all 0 (by omega) (by omega)
    rw [c0] at h0
    have rg := mHole_no wT h0.1
    have i0 := (mHole_iff wT (x := x) (y := y) rg).mp rfl
    have dm := div_mod_at (a := a) (r := b - 1) (i := a - 1) ha (by omega)
    have hm : a * (b - 1) + (a - 1) = a * b - 1 := by rw [Int.mul_sub, Int.mul_one]; omega
    rw [hm] at dm
    have h1 := all (a * b - 1) (by omega) (by omega)
    rw [dm.1, dm.2] at h1
    have i1 := (mHole_iff wT (x := x + (a - 1)) (y := y + (b - 1)) rg).mp h1.2
    have : cOneF T x y a b (T 3).toNat 0 ≠ 0 := cOneF_1.mpr ⟨mHole T x y, rg.1, by omega, by unfold inH at i0 i1; omega⟩
    exact this h
  · rintro ⟨d, d0, d1, d2⟩
    apply Classical.byContradiction
    intro hn
    obtain ⟨q, q0, q1, q2⟩ := cOneF_1.mp hn
    have rg : 0 ≤ q ∧ q < T 3 := by omega
    have dz := zdm (c := d) (a := a) (b := b) d0 (by omega) (by omega)
    have i0 : mHole T x y = q := (mHole_iff wT rg).mpr (by unfold inH; omega)
    have i1 : mHole T (x + d % a) (y + d / a) = q := (mHole_iff wT rg).mpr (by unfold inH; omega)
    rcases d2 with e | e
    · omega
    · exact e (i1.trans i0.symm)
theorem mClamp_iff {T S : Int → Int} (t4 : 0 ≤ T 4 ∧ T 4 ≤ 2) {x y : Int} : mClamp T S x y ≠ -4 ↔ y = T 1 - 1 ∧ ((0 < T 4 ∧ S 151 ≤ x ∧ x ≤ S 151 + 1) ∨ (1 < T 4 ∧ S 152 ≤ x ∧ x ≤ S 152 + 1)) := by
  unfold mClamp
  rcases (by omega : T 4 = 0 ∨ T 4 = 1 ∨ T 4 = 2) with e | e | e
  · rw [e]; exact ⟨fun h => absurd rfl h, fun h => by omega⟩
  · rw [e]
    show mClampF T S x y 1 0 ≠ -4 ↔ _
    unfold mClampF mClampF
    rw [show (0 : Int) + 151 = 151 by rfl]
    split <;> omega
  · rw [e]
    show mClampF T S x y 2 0 ≠ -4 ↔ _
    unfold mClampF mClampF mClampF
    rw [show (0 : Int) + 151 = 151 by rfl, show (0 : Int) + 1 + 151 = 152 by rfl]
    split
    · omega
    · split <;> omega
theorem held_iff {T S : Int → Int} (t4 : 0 ≤ T 4 ∧ T 4 ≤ 2) {x y a b : Int} (ha : 1 ≤ a) (hb : 1 ≤ b) : cHeld T S x y a b ↔ ∃ d, 0 ≤ d ∧ d < 0 + ((a * b).toNat : Int) ∧ mClamp T S (x + d % a) (y + d / a) ≠ -4 := by
  have hp : 0 ≤ a * b := Int.mul_nonneg (by omega) (by omega)
  have mk : ∀ r i, 0 ≤ r → r < b → 0 ≤ i → i < a → mClamp T S (x + i) (y + r) ≠ -4 → ∃ d, 0 ≤ d ∧ d < 0 + ((a * b).toNat : Int) ∧ mClamp T S (x + d % a) (y + d / a) ≠ -4 := by
    intro r i r0 r1 i0 i1 h
    have dm := div_mod_at (a := a) (r := r) (i := i) ha ⟨i0, i1⟩
    refine ⟨a * r + i, ?_, ?_, by rw [dm.1, dm.2]; exact h⟩
    · have := Int.mul_nonneg (show (0 : Int) ≤ a by omega) r0; omega
    · have h1 : a * r ≤ a * (b - 1) := Int.mul_le_mul_of_nonneg_left (by omega) (by omega)
      rw [Int.mul_sub, Int.mul_one] at h1
      omega
  constructor
  · intro h
    have h : (y ≤ T 1 - 1 ∧ T 1 - 1 < y + b) ∧ ((0 < T 4 ∧ x ≤ S 151 + 1 ∧ S 151 < x + a ∧ (x ≤ S 151 ∨ S 151 + 1 < x + a)) ∨ (1 < T 4 ∧ x ≤ S 152 + 1 ∧ S 152 < x + a ∧ (x ≤ S 152 ∨ S 152 + 1 < x + a))) := h
    rcases h with ⟨hy, h | h⟩
    · by_cases g : x ≤ S 151
      · exact mk (T 1 - 1 - y) (S 151 - x) (by omega) (by omega) (by omega) (by omega) ((mClamp_iff t4).mpr (by omega))
      · exact mk (T 1 - 1 - y) (S 151 + 1 - x) (by omega) (by omega) (by omega) (by omega) ((mClamp_iff t4).mpr (by omega))
    · by_cases g : x ≤ S 152
      · exact mk (T 1 - 1 - y) (S 152 - x) (by omega) (by omega) (by omega) (by omega) ((mClamp_iff t4).mpr (by omega))
      · exact mk (T 1 - 1 - y) (S 152 + 1 - x) (by omega) (by omega) (by omega) (by omega) ((mClamp_iff t4).mpr (by omega))
  · rintro ⟨d, d0, d1, d2⟩
    have dz := zdm (c := d) (a := a) (b := b) d0 (by omega) (by omega)
    have := (mClamp_iff t4).mp d2
    unfold cHeld
    omega
theorem cRef_why {T S : Int → Int} (wT : wfT T) (wS : wfS T S) {s x y t : Int} (hs : 0 ≤ s ∧ s < T 2) : cRef T S s t x y (mWide T s t) (mHigh T s t) = mWhy T S s x y t := by
  have bw := wT.w hs.1 hs.2 t
  have bh := wT.h hs.1 hs.2 t
  have t0 := wT.2.1
  have t1 := wT.2.2.1
  have t4 := wT.2.2.2.2.2.1
  unfold cRef mWhy
  by_cases c1 : t = 1 ∧ T (4 * s + 7) = 0
  · rw [if_pos c1, if_pos c1]
  · rw [if_neg c1, if_neg c1]
    by_cases c2 : ¬ (0 ≤ x ∧ x + mWide T s t ≤ T 0 ∧ 0 ≤ y ∧ y + mHigh T s t ≤ T 1)
    · rw [if_pos c2, if_pos (by omega)]
    · have c2' : ¬ (¬ ((0 ≤ x ∧ x < T 0) ∧ (0 ≤ y ∧ y < T 1)) ∨ ¬ ((0 ≤ x + mWide T s t - 1 ∧ x + mWide T s t - 1 < T 0) ∧ (0 ≤ y + mHigh T s t - 1 ∧ y + mHigh T s t - 1 < T 1))) := by omega
      rw [if_neg c2, if_neg c2']
      by_cases c3 : cOneF T x y (mWide T s t) (mHigh T s t) (T 3).toNat 0 = 0
      · rw [if_pos c3, mWhyF_3 (Or.inr ((one_iff wT bw.1 bh.1).mp c3))]
      · rw [if_neg c3]
        have hno : ∀ d, 0 ≤ d → d < 0 + ((mWide T s t * mHigh T s t).toNat : Int) → ¬ (mHole T (x + d % mWide T s t) (y + d / mWide T s t) = -4 ∨ mHole T (x + d % mWide T s t) (y + d / mWide T s t) ≠ mHole T x y) := fun d d0 d1 e => c3 ((one_iff wT bw.1 bh.1).mpr ⟨d, d0, d1, e⟩)
        have W := mWhyF_n (T := T) (S := S) (k := s) (x := x) (y := y) (a := mWide T s t) (n := (mWide T s t * mHigh T s t).toNat) (c := 0) (o := 0) (h := 0) (l := 1) (by omega) hno
        by_cases c4 : cHeld T S x y (mWide T s t) (mHigh T s t)
        · rw [if_pos c4, W.1 (Or.inr ((held_iff t4 bw.1 bh.1).mp c4))]
        · rw [if_neg c4, W.2 ⟨by omega, fun d d0 d1 => by
            apply Classical.byContradiction
            intro e; exact c4 ((held_iff t4 bw.1 bh.1).mpr ⟨d, d0, d1, e⟩)⟩]
          have cu := mCut_un wS.1 (x := x) (y := y) (a := mWide T s t) (b := mHigh T s t) bw.1 (by omega) (by omega)
          by_cases c5 : cUn S x y (mWide T s t) (mHigh T s t) = 0
          · rw [if_pos c5, if_pos (cu.mpr c5)]
          · rw [if_neg c5, if_neg (fun e => c5 (cu.mp e))]
/-! a HIT: the same -/
theorem mStrS_at {x y a : Int} : ∀ (n : Nat) (c : Int) (S : Int → Int) (j : Int), ((∃ d, c ≤ d ∧ d < c + n ∧ 12 * y + 12 * (d / a) + x + d % a = j) → mStrS x y a n c S j = 1) ∧ ((∀ d, c ≤ d → d < c + n → 12 * y + 12 * (d / a) + x + d % a ≠ j) → mStrS x y a n c S j = S j)
  | 0, c, S, j => ⟨fun ⟨d, d0, d1, _⟩ => by omega, fun _ => rfl⟩
  | n + 1, c, S, j => by
    unfold mStrS
    obtain ⟨i1, i2⟩ := mStrS_at (x := x) (y := y) (a := a) n (c + 1) (zup S (12 * y + 12 * (c / a) + x + c % a) 1) j
    constructor
    · rintro ⟨d, d0, d1, d2⟩
      by_cases e : ∃ d, c + 1 ≤ d ∧ d < c + 1 + n ∧ 12 * y + 12 * (d / a) + x + d % a = j
      · exact i1 e
      · rw [i2 (fun d d0 d1 d2 => e ⟨d, d0, d1, d2⟩)]
        by_cases g : d = c
        · rw [← d2, g, zup_self]
        · exact absurd ⟨d, by omega, by omega, d2⟩ e
    · intro h
      rw [i2 (fun d d0 d1 => h d (by omega) (by omega)), zup_ne _ _ (fun e => h c (by omega) (by omega) e.symm)]
theorem mStrS_R {S : Int → Int} {x y a b : Int} (ha : 1 ≤ a) (hx : 0 ≤ x ∧ x + a ≤ 12) (hy : 0 ≤ y ∧ 1 ≤ b ∧ y + b ≤ 12) (j : Int) : mStrS x y a (a * b).toNat 0 S j = strR S x y a b j := by
  have hp : 0 ≤ a * b := Int.mul_nonneg (by omega) (by omega)
  obtain ⟨i1, i2⟩ := mStrS_at (x := x) (y := y) (a := a) (a * b).toNat 0 S j
  unfold strR
  by_cases g : (0 ≤ j ∧ j < 144) ∧ (y ≤ j / 12 ∧ j / 12 < y + b) ∧ (x ≤ j % 12 ∧ j % 12 < x + a)
  · rw [if_pos g]
    have dm := div_mod_at (a := a) (r := j / 12 - y) (i := j % 12 - x) ha (by omega)
    refine i1 ⟨a * (j / 12 - y) + (j % 12 - x), ?_, ?_, ?_⟩
    · have := Int.mul_nonneg (show (0 : Int) ≤ a by omega) (show 0 ≤ j / 12 - y by omega); omega
    · have h1 : a * (j / 12 - y) ≤ a * (b - 1) := Int.mul_le_mul_of_nonneg_left (by omega) (by omega)
      rw [Int.mul_sub a b, Int.mul_one] at h1
      omega
    · rw [dm.1, dm.2]; omega
  · rw [if_neg g]
    refine i2 (fun d d0 d1 e => g ?_)
    have dz := zdm (c := d) (a := a) (b := b) d0 (by omega) (by omega)
    omega
theorem str_eq {T S : Int → Int} {s x y t : Int} (bs : 0 ≤ s ∧ s < 6) (bw : 1 ≤ mWide T s t) (bh : 1 ≤ mHigh T s t) (hx : 0 ≤ x ∧ x + mWide T s t ≤ 12) (hy : 0 ≤ y ∧ y + mHigh T s t ≤ 12) : mStr T S s x y t = mStrT T s (strR S x y (mWide T s t) (mHigh T s t)) := by
  unfold mStr
  congr 1
  funext j
  exact mStrS_R bw hx ⟨hy.1, bh, hy.2⟩ j
/-! counts -/
theorem mCutN_sm (S : Int → Int) : ∀ (n : Nat) (c m : Int), mCutN S n c m = m + sm (fun i => S (c + i)) n
  | 0, c, m => by unfold mCutN sm; omega
  | n + 1, c, m => by
    unfold mCutN
    rw [mCutN_sm S n (c + 1), Nat.add_comm n 1, sm_app]
    have e : sm (fun i => S (c + i)) 1 = S c := by
      show 0 + S (c + ((0 : Nat) : Int)) = _
      rw [show c + ((0 : Nat) : Int) = c by omega]; omega
    rw [e]
    have e2 : sm (fun i => S (c + 1 + i)) n = sm (fun i => S (c + (((1 : Nat) : Int) + i))) n := sm_congr (fun i _ _ => by rw [show c + 1 + i = c + (((1 : Nat) : Int) + i) by omega])
    rw [e2]; omega
theorem cCutF_sm (S : Int → Int) : ∀ (n : Nat) (y m : Int), cCutF S n y m = m + sm (fun r => sm (fun i => S (12 * (y + r) + i)) 12) n
  | 0, y, m => by unfold cCutF sm; omega
  | n + 1, y, m => by
    unfold cCutF
    rw [cCutF_sm S n (y + 1), Nat.add_comm n 1, sm_app]
    have e : sm (fun r => sm (fun i => S (12 * (y + r) + i)) 12) 1 = sm (fun i => S (12 * y + i)) 12 := by
      show 0 + sm (fun i => S (12 * (y + ((0 : Nat) : Int)) + i)) 12 = _
      rw [show y + ((0 : Nat) : Int) = y by omega]; omega
    rw [e]
    have e2 : sm (fun r => sm (fun i => S (12 * (y + 1 + r) + i)) 12) n = sm (fun r => sm (fun i => S (12 * (y + (((1 : Nat) : Int) + r)) + i)) 12) n := sm_congr (fun r _ _ => by rw [show y + 1 + r = y + (((1 : Nat) : Int) + r) by omega])
    rw [e2]; omega
theorem cut_eq (S : Int → Int) : cCutF S 12 0 0 = mCutN S 144 0 0 := by
  rw [cCutF_sm, mCutN_sm, show (144 : Nat) = 12 * 12 by rfl, sm_mul (a := 12) (G := fun r i => S (12 * (0 + r) + i)) (by omega) 12 (fun r i r0 r1 i0 i1 => by congr 1; omega)]
theorem done_eq {T S : Int → Int} (wT : wfT T) : ∀ (n : Nat) (h m : Int), 0 ≤ h → h + n = T 3 → cDoneF T S n h m = mDoneN T S n h m
  | 0, h, m, _, _ => rfl
  | n + 1, h, m, h0, h1 => by
    unfold cDoneF mDoneN
    rw [mOpen_c wT ⟨h0, by omega⟩]
    by_cases e : cOpen T S h = 0
    · rw [if_pos e, if_pos e]; exact done_eq wT n _ _ (by omega) (by omega)
    · rw [if_neg e, if_neg e, Int.add_zero]; exact done_eq wT n _ _ (by omega) (by omega)
