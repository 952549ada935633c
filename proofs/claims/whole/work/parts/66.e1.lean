/-! CELL by CELL and row by row: the same -/
/-- a block's CELLS, one after the other -/
theorem sm_mul {F : Int → Int} {G : Int → Int → Int} {a : Nat} (ha : 1 ≤ a) : ∀ b : Nat, (∀ r i : Int, 0 ≤ r → r < b → 0 ≤ i → i < a → F (a * r + i) = G r i) → sm F (a * b) = sm (fun r => sm (fun i => G r i) a) b
  | 0, _ => by rw [Nat.mul_zero]; rfl
  | b + 1, h => by
    rw [Nat.mul_succ, sm_app]
    show _ = sm (fun r => sm (fun i => G r i) a) b + sm (fun i => G (b : Int) i) a
    rw [sm_mul ha b (fun r i r0 r1 i0 i1 => h r i r0 (by omega) i0 i1)]
    congr 1
    refine sm_congr (fun i i0 i1 => ?_)
    have := h b i (by omega) (by omega) i0 i1
    rw [← this]; congr 1
theorem div_mod_at {a r i : Int} (ha : 1 ≤ a) (hi : 0 ≤ i ∧ i < a) : (a * r + i) / a = r ∧ (a * r + i) % a = i := by
  constructor
  · rw [Int.add_comm, Int.add_mul_ediv_left _ _ (by omega), Int.ediv_eq_zero_of_lt hi.1 hi.2, Int.zero_add]
  · rw [Int.add_comm, Int.add_mul_emod_self_left, Int.emod_eq_of_lt hi.1 hi.2]
theorem cUnF_sm (S : Int → Int) (x w : Int) : ∀ (n : Nat) (y m : Int), cUnF S x w n y m = m + sm (fun r => rowU S (y + r) x w) n
  | 0, y, m => by unfold cUnF sm; omega
  | n + 1, y, m => by
    unfold cUnF
    rw [cUnF_sm S x w n (y + 1) (m + rowU S y x w), Nat.add_comm n 1, sm_app]
    have e : sm (fun r => rowU S (y + r) x w) 1 = rowU S y x w := by
      show 0 + rowU S (y + ((0 : Nat) : Int)) x w = _
      rw [Int.zero_add]; congr 1; omega
    rw [e]
    have e2 : sm (fun r => rowU S (y + 1 + r) x w) n = sm (fun i => rowU S (y + (((1 : Nat) : Int) + i)) x w) n := sm_congr (fun i _ _ => by congr 1; omega)
    rw [e2]; omega
/-- the place of the c'th CELL of a block -/
theorem mAt_inj {x y a b c d : Int} (ha : 1 ≤ a ∧ a ≤ 12) (hx : 0 ≤ x ∧ x + a ≤ 12) (hc : 0 ≤ c) (hd : 0 ≤ d) (h : 12 * y + 12 * (c / a) + x + c % a = 12 * y + 12 * (d / a) + x + d % a) : c = d := by
  have c1 := Int.emod_nonneg c (show a ≠ 0 by omega)
  have c2 := Int.emod_lt_of_pos c (show 0 < a by omega)
  have d1 := Int.emod_nonneg d (show a ≠ 0 by omega)
  have d2 := Int.emod_lt_of_pos d (show 0 < a by omega)
  have e1 : c / a = d / a := by omega
  have e2 : c % a = d % a := by omega
  rw [← Int.emod_add_mul_ediv c a, ← Int.emod_add_mul_ediv d a, e1, e2]
theorem mStrN_sm {x y a : Int} (ha : 1 ≤ a ∧ a ≤ 12) (hx : 0 ≤ x ∧ x + a ≤ 12) : ∀ (n : Nat) (c : Int) (S S0 : Int → Int) (m : Int), 0 ≤ c → (∀ d, c ≤ d → S (12 * y + 12 * (d / a) + x + d % a) = S0 (12 * y + 12 * (d / a) + x + d % a)) → mStrN x y a n c S m = m + sm (fun i => 1 - S0 (12 * y + 12 * ((c + i) / a) + x + (c + i) % a)) n
  | 0, c, S, S0, m, _, _ => by unfold mStrN sm; omega
  | n + 1, c, S, S0, m, h0, hS => by
    unfold mStrN
    rw [mStrN_sm ha hx n (c + 1) _ S0 _ (by omega) (fun d hd => by
      rw [zup_ne _ _ (fun e => by have := mAt_inj (b := 0) ha hx (by omega) h0 e; omega)]
      exact hS d (by omega)), hS c (Int.le_refl _), Nat.add_comm n 1, sm_app]
    have e : sm (fun i => 1 - S0 (12 * y + 12 * ((c + i) / a) + x + (c + i) % a)) 1 = 1 - S0 (12 * y + 12 * (c / a) + x + c % a) := by
      show 0 + (1 - S0 (12 * y + 12 * ((c + ((0 : Nat) : Int)) / a) + x + (c + ((0 : Nat) : Int)) % a)) = _
      rw [show c + ((0 : Nat) : Int) = c by omega]; omega
    rw [e]
    have e2 : sm (fun i => 1 - S0 (12 * y + 12 * ((c + 1 + i) / a) + x + (c + 1 + i) % a)) n = sm (fun i => 1 - S0 (12 * y + 12 * ((c + (((1 : Nat) : Int) + i)) / a) + x + (c + (((1 : Nat) : Int) + i)) % a)) n := sm_congr (fun i _ _ => by rw [show c + 1 + i = c + (((1 : Nat) : Int) + i) by omega])
    rw [e2]; omega
theorem cUn_blk {S : Int → Int} {x y a b : Int} (ha : 1 ≤ a) (hb : 0 ≤ b) : cUn S x y a b = sm (fun c => 1 - S (12 * y + 12 * (c / a) + x + c % a)) (a * b).toNat := by
  unfold cUn
  rw [cUnF_sm, Int.zero_add]
  obtain ⟨m, rfl⟩ := Int.eq_ofNat_of_zero_le (show (0 : Int) ≤ a by omega)
  obtain ⟨n, rfl⟩ := Int.eq_ofNat_of_zero_le hb
  rw [show ((m : Int) * (n : Int)).toNat = m * n by rw [← Int.natCast_mul]; rfl]
  rw [sm_mul (G := fun r i => 1 - S (12 * (y + r) + (x + i))) (by omega) n (fun r i r0 r1 i0 i1 => by
    have := div_mod_at (a := (m : Int)) (r := r) (i := i) ha ⟨i0, i1⟩
    rw [this.1, this.2]; congr 2; omega)]
  rfl
theorem mStrN_un {S : Int → Int} {x y a b : Int} (ha : 1 ≤ a ∧ a ≤ 12) (hb : 0 ≤ b) (hx : 0 ≤ x ∧ x + a ≤ 12) : mStrN x y a (a * b).toNat 0 S 0 = cUn S x y a b := by
  rw [mStrN_sm ha hx _ 0 S S 0 (by omega) (fun _ _ => rfl), cUn_blk ha.1 hb, Int.zero_add]
  exact sm_congr (fun i _ _ => by rw [Int.zero_add])
theorem sm_0 {f : Int → Int} : ∀ {n : Nat}, (∀ i : Int, 0 ≤ i → i < n → 0 ≤ f i) → (sm f n = 0 ↔ ∀ i : Int, 0 ≤ i → i < n → f i = 0)
  | 0, _ => ⟨fun _ i i0 i1 => by omega, fun _ => rfl⟩
  | n + 1, h => by
    have ih := sm_0 (n := n) (fun i i0 i1 => h i i0 (by omega))
    have p : 0 ≤ sm f n := by
      have := sm_b (f := f) (lo := 0) (hi := sm f n + 1000000) (n := 0) (fun i i0 i1 => by omega)
      have q : ∀ m : Nat, m ≤ n → 0 ≤ sm f m := by
        intro m
        induction m with
        | zero => intro _; exact Int.le_refl _
        | succ m ihm => intro hm; have a1 := ihm (by omega); have a2 := h m (by omega) (by omega); show 0 ≤ sm f m + f m; omega
      exact q n (Nat.le_refl _)
    have hn := h n (by omega) (by omega)
    constructor
    · intro e i i0 i1
      have e : sm f n + f n = 0 := e
      by_cases q : i = n
      · rw [q]; omega
      · exact ih.mp (by omega) i i0 (by omega)
    · intro e
      show sm f n + f n = 0
      rw [ih.mpr (fun i i0 i1 => e i i0 (by omega)), e n (by omega) (by omega)]; rfl
theorem cUn_0 {S : Int → Int} (hS : ∀ c, 0 ≤ c → c < 144 → 0 ≤ S c ∧ S c ≤ 1) {x y a b : Int} (ha : 1 ≤ a) (hx : 0 ≤ x ∧ x + a ≤ 12) (hy : 0 ≤ y ∧ 1 ≤ b ∧ y + b ≤ 12) : cUn S x y a b = 0 ↔ ∀ c, 0 ≤ c → c < a * b → S (12 * y + 12 * (c / a) + x + c % a) = 1 := by
  have hb : ∀ c, 0 ≤ c → c < a * b → 0 ≤ S (12 * y + 12 * (c / a) + x + c % a) ∧ S (12 * y + 12 * (c / a) + x + c % a) ≤ 1 := by
    intro c c0 c1
    have d := zdm (c := c) (a := a) (b := b) c0 (by omega) c1
    exact hS _ (by omega) (by omega)
  have hp : 0 ≤ a * b := Int.mul_nonneg (by omega) (by omega)
  rw [cUn_blk ha (by omega), sm_0 (fun i i0 i1 => by have := hb i i0 (by omega); omega)]
  constructor
  · intro h c c0 c1
    have := h c c0 (by omega)
    omega
  · intro h c c0 c1
    rw [h c c0 (by omega)]; rfl
theorem mCutF_1 {S : Int → Int} {x y a : Int} : ∀ {n : Nat} {c l : Int}, (0 ≤ l ∧ l ≤ 1) → (mCutF S x y a n c l = 1 ↔ l = 1 ∧ ∀ d, c ≤ d → d < c + n → S (12 * y + 12 * (d / a) + x + d % a) = 1)
  | 0, c, l, _ => ⟨fun h => ⟨h, fun d d0 d1 => by omega⟩, fun h => h.1⟩
  | n + 1, c, l, hl => by
    unfold mCutF
    rw [mCutF_1 (n := n) (c := c + 1) (by split <;> omega)]
    by_cases e : l = 1 ∧ S (12 * y + 12 * (c / a) + x + c % a) = 1
    · rw [if_pos e]
      refine ⟨fun h => ⟨e.1, fun d d0 d1 => ?_⟩, fun h => ⟨rfl, fun d d0 d1 => h.2 d (by omega) (by omega)⟩⟩
      by_cases q : d = c
      · rw [q]; exact e.2
      · exact h.2 d (by omega) (by omega)
    · rw [if_neg e]
      exact ⟨fun h => by omega, fun h => absurd ⟨h.1, h.2 c (by omega) (by omega)⟩ e⟩
theorem mCut_un {S : Int → Int} (hS : ∀ c, 0 ≤ c → c < 144 → 0 ≤ S c ∧ S c ≤ 1) {x y a b : Int} (ha : 1 ≤ a) (hx : 0 ≤ x ∧ x + a ≤ 12) (hy : 0 ≤ y ∧ 1 ≤ b ∧ y + b ≤ 12) : mCutF S x y a (a * b).toNat 0 1 = 1 ↔ cUn S x y a b = 0 := by
  have hp : 0 ≤ a * b := Int.mul_nonneg (by omega) (by omega)
  rw [mCutF_1 (by omega), cUn_0 hS ha hx hy]
  exact ⟨fun h c c0 c1 => h.2 c c0 (by omega), fun h => ⟨rfl, fun c c0 c1 => h c c0 (by omega)⟩⟩
/-! which HOLE a CELL is of -/
abbrev inH (T : Int → Int) (h x y : Int) : Prop := (T (4 * h + 29) ≤ x ∧ x < T (4 * h + 29) + T (4 * h + 31)) ∧ (T (4 * h + 30) ≤ y ∧ y < T (4 * h + 30) + T (4 * h + 32))
theorem mHoleF_in {T : Int → Int} {x y : Int} : ∀ {n : Nat} {k : Int}, mHoleF T x y n k ≠ -4 → k ≤ mHoleF T x y n k → inH T (mHoleF T x y n k) x y
  | 0, k, h, _ => absurd rfl h
  | n + 1, k, h, hk => by
    unfold mHoleF at h hk ⊢
    by_cases e : (T (4 * k + 29) ≤ x ∧ x < T (4 * k + 29) + T (4 * k + 31)) ∧ (T (4 * k + 30) ≤ y ∧ y < T (4 * k + 30) + T (4 * k + 32))
    · rw [if_pos e]; exact e
    · rw [if_neg e] at h hk ⊢
      refine mHoleF_in h ?_
      rcases mHoleF_rng T x y n (k + 1) with q | q
      · exact absurd q h
      · exact q.1
theorem mHoleF_of {T : Int → Int} {x y h : Int} (hd : ∀ k, 0 ≤ k → k < T 3 → k ≠ h → inH T h x y → ¬ inH T k x y) (hi : inH T h x y) (h1 : h < T 3) : ∀ {n : Nat} {k : Int}, 0 ≤ k → k ≤ h → k + n = T 3 → mHoleF T x y n k = h
  | 0, k, _, h0, e => by omega
  | n + 1, k, hk, h0, e => by
    unfold mHoleF
    by_cases q : k = h
    · subst q; exact if_pos hi
    · rw [if_neg (hd k hk (by omega) q hi)]
      exact mHoleF_of hd hi h1 (by omega) (by omega) (by omega)
theorem wfT.dis {T : Int → Int} (wT : wfT T) {h k x y : Int} (h0 : 0 ≤ h ∧ h < T 3) (k0 : 0 ≤ k ∧ k < T 3) (hne : k ≠ h) (hi : inH T h x y) : ¬ inH T k x y := by
  have ap := wT.2.2.2.2.2.2.2.2.1
  unfold inH at hi ⊢
  intro q
  rcases (by omega : k < h ∨ h < k) with e | e
  · have := ap h k k0.1 e h0.2; omega
  · have := ap k h h0.1 e k0.2; omega
theorem mHole_iff {T : Int → Int} (wT : wfT T) {h x y : Int} (h0 : 0 ≤ h ∧ h < T 3) : mHole T x y = h ↔ inH T h x y := by
  have t3 := wT.2.2.2.2.1
  unfold mHole
  constructor
  · intro e
    have := mHoleF_in (T := T) (x := x) (y := y) (n := (T 3).toNat) (k := 0) (by omega) (by omega)
    rw [e] at this; exact this
  · intro e
    exact mHoleF_of (fun k k0 k1 kn hi => wT.dis h0 ⟨k0, k1⟩ kn hi) e h0.2 (by omega) h0.1 (by omega)
theorem mHole_no {T : Int → Int} (wT : wfT T) {x y : Int} (h : mHole T x y ≠ -4) : 0 ≤ mHole T x y ∧ mHole T x y < T 3 := by
  have t3 := wT.2.2.2.2.1
  unfold mHole at h ⊢
  rcases mHoleF_rng T x y (T 3).toNat 0 with e | e
  · exact absurd e h
  · omega
/-! what is open -/
theorem mOpenF_sm (T S : Int → Int) (h : Int) : ∀ (n : Nat) (c m : Int), mOpenF T S h n c m = m + sm (fun i => if mHole T ((c + i) % 12) ((c + i) / 12) = h then 1 - S (c + i) else 0) n
  | 0, c, m => by unfold mOpenF sm; omega
  | n + 1, c, m => by
    unfold mOpenF
    rw [mOpenF_sm T S h n (c + 1), Nat.add_comm n 1, sm_app]
    have e : sm (fun i => if mHole T ((c + i) % 12) ((c + i) / 12) = h then 1 - S (c + i) else 0) 1 = if mHole T (c % 12) (c / 12) = h then 1 - S c else 0 := by
      show 0 + (if mHole T ((c + ((0 : Nat) : Int)) % 12) ((c + ((0 : Nat) : Int)) / 12) = h then 1 - S (c + ((0 : Nat) : Int)) else 0) = _
      rw [show c + ((0 : Nat) : Int) = c by omega]; omega
    rw [e]
    have e2 : sm (fun i => if mHole T ((c + 1 + i) % 12) ((c + 1 + i) / 12) = h then 1 - S (c + 1 + i) else 0) n = sm (fun i => if mHole T ((c + (((1 : Nat) : Int) + i)) % 12) ((c + (((1 : Nat) : Int) + i)) / 12) = h then 1 - S (c + (((1 : Nat) : Int) + i)) else 0) n := sm_congr (fun i _ _ => by rw [show c + 1 + i = c + (((1 : Nat) : Int) + i) by omega])
    rw [e2]; omega
theorem mOpen_c {T S : Int → Int} (wT : wfT T) {h : Int} (h0 : 0 ≤ h ∧ h < T 3) : mOpen T S h = cOpen T S h := by
  have q := wT.2.2.2.2.2.2.2.1 h h0.1 h0.2
  have t0 := wT.2.1
  have t1 := wT.2.2.1
  unfold mOpen cOpen cUn
  rw [mOpenF_sm, cUnF_sm, Int.zero_add, Int.zero_add]
  rw [show (144 : Nat) = 12 * 12 by rfl]
  rw [sm_mul (a := 12) (G := fun r i => if inH T h i r then 1 - S (12 * r + i) else 0) (by omega) 12 (fun r i r0 r1 i0 i1 => by
    have e1 : (0 + (((12 : Nat) : Int) * r + i)) % 12 = i := by omega
    have e2 : (0 + (((12 : Nat) : Int) * r + i)) / 12 = r := by omega
    have e3 : 0 + (((12 : Nat) : Int) * r + i) = 12 * r + i := by omega
    rw [e1, e2, e3]
    by_cases g : mHole T i r = h
    · rw [if_pos g, if_pos ((mHole_iff wT h0).mp g)]
    · rw [if_neg g, if_neg (fun e => g ((mHole_iff wT h0).mpr e))])]
  refine sm_win (x := (T (4 * h + 30)).toNat) (w := (T (4 * h + 32)).toNat) (by omega) (fun r r0 r1 => ?_) (fun r r0 r1 r2 => ?_)
  · unfold rowU
    refine sm_win (x := (T (4 * h + 29)).toNat) (w := (T (4 * h + 31)).toNat) (by omega) (fun i i0 i1 => ?_) (fun i i0 i1 i2 => ?_)
    · rw [if_pos (by unfold inH; omega)]
      congr 2; omega
    · rw [if_neg (by unfold inH; omega)]
  · exact sm_zero (fun i i0 i1 => if_neg (by unfold inH; omega))
