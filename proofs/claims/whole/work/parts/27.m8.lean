/-! NIBBLED -/
theorem mStrS_out {x y a b : Int} (hx : 0 ≤ x ∧ x + a - 1 < 12) (hy : 0 ≤ y ∧ y + b - 1 < 12) (ha : 1 ≤ a) : ∀ (n : Nat) (c : Int) (S : Int → Int) (j : Int), 0 ≤ c → c + n ≤ a * b → (j < 0 ∨ 144 ≤ j) → mStrS x y a n c S j = S j
  | 0, c, S, j, _, _, _ => rfl
  | n + 1, c, S, j, h0, h1, hj => by
    have d := zdm (c := c) (a := a) (b := b) h0 (by omega) (by omega)
    unfold mStrS
    rw [mStrS_out hx hy ha n (c + 1) _ j (by omega) (by omega) hj, zup_ne _ _ (by omega)]
theorem mStrS_01 {x y a : Int} : ∀ (n : Nat) (c : Int) (S : Int → Int), (∀ c, 0 ≤ c → c < 144 → 0 ≤ S c ∧ S c ≤ 1) → ∀ c', 0 ≤ c' → c' < 144 → 0 ≤ mStrS x y a n c S c' ∧ mStrS x y a n c S c' ≤ 1
  | 0, c, S, h => h
  | n + 1, c, S, h => by
    unfold mStrS
    refine mStrS_01 n (c + 1) _ (fun c' h0 h1 => ?_)
    unfold zup
    split
    · omega
    · exact h c' h0 h1
theorem mWhyF_d (T S : Int → Int) (k x y a : Int) : ∀ (n : Nat) (c o h l : Int), mWhyF T S k x y a n c o h l = 0 → S (k + 144) < T (4 * k + 8)
  | 0, c, o, h, l, e => by
    unfold mWhyF at e
    omega
  | n + 1, c, o, h, l, e => by
    unfold mWhyF at e
    exact mWhyF_d T S k x y a n _ _ _ _ e
theorem mWhy_d {T S : Int → Int} {k x y t : Int} (h : mWhy T S k x y t = 0) : S (k + 144) < T (4 * k + 8) := by
  unfold mWhy at h
  split at h
  · omega
  · split at h
    · omega
    · exact mWhyF_d _ _ _ _ _ _ _ _ _ _ _ h
theorem mStrT_at (T : Int → Int) (k : Int) (S : Int → Int) (j : Int) (hk : 0 ≤ k ∧ k < 6) : mStrT T k S j = if j = 150 then k else if j = 154 then S 154 + mRing T (S 150) k else if j = 153 then S 153 + 1 else if j = k + 144 then S (k + 144) + 1 else S j := by
  unfold mStrT zup
  split
  · rfl
  · split
    · rw [if_neg (by omega), if_neg (by omega)]
    · split
      · rw [if_neg (by omega)]
      · rfl
theorem mStr_out {T S : Int → Int} {k x y t j : Int} (hk : 0 ≤ k ∧ k < 6) (hx : 0 ≤ x ∧ x + mWide T k t - 1 < 12) (hy : 0 ≤ y ∧ y + mHigh T k t - 1 < 12) (hw : 1 ≤ mWide T k t ∧ mWide T k t ≤ 6) (hh : 1 ≤ mHigh T k t ∧ mHigh T k t ≤ 6) (hj : j < 0 ∨ 156 ≤ j) : mStr T S k x y t j = S j := by
  have := zmul36 hw hh
  unfold mStr
  rw [mStrT_at _ _ _ _ hk, if_neg (by omega), if_neg (by omega), if_neg (by omega), if_neg (by omega), mStrS_out (b := mHigh T k t) hx hy (by omega) _ 0 S j (by omega) (by omega) (by omega)]
theorem wfS.str {T S : Int → Int} (hT : wfT T) (h : wfS T S) {k x y t : Int} (hk : 0 ≤ k ∧ k < T 2) (h0 : mWhy T S k x y t = 0) : wfS T (mStr T S k x y t) := by
  obtain ⟨h1, h2, h3, h4, h5, h6⟩ := h
  have q0 := hT.2.1
  have q1 := hT.2.2.1
  have q2 := hT.2.2.2.1
  have hw := hT.w hk.1 hk.2 t
  have hh := hT.h hk.1 hk.2 t
  have hb := mWhy_0 h0
  have hd := mWhy_d h0
  have hl := hT.2.2.2.2.2.2.1 k hk.1 hk.2
  have hab := zmul36 hw hh
  have out : ∀ j, 144 ≤ j → mStrS x y (mWide T k t) (mWide T k t * mHigh T k t).toNat 0 S j = S j := fun j hj => mStrS_out (b := mHigh T k t) (by omega) (by omega) (by omega) _ 0 S j (by omega) (by omega) (by omega)
  have at_ := fun j => mStrT_at T k (mStrS x y (mWide T k t) (mWide T k t * mHigh T k t).toNat 0 S) j (by omega)
  refine ⟨fun c c0 c1 => ?_, fun k' k0 k1 => ?_, ?_, fun c c0 c1 => ?_, fun c c0 c1 => ?_, fun e => ?_⟩
  · unfold mStr
    rw [at_, if_neg (by omega), if_neg (by omega), if_neg (by omega), if_neg (by omega)]
    exact mStrS_01 _ 0 S h1 c c0 c1
  · unfold mStr
    have := h2 k' k0 k1
    rw [at_, if_neg (by omega), if_neg (by omega), if_neg (by omega)]
    split
    · next e =>
      rw [out _ (by omega)]
      rw [show k = k' by omega] at hd hl ⊢
      omega
    · rw [out _ (by omega)]; exact this
  · unfold mStr
    rw [at_, if_pos rfl]; exact hk
  · unfold mStr
    rw [at_, if_neg (by omega), if_neg (by omega), if_neg (by omega), if_neg (by omega), out _ (by omega)]
    exact h4 c c0 c1
  · unfold mStr
    have := hT.2.2.2.2.2.1
    rw [at_, if_neg (by omega), if_neg (by omega), if_neg (by omega), if_neg (by omega), out _ (by omega)]
    exact h5 c c0 c1
  · unfold mStr
    rw [at_, at_, if_neg (by omega), if_neg (by omega), if_neg (by omega), if_neg (by omega), if_neg (by omega), if_neg (by omega), if_neg (by omega), if_neg (by omega), out _ (by omega), out _ (by omega)]
    exact h6 e
def mNx (T : Int → Int) (h k t i : Int) : Int :=
  if T (4 * h + 29) + mWide T k t * (i % ((T (4 * h + 31) + mWide T k t - 1) / mWide T k t)) + mWide T k t > T (4 * h + 29) + T (4 * h + 31) then T (4 * h + 29) + T (4 * h + 31) - mWide T k t else T (4 * h + 29) + mWide T k t * (i % ((T (4 * h + 31) + mWide T k t - 1) / mWide T k t))
def mNy (T : Int → Int) (h k t i : Int) : Int :=
  if T (4 * h + 30) + mHigh T k t * (i / ((T (4 * h + 31) + mWide T k t - 1) / mWide T k t)) + mHigh T k t > T (4 * h + 30) + T (4 * h + 32) then T (4 * h + 30) + T (4 * h + 32) - mHigh T k t else T (4 * h + 30) + mHigh T k t * (i / ((T (4 * h + 31) + mWide T k t - 1) / mWide T k t))
def mNibF (T : Int → Int) (h k t : Int) : Nat → Int → (Int → Int) → Int → (Int → Int) × Int × Int
  | 0, _, S, m => (S, m, 0)
  | n + 1, i, S, m =>
    if mCutF S (mNx T h k t i) (mNy T h k t i) (mWide T k t) (mWide T k t * mHigh T k t).toNat 0 1 = 1 then mNibF T h k t n (i + 1) S m
    else if 0 < mWhy T S k (mNx T h k t i) (mNy T h k t i) t then (S, m, 1)
    else mNibF T h k t n (i + 1) (mStr T S k (mNx T h k t i) (mNy T h k t i) t) (m + (if 0 < mStrN (mNx T h k t i) (mNy T h k t i) (mWide T k t) (mWide T k t * mHigh T k t).toNat 0 S 0 then 1 else 0))
def spNibble (T S B : Int → Int) (n h k t : Int) : mSp :=
  if ¬ ((0 ≤ h ∧ h < T 3) ∧ (0 ≤ k ∧ k < T 2) ∧ (0 ≤ t ∧ t ≤ 1)) then (-1, S, B, n)
  else if mOpen T S h = 0 ∨ mNib T h k t = -4 then (-2, S, B, n)
  else if (mNibF T h k t (mNib T h k t).toNat 0 S 0).2.2 = 1 then (-2, S, B, n)
  else ((mNibF T h k t (mNib T h k t).toNat 0 S 0).2.1, (mNibF T h k t (mNib T h k t).toNat 0 S 0).1, mNoteB B S n, mNoteN n)
theorem zparts {n d : Int} (hd : 1 ≤ d) (hn : d ≤ n ∧ n ≤ 12) : 1 ≤ (n + d - 1) / d ∧ (n + d - 1) / d ≤ 12 := by
  have h1 : 1 ≤ (n + d - 1) / d := by
    rw [Int.le_ediv_iff_mul_le (by omega)]; omega
  refine ⟨h1, ?_⟩
  have : (n + d - 1) / d < 13 := by
    apply Int.ediv_lt_of_lt_mul (by omega)
    omega
  omega
theorem zmulb {a r : Int} (ha : 1 ≤ a ∧ a ≤ 6) (hr : 0 ≤ r ∧ r ≤ 12) : 0 ≤ a * r ∧ a * r ≤ 72 := by
  rcases (by omega : a = 1 ∨ a = 2 ∨ a = 3 ∨ a = 4 ∨ a = 5 ∨ a = 6) with rfl | rfl | rfl | rfl | rfl | rfl <;> omega
theorem zmul144 {a b : Int} (ha : 1 ≤ a ∧ a ≤ 12) (hb : 1 ≤ b ∧ b ≤ 12) : 1 ≤ a * b ∧ a * b ≤ 144 := by
  rcases (by omega : a = 1 ∨ a = 2 ∨ a = 3 ∨ a = 4 ∨ a = 5 ∨ a = 6 ∨ a = 7 ∨ a = 8 ∨ a = 9 ∨ a = 10 ∨ a = 11 ∨ a = 12) with rfl | rfl | rfl | rfl | rfl | rfl | rfl | rfl | rfl | rfl | rfl | rfl <;> omega
/-- what it means that a HOLE can be NIBBLED -/
theorem mNib_ok {T : Int → Int} {h k t : Int} (hT : wfT T) (hh : 0 ≤ h ∧ h < T 3) (hk : 0 ≤ k ∧ k < T 2) (hn : mNib T h k t ≠ -4) : (t = 0 ∨ T (4 * k + 7) = 1) ∧ mWide T k t ≤ T (4 * h + 31) ∧ mHigh T k t ≤ T (4 * h + 32) ∧ mNib T h k t = ((T (4 * h + 31) + mWide T k t - 1) / mWide T k t) * ((T (4 * h + 32) + mHigh T k t - 1) / mHigh T k t) ∧ (1 ≤ (T (4 * h + 31) + mWide T k t - 1) / mWide T k t ∧ (T (4 * h + 31) + mWide T k t - 1) / mWide T k t ≤ 12) ∧ (1 ≤ (T (4 * h + 32) + mHigh T k t - 1) / mHigh T k t ∧ (T (4 * h + 32) + mHigh T k t - 1) / mHigh T k t ≤ 12) := by
  have hw := hT.w hk.1 hk.2 t
  have hg := hT.h hk.1 hk.2 t
  have hb := hT.2.2.2.2.2.2.2.1 h hh.1 hh.2
  have q0 := hT.2.1
  have q1 := hT.2.2.1
  unfold mNib at hn ⊢
  split at hn
  · next c =>
    rw [if_pos c]
    exact ⟨c.1, c.2.1, c.2.2, rfl, zparts hw.1 (by omega), zparts hg.1 (by omega)⟩
  · exact absurd rfl hn
theorem mNib_b {T : Int → Int} {h k t : Int} (hT : wfT T) (hh : 0 ≤ h ∧ h < T 3) (hk : 0 ≤ k ∧ k < T 2) : -4 ≤ mNib T h k t ∧ mNib T h k t ≤ 144 := by
  by_cases hn : mNib T h k t = -4
  · omega
  · obtain ⟨-, -, -, e, h1, h2⟩ := mNib_ok hT hh hk hn
    have := zmul144 h1 h2
    omega
theorem mNxy {T : Int → Int} {h k t i : Int} (hT : wfT T) (hh : 0 ≤ h ∧ h < T 3) (hk : 0 ≤ k ∧ k < T 2) (hn : mNib T h k t ≠ -4) (h0 : 0 ≤ i) (h1 : i < mNib T h k t) :
    (T (4 * h + 29) ≤ mNx T h k t i ∧ mNx T h k t i + mWide T k t ≤ T (4 * h + 29) + T (4 * h + 31)) ∧ (T (4 * h + 30) ≤ mNy T h k t i ∧ mNy T h k t i + mHigh T k t ≤ T (4 * h + 30) + T (4 * h + 32)) := by
  obtain ⟨-, w1, w2, e, r1, r2⟩ := mNib_ok hT hh hk hn
  have hw := hT.w hk.1 hk.2 t
  have hg := hT.h hk.1 hk.2 t
  rw [e] at h1
  have d := zdm h0 (by omega) h1
  have p1 := zmulb (r := i % ((T (4 * h + 31) + mWide T k t - 1) / mWide T k t)) hw (by omega)
  have p2 := zmulb (r := i / ((T (4 * h + 31) + mWide T k t - 1) / mWide T k t)) hg (by omega)
  constructor
  · unfold mNx; split <;> omega
  · unfold mNy; split <;> omega
theorem l_M_swaps (w : g_W) (σ0 : g_H0) (a : Nat) (I : Nat → Int) (A : Nat → Int → Int) : ∀ (n : Nat) (i : Int) (σ : g_H0), 0 ≤ i → i + n = 156 → rM a I (nup (nup A 3 (zcp (A 3) (A 5) 0 0 i)) 5 (zcp (A 5) (A 3) 0 0 i)) σ → g_Fr (mR a) σ0 σ → Go w mX9_swaps (0, 0) 2 [some (.ref a), some (.int (iZ i)), none] [] σ (fun r σ' => r = none ∧ rM a I (nup (nup A 3 (zcp (A 3) (A 5) 0 0 156)) 5 (zcp (A 5) (A 3) 0 0 156)) σ' ∧ g_Fr (mR a) σ0 σ') := by
  intro n
  induction n with
  | zero =>
    intro i σ h0 h1 hM hF
    obtain ⟨m0, m1, m2, m3, m4, m5, m6, m7, m8, m9, m10, m11⟩ := id hM
    have m4 : σ[a + 4]? = some (.inl (0, 156, .inl (zA (zcp (A 3) (A 5) 0 0 i)))) := m4
    have m6 : σ[a + 6]? = some (.inl (0, 156, .inl (zA (zcp (A 5) (A 3) 0 0 i)))) := m6
    have m1 : σ[a + 1]? = some (.inl (0, 200, .inl (zA (A 0)))) := m1
    have m2 : σ[a + 2]? = some (.inl (0, 51, .inl (zA (A 1)))) := m2
    have m3 : σ[a + 3]? = some (.inl (0, 51, .inl (zA (A 2)))) := m3
    have m5 : σ[a + 5]? = some (.inl (0, 936, .inl (zA (A 4)))) := m5
    have m7 : σ[a + 7]? = some (.inl (0, 64, .inl (zA (A 6)))) := m7
    have m8 : σ[a + 8]? = some (.inl (0, 5, .inl (zA (A 7)))) := m8
    have m9 : σ[a + 9]? = some (.inl (0, 5, .inl (zA (A 8)))) := m9
    have m10 : σ[a + 10]? = some (.inl (0, 60, .inl (zA (A 9)))) := m10
    have m11 : σ[a + 11]? = some (.inl (0, 5, .inl (zA (A 10)))) := m11
    refine g_iload_n (q := 3) dX9_swaps_2 rfl rfl ?_
    refine g_sipush (v := iZ 156) (q := 6) dX9_swaps_3 (by decide) rfl ?_
    refine z_icmp_ge (t := 41) (q := 9) dX9_swaps_6 rfl (by omega) rfl (fun pc1 => ?_) (fun pc1 => ?_)
    · refine z_vret dX9_swaps_41 rfl ?_
      obtain rfl : i = 156 := by omega
      exact ⟨rfl, hM, hF⟩
    · exfalso
      omega
  | succ n ih =>
    intro i σ h0 h1 hM hF
    obtain ⟨m0, m1, m2, m3, m4, m5, m6, m7, m8, m9, m10, m11⟩ := id hM
    have m4 : σ[a + 4]? = some (.inl (0, 156, .inl (zA (zcp (A 3) (A 5) 0 0 i)))) := m4
    have m6 : σ[a + 6]? = some (.inl (0, 156, .inl (zA (zcp (A 5) (A 3) 0 0 i)))) := m6
    have m1 : σ[a + 1]? = some (.inl (0, 200, .inl (zA (A 0)))) := m1
    have m2 : σ[a + 2]? = some (.inl (0, 51, .inl (zA (A 1)))) := m2
    have m3 : σ[a + 3]? = some (.inl (0, 51, .inl (zA (A 2)))) := m3
    have m5 : σ[a + 5]? = some (.inl (0, 936, .inl (zA (A 4)))) := m5
    have m7 : σ[a + 7]? = some (.inl (0, 64, .inl (zA (A 6)))) := m7
    have m8 : σ[a + 8]? = some (.inl (0, 5, .inl (zA (A 7)))) := m8
    have m9 : σ[a + 9]? = some (.inl (0, 5, .inl (zA (A 8)))) := m9
    have m10 : σ[a + 10]? = some (.inl (0, 60, .inl (zA (A 9)))) := m10
    have m11 : σ[a + 11]? = some (.inl (0, 5, .inl (zA (A 10)))) := m11
    refine g_iload_n (q := 3) dX9_swaps_2 rfl rfl ?_
    refine g_sipush (v := iZ 156) (q := 6) dX9_swaps_3 (by decide) rfl ?_
    refine z_icmp_ge (t := 41) (q := 9) dX9_swaps_6 rfl (by omega) rfl (fun pc1 => ?_) (fun pc1 => ?_)
    · exfalso
      omega
    · refine g_aload_n (q := 10) dX9_swaps_9 rfl rfl ?_
      refine g_get (q := 13) flX9_19 dX9_swaps_10 m0 rfl rfl ?_
      refine g_iload_n (q := 14) dX9_swaps_13 rfl rfl ?_
      refine z_iald (q := 15) dX9_swaps_14 m4 (by omega) rfl ?_
      refine g_istore_n (ml' := [some (.ref a), some (.int (iZ i)), some (.int (iZ ((zcp (A 3) (A 5) 0 0 i) i)))]) (q := 16) dX9_swaps_15 rfl (Nat.le_of_ble_eq_true rfl) rfl rfl ?_
      refine g_aload_n (q := 17) dX9_swaps_16 rfl rfl ?_
      refine g_get (q := 20) flX9_19 dX9_swaps_17 m0 rfl rfl ?_
      refine g_iload_n (q := 21) dX9_swaps_20 rfl rfl ?_
      refine g_aload_n (q := 22) dX9_swaps_21 rfl rfl ?_
      refine g_get (q := 25) flX9_25 dX9_swaps_22 m0 rfl rfl ?_
      refine g_iload_n (q := 26) dX9_swaps_25 rfl rfl ?_
      refine z_iald (q := 27) dX9_swaps_26 m6 (by omega) rfl ?_
      refine z_iast (q := 28) dX9_swaps_27 m4 (by omega) rfl (fun σ2 c3 f4 => ?_)
      have c5 := (f4.2 a (by omega)).trans m0
      have c6 := (f4.2 (a + 1) (by omega)).trans m1
      have c7 := (f4.2 (a + 2) (by omega)).trans m2
      have c8 := (f4.2 (a + 3) (by omega)).trans m3
      have c9 := (f4.2 (a + 5) (by omega)).trans m5
      have c10 := (f4.2 (a + 6) (by omega)).trans m6
      have c11 := (f4.2 (a + 7) (by omega)).trans m7
      have c12 := (f4.2 (a + 8) (by omega)).trans m8
      have c13 := (f4.2 (a + 9) (by omega)).trans m9
      have c14 := (f4.2 (a + 10) (by omega)).trans m10
      have c15 := (f4.2 (a + 11) (by omega)).trans m11
      refine g_aload_n (q := 29) dX9_swaps_28 rfl rfl ?_
      refine g_get (q := 32) flX9_25 dX9_swaps_29 c5 rfl rfl ?_
      refine g_iload_n (q := 33) dX9_swaps_32 rfl rfl ?_
      refine g_iload_n (q := 34) dX9_swaps_33 rfl rfl ?_
      refine z_iast (q := 35) dX9_swaps_34 c10 (by omega) rfl (fun σ16 c17 f18 => ?_)
      have c19 := (f18.2 a (by omega)).trans c5
      have c20 := (f18.2 (a + 1) (by omega)).trans c6
      have c21 := (f18.2 (a + 2) (by omega)).trans c7
      have c22 := (f18.2 (a + 3) (by omega)).trans c8
      have c23 := (f18.2 (a + 5) (by omega)).trans c9
      have c24 := (f18.2 (a + 7) (by omega)).trans c11
      have c25 := (f18.2 (a + 8) (by omega)).trans c12
      have c26 := (f18.2 (a + 9) (by omega)).trans c13
      have c27 := (f18.2 (a + 10) (by omega)).trans c14
      have c28 := (f18.2 (a + 11) (by omega)).trans c15
      have c29 := (f18.2 (a + 4) (by omega)).trans c3
      refine z_iincc (c := (i + 1)) (ml' := [some (.ref a), some (.int (iZ (i + 1))), some (.int (iZ ((zcp (A 3) (A 5) 0 0 i) i)))]) (q := 38) dX9_swaps_35 rfl (by omega) rfl rfl rfl ?_
      refine g_goto (q := 2) dX9_swaps_38 rfl ?_
      refine Go.wk (ml' := [some (.ref a), some (.int (iZ (i + 1))), none]) ⟨Or.inr rfl, Or.inr rfl, Or.inl rfl, trivial⟩ ?_
      exact ih (i + 1) σ16 (by omega) (by omega) (by rw [← zcp_step (d := A 3) (s := A 5) (i := i) (j := i) (v := zcp (A 5) (A 3) 0 0 i i) (by omega) (by omega) ((if_neg (by omega)).trans (congrArg (A 5) (by omega))), ← zcp_step (d := A 5) (s := A 3) (i := i) (j := i) (v := zcp (A 3) (A 5) 0 0 i i) (by omega) (by omega) ((if_neg (by omega)).trans (congrArg (A 3) (by omega)))]; exact ⟨c19, c20, c21, c22, c29, c23, c17, c24, c25, c26, c27, c28⟩) ((hF.step f4 ⟨by omega, by omega⟩).step f18 ⟨by omega, by omega⟩)
theorem r_M_swaps (σ : g_H0) (a : Nat) (I : Nat → Int) (A : Nat → Int → Int) (hM : rM a I A σ) : Ret mX9_swaps [.ref a] σ (fun r σ' => r = none ∧ rM a I (nup (nup A 3 (zcp (A 3) (A 5) 0 0 156)) 5 (zcp (A 5) (A 3) 0 0 156)) σ' ∧ g_Fr (mR a) σ σ') := by
  refine Ret.of moX9_swaps.1 (Nat.le_of_ble_eq_true rfl) (fun w => ?_)
  obtain ⟨m0, m1, m2, m3, m4, m5, m6, m7, m8, m9, m10, m11⟩ := id hM
  show Go w mX9_swaps (0, 0) 0 [some (.ref a), none, none] [] σ (fun r σ' => r = none ∧ rM a I (nup (nup A 3 (zcp (A 3) (A 5) 0 0 156)) 5 (zcp (A 5) (A 3) 0 0 156)) σ' ∧ g_Fr (mR a) σ σ')
  refine z_iconst (q := 1) dX9_swaps_0 rfl ?_
  refine g_istore_n (ml' := [some (.ref a), some (.int (iZ 0)), none]) (q := 2) dX9_swaps_1 rfl (Nat.le_of_ble_eq_true rfl) rfl rfl ?_
  exact l_M_swaps w σ a I A 156 0 σ (by omega) (by omega) (by rw [zcp_0, zcp_0]; exact hM.congr (fun j _ => rfl) (fun j _ => by rw [nup_id, nup_id])) g_Fr.rf
