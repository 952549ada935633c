/-! a HIT, what is open, NIBBLED -/
theorem z01_nar {l : Int} (h : 0 ≤ l ∧ l ≤ 1) : narrow .boolean (.int (iZ l)) = .int (iZ l) := by
  rcases (by omega : l = 0 ∨ l = 1) with rfl | rfl <;> rfl
def mAt (x y a c : Int) : Int := 12 * y + 12 * (c / a) + x + c % a
def mStrS (x y a : Int) : Nat → Int → (Int → Int) → (Int → Int)
  | 0, _, S => S
  | n + 1, c, S => mStrS x y a n (c + 1) (zup S (12 * y + 12 * (c / a) + x + c % a) 1)
def mStrN (x y a : Int) : Nat → Int → (Int → Int) → Int → Int
  | 0, _, _, m => m
  | n + 1, c, S, m => mStrN x y a n (c + 1) (zup S (12 * y + 12 * (c / a) + x + c % a) 1) (m - S (12 * y + 12 * (c / a) + x + c % a) + 1)
def mStrT (T : Int → Int) (k : Int) (S : Int → Int) : Int → Int :=
  zup (zup (zup (zup S (k + 144) (S (k + 144) + 1)) 153 (zup S (k + 144) (S (k + 144) + 1) 153 + 1)) 154 (zup (zup S (k + 144) (S (k + 144) + 1)) 153 (zup S (k + 144) (S (k + 144) + 1) 153 + 1) 154 + mRing T (S 150) k)) 150 k
def mStr (T S : Int → Int) (k x y t : Int) : Int → Int := mStrT T k (mStrS x y (mWide T k t) (mWide T k t * mHigh T k t).toNat 0 S)
def mCutF (S : Int → Int) (x y a : Int) : Nat → Int → Int → Int
  | 0, _, l => l
  | n + 1, c, l => mCutF S x y a n (c + 1) (if l = 1 ∧ S (12 * y + 12 * (c / a) + x + c % a) = 1 then 1 else 0)
def mOpenF (T S : Int → Int) (h : Int) : Nat → Int → Int → Int
  | 0, _, m => m
  | n + 1, c, m => mOpenF T S h n (c + 1) (m + (if mHole T (c % 12) (c / 12) = h then 1 - S c else 0))
def mOpen (T S : Int → Int) (h : Int) : Int := mOpenF T S h 144 0 0
def mNib (T : Int → Int) (h k t : Int) : Int :=
  if (t = 0 ∨ T (4 * k + 7) = 1) ∧ mWide T k t ≤ T (4 * h + 31) ∧ mHigh T k t ≤ T (4 * h + 32) then ((T (4 * h + 31) + mWide T k t - 1) / mWide T k t) * ((T (4 * h + 32) + mHigh T k t - 1) / mHigh T k t) else -4
theorem mCutF_b (S : Int → Int) (x y a : Int) : ∀ (n : Nat) (c l : Int), (0 ≤ l ∧ l ≤ 1) → 0 ≤ mCutF S x y a n c l ∧ mCutF S x y a n c l ≤ 1
  | 0, c, l, h => h
  | n + 1, c, l, h => by unfold mCutF; exact mCutF_b S x y a n _ _ (by split <;> omega)
theorem mOpenF_b (T S : Int → Int) (h : Int) (hS : ∀ c, 0 ≤ c → c < 144 → 0 ≤ S c ∧ S c ≤ 1) : ∀ (n : Nat) (c m : Int), 0 ≤ c → c + n ≤ 144 → m ≤ mOpenF T S h n c m ∧ mOpenF T S h n c m ≤ m + n
  | 0, c, m, _, _ => by unfold mOpenF; omega
  | n + 1, c, m, h0, h1 => by
    have hc := hS c h0 (by omega)
    have := mOpenF_b T S h hS n (c + 1) (m + (if mHole T (c % 12) (c / 12) = h then 1 - S c else 0)) (by omega) (by omega)
    unfold mOpenF
    split at this <;> (split <;> omega)
theorem mOpen_b (T S : Int → Int) (h : Int) (hS : ∀ c, 0 ≤ c → c < 144 → 0 ≤ S c ∧ S c ≤ 1) : 0 ≤ mOpen T S h ∧ mOpen T S h ≤ 144 := by
  have := mOpenF_b T S h hS 144 0 0 (by omega) (by omega)
  unfold mOpen; omega
theorem l_M_strikes (w : g_W) (Φ : g_Post) (σ0 : g_H0) (a : Nat) (I : Nat → Int) (A : Nat → Int → Int) (k x y t : Int) (bk : 0 ≤ k ∧ k < 6) (b_x : 0 ≤ x ∧ x < 1000) (b_y : 0 ≤ y ∧ y < 1000) (b_t : 0 ≤ t ∧ t ≤ 1) (bT : zBd (A 1) 1000) (hw : 1 ≤ (mWide (A 1) k t) ∧ (mWide (A 1) k t) ≤ 6) (hh : 1 ≤ (mHigh (A 1) k t) ∧ (mHigh (A 1) k t) ≤ 6) (hcx : x + (mWide (A 1) k t) - 1 < 12) (hcy : y + (mHigh (A 1) k t) - 1 < 12) (Sf : Int → Int) (mf : Int) (K : ∀ σ : g_H0, rM a I (nup A 3 Sf) σ → g_Fr (mR a) σ0 σ → Go w mX9_strikes (0, 0) 78 [some (.ref a), some (.int (iZ k)), some (.int (iZ x)), some (.int (iZ y)), some (.int (iZ t)), some (.int (iZ (mWide (A 1) k t))), some (.int (iZ mf)), none, none] [] σ Φ) : ∀ (n : Nat) (c m : Int) (S : Int → Int) (σ : g_H0), 0 ≤ c → c + n = (mWide (A 1) k t) * (mHigh (A 1) k t) → mStrS x y (mWide (A 1) k t) n c S = Sf → mStrN x y (mWide (A 1) k t) n c S m = mf → rM a I (nup A 3 S) σ → g_Fr (mR a) σ0 σ → Go w mX9_strikes (0, 0) 15 [some (.ref a), some (.int (iZ k)), some (.int (iZ x)), some (.int (iZ y)), some (.int (iZ t)), some (.int (iZ (mWide (A 1) k t))), some (.int (iZ m)), some (.int (iZ c)), none] [] σ Φ := by
  intro n
  induction n with
  | zero =>
    intro c m S σ hc hcn hSf hmf hM hF
    obtain ⟨m0, m1, m2, m3, m4, m5, m6, m7, m8, m9, m10, m11⟩ := id hM
    have m4 : σ[a + 4]? = some (.inl (0, 156, .inl (zA S))) := m4
    have m1 : σ[a + 1]? = some (.inl (0, 200, .inl (zA (A 0)))) := m1
    have m2 : σ[a + 2]? = some (.inl (0, 51, .inl (zA (A 1)))) := m2
    have m3 : σ[a + 3]? = some (.inl (0, 51, .inl (zA (A 2)))) := m3
    have m5 : σ[a + 5]? = some (.inl (0, 936, .inl (zA (A 4)))) := m5
    have m6 : σ[a + 6]? = some (.inl (0, 156, .inl (zA (A 5)))) := m6
    have m7 : σ[a + 7]? = some (.inl (0, 64, .inl (zA (A 6)))) := m7
    have m8 : σ[a + 8]? = some (.inl (0, 5, .inl (zA (A 7)))) := m8
    have m9 : σ[a + 9]? = some (.inl (0, 5, .inl (zA (A 8)))) := m9
    have m10 : σ[a + 10]? = some (.inl (0, 60, .inl (zA (A 9)))) := m10
    have m11 : σ[a + 11]? = some (.inl (0, 5, .inl (zA (A 10)))) := m11
    have hab := zmul36 hw hh
    refine g_iload (q := 17) dX9_strikes_15 rfl rfl ?_
    refine g_iload (q := 19) dX9_strikes_17 rfl rfl ?_
    refine g_aload_n (q := 20) dX9_strikes_19 rfl rfl ?_
    refine g_iload_n (q := 21) dX9_strikes_20 rfl rfl ?_
    refine g_iload (q := 23) dX9_strikes_21 rfl rfl ?_
    refine g_callV (As := [.int (iZ k), .int (iZ t)]) (rest := [.int (iZ (mWide (A 1) k t)), .int (iZ c)]) (q := 26) moX9_high lkX9_strikes_118 dX9_strikes_23 rfl m0 (r_M_high σ a I (nup A 3 S) hM k t (by omega) (by omega) bT) rfl rfl (Nat.le_of_ble_eq_true rfl) (Nat.le_of_ble_eq_true rfl) (Nat.le_of_ble_eq_true rfl) rfl ?_
    rintro r1 s1 hp
    rw [hp.1, hp.2]
    show Go w mX9_strikes (0, 0) 26 [some (.ref a), some (.int (iZ k)), some (.int (iZ x)), some (.int (iZ y)), some (.int (iZ t)), some (.int (iZ (mWide (A 1) k t))), some (.int (iZ m)), some (.int (iZ c)), none] [.int (iZ (mHigh (A 1) k t)), .int (iZ (mWide (A 1) k t)), .int (iZ c)] σ Φ
    refine z_imul (q := 27) dX9_strikes_26 rfl ?_
    refine z_icmp_ge (t := 78) (q := 30) dX9_strikes_27 rfl (by omega) rfl (fun pc1 => ?_) (fun pc1 => ?_)
    · refine Go.wk (ml' := [some (.ref a), some (.int (iZ k)), some (.int (iZ x)), some (.int (iZ y)), some (.int (iZ t)), some (.int (iZ (mWide (A 1) k t))), some (.int (iZ m)), none, none]) ⟨Or.inr rfl, Or.inr rfl, Or.inr rfl, Or.inr rfl, Or.inr rfl, Or.inr rfl, Or.inr rfl, Or.inl rfl, Or.inl rfl, trivial⟩ ?_
      subst hSf; subst hmf
      exact K σ hM hF
    · have dm := zdm (c := c) (a := (mWide (A 1) k t)) (b := (mHigh (A 1) k t)) (by omega) (by omega) (by omega)
      exfalso
      omega
  | succ n ih =>
    intro c m S σ hc hcn hSf hmf hM hF
    obtain ⟨m0, m1, m2, m3, m4, m5, m6, m7, m8, m9, m10, m11⟩ := id hM
    have m4 : σ[a + 4]? = some (.inl (0, 156, .inl (zA S))) := m4
    have m1 : σ[a + 1]? = some (.inl (0, 200, .inl (zA (A 0)))) := m1
    have m2 : σ[a + 2]? = some (.inl (0, 51, .inl (zA (A 1)))) := m2
    have m3 : σ[a + 3]? = some (.inl (0, 51, .inl (zA (A 2)))) := m3
    have m5 : σ[a + 5]? = some (.inl (0, 936, .inl (zA (A 4)))) := m5
    have m6 : σ[a + 6]? = some (.inl (0, 156, .inl (zA (A 5)))) := m6
    have m7 : σ[a + 7]? = some (.inl (0, 64, .inl (zA (A 6)))) := m7
    have m8 : σ[a + 8]? = some (.inl (0, 5, .inl (zA (A 7)))) := m8
    have m9 : σ[a + 9]? = some (.inl (0, 5, .inl (zA (A 8)))) := m9
    have m10 : σ[a + 10]? = some (.inl (0, 60, .inl (zA (A 9)))) := m10
    have m11 : σ[a + 11]? = some (.inl (0, 5, .inl (zA (A 10)))) := m11
    have hab := zmul36 hw hh
    refine g_iload (q := 17) dX9_strikes_15 rfl rfl ?_
    refine g_iload (q := 19) dX9_strikes_17 rfl rfl ?_
    refine g_aload_n (q := 20) dX9_strikes_19 rfl rfl ?_
    refine g_iload_n (q := 21) dX9_strikes_20 rfl rfl ?_
    refine g_iload (q := 23) dX9_strikes_21 rfl rfl ?_
    refine g_callV (As := [.int (iZ k), .int (iZ t)]) (rest := [.int (iZ (mWide (A 1) k t)), .int (iZ c)]) (q := 26) moX9_high lkX9_strikes_118 dX9_strikes_23 rfl m0 (r_M_high σ a I (nup A 3 S) hM k t (by omega) (by omega) bT) rfl rfl (Nat.le_of_ble_eq_true rfl) (Nat.le_of_ble_eq_true rfl) (Nat.le_of_ble_eq_true rfl) rfl ?_
    rintro r1 s1 hp
    rw [hp.1, hp.2]
    show Go w mX9_strikes (0, 0) 26 [some (.ref a), some (.int (iZ k)), some (.int (iZ x)), some (.int (iZ y)), some (.int (iZ t)), some (.int (iZ (mWide (A 1) k t))), some (.int (iZ m)), some (.int (iZ c)), none] [.int (iZ (mHigh (A 1) k t)), .int (iZ (mWide (A 1) k t)), .int (iZ c)] σ Φ
    refine z_imul (q := 27) dX9_strikes_26 rfl ?_
    refine z_icmp_ge (t := 78) (q := 30) dX9_strikes_27 rfl (by omega) rfl (fun pc1 => ?_) (fun pc1 => ?_)
    · exfalso
      omega
    · have dm := zdm (c := c) (a := (mWide (A 1) k t)) (b := (mHigh (A 1) k t)) (by omega) (by omega) (by omega)
      refine g_bipush (v := iZ 12) (q := 32) dX9_strikes_30 (by decide) rfl ?_
      refine g_iload_n (q := 33) dX9_strikes_32 rfl rfl ?_
      refine g_iload (q := 35) dX9_strikes_33 rfl rfl ?_
      refine g_iload (q := 37) dX9_strikes_35 rfl rfl ?_
      refine z_idiv (q := 38) dX9_strikes_37 (by omega) rfl ?_
      refine z_iadd (q := 39) dX9_strikes_38 rfl ?_
      refine z_imulc (c := (12 * y + 12 * (c / (mWide (A 1) k t)))) (q := 40) dX9_strikes_39 (by omega) rfl ?_
      refine g_iload_n (q := 41) dX9_strikes_40 rfl rfl ?_
      refine z_iaddc (c := (12 * y + 12 * (c / (mWide (A 1) k t)) + x)) (q := 42) dX9_strikes_41 (by omega) rfl ?_
      refine g_iload (q := 44) dX9_strikes_42 rfl rfl ?_
      refine g_iload (q := 46) dX9_strikes_44 rfl rfl ?_
      refine z_irem (q := 47) dX9_strikes_46 (by omega) rfl ?_
      refine z_iaddc (c := (12 * y + 12 * (c / (mWide (A 1) k t)) + x + (c % (mWide (A 1) k t)))) (q := 48) dX9_strikes_47 (by omega) rfl ?_
      refine g_istore (ml' := [some (.ref a), some (.int (iZ k)), some (.int (iZ x)), some (.int (iZ y)), some (.int (iZ t)), some (.int (iZ (mWide (A 1) k t))), some (.int (iZ m)), some (.int (iZ c)), some (.int (iZ (12 * y + 12 * (c / (mWide (A 1) k t)) + x + (c % (mWide (A 1) k t)))))]) (q := 50) dX9_strikes_48 rfl (Nat.le_of_ble_eq_true rfl) rfl rfl ?_
      refine g_iload (q := 52) dX9_strikes_50 rfl rfl ?_
      refine z_iconst (q := 53) dX9_strikes_52 rfl ?_
      refine g_aload_n (q := 54) dX9_strikes_53 rfl rfl ?_
      refine g_get (q := 57) flX9_19 dX9_strikes_54 m0 rfl rfl ?_
      refine g_iload (q := 59) dX9_strikes_57 rfl rfl ?_
      refine z_iald (q := 60) dX9_strikes_59 m4 (by omega) rfl ?_
      refine z_isubc (c := (-(S (12 * y + 12 * (c / (mWide (A 1) k t)) + x + (c % (mWide (A 1) k t)))) + 1)) (q := 61) dX9_strikes_60 (by omega) rfl ?_
      refine z_iaddc (c := (m - (S (12 * y + 12 * (c / (mWide (A 1) k t)) + x + (c % (mWide (A 1) k t)))) + 1)) (q := 62) dX9_strikes_61 (by omega) rfl ?_
      refine g_istore (ml' := [some (.ref a), some (.int (iZ k)), some (.int (iZ x)), some (.int (iZ y)), some (.int (iZ t)), some (.int (iZ (mWide (A 1) k t))), some (.int (iZ (m - (S (12 * y + 12 * (c / (mWide (A 1) k t)) + x + (c % (mWide (A 1) k t)))) + 1))), some (.int (iZ c)), some (.int (iZ (12 * y + 12 * (c / (mWide (A 1) k t)) + x + (c % (mWide (A 1) k t)))))]) (q := 64) dX9_strikes_62 rfl (Nat.le_of_ble_eq_true rfl) rfl rfl ?_
      refine g_aload_n (q := 65) dX9_strikes_64 rfl rfl ?_
      refine g_get (q := 68) flX9_19 dX9_strikes_65 m0 rfl rfl ?_
      refine g_iload (q := 70) dX9_strikes_68 rfl rfl ?_
      refine z_iconst (q := 71) dX9_strikes_70 rfl ?_
      refine z_iast (q := 72) dX9_strikes_71 m4 (by omega) rfl (fun σ2 c3 f4 => ?_)
      have c5 := (f4.2 a (by omega)).trans m0
      have c6 := (f4.2 (a + 1) (by omega)).trans m1
      have c7 := (f4.2 (a + 2) (by omega)).trans m2
      have c8 := (f4.2 (a + 3) (by omega)).trans m3
      have c9 := (f4.2 (a + 5) (by omega)).trans m5
      have c10 := (f4.2 (a + 6) (by omega)).trans m6
      have c11 := (f4.2 (a + 7) (by omega)).trans m7
      have c12 := (f4.2 (a + 8) (by omega)).trans m8
      have c13 := (f4.2 (a + 9) (by omega)).trans m9
      have c14 := (f4.2 (a + 10) (by omega)).trans m10
      have c15 := (f4.2 (a + 11) (by omega)).trans m11
      refine z_iincc (c := (c + 1)) (ml' := [some (.ref a), some (.int (iZ k)), some (.int (iZ x)), some (.int (iZ y)), some (.int (iZ t)), some (.int (iZ (mWide (A 1) k t))), some (.int (iZ (m - (S (12 * y + 12 * (c / (mWide (A 1) k t)) + x + (c % (mWide (A 1) k t)))) + 1))), some (.int (iZ (c + 1))), some (.int (iZ (12 * y + 12 * (c / (mWide (A 1) k t)) + x + (c % (mWide (A 1) k t)))))]) (q := 75) dX9_strikes_72 rfl (by omega) rfl rfl rfl ?_
      refine g_goto (q := 15) dX9_strikes_75 rfl ?_
      refine Go.wk (ml' := [some (.ref a), some (.int (iZ k)), some (.int (iZ x)), some (.int (iZ y)), some (.int (iZ t)), some (.int (iZ (mWide (A 1) k t))), some (.int (iZ (m - (S (12 * y + 12 * (c / (mWide (A 1) k t)) + x + (c % (mWide (A 1) k t)))) + 1))), some (.int (iZ (c + 1))), none]) ⟨Or.inr rfl, Or.inr rfl, Or.inr rfl, Or.inr rfl, Or.inr rfl, Or.inr rfl, Or.inr rfl, Or.inr rfl, Or.inl rfl, trivial⟩ ?_
      exact ih (c + 1) (m - (S (12 * y + 12 * (c / (mWide (A 1) k t)) + x + (c % (mWide (A 1) k t)))) + 1) _ σ2 (by omega) (by omega) hSf hmf ⟨c5, c6, c7, c8, c3, c9, c10, c11, c12, c13, c14, c15⟩ (hF.step f4 ⟨by omega, by omega⟩)
theorem r_M_strikes (σ : g_H0) (a : Nat) (I : Nat → Int) (A : Nat → Int → Int) (hM : rM a I A σ) (k x y t : Int) (bk : 0 ≤ k ∧ k < 6) (b_x : 0 ≤ x ∧ x < 1000) (b_y : 0 ≤ y ∧ y < 1000) (b_t : 0 ≤ t ∧ t ≤ 1) (bT : zBd (A 1) 1000) (hw : 1 ≤ (mWide (A 1) k t) ∧ (mWide (A 1) k t) ≤ 6) (hh : 1 ≤ (mHigh (A 1) k t) ∧ (mHigh (A 1) k t) ≤ 6) (hcx : x + (mWide (A 1) k t) - 1 < 12) (hcy : y + (mHigh (A 1) k t) - 1 < 12) (hS150 : (mStrS x y (mWide (A 1) k t) ((mWide (A 1) k t) * (mHigh (A 1) k t)).toNat 0 (A 3)) 150 = A 3 150 ∧ 0 ≤ A 3 150 ∧ A 3 150 < 6) : Ret mX9_strikes [.ref a, .int (iZ k), .int (iZ x), .int (iZ y), .int (iZ t)] σ (fun r σ' => r = some (.int (iZ (mStrN x y (mWide (A 1) k t) ((mWide (A 1) k t) * (mHigh (A 1) k t)).toNat 0 (A 3) 0))) ∧ rM a I (nup A 3 (mStr (A 1) (A 3) k x y t)) σ' ∧ g_Fr (mR a) σ σ') := by
  refine Ret.of moX9_strikes.1 (Nat.le_of_ble_eq_true rfl) (fun w => ?_)
  obtain ⟨m0, m1, m2, m3, m4, m5, m6, m7, m8, m9, m10, m11⟩ := id hM
  show Go w mX9_strikes (0, 0) 0 [some (.ref a), some (.int (iZ k)), some (.int (iZ x)), some (.int (iZ y)), some (.int (iZ t)), none, none, none, none] [] σ (fun r σ' => r = some (.int (iZ (mStrN x y (mWide (A 1) k t) ((mWide (A 1) k t) * (mHigh (A 1) k t)).toNat 0 (A 3) 0))) ∧ rM a I (nup A 3 (mStr (A 1) (A 3) k x y t)) σ' ∧ g_Fr (mR a) σ σ')
  refine g_aload_n (q := 1) dX9_strikes_0 rfl rfl ?_
  refine g_iload_n (q := 2) dX9_strikes_1 rfl rfl ?_
  refine g_iload (q := 4) dX9_strikes_2 rfl rfl ?_
  refine g_callV (As := [.int (iZ k), .int (iZ t)]) (rest := []) (q := 7) moX9_wide lkX9_strikes_114 dX9_strikes_4 rfl m0 (r_M_wide σ a I A hM k t (by omega) (by omega) bT) rfl rfl (Nat.le_of_ble_eq_true rfl) (Nat.le_of_ble_eq_true rfl) (Nat.le_of_ble_eq_true rfl) rfl ?_
  rintro r1 s1 hp
  rw [hp.1, hp.2]
  show Go w mX9_strikes (0, 0) 7 [some (.ref a), some (.int (iZ k)), some (.int (iZ x)), some (.int (iZ y)), some (.int (iZ t)), none, none, none, none] [.int (iZ (mWide (A 1) k t))] σ (fun r σ' => r = some (.int (iZ (mStrN x y (mWide (A 1) k t) ((mWide (A 1) k t) * (mHigh (A 1) k t)).toNat 0 (A 3) 0))) ∧ rM a I (nup A 3 (mStr (A 1) (A 3) k x y t)) σ' ∧ g_Fr (mR a) σ σ')
  refine g_istore (ml' := [some (.ref a), some (.int (iZ k)), some (.int (iZ x)), some (.int (iZ y)), some (.int (iZ t)), some (.int (iZ (mWide (A 1) k t))), none, none, none]) (q := 9) dX9_strikes_7 rfl (Nat.le_of_ble_eq_true rfl) rfl rfl ?_
  refine z_iconst (q := 10) dX9_strikes_9 rfl ?_
  refine g_istore (ml' := [some (.ref a), some (.int (iZ k)), some (.int (iZ x)), some (.int (iZ y)), some (.int (iZ t)), some (.int (iZ (mWide (A 1) k t))), some (.int (iZ 0)), none, none]) (q := 12) dX9_strikes_10 rfl (Nat.le_of_ble_eq_true rfl) rfl rfl ?_
  refine z_iconst (q := 13) dX9_strikes_12 rfl ?_
  refine g_istore (ml' := [some (.ref a), some (.int (iZ k)), some (.int (iZ x)), some (.int (iZ y)), some (.int (iZ t)), some (.int (iZ (mWide (A 1) k t))), some (.int (iZ 0)), some (.int (iZ 0)), none]) (q := 15) dX9_strikes_13 rfl (Nat.le_of_ble_eq_true rfl) rfl rfl ?_
  refine l_M_strikes w _ σ a I A k x y t bk b_x b_y b_t bT hw hh hcx hcy (mStrS x y (mWide (A 1) k t) ((mWide (A 1) k t) * (mHigh (A 1) k t)).toNat 0 (A 3)) (mStrN x y (mWide (A 1) k t) ((mWide (A 1) k t) * (mHigh (A 1) k t)).toNat 0 (A 3) 0) (fun σ hM hF => ?_) ((mWide (A 1) k t) * (mHigh (A 1) k t)).toNat 0 0 (A 3) σ (by omega) (by have := zmul36 hw hh; omega) rfl rfl (by rw [nup_id]; exact hM) g_Fr.rf
  have e150 := hS150
  obtain ⟨m0, m1, m2, m3, m4, m5, m6, m7, m8, m9, m10, m11⟩ := id hM
  have m4 : σ[a + 4]? = some (.inl (0, 156, .inl (zA (mStrS x y (mWide (A 1) k t) ((mWide (A 1) k t) * (mHigh (A 1) k t)).toNat 0 (A 3))))) := m4
  have m1 : σ[a + 1]? = some (.inl (0, 200, .inl (zA (A 0)))) := m1
  have m2 : σ[a + 2]? = some (.inl (0, 51, .inl (zA (A 1)))) := m2
  have m3 : σ[a + 3]? = some (.inl (0, 51, .inl (zA (A 2)))) := m3
  have m5 : σ[a + 5]? = some (.inl (0, 936, .inl (zA (A 4)))) := m5
  have m6 : σ[a + 6]? = some (.inl (0, 156, .inl (zA (A 5)))) := m6
  have m7 : σ[a + 7]? = some (.inl (0, 64, .inl (zA (A 6)))) := m7
  have m8 : σ[a + 8]? = some (.inl (0, 5, .inl (zA (A 7)))) := m8
  have m9 : σ[a + 9]? = some (.inl (0, 5, .inl (zA (A 8)))) := m9
  have m10 : σ[a + 10]? = some (.inl (0, 60, .inl (zA (A 9)))) := m10
  have m11 : σ[a + 11]? = some (.inl (0, 5, .inl (zA (A 10)))) := m11
  refine g_aload_n (q := 79) dX9_strikes_78 rfl rfl ?_
  refine g_get (q := 82) flX9_19 dX9_strikes_79 m0 rfl rfl ?_
  refine g_sipush (v := iZ 144) (q := 85) dX9_strikes_82 (by decide) rfl ?_
  refine g_iload_n (q := 86) dX9_strikes_85 rfl rfl ?_
  refine z_iaddc (c := (k + 144)) (q := 87) dX9_strikes_86 (by omega) rfl ?_
  refine g_dup2 (q := 88) dX9_strikes_87 rfl rfl rfl ?_
  refine z_iald (q := 89) dX9_strikes_88 m4 (by omega) rfl ?_
  refine z_iconst (q := 90) dX9_strikes_89 rfl ?_
  refine z_iadd (q := 91) dX9_strikes_90 rfl ?_
  refine z_iast (q := 92) dX9_strikes_91 m4 (by omega) rfl (fun σ1 c2 f3 => ?_)
  have c4 := (f3.2 a (by omega)).trans m0
  have c5 := (f3.2 (a + 1) (by omega)).trans m1
  have c6 := (f3.2 (a + 2) (by omega)).trans m2
  have c7 := (f3.2 (a + 3) (by omega)).trans m3
  have c8 := (f3.2 (a + 5) (by omega)).trans m5
  have c9 := (f3.2 (a + 6) (by omega)).trans m6
  have c10 := (f3.2 (a + 7) (by omega)).trans m7
  have c11 := (f3.2 (a + 8) (by omega)).trans m8
  have c12 := (f3.2 (a + 9) (by omega)).trans m9
  have c13 := (f3.2 (a + 10) (by omega)).trans m10
  have c14 := (f3.2 (a + 11) (by omega)).trans m11
  refine g_aload_n (q := 93) dX9_strikes_92 rfl rfl ?_
  refine g_get (q := 96) flX9_19 dX9_strikes_93 c4 rfl rfl ?_
  refine g_sipush (v := iZ 153) (q := 99) dX9_strikes_96 (by decide) rfl ?_
  refine g_dup2 (q := 100) dX9_strikes_99 rfl rfl rfl ?_
  refine z_iald (q := 101) dX9_strikes_100 c2 (by omega) rfl ?_
  refine z_iconst (q := 102) dX9_strikes_101 rfl ?_
  refine z_iadd (q := 103) dX9_strikes_102 rfl ?_
  refine z_iast (q := 104) dX9_strikes_103 c2 (by omega) rfl (fun σ15 c16 f17 => ?_)
  have c18 := (f17.2 a (by omega)).trans c4
  have c19 := (f17.2 (a + 1) (by omega)).trans c5
  have c20 := (f17.2 (a + 2) (by omega)).trans c6
  have c21 := (f17.2 (a + 3) (by omega)).trans c7
  have c22 := (f17.2 (a + 5) (by omega)).trans c8
  have c23 := (f17.2 (a + 6) (by omega)).trans c9
  have c24 := (f17.2 (a + 7) (by omega)).trans c10
  have c25 := (f17.2 (a + 8) (by omega)).trans c11
  have c26 := (f17.2 (a + 9) (by omega)).trans c12
  have c27 := (f17.2 (a + 10) (by omega)).trans c13
  have c28 := (f17.2 (a + 11) (by omega)).trans c14
  refine g_aload_n (q := 105) dX9_strikes_104 rfl rfl ?_
  refine g_get (q := 108) flX9_19 dX9_strikes_105 c18 rfl rfl ?_
  refine g_sipush (v := iZ 154) (q := 111) dX9_strikes_108 (by decide) rfl ?_
  refine g_dup2 (q := 112) dX9_strikes_111 rfl rfl rfl ?_
  refine z_iald (q := 113) dX9_strikes_112 c16 (by omega) rfl ?_
  refine g_aload_n (q := 114) dX9_strikes_113 rfl rfl ?_
  refine g_aload_n (q := 115) dX9_strikes_114 rfl rfl ?_
  refine g_get (q := 118) flX9_19 dX9_strikes_115 c18 rfl rfl ?_
  refine g_sipush (v := iZ 150) (q := 121) dX9_strikes_118 (by decide) rfl ?_
  refine z_iald (q := 122) dX9_strikes_121 c16 (by omega) rfl ?_
  have e15 : ((zup (zup (mStrS x y (mWide (A 1) k t) ((mWide (A 1) k t) * (mHigh (A 1) k t)).toNat 0 (A 3)) (k + 144) (((mStrS x y (mWide (A 1) k t) ((mWide (A 1) k t) * (mHigh (A 1) k t)).toNat 0 (A 3)) (k + 144)) + 1)) 153 (((zup (mStrS x y (mWide (A 1) k t) ((mWide (A 1) k t) * (mHigh (A 1) k t)).toNat 0 (A 3)) (k + 144) (((mStrS x y (mWide (A 1) k t) ((mWide (A 1) k t) * (mHigh (A 1) k t)).toNat 0 (A 3)) (k + 144)) + 1)) 153) + 1)) 150) = A 3 150 := by rw [zup_ne _ _ (by omega), zup_ne _ _ (by omega)]; exact hS150.1
  rw [e15]
  refine g_iload_n (q := 123) dX9_strikes_122 rfl rfl ?_
  have hN : rM a I (nup A 3 (zup (zup (mStrS x y (mWide (A 1) k t) ((mWide (A 1) k t) * (mHigh (A 1) k t)).toNat 0 (A 3)) (k + 144) (((mStrS x y (mWide (A 1) k t) ((mWide (A 1) k t) * (mHigh (A 1) k t)).toNat 0 (A 3)) (k + 144)) + 1)) 153 (((zup (mStrS x y (mWide (A 1) k t) ((mWide (A 1) k t) * (mHigh (A 1) k t)).toNat 0 (A 3)) (k + 144) (((mStrS x y (mWide (A 1) k t) ((mWide (A 1) k t) * (mHigh (A 1) k t)).toNat 0 (A 3)) (k + 144)) + 1)) 153) + 1))) σ15 := ⟨c18, c19, c20, c21, c16, c22, c23, c24, c25, c26, c27, c28⟩
  refine g_callV (As := [.int (iZ (A 3 150)), .int (iZ k)]) (rest := [.int (iZ ((zup (zup (mStrS x y (mWide (A 1) k t) ((mWide (A 1) k t) * (mHigh (A 1) k t)).toNat 0 (A 3)) (k + 144) (((mStrS x y (mWide (A 1) k t) ((mWide (A 1) k t) * (mHigh (A 1) k t)).toNat 0 (A 3)) (k + 144)) + 1)) 153 (((zup (mStrS x y (mWide (A 1) k t) ((mWide (A 1) k t) * (mHigh (A 1) k t)).toNat 0 (A 3)) (k + 144) (((mStrS x y (mWide (A 1) k t) ((mWide (A 1) k t) * (mHigh (A 1) k t)).toNat 0 (A 3)) (k + 144)) + 1)) 153) + 1)) 154)), .int (iZ 154), .ref (a + 4)]) (q := 126) moX9_ring lkX9_strikes_143 dX9_strikes_123 rfl c18 (r_M_ring σ15 a I _ hN (A 3 150) k (by omega) (by omega) bT) rfl rfl (Nat.le_of_ble_eq_true rfl) (Nat.le_of_ble_eq_true rfl) (Nat.le_of_ble_eq_true rfl) rfl ?_
  rintro r1 s1 hp
  rw [hp.1, hp.2]
  show Go w mX9_strikes (0, 0) 126 [some (.ref a), some (.int (iZ k)), some (.int (iZ x)), some (.int (iZ y)), some (.int (iZ t)), some (.int (iZ (mWide (A 1) k t))), some (.int (iZ (mStrN x y (mWide (A 1) k t) ((mWide (A 1) k t) * (mHigh (A 1) k t)).toNat 0 (A 3) 0))), none, none] [.int (iZ (mRing (A 1) (A 3 150) k)), .int (iZ ((zup (zup (mStrS x y (mWide (A 1) k t) ((mWide (A 1) k t) * (mHigh (A 1) k t)).toNat 0 (A 3)) (k + 144) (((mStrS x y (mWide (A 1) k t) ((mWide (A 1) k t) * (mHigh (A 1) k t)).toNat 0 (A 3)) (k + 144)) + 1)) 153 (((zup (mStrS x y (mWide (A 1) k t) ((mWide (A 1) k t) * (mHigh (A 1) k t)).toNat 0 (A 3)) (k + 144) (((mStrS x y (mWide (A 1) k t) ((mWide (A 1) k t) * (mHigh (A 1) k t)).toNat 0 (A 3)) (k + 144)) + 1)) 153) + 1)) 154)), .int (iZ 154), .ref (a + 4)] σ15 _
  refine z_iadd (q := 127) dX9_strikes_126 rfl ?_
  refine z_iast (q := 128) dX9_strikes_127 c16 (by omega) rfl (fun σ29 c30 f31 => ?_)
  have c32 := (f31.2 a (by omega)).trans c18
  have c33 := (f31.2 (a + 1) (by omega)).trans c19
  have c34 := (f31.2 (a + 2) (by omega)).trans c20
  have c35 := (f31.2 (a + 3) (by omega)).trans c21
  have c36 := (f31.2 (a + 5) (by omega)).trans c22
  have c37 := (f31.2 (a + 6) (by omega)).trans c23
  have c38 := (f31.2 (a + 7) (by omega)).trans c24
  have c39 := (f31.2 (a + 8) (by omega)).trans c25
  have c40 := (f31.2 (a + 9) (by omega)).trans c26
  have c41 := (f31.2 (a + 10) (by omega)).trans c27
  have c42 := (f31.2 (a + 11) (by omega)).trans c28
  refine g_aload_n (q := 129) dX9_strikes_128 rfl rfl ?_
  refine g_get (q := 132) flX9_19 dX9_strikes_129 c32 rfl rfl ?_
  refine g_sipush (v := iZ 150) (q := 135) dX9_strikes_132 (by decide) rfl ?_
  refine g_iload_n (q := 136) dX9_strikes_135 rfl rfl ?_
  refine z_iast (q := 137) dX9_strikes_136 c30 (by omega) rfl (fun σ43 c44 f45 => ?_)
  have c46 := (f45.2 a (by omega)).trans c32
  have c47 := (f45.2 (a + 1) (by omega)).trans c33
  have c48 := (f45.2 (a + 2) (by omega)).trans c34
  have c49 := (f45.2 (a + 3) (by omega)).trans c35
  have c50 := (f45.2 (a + 5) (by omega)).trans c36
  have c51 := (f45.2 (a + 6) (by omega)).trans c37
  have c52 := (f45.2 (a + 7) (by omega)).trans c38
  have c53 := (f45.2 (a + 8) (by omega)).trans c39
  have c54 := (f45.2 (a + 9) (by omega)).trans c40
  have c55 := (f45.2 (a + 10) (by omega)).trans c41
  have c56 := (f45.2 (a + 11) (by omega)).trans c42
  refine g_iload (q := 139) dX9_strikes_137 rfl rfl ?_
  refine z_iret dX9_strikes_139 rfl ?_
  refine ⟨rfl, ?_, ((((hF.step f3 ⟨by omega, by omega⟩).step f17 ⟨by omega, by omega⟩).step f31 ⟨by omega, by omega⟩).step f45 ⟨by omega, by omega⟩)⟩
  have hN : rM a I (nup A 3 (zup (zup (zup (zup (mStrS x y (mWide (A 1) k t) ((mWide (A 1) k t) * (mHigh (A 1) k t)).toNat 0 (A 3)) (k + 144) (((mStrS x y (mWide (A 1) k t) ((mWide (A 1) k t) * (mHigh (A 1) k t)).toNat 0 (A 3)) (k + 144)) + 1)) 153 (((zup (mStrS x y (mWide (A 1) k t) ((mWide (A 1) k t) * (mHigh (A 1) k t)).toNat 0 (A 3)) (k + 144) (((mStrS x y (mWide (A 1) k t) ((mWide (A 1) k t) * (mHigh (A 1) k t)).toNat 0 (A 3)) (k + 144)) + 1)) 153) + 1)) 154 (((zup (zup (mStrS x y (mWide (A 1) k t) ((mWide (A 1) k t) * (mHigh (A 1) k t)).toNat 0 (A 3)) (k + 144) (((mStrS x y (mWide (A 1) k t) ((mWide (A 1) k t) * (mHigh (A 1) k t)).toNat 0 (A 3)) (k + 144)) + 1)) 153 (((zup (mStrS x y (mWide (A 1) k t) ((mWide (A 1) k t) * (mHigh (A 1) k t)).toNat 0 (A 3)) (k + 144) (((mStrS x y (mWide (A 1) k t) ((mWide (A 1) k t) * (mHigh (A 1) k t)).toNat 0 (A 3)) (k + 144)) + 1)) 153) + 1)) 154) + (mRing (A 1) (A 3 150) k))) 150 k)) σ43 := ⟨c46, c47, c48, c49, c44, c50, c51, c52, c53, c54, c55, c56⟩
  refine hN.congr (fun j _ => rfl) (fun j _ => ?_)
  unfold mStr mStrT; rw [hS150.1]
theorem l_M_isCut (w : g_W) (σ : g_H0) (a : Nat) (I : Nat → Int) (A : Nat → Int → Int) (hM : rM a I A σ) (k x y t : Int) (bk : 0 ≤ k ∧ k < 6) (b_x : 0 ≤ x ∧ x < 1000) (b_y : 0 ≤ y ∧ y < 1000) (b_t : 0 ≤ t ∧ t ≤ 1) (bT : zBd (A 1) 1000) (bS : zBs (A 3)) (hw : 1 ≤ (mWide (A 1) k t) ∧ (mWide (A 1) k t) ≤ 6) (hh : 1 ≤ (mHigh (A 1) k t) ∧ (mHigh (A 1) k t) ≤ 6) (hcx : x + (mWide (A 1) k t) - 1 < 12) (hcy : y + (mHigh (A 1) k t) - 1 < 12) : ∀ (n : Nat) (c l : Int), 0 ≤ c → c + n = (mWide (A 1) k t) * (mHigh (A 1) k t) → (0 ≤ l ∧ l ≤ 1) → Go w mX9_isCut (0, 0) 15 [some (.ref a), some (.int (iZ k)), some (.int (iZ x)), some (.int (iZ y)), some (.int (iZ t)), some (.int (iZ (mWide (A 1) k t))), some (.int (iZ l)), some (.int (iZ c))] [] σ (fun r σ' => r = some (.int (iZ (mCutF (A 3) x y (mWide (A 1) k t) n c l))) ∧ σ' = σ) := by
  intro n
  induction n with
  | zero =>
    intro c l hc hcn hl
    obtain ⟨m0, m1, m2, m3, m4, m5, m6, m7, m8, m9, m10, m11⟩ := id hM
    have hab := zmul36 hw hh
    refine g_iload (q := 17) dX9_isCut_15 rfl rfl ?_
    refine g_iload (q := 19) dX9_isCut_17 rfl rfl ?_
    refine g_aload_n (q := 20) dX9_isCut_19 rfl rfl ?_
    refine g_iload_n (q := 21) dX9_isCut_20 rfl rfl ?_
    refine g_iload (q := 23) dX9_isCut_21 rfl rfl ?_
    refine g_callV (As := [.int (iZ k), .int (iZ t)]) (rest := [.int (iZ (mWide (A 1) k t)), .int (iZ c)]) (q := 26) moX9_high lkX9_isCut_118 dX9_isCut_23 rfl m0 (r_M_high σ a I A hM k t (by omega) (by omega) bT) rfl rfl (Nat.le_of_ble_eq_true rfl) (Nat.le_of_ble_eq_true rfl) (Nat.le_of_ble_eq_true rfl) rfl ?_
    rintro r1 s1 hp
    rw [hp.1, hp.2]
    show Go w mX9_isCut (0, 0) 26 [some (.ref a), some (.int (iZ k)), some (.int (iZ x)), some (.int (iZ y)), some (.int (iZ t)), some (.int (iZ (mWide (A 1) k t))), some (.int (iZ l)), some (.int (iZ c))] [.int (iZ (mHigh (A 1) k t)), .int (iZ (mWide (A 1) k t)), .int (iZ c)] σ (fun r σ' => r = some (.int (iZ (mCutF (A 3) x y (mWide (A 1) k t) 0 c l))) ∧ σ' = σ)
    refine z_imul (q := 27) dX9_isCut_26 rfl ?_
    refine z_icmp_ge (t := 75) (q := 30) dX9_isCut_27 rfl (by omega) rfl (fun pc1 => ?_) (fun pc1 => ?_)
    · refine g_iload (q := 77) dX9_isCut_75 rfl rfl ?_
      refine z_zret dX9_isCut_77 rfl (z01_nar (by omega)) ?_
      exact ⟨rfl, rfl⟩
    · exfalso
      omega
  | succ n ih =>
    intro c l hc hcn hl
    obtain ⟨m0, m1, m2, m3, m4, m5, m6, m7, m8, m9, m10, m11⟩ := id hM
    have hab := zmul36 hw hh
    refine g_iload (q := 17) dX9_isCut_15 rfl rfl ?_
    refine g_iload (q := 19) dX9_isCut_17 rfl rfl ?_
    refine g_aload_n (q := 20) dX9_isCut_19 rfl rfl ?_
    refine g_iload_n (q := 21) dX9_isCut_20 rfl rfl ?_
    refine g_iload (q := 23) dX9_isCut_21 rfl rfl ?_
    refine g_callV (As := [.int (iZ k), .int (iZ t)]) (rest := [.int (iZ (mWide (A 1) k t)), .int (iZ c)]) (q := 26) moX9_high lkX9_isCut_118 dX9_isCut_23 rfl m0 (r_M_high σ a I A hM k t (by omega) (by omega) bT) rfl rfl (Nat.le_of_ble_eq_true rfl) (Nat.le_of_ble_eq_true rfl) (Nat.le_of_ble_eq_true rfl) rfl ?_
    rintro r1 s1 hp
    rw [hp.1, hp.2]
    show Go w mX9_isCut (0, 0) 26 [some (.ref a), some (.int (iZ k)), some (.int (iZ x)), some (.int (iZ y)), some (.int (iZ t)), some (.int (iZ (mWide (A 1) k t))), some (.int (iZ l)), some (.int (iZ c))] [.int (iZ (mHigh (A 1) k t)), .int (iZ (mWide (A 1) k t)), .int (iZ c)] σ (fun r σ' => r = some (.int (iZ (mCutF (A 3) x y (mWide (A 1) k t) (n + 1) c l))) ∧ σ' = σ)
    refine z_imul (q := 27) dX9_isCut_26 rfl ?_
    refine z_icmp_ge (t := 75) (q := 30) dX9_isCut_27 rfl (by omega) rfl (fun pc1 => ?_) (fun pc1 => ?_)
    · exfalso
      omega
    · have dm := zdm (c := c) (a := (mWide (A 1) k t)) (b := (mHigh (A 1) k t)) (by omega) (by omega) (by omega)
      have J2 : ∀ z3 : Int, z3 = (if l = 1 ∧ A 3 (12 * y + 12 * (c / (mWide (A 1) k t)) + x + (c % (mWide (A 1) k t))) = 1 then 1 else 0) → Go w mX9_isCut (0, 0) 67 [some (.ref a), some (.int (iZ k)), some (.int (iZ x)), some (.int (iZ y)), some (.int (iZ t)), some (.int (iZ (mWide (A 1) k t))), some (.int (iZ l)), some (.int (iZ c))] [.int (iZ z3)] σ (fun r σ' => r = some (.int (iZ (mCutF (A 3) x y (mWide (A 1) k t) (n + 1) c l))) ∧ σ' = σ) := by
        intro z3 e4
        refine g_istore (ml' := [some (.ref a), some (.int (iZ k)), some (.int (iZ x)), some (.int (iZ y)), some (.int (iZ t)), some (.int (iZ (mWide (A 1) k t))), some (.int (iZ z3)), some (.int (iZ c))]) (q := 69) dX9_isCut_67 rfl (Nat.le_of_ble_eq_true rfl) rfl rfl ?_
        refine z_iincc (c := (c + 1)) (ml' := [some (.ref a), some (.int (iZ k)), some (.int (iZ x)), some (.int (iZ y)), some (.int (iZ t)), some (.int (iZ (mWide (A 1) k t))), some (.int (iZ z3)), some (.int (iZ (c + 1)))]) (q := 72) dX9_isCut_69 rfl (by omega) rfl rfl rfl ?_
        refine g_goto (q := 15) dX9_isCut_72 rfl ?_
        refine (ih (c + 1) z3 (by omega) (by omega) (by omega)).mono (fun r σ1 hp => ⟨hp.1.trans ?_, hp.2⟩)
        subst_vars
        rfl
      refine g_iload (q := 32) dX9_isCut_30 rfl rfl ?_
      refine z_if_eq (t := 66) (q := 35) dX9_isCut_32 rfl (by omega) rfl (fun pc5 => ?_) (fun pc5 => ?_)
      · refine z_iconst (q := 67) dX9_isCut_66 rfl ?_
        exact J2 _ (by omega)
      · refine g_aload_n (q := 36) dX9_isCut_35 rfl rfl ?_
        refine g_get (q := 39) flX9_19 dX9_isCut_36 m0 rfl rfl ?_
        refine g_bipush (v := iZ 12) (q := 41) dX9_isCut_39 (by decide) rfl ?_
        refine g_iload_n (q := 42) dX9_isCut_41 rfl rfl ?_
        refine g_iload (q := 44) dX9_isCut_42 rfl rfl ?_
        refine g_iload (q := 46) dX9_isCut_44 rfl rfl ?_
        refine z_idiv (q := 47) dX9_isCut_46 (by omega) rfl ?_
        refine z_iadd (q := 48) dX9_isCut_47 rfl ?_
        refine z_imulc (c := (12 * y + 12 * (c / (mWide (A 1) k t)))) (q := 49) dX9_isCut_48 (by omega) rfl ?_
        refine g_iload_n (q := 50) dX9_isCut_49 rfl rfl ?_
        refine z_iaddc (c := (12 * y + 12 * (c / (mWide (A 1) k t)) + x)) (q := 51) dX9_isCut_50 (by omega) rfl ?_
        refine g_iload (q := 53) dX9_isCut_51 rfl rfl ?_
        refine g_iload (q := 55) dX9_isCut_53 rfl rfl ?_
        refine z_irem (q := 56) dX9_isCut_55 (by omega) rfl ?_
        refine z_iaddc (c := (12 * y + 12 * (c / (mWide (A 1) k t)) + x + (c % (mWide (A 1) k t)))) (q := 57) dX9_isCut_56 (by omega) rfl ?_
        refine z_iald (q := 58) dX9_isCut_57 m4 (by omega) rfl ?_
        have b6 := bS (12 * y + 12 * (c / (mWide (A 1) k t)) + x + (c % (mWide (A 1) k t)))
        refine z_iconst (q := 59) dX9_isCut_58 rfl ?_
        refine z_icmp_ne (t := 66) (q := 62) dX9_isCut_59 rfl (by omega) rfl (fun pc7 => ?_) (fun pc7 => ?_)
        · refine z_iconst (q := 67) dX9_isCut_66 rfl ?_
          exact J2 _ (by omega)
        · refine z_iconst (q := 63) dX9_isCut_62 rfl ?_
          refine g_goto (q := 67) dX9_isCut_63 rfl ?_
          exact J2 _ (by omega)
theorem r_M_isCut (σ : g_H0) (a : Nat) (I : Nat → Int) (A : Nat → Int → Int) (hM : rM a I A σ) (k x y t : Int) (bk : 0 ≤ k ∧ k < 6) (b_x : 0 ≤ x ∧ x < 1000) (b_y : 0 ≤ y ∧ y < 1000) (b_t : 0 ≤ t ∧ t ≤ 1) (bT : zBd (A 1) 1000) (bS : zBs (A 3)) (hw : 1 ≤ (mWide (A 1) k t) ∧ (mWide (A 1) k t) ≤ 6) (hh : 1 ≤ (mHigh (A 1) k t) ∧ (mHigh (A 1) k t) ≤ 6) (hcx : x + (mWide (A 1) k t) - 1 < 12) (hcy : y + (mHigh (A 1) k t) - 1 < 12) : Ret mX9_isCut [.ref a, .int (iZ k), .int (iZ x), .int (iZ y), .int (iZ t)] σ (fun r σ' => r = some (.int (iZ (mCutF (A 3) x y (mWide (A 1) k t) ((mWide (A 1) k t) * (mHigh (A 1) k t)).toNat 0 1))) ∧ σ' = σ) := by
  refine Ret.of moX9_isCut.1 (Nat.le_of_ble_eq_true rfl) (fun w => ?_)
  obtain ⟨m0, m1, m2, m3, m4, m5, m6, m7, m8, m9, m10, m11⟩ := id hM
  show Go w mX9_isCut (0, 0) 0 [some (.ref a), some (.int (iZ k)), some (.int (iZ x)), some (.int (iZ y)), some (.int (iZ t)), none, none, none] [] σ (fun r σ' => r = some (.int (iZ (mCutF (A 3) x y (mWide (A 1) k t) ((mWide (A 1) k t) * (mHigh (A 1) k t)).toNat 0 1))) ∧ σ' = σ)
  refine g_aload_n (q := 1) dX9_isCut_0 rfl rfl ?_
  refine g_iload_n (q := 2) dX9_isCut_1 rfl rfl ?_
  refine g_iload (q := 4) dX9_isCut_2 rfl rfl ?_
  refine g_callV (As := [.int (iZ k), .int (iZ t)]) (rest := []) (q := 7) moX9_wide lkX9_isCut_114 dX9_isCut_4 rfl m0 (r_M_wide σ a I A hM k t (by omega) (by omega) bT) rfl rfl (Nat.le_of_ble_eq_true rfl) (Nat.le_of_ble_eq_true rfl) (Nat.le_of_ble_eq_true rfl) rfl ?_
  rintro r1 s1 hp
  rw [hp.1, hp.2]
  show Go w mX9_isCut (0, 0) 7 [some (.ref a), some (.int (iZ k)), some (.int (iZ x)), some (.int (iZ y)), some (.int (iZ t)), none, none, none] [.int (iZ (mWide (A 1) k t))] σ (fun r σ' => r = some (.int (iZ (mCutF (A 3) x y (mWide (A 1) k t) ((mWide (A 1) k t) * (mHigh (A 1) k t)).toNat 0 1))) ∧ σ' = σ)
  refine g_istore (ml' := [some (.ref a), some (.int (iZ k)), some (.int (iZ x)), some (.int (iZ y)), some (.int (iZ t)), some (.int (iZ (mWide (A 1) k t))), none, none]) (q := 9) dX9_isCut_7 rfl (Nat.le_of_ble_eq_true rfl) rfl rfl ?_
  refine z_iconst (q := 10) dX9_isCut_9 rfl ?_
  refine g_istore (ml' := [some (.ref a), some (.int (iZ k)), some (.int (iZ x)), some (.int (iZ y)), some (.int (iZ t)), some (.int (iZ (mWide (A 1) k t))), some (.int (iZ 1)), none]) (q := 12) dX9_isCut_10 rfl (Nat.le_of_ble_eq_true rfl) rfl rfl ?_
  refine z_iconst (q := 13) dX9_isCut_12 rfl ?_
  refine g_istore (ml' := [some (.ref a), some (.int (iZ k)), some (.int (iZ x)), some (.int (iZ y)), some (.int (iZ t)), some (.int (iZ (mWide (A 1) k t))), some (.int (iZ 1)), some (.int (iZ 0))]) (q := 15) dX9_isCut_13 rfl (Nat.le_of_ble_eq_true rfl) rfl rfl ?_
  exact l_M_isCut w σ a I A hM k x y t bk b_x b_y b_t bT bS hw hh hcx hcy ((mWide (A 1) k t) * (mHigh (A 1) k t)).toNat 0 1 (by omega) (by have := zmul36 hw hh; omega) (by omega)
theorem l_M_open (w : g_W) (σ : g_H0) (a : Nat) (I : Nat → Int) (A : Nat → Int → Int) (hM : rM a I A σ) (h : Int) (bh : 0 ≤ h ∧ h < 5) (bT : zBd (A 1) 1000) (bS : zBs (A 3)) (h3 : 0 ≤ A 1 3 ∧ A 1 3 ≤ 5) : ∀ (n : Nat) (c m : Int), 0 ≤ c → c + n = 144 → Go w mX9_open (0, 0) 4 [some (.ref a), some (.int (iZ h)), some (.int (iZ m)), some (.int (iZ c))] [] σ (fun r σ' => r = some (.int (iZ (mOpenF (A 1) (A 3) h n c m))) ∧ σ' = σ) := by
  intro n
  induction n with
  | zero =>
    intro c m hc hcn
    obtain ⟨m0, m1, m2, m3, m4, m5, m6, m7, m8, m9, m10, m11⟩ := id hM
    refine g_iload_n (q := 5) dX9_open_4 rfl rfl ?_
    refine g_sipush (v := iZ 144) (q := 8) dX9_open_5 (by decide) rfl ?_
    refine z_icmp_ge (t := 48) (q := 11) dX9_open_8 rfl (by omega) rfl (fun pc1 => ?_) (fun pc1 => ?_)
    · refine g_iload_n (q := 49) dX9_open_48 rfl rfl ?_
      refine z_iret dX9_open_49 rfl ?_
      exact ⟨rfl, rfl⟩
    · exfalso
      omega
  | succ n ih =>
    intro c m hc hcn
    obtain ⟨m0, m1, m2, m3, m4, m5, m6, m7, m8, m9, m10, m11⟩ := id hM
    refine g_iload_n (q := 5) dX9_open_4 rfl rfl ?_
    refine g_sipush (v := iZ 144) (q := 8) dX9_open_5 (by decide) rfl ?_
    refine z_icmp_ge (t := 48) (q := 11) dX9_open_8 rfl (by omega) rfl (fun pc1 => ?_) (fun pc1 => ?_)
    · exfalso
      omega
    · refine g_iload_n (q := 12) dX9_open_11 rfl rfl ?_
      have J2 : ∀ z3 : Int, z3 = (if mHole (A 1) (c % 12) (c / 12) = h then 1 - A 3 c else 0) → Go w mX9_open (0, 0) 40 [some (.ref a), some (.int (iZ h)), some (.int (iZ m)), some (.int (iZ c))] [.int (iZ z3), .int (iZ m)] σ (fun r σ' => r = some (.int (iZ (mOpenF (A 1) (A 3) h (n + 1) c m))) ∧ σ' = σ) := by
        intro z3 e4
        refine z_iadd (q := 41) dX9_open_40 rfl ?_
        refine g_istore_n (ml' := [some (.ref a), some (.int (iZ h)), some (.int (iZ (m + z3))), some (.int (iZ c))]) (q := 42) dX9_open_41 rfl (Nat.le_of_ble_eq_true rfl) rfl rfl ?_
        refine z_iincc (c := (c + 1)) (ml' := [some (.ref a), some (.int (iZ h)), some (.int (iZ (m + z3))), some (.int (iZ (c + 1)))]) (q := 45) dX9_open_42 rfl (by omega) rfl rfl rfl ?_
        refine g_goto (q := 4) dX9_open_45 rfl ?_
        refine (ih (c + 1) (m + z3) (by omega) (by omega)).mono (fun r σ1 hp => ⟨hp.1.trans ?_, hp.2⟩)
        subst_vars
        rfl
      refine g_aload_n (q := 13) dX9_open_12 rfl rfl ?_
      refine g_iload_n (q := 14) dX9_open_13 rfl rfl ?_
      refine g_bipush (v := iZ 12) (q := 16) dX9_open_14 (by decide) rfl ?_
      refine z_irem (q := 17) dX9_open_16 (by omega) rfl ?_
      refine g_iload_n (q := 18) dX9_open_17 rfl rfl ?_
      refine g_bipush (v := iZ 12) (q := 20) dX9_open_18 (by decide) rfl ?_
      refine z_idiv (q := 21) dX9_open_20 (by omega) rfl ?_
      refine g_callV (As := [.int (iZ (c % 12)), .int (iZ (c / 12))]) (rest := [.int (iZ m)]) (q := 24) moX9_holeAt lkX9_open_124 dX9_open_21 rfl m0 (r_M_holeAt σ a I A hM (c % 12) (c / 12) (by omega) (by omega) bT h3) rfl rfl (Nat.le_of_ble_eq_true rfl) (Nat.le_of_ble_eq_true rfl) (Nat.le_of_ble_eq_true rfl) rfl ?_
      rintro r1 s1 hp
      rw [hp.1, hp.2]
      show Go w mX9_open (0, 0) 24 [some (.ref a), some (.int (iZ h)), some (.int (iZ m)), some (.int (iZ c))] [.int (iZ (mHole (A 1) (c % 12) (c / 12))), .int (iZ m)] σ (fun r σ' => r = some (.int (iZ (mOpenF (A 1) (A 3) h (n + 1) c m))) ∧ σ' = σ)
      have b5 := mHole_b (A 1) (c % 12) (c / 12) h3
      refine g_iload_n (q := 25) dX9_open_24 rfl rfl ?_
      refine z_icmp_ne (t := 39) (q := 28) dX9_open_25 rfl (by omega) rfl (fun pc6 => ?_) (fun pc6 => ?_)
      · refine z_iconst (q := 40) dX9_open_39 rfl ?_
        exact J2 _ (by omega)
      · refine z_iconst (q := 29) dX9_open_28 rfl ?_
        refine g_aload_n (q := 30) dX9_open_29 rfl rfl ?_
        refine g_get (q := 33) flX9_19 dX9_open_30 m0 rfl rfl ?_
        refine g_iload_n (q := 34) dX9_open_33 rfl rfl ?_
        refine z_iald (q := 35) dX9_open_34 m4 (by omega) rfl ?_
        have b7 := bS c
        refine z_isubc (c := (-((A 3) c) + 1)) (q := 36) dX9_open_35 (by omega) rfl ?_
        refine g_goto (q := 40) dX9_open_36 rfl ?_
        exact J2 _ (by omega)
theorem r_M_open (σ : g_H0) (a : Nat) (I : Nat → Int) (A : Nat → Int → Int) (hM : rM a I A σ) (h : Int) (bh : 0 ≤ h ∧ h < 5) (bT : zBd (A 1) 1000) (bS : zBs (A 3)) (h3 : 0 ≤ A 1 3 ∧ A 1 3 ≤ 5) : Ret mX9_open [.ref a, .int (iZ h)] σ (fun r σ' => r = some (.int (iZ (mOpen (A 1) (A 3) h))) ∧ σ' = σ) := by
  refine Ret.of moX9_open.1 (Nat.le_of_ble_eq_true rfl) (fun w => ?_)
  show Go w mX9_open (0, 0) 0 [some (.ref a), some (.int (iZ h)), none, none] [] σ (fun r σ' => r = some (.int (iZ (mOpen (A 1) (A 3) h))) ∧ σ' = σ)
  refine z_iconst (q := 1) dX9_open_0 rfl ?_
  refine g_istore_n (ml' := [some (.ref a), some (.int (iZ h)), some (.int (iZ 0)), none]) (q := 2) dX9_open_1 rfl (Nat.le_of_ble_eq_true rfl) rfl rfl ?_
  refine z_iconst (q := 3) dX9_open_2 rfl ?_
  refine g_istore_n (ml' := [some (.ref a), some (.int (iZ h)), some (.int (iZ 0)), some (.int (iZ 0))]) (q := 4) dX9_open_3 rfl (Nat.le_of_ble_eq_true rfl) rfl rfl ?_
  exact l_M_open w σ a I A hM h bh bT bS h3 144 0 0 (by omega) (by omega)
theorem r_M_nibbles (σ : g_H0) (a : Nat) (I : Nat → Int) (A : Nat → Int → Int) (hM : rM a I A σ) (h k t : Int) (bh : 0 ≤ h ∧ h < 5) (bk : 0 ≤ k ∧ k < 6) (b_t : 0 ≤ t ∧ t ≤ 1) (bT : zBd (A 1) 1000) (hw : 1 ≤ (mWide (A 1) k t) ∧ (mWide (A 1) k t) ≤ 6) (hh : 1 ≤ (mHigh (A 1) k t) ∧ (mHigh (A 1) k t) ≤ 6) (hq1 : 0 ≤ A 1 (4 * h + 31) ∧ A 1 (4 * h + 31) ≤ 12) (hq2 : 0 ≤ A 1 (4 * h + 32) ∧ A 1 (4 * h + 32) ≤ 12) : Ret mX9_nibbles [.ref a, .int (iZ h), .int (iZ k), .int (iZ t)] σ (fun r σ' => r = some (.int (iZ (mNib (A 1) h k t))) ∧ σ' = σ) := by
  refine Ret.of moX9_nibbles.1 (Nat.le_of_ble_eq_true rfl) (fun w => ?_)
  obtain ⟨m0, m1, m2, m3, m4, m5, m6, m7, m8, m9, m10, m11⟩ := id hM
  show Go w mX9_nibbles (0, 0) 0 [some (.ref a), some (.int (iZ h)), some (.int (iZ k)), some (.int (iZ t)), none, none, none, none] [] σ (fun r σ' => r = some (.int (iZ (mNib (A 1) h k t))) ∧ σ' = σ)
  refine g_aload_n (q := 1) dX9_nibbles_0 rfl rfl ?_
  refine g_iload_n (q := 2) dX9_nibbles_1 rfl rfl ?_
  refine g_iload_n (q := 3) dX9_nibbles_2 rfl rfl ?_
  refine g_callV (As := [.int (iZ k), .int (iZ t)]) (rest := []) (q := 6) moX9_wide lkX9_nibbles_114 dX9_nibbles_3 rfl m0 (r_M_wide σ a I A hM k t (by omega) (by omega) bT) rfl rfl (Nat.le_of_ble_eq_true rfl) (Nat.le_of_ble_eq_true rfl) (Nat.le_of_ble_eq_true rfl) rfl ?_
  rintro r1 s1 hp
  rw [hp.1, hp.2]
  show Go w mX9_nibbles (0, 0) 6 [some (.ref a), some (.int (iZ h)), some (.int (iZ k)), some (.int (iZ t)), none, none, none, none] [.int (iZ (mWide (A 1) k t))] σ (fun r σ' => r = some (.int (iZ (mNib (A 1) h k t))) ∧ σ' = σ)
  refine g_istore (ml' := [some (.ref a), some (.int (iZ h)), some (.int (iZ k)), some (.int (iZ t)), some (.int (iZ (mWide (A 1) k t))), none, none, none]) (q := 8) dX9_nibbles_6 rfl (Nat.le_of_ble_eq_true rfl) rfl rfl ?_
  refine g_aload_n (q := 9) dX9_nibbles_8 rfl rfl ?_
  refine g_iload_n (q := 10) dX9_nibbles_9 rfl rfl ?_
  refine g_iload_n (q := 11) dX9_nibbles_10 rfl rfl ?_
  refine g_callV (As := [.int (iZ k), .int (iZ t)]) (rest := []) (q := 14) moX9_high lkX9_nibbles_118 dX9_nibbles_11 rfl m0 (r_M_high σ a I A hM k t (by omega) (by omega) bT) rfl rfl (Nat.le_of_ble_eq_true rfl) (Nat.le_of_ble_eq_true rfl) (Nat.le_of_ble_eq_true rfl) rfl ?_
  rintro r1 s1 hp
  rw [hp.1, hp.2]
  show Go w mX9_nibbles (0, 0) 14 [some (.ref a), some (.int (iZ h)), some (.int (iZ k)), some (.int (iZ t)), some (.int (iZ (mWide (A 1) k t))), none, none, none] [.int (iZ (mHigh (A 1) k t))] σ (fun r σ' => r = some (.int (iZ (mNib (A 1) h k t))) ∧ σ' = σ)
  refine g_istore (ml' := [some (.ref a), some (.int (iZ h)), some (.int (iZ k)), some (.int (iZ t)), some (.int (iZ (mWide (A 1) k t))), some (.int (iZ (mHigh (A 1) k t))), none, none]) (q := 16) dX9_nibbles_14 rfl (Nat.le_of_ble_eq_true rfl) rfl rfl ?_
  refine g_bipush (v := iZ 29) (q := 18) dX9_nibbles_16 (by decide) rfl ?_
  refine z_iconst (q := 19) dX9_nibbles_18 rfl ?_
  refine g_iload_n (q := 20) dX9_nibbles_19 rfl rfl ?_
  refine z_imul (q := 21) dX9_nibbles_20 rfl ?_
  refine z_iaddc (c := (4 * h + 29)) (q := 22) dX9_nibbles_21 (by omega) rfl ?_
  refine g_istore (ml' := [some (.ref a), some (.int (iZ h)), some (.int (iZ k)), some (.int (iZ t)), some (.int (iZ (mWide (A 1) k t))), some (.int (iZ (mHigh (A 1) k t))), some (.int (iZ (4 * h + 29))), none]) (q := 24) dX9_nibbles_22 rfl (Nat.le_of_ble_eq_true rfl) rfl rfl ?_
  have J1 : ∀ z2 : Int, z2 = (if (t = 0 ∨ A 1 (4 * k + 7) = 1) ∧ (mWide (A 1) k t) ≤ A 1 (4 * h + 31) ∧ (mHigh (A 1) k t) ≤ A 1 (4 * h + 32) then 1 else 0) → Go w mX9_nibbles (0, 0) 77 [some (.ref a), some (.int (iZ h)), some (.int (iZ k)), some (.int (iZ t)), some (.int (iZ (mWide (A 1) k t))), some (.int (iZ (mHigh (A 1) k t))), some (.int (iZ (4 * h + 29))), none] [.int (iZ z2)] σ (fun r σ' => r = some (.int (iZ (mNib (A 1) h k t))) ∧ σ' = σ) := by
    intro z2 e3
    refine g_istore (ml' := [some (.ref a), some (.int (iZ h)), some (.int (iZ k)), some (.int (iZ t)), some (.int (iZ (mWide (A 1) k t))), some (.int (iZ (mHigh (A 1) k t))), some (.int (iZ (4 * h + 29))), some (.int (iZ z2))]) (q := 79) dX9_nibbles_77 rfl (Nat.le_of_ble_eq_true rfl) rfl rfl ?_
    refine g_iload (q := 81) dX9_nibbles_79 rfl rfl ?_
    refine z_if_eq (t := 116) (q := 84) dX9_nibbles_81 rfl (by omega) rfl (fun pc4 => ?_) (fun pc4 => ?_)
    · refine g_bipush (v := iZ (-4)) (q := 118) dX9_nibbles_116 (by decide) rfl ?_
      refine z_iret dX9_nibbles_118 rfl ?_
      exact ⟨congrArg (fun z => some (Value.int (iZ z))) (by unfold mNib; first | (rw [if_pos (by omega)]; done) | (rw [if_neg (by omega)]; done)), rfl⟩
    · refine g_aload_n (q := 85) dX9_nibbles_84 rfl rfl ?_
      refine g_get (q := 88) flX9_13 dX9_nibbles_85 m0 rfl rfl ?_
      refine g_iload (q := 90) dX9_nibbles_88 rfl rfl ?_
      refine z_iconst (q := 91) dX9_nibbles_90 rfl ?_
      refine z_iaddc (c := (4 * h + 31)) (q := 92) dX9_nibbles_91 (by omega) rfl ?_
      refine z_iald (q := 93) dX9_nibbles_92 m2 (by omega) rfl ?_
      have b5 := bT (4 * h + 31)
      refine g_iload (q := 95) dX9_nibbles_93 rfl rfl ?_
      refine g_callS (As := [.int (iZ ((A 1) (4 * h + 31))), .int (iZ (mWide (A 1) k t))]) (rest := []) (q := 98) moX9_parts lkX9_nibbles_155 dX9_nibbles_95 (r_M_parts σ ((A 1) (4 * h + 31)) (mWide (A 1) k t) (by omega) (by omega)) rfl rfl (Nat.le_of_ble_eq_true rfl) (Nat.le_of_ble_eq_true rfl) (Nat.le_of_ble_eq_true rfl) rfl ?_
      rintro r1 s1 hp
      rw [hp.1, hp.2]
      show Go w mX9_nibbles (0, 0) 98 [some (.ref a), some (.int (iZ h)), some (.int (iZ k)), some (.int (iZ t)), some (.int (iZ (mWide (A 1) k t))), some (.int (iZ (mHigh (A 1) k t))), some (.int (iZ (4 * h + 29))), some (.int (iZ z2))] [.int (iZ ((((A 1) (4 * h + 31)) + (mWide (A 1) k t) - 1) / (mWide (A 1) k t)))] σ (fun r σ' => r = some (.int (iZ (mNib (A 1) h k t))) ∧ σ' = σ)
      refine g_aload_n (q := 99) dX9_nibbles_98 rfl rfl ?_
      refine g_get (q := 102) flX9_13 dX9_nibbles_99 m0 rfl rfl ?_
      refine g_iload (q := 104) dX9_nibbles_102 rfl rfl ?_
      refine z_iconst (q := 105) dX9_nibbles_104 rfl ?_
      refine z_iaddc (c := (4 * h + 32)) (q := 106) dX9_nibbles_105 (by omega) rfl ?_
      refine z_iald (q := 107) dX9_nibbles_106 m2 (by omega) rfl ?_
      have b6 := bT (4 * h + 32)
      refine g_iload (q := 109) dX9_nibbles_107 rfl rfl ?_
      refine g_callS (As := [.int (iZ ((A 1) (4 * h + 32))), .int (iZ (mHigh (A 1) k t))]) (rest := [.int (iZ ((((A 1) (4 * h + 31)) + (mWide (A 1) k t) - 1) / (mWide (A 1) k t)))]) (q := 112) moX9_parts lkX9_nibbles_155 dX9_nibbles_109 (r_M_parts σ ((A 1) (4 * h + 32)) (mHigh (A 1) k t) (by omega) (by omega)) rfl rfl (Nat.le_of_ble_eq_true rfl) (Nat.le_of_ble_eq_true rfl) (Nat.le_of_ble_eq_true rfl) rfl ?_
      rintro r1 s1 hp
      rw [hp.1, hp.2]
      show Go w mX9_nibbles (0, 0) 112 [some (.ref a), some (.int (iZ h)), some (.int (iZ k)), some (.int (iZ t)), some (.int (iZ (mWide (A 1) k t))), some (.int (iZ (mHigh (A 1) k t))), some (.int (iZ (4 * h + 29))), some (.int (iZ z2))] [.int (iZ ((((A 1) (4 * h + 32)) + (mHigh (A 1) k t) - 1) / (mHigh (A 1) k t))), .int (iZ ((((A 1) (4 * h + 31)) + (mWide (A 1) k t) - 1) / (mWide (A 1) k t)))] σ (fun r σ' => r = some (.int (iZ (mNib (A 1) h k t))) ∧ σ' = σ)
      refine z_imul (q := 113) dX9_nibbles_112 rfl ?_
      refine g_goto (q := 118) dX9_nibbles_113 rfl ?_
      refine z_iret dX9_nibbles_118 rfl ?_
      exact ⟨congrArg (fun z => some (Value.int (iZ z))) (by unfold mNib; first | (rw [if_pos (by omega)]; done) | (rw [if_neg (by omega)]; done)), rfl⟩
  refine g_iload_n (q := 25) dX9_nibbles_24 rfl rfl ?_
  refine z_if_eq (t := 44) (q := 28) dX9_nibbles_25 rfl (by omega) rfl (fun pc7 => ?_) (fun pc7 => ?_)
  · refine g_iload (q := 46) dX9_nibbles_44 rfl rfl ?_
    refine g_aload_n (q := 47) dX9_nibbles_46 rfl rfl ?_
    refine g_get (q := 50) flX9_13 dX9_nibbles_47 m0 rfl rfl ?_
    refine g_iload (q := 52) dX9_nibbles_50 rfl rfl ?_
    refine z_iconst (q := 53) dX9_nibbles_52 rfl ?_
    refine z_iaddc (c := (4 * h + 31)) (q := 54) dX9_nibbles_53 (by omega) rfl ?_
    refine z_iald (q := 55) dX9_nibbles_54 m2 (by omega) rfl ?_
    have b8 := bT (4 * h + 31)
    refine z_icmp_gt (t := 76) (q := 58) dX9_nibbles_55 rfl (by omega) rfl (fun pc9 => ?_) (fun pc9 => ?_)
    · refine z_iconst (q := 77) dX9_nibbles_76 rfl ?_
      exact J1 _ (by omega)
    · refine g_iload (q := 60) dX9_nibbles_58 rfl rfl ?_
      refine g_aload_n (q := 61) dX9_nibbles_60 rfl rfl ?_
      refine g_get (q := 64) flX9_13 dX9_nibbles_61 m0 rfl rfl ?_
      refine g_iload (q := 66) dX9_nibbles_64 rfl rfl ?_
      refine z_iconst (q := 67) dX9_nibbles_66 rfl ?_
      refine z_iaddc (c := (4 * h + 32)) (q := 68) dX9_nibbles_67 (by omega) rfl ?_
      refine z_iald (q := 69) dX9_nibbles_68 m2 (by omega) rfl ?_
      have b10 := bT (4 * h + 32)
      refine z_icmp_gt (t := 76) (q := 72) dX9_nibbles_69 rfl (by omega) rfl (fun pc11 => ?_) (fun pc11 => ?_)
      · refine z_iconst (q := 77) dX9_nibbles_76 rfl ?_
        exact J1 _ (by omega)
      · refine z_iconst (q := 73) dX9_nibbles_72 rfl ?_
        refine g_goto (q := 77) dX9_nibbles_73 rfl ?_
        exact J1 _ (by omega)
  · refine g_aload_n (q := 29) dX9_nibbles_28 rfl rfl ?_
    refine g_get (q := 32) flX9_13 dX9_nibbles_29 m0 rfl rfl ?_
    refine z_iconst (q := 33) dX9_nibbles_32 rfl ?_
    refine z_iconst (q := 34) dX9_nibbles_33 rfl ?_
    refine g_iload_n (q := 35) dX9_nibbles_34 rfl rfl ?_
    refine z_imul (q := 36) dX9_nibbles_35 rfl ?_
    refine z_iaddc (c := (4 * k + 5)) (q := 37) dX9_nibbles_36 (by omega) rfl ?_
    refine z_iconst (q := 38) dX9_nibbles_37 rfl ?_
    refine z_iaddc (c := (4 * k + 7)) (q := 39) dX9_nibbles_38 (by omega) rfl ?_
    refine z_iald (q := 40) dX9_nibbles_39 m2 (by omega) rfl ?_
    have b12 := bT (4 * k + 7)
    refine z_iconst (q := 41) dX9_nibbles_40 rfl ?_
    refine z_icmp_ne (t := 76) (q := 44) dX9_nibbles_41 rfl (by omega) rfl (fun pc13 => ?_) (fun pc13 => ?_)
    · refine z_iconst (q := 77) dX9_nibbles_76 rfl ?_
      exact J1 _ (by omega)
    · refine g_iload (q := 46) dX9_nibbles_44 rfl rfl ?_
      refine g_aload_n (q := 47) dX9_nibbles_46 rfl rfl ?_
      refine g_get (q := 50) flX9_13 dX9_nibbles_47 m0 rfl rfl ?_
      refine g_iload (q := 52) dX9_nibbles_50 rfl rfl ?_
      refine z_iconst (q := 53) dX9_nibbles_52 rfl ?_
      refine z_iaddc (c := (4 * h + 31)) (q := 54) dX9_nibbles_53 (by omega) rfl ?_
      refine z_iald (q := 55) dX9_nibbles_54 m2 (by omega) rfl ?_
      have b14 := bT (4 * h + 31)
      refine z_icmp_gt (t := 76) (q := 58) dX9_nibbles_55 rfl (by omega) rfl (fun pc15 => ?_) (fun pc15 => ?_)
      · refine z_iconst (q := 77) dX9_nibbles_76 rfl ?_
        exact J1 _ (by omega)
      · refine g_iload (q := 60) dX9_nibbles_58 rfl rfl ?_
        refine g_aload_n (q := 61) dX9_nibbles_60 rfl rfl ?_
        refine g_get (q := 64) flX9_13 dX9_nibbles_61 m0 rfl rfl ?_
        refine g_iload (q := 66) dX9_nibbles_64 rfl rfl ?_
        refine z_iconst (q := 67) dX9_nibbles_66 rfl ?_
        refine z_iaddc (c := (4 * h + 32)) (q := 68) dX9_nibbles_67 (by omega) rfl ?_
        refine z_iald (q := 69) dX9_nibbles_68 m2 (by omega) rfl ?_
        have b16 := bT (4 * h + 32)
        refine z_icmp_gt (t := 76) (q := 72) dX9_nibbles_69 rfl (by omega) rfl (fun pc17 => ?_) (fun pc17 => ?_)
        · refine z_iconst (q := 77) dX9_nibbles_76 rfl ?_
          exact J1 _ (by omega)
        · refine z_iconst (q := 73) dX9_nibbles_72 rfl ?_
          refine g_goto (q := 77) dX9_nibbles_73 rfl ?_
          exact J1 _ (by omega)
