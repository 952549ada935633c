/-! a plan out of its number -/
def mDecF (O Ha : Int → Int) (n2 : Int) : Nat → Int → Int → Int → Int → Int → (Int → Int) → Int × Int × Int × Int × (Int → Int)
  | 0, _, l, s, u, y, W => (l, s, u, y, W)
  | m + 1, h, l, s, u, y, W => mDecF O Ha n2 m (h - 1) (if O h = 1 then l / n2 else l) (bor s (if O h = 1 then pw ((if O h = 1 then l % n2 else 0) / 2) else 0)) (u + (if O h = 1 then Ha (12 * h + (if O h = 1 then l % n2 else 0)) else 0)) (if y = 1 ∧ (if O h = 1 then Ha (12 * h + (if O h = 1 then l % n2 else 0)) else 0) ≠ -4 then 1 else 0) (zup W h (if O h = 1 then l % n2 else 0))
def mPlF (T O Ha R : Int → Int) : Nat → Int → Int → Int → Int → (Int → Int) → (Int → Int) → Int × Int × Int × (Int → Int) × (Int → Int)
  | 0, _, f, bh, bt, Bs, W => (f, bh, bt, Bs, W)
  | n + 1, c, f, bh, bt, Bs, W =>
    if (mDecF O Ha (2 * T 2) (T 3).toNat (T 3 - 1) c 0 0 1 W).2.2.2.1 = 1 ∧ (f = 0 ∨ (mDecF O Ha (2 * T 2) (T 3).toNat (T 3 - 1) c 0 0 1 W).2.2.1 + R (mDecF O Ha (2 * T 2) (T 3).toNat (T 3 - 1) c 0 0 1 W).2.1 < bh + bt ∨ ((mDecF O Ha (2 * T 2) (T 3).toNat (T 3 - 1) c 0 0 1 W).2.2.1 + R (mDecF O Ha (2 * T 2) (T 3).toNat (T 3 - 1) c 0 0 1 W).2.1 = bh + bt ∧ R (mDecF O Ha (2 * T 2) (T 3).toNat (T 3 - 1) c 0 0 1 W).2.1 < bt)) then
      mPlF T O Ha R n (c + 1) 1 (mDecF O Ha (2 * T 2) (T 3).toNat (T 3 - 1) c 0 0 1 W).2.2.1 (R (mDecF O Ha (2 * T 2) (T 3).toNat (T 3 - 1) c 0 0 1 W).2.1) (zcp Bs (mDecF O Ha (2 * T 2) (T 3).toNat (T 3 - 1) c 0 0 1 W).2.2.2.2 0 0 (T 3)) (mDecF O Ha (2 * T 2) (T 3).toNat (T 3 - 1) c 0 0 1 W).2.2.2.2
    else mPlF T O Ha R n (c + 1) f bh bt Bs (mDecF O Ha (2 * T 2) (T 3).toNat (T 3 - 1) c 0 0 1 W).2.2.2.2
theorem bor_n {a b : Int} {n : Int} (hn : 0 ≤ n ∧ n < 7) (ha : 0 ≤ a ∧ a < pw n) (hb : 0 ≤ b ∧ b < pw n) : 0 ≤ bor a b ∧ bor a b < pw n := by
  obtain ⟨k, rfl⟩ := Int.eq_ofNat_of_zero_le hn.1
  rw [pw_of] at *
  unfold bor
  have h : a.toNat ||| b.toNat < 2 ^ k := Nat.or_lt_two_pow (by omega) (by omega)
  omega
theorem pw_lt {b n : Int} (hb : 0 ≤ b) (h : b < n) (hn : n < 7) : pw b < pw n := by
  obtain ⟨k, rfl⟩ := Int.eq_ofNat_of_zero_le hb
  obtain ⟨m, rfl⟩ := Int.eq_ofNat_of_zero_le (show 0 ≤ n by omega)
  rw [pw_of, pw_of]
  have : 2 ^ k < 2 ^ m := Nat.pow_lt_pow_right (by omega) (by omega)
  omega
theorem mDecF_b {O Ha : Int → Int} {N nh : Int} (hn : 1 ≤ N ∧ N ≤ 6) (hH : ∀ h v, 0 ≤ h → h < nh → 0 ≤ v → v < 2 * N → -1000 ≤ Ha (12 * h + v) ∧ Ha (12 * h + v) ≤ 1000) : ∀ (m : Nat) (h l s u y : Int) (W : Int → Int), h + 1 = m → h < nh → 0 ≤ l → 0 ≤ s ∧ s < pw N → 0 ≤ y ∧ y ≤ 1 → (0 ≤ (mDecF O Ha (2 * N) m h l s u y W).2.1 ∧ (mDecF O Ha (2 * N) m h l s u y W).2.1 < pw N) ∧ (u - 1000 * m ≤ (mDecF O Ha (2 * N) m h l s u y W).2.2.1 ∧ (mDecF O Ha (2 * N) m h l s u y W).2.2.1 ≤ u + 1000 * m) ∧ (0 ≤ (mDecF O Ha (2 * N) m h l s u y W).2.2.2.1 ∧ (mDecF O Ha (2 * N) m h l s u y W).2.2.2.1 ≤ 1)
  | 0, h, l, s, u, y, W, _, _, _, hs, hy => by
    unfold mDecF
    exact ⟨hs, by simp, hy⟩
  | m + 1, h, l, s, u, y, W, hm, hh, hl, hs, hy => by
    have e1 := Int.emod_nonneg l (b := 2 * N) (by omega)
    have e2 := Int.emod_lt_of_pos l (b := 2 * N) (by omega)
    have e3 := Int.ediv_nonneg hl (show 0 ≤ 2 * N by omega)
    unfold mDecF
    have hx0 : 0 ≤ (if O h = 1 then l % (2 * N) else 0) ∧ (if O h = 1 then l % (2 * N) else 0) < 2 * N := by split <;> omega
    generalize (if O h = 1 then l % (2 * N) else 0) = x at hx0 ⊢
    have pb := pw_b5 (b := x / 2) (by omega)
    have pl := pw_lt (b := x / 2) (n := N) (by omega) (by omega) (by omega)
    have hb := hH h x (by omega) hh hx0.1 hx0.2
    have hone : -1000 ≤ (if O h = 1 then Ha (12 * h + x) else 0) ∧ (if O h = 1 then Ha (12 * h + x) else 0) ≤ 1000 := by split <;> omega
    generalize (if O h = 1 then Ha (12 * h + x) else 0) = one at hone ⊢
    have bb := bor_n (a := s) (b := if O h = 1 then pw (x / 2) else 0) (n := N) (by omega) hs (by split <;> omega)
    have := mDecF_b (O := O) hn hH m (h - 1) (if O h = 1 then l / (2 * N) else l) (bor s (if O h = 1 then pw (x / 2) else 0)) (u + one) (if y = 1 ∧ one ≠ -4 then 1 else 0) (zup W h x) (by omega) (by omega) (by split <;> omega) bb (by split <;> omega)
    refine ⟨this.1, ?_, this.2.2⟩
    have h2 := this.2.1
    constructor <;> omega
theorem l_M_plans3 (w : g_W) (Φ : g_Post) (σ0 : g_H0) (a : Nat) (I : Nat → Int) (A : Nat → Int → Int) (q2 : 1 ≤ A 1 2 ∧ A 1 2 ≤ 6) (h3 : 0 ≤ A 1 3 ∧ A 1 3 ≤ 5) (bHa : ∀ h v, 0 ≤ h → h < A 1 3 → 0 ≤ v → v < 2 * A 1 2 → -1000 ≤ A 9 (12 * h + v) ∧ A 9 (12 * h + v) ≤ 1000) (bO : ∀ h, 0 ≤ h → h < A 1 3 → -1000 ≤ A 8 h ∧ A 8 h ≤ 1000) (cd fo co : Int) (D : Int × Int × Int × Int × (Int → Int)) (K : ∀ σ : g_H0, rM a I (nup A 10 D.2.2.2.2) σ → g_Fr (mR a) σ0 σ → Go w mX9_plans (0, 0) 254 [some (.ref a), some (.int (iZ (A 1 2))), some (.int (iZ cd)), some (.int (iZ fo)), some (.int (iZ co)), none, some (.int (iZ D.2.1)), some (.int (iZ D.2.2.1)), some (.int (iZ D.2.2.2.1)), none, none, none] [] σ Φ) : ∀ (n : Nat) (lf se su ma h : Int) (W : Int → Int) (σ : g_H0), h + 1 = n → h < A 1 3 → (0 ≤ lf ∧ lf < 1000000) → (0 ≤ se ∧ se < 64) → (0 ≤ ma ∧ ma ≤ 1) → mDecF (A 8) (A 9) (2 * (A 1 2)) n h lf se su ma W = D → rM a I (nup A 10 W) σ → g_Fr (mR a) σ0 σ → Go w mX9_plans (0, 0) 105 [some (.ref a), some (.int (iZ (A 1 2))), some (.int (iZ cd)), some (.int (iZ fo)), some (.int (iZ co)), some (.int (iZ lf)), some (.int (iZ se)), some (.int (iZ su)), some (.int (iZ ma)), some (.int (iZ h)), none, none] [] σ (Φ) := by
  intro n
  induction n with
  | zero =>
    intro lf se su ma h W σ hh h5 hl hs hy hf hM hF
    obtain ⟨m0, m1, m2, m3, m4, m5, m6, m7, m8, m9, m10, m11⟩ := id hM
    have m11 : σ[a + 11]? = some (.inl (0, 5, .inl (zA W))) := m11
    have m1 : σ[a + 1]? = some (.inl (0, 200, .inl (zA (A 0)))) := m1
    have m2 : σ[a + 2]? = some (.inl (0, 51, .inl (zA (A 1)))) := m2
    have m3 : σ[a + 3]? = some (.inl (0, 51, .inl (zA (A 2)))) := m3
    have m4 : σ[a + 4]? = some (.inl (0, 156, .inl (zA (A 3)))) := m4
    have m5 : σ[a + 5]? = some (.inl (0, 936, .inl (zA (A 4)))) := m5
    have m6 : σ[a + 6]? = some (.inl (0, 156, .inl (zA (A 5)))) := m6
    have m7 : σ[a + 7]? = some (.inl (0, 64, .inl (zA (A 6)))) := m7
    have m8 : σ[a + 8]? = some (.inl (0, 5, .inl (zA (A 7)))) := m8
    have m9 : σ[a + 9]? = some (.inl (0, 5, .inl (zA (A 8)))) := m9
    have m10 : σ[a + 10]? = some (.inl (0, 60, .inl (zA (A 9)))) := m10
    refine g_iload (q := 107) dX9_plans_105 rfl rfl ?_
    refine z_if_lt (t := 254) (q := 110) dX9_plans_107 rfl (by omega) rfl (fun pc1 => ?_) (fun pc1 => ?_)
    · refine Go.wk (ml' := [some (.ref a), some (.int (iZ (A 1 2))), some (.int (iZ cd)), some (.int (iZ fo)), some (.int (iZ co)), none, some (.int (iZ se)), some (.int (iZ su)), some (.int (iZ ma)), none, none, none]) ⟨Or.inr rfl, Or.inr rfl, Or.inr rfl, Or.inr rfl, Or.inr rfl, Or.inl rfl, Or.inr rfl, Or.inr rfl, Or.inr rfl, Or.inl rfl, Or.inl rfl, Or.inl rfl, trivial⟩ ?_
      subst hf
      exact K σ hM hF
    · exfalso
      omega
  | succ n ih =>
    intro lf se su ma h W σ hh h5 hl hs hy hf hM hF
    obtain ⟨m0, m1, m2, m3, m4, m5, m6, m7, m8, m9, m10, m11⟩ := id hM
    have m11 : σ[a + 11]? = some (.inl (0, 5, .inl (zA W))) := m11
    have m1 : σ[a + 1]? = some (.inl (0, 200, .inl (zA (A 0)))) := m1
    have m2 : σ[a + 2]? = some (.inl (0, 51, .inl (zA (A 1)))) := m2
    have m3 : σ[a + 3]? = some (.inl (0, 51, .inl (zA (A 2)))) := m3
    have m4 : σ[a + 4]? = some (.inl (0, 156, .inl (zA (A 3)))) := m4
    have m5 : σ[a + 5]? = some (.inl (0, 936, .inl (zA (A 4)))) := m5
    have m6 : σ[a + 6]? = some (.inl (0, 156, .inl (zA (A 5)))) := m6
    have m7 : σ[a + 7]? = some (.inl (0, 64, .inl (zA (A 6)))) := m7
    have m8 : σ[a + 8]? = some (.inl (0, 5, .inl (zA (A 7)))) := m8
    have m9 : σ[a + 9]? = some (.inl (0, 5, .inl (zA (A 8)))) := m9
    have m10 : σ[a + 10]? = some (.inl (0, 60, .inl (zA (A 9)))) := m10
    refine g_iload (q := 107) dX9_plans_105 rfl rfl ?_
    refine z_if_lt (t := 254) (q := 110) dX9_plans_107 rfl (by omega) rfl (fun pc1 => ?_) (fun pc1 => ?_)
    · exfalso
      omega
    · have e1 := Int.emod_nonneg lf (b := (2 * (A 1 2))) (by omega)
      have e2 := Int.emod_lt_of_pos lf (b := (2 * (A 1 2))) (by omega)
      have e3 := Int.ediv_nonneg (a := lf) (b := (2 * (A 1 2))) (by omega) (by omega)
      have e4 := Int.ediv_le_self (2 * (A 1 2)) (a := lf) (by omega)
      have J2 : ∀ z3 : Int, z3 = (if A 8 h = 1 then lf % (2 * (A 1 2)) else 0) → Go w mX9_plans (0, 0) 131 [some (.ref a), some (.int (iZ (A 1 2))), some (.int (iZ cd)), some (.int (iZ fo)), some (.int (iZ co)), some (.int (iZ lf)), some (.int (iZ se)), some (.int (iZ su)), some (.int (iZ ma)), some (.int (iZ h)), none, none] [.int (iZ z3)] σ Φ := by
        intro z3 e4
        refine g_istore (ml' := [some (.ref a), some (.int (iZ (A 1 2))), some (.int (iZ cd)), some (.int (iZ fo)), some (.int (iZ co)), some (.int (iZ lf)), some (.int (iZ se)), some (.int (iZ su)), some (.int (iZ ma)), some (.int (iZ h)), some (.int (iZ z3)), none]) (q := 133) dX9_plans_131 rfl (Nat.le_of_ble_eq_true rfl) rfl rfl ?_
        have J5 : ∀ z6 : Int, z6 = (if A 8 h = 1 then A 9 (12 * h + z3) else 0) → Go w mX9_plans (0, 0) 161 [some (.ref a), some (.int (iZ (A 1 2))), some (.int (iZ cd)), some (.int (iZ fo)), some (.int (iZ co)), some (.int (iZ lf)), some (.int (iZ se)), some (.int (iZ su)), some (.int (iZ ma)), some (.int (iZ h)), some (.int (iZ z3)), none] [.int (iZ z6)] σ Φ := by
          intro z6 e7
          have bo := bHa h z3
          refine g_istore (ml' := [some (.ref a), some (.int (iZ (A 1 2))), some (.int (iZ cd)), some (.int (iZ fo)), some (.int (iZ co)), some (.int (iZ lf)), some (.int (iZ se)), some (.int (iZ su)), some (.int (iZ ma)), some (.int (iZ h)), some (.int (iZ z3)), some (.int (iZ z6))]) (q := 163) dX9_plans_161 rfl (Nat.le_of_ble_eq_true rfl) rfl rfl ?_
          have J8 : ∀ z9 : Int, z9 = (if A 8 h = 1 then lf / (2 * (A 1 2)) else lf) → Go w mX9_plans (0, 0) 185 [some (.ref a), some (.int (iZ (A 1 2))), some (.int (iZ cd)), some (.int (iZ fo)), some (.int (iZ co)), some (.int (iZ lf)), some (.int (iZ se)), some (.int (iZ su)), some (.int (iZ ma)), some (.int (iZ h)), some (.int (iZ z3)), some (.int (iZ z6))] [.int (iZ z9)] σ Φ := by
            intro z9 e10
            refine g_istore (ml' := [some (.ref a), some (.int (iZ (A 1 2))), some (.int (iZ cd)), some (.int (iZ fo)), some (.int (iZ co)), some (.int (iZ z9)), some (.int (iZ se)), some (.int (iZ su)), some (.int (iZ ma)), some (.int (iZ h)), some (.int (iZ z3)), some (.int (iZ z6))]) (q := 187) dX9_plans_185 rfl (Nat.le_of_ble_eq_true rfl) rfl rfl ?_
            refine g_iload (q := 189) dX9_plans_187 rfl rfl ?_
            have pb := pw_b5 (b := z3 / 2) (by omega)
            have J11 : ∀ z12 : Int, z12 = (if A 8 h = 1 then pw (z3 / 2) else 0) → Go w mX9_plans (0, 0) 210 [some (.ref a), some (.int (iZ (A 1 2))), some (.int (iZ cd)), some (.int (iZ fo)), some (.int (iZ co)), some (.int (iZ z9)), some (.int (iZ se)), some (.int (iZ su)), some (.int (iZ ma)), some (.int (iZ h)), some (.int (iZ z3)), some (.int (iZ z6))] [.int (iZ z12), .int (iZ se)] σ Φ := by
              intro z12 e13
              refine z_ior (q := 211) dX9_plans_210 (by omega) rfl ?_
              have b14 := bor_b (a := se) (b := z12) (by omega) (by omega)
              refine g_istore (ml' := [some (.ref a), some (.int (iZ (A 1 2))), some (.int (iZ cd)), some (.int (iZ fo)), some (.int (iZ co)), some (.int (iZ z9)), some (.int (iZ (bor se z12))), some (.int (iZ su)), some (.int (iZ ma)), some (.int (iZ h)), some (.int (iZ z3)), some (.int (iZ z6))]) (q := 213) dX9_plans_211 rfl (Nat.le_of_ble_eq_true rfl) rfl rfl ?_
              have J15 : ∀ z16 : Int, z16 = (if ma = 1 ∧ z6 ≠ -4 then 1 else 0) → Go w mX9_plans (0, 0) 230 [some (.ref a), some (.int (iZ (A 1 2))), some (.int (iZ cd)), some (.int (iZ fo)), some (.int (iZ co)), some (.int (iZ z9)), some (.int (iZ (bor se z12))), some (.int (iZ su)), some (.int (iZ ma)), some (.int (iZ h)), some (.int (iZ z3)), some (.int (iZ z6))] [.int (iZ z16)] σ Φ := by
                intro z16 e17
                refine g_istore (ml' := [some (.ref a), some (.int (iZ (A 1 2))), some (.int (iZ cd)), some (.int (iZ fo)), some (.int (iZ co)), some (.int (iZ z9)), some (.int (iZ (bor se z12))), some (.int (iZ su)), some (.int (iZ z16)), some (.int (iZ h)), some (.int (iZ z3)), some (.int (iZ z6))]) (q := 232) dX9_plans_230 rfl (Nat.le_of_ble_eq_true rfl) rfl rfl ?_
                refine g_iload (q := 234) dX9_plans_232 rfl rfl ?_
                refine g_iload (q := 236) dX9_plans_234 rfl rfl ?_
                refine z_iadd (q := 237) dX9_plans_236 rfl ?_
                refine g_istore (ml' := [some (.ref a), some (.int (iZ (A 1 2))), some (.int (iZ cd)), some (.int (iZ fo)), some (.int (iZ co)), some (.int (iZ z9)), some (.int (iZ (bor se z12))), some (.int (iZ (su + z6))), some (.int (iZ z16)), some (.int (iZ h)), some (.int (iZ z3)), some (.int (iZ z6))]) (q := 239) dX9_plans_237 rfl (Nat.le_of_ble_eq_true rfl) rfl rfl ?_
                refine g_aload_n (q := 240) dX9_plans_239 rfl rfl ?_
                refine g_get (q := 243) flX9_40 dX9_plans_240 m0 rfl rfl ?_
                refine g_iload (q := 245) dX9_plans_243 rfl rfl ?_
                refine g_iload (q := 247) dX9_plans_245 rfl rfl ?_
                refine z_iast (q := 248) dX9_plans_247 m11 (by omega) rfl (fun σ18 c19 f20 => ?_)
                have c21 := (f20.2 a (by omega)).trans m0
                have c22 := (f20.2 (a + 1) (by omega)).trans m1
                have c23 := (f20.2 (a + 2) (by omega)).trans m2
                have c24 := (f20.2 (a + 3) (by omega)).trans m3
                have c25 := (f20.2 (a + 4) (by omega)).trans m4
                have c26 := (f20.2 (a + 5) (by omega)).trans m5
                have c27 := (f20.2 (a + 6) (by omega)).trans m6
                have c28 := (f20.2 (a + 7) (by omega)).trans m7
                have c29 := (f20.2 (a + 8) (by omega)).trans m8
                have c30 := (f20.2 (a + 9) (by omega)).trans m9
                have c31 := (f20.2 (a + 10) (by omega)).trans m10
                refine z_iincc (c := (h - 1)) (ml' := [some (.ref a), some (.int (iZ (A 1 2))), some (.int (iZ cd)), some (.int (iZ fo)), some (.int (iZ co)), some (.int (iZ z9)), some (.int (iZ (bor se z12))), some (.int (iZ (su + z6))), some (.int (iZ z16)), some (.int (iZ (h - 1))), some (.int (iZ z3)), some (.int (iZ z6))]) (q := 251) dX9_plans_248 rfl (by omega) rfl rfl rfl ?_
                refine g_goto (q := 105) dX9_plans_251 rfl ?_
                refine Go.wk (ml' := [some (.ref a), some (.int (iZ (A 1 2))), some (.int (iZ cd)), some (.int (iZ fo)), some (.int (iZ co)), some (.int (iZ z9)), some (.int (iZ (bor se z12))), some (.int (iZ (su + z6))), some (.int (iZ z16)), some (.int (iZ (h - 1))), none, none]) ⟨Or.inr rfl, Or.inr rfl, Or.inr rfl, Or.inr rfl, Or.inr rfl, Or.inr rfl, Or.inr rfl, Or.inr rfl, Or.inr rfl, Or.inr rfl, Or.inl rfl, Or.inl rfl, trivial⟩ ?_
                exact ih z9 (bor se z12) (su + z6) z16 (h - 1) (zup W h z3) σ18 (by omega) (by omega) (by omega) (by omega) (by omega) (by rw [← hf]; subst_vars; rfl) ⟨c21, c22, c23, c24, c25, c26, c27, c28, c29, c30, c31, c19⟩ (hF.step f20 ⟨by omega, by omega⟩)
              refine g_iload (q := 215) dX9_plans_213 rfl rfl ?_
              refine z_if_eq (t := 229) (q := 218) dX9_plans_215 rfl (by omega) rfl (fun pc32 => ?_) (fun pc32 => ?_)
              · refine z_iconst (q := 230) dX9_plans_229 rfl ?_
                exact J15 _ (by omega)
              · refine g_iload (q := 220) dX9_plans_218 rfl rfl ?_
                refine g_bipush (v := iZ (-4)) (q := 222) dX9_plans_220 (by decide) rfl ?_
                refine z_icmp_eq (t := 229) (q := 225) dX9_plans_222 rfl (by omega) rfl (fun pc33 => ?_) (fun pc33 => ?_)
                · refine z_iconst (q := 230) dX9_plans_229 rfl ?_
                  exact J15 _ (by omega)
                · refine z_iconst (q := 226) dX9_plans_225 rfl ?_
                  refine g_goto (q := 230) dX9_plans_226 rfl ?_
                  exact J15 _ (by omega)
            refine g_aload_n (q := 190) dX9_plans_189 rfl rfl ?_
            refine g_get (q := 193) flX9_34 dX9_plans_190 m0 rfl rfl ?_
            refine g_iload (q := 195) dX9_plans_193 rfl rfl ?_
            refine z_iald (q := 196) dX9_plans_195 m9 (by omega) rfl ?_
            have b34 := bO h
            refine z_iconst (q := 197) dX9_plans_196 rfl ?_
            refine z_icmp_ne (t := 209) (q := 200) dX9_plans_197 rfl (by omega) rfl (fun pc35 => ?_) (fun pc35 => ?_)
            · refine z_iconst (q := 210) dX9_plans_209 rfl ?_
              exact J11 _ (by omega)
            · refine z_iconst (q := 201) dX9_plans_200 rfl ?_
              refine g_iload (q := 203) dX9_plans_201 rfl rfl ?_
              refine z_iconst (q := 204) dX9_plans_203 rfl ?_
              refine z_idiv (q := 205) dX9_plans_204 (by omega) rfl ?_
              refine z_shl1 (q := 206) dX9_plans_205 (by omega) rfl ?_
              have b36 := pw_b (b := (z3 / 2)) (by omega)
              refine g_goto (q := 210) dX9_plans_206 rfl ?_
              exact J11 _ (by omega)
          refine g_aload_n (q := 164) dX9_plans_163 rfl rfl ?_
          refine g_get (q := 167) flX9_34 dX9_plans_164 m0 rfl rfl ?_
          refine g_iload (q := 169) dX9_plans_167 rfl rfl ?_
          refine z_iald (q := 170) dX9_plans_169 m9 (by omega) rfl ?_
          have b37 := bO h
          refine z_iconst (q := 171) dX9_plans_170 rfl ?_
          refine z_icmp_ne (t := 183) (q := 174) dX9_plans_171 rfl (by omega) rfl (fun pc38 => ?_) (fun pc38 => ?_)
          · refine g_iload (q := 185) dX9_plans_183 rfl rfl ?_
            exact J8 _ (by omega)
          · refine g_iload (q := 176) dX9_plans_174 rfl rfl ?_
            refine z_iconst (q := 177) dX9_plans_176 rfl ?_
            refine g_iload_n (q := 178) dX9_plans_177 rfl rfl ?_
            refine z_imul (q := 179) dX9_plans_178 rfl ?_
            refine z_idiv (q := 180) dX9_plans_179 (by omega) rfl ?_
            refine g_goto (q := 185) dX9_plans_180 rfl ?_
            exact J8 _ (by omega)
        refine g_aload_n (q := 134) dX9_plans_133 rfl rfl ?_
        refine g_get (q := 137) flX9_34 dX9_plans_134 m0 rfl rfl ?_
        refine g_iload (q := 139) dX9_plans_137 rfl rfl ?_
        refine z_iald (q := 140) dX9_plans_139 m9 (by omega) rfl ?_
        have b39 := bO h
        refine z_iconst (q := 141) dX9_plans_140 rfl ?_
        refine z_icmp_ne (t := 160) (q := 144) dX9_plans_141 rfl (by omega) rfl (fun pc40 => ?_) (fun pc40 => ?_)
        · refine z_iconst (q := 161) dX9_plans_160 rfl ?_
          exact J5 _ (by omega)
        · refine g_aload_n (q := 145) dX9_plans_144 rfl rfl ?_
          refine g_get (q := 148) flX9_37 dX9_plans_145 m0 rfl rfl ?_
          refine g_bipush (v := iZ 12) (q := 150) dX9_plans_148 (by decide) rfl ?_
          refine g_iload (q := 152) dX9_plans_150 rfl rfl ?_
          refine z_imul (q := 153) dX9_plans_152 rfl ?_
          refine g_iload (q := 155) dX9_plans_153 rfl rfl ?_
          refine z_iaddc (c := (12 * h + z3)) (q := 156) dX9_plans_155 (by omega) rfl ?_
          refine z_iald (q := 157) dX9_plans_156 m10 (by omega) rfl ?_
          refine g_goto (q := 161) dX9_plans_157 rfl ?_
          exact J5 _ (by omega)
      refine g_aload_n (q := 111) dX9_plans_110 rfl rfl ?_
      refine g_get (q := 114) flX9_34 dX9_plans_111 m0 rfl rfl ?_
      refine g_iload (q := 116) dX9_plans_114 rfl rfl ?_
      refine z_iald (q := 117) dX9_plans_116 m9 (by omega) rfl ?_
      have b41 := bO h
      refine z_iconst (q := 118) dX9_plans_117 rfl ?_
      refine z_icmp_ne (t := 130) (q := 121) dX9_plans_118 rfl (by omega) rfl (fun pc42 => ?_) (fun pc42 => ?_)
      · refine z_iconst (q := 131) dX9_plans_130 rfl ?_
        exact J2 _ (by omega)
      · refine g_iload (q := 123) dX9_plans_121 rfl rfl ?_
        refine z_iconst (q := 124) dX9_plans_123 rfl ?_
        refine g_iload_n (q := 125) dX9_plans_124 rfl rfl ?_
        refine z_imul (q := 126) dX9_plans_125 rfl ?_
        refine z_irem (q := 127) dX9_plans_126 (by omega) rfl ?_
        refine g_goto (q := 131) dX9_plans_127 rfl ?_
        exact J2 _ (by omega)
theorem l_M_plans4 (w : g_W) (Φ : g_Post) (σ0 : g_H0) (a : Nat) (I : Nat → Int) (A : Nat → Int → Int) (bT : zBd (A 1) 1000) (h3 : 0 ≤ A 1 3 ∧ A 1 3 ≤ 5) (v1 v2 v3 v4 v6 v7 v8 v9 v10 : Int) (K : ∀ σ : g_H0, rM a I (nup A 7 (zcp (A 7) (A 10) 0 0 (A 1 3))) σ → g_Fr (mR a) σ0 σ → Go w mX9_plans (0, 0) 382 [some (.ref a), some (.int (iZ v1)), some (.int (iZ v2)), some (.int (iZ v3)), some (.int (iZ v4)), none, some (.int (iZ v6)), some (.int (iZ v7)), some (.int (iZ v8)), some (.int (iZ v9)), some (.int (iZ v10)), none] [] σ Φ) : ∀ (n : Nat) (i : Int) (σ : g_H0), 0 ≤ i → i + n = (A 1 3) → rM a I (nup A 7 (zcp (A 7) (A 10) 0 0 i)) σ → g_Fr (mR a) σ0 σ → Go w mX9_plans (0, 0) 351 [some (.ref a), some (.int (iZ v1)), some (.int (iZ v2)), some (.int (iZ v3)), some (.int (iZ v4)), none, some (.int (iZ v6)), some (.int (iZ v7)), some (.int (iZ v8)), some (.int (iZ v9)), some (.int (iZ v10)), some (.int (iZ i))] [] σ Φ := by
  intro n
  induction n with
  | zero =>
    intro i σ h0 h1 hM hF
    obtain ⟨m0, m1, m2, m3, m4, m5, m6, m7, m8, m9, m10, m11⟩ := id hM
    have m8 : σ[a + 8]? = some (.inl (0, 5, .inl (zA (zcp (A 7) (A 10) 0 0 i)))) := m8
    have m1 : σ[a + 1]? = some (.inl (0, 200, .inl (zA (A 0)))) := m1
    have m2 : σ[a + 2]? = some (.inl (0, 51, .inl (zA (A 1)))) := m2
    have m3 : σ[a + 3]? = some (.inl (0, 51, .inl (zA (A 2)))) := m3
    have m4 : σ[a + 4]? = some (.inl (0, 156, .inl (zA (A 3)))) := m4
    have m5 : σ[a + 5]? = some (.inl (0, 936, .inl (zA (A 4)))) := m5
    have m6 : σ[a + 6]? = some (.inl (0, 156, .inl (zA (A 5)))) := m6
    have m7 : σ[a + 7]? = some (.inl (0, 64, .inl (zA (A 6)))) := m7
    have m9 : σ[a + 9]? = some (.inl (0, 5, .inl (zA (A 8)))) := m9
    have m10 : σ[a + 10]? = some (.inl (0, 60, .inl (zA (A 9)))) := m10
    have m11 : σ[a + 11]? = some (.inl (0, 5, .inl (zA (A 10)))) := m11
    refine g_iload (q := 353) dX9_plans_351 rfl rfl ?_
    refine g_aload_n (q := 354) dX9_plans_353 rfl rfl ?_
    refine g_get (q := 357) flX9_13 dX9_plans_354 m0 rfl rfl ?_
    refine z_iconst (q := 358) dX9_plans_357 rfl ?_
    refine z_iald (q := 359) dX9_plans_358 m2 (by omega) rfl ?_
    have b1 := bT 3
    refine z_icmp_ge (t := 382) (q := 362) dX9_plans_359 rfl (by omega) rfl (fun pc2 => ?_) (fun pc2 => ?_)
    · obtain rfl : i = (A 1 3) := by omega
      refine Go.wk (ml' := [some (.ref a), some (.int (iZ v1)), some (.int (iZ v2)), some (.int (iZ v3)), some (.int (iZ v4)), none, some (.int (iZ v6)), some (.int (iZ v7)), some (.int (iZ v8)), some (.int (iZ v9)), some (.int (iZ v10)), none]) ⟨Or.inr rfl, Or.inr rfl, Or.inr rfl, Or.inr rfl, Or.inr rfl, Or.inr rfl, Or.inr rfl, Or.inr rfl, Or.inr rfl, Or.inr rfl, Or.inr rfl, Or.inl rfl, trivial⟩ ?_
      exact K σ hM hF
    · exfalso
      omega
  | succ n ih =>
    intro i σ h0 h1 hM hF
    obtain ⟨m0, m1, m2, m3, m4, m5, m6, m7, m8, m9, m10, m11⟩ := id hM
    have m8 : σ[a + 8]? = some (.inl (0, 5, .inl (zA (zcp (A 7) (A 10) 0 0 i)))) := m8
    have m1 : σ[a + 1]? = some (.inl (0, 200, .inl (zA (A 0)))) := m1
    have m2 : σ[a + 2]? = some (.inl (0, 51, .inl (zA (A 1)))) := m2
    have m3 : σ[a + 3]? = some (.inl (0, 51, .inl (zA (A 2)))) := m3
    have m4 : σ[a + 4]? = some (.inl (0, 156, .inl (zA (A 3)))) := m4
    have m5 : σ[a + 5]? = some (.inl (0, 936, .inl (zA (A 4)))) := m5
    have m6 : σ[a + 6]? = some (.inl (0, 156, .inl (zA (A 5)))) := m6
    have m7 : σ[a + 7]? = some (.inl (0, 64, .inl (zA (A 6)))) := m7
    have m9 : σ[a + 9]? = some (.inl (0, 5, .inl (zA (A 8)))) := m9
    have m10 : σ[a + 10]? = some (.inl (0, 60, .inl (zA (A 9)))) := m10
    have m11 : σ[a + 11]? = some (.inl (0, 5, .inl (zA (A 10)))) := m11
    refine g_iload (q := 353) dX9_plans_351 rfl rfl ?_
    refine g_aload_n (q := 354) dX9_plans_353 rfl rfl ?_
    refine g_get (q := 357) flX9_13 dX9_plans_354 m0 rfl rfl ?_
    refine z_iconst (q := 358) dX9_plans_357 rfl ?_
    refine z_iald (q := 359) dX9_plans_358 m2 (by omega) rfl ?_
    have b1 := bT 3
    refine z_icmp_ge (t := 382) (q := 362) dX9_plans_359 rfl (by omega) rfl (fun pc2 => ?_) (fun pc2 => ?_)
    · exfalso
      omega
    · refine g_aload_n (q := 363) dX9_plans_362 rfl rfl ?_
      refine g_get (q := 366) flX9_31 dX9_plans_363 m0 rfl rfl ?_
      refine g_iload (q := 368) dX9_plans_366 rfl rfl ?_
      refine g_aload_n (q := 369) dX9_plans_368 rfl rfl ?_
      refine g_get (q := 372) flX9_40 dX9_plans_369 m0 rfl rfl ?_
      refine g_iload (q := 374) dX9_plans_372 rfl rfl ?_
      refine z_iald (q := 375) dX9_plans_374 m11 (by omega) rfl ?_
      refine z_iast (q := 376) dX9_plans_375 m8 (by omega) rfl (fun σ3 c4 f5 => ?_)
      have c6 := (f5.2 a (by omega)).trans m0
      have c7 := (f5.2 (a + 1) (by omega)).trans m1
      have c8 := (f5.2 (a + 2) (by omega)).trans m2
      have c9 := (f5.2 (a + 3) (by omega)).trans m3
      have c10 := (f5.2 (a + 4) (by omega)).trans m4
      have c11 := (f5.2 (a + 5) (by omega)).trans m5
      have c12 := (f5.2 (a + 6) (by omega)).trans m6
      have c13 := (f5.2 (a + 7) (by omega)).trans m7
      have c14 := (f5.2 (a + 9) (by omega)).trans m9
      have c15 := (f5.2 (a + 10) (by omega)).trans m10
      have c16 := (f5.2 (a + 11) (by omega)).trans m11
      refine z_iincc (c := (i + 1)) (ml' := [some (.ref a), some (.int (iZ v1)), some (.int (iZ v2)), some (.int (iZ v3)), some (.int (iZ v4)), none, some (.int (iZ v6)), some (.int (iZ v7)), some (.int (iZ v8)), some (.int (iZ v9)), some (.int (iZ v10)), some (.int (iZ (i + 1)))]) (q := 379) dX9_plans_376 rfl (by omega) rfl rfl rfl ?_
      refine g_goto (q := 351) dX9_plans_379 rfl ?_
      exact ih (i + 1) σ3 (by omega) (by omega) (by rw [← zcp_step (i := i) (j := i) (v := ((A 10) i)) (by omega) (by omega) (congrArg (A 10) (by omega))]; exact ⟨c6, c7, c8, c9, c10, c11, c12, c13, c4, c14, c15, c16⟩) (hF.step f5 ⟨by omega, by omega⟩)
