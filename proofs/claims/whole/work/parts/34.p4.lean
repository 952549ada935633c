theorem l_M_plans5 (w : g_W) (Φ : g_Post) (σ0 : g_H0) (a : Nat) (I : Nat → Int) (A : Nat → Int → Int) (bT : zBd (A 1) 1000) (q2 : 1 ≤ A 1 2 ∧ A 1 2 ≤ 6) (h3 : 0 ≤ A 1 3 ∧ A 1 3 ≤ 5) (bHa : ∀ h v, 0 ≤ h → h < A 1 3 → 0 ≤ v → v < 2 * A 1 2 → -1000 ≤ A 9 (12 * h + v) ∧ A 9 (12 * h + v) ≤ 1000) (bR : ∀ k, 0 ≤ k → k < pw (A 1 2) → -1000 ≤ A 6 k ∧ A 6 k ≤ 1000) (bO : ∀ h, 0 ≤ h → h < A 1 3 → -1000 ≤ A 8 h ∧ A 8 h ≤ 1000) (cd : Int) (bcd : cd < 1000000) (F : Int × Int × Int × (Int → Int) × (Int → Int))  : ∀ (n : Nat) (co fo bh bt : Int) (Bs W : Int → Int) (σ : g_H0), 0 ≤ co → co + n = cd → (0 ≤ fo ∧ fo ≤ 1) → (fo = 1 → (-10000 ≤ bh ∧ bh ≤ 10000) ∧ (-10000 ≤ bt ∧ bt ≤ 10000)) → mPlF (A 1) (A 8) (A 9) (A 6) n co fo bh bt Bs W = F → rM a (nup (nup I 3 bh) 4 bt) (nup (nup A 7 Bs) 10 W) σ → g_Fr (mR a) σ0 σ → Go w mX9_plans (0, 0) 76 [some (.ref a), some (.int (iZ (A 1 2))), some (.int (iZ cd)), some (.int (iZ fo)), some (.int (iZ co)), none, none, none, none, none, none, none] [] σ (fun r σ' => r = some (.int (iZ F.1)) ∧ rM a (nup (nup I 3 F.2.1) 4 F.2.2.1) (nup (nup A 7 F.2.2.2.1) 10 F.2.2.2.2) σ' ∧ g_Fr (mR a) σ0 σ') := by
  intro n
  induction n with
  | zero =>
    intro co fo bh bt Bs W σ hc hcn hfo hb hf hM hF
    obtain ⟨m0, m1, m2, m3, m4, m5, m6, m7, m8, m9, m10, m11⟩ := id hM
    have m8 : σ[a + 8]? = some (.inl (0, 5, .inl (zA Bs))) := m8
    have m11 : σ[a + 11]? = some (.inl (0, 5, .inl (zA W))) := m11
    have m1 : σ[a + 1]? = some (.inl (0, 200, .inl (zA (A 0)))) := m1
    have m2 : σ[a + 2]? = some (.inl (0, 51, .inl (zA (A 1)))) := m2
    have m3 : σ[a + 3]? = some (.inl (0, 51, .inl (zA (A 2)))) := m3
    have m4 : σ[a + 4]? = some (.inl (0, 156, .inl (zA (A 3)))) := m4
    have m5 : σ[a + 5]? = some (.inl (0, 936, .inl (zA (A 4)))) := m5
    have m6 : σ[a + 6]? = some (.inl (0, 156, .inl (zA (A 5)))) := m6
    have m7 : σ[a + 7]? = some (.inl (0, 64, .inl (zA (A 6)))) := m7
    have m9 : σ[a + 9]? = some (.inl (0, 5, .inl (zA (A 8)))) := m9
    have m10 : σ[a + 10]? = some (.inl (0, 60, .inl (zA (A 9)))) := m10
    have m0 : σ[a]? = some (.inr (9, [.int (iZ (I 0)), .ref (a + 1), .int (iZ (I 1)), .ref (a + 2), .ref (a + 3), .ref (a + 4), .ref (a + 5), .int (iZ (I 2)), .ref (a + 6), .ref (a + 7), .ref (a + 8), .int (iZ bh), .int (iZ bt), .ref (a + 9), .ref (a + 10), .ref (a + 11)])) := m0
    refine g_iload (q := 78) dX9_plans_76 rfl rfl ?_
    refine g_iload_n (q := 79) dX9_plans_78 rfl rfl ?_
    refine z_icmp_ge (t := 388) (q := 82) dX9_plans_79 rfl (by omega) rfl (fun pc1 => ?_) (fun pc1 => ?_)
    · refine g_iload_n (q := 389) dX9_plans_388 rfl rfl ?_
      refine z_zret dX9_plans_389 rfl (z01_nar (by omega)) ?_
      subst hf
      exact ⟨rfl, hM, hF⟩
    · exfalso
      omega
  | succ n ih =>
    intro co fo bh bt Bs W σ hc hcn hfo hb hf hM hF
    obtain ⟨m0, m1, m2, m3, m4, m5, m6, m7, m8, m9, m10, m11⟩ := id hM
    have m8 : σ[a + 8]? = some (.inl (0, 5, .inl (zA Bs))) := m8
    have m11 : σ[a + 11]? = some (.inl (0, 5, .inl (zA W))) := m11
    have m1 : σ[a + 1]? = some (.inl (0, 200, .inl (zA (A 0)))) := m1
    have m2 : σ[a + 2]? = some (.inl (0, 51, .inl (zA (A 1)))) := m2
    have m3 : σ[a + 3]? = some (.inl (0, 51, .inl (zA (A 2)))) := m3
    have m4 : σ[a + 4]? = some (.inl (0, 156, .inl (zA (A 3)))) := m4
    have m5 : σ[a + 5]? = some (.inl (0, 936, .inl (zA (A 4)))) := m5
    have m6 : σ[a + 6]? = some (.inl (0, 156, .inl (zA (A 5)))) := m6
    have m7 : σ[a + 7]? = some (.inl (0, 64, .inl (zA (A 6)))) := m7
    have m9 : σ[a + 9]? = some (.inl (0, 5, .inl (zA (A 8)))) := m9
    have m10 : σ[a + 10]? = some (.inl (0, 60, .inl (zA (A 9)))) := m10
    have m0 : σ[a]? = some (.inr (9, [.int (iZ (I 0)), .ref (a + 1), .int (iZ (I 1)), .ref (a + 2), .ref (a + 3), .ref (a + 4), .ref (a + 5), .int (iZ (I 2)), .ref (a + 6), .ref (a + 7), .ref (a + 8), .int (iZ bh), .int (iZ bt), .ref (a + 9), .ref (a + 10), .ref (a + 11)])) := m0
    refine g_iload (q := 78) dX9_plans_76 rfl rfl ?_
    refine g_iload_n (q := 79) dX9_plans_78 rfl rfl ?_
    refine z_icmp_ge (t := 388) (q := 82) dX9_plans_79 rfl (by omega) rfl (fun pc1 => ?_) (fun pc1 => ?_)
    · exfalso
      omega
    · refine g_iload (q := 84) dX9_plans_82 rfl rfl ?_
      refine g_istore (ml' := [some (.ref a), some (.int (iZ (A 1 2))), some (.int (iZ cd)), some (.int (iZ fo)), some (.int (iZ co)), some (.int (iZ co)), none, none, none, none, none, none]) (q := 86) dX9_plans_84 rfl (Nat.le_of_ble_eq_true rfl) rfl rfl ?_
      refine z_iconst (q := 87) dX9_plans_86 rfl ?_
      refine g_istore (ml' := [some (.ref a), some (.int (iZ (A 1 2))), some (.int (iZ cd)), some (.int (iZ fo)), some (.int (iZ co)), some (.int (iZ co)), some (.int (iZ 0)), none, none, none, none, none]) (q := 89) dX9_plans_87 rfl (Nat.le_of_ble_eq_true rfl) rfl rfl ?_
      refine z_iconst (q := 90) dX9_plans_89 rfl ?_
      refine g_istore (ml' := [some (.ref a), some (.int (iZ (A 1 2))), some (.int (iZ cd)), some (.int (iZ fo)), some (.int (iZ co)), some (.int (iZ co)), some (.int (iZ 0)), some (.int (iZ 0)), none, none, none, none]) (q := 92) dX9_plans_90 rfl (Nat.le_of_ble_eq_true rfl) rfl rfl ?_
      refine z_iconst (q := 93) dX9_plans_92 rfl ?_
      refine g_istore (ml' := [some (.ref a), some (.int (iZ (A 1 2))), some (.int (iZ cd)), some (.int (iZ fo)), some (.int (iZ co)), some (.int (iZ co)), some (.int (iZ 0)), some (.int (iZ 0)), some (.int (iZ 1)), none, none, none]) (q := 95) dX9_plans_93 rfl (Nat.le_of_ble_eq_true rfl) rfl rfl ?_
      refine g_aload_n (q := 96) dX9_plans_95 rfl rfl ?_
      refine g_get (q := 99) flX9_13 dX9_plans_96 m0 rfl rfl ?_
      refine z_iconst (q := 100) dX9_plans_99 rfl ?_
      refine z_iald (q := 101) dX9_plans_100 m2 (by omega) rfl ?_
      have b2 := bT 3
      refine z_iconst (q := 102) dX9_plans_101 rfl ?_
      refine z_isub (q := 103) dX9_plans_102 rfl ?_
      refine g_istore (ml' := [some (.ref a), some (.int (iZ (A 1 2))), some (.int (iZ cd)), some (.int (iZ fo)), some (.int (iZ co)), some (.int (iZ co)), some (.int (iZ 0)), some (.int (iZ 0)), some (.int (iZ 1)), some (.int (iZ (((A 1) 3) - 1))), none, none]) (q := 105) dX9_plans_103 rfl (Nat.le_of_ble_eq_true rfl) rfl rfl ?_
      refine l_M_plans3 w _ σ0 a (nup (nup I 3 bh) 4 bt) (nup A 7 Bs) q2 h3 bHa bO cd fo co (mDecF (A 8) (A 9) (2 * (A 1 2)) (A 1 3).toNat (A 1 3 - 1) co 0 0 1 W) (fun σ9 hM9 hF9 => ?_) (A 1 3).toNat co 0 0 1 (A 1 3 - 1) W σ (by omega) (show A 1 3 - 1 < A 1 3 by omega) (by omega) (by omega) (by omega) rfl hM hF
      have pwb := pw_b (b := A 1 2) (by omega)
      have db := mDecF_b (O := A 8) (Ha := A 9) (N := A 1 2) (nh := A 1 3) (by omega) bHa (A 1 3).toNat (A 1 3 - 1) co 0 0 1 W (by omega) (by omega) (by omega) (by omega) (by omega)
      have br := bR (mDecF (A 8) (A 9) (2 * (A 1 2)) (A 1 3).toNat (A 1 3 - 1) co 0 0 1 W).2.1 (by omega) (by omega)
      obtain ⟨m0, m1, m2, m3, m4, m5, m6, m7, m8, m9, m10, m11⟩ := id hM9
      have m8 : σ9[a + 8]? = some (.inl (0, 5, .inl (zA Bs))) := m8
      have m11 : σ9[a + 11]? = some (.inl (0, 5, .inl (zA ((mDecF (A 8) (A 9) (2 * (A 1 2)) (A 1 3).toNat (A 1 3 - 1) co 0 0 1 W).2.2.2.2)))) := m11
      have m1 : σ9[a + 1]? = some (.inl (0, 200, .inl (zA (A 0)))) := m1
      have m2 : σ9[a + 2]? = some (.inl (0, 51, .inl (zA (A 1)))) := m2
      have m3 : σ9[a + 3]? = some (.inl (0, 51, .inl (zA (A 2)))) := m3
      have m4 : σ9[a + 4]? = some (.inl (0, 156, .inl (zA (A 3)))) := m4
      have m5 : σ9[a + 5]? = some (.inl (0, 936, .inl (zA (A 4)))) := m5
      have m6 : σ9[a + 6]? = some (.inl (0, 156, .inl (zA (A 5)))) := m6
      have m7 : σ9[a + 7]? = some (.inl (0, 64, .inl (zA (A 6)))) := m7
      have m9 : σ9[a + 9]? = some (.inl (0, 5, .inl (zA (A 8)))) := m9
      have m10 : σ9[a + 10]? = some (.inl (0, 60, .inl (zA (A 9)))) := m10
      have m0 : σ9[a]? = some (.inr (9, [.int (iZ (I 0)), .ref (a + 1), .int (iZ (I 1)), .ref (a + 2), .ref (a + 3), .ref (a + 4), .ref (a + 5), .int (iZ (I 2)), .ref (a + 6), .ref (a + 7), .ref (a + 8), .int (iZ bh), .int (iZ bt), .ref (a + 9), .ref (a + 10), .ref (a + 11)])) := m0
      refine g_iload (q := 256) dX9_plans_254 rfl rfl ?_
      refine g_aload_n (q := 257) dX9_plans_256 rfl rfl ?_
      refine g_get (q := 260) flX9_28 dX9_plans_257 m0 rfl rfl ?_
      refine g_iload (q := 262) dX9_plans_260 rfl rfl ?_
      refine z_iald (q := 263) dX9_plans_262 m7 (by omega) rfl ?_
      refine z_iadd (q := 264) dX9_plans_263 rfl ?_
      refine g_istore (ml' := [some (.ref a), some (.int (iZ (A 1 2))), some (.int (iZ cd)), some (.int (iZ fo)), some (.int (iZ co)), none, some (.int (iZ ((mDecF (A 8) (A 9) (2 * (A 1 2)) (A 1 3).toNat (A 1 3 - 1) co 0 0 1 W).2.1))), some (.int (iZ ((mDecF (A 8) (A 9) (2 * (A 1 2)) (A 1 3).toNat (A 1 3 - 1) co 0 0 1 W).2.2.1))), some (.int (iZ ((mDecF (A 8) (A 9) (2 * (A 1 2)) (A 1 3).toNat (A 1 3 - 1) co 0 0 1 W).2.2.2.1))), some (.int (iZ ((mDecF (A 8) (A 9) (2 * (A 1 2)) (A 1 3).toNat (A 1 3 - 1) co 0 0 1 W).2.2.1 + ((A 6) ((mDecF (A 8) (A 9) (2 * (A 1 2)) (A 1 3).toNat (A 1 3 - 1) co 0 0 1 W).2.1))))), none, none]) (q := 266) dX9_plans_264 rfl (Nat.le_of_ble_eq_true rfl) rfl rfl ?_
      have J3 : ∀ z4 : Int, z4 = (if (mDecF (A 8) (A 9) (2 * (A 1 2)) (A 1 3).toNat (A 1 3 - 1) co 0 0 1 W).2.2.2.1 = 1 ∧ (fo = 0 ∨ ((mDecF (A 8) (A 9) (2 * (A 1 2)) (A 1 3).toNat (A 1 3 - 1) co 0 0 1 W).2.2.1 + ((A 6) ((mDecF (A 8) (A 9) (2 * (A 1 2)) (A 1 3).toNat (A 1 3 - 1) co 0 0 1 W).2.1))) < bh + bt ∨ (((mDecF (A 8) (A 9) (2 * (A 1 2)) (A 1 3).toNat (A 1 3 - 1) co 0 0 1 W).2.2.1 + ((A 6) ((mDecF (A 8) (A 9) (2 * (A 1 2)) (A 1 3).toNat (A 1 3 - 1) co 0 0 1 W).2.1))) = bh + bt ∧ ((A 6) (mDecF (A 8) (A 9) (2 * (A 1 2)) (A 1 3).toNat (A 1 3 - 1) co 0 0 1 W).2.1) < bt)) then 1 else 0) → Go w mX9_plans (0, 0) 322 [some (.ref a), some (.int (iZ (A 1 2))), some (.int (iZ cd)), some (.int (iZ fo)), some (.int (iZ co)), none, some (.int (iZ ((mDecF (A 8) (A 9) (2 * (A 1 2)) (A 1 3).toNat (A 1 3 - 1) co 0 0 1 W).2.1))), some (.int (iZ ((mDecF (A 8) (A 9) (2 * (A 1 2)) (A 1 3).toNat (A 1 3 - 1) co 0 0 1 W).2.2.1))), some (.int (iZ ((mDecF (A 8) (A 9) (2 * (A 1 2)) (A 1 3).toNat (A 1 3 - 1) co 0 0 1 W).2.2.2.1))), some (.int (iZ ((mDecF (A 8) (A 9) (2 * (A 1 2)) (A 1 3).toNat (A 1 3 - 1) co 0 0 1 W).2.2.1 + ((A 6) ((mDecF (A 8) (A 9) (2 * (A 1 2)) (A 1 3).toNat (A 1 3 - 1) co 0 0 1 W).2.1))))), none, none] [.int (iZ z4)] σ9 (fun r σ' => r = some (.int (iZ F.1)) ∧ rM a (nup (nup I 3 F.2.1) 4 F.2.2.1) (nup (nup A 7 F.2.2.2.1) 10 F.2.2.2.2) σ' ∧ g_Fr (mR a) σ0 σ') := by
        intro z4 e5
        refine g_istore (ml' := [some (.ref a), some (.int (iZ (A 1 2))), some (.int (iZ cd)), some (.int (iZ fo)), some (.int (iZ co)), none, some (.int (iZ ((mDecF (A 8) (A 9) (2 * (A 1 2)) (A 1 3).toNat (A 1 3 - 1) co 0 0 1 W).2.1))), some (.int (iZ ((mDecF (A 8) (A 9) (2 * (A 1 2)) (A 1 3).toNat (A 1 3 - 1) co 0 0 1 W).2.2.1))), some (.int (iZ ((mDecF (A 8) (A 9) (2 * (A 1 2)) (A 1 3).toNat (A 1 3 - 1) co 0 0 1 W).2.2.2.1))), some (.int (iZ ((mDecF (A 8) (A 9) (2 * (A 1 2)) (A 1 3).toNat (A 1 3 - 1) co 0 0 1 W).2.2.1 + ((A 6) ((mDecF (A 8) (A 9) (2 * (A 1 2)) (A 1 3).toNat (A 1 3 - 1) co 0 0 1 W).2.1))))), some (.int (iZ z4)), none]) (q := 324) dX9_plans_322 rfl (Nat.le_of_ble_eq_true rfl) rfl rfl ?_
        refine g_iload (q := 326) dX9_plans_324 rfl rfl ?_
        refine z_if_eq (t := 382) (q := 329) dX9_plans_326 rfl (by omega) rfl (fun pc6 => ?_) (fun pc6 => ?_)
        · refine z_iincc (c := (co + 1)) (ml' := [some (.ref a), some (.int (iZ (A 1 2))), some (.int (iZ cd)), some (.int (iZ fo)), some (.int (iZ (co + 1))), none, some (.int (iZ ((mDecF (A 8) (A 9) (2 * (A 1 2)) (A 1 3).toNat (A 1 3 - 1) co 0 0 1 W).2.1))), some (.int (iZ ((mDecF (A 8) (A 9) (2 * (A 1 2)) (A 1 3).toNat (A 1 3 - 1) co 0 0 1 W).2.2.1))), some (.int (iZ ((mDecF (A 8) (A 9) (2 * (A 1 2)) (A 1 3).toNat (A 1 3 - 1) co 0 0 1 W).2.2.2.1))), some (.int (iZ ((mDecF (A 8) (A 9) (2 * (A 1 2)) (A 1 3).toNat (A 1 3 - 1) co 0 0 1 W).2.2.1 + ((A 6) ((mDecF (A 8) (A 9) (2 * (A 1 2)) (A 1 3).toNat (A 1 3 - 1) co 0 0 1 W).2.1))))), some (.int (iZ z4)), none]) (q := 385) dX9_plans_382 rfl (by omega) rfl rfl rfl ?_
          refine g_goto (q := 76) dX9_plans_385 rfl ?_
          refine Go.wk (ml' := [some (.ref a), some (.int (iZ (A 1 2))), some (.int (iZ cd)), some (.int (iZ fo)), some (.int (iZ (co + 1))), none, none, none, none, none, none, none]) ⟨Or.inr rfl, Or.inr rfl, Or.inr rfl, Or.inr rfl, Or.inr rfl, Or.inl rfl, Or.inl rfl, Or.inl rfl, Or.inl rfl, Or.inl rfl, Or.inl rfl, Or.inl rfl, trivial⟩ ?_
          exact ih (co + 1) fo bh bt Bs (mDecF (A 8) (A 9) (2 * (A 1 2)) (A 1 3).toNat (A 1 3 - 1) co 0 0 1 W).2.2.2.2 σ9 (by omega) (by omega) (by omega) (by omega) (by rw [← hf]; (conv => rhs; unfold mPlF; rw [if_neg (by omega)])) hM9 hF9
        · refine z_iconst (q := 330) dX9_plans_329 rfl ?_
          refine g_istore_n (ml' := [some (.ref a), some (.int (iZ (A 1 2))), some (.int (iZ cd)), some (.int (iZ 1)), some (.int (iZ co)), none, some (.int (iZ ((mDecF (A 8) (A 9) (2 * (A 1 2)) (A 1 3).toNat (A 1 3 - 1) co 0 0 1 W).2.1))), some (.int (iZ ((mDecF (A 8) (A 9) (2 * (A 1 2)) (A 1 3).toNat (A 1 3 - 1) co 0 0 1 W).2.2.1))), some (.int (iZ ((mDecF (A 8) (A 9) (2 * (A 1 2)) (A 1 3).toNat (A 1 3 - 1) co 0 0 1 W).2.2.2.1))), some (.int (iZ ((mDecF (A 8) (A 9) (2 * (A 1 2)) (A 1 3).toNat (A 1 3 - 1) co 0 0 1 W).2.2.1 + ((A 6) ((mDecF (A 8) (A 9) (2 * (A 1 2)) (A 1 3).toNat (A 1 3 - 1) co 0 0 1 W).2.1))))), some (.int (iZ z4)), none]) (q := 331) dX9_plans_330 rfl (Nat.le_of_ble_eq_true rfl) rfl rfl ?_
          refine g_aload_n (q := 332) dX9_plans_331 rfl rfl ?_
          refine g_iload (q := 334) dX9_plans_332 rfl rfl ?_
          refine z_put (fs' := [.int (iZ (I 0)), .ref (a + 1), .int (iZ (I 1)), .ref (a + 2), .ref (a + 3), .ref (a + 4), .ref (a + 5), .int (iZ (I 2)), .ref (a + 6), .ref (a + 7), .ref (a + 8), .int (iZ ((mDecF (A 8) (A 9) (2 * (A 1 2)) (A 1 3).toNat (A 1 3 - 1) co 0 0 1 W).2.2.1)), .int (iZ bt), .ref (a + 9), .ref (a + 10), .ref (a + 11)]) (q := 337) fpX9_185 dX9_plans_334 m0 (Nat.le_of_ble_eq_true rfl) rfl rfl rfl rfl (fun σ7 c8 f9 => ?_)
          have c10 := (f9.2 (a + 1) (by omega)).trans m1
          have c11 := (f9.2 (a + 2) (by omega)).trans m2
          have c12 := (f9.2 (a + 3) (by omega)).trans m3
          have c13 := (f9.2 (a + 4) (by omega)).trans m4
          have c14 := (f9.2 (a + 5) (by omega)).trans m5
          have c15 := (f9.2 (a + 6) (by omega)).trans m6
          have c16 := (f9.2 (a + 7) (by omega)).trans m7
          have c17 := (f9.2 (a + 8) (by omega)).trans m8
          have c18 := (f9.2 (a + 9) (by omega)).trans m9
          have c19 := (f9.2 (a + 10) (by omega)).trans m10
          have c20 := (f9.2 (a + 11) (by omega)).trans m11
          refine g_aload_n (q := 338) dX9_plans_337 rfl rfl ?_
          refine g_aload_n (q := 339) dX9_plans_338 rfl rfl ?_
          refine g_get (q := 342) flX9_28 dX9_plans_339 c8 rfl rfl ?_
          refine g_iload (q := 344) dX9_plans_342 rfl rfl ?_
          refine z_iald (q := 345) dX9_plans_344 c16 (by omega) rfl ?_
          refine z_put (fs' := [.int (iZ (I 0)), .ref (a + 1), .int (iZ (I 1)), .ref (a + 2), .ref (a + 3), .ref (a + 4), .ref (a + 5), .int (iZ (I 2)), .ref (a + 6), .ref (a + 7), .ref (a + 8), .int (iZ ((mDecF (A 8) (A 9) (2 * (A 1 2)) (A 1 3).toNat (A 1 3 - 1) co 0 0 1 W).2.2.1)), .int (iZ ((A 6) ((mDecF (A 8) (A 9) (2 * (A 1 2)) (A 1 3).toNat (A 1 3 - 1) co 0 0 1 W).2.1))), .ref (a + 9), .ref (a + 10), .ref (a + 11)]) (q := 348) fpX9_188 dX9_plans_345 c8 (Nat.le_of_ble_eq_true rfl) rfl rfl rfl rfl (fun σ21 c22 f23 => ?_)
          have c24 := (f23.2 (a + 1) (by omega)).trans c10
          have c25 := (f23.2 (a + 2) (by omega)).trans c11
          have c26 := (f23.2 (a + 3) (by omega)).trans c12
          have c27 := (f23.2 (a + 4) (by omega)).trans c13
          have c28 := (f23.2 (a + 5) (by omega)).trans c14
          have c29 := (f23.2 (a + 6) (by omega)).trans c15
          have c30 := (f23.2 (a + 7) (by omega)).trans c16
          have c31 := (f23.2 (a + 8) (by omega)).trans c17
          have c32 := (f23.2 (a + 9) (by omega)).trans c18
          have c33 := (f23.2 (a + 10) (by omega)).trans c19
          have c34 := (f23.2 (a + 11) (by omega)).trans c20
          refine z_iconst (q := 349) dX9_plans_348 rfl ?_
          refine g_istore (ml' := [some (.ref a), some (.int (iZ (A 1 2))), some (.int (iZ cd)), some (.int (iZ 1)), some (.int (iZ co)), none, some (.int (iZ ((mDecF (A 8) (A 9) (2 * (A 1 2)) (A 1 3).toNat (A 1 3 - 1) co 0 0 1 W).2.1))), some (.int (iZ ((mDecF (A 8) (A 9) (2 * (A 1 2)) (A 1 3).toNat (A 1 3 - 1) co 0 0 1 W).2.2.1))), some (.int (iZ ((mDecF (A 8) (A 9) (2 * (A 1 2)) (A 1 3).toNat (A 1 3 - 1) co 0 0 1 W).2.2.2.1))), some (.int (iZ ((mDecF (A 8) (A 9) (2 * (A 1 2)) (A 1 3).toNat (A 1 3 - 1) co 0 0 1 W).2.2.1 + ((A 6) ((mDecF (A 8) (A 9) (2 * (A 1 2)) (A 1 3).toNat (A 1 3 - 1) co 0 0 1 W).2.1))))), some (.int (iZ z4)), some (.int (iZ 0))]) (q := 351) dX9_plans_349 rfl (Nat.le_of_ble_eq_true rfl) rfl rfl ?_
          have hM8 : rM a (nup (nup I 3 (mDecF (A 8) (A 9) (2 * (A 1 2)) (A 1 3).toNat (A 1 3 - 1) co 0 0 1 W).2.2.1) 4 ((A 6) (mDecF (A 8) (A 9) (2 * (A 1 2)) (A 1 3).toNat (A 1 3 - 1) co 0 0 1 W).2.1)) (nup (nup A 7 Bs) 10 (mDecF (A 8) (A 9) (2 * (A 1 2)) (A 1 3).toNat (A 1 3 - 1) co 0 0 1 W).2.2.2.2) σ21 := ⟨c22, c24, c25, c26, c27, c28, c29, c30, c31, c32, c33, c34⟩
          refine l_M_plans4 w _ σ0 a _ (nup (nup A 7 Bs) 10 (mDecF (A 8) (A 9) (2 * (A 1 2)) (A 1 3).toNat (A 1 3 - 1) co 0 0 1 W).2.2.2.2) bT h3 (A 1 2) cd 1 co ((mDecF (A 8) (A 9) (2 * (A 1 2)) (A 1 3).toNat (A 1 3 - 1) co 0 0 1 W).2.1) ((mDecF (A 8) (A 9) (2 * (A 1 2)) (A 1 3).toNat (A 1 3 - 1) co 0 0 1 W).2.2.1) ((mDecF (A 8) (A 9) (2 * (A 1 2)) (A 1 3).toNat (A 1 3 - 1) co 0 0 1 W).2.2.2.1) ((mDecF (A 8) (A 9) (2 * (A 1 2)) (A 1 3).toNat (A 1 3 - 1) co 0 0 1 W).2.2.1 + ((A 6) ((mDecF (A 8) (A 9) (2 * (A 1 2)) (A 1 3).toNat (A 1 3 - 1) co 0 0 1 W).2.1))) z4 (fun σ8 hM7 hF7 => ?_) (A 1 3).toNat 0 σ21 (by omega) (by show 0 + (((A 1 3).toNat : Nat) : Int) = A 1 3; omega) (hM8.congr (fun _ _ => rfl) (fun j _ => by rw [zcp_0, nup_id])) ((hF9.step f9 ⟨by omega, by omega⟩).step f23 ⟨by omega, by omega⟩)
          refine z_iincc (c := (co + 1)) (ml' := [some (.ref a), some (.int (iZ (A 1 2))), some (.int (iZ cd)), some (.int (iZ 1)), some (.int (iZ (co + 1))), none, some (.int (iZ ((mDecF (A 8) (A 9) (2 * (A 1 2)) (A 1 3).toNat (A 1 3 - 1) co 0 0 1 W).2.1))), some (.int (iZ ((mDecF (A 8) (A 9) (2 * (A 1 2)) (A 1 3).toNat (A 1 3 - 1) co 0 0 1 W).2.2.1))), some (.int (iZ ((mDecF (A 8) (A 9) (2 * (A 1 2)) (A 1 3).toNat (A 1 3 - 1) co 0 0 1 W).2.2.2.1))), some (.int (iZ ((mDecF (A 8) (A 9) (2 * (A 1 2)) (A 1 3).toNat (A 1 3 - 1) co 0 0 1 W).2.2.1 + ((A 6) ((mDecF (A 8) (A 9) (2 * (A 1 2)) (A 1 3).toNat (A 1 3 - 1) co 0 0 1 W).2.1))))), some (.int (iZ z4)), none]) (q := 385) dX9_plans_382 rfl (by omega) rfl rfl rfl ?_
          refine g_goto (q := 76) dX9_plans_385 rfl ?_
          refine Go.wk (ml' := [some (.ref a), some (.int (iZ (A 1 2))), some (.int (iZ cd)), some (.int (iZ 1)), some (.int (iZ (co + 1))), none, none, none, none, none, none, none]) ⟨Or.inr rfl, Or.inr rfl, Or.inr rfl, Or.inr rfl, Or.inr rfl, Or.inl rfl, Or.inl rfl, Or.inl rfl, Or.inl rfl, Or.inl rfl, Or.inl rfl, Or.inl rfl, trivial⟩ ?_
          exact ih (co + 1) 1 (mDecF (A 8) (A 9) (2 * (A 1 2)) (A 1 3).toNat (A 1 3 - 1) co 0 0 1 W).2.2.1 ((A 6) (mDecF (A 8) (A 9) (2 * (A 1 2)) (A 1 3).toNat (A 1 3 - 1) co 0 0 1 W).2.1) (zcp Bs (mDecF (A 8) (A 9) (2 * (A 1 2)) (A 1 3).toNat (A 1 3 - 1) co 0 0 1 W).2.2.2.2 0 0 (A 1 3)) (mDecF (A 8) (A 9) (2 * (A 1 2)) (A 1 3).toNat (A 1 3 - 1) co 0 0 1 W).2.2.2.2 σ8 (by omega) (by omega) (by omega) (by omega) (by rw [← hf]; (conv => rhs; unfold mPlF; rw [if_pos (by omega)])) (hM7.congr (fun _ _ => rfl) (fun j _ => by
            show nup (nup (nup A 7 Bs) 10 (mDecF (A 8) (A 9) (2 * (A 1 2)) (A 1 3).toNat (A 1 3 - 1) co 0 0 1 W).2.2.2.2) 7 (zcp Bs (mDecF (A 8) (A 9) (2 * (A 1 2)) (A 1 3).toNat (A 1 3 - 1) co 0 0 1 W).2.2.2.2 0 0 (A 1 3)) j = _
            rw [nup_cm _ _ _ (show (10 : Nat) ≠ 7 by omega), nup_nup])) hF7
      refine g_iload (q := 268) dX9_plans_266 rfl rfl ?_
      refine z_if_eq (t := 321) (q := 271) dX9_plans_268 rfl (by omega) rfl (fun pc35 => ?_) (fun pc35 => ?_)
      · refine z_iconst (q := 322) dX9_plans_321 rfl ?_
        exact J3 _ (by omega)
      · refine g_iload_n (q := 272) dX9_plans_271 rfl rfl ?_
        refine z_if_eq (t := 317) (q := 275) dX9_plans_272 rfl (by omega) rfl (fun pc36 => ?_) (fun pc36 => ?_)
        · refine z_iconst (q := 318) dX9_plans_317 rfl ?_
          refine g_goto (q := 322) dX9_plans_318 rfl ?_
          exact J3 _ (by omega)
        · refine g_iload (q := 277) dX9_plans_275 rfl rfl ?_
          refine g_aload_n (q := 278) dX9_plans_277 rfl rfl ?_
          refine g_get (q := 281) flX9_185 dX9_plans_278 m0 rfl rfl ?_
          refine g_aload_n (q := 282) dX9_plans_281 rfl rfl ?_
          refine g_get (q := 285) flX9_188 dX9_plans_282 m0 rfl rfl ?_
          refine z_iadd (q := 286) dX9_plans_285 rfl ?_
          refine z_icmp_lt (t := 317) (q := 289) dX9_plans_286 rfl (by omega) rfl (fun pc37 => ?_) (fun pc37 => ?_)
          · refine z_iconst (q := 318) dX9_plans_317 rfl ?_
            refine g_goto (q := 322) dX9_plans_318 rfl ?_
            exact J3 _ (by omega)
          · refine g_iload (q := 291) dX9_plans_289 rfl rfl ?_
            refine g_aload_n (q := 292) dX9_plans_291 rfl rfl ?_
            refine g_get (q := 295) flX9_185 dX9_plans_292 m0 rfl rfl ?_
            refine g_aload_n (q := 296) dX9_plans_295 rfl rfl ?_
            refine g_get (q := 299) flX9_188 dX9_plans_296 m0 rfl rfl ?_
            refine z_iadd (q := 300) dX9_plans_299 rfl ?_
            refine z_icmp_ne (t := 321) (q := 303) dX9_plans_300 rfl (by omega) rfl (fun pc38 => ?_) (fun pc38 => ?_)
            · refine z_iconst (q := 322) dX9_plans_321 rfl ?_
              exact J3 _ (by omega)
            · refine g_aload_n (q := 304) dX9_plans_303 rfl rfl ?_
              refine g_get (q := 307) flX9_28 dX9_plans_304 m0 rfl rfl ?_
              refine g_iload (q := 309) dX9_plans_307 rfl rfl ?_
              refine z_iald (q := 310) dX9_plans_309 m7 (by omega) rfl ?_
              refine g_aload_n (q := 311) dX9_plans_310 rfl rfl ?_
              refine g_get (q := 314) flX9_188 dX9_plans_311 m0 rfl rfl ?_
              refine z_icmp_ge (t := 321) (q := 317) dX9_plans_314 rfl (by omega) rfl (fun pc39 => ?_) (fun pc39 => ?_)
              · refine z_iconst (q := 322) dX9_plans_321 rfl ?_
                exact J3 _ (by omega)
              · refine z_iconst (q := 318) dX9_plans_317 rfl ?_
                refine g_goto (q := 322) dX9_plans_318 rfl ?_
                exact J3 _ (by omega)
theorem mCodF_b {T S : Int → Int} (hT : 1 ≤ T 2 ∧ T 2 ≤ 6) : ∀ (m : Nat) (h p : Int), 1 ≤ p → 1 ≤ mCodF T S m h p ∧ mCodF T S m h p ≤ p * 12 ^ m
  | 0, h, p, hp => by unfold mCodF; omega
  | m + 1, h, p, hp => by
    unfold mCodF
    have hx : 1 ≤ (if 0 < mOpen T S h then 2 * T 2 else 1) ∧ (if 0 < mOpen T S h then 2 * T 2 else 1) ≤ 12 := by split <;> omega
    generalize (if 0 < mOpen T S h then 2 * T 2 else 1) = x at hx ⊢
    have h1 : 1 ≤ p * x := by
      have := Int.mul_le_mul hp hx.1 (by omega) (by omega)
      omega
    have h2 : p * x ≤ p * 12 := Int.mul_le_mul_of_nonneg_left hx.2 (by omega)
    have := mCodF_b (S := S) hT m (h + 1) (p * x) h1
    refine ⟨this.1, Int.le_trans this.2 ?_⟩
    have h3 : (0 : Int) ≤ 12 ^ m := Int.le_of_lt (Int.pow_pos (by omega))
    have h4 := Int.mul_le_mul_of_nonneg_right h2 h3
    have h5 : p * 12 * 12 ^ m = p * 12 ^ (m + 1) := by rw [Int.pow_succ, Int.mul_assoc, Int.mul_comm 12]
    omega
theorem mTurF_at (n here : Int) : ∀ (m : Nat) (s : Int) (R : Int → Int) (k : Int), mTurF n here m s R k = if s ≤ k ∧ k < s + m then mRound n here k else R k
  | 0, s, R, k => by unfold mTurF; rw [if_neg (by omega)]
  | m + 1, s, R, k => by
    unfold mTurF
    rw [mTurF_at n here m]
    by_cases h : k = s
    · subst h
      rw [if_neg (by omega), if_pos (by omega), zup_self]
    · rw [zup_ne _ _ h]
      by_cases h2 : s + 1 ≤ k ∧ k < s + 1 + m
      · rw [if_pos h2, if_pos (by omega)]
      · rw [if_neg h2, if_neg (by omega)]
theorem r_M_plans (σ : g_H0) (a : Nat) (I : Nat → Int) (A : Nat → Int → Int) (hM : rM a I A σ) (hT : wfT (A 1)) (hS : wfS (A 1) (A 3)) (bHa : ∀ h v, 0 ≤ h → h < A 1 3 → 0 ≤ v → v < 2 * A 1 2 → -1000 ≤ A 9 (12 * h + v) ∧ A 9 (12 * h + v) ≤ 1000) (bO : ∀ h, 0 ≤ h → h < A 1 3 → -1000 ≤ A 8 h ∧ A 8 h ≤ 1000) : Ret mX9_plans [.ref a] σ (fun r σ' => r = some (.int (iZ (mPlF (A 1) (A 8) (A 9) (mTurF (A 1 2) (A 3 150) (pw (A 1 2)).toNat 0 (A 6)) (mCodF (A 1) (A 3) (A 1 3).toNat 0 1).toNat 0 0 (I 3) (I 4) (A 7) (A 10)).1)) ∧ rM a (nup (nup I 3 (mPlF (A 1) (A 8) (A 9) (mTurF (A 1 2) (A 3 150) (pw (A 1 2)).toNat 0 (A 6)) (mCodF (A 1) (A 3) (A 1 3).toNat 0 1).toNat 0 0 (I 3) (I 4) (A 7) (A 10)).2.1) 4 (mPlF (A 1) (A 8) (A 9) (mTurF (A 1 2) (A 3 150) (pw (A 1 2)).toNat 0 (A 6)) (mCodF (A 1) (A 3) (A 1 3).toNat 0 1).toNat 0 0 (I 3) (I 4) (A 7) (A 10)).2.2.1) (nup (nup (nup A 6 (mTurF (A 1 2) (A 3 150) (pw (A 1 2)).toNat 0 (A 6))) 7 (mPlF (A 1) (A 8) (A 9) (mTurF (A 1 2) (A 3 150) (pw (A 1 2)).toNat 0 (A 6)) (mCodF (A 1) (A 3) (A 1 3).toNat 0 1).toNat 0 0 (I 3) (I 4) (A 7) (A 10)).2.2.2.1) 10 (mPlF (A 1) (A 8) (A 9) (mTurF (A 1 2) (A 3 150) (pw (A 1 2)).toNat 0 (A 6)) (mCodF (A 1) (A 3) (A 1 3).toNat 0 1).toNat 0 0 (I 3) (I 4) (A 7) (A 10)).2.2.2.2) σ' ∧ g_Fr (mR a) σ σ') := by
  refine Ret.of moX9_plans.1 (Nat.le_of_ble_eq_true rfl) (fun w => ?_)
  obtain ⟨m0, m1, m2, m3, m4, m5, m6, m7, m8, m9, m10, m11⟩ := id hM
  have bT := hT.1
  have bS := hS.bs hT
  have q0 := hT.2.1
  have q1 := hT.2.2.1
  have q2 := hT.2.2.2.1
  have h3 := hT.2.2.2.2.1
  have h4 := hT.2.2.2.2.2.1
  have s150 := hS.2.2.1
  have pwb := pw_b (b := A 1 2) (by omega)
  show Go w mX9_plans (0, 0) 0 [some (.ref a), none, none, none, none, none, none, none, none, none, none, none] [] σ (fun r σ' => r = some (.int (iZ (mPlF (A 1) (A 8) (A 9) (mTurF (A 1 2) (A 3 150) (pw (A 1 2)).toNat 0 (A 6)) (mCodF (A 1) (A 3) (A 1 3).toNat 0 1).toNat 0 0 (I 3) (I 4) (A 7) (A 10)).1)) ∧ rM a (nup (nup I 3 (mPlF (A 1) (A 8) (A 9) (mTurF (A 1 2) (A 3 150) (pw (A 1 2)).toNat 0 (A 6)) (mCodF (A 1) (A 3) (A 1 3).toNat 0 1).toNat 0 0 (I 3) (I 4) (A 7) (A 10)).2.1) 4 (mPlF (A 1) (A 8) (A 9) (mTurF (A 1 2) (A 3 150) (pw (A 1 2)).toNat 0 (A 6)) (mCodF (A 1) (A 3) (A 1 3).toNat 0 1).toNat 0 0 (I 3) (I 4) (A 7) (A 10)).2.2.1) (nup (nup (nup A 6 (mTurF (A 1 2) (A 3 150) (pw (A 1 2)).toNat 0 (A 6))) 7 (mPlF (A 1) (A 8) (A 9) (mTurF (A 1 2) (A 3 150) (pw (A 1 2)).toNat 0 (A 6)) (mCodF (A 1) (A 3) (A 1 3).toNat 0 1).toNat 0 0 (I 3) (I 4) (A 7) (A 10)).2.2.2.1) 10 (mPlF (A 1) (A 8) (A 9) (mTurF (A 1 2) (A 3 150) (pw (A 1 2)).toNat 0 (A 6)) (mCodF (A 1) (A 3) (A 1 3).toNat 0 1).toNat 0 0 (I 3) (I 4) (A 7) (A 10)).2.2.2.2) σ' ∧ g_Fr (mR a) σ σ')
  refine g_aload_n (q := 1) dX9_plans_0 rfl rfl ?_
  refine g_get (q := 4) flX9_13 dX9_plans_1 m0 rfl rfl ?_
  refine z_iconst (q := 5) dX9_plans_4 rfl ?_
  refine z_iald (q := 6) dX9_plans_5 m2 (by omega) rfl ?_
  have b1 := bT 2
  refine g_istore_n (ml' := [some (.ref a), some (.int (iZ ((A 1) 2))), none, none, none, none, none, none, none, none, none, none]) (q := 7) dX9_plans_6 rfl (Nat.le_of_ble_eq_true rfl) rfl rfl ?_
  refine z_iconst (q := 8) dX9_plans_7 rfl ?_
  refine g_istore_n (ml' := [some (.ref a), some (.int (iZ ((A 1) 2))), some (.int (iZ 0)), none, none, none, none, none, none, none, none, none]) (q := 9) dX9_plans_8 rfl (Nat.le_of_ble_eq_true rfl) rfl rfl ?_
  refine l_M_plans1 w _ σ a I A hT hS (mTurF (A 1 2) (A 3 150) (pw (A 1 2)).toNat 0 (A 6)) (fun σ1 hM1 hF1 => ?_) (pw (A 1 2)).toNat 0 (A 6) σ (by omega) (by omega) rfl (hM.congr (fun _ _ => rfl) (fun j _ => by rw [nup_id])) g_Fr.rf
  refine z_iconst (q := 34) dX9_plans_33 rfl ?_
  refine g_istore_n (ml' := [some (.ref a), some (.int (iZ (A 1 2))), some (.int (iZ 1)), none, none, none, none, none, none, none, none, none]) (q := 35) dX9_plans_34 rfl (Nat.le_of_ble_eq_true rfl) rfl rfl ?_
  refine z_iconst (q := 36) dX9_plans_35 rfl ?_
  refine g_istore_n (ml' := [some (.ref a), some (.int (iZ (A 1 2))), some (.int (iZ 1)), some (.int (iZ 0)), none, none, none, none, none, none, none, none]) (q := 37) dX9_plans_36 rfl (Nat.le_of_ble_eq_true rfl) rfl rfl ?_
  refine l_M_plans2 w _ σ a I (nup A 6 (mTurF (A 1 2) (A 3 150) (pw (A 1 2)).toNat 0 (A 6))) hT hS (mCodF (A 1) (A 3) (A 1 3).toNat 0 1) (fun σ2 hM2 hF2 => ?_) (A 1 3).toNat 0 1 σ1 (by omega) (by show 0 + (((A 1 3).toNat : Nat) : Int) = A 1 3; omega) rfl hM1 hF1
  refine z_iconst (q := 72) dX9_plans_71 rfl ?_
  refine g_istore_n (ml' := [some (.ref a), some (.int (iZ (A 1 2))), some (.int (iZ (mCodF (A 1) (A 3) (A 1 3).toNat 0 1))), some (.int (iZ 0)), none, none, none, none, none, none, none, none]) (q := 73) dX9_plans_72 rfl (Nat.le_of_ble_eq_true rfl) rfl rfl ?_
  refine z_iconst (q := 74) dX9_plans_73 rfl ?_
  refine g_istore (ml' := [some (.ref a), some (.int (iZ (A 1 2))), some (.int (iZ (mCodF (A 1) (A 3) (A 1 3).toNat 0 1))), some (.int (iZ 0)), some (.int (iZ 0)), none, none, none, none, none, none, none]) (q := 76) dX9_plans_74 rfl (Nat.le_of_ble_eq_true rfl) rfl rfl ?_
  have cb := mCodF_b (S := A 3) q2 (A 1 3).toNat 0 1 (by omega)
  have cb2 : (1 : Int) * 12 ^ (A 1 3).toNat ≤ 248832 := by
    rcases (by omega : (A 1 3).toNat = 0 ∨ (A 1 3).toNat = 1 ∨ (A 1 3).toNat = 2 ∨ (A 1 3).toNat = 3 ∨ (A 1 3).toNat = 4 ∨ (A 1 3).toNat = 5) with e | e | e | e | e | e <;> rw [e] <;> decide
  exact l_M_plans5 w (fun _ _ => True) σ a I (nup A 6 (mTurF (A 1 2) (A 3 150) (pw (A 1 2)).toNat 0 (A 6))) bT q2 h3 bHa (fun k k0 (k1 : k < pw (A 1 2)) => by
    show -1000 ≤ (mTurF (A 1 2) (A 3 150) (pw (A 1 2)).toNat 0 (A 6)) k ∧ (mTurF (A 1 2) (A 3 150) (pw (A 1 2)).toNat 0 (A 6)) k ≤ 1000
    rw [mTurF_at, if_pos (by omega)]
    have := mRound_b (n := A 1 2) (here := A 3 150) (set := k) (by omega)
    omega) bO (mCodF (A 1) (A 3) (A 1 3).toNat 0 1) (by omega) (mPlF (A 1) (A 8) (A 9) (mTurF (A 1 2) (A 3 150) (pw (A 1 2)).toNat 0 (A 6)) (mCodF (A 1) (A 3) (A 1 3).toNat 0 1).toNat 0 0 (I 3) (I 4) (A 7) (A 10)) (mCodF (A 1) (A 3) (A 1 3).toNat 0 1).toNat 0 0 (I 3) (I 4) (A 7) (A 10) σ2 (by omega) (by omega) (by omega) (by omega) rfl (hM2.congr (fun j _ => by rw [nup_id, nup_id]) (fun j _ => by
    have e7 := nup_id (nup A 6 (mTurF (A 1 2) (A 3 150) (pw (A 1 2)).toNat 0 (A 6))) 7
    have e10 := nup_id (nup A 6 (mTurF (A 1 2) (A 3 150) (pw (A 1 2)).toNat 0 (A 6))) 10
    show _ = nup (nup (nup A 6 (mTurF (A 1 2) (A 3 150) (pw (A 1 2)).toNat 0 (A 6))) 7 ((nup A 6 (mTurF (A 1 2) (A 3 150) (pw (A 1 2)).toNat 0 (A 6))) 7)) 10 ((nup A 6 (mTurF (A 1 2) (A 3 150) (pw (A 1 2)).toNat 0 (A 6))) 10) j
    rw [e7, e10])) hF2
