theorem mStrN_b {x y a b : Int} (hx : 0 ≤ x ∧ x + a - 1 < 12) (hy : 0 ≤ y ∧ y + b - 1 < 12) (ha : 1 ≤ a) : ∀ (n : Nat) (c : Int) (S : Int → Int) (m : Int), (∀ c, 0 ≤ c → c < 144 → 0 ≤ S c ∧ S c ≤ 1) → 0 ≤ c → c + n ≤ a * b → m ≤ mStrN x y a n c S m ∧ mStrN x y a n c S m ≤ m + n
  | 0, c, S, m, _, _, _ => by unfold mStrN; omega
  | n + 1, c, S, m, h, h0, h1 => by
    have d := zdm (c := c) (a := a) (b := b) h0 (by omega) (by omega)
    have hs := h (12 * y + 12 * (c / a) + x + c % a) (by omega) (by omega)
    have := mStrN_b hx hy ha n (c + 1) (zup S (12 * y + 12 * (c / a) + x + c % a) 1) (m - S (12 * y + 12 * (c / a) + x + c % a) + 1) (fun c' k0 k1 => by
      unfold zup
      split
      · omega
      · exact h c' k0 k1) (by omega) (by omega)
    unfold mStrN
    omega
theorem mNibF_rf (T : Int → Int) (h k t : Int) : ∀ (n : Nat) (i : Int) (S : Int → Int) (m : Int), 0 ≤ (mNibF T h k t n i S m).2.2 ∧ (mNibF T h k t n i S m).2.2 ≤ 1
  | 0, i, S, m => by unfold mNibF; show (0 : Int) ≤ 0 ∧ (0 : Int) ≤ 1; omega
  | n + 1, i, S, m => by
    unfold mNibF
    split
    · exact mNibF_rf T h k t n _ _ _
    · split
      · show (0 : Int) ≤ 1 ∧ (1 : Int) ≤ 1; omega
      · exact mNibF_rf T h k t n _ _ _
theorem mNibF_out {T : Int → Int} {h k t : Int} (hT : wfT T) (hh : 0 ≤ h ∧ h < T 3) (hk : 0 ≤ k ∧ k < T 2) (hn : mNib T h k t ≠ -4) : ∀ (n : Nat) (i : Int) (S : Int → Int) (m j : Int), 0 ≤ i → i + n ≤ mNib T h k t → (j < 0 ∨ 156 ≤ j) → (mNibF T h k t n i S m).1 j = S j
  | 0, i, S, m, j, _, _, _ => rfl
  | n + 1, i, S, m, j, h0, h1, hj => by
    have xy := mNxy hT hh hk hn h0 (by omega)
    have hb := hT.2.2.2.2.2.2.2.1 h hh.1 hh.2
    have q0 := hT.2.1
    have q1 := hT.2.2.1
    have q2 := hT.2.2.2.1
    unfold mNibF
    split
    · exact mNibF_out hT hh hk hn n _ _ _ j (by omega) (by omega) hj
    · split
      · rfl
      · rw [mNibF_out hT hh hk hn n _ _ _ j (by omega) (by omega) hj]
        exact mStr_out (by omega) (by omega) (by omega) (hT.w hk.1 hk.2 t) (hT.h hk.1 hk.2 t) hj
theorem mNibF_wf {T : Int → Int} {h k t : Int} (hT : wfT T) (hk : 0 ≤ k ∧ k < T 2) : ∀ (n : Nat) (i : Int) (S : Int → Int) (m : Int), wfS T S → wfS T (mNibF T h k t n i S m).1
  | 0, i, S, m, hS => hS
  | n + 1, i, S, m, hS => by
    unfold mNibF
    split
    · exact mNibF_wf hT hk n _ _ _ hS
    · split
      · exact hS
      · next c =>
        have := mWhy_b T S k (mNx T h k t i) (mNy T h k t i) t
        exact mNibF_wf hT hk n _ _ _ (hS.str hT hk (by omega))
theorem l_M_nibcp (w : g_W) (Φ : g_Post) (σ0 : g_H0) (a : Nat) (I : Nat → Int) (A : Nat → Int → Int) (h k t v4 v5 v6 v7 v8 : Int) (K : ∀ σ : g_H0, rM a I (nup A 5 (zcp (A 5) (A 3) 0 0 156)) σ → g_Fr (mR a) σ0 σ → Go w mX9_nibble (0, 0) 126 [some (.ref a), some (.int (iZ h)), some (.int (iZ k)), some (.int (iZ t)), some (.int (iZ v4)), some (.int (iZ v5)), some (.int (iZ v6)), some (.int (iZ v7)), some (.int (iZ v8)), none, none, none, none, none, none] [] σ Φ) : ∀ (n : Nat) (i : Int) (σ : g_H0), 0 ≤ i → i + n = 156 → rM a I (nup A 5 (zcp (A 5) (A 3) 0 0 i)) σ → g_Fr (mR a) σ0 σ → Go w mX9_nibble (0, 0) 98 [some (.ref a), some (.int (iZ h)), some (.int (iZ k)), some (.int (iZ t)), some (.int (iZ v4)), some (.int (iZ v5)), some (.int (iZ v6)), some (.int (iZ v7)), some (.int (iZ v8)), some (.int (iZ i)), none, none, none, none, none] [] σ Φ := by
  intro n
  induction n with
  | zero =>
    intro i σ h0 h1 hM hF
    obtain ⟨m0, m1, m2, m3, m4, m5, m6, m7, m8, m9, m10, m11⟩ := id hM
    have m6 : σ[a + 6]? = some (.inl (0, 156, .inl (zA (zcp (A 5) (A 3) 0 0 i)))) := m6
    have m1 : σ[a + 1]? = some (.inl (0, 200, .inl (zA (A 0)))) := m1
    have m2 : σ[a + 2]? = some (.inl (0, 51, .inl (zA (A 1)))) := m2
    have m3 : σ[a + 3]? = some (.inl (0, 51, .inl (zA (A 2)))) := m3
    have m4 : σ[a + 4]? = some (.inl (0, 156, .inl (zA (A 3)))) := m4
    have m5 : σ[a + 5]? = some (.inl (0, 936, .inl (zA (A 4)))) := m5
    have m7 : σ[a + 7]? = some (.inl (0, 64, .inl (zA (A 6)))) := m7
    have m8 : σ[a + 8]? = some (.inl (0, 5, .inl (zA (A 7)))) := m8
    have m9 : σ[a + 9]? = some (.inl (0, 5, .inl (zA (A 8)))) := m9
    have m10 : σ[a + 10]? = some (.inl (0, 60, .inl (zA (A 9)))) := m10
    have m11 : σ[a + 11]? = some (.inl (0, 5, .inl (zA (A 10)))) := m11
    refine g_iload (q := 100) dX9_nibble_98 rfl rfl ?_
    refine g_sipush (v := iZ 156) (q := 103) dX9_nibble_100 (by decide) rfl ?_
    refine z_icmp_ge (t := 126) (q := 106) dX9_nibble_103 rfl (by omega) rfl (fun pc1 => ?_) (fun pc1 => ?_)
    · obtain rfl : i = 156 := by omega
      refine Go.wk (ml' := [some (.ref a), some (.int (iZ h)), some (.int (iZ k)), some (.int (iZ t)), some (.int (iZ v4)), some (.int (iZ v5)), some (.int (iZ v6)), some (.int (iZ v7)), some (.int (iZ v8)), none, none, none, none, none, none]) ⟨Or.inr rfl, Or.inr rfl, Or.inr rfl, Or.inr rfl, Or.inr rfl, Or.inr rfl, Or.inr rfl, Or.inr rfl, Or.inr rfl, Or.inl rfl, Or.inr rfl, Or.inr rfl, Or.inr rfl, Or.inr rfl, Or.inr rfl, trivial⟩ ?_
      exact K σ hM hF
    · exfalso
      omega
  | succ n ih =>
    intro i σ h0 h1 hM hF
    obtain ⟨m0, m1, m2, m3, m4, m5, m6, m7, m8, m9, m10, m11⟩ := id hM
    have m6 : σ[a + 6]? = some (.inl (0, 156, .inl (zA (zcp (A 5) (A 3) 0 0 i)))) := m6
    have m1 : σ[a + 1]? = some (.inl (0, 200, .inl (zA (A 0)))) := m1
    have m2 : σ[a + 2]? = some (.inl (0, 51, .inl (zA (A 1)))) := m2
    have m3 : σ[a + 3]? = some (.inl (0, 51, .inl (zA (A 2)))) := m3
    have m4 : σ[a + 4]? = some (.inl (0, 156, .inl (zA (A 3)))) := m4
    have m5 : σ[a + 5]? = some (.inl (0, 936, .inl (zA (A 4)))) := m5
    have m7 : σ[a + 7]? = some (.inl (0, 64, .inl (zA (A 6)))) := m7
    have m8 : σ[a + 8]? = some (.inl (0, 5, .inl (zA (A 7)))) := m8
    have m9 : σ[a + 9]? = some (.inl (0, 5, .inl (zA (A 8)))) := m9
    have m10 : σ[a + 10]? = some (.inl (0, 60, .inl (zA (A 9)))) := m10
    have m11 : σ[a + 11]? = some (.inl (0, 5, .inl (zA (A 10)))) := m11
    refine g_iload (q := 100) dX9_nibble_98 rfl rfl ?_
    refine g_sipush (v := iZ 156) (q := 103) dX9_nibble_100 (by decide) rfl ?_
    refine z_icmp_ge (t := 126) (q := 106) dX9_nibble_103 rfl (by omega) rfl (fun pc1 => ?_) (fun pc1 => ?_)
    · exfalso
      omega
    · refine g_aload_n (q := 107) dX9_nibble_106 rfl rfl ?_
      refine g_get (q := 110) flX9_25 dX9_nibble_107 m0 rfl rfl ?_
      refine g_iload (q := 112) dX9_nibble_110 rfl rfl ?_
      refine g_aload_n (q := 113) dX9_nibble_112 rfl rfl ?_
      refine g_get (q := 116) flX9_19 dX9_nibble_113 m0 rfl rfl ?_
      refine g_iload (q := 118) dX9_nibble_116 rfl rfl ?_
      refine z_iald (q := 119) dX9_nibble_118 m4 (by omega) rfl ?_
      refine z_iast (q := 120) dX9_nibble_119 m6 (by omega) rfl (fun σ2 c3 f4 => ?_)
      have c5 := (f4.2 a (by omega)).trans m0
      have c6 := (f4.2 (a + 1) (by omega)).trans m1
      have c7 := (f4.2 (a + 2) (by omega)).trans m2
      have c8 := (f4.2 (a + 3) (by omega)).trans m3
      have c9 := (f4.2 (a + 4) (by omega)).trans m4
      have c10 := (f4.2 (a + 5) (by omega)).trans m5
      have c11 := (f4.2 (a + 7) (by omega)).trans m7
      have c12 := (f4.2 (a + 8) (by omega)).trans m8
      have c13 := (f4.2 (a + 9) (by omega)).trans m9
      have c14 := (f4.2 (a + 10) (by omega)).trans m10
      have c15 := (f4.2 (a + 11) (by omega)).trans m11
      refine z_iincc (c := (i + 1)) (ml' := [some (.ref a), some (.int (iZ h)), some (.int (iZ k)), some (.int (iZ t)), some (.int (iZ v4)), some (.int (iZ v5)), some (.int (iZ v6)), some (.int (iZ v7)), some (.int (iZ v8)), some (.int (iZ (i + 1))), none, none, none, none, none]) (q := 123) dX9_nibble_120 rfl (by omega) rfl rfl rfl ?_
      refine g_goto (q := 98) dX9_nibble_123 rfl ?_
      exact ih (i + 1) σ2 (by omega) (by omega) (by rw [← zcp_step (i := i) (j := i) (v := ((A 3) i)) (by omega) (by omega) (congrArg (A 3) (by omega))]; exact ⟨c5, c6, c7, c8, c9, c10, c3, c11, c12, c13, c14, c15⟩) (hF.step f4 ⟨by omega, by omega⟩)
theorem l_M_nibble (w : g_W) (Φ : g_Post) (σ0 : g_H0) (a : Nat) (I : Nat → Int) (A : Nat → Int → Int) (Hd : Int → Int) (hT : wfT (A 1)) (h k t : Int) (hk0 : 0 ≤ h ∧ h < A 1 3) (hk : 0 ≤ k ∧ k < A 1 2) (bt : 0 ≤ t ∧ t ≤ 1) (hnb : (mNib (A 1) h k t) ≠ -4) (F : (Int → Int) × Int × Int) (K : ∀ σ : g_H0, rM a I (nup (nup A 5 Hd) 3 F.1) σ → g_Fr (mR a) σ0 σ → Go w mX9_nibble (0, 0) 368 [some (.ref a), some (.int (iZ h)), some (.int (iZ k)), some (.int (iZ t)), some (.int (iZ (mNib (A 1) h k t))), some (.int (iZ (4 * h + 29))), some (.int (iZ (mWide (A 1) k t))), some (.int (iZ (mHigh (A 1) k t))), some (.int (iZ ((((A 1) (4 * h + 31)) + (mWide (A 1) k t) - 1) / (mWide (A 1) k t)))), some (.int (iZ F.2.1)), some (.int (iZ F.2.2)), none, none, none, none] [] σ Φ) : ∀ (n : Nat) (i m : Int) (S : Int → Int) (σ : g_H0), 0 ≤ i → i + n = (mNib (A 1) h k t) → mNibF (A 1) h k t n i S m = F → wfS (A 1) S → rM a I (nup (nup A 5 Hd) 3 S) σ → g_Fr (mR a) σ0 σ → Go w mX9_nibble (0, 0) 135 [some (.ref a), some (.int (iZ h)), some (.int (iZ k)), some (.int (iZ t)), some (.int (iZ (mNib (A 1) h k t))), some (.int (iZ (4 * h + 29))), some (.int (iZ (mWide (A 1) k t))), some (.int (iZ (mHigh (A 1) k t))), some (.int (iZ ((((A 1) (4 * h + 31)) + (mWide (A 1) k t) - 1) / (mWide (A 1) k t)))), some (.int (iZ m)), some (.int (iZ 0)), some (.int (iZ i)), none, none, none] [] σ Φ := by
  intro n
  induction n with
  | zero =>
    intro i m S σ hi hin hF hS hM hFr
    obtain ⟨m0, m1, m2, m3, m4, m5, m6, m7, m8, m9, m10, m11⟩ := id hM
    have m4 : σ[a + 4]? = some (.inl (0, 156, .inl (zA S))) := m4
    have m6 : σ[a + 6]? = some (.inl (0, 156, .inl (zA Hd))) := m6
    have m1 : σ[a + 1]? = some (.inl (0, 200, .inl (zA (A 0)))) := m1
    have m2 : σ[a + 2]? = some (.inl (0, 51, .inl (zA (A 1)))) := m2
    have m3 : σ[a + 3]? = some (.inl (0, 51, .inl (zA (A 2)))) := m3
    have m5 : σ[a + 5]? = some (.inl (0, 936, .inl (zA (A 4)))) := m5
    have m7 : σ[a + 7]? = some (.inl (0, 64, .inl (zA (A 6)))) := m7
    have m8 : σ[a + 8]? = some (.inl (0, 5, .inl (zA (A 7)))) := m8
    have m9 : σ[a + 9]? = some (.inl (0, 5, .inl (zA (A 8)))) := m9
    have m10 : σ[a + 10]? = some (.inl (0, 60, .inl (zA (A 9)))) := m10
    have m11 : σ[a + 11]? = some (.inl (0, 5, .inl (zA (A 10)))) := m11
    have bT := hT.1
    have bS := hS.bs hT
    have q0 := hT.2.1
    have q1 := hT.2.2.1
    have q2 := hT.2.2.2.1
    have h3 := hT.2.2.2.2.1
    have h4 := hT.2.2.2.2.2.1
    have s150 := hS.2.2.1
    have hw := hT.w hk.1 hk.2 t
    have hh := hT.h hk.1 hk.2 t
    have hb := hT.2.2.2.2.2.2.2.1 h hk0.1 hk0.2
    obtain ⟨-, w1, w2, en, r1, r2⟩ := mNib_ok hT hk0 hk hnb
    have nb := mNib_b (t := t) hT hk0 hk
    have hab := zmul36 hw hh
    refine g_iload (q := 137) dX9_nibble_135 rfl rfl ?_
    refine g_iload (q := 139) dX9_nibble_137 rfl rfl ?_
    refine z_icmp_ge (t := 368) (q := 142) dX9_nibble_139 rfl (by omega) rfl (fun pc1 => ?_) (fun pc1 => ?_)
    · subst hF
      refine Go.wk (ml' := [some (.ref a), some (.int (iZ h)), some (.int (iZ k)), some (.int (iZ t)), some (.int (iZ (mNib (A 1) h k t))), some (.int (iZ (4 * h + 29))), some (.int (iZ (mWide (A 1) k t))), some (.int (iZ (mHigh (A 1) k t))), some (.int (iZ ((((A 1) (4 * h + 31)) + (mWide (A 1) k t) - 1) / (mWide (A 1) k t)))), some (.int (iZ m)), some (.int (iZ 0)), none, none, none, none]) ⟨Or.inr rfl, Or.inr rfl, Or.inr rfl, Or.inr rfl, Or.inr rfl, Or.inr rfl, Or.inr rfl, Or.inr rfl, Or.inr rfl, Or.inr rfl, Or.inr rfl, Or.inl rfl, Or.inl rfl, Or.inl rfl, Or.inl rfl, trivial⟩ ?_
      exact K σ hM hFr
    · exfalso
      omega
  | succ n ih =>
    intro i m S σ hi hin hF hS hM hFr
    obtain ⟨m0, m1, m2, m3, m4, m5, m6, m7, m8, m9, m10, m11⟩ := id hM
    have m4 : σ[a + 4]? = some (.inl (0, 156, .inl (zA S))) := m4
    have m6 : σ[a + 6]? = some (.inl (0, 156, .inl (zA Hd))) := m6
    have m1 : σ[a + 1]? = some (.inl (0, 200, .inl (zA (A 0)))) := m1
    have m2 : σ[a + 2]? = some (.inl (0, 51, .inl (zA (A 1)))) := m2
    have m3 : σ[a + 3]? = some (.inl (0, 51, .inl (zA (A 2)))) := m3
    have m5 : σ[a + 5]? = some (.inl (0, 936, .inl (zA (A 4)))) := m5
    have m7 : σ[a + 7]? = some (.inl (0, 64, .inl (zA (A 6)))) := m7
    have m8 : σ[a + 8]? = some (.inl (0, 5, .inl (zA (A 7)))) := m8
    have m9 : σ[a + 9]? = some (.inl (0, 5, .inl (zA (A 8)))) := m9
    have m10 : σ[a + 10]? = some (.inl (0, 60, .inl (zA (A 9)))) := m10
    have m11 : σ[a + 11]? = some (.inl (0, 5, .inl (zA (A 10)))) := m11
    have bT := hT.1
    have bS := hS.bs hT
    have q0 := hT.2.1
    have q1 := hT.2.2.1
    have q2 := hT.2.2.2.1
    have h3 := hT.2.2.2.2.1
    have h4 := hT.2.2.2.2.2.1
    have s150 := hS.2.2.1
    have hw := hT.w hk.1 hk.2 t
    have hh := hT.h hk.1 hk.2 t
    have hb := hT.2.2.2.2.2.2.2.1 h hk0.1 hk0.2
    obtain ⟨-, w1, w2, en, r1, r2⟩ := mNib_ok hT hk0 hk hnb
    have nb := mNib_b (t := t) hT hk0 hk
    have hab := zmul36 hw hh
    refine g_iload (q := 137) dX9_nibble_135 rfl rfl ?_
    refine g_iload (q := 139) dX9_nibble_137 rfl rfl ?_
    refine z_icmp_ge (t := 368) (q := 142) dX9_nibble_139 rfl (by omega) rfl (fun pc1 => ?_) (fun pc1 => ?_)
    · exfalso
      omega
    · refine g_iload (q := 144) dX9_nibble_142 rfl rfl ?_
      refine z_if_ne (t := 368) (q := 147) dX9_nibble_144 rfl (by omega) rfl (fun pc2 => ?_) (fun pc2 => ?_)
      · exfalso; omega
      · have dm := zdm (c := i) (a := ((((A 1) (4 * h + 31)) + (mWide (A 1) k t) - 1) / (mWide (A 1) k t))) (b := ((((A 1) (4 * h + 32)) + (mHigh (A 1) k t) - 1) / (mHigh (A 1) k t))) (by omega) (by omega) (by omega)
        have p1 := zmulb (r := i % ((((A 1) (4 * h + 31)) + (mWide (A 1) k t) - 1) / (mWide (A 1) k t))) hw (by omega)
        have p2 := zmulb (r := i / ((((A 1) (4 * h + 31)) + (mWide (A 1) k t) - 1) / (mWide (A 1) k t))) hh (by omega)
        have xy := mNxy hT hk0 hk hnb (i := i) (by omega) (by omega)
        refine g_aload_n (q := 148) dX9_nibble_147 rfl rfl ?_
        refine g_get (q := 151) flX9_13 dX9_nibble_148 m0 rfl rfl ?_
        refine g_iload (q := 153) dX9_nibble_151 rfl rfl ?_
        refine z_iald (q := 154) dX9_nibble_153 m2 (by omega) rfl ?_
        have b3 := bT (4 * h + 29)
        refine g_iload (q := 156) dX9_nibble_154 rfl rfl ?_
        refine g_iload (q := 158) dX9_nibble_156 rfl rfl ?_
        refine g_iload (q := 160) dX9_nibble_158 rfl rfl ?_
        refine z_irem (q := 161) dX9_nibble_160 (by omega) rfl ?_
        refine z_imul (q := 162) dX9_nibble_161 rfl ?_
        refine z_iadd (q := 163) dX9_nibble_162 rfl ?_
        refine g_istore (ml' := [some (.ref a), some (.int (iZ h)), some (.int (iZ k)), some (.int (iZ t)), some (.int (iZ (mNib (A 1) h k t))), some (.int (iZ (4 * h + 29))), some (.int (iZ (mWide (A 1) k t))), some (.int (iZ (mHigh (A 1) k t))), some (.int (iZ ((((A 1) (4 * h + 31)) + (mWide (A 1) k t) - 1) / (mWide (A 1) k t)))), some (.int (iZ m)), some (.int (iZ 0)), some (.int (iZ i)), some (.int (iZ (((A 1) (4 * h + 29)) + ((mWide (A 1) k t) * (i % ((((A 1) (4 * h + 31)) + (mWide (A 1) k t) - 1) / (mWide (A 1) k t))))))), none, none]) (q := 165) dX9_nibble_163 rfl (Nat.le_of_ble_eq_true rfl) rfl rfl ?_
        refine g_aload_n (q := 166) dX9_nibble_165 rfl rfl ?_
        refine g_get (q := 169) flX9_13 dX9_nibble_166 m0 rfl rfl ?_
        refine g_iload (q := 171) dX9_nibble_169 rfl rfl ?_
        refine z_iconst (q := 172) dX9_nibble_171 rfl ?_
        refine z_iaddc (c := (4 * h + 30)) (q := 173) dX9_nibble_172 (by omega) rfl ?_
        refine z_iald (q := 174) dX9_nibble_173 m2 (by omega) rfl ?_
        have b4 := bT (4 * h + 30)
        refine g_iload (q := 176) dX9_nibble_174 rfl rfl ?_
        refine g_iload (q := 178) dX9_nibble_176 rfl rfl ?_
        refine g_iload (q := 180) dX9_nibble_178 rfl rfl ?_
        refine z_idiv (q := 181) dX9_nibble_180 (by omega) rfl ?_
        refine z_imul (q := 182) dX9_nibble_181 rfl ?_
        refine z_iadd (q := 183) dX9_nibble_182 rfl ?_
        refine g_istore (ml' := [some (.ref a), some (.int (iZ h)), some (.int (iZ k)), some (.int (iZ t)), some (.int (iZ (mNib (A 1) h k t))), some (.int (iZ (4 * h + 29))), some (.int (iZ (mWide (A 1) k t))), some (.int (iZ (mHigh (A 1) k t))), some (.int (iZ ((((A 1) (4 * h + 31)) + (mWide (A 1) k t) - 1) / (mWide (A 1) k t)))), some (.int (iZ m)), some (.int (iZ 0)), some (.int (iZ i)), some (.int (iZ (((A 1) (4 * h + 29)) + ((mWide (A 1) k t) * (i % ((((A 1) (4 * h + 31)) + (mWide (A 1) k t) - 1) / (mWide (A 1) k t))))))), some (.int (iZ (((A 1) (4 * h + 30)) + ((mHigh (A 1) k t) * (i / ((((A 1) (4 * h + 31)) + (mWide (A 1) k t) - 1) / (mWide (A 1) k t))))))), none]) (q := 185) dX9_nibble_183 rfl (Nat.le_of_ble_eq_true rfl) rfl rfl ?_
        have J5 : ∀ z6 : Int, z6 = mNx (A 1) h k t i → Go w mX9_nibble (0, 0) 235 [some (.ref a), some (.int (iZ h)), some (.int (iZ k)), some (.int (iZ t)), some (.int (iZ (mNib (A 1) h k t))), some (.int (iZ (4 * h + 29))), some (.int (iZ (mWide (A 1) k t))), some (.int (iZ (mHigh (A 1) k t))), some (.int (iZ ((((A 1) (4 * h + 31)) + (mWide (A 1) k t) - 1) / (mWide (A 1) k t)))), some (.int (iZ m)), some (.int (iZ 0)), some (.int (iZ i)), none, some (.int (iZ (((A 1) (4 * h + 30)) + ((mHigh (A 1) k t) * (i / ((((A 1) (4 * h + 31)) + (mWide (A 1) k t) - 1) / (mWide (A 1) k t))))))), none] [.int (iZ z6)] σ Φ := by
          intro z6 e7
          subst e7
          refine g_istore (ml' := [some (.ref a), some (.int (iZ h)), some (.int (iZ k)), some (.int (iZ t)), some (.int (iZ (mNib (A 1) h k t))), some (.int (iZ (4 * h + 29))), some (.int (iZ (mWide (A 1) k t))), some (.int (iZ (mHigh (A 1) k t))), some (.int (iZ ((((A 1) (4 * h + 31)) + (mWide (A 1) k t) - 1) / (mWide (A 1) k t)))), some (.int (iZ m)), some (.int (iZ 0)), some (.int (iZ i)), some (.int (iZ (mNx (A 1) h k t i))), some (.int (iZ (((A 1) (4 * h + 30)) + ((mHigh (A 1) k t) * (i / ((((A 1) (4 * h + 31)) + (mWide (A 1) k t) - 1) / (mWide (A 1) k t))))))), none]) (q := 237) dX9_nibble_235 rfl (Nat.le_of_ble_eq_true rfl) rfl rfl ?_
          have J8 : ∀ z9 : Int, z9 = mNy (A 1) h k t i → Go w mX9_nibble (0, 0) 291 [some (.ref a), some (.int (iZ h)), some (.int (iZ k)), some (.int (iZ t)), some (.int (iZ (mNib (A 1) h k t))), some (.int (iZ (4 * h + 29))), some (.int (iZ (mWide (A 1) k t))), some (.int (iZ (mHigh (A 1) k t))), some (.int (iZ ((((A 1) (4 * h + 31)) + (mWide (A 1) k t) - 1) / (mWide (A 1) k t)))), some (.int (iZ m)), some (.int (iZ 0)), some (.int (iZ i)), some (.int (iZ (mNx (A 1) h k t i))), none, none] [.int (iZ z9)] σ Φ := by
            intro z9 e10
            subst e10
            refine g_istore (ml' := [some (.ref a), some (.int (iZ h)), some (.int (iZ k)), some (.int (iZ t)), some (.int (iZ (mNib (A 1) h k t))), some (.int (iZ (4 * h + 29))), some (.int (iZ (mWide (A 1) k t))), some (.int (iZ (mHigh (A 1) k t))), some (.int (iZ ((((A 1) (4 * h + 31)) + (mWide (A 1) k t) - 1) / (mWide (A 1) k t)))), some (.int (iZ m)), some (.int (iZ 0)), some (.int (iZ i)), some (.int (iZ (mNx (A 1) h k t i))), some (.int (iZ (mNy (A 1) h k t i))), none]) (q := 293) dX9_nibble_291 rfl (Nat.le_of_ble_eq_true rfl) rfl rfl ?_
            refine g_aload_n (q := 294) dX9_nibble_293 rfl rfl ?_
            refine g_iload_n (q := 295) dX9_nibble_294 rfl rfl ?_
            refine g_iload (q := 297) dX9_nibble_295 rfl rfl ?_
            refine g_iload (q := 299) dX9_nibble_297 rfl rfl ?_
            refine g_iload_n (q := 300) dX9_nibble_299 rfl rfl ?_
            refine g_callV (As := [.int (iZ k), .int (iZ (mNx (A 1) h k t i)), .int (iZ (mNy (A 1) h k t i)), .int (iZ t)]) (rest := []) (q := 303) moX9_isCut lkX9_nibble_168 dX9_nibble_300 rfl m0 (r_M_isCut σ a I (nup (nup A 5 Hd) 3 S) hM k (mNx (A 1) h k t i) (mNy (A 1) h k t i) t (by omega) (by omega) (by omega) (by omega) bT bS hw hh (show (mNx (A 1) h k t i) + (mWide (A 1) k t) - 1 < 12 by omega) (show (mNy (A 1) h k t i) + (mHigh (A 1) k t) - 1 < 12 by omega)) rfl rfl (Nat.le_of_ble_eq_true rfl) (Nat.le_of_ble_eq_true rfl) (Nat.le_of_ble_eq_true rfl) rfl ?_
            rintro r1 s1 hp
            rw [hp.1, hp.2]
            show Go w mX9_nibble (0, 0) 303 [some (.ref a), some (.int (iZ h)), some (.int (iZ k)), some (.int (iZ t)), some (.int (iZ (mNib (A 1) h k t))), some (.int (iZ (4 * h + 29))), some (.int (iZ (mWide (A 1) k t))), some (.int (iZ (mHigh (A 1) k t))), some (.int (iZ ((((A 1) (4 * h + 31)) + (mWide (A 1) k t) - 1) / (mWide (A 1) k t)))), some (.int (iZ m)), some (.int (iZ 0)), some (.int (iZ i)), some (.int (iZ (mNx (A 1) h k t i))), some (.int (iZ (mNy (A 1) h k t i))), none] [.int (iZ (mCutF S (mNx (A 1) h k t i) (mNy (A 1) h k t i) (mWide (A 1) k t) ((mWide (A 1) k t) * (mHigh (A 1) k t)).toNat 0 1))] σ Φ
            have cb := mCutF_b S (mNx (A 1) h k t i) (mNy (A 1) h k t i) (mWide (A 1) k t) ((mWide (A 1) k t) * (mHigh (A 1) k t)).toNat 0 1 (by omega)
            refine z_if_ne (t := 362) (q := 306) dX9_nibble_303 rfl (by omega) rfl (fun pc11 => ?_) (fun pc11 => ?_)
            · refine z_iincc (c := (i + 1)) (ml' := [some (.ref a), some (.int (iZ h)), some (.int (iZ k)), some (.int (iZ t)), some (.int (iZ (mNib (A 1) h k t))), some (.int (iZ (4 * h + 29))), some (.int (iZ (mWide (A 1) k t))), some (.int (iZ (mHigh (A 1) k t))), some (.int (iZ ((((A 1) (4 * h + 31)) + (mWide (A 1) k t) - 1) / (mWide (A 1) k t)))), some (.int (iZ m)), some (.int (iZ 0)), some (.int (iZ (i + 1))), some (.int (iZ (mNx (A 1) h k t i))), some (.int (iZ (mNy (A 1) h k t i))), none]) (q := 365) dX9_nibble_362 rfl (by omega) rfl rfl rfl ?_
              refine g_goto (q := 135) dX9_nibble_365 rfl ?_
              refine Go.wk (ml' := [some (.ref a), some (.int (iZ h)), some (.int (iZ k)), some (.int (iZ t)), some (.int (iZ (mNib (A 1) h k t))), some (.int (iZ (4 * h + 29))), some (.int (iZ (mWide (A 1) k t))), some (.int (iZ (mHigh (A 1) k t))), some (.int (iZ ((((A 1) (4 * h + 31)) + (mWide (A 1) k t) - 1) / (mWide (A 1) k t)))), some (.int (iZ m)), some (.int (iZ 0)), some (.int (iZ (i + 1))), none, none, none]) ⟨Or.inr rfl, Or.inr rfl, Or.inr rfl, Or.inr rfl, Or.inr rfl, Or.inr rfl, Or.inr rfl, Or.inr rfl, Or.inr rfl, Or.inr rfl, Or.inr rfl, Or.inr rfl, Or.inl rfl, Or.inl rfl, Or.inl rfl, trivial⟩ ?_
              exact ih (i + 1) m S σ (by omega) (by omega) (by rw [← hF]; (conv => rhs; unfold mNibF; rw [if_pos (by omega)])) hS hM hFr
            · refine g_aload_n (q := 307) dX9_nibble_306 rfl rfl ?_
              refine g_iload_n (q := 308) dX9_nibble_307 rfl rfl ?_
              refine g_iload (q := 310) dX9_nibble_308 rfl rfl ?_
              refine g_iload (q := 312) dX9_nibble_310 rfl rfl ?_
              refine g_iload_n (q := 313) dX9_nibble_312 rfl rfl ?_
              refine g_callV (As := [.int (iZ k), .int (iZ (mNx (A 1) h k t i)), .int (iZ (mNy (A 1) h k t i)), .int (iZ t)]) (rest := []) (q := 316) moX9_whyNot lkX9_nibble_139 dX9_nibble_313 rfl m0 (r_M_whyNot σ a I (nup (nup A 5 Hd) 3 S) hM k (mNx (A 1) h k t i) (mNy (A 1) h k t i) t (by omega) (by omega) (by omega) (by omega) bT bS h3 h4 hw hh (show A 1 0 ≤ 12 ∧ A 1 1 ≤ 12 by omega)) rfl rfl (Nat.le_of_ble_eq_true rfl) (Nat.le_of_ble_eq_true rfl) (Nat.le_of_ble_eq_true rfl) rfl ?_
              rintro r1 s1 hp
              rw [hp.1, hp.2]
              show Go w mX9_nibble (0, 0) 316 [some (.ref a), some (.int (iZ h)), some (.int (iZ k)), some (.int (iZ t)), some (.int (iZ (mNib (A 1) h k t))), some (.int (iZ (4 * h + 29))), some (.int (iZ (mWide (A 1) k t))), some (.int (iZ (mHigh (A 1) k t))), some (.int (iZ ((((A 1) (4 * h + 31)) + (mWide (A 1) k t) - 1) / (mWide (A 1) k t)))), some (.int (iZ m)), some (.int (iZ 0)), some (.int (iZ i)), some (.int (iZ (mNx (A 1) h k t i))), some (.int (iZ (mNy (A 1) h k t i))), none] [.int (iZ (mWhy (A 1) S k (mNx (A 1) h k t i) (mNy (A 1) h k t i) t))] σ Φ
              have wb := mWhy_b (A 1) S k (mNx (A 1) h k t i) (mNy (A 1) h k t i) t
              refine z_if_le (t := 323) (q := 319) dX9_nibble_316 rfl (by omega) rfl (fun pc12 => ?_) (fun pc12 => ?_)
              · refine z_iconst (q := 324) dX9_nibble_323 rfl ?_
                refine g_istore (ml' := [some (.ref a), some (.int (iZ h)), some (.int (iZ k)), some (.int (iZ t)), some (.int (iZ (mNib (A 1) h k t))), some (.int (iZ (4 * h + 29))), some (.int (iZ (mWide (A 1) k t))), some (.int (iZ (mHigh (A 1) k t))), some (.int (iZ ((((A 1) (4 * h + 31)) + (mWide (A 1) k t) - 1) / (mWide (A 1) k t)))), some (.int (iZ m)), some (.int (iZ 0)), some (.int (iZ i)), some (.int (iZ (mNx (A 1) h k t i))), some (.int (iZ (mNy (A 1) h k t i))), none]) (q := 326) dX9_nibble_324 rfl (Nat.le_of_ble_eq_true rfl) rfl rfl ?_
                refine g_iload (q := 328) dX9_nibble_326 rfl rfl ?_
                refine z_if_eq (t := 335) (q := 331) dX9_nibble_328 rfl (by omega) rfl (fun pc13 => ?_) (fun pc13 => ?_)
                · refine g_aload_n (q := 336) dX9_nibble_335 rfl rfl ?_
                  refine g_iload_n (q := 337) dX9_nibble_336 rfl rfl ?_
                  refine g_iload (q := 339) dX9_nibble_337 rfl rfl ?_
                  refine g_iload (q := 341) dX9_nibble_339 rfl rfl ?_
                  refine g_iload_n (q := 342) dX9_nibble_341 rfl rfl ?_
                  have h00 : mWhy (A 1) S k (mNx (A 1) h k t i) (mNy (A 1) h k t i) t = 0 := by omega
                  have hS150 : mStrS (mNx (A 1) h k t i) (mNy (A 1) h k t i) (mWide (A 1) k t) ((mWide (A 1) k t) * (mHigh (A 1) k t)).toNat 0 S 150 = S 150 := mStrS_hi (b := (mHigh (A 1) k t)) (by omega) (by omega) (by omega) _ 0 S 150 (by omega) (by omega) (by omega)
                  have nbb := mStrN_b (x := (mNx (A 1) h k t i)) (y := (mNy (A 1) h k t i)) (a := (mWide (A 1) k t)) (b := (mHigh (A 1) k t)) (by omega) (by omega) (by omega) ((mWide (A 1) k t) * (mHigh (A 1) k t)).toNat 0 S 0 hS.1 (by omega) (by omega)
                  refine g_callV (As := [.int (iZ k), .int (iZ (mNx (A 1) h k t i)), .int (iZ (mNy (A 1) h k t i)), .int (iZ t)]) (rest := []) (q := 345) moX9_strikes lkX9_nibble_152 dX9_nibble_342 rfl m0 (r_M_strikes σ a I (nup (nup A 5 Hd) 3 S) hM k (mNx (A 1) h k t i) (mNy (A 1) h k t i) t (by omega) (by omega) (by omega) (by omega) bT hw hh (show (mNx (A 1) h k t i) + (mWide (A 1) k t) - 1 < 12 by omega) (show (mNy (A 1) h k t i) + (mHigh (A 1) k t) - 1 < 12 by omega) ⟨hS150, s150.1, (show S 150 < 6 by omega)⟩) rfl rfl (Nat.le_of_ble_eq_true rfl) (Nat.le_of_ble_eq_true rfl) (Nat.le_of_ble_eq_true rfl) rfl ?_
                  rintro r2 σs ⟨rfl, hMs, hFs⟩
                  show Go w mX9_nibble (0, 0) 345 [some (.ref a), some (.int (iZ h)), some (.int (iZ k)), some (.int (iZ t)), some (.int (iZ (mNib (A 1) h k t))), some (.int (iZ (4 * h + 29))), some (.int (iZ (mWide (A 1) k t))), some (.int (iZ (mHigh (A 1) k t))), some (.int (iZ ((((A 1) (4 * h + 31)) + (mWide (A 1) k t) - 1) / (mWide (A 1) k t)))), some (.int (iZ m)), some (.int (iZ 0)), some (.int (iZ i)), some (.int (iZ (mNx (A 1) h k t i))), some (.int (iZ (mNy (A 1) h k t i))), none] [.int (iZ (mStrN (mNx (A 1) h k t i) (mNy (A 1) h k t i) (mWide (A 1) k t) ((mWide (A 1) k t) * (mHigh (A 1) k t)).toNat 0 S 0))] σs Φ
                  refine g_istore (ml' := [some (.ref a), some (.int (iZ h)), some (.int (iZ k)), some (.int (iZ t)), some (.int (iZ (mNib (A 1) h k t))), some (.int (iZ (4 * h + 29))), some (.int (iZ (mWide (A 1) k t))), some (.int (iZ (mHigh (A 1) k t))), some (.int (iZ ((((A 1) (4 * h + 31)) + (mWide (A 1) k t) - 1) / (mWide (A 1) k t)))), some (.int (iZ m)), some (.int (iZ 0)), some (.int (iZ i)), some (.int (iZ (mNx (A 1) h k t i))), some (.int (iZ (mNy (A 1) h k t i))), some (.int (iZ (mStrN (mNx (A 1) h k t i) (mNy (A 1) h k t i) (mWide (A 1) k t) ((mWide (A 1) k t) * (mHigh (A 1) k t)).toNat 0 S 0)))]) (q := 347) dX9_nibble_345 rfl (Nat.le_of_ble_eq_true rfl) rfl rfl ?_
                  refine g_iload (q := 349) dX9_nibble_347 rfl rfl ?_
                  have J14 : ∀ z15 : Int, z15 = (if 0 < (mStrN (mNx (A 1) h k t i) (mNy (A 1) h k t i) (mWide (A 1) k t) ((mWide (A 1) k t) * (mHigh (A 1) k t)).toNat 0 S 0) then 1 else 0) → Go w mX9_nibble (0, 0) 359 [some (.ref a), some (.int (iZ h)), some (.int (iZ k)), some (.int (iZ t)), some (.int (iZ (mNib (A 1) h k t))), some (.int (iZ (4 * h + 29))), some (.int (iZ (mWide (A 1) k t))), some (.int (iZ (mHigh (A 1) k t))), some (.int (iZ ((((A 1) (4 * h + 31)) + (mWide (A 1) k t) - 1) / (mWide (A 1) k t)))), some (.int (iZ m)), some (.int (iZ 0)), some (.int (iZ i)), some (.int (iZ (mNx (A 1) h k t i))), some (.int (iZ (mNy (A 1) h k t i))), some (.int (iZ (mStrN (mNx (A 1) h k t i) (mNy (A 1) h k t i) (mWide (A 1) k t) ((mWide (A 1) k t) * (mHigh (A 1) k t)).toNat 0 S 0)))] [.int (iZ z15), .int (iZ m)] σs Φ := by
                    intro z15 e16
                    refine z_iadd (q := 360) dX9_nibble_359 rfl ?_
                    refine g_istore (ml' := [some (.ref a), some (.int (iZ h)), some (.int (iZ k)), some (.int (iZ t)), some (.int (iZ (mNib (A 1) h k t))), some (.int (iZ (4 * h + 29))), some (.int (iZ (mWide (A 1) k t))), some (.int (iZ (mHigh (A 1) k t))), some (.int (iZ ((((A 1) (4 * h + 31)) + (mWide (A 1) k t) - 1) / (mWide (A 1) k t)))), some (.int (iZ (m + z15))), some (.int (iZ 0)), some (.int (iZ i)), some (.int (iZ (mNx (A 1) h k t i))), some (.int (iZ (mNy (A 1) h k t i))), some (.int (iZ (mStrN (mNx (A 1) h k t i) (mNy (A 1) h k t i) (mWide (A 1) k t) ((mWide (A 1) k t) * (mHigh (A 1) k t)).toNat 0 S 0)))]) (q := 362) dX9_nibble_360 rfl (Nat.le_of_ble_eq_true rfl) rfl rfl ?_
                    refine z_iincc (c := (i + 1)) (ml' := [some (.ref a), some (.int (iZ h)), some (.int (iZ k)), some (.int (iZ t)), some (.int (iZ (mNib (A 1) h k t))), some (.int (iZ (4 * h + 29))), some (.int (iZ (mWide (A 1) k t))), some (.int (iZ (mHigh (A 1) k t))), some (.int (iZ ((((A 1) (4 * h + 31)) + (mWide (A 1) k t) - 1) / (mWide (A 1) k t)))), some (.int (iZ (m + z15))), some (.int (iZ 0)), some (.int (iZ (i + 1))), some (.int (iZ (mNx (A 1) h k t i))), some (.int (iZ (mNy (A 1) h k t i))), some (.int (iZ (mStrN (mNx (A 1) h k t i) (mNy (A 1) h k t i) (mWide (A 1) k t) ((mWide (A 1) k t) * (mHigh (A 1) k t)).toNat 0 S 0)))]) (q := 365) dX9_nibble_362 rfl (by omega) rfl rfl rfl ?_
                    refine g_goto (q := 135) dX9_nibble_365 rfl ?_
                    refine Go.wk (ml' := [some (.ref a), some (.int (iZ h)), some (.int (iZ k)), some (.int (iZ t)), some (.int (iZ (mNib (A 1) h k t))), some (.int (iZ (4 * h + 29))), some (.int (iZ (mWide (A 1) k t))), some (.int (iZ (mHigh (A 1) k t))), some (.int (iZ ((((A 1) (4 * h + 31)) + (mWide (A 1) k t) - 1) / (mWide (A 1) k t)))), some (.int (iZ (m + z15))), some (.int (iZ 0)), some (.int (iZ (i + 1))), none, none, none]) ⟨Or.inr rfl, Or.inr rfl, Or.inr rfl, Or.inr rfl, Or.inr rfl, Or.inr rfl, Or.inr rfl, Or.inr rfl, Or.inr rfl, Or.inr rfl, Or.inr rfl, Or.inr rfl, Or.inl rfl, Or.inl rfl, Or.inl rfl, trivial⟩ ?_
                    exact ih (i + 1) (m + z15) (mStr (A 1) S k (mNx (A 1) h k t i) (mNy (A 1) h k t i) t) σs (by omega) (by omega) (by rw [← hF, e16]; (conv => rhs; unfold mNibF; rw [if_neg (by omega), if_neg (by omega)])) (hS.str hT hk h00) (hMs.congr (fun j _ => rfl) (fun j _ => by rw [nup_nup]; rfl)) (hFr.tr hFs)
                  refine g_iload (q := 351) dX9_nibble_349 rfl rfl ?_
                  refine z_if_le (t := 358) (q := 354) dX9_nibble_351 rfl (by omega) rfl (fun pc17 => ?_) (fun pc17 => ?_)
                  · refine z_iconst (q := 359) dX9_nibble_358 rfl ?_
                    exact J14 _ (by omega)
                  · refine z_iconst (q := 355) dX9_nibble_354 rfl ?_
                    refine g_goto (q := 359) dX9_nibble_355 rfl ?_
                    exact J14 _ (by omega)
                · exfalso; omega
              · refine z_iconst (q := 320) dX9_nibble_319 rfl ?_
                refine g_goto (q := 324) dX9_nibble_320 rfl ?_
                refine g_istore (ml' := [some (.ref a), some (.int (iZ h)), some (.int (iZ k)), some (.int (iZ t)), some (.int (iZ (mNib (A 1) h k t))), some (.int (iZ (4 * h + 29))), some (.int (iZ (mWide (A 1) k t))), some (.int (iZ (mHigh (A 1) k t))), some (.int (iZ ((((A 1) (4 * h + 31)) + (mWide (A 1) k t) - 1) / (mWide (A 1) k t)))), some (.int (iZ m)), some (.int (iZ 1)), some (.int (iZ i)), some (.int (iZ (mNx (A 1) h k t i))), some (.int (iZ (mNy (A 1) h k t i))), none]) (q := 326) dX9_nibble_324 rfl (Nat.le_of_ble_eq_true rfl) rfl rfl ?_
                refine g_iload (q := 328) dX9_nibble_326 rfl rfl ?_
                refine z_if_eq (t := 335) (q := 331) dX9_nibble_328 rfl (by omega) rfl (fun pc18 => ?_) (fun pc18 => ?_)
                · exfalso; omega
                · refine z_iconst (q := 332) dX9_nibble_331 rfl ?_
                  refine g_goto (q := 345) dX9_nibble_332 rfl ?_
                  refine g_istore (ml' := [some (.ref a), some (.int (iZ h)), some (.int (iZ k)), some (.int (iZ t)), some (.int (iZ (mNib (A 1) h k t))), some (.int (iZ (4 * h + 29))), some (.int (iZ (mWide (A 1) k t))), some (.int (iZ (mHigh (A 1) k t))), some (.int (iZ ((((A 1) (4 * h + 31)) + (mWide (A 1) k t) - 1) / (mWide (A 1) k t)))), some (.int (iZ m)), some (.int (iZ 1)), some (.int (iZ i)), some (.int (iZ (mNx (A 1) h k t i))), some (.int (iZ (mNy (A 1) h k t i))), some (.int (iZ 0))]) (q := 347) dX9_nibble_345 rfl (Nat.le_of_ble_eq_true rfl) rfl rfl ?_
                  refine g_iload (q := 349) dX9_nibble_347 rfl rfl ?_
                  refine g_iload (q := 351) dX9_nibble_349 rfl rfl ?_
                  refine z_if_le (t := 358) (q := 354) dX9_nibble_351 rfl (by omega) rfl (fun pc19 => ?_) (fun pc19 => ?_)
                  · refine z_iconst (q := 359) dX9_nibble_358 rfl ?_
                    refine z_iaddc (c := m) (q := 360) dX9_nibble_359 (by omega) rfl ?_
                    refine g_istore (ml' := [some (.ref a), some (.int (iZ h)), some (.int (iZ k)), some (.int (iZ t)), some (.int (iZ (mNib (A 1) h k t))), some (.int (iZ (4 * h + 29))), some (.int (iZ (mWide (A 1) k t))), some (.int (iZ (mHigh (A 1) k t))), some (.int (iZ ((((A 1) (4 * h + 31)) + (mWide (A 1) k t) - 1) / (mWide (A 1) k t)))), some (.int (iZ m)), some (.int (iZ 1)), some (.int (iZ i)), some (.int (iZ (mNx (A 1) h k t i))), some (.int (iZ (mNy (A 1) h k t i))), some (.int (iZ 0))]) (q := 362) dX9_nibble_360 rfl (Nat.le_of_ble_eq_true rfl) rfl rfl ?_
                    refine z_iincc (c := (i + 1)) (ml' := [some (.ref a), some (.int (iZ h)), some (.int (iZ k)), some (.int (iZ t)), some (.int (iZ (mNib (A 1) h k t))), some (.int (iZ (4 * h + 29))), some (.int (iZ (mWide (A 1) k t))), some (.int (iZ (mHigh (A 1) k t))), some (.int (iZ ((((A 1) (4 * h + 31)) + (mWide (A 1) k t) - 1) / (mWide (A 1) k t)))), some (.int (iZ m)), some (.int (iZ 1)), some (.int (iZ (i + 1))), some (.int (iZ (mNx (A 1) h k t i))), some (.int (iZ (mNy (A 1) h k t i))), some (.int (iZ 0))]) (q := 365) dX9_nibble_362 rfl (by omega) rfl rfl rfl ?_
                    refine g_goto (q := 135) dX9_nibble_365 rfl ?_
                    have eF : F = (S, m, 1) := by rw [← hF]; unfold mNibF; rw [if_neg (by omega), if_pos (by omega)]
                    subst eF
                    refine g_iload (q := 137) dX9_nibble_135 rfl rfl ?_
                    refine g_iload (q := 139) dX9_nibble_137 rfl rfl ?_
                    refine z_icmp_ge (t := 368) (q := 142) dX9_nibble_139 rfl (by omega) rfl (fun pc20 => ?_) (fun pc20 => ?_)
                    · refine Go.wk (ml' := [some (.ref a), some (.int (iZ h)), some (.int (iZ k)), some (.int (iZ t)), some (.int (iZ (mNib (A 1) h k t))), some (.int (iZ (4 * h + 29))), some (.int (iZ (mWide (A 1) k t))), some (.int (iZ (mHigh (A 1) k t))), some (.int (iZ ((((A 1) (4 * h + 31)) + (mWide (A 1) k t) - 1) / (mWide (A 1) k t)))), some (.int (iZ m)), some (.int (iZ 1)), none, none, none, none]) ⟨Or.inr rfl, Or.inr rfl, Or.inr rfl, Or.inr rfl, Or.inr rfl, Or.inr rfl, Or.inr rfl, Or.inr rfl, Or.inr rfl, Or.inr rfl, Or.inr rfl, Or.inl rfl, Or.inl rfl, Or.inl rfl, Or.inl rfl, trivial⟩ ?_
                      exact K σ hM hFr
                    · refine g_iload (q := 144) dX9_nibble_142 rfl rfl ?_
                      refine z_if_ne (t := 368) (q := 147) dX9_nibble_144 rfl (by omega) rfl (fun pc21 => ?_) (fun pc21 => ?_)
                      · refine Go.wk (ml' := [some (.ref a), some (.int (iZ h)), some (.int (iZ k)), some (.int (iZ t)), some (.int (iZ (mNib (A 1) h k t))), some (.int (iZ (4 * h + 29))), some (.int (iZ (mWide (A 1) k t))), some (.int (iZ (mHigh (A 1) k t))), some (.int (iZ ((((A 1) (4 * h + 31)) + (mWide (A 1) k t) - 1) / (mWide (A 1) k t)))), some (.int (iZ m)), some (.int (iZ 1)), none, none, none, none]) ⟨Or.inr rfl, Or.inr rfl, Or.inr rfl, Or.inr rfl, Or.inr rfl, Or.inr rfl, Or.inr rfl, Or.inr rfl, Or.inr rfl, Or.inr rfl, Or.inr rfl, Or.inl rfl, Or.inl rfl, Or.inl rfl, Or.inl rfl, trivial⟩ ?_
                        exact K σ hM hFr
                      · exfalso; omega
                  · exfalso; omega
          refine g_iload (q := 239) dX9_nibble_237 rfl rfl ?_
          refine g_iload (q := 241) dX9_nibble_239 rfl rfl ?_
          refine z_iaddc (c := (((A 1) (4 * h + 30)) + ((mHigh (A 1) k t) * (i / ((((A 1) (4 * h + 31)) + (mWide (A 1) k t) - 1) / (mWide (A 1) k t)))) + (mHigh (A 1) k t))) (q := 242) dX9_nibble_241 (by omega) rfl ?_
          refine g_aload_n (q := 243) dX9_nibble_242 rfl rfl ?_
          refine g_get (q := 246) flX9_13 dX9_nibble_243 m0 rfl rfl ?_
          refine g_iload (q := 248) dX9_nibble_246 rfl rfl ?_
          refine z_iconst (q := 249) dX9_nibble_248 rfl ?_
          refine z_iaddc (c := (4 * h + 30)) (q := 250) dX9_nibble_249 (by omega) rfl ?_
          refine z_iald (q := 251) dX9_nibble_250 m2 (by omega) rfl ?_
          have b22 := bT (4 * h + 30)
          refine g_aload_n (q := 252) dX9_nibble_251 rfl rfl ?_
          refine g_get (q := 255) flX9_13 dX9_nibble_252 m0 rfl rfl ?_
          refine g_iload (q := 257) dX9_nibble_255 rfl rfl ?_
          refine z_iconst (q := 258) dX9_nibble_257 rfl ?_
          refine z_iaddc (c := (4 * h + 32)) (q := 259) dX9_nibble_258 (by omega) rfl ?_
          refine z_iald (q := 260) dX9_nibble_259 m2 (by omega) rfl ?_
          have b23 := bT (4 * h + 32)
          refine z_iadd (q := 261) dX9_nibble_260 rfl ?_
          refine z_icmp_le (t := 289) (q := 264) dX9_nibble_261 rfl (by omega) rfl (fun pc24 => ?_) (fun pc24 => ?_)
          · refine g_iload (q := 291) dX9_nibble_289 rfl rfl ?_
            refine Go.wk (ml' := [some (.ref a), some (.int (iZ h)), some (.int (iZ k)), some (.int (iZ t)), some (.int (iZ (mNib (A 1) h k t))), some (.int (iZ (4 * h + 29))), some (.int (iZ (mWide (A 1) k t))), some (.int (iZ (mHigh (A 1) k t))), some (.int (iZ ((((A 1) (4 * h + 31)) + (mWide (A 1) k t) - 1) / (mWide (A 1) k t)))), some (.int (iZ m)), some (.int (iZ 0)), some (.int (iZ i)), some (.int (iZ (mNx (A 1) h k t i))), none, none]) ⟨Or.inr rfl, Or.inr rfl, Or.inr rfl, Or.inr rfl, Or.inr rfl, Or.inr rfl, Or.inr rfl, Or.inr rfl, Or.inr rfl, Or.inr rfl, Or.inr rfl, Or.inr rfl, Or.inr rfl, Or.inl rfl, Or.inl rfl, trivial⟩ ?_
            exact J8 _ (by (unfold mNy; omega))
          · refine g_aload_n (q := 265) dX9_nibble_264 rfl rfl ?_
            refine g_get (q := 268) flX9_13 dX9_nibble_265 m0 rfl rfl ?_
            refine g_iload (q := 270) dX9_nibble_268 rfl rfl ?_
            refine z_iconst (q := 271) dX9_nibble_270 rfl ?_
            refine z_iaddc (c := (4 * h + 30)) (q := 272) dX9_nibble_271 (by omega) rfl ?_
            refine z_iald (q := 273) dX9_nibble_272 m2 (by omega) rfl ?_
            have b25 := bT (4 * h + 30)
            refine g_aload_n (q := 274) dX9_nibble_273 rfl rfl ?_
            refine g_get (q := 277) flX9_13 dX9_nibble_274 m0 rfl rfl ?_
            refine g_iload (q := 279) dX9_nibble_277 rfl rfl ?_
            refine z_iconst (q := 280) dX9_nibble_279 rfl ?_
            refine z_iaddc (c := (4 * h + 32)) (q := 281) dX9_nibble_280 (by omega) rfl ?_
            refine z_iald (q := 282) dX9_nibble_281 m2 (by omega) rfl ?_
            have b26 := bT (4 * h + 32)
            refine z_iadd (q := 283) dX9_nibble_282 rfl ?_
            refine g_iload (q := 285) dX9_nibble_283 rfl rfl ?_
            refine z_isubc (c := (((A 1) (4 * h + 30)) + ((A 1) (4 * h + 32)) - (mHigh (A 1) k t))) (q := 286) dX9_nibble_285 (by omega) rfl ?_
            refine g_goto (q := 291) dX9_nibble_286 rfl ?_
            refine Go.wk (ml' := [some (.ref a), some (.int (iZ h)), some (.int (iZ k)), some (.int (iZ t)), some (.int (iZ (mNib (A 1) h k t))), some (.int (iZ (4 * h + 29))), some (.int (iZ (mWide (A 1) k t))), some (.int (iZ (mHigh (A 1) k t))), some (.int (iZ ((((A 1) (4 * h + 31)) + (mWide (A 1) k t) - 1) / (mWide (A 1) k t)))), some (.int (iZ m)), some (.int (iZ 0)), some (.int (iZ i)), some (.int (iZ (mNx (A 1) h k t i))), none, none]) ⟨Or.inr rfl, Or.inr rfl, Or.inr rfl, Or.inr rfl, Or.inr rfl, Or.inr rfl, Or.inr rfl, Or.inr rfl, Or.inr rfl, Or.inr rfl, Or.inr rfl, Or.inr rfl, Or.inr rfl, Or.inl rfl, Or.inl rfl, trivial⟩ ?_
            exact J8 _ (by (unfold mNy; omega))
        refine g_iload (q := 187) dX9_nibble_185 rfl rfl ?_
        refine g_iload (q := 189) dX9_nibble_187 rfl rfl ?_
        refine z_iaddc (c := (((A 1) (4 * h + 29)) + ((mWide (A 1) k t) * (i % ((((A 1) (4 * h + 31)) + (mWide (A 1) k t) - 1) / (mWide (A 1) k t)))) + (mWide (A 1) k t))) (q := 190) dX9_nibble_189 (by omega) rfl ?_
        refine g_aload_n (q := 191) dX9_nibble_190 rfl rfl ?_
        refine g_get (q := 194) flX9_13 dX9_nibble_191 m0 rfl rfl ?_
        refine g_iload (q := 196) dX9_nibble_194 rfl rfl ?_
        refine z_iald (q := 197) dX9_nibble_196 m2 (by omega) rfl ?_
        have b27 := bT (4 * h + 29)
        refine g_aload_n (q := 198) dX9_nibble_197 rfl rfl ?_
        refine g_get (q := 201) flX9_13 dX9_nibble_198 m0 rfl rfl ?_
        refine g_iload (q := 203) dX9_nibble_201 rfl rfl ?_
        refine z_iconst (q := 204) dX9_nibble_203 rfl ?_
        refine z_iaddc (c := (4 * h + 31)) (q := 205) dX9_nibble_204 (by omega) rfl ?_
        refine z_iald (q := 206) dX9_nibble_205 m2 (by omega) rfl ?_
        have b28 := bT (4 * h + 31)
        refine z_iadd (q := 207) dX9_nibble_206 rfl ?_
        refine z_icmp_le (t := 233) (q := 210) dX9_nibble_207 rfl (by omega) rfl (fun pc29 => ?_) (fun pc29 => ?_)
        · refine g_iload (q := 235) dX9_nibble_233 rfl rfl ?_
          refine Go.wk (ml' := [some (.ref a), some (.int (iZ h)), some (.int (iZ k)), some (.int (iZ t)), some (.int (iZ (mNib (A 1) h k t))), some (.int (iZ (4 * h + 29))), some (.int (iZ (mWide (A 1) k t))), some (.int (iZ (mHigh (A 1) k t))), some (.int (iZ ((((A 1) (4 * h + 31)) + (mWide (A 1) k t) - 1) / (mWide (A 1) k t)))), some (.int (iZ m)), some (.int (iZ 0)), some (.int (iZ i)), none, some (.int (iZ (((A 1) (4 * h + 30)) + ((mHigh (A 1) k t) * (i / ((((A 1) (4 * h + 31)) + (mWide (A 1) k t) - 1) / (mWide (A 1) k t))))))), none]) ⟨Or.inr rfl, Or.inr rfl, Or.inr rfl, Or.inr rfl, Or.inr rfl, Or.inr rfl, Or.inr rfl, Or.inr rfl, Or.inr rfl, Or.inr rfl, Or.inr rfl, Or.inr rfl, Or.inl rfl, Or.inr rfl, Or.inl rfl, trivial⟩ ?_
          exact J5 _ (by (unfold mNx; omega))
        · refine g_aload_n (q := 211) dX9_nibble_210 rfl rfl ?_
          refine g_get (q := 214) flX9_13 dX9_nibble_211 m0 rfl rfl ?_
          refine g_iload (q := 216) dX9_nibble_214 rfl rfl ?_
          refine z_iald (q := 217) dX9_nibble_216 m2 (by omega) rfl ?_
          have b30 := bT (4 * h + 29)
          refine g_aload_n (q := 218) dX9_nibble_217 rfl rfl ?_
          refine g_get (q := 221) flX9_13 dX9_nibble_218 m0 rfl rfl ?_
          refine g_iload (q := 223) dX9_nibble_221 rfl rfl ?_
          refine z_iconst (q := 224) dX9_nibble_223 rfl ?_
          refine z_iaddc (c := (4 * h + 31)) (q := 225) dX9_nibble_224 (by omega) rfl ?_
          refine z_iald (q := 226) dX9_nibble_225 m2 (by omega) rfl ?_
          have b31 := bT (4 * h + 31)
          refine z_iadd (q := 227) dX9_nibble_226 rfl ?_
          refine g_iload (q := 229) dX9_nibble_227 rfl rfl ?_
          refine z_isubc (c := (((A 1) (4 * h + 29)) + ((A 1) (4 * h + 31)) - (mWide (A 1) k t))) (q := 230) dX9_nibble_229 (by omega) rfl ?_
          refine g_goto (q := 235) dX9_nibble_230 rfl ?_
          refine Go.wk (ml' := [some (.ref a), some (.int (iZ h)), some (.int (iZ k)), some (.int (iZ t)), some (.int (iZ (mNib (A 1) h k t))), some (.int (iZ (4 * h + 29))), some (.int (iZ (mWide (A 1) k t))), some (.int (iZ (mHigh (A 1) k t))), some (.int (iZ ((((A 1) (4 * h + 31)) + (mWide (A 1) k t) - 1) / (mWide (A 1) k t)))), some (.int (iZ m)), some (.int (iZ 0)), some (.int (iZ i)), none, some (.int (iZ (((A 1) (4 * h + 30)) + ((mHigh (A 1) k t) * (i / ((((A 1) (4 * h + 31)) + (mWide (A 1) k t) - 1) / (mWide (A 1) k t))))))), none]) ⟨Or.inr rfl, Or.inr rfl, Or.inr rfl, Or.inr rfl, Or.inr rfl, Or.inr rfl, Or.inr rfl, Or.inr rfl, Or.inr rfl, Or.inr rfl, Or.inr rfl, Or.inr rfl, Or.inl rfl, Or.inr rfl, Or.inl rfl, trivial⟩ ?_
          exact J5 _ (by (unfold mNx; omega))
