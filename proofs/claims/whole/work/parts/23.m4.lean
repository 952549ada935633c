/-! what is kept and given back -/
def mR (a : Nat) : Nat → Prop := fun b => a ≤ b ∧ b < a + 12
theorem g_Fr.step {P : Nat → Prop} {σ σ1 σ2 : g_H0} {x : Nat} (h : g_Fr P σ σ1) (f : g_Fr (fun b => b = x) σ1 σ2) (hx : P x) : g_Fr P σ σ2 := h.tr (f.wk (fun b e => by rw [e]; exact hx))
def zcp (d s : Int → Int) (lo off i : Int) : Int → Int := fun k => if lo ≤ k ∧ k < lo + i then s (k + off) else d k
theorem zcp_0 (d s : Int → Int) (lo off : Int) : zcp d s lo off 0 = d := by
  funext k
  exact if_neg (by omega)
theorem zcp_step {d s : Int → Int} {lo off i j v : Int} (hi : 0 ≤ i) (hj : j = lo + i) (hv : v = s (j + off)) : zup (zcp d s lo off i) j v = zcp d s lo off (i + 1) := by
  subst hj; subst hv
  funext k
  unfold zup zcp
  by_cases h : k = lo + i
  · rw [if_pos h, if_pos (by omega), h]
  · rw [if_neg h]
    by_cases h2 : lo ≤ k ∧ k < lo + i
    · rw [if_pos h2, if_pos (by omega)]
    · rw [if_neg h2, if_neg (by omega)]
theorem l_M_note1 (w : g_W) (Φ : g_Post) (σ0 : g_H0) (a : Nat) (I : Nat → Int) (A : Nat → Int → Int)  (K : ∀ σ : g_H0, rM a I (nup A 4 (zcp (A 4) (A 4) 0 156 780)) σ → g_Fr (mR a) σ0 σ → Go w mX9_note (0, 0) 40 [some (.ref a), none] [] σ Φ) : ∀ (n : Nat) (i : Int) (σ : g_H0), 0 ≤ i → i + n = 780 → rM a I (nup A 4 (zcp (A 4) (A 4) 0 156 i)) σ → g_Fr (mR a) σ0 σ → Go w mX9_note (0, 0) 11 [some (.ref a), some (.int (iZ i))] [] σ Φ := by
  intro n
  induction n with
  | zero =>
    intro i σ h0 h1 hM hF
    obtain ⟨m0, m1, m2, m3, m4, m5, m6, m7, m8, m9, m10, m11⟩ := id hM
    have m5 : σ[a + 5]? = some (.inl (0, 936, .inl (zA (zcp (A 4) (A 4) 0 156 i)))) := m5
    refine g_iload_n (q := 12) dX9_note_11 rfl rfl ?_
    refine g_sipush (v := iZ 780) (q := 15) dX9_note_12 (by decide) rfl ?_
    refine z_icmp_ge (t := 40) (q := 18) dX9_note_15 rfl (by omega) rfl (fun pc1 => ?_) (fun pc1 => ?_)
    · obtain rfl : i = 780 := by omega
      refine Go.wk (ml' := [some (.ref a), none]) ⟨Or.inr rfl, Or.inl rfl, trivial⟩ ?_
      exact K σ hM hF
    · exfalso
      omega
  | succ n ih =>
    intro i σ h0 h1 hM hF
    obtain ⟨m0, m1, m2, m3, m4, m5, m6, m7, m8, m9, m10, m11⟩ := id hM
    have m5 : σ[a + 5]? = some (.inl (0, 936, .inl (zA (zcp (A 4) (A 4) 0 156 i)))) := m5
    refine g_iload_n (q := 12) dX9_note_11 rfl rfl ?_
    refine g_sipush (v := iZ 780) (q := 15) dX9_note_12 (by decide) rfl ?_
    refine z_icmp_ge (t := 40) (q := 18) dX9_note_15 rfl (by omega) rfl (fun pc1 => ?_) (fun pc1 => ?_)
    · exfalso
      omega
    · refine g_aload_n (q := 19) dX9_note_18 rfl rfl ?_
      refine g_get (q := 22) flX9_22 dX9_note_19 m0 rfl rfl ?_
      refine g_iload_n (q := 23) dX9_note_22 rfl rfl ?_
      refine g_aload_n (q := 24) dX9_note_23 rfl rfl ?_
      refine g_get (q := 27) flX9_22 dX9_note_24 m0 rfl rfl ?_
      refine g_sipush (v := iZ 156) (q := 30) dX9_note_27 (by decide) rfl ?_
      refine g_iload_n (q := 31) dX9_note_30 rfl rfl ?_
      refine z_iaddc (c := (i + 156)) (q := 32) dX9_note_31 (by omega) rfl ?_
      refine z_iald (q := 33) dX9_note_32 m5 (by omega) rfl ?_
      refine z_iast (q := 34) dX9_note_33 m5 (by omega) rfl (fun σ2 c3 f4 => ?_)
      have c5 := (f4.2 a (by omega)).trans m0
      have c6 := (f4.2 (a + 1) (by omega)).trans m1
      have c7 := (f4.2 (a + 2) (by omega)).trans m2
      have c8 := (f4.2 (a + 3) (by omega)).trans m3
      have c9 := (f4.2 (a + 4) (by omega)).trans m4
      have c10 := (f4.2 (a + 6) (by omega)).trans m6
      have c11 := (f4.2 (a + 7) (by omega)).trans m7
      have c12 := (f4.2 (a + 8) (by omega)).trans m8
      have c13 := (f4.2 (a + 9) (by omega)).trans m9
      have c14 := (f4.2 (a + 10) (by omega)).trans m10
      have c15 := (f4.2 (a + 11) (by omega)).trans m11
      refine z_iincc (c := (i + 1)) (ml' := [some (.ref a), some (.int (iZ (i + 1)))]) (q := 37) dX9_note_34 rfl (by omega) rfl rfl rfl ?_
      refine g_goto (q := 11) dX9_note_37 rfl ?_
      exact ih (i + 1) σ2 (by omega) (by omega) (by rw [← zcp_step (i := i) (j := i) (v := ((zcp (A 4) (A 4) 0 156 i) (i + 156))) (by omega) (by omega) (if_neg (by omega))]; exact ⟨c5, c6, c7, c8, c9, c3, c10, c11, c12, c13, c14, c15⟩) (hF.step f4 ⟨by omega, by omega⟩)
theorem l_M_note2 (w : g_W) (Φ : g_Post) (σ0 : g_H0) (a : Nat) (I : Nat → Int) (A : Nat → Int → Int) (B : Int → Int) (hm : 0 ≤ I 2 ∧ I 2 ≤ 5) (K : ∀ σ : g_H0, rM a I (nup A 4 (zcp B (A 3) (156 * (I 2)) (-(156 * (I 2))) 156)) σ → g_Fr (mR a) σ0 σ → Go w mX9_note (0, 0) 86 [some (.ref a), none] [] σ Φ) : ∀ (n : Nat) (i : Int) (σ : g_H0), 0 ≤ i → i + n = 156 → rM a I (nup A 4 (zcp B (A 3) (156 * (I 2)) (-(156 * (I 2))) i)) σ → g_Fr (mR a) σ0 σ → Go w mX9_note (0, 0) 52 [some (.ref a), some (.int (iZ i))] [] σ Φ := by
  intro n
  induction n with
  | zero =>
    intro i σ h0 h1 hM hF
    obtain ⟨m0, m1, m2, m3, m4, m5, m6, m7, m8, m9, m10, m11⟩ := id hM
    have m5 : σ[a + 5]? = some (.inl (0, 936, .inl (zA (zcp B (A 3) (156 * (I 2)) (-(156 * (I 2))) i)))) := m5
    refine g_iload_n (q := 53) dX9_note_52 rfl rfl ?_
    refine g_sipush (v := iZ 156) (q := 56) dX9_note_53 (by decide) rfl ?_
    refine z_icmp_ge (t := 86) (q := 59) dX9_note_56 rfl (by omega) rfl (fun pc1 => ?_) (fun pc1 => ?_)
    · obtain rfl : i = 156 := by omega
      refine Go.wk (ml' := [some (.ref a), none]) ⟨Or.inr rfl, Or.inl rfl, trivial⟩ ?_
      exact K σ hM hF
    · exfalso
      omega
  | succ n ih =>
    intro i σ h0 h1 hM hF
    obtain ⟨m0, m1, m2, m3, m4, m5, m6, m7, m8, m9, m10, m11⟩ := id hM
    have m5 : σ[a + 5]? = some (.inl (0, 936, .inl (zA (zcp B (A 3) (156 * (I 2)) (-(156 * (I 2))) i)))) := m5
    refine g_iload_n (q := 53) dX9_note_52 rfl rfl ?_
    refine g_sipush (v := iZ 156) (q := 56) dX9_note_53 (by decide) rfl ?_
    refine z_icmp_ge (t := 86) (q := 59) dX9_note_56 rfl (by omega) rfl (fun pc1 => ?_) (fun pc1 => ?_)
    · exfalso
      omega
    · refine g_aload_n (q := 60) dX9_note_59 rfl rfl ?_
      refine g_get (q := 63) flX9_22 dX9_note_60 m0 rfl rfl ?_
      refine g_sipush (v := iZ 156) (q := 66) dX9_note_63 (by decide) rfl ?_
      refine g_aload_n (q := 67) dX9_note_66 rfl rfl ?_
      refine g_get (q := 70) flX9_50 dX9_note_67 m0 rfl rfl ?_
      refine z_imul (q := 71) dX9_note_70 rfl ?_
      refine g_iload_n (q := 72) dX9_note_71 rfl rfl ?_
      refine z_iaddc (c := (156 * (I 2) + i)) (q := 73) dX9_note_72 (by omega) rfl ?_
      refine g_aload_n (q := 74) dX9_note_73 rfl rfl ?_
      refine g_get (q := 77) flX9_19 dX9_note_74 m0 rfl rfl ?_
      refine g_iload_n (q := 78) dX9_note_77 rfl rfl ?_
      refine z_iald (q := 79) dX9_note_78 m4 (by omega) rfl ?_
      refine z_iast (q := 80) dX9_note_79 m5 (by omega) rfl (fun σ2 c3 f4 => ?_)
      have c5 := (f4.2 a (by omega)).trans m0
      have c6 := (f4.2 (a + 1) (by omega)).trans m1
      have c7 := (f4.2 (a + 2) (by omega)).trans m2
      have c8 := (f4.2 (a + 3) (by omega)).trans m3
      have c9 := (f4.2 (a + 4) (by omega)).trans m4
      have c10 := (f4.2 (a + 6) (by omega)).trans m6
      have c11 := (f4.2 (a + 7) (by omega)).trans m7
      have c12 := (f4.2 (a + 8) (by omega)).trans m8
      have c13 := (f4.2 (a + 9) (by omega)).trans m9
      have c14 := (f4.2 (a + 10) (by omega)).trans m10
      have c15 := (f4.2 (a + 11) (by omega)).trans m11
      refine z_iincc (c := (i + 1)) (ml' := [some (.ref a), some (.int (iZ (i + 1)))]) (q := 83) dX9_note_80 rfl (by omega) rfl rfl rfl ?_
      refine g_goto (q := 52) dX9_note_83 rfl ?_
      exact ih (i + 1) σ2 (by omega) (by omega) (by rw [← zcp_step (i := i) (j := (156 * (I 2) + i)) (v := ((A 3) i)) (by omega) (by omega) (congrArg (A 3) (by omega))]; exact ⟨c5, c6, c7, c8, c9, c3, c10, c11, c12, c13, c14, c15⟩) (hF.step f4 ⟨by omega, by omega⟩)
