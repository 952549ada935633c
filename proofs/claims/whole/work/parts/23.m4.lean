/-! what is kept and given back -/
def mR (a : Nat) : Nat → Prop := fun b => a ≤ b ∧ b < a + 12
theorem g_Fr.step {P : Nat → Prop} {σ σ1 σ2 : g_H0} {x : Nat} (h : g_Fr P σ σ1) (f : g_Fr (fun b => b = x) σ1 σ2) (hx : P x) : g_Fr P σ σ2 := h.tr (f.wk (fun b e => by rw [e]; exact hx))
def zcp (d s : Int → Int) (lo off i : Int) : Int → Int := fun k => if lo ≤ k ∧ k < lo + i then s (k + off) else d k
theorem zcp_0 (d s : Int → Int) (lo off : Int) : zcp d s lo off 0 = d := by
  funext k
  exact if_neg (by omega)
theorem zcp_step {d s : Int → Int} {lo off i j v : Int} (hi : 0 ≤ i) (hj : j = lo + i) (hv : v = s (j + off)) : zup (zcp d s lo off i) j v = zcp d s lo off (i + 1) := by
  subst hj; subst hv
  funext k
  unfold zup zcp
  by_cases h : k = lo + i
  · rw [if_pos h, if_pos (by omega), h]
  · rw [if_neg h]
    by_cases h2 : lo ≤ k ∧ k < lo + i
    · rw [if_pos h2, if_pos (by omega)]
    · rw [if_neg h2, if_neg (by omega)]
theorem l_M_note1 (w : g_W) (Φ : g_Post) (σ0 : g_H0) (a : Nat) (I : Nat → Int) (A : Nat → Int → Int)  (K : ∀ σ : g_H0, rM a I (nup A 4 (zcp (A 4) (A 4) 0 156 780)) σ → g_Fr (mR a) σ0 σ → Go w mX9_note (0, 0) 40 [some (.ref a), none] [] σ Φ) : ∀ (n : Nat) (i : Int) (σ : g_H0), 0 ≤ i → i + n = 780 → rM a I (nup A 4 (zcp (A 4) (A 4) 0 156 i)) σ → g_Fr (mR a) σ0 σ → Go w mX9_note (0, 0) 11 [some (.ref a), some (.int (iZ i))] [] σ Φ := by
  intro n
  induction n with
  | zero =>
    intro i σ h0 h1 hM hF
    obtain ⟨m0, m1, m2, m3, m4, m5, m6, m7, m8, m9, m10, m11⟩ := id hM
    have m5 : σ[a + 5]? = some (.inl (0, 936, .inl (zA (zcp (A 4) (A 4) 0 156 i)))) := m5
    have m1 : σ[a + 1]? = some (.inl (0, 200, .inl (zA (A 0)))) := m1
    have m2 : σ[a + 2]? = some (.inl (0, 51, .inl (zA (A 1)))) := m2
    have m3 : σ[a + 3]? = some (.inl (0, 51, .inl (zA (A 2)))) := m3
    have m4 : σ[a + 4]? = some (.inl (0, 156, .inl (zA (A 3)))) := m4
    have m6 : σ[a + 6]? = some (.inl (0, 156, .inl (zA (A 5)))) := m6
    have m7 : σ[a + 7]? = some (.inl (0, 64, .inl (zA (A 6)))) := m7
    have m8 : σ[a + 8]? = some (.inl (0, 5, .inl (zA (A 7)))) := m8
    have m9 : σ[a + 9]? = some (.inl (0, 5, .inl (zA (A 8)))) := m9
    have m10 : σ[a + 10]? = some (.inl (0, 60, .inl (zA (A 9)))) := m10
    have m11 : σ[a + 11]? = some (.inl (0, 5, .inl (zA (A 10)))) := m11
    refine g_iload_n (q := 12) dX9_note_11 rfl rfl ?_
    refine g_sipush (v := iZ 780) (q := 15) dX9_note_12 (by decide) rfl ?_
    refine z_icmp_ge (t := 40) (q := 18) dX9_note_15 rfl (by omega) rfl (fun pc1 => ?_) (fun pc1 => ?_)
    · obtain rfl : i = 780 := by omega
      refine Go.wk (ml' := [some (.ref a), none]) ⟨Or.inr rfl, Or.inl rfl, trivial⟩ ?_
      exact K σ hM hF
    · exfalso
      omega
  | succ n ih =>
    intro i σ h0 h1 hM hF
    obtain ⟨m0, m1, m2, m3, m4, m5, m6, m7, m8, m9, m10, m11⟩ := id hM
    have m5 : σ[a + 5]? = some (.inl (0, 936, .inl (zA (zcp (A 4) (A 4) 0 156 i)))) := m5
    have m1 : σ[a + 1]? = some (.inl (0, 200, .inl (zA (A 0)))) := m1
    have m2 : σ[a + 2]? = some (.inl (0, 51, .inl (zA (A 1)))) := m2
    have m3 : σ[a + 3]? = some (.inl (0, 51, .inl (zA (A 2)))) := m3
    have m4 : σ[a + 4]? = some (.inl (0, 156, .inl (zA (A 3)))) := m4
    have m6 : σ[a + 6]? = some (.inl (0, 156, .inl (zA (A 5)))) := m6
    have m7 : σ[a + 7]? = some (.inl (0, 64, .inl (zA (A 6)))) := m7
    have m8 : σ[a + 8]? = some (.inl (0, 5, .inl (zA (A 7)))) := m8
    have m9 : σ[a + 9]? = some (.inl (0, 5, .inl (zA (A 8)))) := m9
    have m10 : σ[a + 10]? = some (.inl (0, 60, .inl (zA (A 9)))) := m10
    have m11 : σ[a + 11]? = some (.inl (0, 5, .inl (zA (A 10)))) := m11
    refine g_iload_n (q := 12) dX9_note_11 rfl rfl ?_
    refine g_sipush (v := iZ 780) (q := 15) dX9_note_12 (by decide) rfl ?_
    refine z_icmp_ge (t := 40) (q := 18) dX9_note_15 rfl (by omega) rfl (fun pc1 => ?_) (fun pc1 => ?_)
    · exfalso
      omega
    · refine g_aload_n (q := 19) dX9_note_18 rfl rfl ?_
      refine g_get (q := 22) flX9_22 dX9_note_19 m0 rfl rfl ?_
      refine g_iload_n (q := 23) dX9_note_22 rfl rfl ?_
      refine g_aload_n (q := 24) dX9_note_23 rfl rfl ?_
      refine g_get (q := 27) flX9_22 dX9_note_24 m0 rfl rfl ?_
      refine g_sipush (v := iZ 156) (q := 30) dX9_note_27 (by decide) rfl ?_
      refine g_iload_n (q := 31) dX9_note_30 rfl rfl ?_
      refine z_iaddc (c := (i + 156)) (q := 32) dX9_note_31 (by omega) rfl ?_
      refine z_iald (q := 33) dX9_note_32 m5 (by omega) rfl ?_
      refine z_iast (q := 34) dX9_note_33 m5 (by omega) rfl (fun σ2 c3 f4 => ?_)
      have c5 := (f4.2 a (by omega)).trans m0
      have c6 := (f4.2 (a + 1) (by omega)).trans m1
      have c7 := (f4.2 (a + 2) (by omega)).trans m2
      have c8 := (f4.2 (a + 3) (by omega)).trans m3
      have c9 := (f4.2 (a + 4) (by omega)).trans m4
      have c10 := (f4.2 (a + 6) (by omega)).trans m6
      have c11 := (f4.2 (a + 7) (by omega)).trans m7
      have c12 := (f4.2 (a + 8) (by omega)).trans m8
      have c13 := (f4.2 (a + 9) (by omega)).trans m9
      have c14 := (f4.2 (a + 10) (by omega)).trans m10
      have c15 := (f4.2 (a + 11) (by omega)).trans m11
      refine z_iincc (c := (i + 1)) (ml' := [some (.ref a), some (.int (iZ (i + 1)))]) (q := 37) dX9_note_34 rfl (by omega) rfl rfl rfl ?_
      refine g_goto (q := 11) dX9_note_37 rfl ?_
      exact ih (i + 1) σ2 (by omega) (by omega) (by rw [← zcp_step (i := i) (j := i) (v := ((zcp (A 4) (A 4) 0 156 i) (i + 156))) (by omega) (by omega) (if_neg (by omega))]; exact ⟨c5, c6, c7, c8, c9, c3, c10, c11, c12, c13, c14, c15⟩) (hF.step f4 ⟨by omega, by omega⟩)
theorem l_M_note2 (w : g_W) (Φ : g_Post) (σ0 : g_H0) (a : Nat) (I : Nat → Int) (A : Nat → Int → Int) (B : Int → Int) (hm : 0 ≤ I 2 ∧ I 2 ≤ 5) (K : ∀ σ : g_H0, rM a I (nup A 4 (zcp B (A 3) (156 * (I 2)) (-(156 * (I 2))) 156)) σ → g_Fr (mR a) σ0 σ → Go w mX9_note (0, 0) 86 [some (.ref a), none] [] σ Φ) : ∀ (n : Nat) (i : Int) (σ : g_H0), 0 ≤ i → i + n = 156 → rM a I (nup A 4 (zcp B (A 3) (156 * (I 2)) (-(156 * (I 2))) i)) σ → g_Fr (mR a) σ0 σ → Go w mX9_note (0, 0) 52 [some (.ref a), some (.int (iZ i))] [] σ Φ := by
  intro n
  induction n with
  | zero =>
    intro i σ h0 h1 hM hF
    obtain ⟨m0, m1, m2, m3, m4, m5, m6, m7, m8, m9, m10, m11⟩ := id hM
    have m5 : σ[a + 5]? = some (.inl (0, 936, .inl (zA (zcp B (A 3) (156 * (I 2)) (-(156 * (I 2))) i)))) := m5
    have m1 : σ[a + 1]? = some (.inl (0, 200, .inl (zA (A 0)))) := m1
    have m2 : σ[a + 2]? = some (.inl (0, 51, .inl (zA (A 1)))) := m2
    have m3 : σ[a + 3]? = some (.inl (0, 51, .inl (zA (A 2)))) := m3
    have m4 : σ[a + 4]? = some (.inl (0, 156, .inl (zA (A 3)))) := m4
    have m6 : σ[a + 6]? = some (.inl (0, 156, .inl (zA (A 5)))) := m6
    have m7 : σ[a + 7]? = some (.inl (0, 64, .inl (zA (A 6)))) := m7
    have m8 : σ[a + 8]? = some (.inl (0, 5, .inl (zA (A 7)))) := m8
    have m9 : σ[a + 9]? = some (.inl (0, 5, .inl (zA (A 8)))) := m9
    have m10 : σ[a + 10]? = some (.inl (0, 60, .inl (zA (A 9)))) := m10
    have m11 : σ[a + 11]? = some (.inl (0, 5, .inl (zA (A 10)))) := m11
    refine g_iload_n (q := 53) dX9_note_52 rfl rfl ?_
    refine g_sipush (v := iZ 156) (q := 56) dX9_note_53 (by decide) rfl ?_
    refine z_icmp_ge (t := 86) (q := 59) dX9_note_56 rfl (by omega) rfl (fun pc1 => ?_) (fun pc1 => ?_)
    · obtain rfl : i = 156 := by omega
      refine Go.wk (ml' := [some (.ref a), none]) ⟨Or.inr rfl, Or.inl rfl, trivial⟩ ?_
      exact K σ hM hF
    · exfalso
      omega
  | succ n ih =>
    intro i σ h0 h1 hM hF
    obtain ⟨m0, m1, m2, m3, m4, m5, m6, m7, m8, m9, m10, m11⟩ := id hM
    have m5 : σ[a + 5]? = some (.inl (0, 936, .inl (zA (zcp B (A 3) (156 * (I 2)) (-(156 * (I 2))) i)))) := m5
    have m1 : σ[a + 1]? = some (.inl (0, 200, .inl (zA (A 0)))) := m1
    have m2 : σ[a + 2]? = some (.inl (0, 51, .inl (zA (A 1)))) := m2
    have m3 : σ[a + 3]? = some (.inl (0, 51, .inl (zA (A 2)))) := m3
    have m4 : σ[a + 4]? = some (.inl (0, 156, .inl (zA (A 3)))) := m4
    have m6 : σ[a + 6]? = some (.inl (0, 156, .inl (zA (A 5)))) := m6
    have m7 : σ[a + 7]? = some (.inl (0, 64, .inl (zA (A 6)))) := m7
    have m8 : σ[a + 8]? = some (.inl (0, 5, .inl (zA (A 7)))) := m8
    have m9 : σ[a + 9]? = some (.inl (0, 5, .inl (zA (A 8)))) := m9
    have m10 : σ[a + 10]? = some (.inl (0, 60, .inl (zA (A 9)))) := m10
    have m11 : σ[a + 11]? = some (.inl (0, 5, .inl (zA (A 10)))) := m11
    refine g_iload_n (q := 53) dX9_note_52 rfl rfl ?_
    refine g_sipush (v := iZ 156) (q := 56) dX9_note_53 (by decide) rfl ?_
    refine z_icmp_ge (t := 86) (q := 59) dX9_note_56 rfl (by omega) rfl (fun pc1 => ?_) (fun pc1 => ?_)
    · exfalso
      omega
    · refine g_aload_n (q := 60) dX9_note_59 rfl rfl ?_
      refine g_get (q := 63) flX9_22 dX9_note_60 m0 rfl rfl ?_
      refine g_sipush (v := iZ 156) (q := 66) dX9_note_63 (by decide) rfl ?_
      refine g_aload_n (q := 67) dX9_note_66 rfl rfl ?_
      refine g_get (q := 70) flX9_50 dX9_note_67 m0 rfl rfl ?_
      refine z_imul (q := 71) dX9_note_70 rfl ?_
      refine g_iload_n (q := 72) dX9_note_71 rfl rfl ?_
      refine z_iaddc (c := (156 * (I 2) + i)) (q := 73) dX9_note_72 (by omega) rfl ?_
      refine g_aload_n (q := 74) dX9_note_73 rfl rfl ?_
      refine g_get (q := 77) flX9_19 dX9_note_74 m0 rfl rfl ?_
      refine g_iload_n (q := 78) dX9_note_77 rfl rfl ?_
      refine z_iald (q := 79) dX9_note_78 m4 (by omega) rfl ?_
      refine z_iast (q := 80) dX9_note_79 m5 (by omega) rfl (fun σ2 c3 f4 => ?_)
      have c5 := (f4.2 a (by omega)).trans m0
      have c6 := (f4.2 (a + 1) (by omega)).trans m1
      have c7 := (f4.2 (a + 2) (by omega)).trans m2
      have c8 := (f4.2 (a + 3) (by omega)).trans m3
      have c9 := (f4.2 (a + 4) (by omega)).trans m4
      have c10 := (f4.2 (a + 6) (by omega)).trans m6
      have c11 := (f4.2 (a + 7) (by omega)).trans m7
      have c12 := (f4.2 (a + 8) (by omega)).trans m8
      have c13 := (f4.2 (a + 9) (by omega)).trans m9
      have c14 := (f4.2 (a + 10) (by omega)).trans m10
      have c15 := (f4.2 (a + 11) (by omega)).trans m11
      refine z_iincc (c := (i + 1)) (ml' := [some (.ref a), some (.int (iZ (i + 1)))]) (q := 83) dX9_note_80 rfl (by omega) rfl rfl rfl ?_
      refine g_goto (q := 52) dX9_note_83 rfl ?_
      exact ih (i + 1) σ2 (by omega) (by omega) (by rw [← zcp_step (i := i) (j := (156 * (I 2) + i)) (v := ((A 3) i)) (by omega) (by omega) (congrArg (A 3) (by omega))]; exact ⟨c5, c6, c7, c8, c9, c3, c10, c11, c12, c13, c14, c15⟩) (hF.step f4 ⟨by omega, by omega⟩)
theorem rM.congr {a : Nat} {I I' : Nat → Int} {A A' : Nat → Int → Int} {σ : g_H0} (h : rM a I A σ) (hi : ∀ j, j < 5 → I j = I' j) (ha : ∀ j, j < 11 → A j = A' j) : rM a I' A' σ := by
  unfold rM at h ⊢
  rw [← hi 0 (by omega), ← hi 1 (by omega), ← hi 2 (by omega), ← hi 3 (by omega), ← hi 4 (by omega), ← ha 0 (by omega), ← ha 1 (by omega), ← ha 2 (by omega), ← ha 3 (by omega), ← ha 4 (by omega), ← ha 5 (by omega), ← ha 6 (by omega), ← ha 7 (by omega), ← ha 8 (by omega), ← ha 9 (by omega), ← ha 10 (by omega)]
  exact h
theorem nup_nup {α : Type} (t : Nat → α) (i : Nat) (x y : α) : nup (nup t i x) i y = nup t i y := by
  funext k
  unfold nup
  split <;> rfl
theorem nup_self {α : Type} (t : Nat → α) (i : Nat) (x : α) : nup t i x i = x := if_pos rfl
theorem nup_ne {α : Type} (t : Nat → α) {i k : Nat} (x : α) (h : k ≠ i) : nup t i x k = t k := if_neg h
theorem nup_id {α : Type} (t : Nat → α) (i : Nat) : nup t i (t i) = t := by
  funext k
  unfold nup
  split
  · next h => rw [h]
  · rfl
theorem nup_cm {α : Type} (t : Nat → α) {i j : Nat} (x y : α) (h : i ≠ j) : nup (nup t i x) j y = nup (nup t j y) i x := by
  funext k
  unfold nup
  by_cases h1 : k = i
  · by_cases h2 : k = j
    · exact absurd (h1.symm.trans h2) h
    · simp [h1, h]
  · simp [h1]
def mNoteB (B S : Int → Int) (n : Int) : Int → Int := if n = 6 then zcp (zcp B B 0 156 780) S 780 (-780) 156 else zcp B S (156 * n) (-(156 * n)) 156
def mNoteN (n : Int) : Int := if n = 6 then 6 else n + 1
theorem l_M_note3 (w : g_W) (σ0 : g_H0) (a : Nat) (I : Nat → Int) (A : Nat → Int → Int) (B : Int → Int) (hm : 0 ≤ I 2 ∧ I 2 ≤ 5) (σ : g_H0) (hM : rM a I (nup A 4 B) σ) (hF : g_Fr (mR a) σ0 σ) : Go w mX9_note (0, 0) 50 [some (.ref a), none] [] σ (fun r σ' => r = none ∧ rM a (nup I 2 (I 2 + 1)) (nup A 4 (zcp B (A 3) (156 * I 2) (-(156 * I 2)) 156)) σ' ∧ g_Fr (mR a) σ0 σ') := by
  obtain ⟨m0, m1, m2, m3, m4, m5, m6, m7, m8, m9, m10, m11⟩ := id hM
  have m5 : σ[a + 5]? = some (.inl (0, 936, .inl (zA B))) := m5
  have m1 : σ[a + 1]? = some (.inl (0, 200, .inl (zA (A 0)))) := m1
  have m2 : σ[a + 2]? = some (.inl (0, 51, .inl (zA (A 1)))) := m2
  have m3 : σ[a + 3]? = some (.inl (0, 51, .inl (zA (A 2)))) := m3
  have m4 : σ[a + 4]? = some (.inl (0, 156, .inl (zA (A 3)))) := m4
  have m6 : σ[a + 6]? = some (.inl (0, 156, .inl (zA (A 5)))) := m6
  have m7 : σ[a + 7]? = some (.inl (0, 64, .inl (zA (A 6)))) := m7
  have m8 : σ[a + 8]? = some (.inl (0, 5, .inl (zA (A 7)))) := m8
  have m9 : σ[a + 9]? = some (.inl (0, 5, .inl (zA (A 8)))) := m9
  have m10 : σ[a + 10]? = some (.inl (0, 60, .inl (zA (A 9)))) := m10
  have m11 : σ[a + 11]? = some (.inl (0, 5, .inl (zA (A 10)))) := m11
  refine z_iconst (q := 51) dX9_note_50 rfl ?_
  refine g_istore_n (ml' := [some (.ref a), some (.int (iZ 0))]) (q := 52) dX9_note_51 rfl (Nat.le_of_ble_eq_true rfl) rfl rfl ?_
  refine l_M_note2 w _ σ0 a I A B hm (fun σ hM hF => ?_) 156 0 σ (by omega) (by omega) (by rw [zcp_0]; exact hM) hF
  obtain ⟨m0, m1, m2, m3, m4, m5, m6, m7, m8, m9, m10, m11⟩ := id hM
  have m5 : σ[a + 5]? = some (.inl (0, 936, .inl (zA (zcp B (A 3) (156 * (I 2)) (-(156 * (I 2))) 156)))) := m5
  have m1 : σ[a + 1]? = some (.inl (0, 200, .inl (zA (A 0)))) := m1
  have m2 : σ[a + 2]? = some (.inl (0, 51, .inl (zA (A 1)))) := m2
  have m3 : σ[a + 3]? = some (.inl (0, 51, .inl (zA (A 2)))) := m3
  have m4 : σ[a + 4]? = some (.inl (0, 156, .inl (zA (A 3)))) := m4
  have m6 : σ[a + 6]? = some (.inl (0, 156, .inl (zA (A 5)))) := m6
  have m7 : σ[a + 7]? = some (.inl (0, 64, .inl (zA (A 6)))) := m7
  have m8 : σ[a + 8]? = some (.inl (0, 5, .inl (zA (A 7)))) := m8
  have m9 : σ[a + 9]? = some (.inl (0, 5, .inl (zA (A 8)))) := m9
  have m10 : σ[a + 10]? = some (.inl (0, 60, .inl (zA (A 9)))) := m10
  have m11 : σ[a + 11]? = some (.inl (0, 5, .inl (zA (A 10)))) := m11
  refine g_aload_n (q := 87) dX9_note_86 rfl rfl ?_
  refine g_dup (q := 88) dX9_note_87 rfl rfl ?_
  refine g_get (q := 91) flX9_50 dX9_note_88 m0 rfl rfl ?_
  refine z_iconst (q := 92) dX9_note_91 rfl ?_
  refine z_iadd (q := 93) dX9_note_92 rfl ?_
  refine z_put (fs' := [.int (iZ (I 0)), .ref (a + 1), .int (iZ (I 1)), .ref (a + 2), .ref (a + 3), .ref (a + 4), .ref (a + 5), .int (iZ ((I 2) + 1)), .ref (a + 6), .ref (a + 7), .ref (a + 8), .int (iZ (I 3)), .int (iZ (I 4)), .ref (a + 9), .ref (a + 10), .ref (a + 11)]) (q := 96) fpX9_50 dX9_note_93 m0 (Nat.le_of_ble_eq_true rfl) rfl rfl rfl rfl (fun σ1 c2 f3 => ?_)
  have c4 := (f3.2 (a + 1) (by omega)).trans m1
  have c5 := (f3.2 (a + 2) (by omega)).trans m2
  have c6 := (f3.2 (a + 3) (by omega)).trans m3
  have c7 := (f3.2 (a + 4) (by omega)).trans m4
  have c8 := (f3.2 (a + 5) (by omega)).trans m5
  have c9 := (f3.2 (a + 6) (by omega)).trans m6
  have c10 := (f3.2 (a + 7) (by omega)).trans m7
  have c11 := (f3.2 (a + 8) (by omega)).trans m8
  have c12 := (f3.2 (a + 9) (by omega)).trans m9
  have c13 := (f3.2 (a + 10) (by omega)).trans m10
  have c14 := (f3.2 (a + 11) (by omega)).trans m11
  refine z_vret dX9_note_96 rfl ?_
  exact ⟨rfl, ⟨c2, c4, c5, c6, c7, c8, c9, c10, c11, c12, c13, c14⟩, (hF.step f3 ⟨by omega, by omega⟩)⟩
theorem r_M_note (σ : g_H0) (a : Nat) (I : Nat → Int) (A : Nat → Int → Int) (hM : rM a I A σ) (hn : 0 ≤ I 2 ∧ I 2 ≤ 6) : Ret mX9_note [.ref a] σ (fun r σ' => r = none ∧ rM a (nup I 2 (mNoteN (I 2))) (nup A 4 (mNoteB (A 4) (A 3) (I 2))) σ' ∧ g_Fr (mR a) σ σ') := by
  refine Ret.of moX9_note.1 (Nat.le_of_ble_eq_true rfl) (fun w => ?_)
  obtain ⟨m0, m1, m2, m3, m4, m5, m6, m7, m8, m9, m10, m11⟩ := id hM
  show Go w mX9_note (0, 0) 0 [some (.ref a), none] [] σ (fun r σ' => r = none ∧ rM a (nup I 2 (mNoteN (I 2))) (nup A 4 (mNoteB (A 4) (A 3) (I 2))) σ' ∧ g_Fr (mR a) σ σ')
  refine g_aload_n (q := 1) dX9_note_0 rfl rfl ?_
  refine g_get (q := 4) flX9_50 dX9_note_1 m0 rfl rfl ?_
  refine g_bipush (v := iZ 6) (q := 6) dX9_note_4 (by decide) rfl ?_
  refine z_icmp_ne (t := 50) (q := 9) dX9_note_6 rfl (by omega) rfl (fun pc1 => ?_) (fun pc1 => ?_)
  · refine (l_M_note3 w σ a I A (A 4) (by omega) σ (by rw [nup_id]; exact hM) g_Fr.rf).mono (fun r σ1 hp => ⟨hp.1, ?_, hp.2.2⟩)
    refine hp.2.1.congr (fun j _ => ?_) (fun j _ => ?_)
    · unfold mNoteN; rw [if_neg (by omega)]
    · unfold mNoteB; rw [if_neg (by omega)]
  · refine z_iconst (q := 10) dX9_note_9 rfl ?_
    refine g_istore_n (ml' := [some (.ref a), some (.int (iZ 0))]) (q := 11) dX9_note_10 rfl (Nat.le_of_ble_eq_true rfl) rfl rfl ?_
    have h6 : I 2 = 6 := by omega
    refine l_M_note1 w _ σ a I A (fun σ1 hM hF => ?_) 780 0 σ (by omega) (by omega) (by rw [zcp_0, nup_id]; exact hM) g_Fr.rf
    clear m0 m1 m2 m3 m4 m5 m6 m7 m8 m9 m10 m11
    obtain ⟨m0, m1, m2, m3, m4, m5, m6, m7, m8, m9, m10, m11⟩ := id hM
    have m4 : σ1[a + 4]? = some (.inl (0, 156, .inl (zA (A 3)))) := m4
    have m5 : σ1[a + 5]? = some (.inl (0, 936, .inl (zA (zcp (A 4) (A 4) 0 156 780)))) := m5
    refine g_aload_n (q := 41) dX9_note_40 rfl rfl ?_
    refine g_dup (q := 42) dX9_note_41 rfl rfl ?_
    refine g_get (q := 45) flX9_50 dX9_note_42 m0 rfl rfl ?_
    refine z_iconst (q := 46) dX9_note_45 rfl ?_
    refine z_isub (q := 47) dX9_note_46 rfl ?_
    refine z_put (fs' := [.int (iZ (I 0)), .ref (a + 1), .int (iZ (I 1)), .ref (a + 2), .ref (a + 3), .ref (a + 4), .ref (a + 5), .int (iZ ((I 2) - 1)), .ref (a + 6), .ref (a + 7), .ref (a + 8), .int (iZ (I 3)), .int (iZ (I 4)), .ref (a + 9), .ref (a + 10), .ref (a + 11)]) (q := 50) fpX9_50 dX9_note_47 m0 (Nat.le_of_ble_eq_true rfl) rfl rfl rfl rfl (fun σ2 c3 f4 => ?_)
    have c5 := (f4.2 (a + 1) (by omega)).trans m1
    have c6 := (f4.2 (a + 2) (by omega)).trans m2
    have c7 := (f4.2 (a + 3) (by omega)).trans m3
    have c8 := (f4.2 (a + 4) (by omega)).trans m4
    have c9 := (f4.2 (a + 5) (by omega)).trans m5
    have c10 := (f4.2 (a + 6) (by omega)).trans m6
    have c11 := (f4.2 (a + 7) (by omega)).trans m7
    have c12 := (f4.2 (a + 8) (by omega)).trans m8
    have c13 := (f4.2 (a + 9) (by omega)).trans m9
    have c14 := (f4.2 (a + 10) (by omega)).trans m10
    have c15 := (f4.2 (a + 11) (by omega)).trans m11
    refine (l_M_note3 w σ a (nup I 2 (I 2 - 1)) A (zcp (A 4) (A 4) 0 156 780) (by show 0 ≤ I 2 - 1 ∧ I 2 - 1 ≤ 5; omega) σ2 ⟨c3, c5, c6, c7, c8, c9, c10, c11, c12, c13, c14, c15⟩ (hF.step f4 ⟨by omega, by omega⟩)).mono (fun r σ1 hp => ⟨hp.1, ?_, hp.2.2⟩)
    refine hp.2.1.congr (fun j _ => ?_) (fun j _ => ?_)
    · rw [nup_nup]; unfold mNoteN; rw [if_pos h6]; show nup I 2 (I 2 - 1 + 1) j = _; rw [show I 2 - 1 + 1 = 6 by omega]
    · unfold mNoteB; rw [if_pos h6]; show nup A 4 (zcp _ _ (156 * (I 2 - 1)) (-(156 * (I 2 - 1))) 156) j = _; rw [show 156 * (I 2 - 1) = 780 by omega]
theorem l_M_tb (w : g_W) (Φ : g_Post) (σ0 : g_H0) (a : Nat) (I : Nat → Int) (A : Nat → Int → Int) (hm : 0 ≤ I 2 ∧ I 2 ≤ 5) (K : ∀ σ : g_H0, rM a I (nup A 3 (zcp (A 3) (A 4) 0 (156 * (I 2)) 156)) σ → g_Fr (mR a) σ0 σ → Go w mX9_takesBack (0, 0) 46 [some (.ref a), none] [] σ Φ) : ∀ (n : Nat) (i : Int) (σ : g_H0), 0 ≤ i → i + n = 156 → rM a I (nup A 3 (zcp (A 3) (A 4) 0 (156 * (I 2)) i)) σ → g_Fr (mR a) σ0 σ → Go w mX9_takesBack (0, 0) 12 [some (.ref a), some (.int (iZ i))] [] σ Φ := by
  intro n
  induction n with
  | zero =>
    intro i σ h0 h1 hM hF
    obtain ⟨m0, m1, m2, m3, m4, m5, m6, m7, m8, m9, m10, m11⟩ := id hM
    have m4 : σ[a + 4]? = some (.inl (0, 156, .inl (zA (zcp (A 3) (A 4) 0 (156 * (I 2)) i)))) := m4
    have m1 : σ[a + 1]? = some (.inl (0, 200, .inl (zA (A 0)))) := m1
    have m2 : σ[a + 2]? = some (.inl (0, 51, .inl (zA (A 1)))) := m2
    have m3 : σ[a + 3]? = some (.inl (0, 51, .inl (zA (A 2)))) := m3
    have m5 : σ[a + 5]? = some (.inl (0, 936, .inl (zA (A 4)))) := m5
    have m6 : σ[a + 6]? = some (.inl (0, 156, .inl (zA (A 5)))) := m6
    have m7 : σ[a + 7]? = some (.inl (0, 64, .inl (zA (A 6)))) := m7
    have m8 : σ[a + 8]? = some (.inl (0, 5, .inl (zA (A 7)))) := m8
    have m9 : σ[a + 9]? = some (.inl (0, 5, .inl (zA (A 8)))) := m9
    have m10 : σ[a + 10]? = some (.inl (0, 60, .inl (zA (A 9)))) := m10
    have m11 : σ[a + 11]? = some (.inl (0, 5, .inl (zA (A 10)))) := m11
    refine g_iload_n (q := 13) dX9_takesBack_12 rfl rfl ?_
    refine g_sipush (v := iZ 156) (q := 16) dX9_takesBack_13 (by decide) rfl ?_
    refine z_icmp_ge (t := 46) (q := 19) dX9_takesBack_16 rfl (by omega) rfl (fun pc1 => ?_) (fun pc1 => ?_)
    · obtain rfl : i = 156 := by omega
      refine Go.wk (ml' := [some (.ref a), none]) ⟨Or.inr rfl, Or.inl rfl, trivial⟩ ?_
      exact K σ hM hF
    · exfalso
      omega
  | succ n ih =>
    intro i σ h0 h1 hM hF
    obtain ⟨m0, m1, m2, m3, m4, m5, m6, m7, m8, m9, m10, m11⟩ := id hM
    have m4 : σ[a + 4]? = some (.inl (0, 156, .inl (zA (zcp (A 3) (A 4) 0 (156 * (I 2)) i)))) := m4
    have m1 : σ[a + 1]? = some (.inl (0, 200, .inl (zA (A 0)))) := m1
    have m2 : σ[a + 2]? = some (.inl (0, 51, .inl (zA (A 1)))) := m2
    have m3 : σ[a + 3]? = some (.inl (0, 51, .inl (zA (A 2)))) := m3
    have m5 : σ[a + 5]? = some (.inl (0, 936, .inl (zA (A 4)))) := m5
    have m6 : σ[a + 6]? = some (.inl (0, 156, .inl (zA (A 5)))) := m6
    have m7 : σ[a + 7]? = some (.inl (0, 64, .inl (zA (A 6)))) := m7
    have m8 : σ[a + 8]? = some (.inl (0, 5, .inl (zA (A 7)))) := m8
    have m9 : σ[a + 9]? = some (.inl (0, 5, .inl (zA (A 8)))) := m9
    have m10 : σ[a + 10]? = some (.inl (0, 60, .inl (zA (A 9)))) := m10
    have m11 : σ[a + 11]? = some (.inl (0, 5, .inl (zA (A 10)))) := m11
    refine g_iload_n (q := 13) dX9_takesBack_12 rfl rfl ?_
    refine g_sipush (v := iZ 156) (q := 16) dX9_takesBack_13 (by decide) rfl ?_
    refine z_icmp_ge (t := 46) (q := 19) dX9_takesBack_16 rfl (by omega) rfl (fun pc1 => ?_) (fun pc1 => ?_)
    · exfalso
      omega
    · refine g_aload_n (q := 20) dX9_takesBack_19 rfl rfl ?_
      refine g_get (q := 23) flX9_19 dX9_takesBack_20 m0 rfl rfl ?_
      refine g_iload_n (q := 24) dX9_takesBack_23 rfl rfl ?_
      refine g_aload_n (q := 25) dX9_takesBack_24 rfl rfl ?_
      refine g_get (q := 28) flX9_22 dX9_takesBack_25 m0 rfl rfl ?_
      refine g_sipush (v := iZ 156) (q := 31) dX9_takesBack_28 (by decide) rfl ?_
      refine g_aload_n (q := 32) dX9_takesBack_31 rfl rfl ?_
      refine g_get (q := 35) flX9_50 dX9_takesBack_32 m0 rfl rfl ?_
      refine z_imul (q := 36) dX9_takesBack_35 rfl ?_
      refine g_iload_n (q := 37) dX9_takesBack_36 rfl rfl ?_
      refine z_iaddc (c := (156 * (I 2) + i)) (q := 38) dX9_takesBack_37 (by omega) rfl ?_
      refine z_iald (q := 39) dX9_takesBack_38 m5 (by omega) rfl ?_
      refine z_iast (q := 40) dX9_takesBack_39 m4 (by omega) rfl (fun σ2 c3 f4 => ?_)
      have c5 := (f4.2 a (by omega)).trans m0
      have c6 := (f4.2 (a + 1) (by omega)).trans m1
      have c7 := (f4.2 (a + 2) (by omega)).trans m2
      have c8 := (f4.2 (a + 3) (by omega)).trans m3
      have c9 := (f4.2 (a + 5) (by omega)).trans m5
      have c10 := (f4.2 (a + 6) (by omega)).trans m6
      have c11 := (f4.2 (a + 7) (by omega)).trans m7
      have c12 := (f4.2 (a + 8) (by omega)).trans m8
      have c13 := (f4.2 (a + 9) (by omega)).trans m9
      have c14 := (f4.2 (a + 10) (by omega)).trans m10
      have c15 := (f4.2 (a + 11) (by omega)).trans m11
      refine z_iincc (c := (i + 1)) (ml' := [some (.ref a), some (.int (iZ (i + 1)))]) (q := 43) dX9_takesBack_40 rfl (by omega) rfl rfl rfl ?_
      refine g_goto (q := 12) dX9_takesBack_43 rfl ?_
      exact ih (i + 1) σ2 (by omega) (by omega) (by rw [← zcp_step (i := i) (j := i) (v := ((A 4) (156 * (I 2) + i))) (by omega) (by omega) (congrArg (A 4) (by omega))]; exact ⟨c5, c6, c7, c8, c3, c9, c10, c11, c12, c13, c14, c15⟩) (hF.step f4 ⟨by omega, by omega⟩)
theorem r_M_takesBack (σ : g_H0) (a : Nat) (I : Nat → Int) (A : Nat → Int → Int) (hM : rM a I A σ) (hn : 1 ≤ I 2 ∧ I 2 ≤ 6) : Ret mX9_takesBack [.ref a] σ (fun r σ' => r = none ∧ rM a (nup I 2 (I 2 - 1)) (nup A 3 (zcp (A 3) (A 4) 0 (156 * (I 2 - 1)) 156)) σ' ∧ g_Fr (mR a) σ σ') := by
  refine Ret.of moX9_takesBack.1 (Nat.le_of_ble_eq_true rfl) (fun w => ?_)
  obtain ⟨m0, m1, m2, m3, m4, m5, m6, m7, m8, m9, m10, m11⟩ := id hM
  show Go w mX9_takesBack (0, 0) 0 [some (.ref a), none] [] σ (fun r σ' => r = none ∧ rM a (nup I 2 (I 2 - 1)) (nup A 3 (zcp (A 3) (A 4) 0 (156 * (I 2 - 1)) 156)) σ' ∧ g_Fr (mR a) σ σ')
  refine g_aload_n (q := 1) dX9_takesBack_0 rfl rfl ?_
  refine g_dup (q := 2) dX9_takesBack_1 rfl rfl ?_
  refine g_get (q := 5) flX9_50 dX9_takesBack_2 m0 rfl rfl ?_
  refine z_iconst (q := 6) dX9_takesBack_5 rfl ?_
  refine z_isub (q := 7) dX9_takesBack_6 rfl ?_
  refine z_put (fs' := [.int (iZ (I 0)), .ref (a + 1), .int (iZ (I 1)), .ref (a + 2), .ref (a + 3), .ref (a + 4), .ref (a + 5), .int (iZ ((I 2) - 1)), .ref (a + 6), .ref (a + 7), .ref (a + 8), .int (iZ (I 3)), .int (iZ (I 4)), .ref (a + 9), .ref (a + 10), .ref (a + 11)]) (q := 10) fpX9_50 dX9_takesBack_7 m0 (Nat.le_of_ble_eq_true rfl) rfl rfl rfl rfl (fun σ1 c2 f3 => ?_)
  have c4 := (f3.2 (a + 1) (by omega)).trans m1
  have c5 := (f3.2 (a + 2) (by omega)).trans m2
  have c6 := (f3.2 (a + 3) (by omega)).trans m3
  have c7 := (f3.2 (a + 4) (by omega)).trans m4
  have c8 := (f3.2 (a + 5) (by omega)).trans m5
  have c9 := (f3.2 (a + 6) (by omega)).trans m6
  have c10 := (f3.2 (a + 7) (by omega)).trans m7
  have c11 := (f3.2 (a + 8) (by omega)).trans m8
  have c12 := (f3.2 (a + 9) (by omega)).trans m9
  have c13 := (f3.2 (a + 10) (by omega)).trans m10
  have c14 := (f3.2 (a + 11) (by omega)).trans m11
  refine z_iconst (q := 11) dX9_takesBack_10 rfl ?_
  refine g_istore_n (ml' := [some (.ref a), some (.int (iZ 0))]) (q := 12) dX9_takesBack_11 rfl (Nat.le_of_ble_eq_true rfl) rfl rfl ?_
  exact l_M_tb w _ σ a (nup I 2 (I 2 - 1)) A (by show 0 ≤ I 2 - 1 ∧ I 2 - 1 ≤ 5; omega) (fun σ2 hM2 hF2 => z_vret dX9_takesBack_46 rfl ⟨rfl, hM2, hF2⟩) 156 0 σ1 (by omega) (by omega) (by rw [zcp_0, nup_id]; exact ⟨c2, c4, c5, c6, c7, c8, c9, c10, c11, c12, c13, c14⟩) (g_Fr.rf.step f3 ⟨by omega, by omega⟩)
theorem r_M_undo (σ : g_H0) (a : Nat) (I : Nat → Int) (A : Nat → Int → Int) (hM : rM a I A σ) (hn : 0 ≤ I 2 ∧ I 2 ≤ 6) : Ret mX9_undo [.ref a] σ (fun r σ' => (I 2 = 0 ∧ r = some (.int (iZ (-2))) ∧ σ' = σ) ∨ (I 2 ≠ 0 ∧ r = some (.int (iZ (I 2 - 1))) ∧ rM a (nup I 2 (I 2 - 1)) (nup A 3 (zcp (A 3) (A 4) 0 (156 * (I 2 - 1)) 156)) σ' ∧ g_Fr (mR a) σ σ')) := by
  refine Ret.of moX9_undo.1 (Nat.le_of_ble_eq_true rfl) (fun w => ?_)
  obtain ⟨m0, m1, m2, m3, m4, m5, m6, m7, m8, m9, m10, m11⟩ := id hM
  show Go w mX9_undo (0, 0) 0 [some (.ref a)] [] σ (fun r σ' => (I 2 = 0 ∧ r = some (.int (iZ (-2))) ∧ σ' = σ) ∨ (I 2 ≠ 0 ∧ r = some (.int (iZ (I 2 - 1))) ∧ rM a (nup I 2 (I 2 - 1)) (nup A 3 (zcp (A 3) (A 4) 0 (156 * (I 2 - 1)) 156)) σ' ∧ g_Fr (mR a) σ σ'))
  refine g_aload_n (q := 1) dX9_undo_0 rfl rfl ?_
  refine g_get (q := 4) flX9_50 dX9_undo_1 m0 rfl rfl ?_
  refine z_if_ne (t := 10) (q := 7) dX9_undo_4 rfl (by omega) rfl (fun pc1 => ?_) (fun pc1 => ?_)
  · refine g_aload_n (q := 11) dX9_undo_10 rfl rfl ?_
    refine g_callV (As := []) (rest := []) (q := 14) moX9_takesBack lkX9_undo_111 dX9_undo_11 rfl m0 (r_M_takesBack σ a I A hM (by omega)) rfl rfl (Nat.le_of_ble_eq_true rfl) (Nat.le_of_ble_eq_true rfl) (Nat.le_of_ble_eq_true rfl) rfl ?_
    rintro r1 σ1 ⟨rfl, hM1, hF1⟩
    obtain ⟨m0, m1, m2, m3, m4, m5, m6, m7, m8, m9, m10, m11⟩ := id hM1
    have m0 : σ1[a]? = some (.inr (9, [.int (iZ (I 0)), .ref (a + 1), .int (iZ (I 1)), .ref (a + 2), .ref (a + 3), .ref (a + 4), .ref (a + 5), .int (iZ (I 2 - 1)), .ref (a + 6), .ref (a + 7), .ref (a + 8), .int (iZ (I 3)), .int (iZ (I 4)), .ref (a + 9), .ref (a + 10), .ref (a + 11)])) := m0
    show Go w mX9_undo (0, 0) 14 [some (.ref a)] [] σ1 (fun r σ' => (I 2 = 0 ∧ r = some (.int (iZ (-2))) ∧ σ' = σ) ∨ (I 2 ≠ 0 ∧ r = some (.int (iZ (I 2 - 1))) ∧ rM a (nup I 2 (I 2 - 1)) (nup A 3 (zcp (A 3) (A 4) 0 (156 * (I 2 - 1)) 156)) σ' ∧ g_Fr (mR a) σ σ'))
    refine g_aload_n (q := 15) dX9_undo_14 rfl rfl ?_
    refine g_get (q := 18) flX9_50 dX9_undo_15 m0 rfl rfl ?_
    refine z_iret dX9_undo_18 rfl ?_
    exact Or.inr ⟨by omega, rfl, hM1, hF1⟩
  · refine g_bipush (v := iZ (-2)) (q := 9) dX9_undo_7 (by decide) rfl ?_
    refine z_iret dX9_undo_9 rfl ?_
    exact Or.inl ⟨by omega, rfl, rfl⟩
