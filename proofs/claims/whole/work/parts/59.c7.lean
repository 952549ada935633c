def pJ (j : Nat) : Nat → Prop := fun k => j ≤ k ∧ k < j + 16
theorem rJob.clear {j : Nat} {R R' : Int → Int} {σ σ' : g_H0} (h : rJob j R σ) (hz : R' 0 = 0 ∧ R' 1 = 0 ∧ R' 2 = 0 ∧ R' 3 = 0 ∧ R' 4 = 0) (e0 : σ'[j]? = some (.inr (2, [.ref (j + 1), .ref (j + 2), .ref (j + 3), .ref (j + 4), .int (iZ 0), .int (iZ 0), .int (iZ 0)]))) (e1 : σ'[j + 1]? = some (.inr (0, [.int (iZ 0), .int (iZ 0), .int (iZ 0), .int (iZ 0)]))) (fr : ∀ k, k ≠ j → k ≠ j + 1 → σ'[k]? = σ[k]?) : rJob j R' σ' := by
  obtain ⟨h1, h2, ⟨f, h3, h3'⟩, ⟨g, h4, h4'⟩, ⟨C, h5, h5'⟩, h6, h7⟩ := h
  obtain ⟨z0, z1, z2, z3, z4⟩ := hz
  refine ⟨by rw [z2, z3, z4]; exact e0, by rw [z0, z1]; exact e1, ⟨f, (fr _ (by omega) (by omega)).trans h3, h3'⟩, ⟨g, (fr _ (by omega) (by omega)).trans h4, h4'⟩, ⟨C, (fr _ (by omega) (by omega)).trans h5, fun c c0 c1 => by omega⟩, fun k hk => ?_, fun k hk => ?_⟩
  · obtain ⟨x, y, l, c, q1, -⟩ := h6 k hk
    exact ⟨x, y, l, c, (fr _ (by omega) (by omega)).trans q1, fun e => by omega⟩
  · obtain ⟨x, y, l, c, q1, -⟩ := h7 k hk
    exact ⟨x, y, l, c, (fr _ (by omega) (by omega)).trans q1, fun e => by omega⟩
theorem rJob.setSheet {j : Nat} {R : Int → Int} {σ σ' : g_H0} {a b : Int} (h : rJob j R σ) (hR : 0 ≤ R 2 ∧ 0 ≤ R 3 ∧ 0 ≤ R 4) (e1 : σ'[j + 1]? = some (.inr (0, [.int (iZ 0), .int (iZ 0), .int (iZ a), .int (iZ b)]))) (fr : ∀ k, k ≠ j + 1 → σ'[k]? = σ[k]?) : rJob j (zup (zup R 0 a) 1 b) σ' := by
  obtain ⟨h1, h2, ⟨f, h3, h3'⟩, ⟨g, h4, h4'⟩, ⟨C, h5, h5'⟩, h6, h7⟩ := h
  have out : ∀ k, 2 ≤ k → zup (zup R 0 a) 1 b k = R k := fun k hk => by rw [zup_ne _ _ (by omega), zup_ne _ _ (by omega)]
  refine ⟨by rw [out 2 (by omega), out 3 (by omega), out 4 (by omega)]; exact (fr _ (by omega)).trans h1, e1, ⟨f, (fr _ (by omega)).trans h3, h3'⟩, ⟨g, (fr _ (by omega)).trans h4, h4'⟩, ⟨C, (fr _ (by omega)).trans h5, fun c c0 c1 => ?_⟩, fun k hk => ?_, fun k hk => ?_⟩
  · rw [out 4 (by omega)] at c1
    rw [out _ (by omega)]; exact h5' c c0 c1
  · obtain ⟨x, y, l, c, q1, q2⟩ := h6 k hk
    refine ⟨x, y, l, c, (fr _ (by omega)).trans q1, fun e => ?_⟩
    rw [out 2 (by omega)] at e
    rw [out _ (by omega), out _ (by omega), out _ (by omega), out _ (by omega)]
    exact q2 e
  · obtain ⟨x, y, l, c, q1, q2⟩ := h7 k hk
    refine ⟨x, y, l, c, (fr _ (by omega)).trans q1, fun e => ?_⟩
    rw [out 3 (by omega)] at e
    rw [out _ (by omega), out _ (by omega), out _ (by omega), out _ (by omega)]
    exact q2 e
theorem rJob.addTool {j : Nat} {R : Int → Int} {σ σ' : g_H0} {a b c d : Int} (h : rJob j R σ) (hR : (0 ≤ R 2 ∧ R 2 < 6) ∧ 0 ≤ R 3 ∧ 0 ≤ R 4) (e0 : σ'[j]? = some (.inr (2, [.ref (j + 1), .ref (j + 2), .ref (j + 3), .ref (j + 4), .int (iZ (R 2 + 1)), .int (iZ (R 3)), .int (iZ (R 4))]))) (e1 : σ'[j + 5 + (R 2).toNat]? = some (.inr (7, [.int (iZ a), .int (iZ b), .int (iZ d), .int (iZ c)]))) (fr : ∀ k, k ≠ j → k ≠ j + 5 + (R 2).toNat → σ'[k]? = σ[k]?) : rJob j (zup (zup (zup (zup (zup R 2 (R 2 + 1)) (4 * R 2 + 5) a) (4 * R 2 + 6) b) (4 * R 2 + 7) c) (4 * R 2 + 8) d) σ' := by
  obtain ⟨h1, h2, ⟨f, h3, h3'⟩, ⟨g, h4, h4'⟩, ⟨C, h5, h5'⟩, h6, h7⟩ := h
  obtain ⟨R', e, e2, ea, eb, ec, ed, out⟩ := zup5 R (n := 2) (i := 4 * R 2 + 5) (x := R 2 + 1) (a := a) (b := b) (c := c) (d := d) (by omega)
  rw [show 4 * R 2 + 6 = 4 * R 2 + 5 + 1 by omega, show 4 * R 2 + 7 = 4 * R 2 + 5 + 2 by omega, show 4 * R 2 + 8 = 4 * R 2 + 5 + 3 by omega, ← e]
  have o0 := out 0 (by omega) (by omega)
  have o1 := out 1 (by omega) (by omega)
  have o3 := out 3 (by omega) (by omega)
  have o4 := out 4 (by omega) (by omega)
  refine ⟨by rw [e2, o3, o4]; exact e0, by rw [o0, o1]; exact (fr _ (by omega) (by omega)).trans h2, ⟨f, (fr _ (by omega) (by omega)).trans h3, h3'⟩, ⟨g, (fr _ (by omega) (by omega)).trans h4, h4'⟩, ⟨C, (fr _ (by omega) (by omega)).trans h5, fun c c0 c1 => ?_⟩, fun k hk => ?_, fun k hk => ?_⟩
  · rw [o4] at c1; rw [out _ (by omega) (by omega)]; exact h5' c c0 c1
  · by_cases q : (k : Int) = R 2
    · have hk2 : k = (R 2).toNat := by omega
      refine ⟨a, b, d, c, by rw [hk2]; exact e1, fun _ => ?_⟩
      rw [q]
      exact ⟨ea.symm, by rw [← eb]; congr 1; omega, by rw [← ed]; congr 1; omega, by rw [← ec]; congr 1; omega⟩
    · obtain ⟨x, y, l, c, q1, q2⟩ := h6 k hk
      refine ⟨x, y, l, c, (fr _ (by omega) (by omega)).trans q1, fun e => ?_⟩
      rw [out _ (by omega) (by omega), out _ (by omega) (by omega), out _ (by omega) (by omega), out _ (by omega) (by omega)]
      exact q2 (by omega)
  · obtain ⟨x, y, l, c, q1, q2⟩ := h7 k hk
    refine ⟨x, y, l, c, (fr _ (by omega) (by omega)).trans q1, fun e => ?_⟩
    rw [out _ (by omega) (by omega), out _ (by omega) (by omega), out _ (by omega) (by omega), out _ (by omega) (by omega)]
    exact q2 (by omega)
theorem rJob.putHole {j : Nat} {R : Int → Int} {σ σ' : g_H0} {a b c d : Int} (h : rJob j R σ) (hR : 0 ≤ R 3 ∧ R 3 < 5) (e1 : σ'[j + 11 + (R 3).toNat]? = some (.inr (0, [.int (iZ a), .int (iZ b), .int (iZ c), .int (iZ d)]))) (fr : ∀ k, k ≠ j + 11 + (R 3).toNat → σ'[k]? = σ[k]?) : rJob j R σ' := by
  obtain ⟨h1, h2, ⟨f, h3, h3'⟩, ⟨g, h4, h4'⟩, ⟨C, h5, h5'⟩, h6, h7⟩ := h
  refine ⟨(fr _ (by omega)).trans h1, (fr _ (by omega)).trans h2, ⟨f, (fr _ (by omega)).trans h3, h3'⟩, ⟨g, (fr _ (by omega)).trans h4, h4'⟩, ⟨C, (fr _ (by omega)).trans h5, h5'⟩, fun k hk => ?_, fun k hk => ?_⟩
  · obtain ⟨x, y, l, c, q1, q2⟩ := h6 k hk
    exact ⟨x, y, l, c, (fr _ (by omega)).trans q1, q2⟩
  · by_cases q : (k : Int) = R 3
    · have hk2 : k = (R 3).toNat := by omega
      exact ⟨a, b, c, d, by rw [hk2]; exact e1, fun e => by omega⟩
    · obtain ⟨x, y, l, c, q1, q2⟩ := h7 k hk
      exact ⟨x, y, l, c, (fr _ (by omega)).trans q1, q2⟩
theorem rJob.addHole {j : Nat} {R : Int → Int} {σ σ' : g_H0} {a b c d : Int} (h : rJob j R σ) (hR : (0 ≤ R 3 ∧ R 3 < 5) ∧ (0 ≤ R 2 ∧ R 2 ≤ 6) ∧ 0 ≤ R 4) (e0 : σ'[j]? = some (.inr (2, [.ref (j + 1), .ref (j + 2), .ref (j + 3), .ref (j + 4), .int (iZ (R 2)), .int (iZ (R 3 + 1)), .int (iZ (R 4))]))) (e1 : σ'[j + 11 + (R 3).toNat]? = some (.inr (0, [.int (iZ a), .int (iZ b), .int (iZ c), .int (iZ d)]))) (fr : ∀ k, k ≠ j → k ≠ j + 11 + (R 3).toNat → σ'[k]? = σ[k]?) : rJob j (zup (zup (zup (zup (zup R 3 (R 3 + 1)) (4 * R 3 + 29) a) (4 * R 3 + 30) b) (4 * R 3 + 31) c) (4 * R 3 + 32) d) σ' := by
  obtain ⟨h1, h2, ⟨f, h3, h3'⟩, ⟨g, h4, h4'⟩, ⟨C, h5, h5'⟩, h6, h7⟩ := h
  obtain ⟨R', e, e2, ea, eb, ec, ed, out⟩ := zup5 R (n := 3) (i := 4 * R 3 + 29) (x := R 3 + 1) (a := a) (b := b) (c := c) (d := d) (by omega)
  rw [show 4 * R 3 + 30 = 4 * R 3 + 29 + 1 by omega, show 4 * R 3 + 31 = 4 * R 3 + 29 + 2 by omega, show 4 * R 3 + 32 = 4 * R 3 + 29 + 3 by omega, ← e]
  have o0 := out 0 (by omega) (by omega)
  have o1 := out 1 (by omega) (by omega)
  have o3 := out 2 (by omega) (by omega)
  have o4 := out 4 (by omega) (by omega)
  refine ⟨by rw [e2, o3, o4]; exact e0, by rw [o0, o1]; exact (fr _ (by omega) (by omega)).trans h2, ⟨f, (fr _ (by omega) (by omega)).trans h3, h3'⟩, ⟨g, (fr _ (by omega) (by omega)).trans h4, h4'⟩, ⟨C, (fr _ (by omega) (by omega)).trans h5, fun c c0 c1 => ?_⟩, fun k hk => ?_, fun k hk => ?_⟩
  · rw [o4] at c1; rw [out _ (by omega) (by omega)]; exact h5' c c0 c1
  · obtain ⟨x, y, l, c, q1, q2⟩ := h6 k hk
    refine ⟨x, y, l, c, (fr _ (by omega) (by omega)).trans q1, fun e => ?_⟩
    rw [out _ (by omega) (by omega), out _ (by omega) (by omega), out _ (by omega) (by omega), out _ (by omega) (by omega)]
    exact q2 (by omega)
  · by_cases q : (k : Int) = R 3
    · have hk2 : k = (R 3).toNat := by omega
      refine ⟨a, b, c, d, by rw [hk2]; exact e1, fun _ => ?_⟩
      rw [q]
      exact ⟨ea.symm, by rw [← eb]; congr 1; omega, by rw [← ec]; congr 1; omega, by rw [← ed]; congr 1; omega⟩
    · obtain ⟨x, y, l, c, q1, q2⟩ := h7 k hk
      refine ⟨x, y, l, c, (fr _ (by omega) (by omega)).trans q1, fun e => ?_⟩
      rw [out _ (by omega) (by omega), out _ (by omega) (by omega), out _ (by omega) (by omega), out _ (by omega) (by omega)]
      exact q2 (by omega)
theorem rJob.addClamp {j : Nat} {R C : Int → Int} {σ σ' : g_H0} {a : Int} (h : rJob j R σ) (hR : (0 ≤ R 4 ∧ R 4 < 2) ∧ (0 ≤ R 2 ∧ R 2 ≤ 6) ∧ (0 ≤ R 3 ∧ R 3 ≤ 5)) (hC : ∀ c, 0 ≤ c → c < R 4 → C c = R (c + 49)) (e0 : σ'[j]? = some (.inr (2, [.ref (j + 1), .ref (j + 2), .ref (j + 3), .ref (j + 4), .int (iZ (R 2)), .int (iZ (R 3)), .int (iZ (R 4 + 1))]))) (e1 : σ'[j + 4]? = some (.inl (0, 2, .inl (zA (zup C (R 4) a))))) (fr : ∀ k, k ≠ j → k ≠ j + 4 → σ'[k]? = σ[k]?) : rJob j (zup (zup R 4 (R 4 + 1)) (R 4 + 49) a) σ' := by
  obtain ⟨h1, h2, ⟨f, h3, h3'⟩, ⟨g, h4, h4'⟩, -, h6, h7⟩ := h
  have out : ∀ k, k ≠ 4 → k ≠ R 4 + 49 → zup (zup R 4 (R 4 + 1)) (R 4 + 49) a k = R k := fun k hk hk2 => by rw [zup_ne _ _ hk2, zup_ne _ _ hk]
  have e4 : zup (zup R 4 (R 4 + 1)) (R 4 + 49) a 4 = R 4 + 1 := by rw [zup_ne _ _ (by omega), zup_self]
  have ea : zup (zup R 4 (R 4 + 1)) (R 4 + 49) a (R 4 + 49) = a := zup_self _ _ _
  generalize zup (zup R 4 (R 4 + 1)) (R 4 + 49) a = R' at out e4 ea ⊢
  have o0 := out 0 (by omega) (by omega)
  have o1 := out 1 (by omega) (by omega)
  have o2 := out 2 (by omega) (by omega)
  have o3 := out 3 (by omega) (by omega)
  refine ⟨by rw [e4, o2, o3]; exact e0, by rw [o0, o1]; exact (fr _ (by omega) (by omega)).trans h2, ⟨f, (fr _ (by omega) (by omega)).trans h3, h3'⟩, ⟨g, (fr _ (by omega) (by omega)).trans h4, h4'⟩, ⟨_, e1, fun c c0 c1 => ?_⟩, fun k hk => ?_, fun k hk => ?_⟩
  · by_cases q : c = R 4
    · subst q; rw [zup_self, ea]
    · rw [zup_ne _ _ q, out _ (by omega) (by omega)]; exact hC c c0 (by omega)
  · obtain ⟨x, y, l, c, q1, q2⟩ := h6 k hk
    refine ⟨x, y, l, c, (fr _ (by omega) (by omega)).trans q1, fun e => ?_⟩
    rw [out _ (by omega) (by omega), out _ (by omega) (by omega), out _ (by omega) (by omega), out _ (by omega) (by omega)]
    exact q2 (by omega)
  · obtain ⟨x, y, l, c, q1, q2⟩ := h7 k hk
    refine ⟨x, y, l, c, (fr _ (by omega) (by omega)).trans q1, fun e => ?_⟩
    rw [out _ (by omega) (by omega), out _ (by omega) (by omega), out _ (by omega) (by omega), out _ (by omega) (by omega)]
    exact q2 (by omega)
theorem r_jclear (σ : g_H0) (j : Nat) (R : Int → Int) (hJ : rJob j R σ) (R' : Int → Int) (hz : R' 0 = 0 ∧ R' 1 = 0 ∧ R' 2 = 0 ∧ R' 3 = 0 ∧ R' 4 = 0) : Ret mX2_clear [.ref j] σ (fun r σ' => r = none ∧ rJob j R' σ' ∧ g_Fr (pJ j) σ σ') := by
  refine Ret.of moX2_clear.1 (Nat.le_of_ble_eq_true rfl) (fun w => ?_)
  obtain ⟨j0, j1, ⟨jf, j2, j2'⟩, ⟨jg, j3, j3'⟩, ⟨jC, j4, j4'⟩, j5, j6⟩ := id hJ
  show Go w mX2_clear (0, 0) 0 [some (.ref j)] [] σ (fun r σ' => r = none ∧ rJob j R' σ' ∧ g_Fr (pJ j) σ σ')
  refine g_aload_n (q := 1) dX2_clear_0 rfl rfl ?_
  refine g_get (q := 4) flX2_12 dX2_clear_1 j0 rfl rfl ?_
  refine z_iconst (q := 5) dX2_clear_4 rfl ?_
  refine z_iconst (q := 6) dX2_clear_5 rfl ?_
  refine z_iconst (q := 7) dX2_clear_6 rfl ?_
  refine z_iconst (q := 8) dX2_clear_7 rfl ?_
  refine g_callV (As := [.int (iZ 0), .int (iZ 0), .int (iZ 0), .int (iZ 0)]) (rest := []) (q := 11) moX0_put lkX2_clear_33 dX2_clear_8 rfl j1 (r_put σ (j + 1) 0 0 (R 0) (R 1) 0 0 0 0 j1) rfl rfl (Nat.le_of_ble_eq_true rfl) (Nat.le_of_ble_eq_true rfl) (Nat.le_of_ble_eq_true rfl) rfl ?_
  rintro rp1 σ1 ⟨rfl, hp1, fp1⟩
  have c2 := (fp1.2 j (by omega)).trans j0
  have c3 := (fp1.2 (j + 2) (by omega)).trans j2
  have c4 := (fp1.2 (j + 3) (by omega)).trans j3
  have c5 := (fp1.2 (j + 4) (by omega)).trans j4
  show Go w mX2_clear (0, 0) 11 [some (.ref j)] [] σ1 (fun r σ' => r = none ∧ rJob j R' σ' ∧ g_Fr (pJ j) σ σ')
  refine g_aload_n (q := 12) dX2_clear_11 rfl rfl ?_
  refine z_iconst (q := 13) dX2_clear_12 rfl ?_
  refine z_put (fs' := [.ref (j + 1), .ref (j + 2), .ref (j + 3), .ref (j + 4), .int (iZ 0), .int (iZ (R 3)), .int (iZ (R 4))]) (q := 16) fpX2_37 dX2_clear_13 c2 (Nat.le_of_ble_eq_true rfl) rfl rfl rfl rfl (fun σ6 c7 f8 => ?_)
  have c9 := (f8.2 (j + 2) (by omega)).trans c3
  have c10 := (f8.2 (j + 3) (by omega)).trans c4
  have c11 := (f8.2 (j + 4) (by omega)).trans c5
  have c12 := (f8.2 (j + 1) (by omega)).trans hp1
  refine g_aload_n (q := 17) dX2_clear_16 rfl rfl ?_
  refine z_iconst (q := 18) dX2_clear_17 rfl ?_
  refine z_put (fs' := [.ref (j + 1), .ref (j + 2), .ref (j + 3), .ref (j + 4), .int (iZ 0), .int (iZ 0), .int (iZ (R 4))]) (q := 21) fpX2_41 dX2_clear_18 c7 (Nat.le_of_ble_eq_true rfl) rfl rfl rfl rfl (fun σ13 c14 f15 => ?_)
  have c16 := (f15.2 (j + 2) (by omega)).trans c9
  have c17 := (f15.2 (j + 3) (by omega)).trans c10
  have c18 := (f15.2 (j + 4) (by omega)).trans c11
  have c19 := (f15.2 (j + 1) (by omega)).trans c12
  refine g_aload_n (q := 22) dX2_clear_21 rfl rfl ?_
  refine z_iconst (q := 23) dX2_clear_22 rfl ?_
  refine z_put (fs' := [.ref (j + 1), .ref (j + 2), .ref (j + 3), .ref (j + 4), .int (iZ 0), .int (iZ 0), .int (iZ 0)]) (q := 26) fpX2_44 dX2_clear_23 c14 (Nat.le_of_ble_eq_true rfl) rfl rfl rfl rfl (fun σ20 c21 f22 => ?_)
  have c23 := (f22.2 (j + 2) (by omega)).trans c16
  have c24 := (f22.2 (j + 3) (by omega)).trans c17
  have c25 := (f22.2 (j + 4) (by omega)).trans c18
  have c26 := (f22.2 (j + 1) (by omega)).trans c19
  refine z_vret dX2_clear_26 rfl ?_
  exact ⟨rfl, hJ.clear hz c21 c26 (fun k k0 k1 => ((f22.2 k (by omega)).trans ((f15.2 k (by omega)).trans ((f8.2 k (by omega)).trans (fp1.2 k (by omega)))))), ((((g_Fr.rf.tr (fp1.wk (fun k e => ⟨by omega, by omega⟩))).tr (f8.wk (fun k e => ⟨by omega, by omega⟩))).tr (f15.wk (fun k e => ⟨by omega, by omega⟩))).tr (f22.wk (fun k e => ⟨by omega, by omega⟩)))⟩
theorem r_hasSheet (σ : g_H0) (j : Nat) (R : Int → Int) (hJ : rJob j R σ) (hP : pR R) : Ret mX2_hasSheet [.ref j] σ (fun r σ' => r = some (.int (bI (R 0 ≠ 0))) ∧ σ' = σ) := by
  refine Ret.of moX2_hasSheet.1 (Nat.le_of_ble_eq_true rfl) (fun w => ?_)
  obtain ⟨j0, j1, ⟨jf, j2, j2'⟩, ⟨jg, j3, j3'⟩, ⟨jC, j4, j4'⟩, j5, j6⟩ := id hJ
  obtain ⟨bR, r01, r2, r3, r4, rt, rh, rap, rcl, rc2⟩ := id hP
  show Go w mX2_hasSheet (0, 0) 0 [some (.ref j)] [] σ (fun r σ' => r = some (.int (bI (R 0 ≠ 0))) ∧ σ' = σ)
  refine g_aload_n (q := 1) dX2_hasSheet_0 rfl rfl ?_
  refine g_get (q := 4) flX2_12 dX2_hasSheet_1 j0 rfl rfl ?_
  refine g_get (q := 7) flX2_47 dX2_hasSheet_4 j1 rfl rfl ?_
  refine z_if_le (t := 14) (q := 10) dX2_hasSheet_7 rfl (by omega) rfl (fun pc1 => ?_) (fun pc1 => ?_)
  · refine z_iconst (q := 15) dX2_hasSheet_14 rfl ?_
    refine z_zret dX2_hasSheet_15 rfl rfl ?_
    exact ⟨congrArg (fun v => some (Value.int v)) (bI_f (by omega)).symm, rfl⟩
  · refine z_iconst (q := 11) dX2_hasSheet_10 rfl ?_
    refine g_goto (q := 15) dX2_hasSheet_11 rfl ?_
    refine z_zret dX2_hasSheet_15 rfl rfl ?_
    exact ⟨congrArg (fun v => some (Value.int v)) (bI_t (by omega)).symm, rfl⟩
theorem r_takeSheet (σ : g_H0) (j : Nat) (R : Int → Int) (hJ : rJob j R σ) (hP : pR R) (u v : Int) (b_u : 0 ≤ u ∧ u ≤ 99) (b_v : 0 ≤ v ∧ v ≤ 99) : Ret mX2_takeSheet [.ref j, .int (iZ u), .int (iZ v)] σ (fun r σ' => ((R 0 = 0 ∧ (3 ≤ u ∧ u ≤ 12) ∧ (3 ≤ v ∧ v ≤ 12)) ∧ r = some (.int (iZ 1)) ∧ rJob j (zup (zup R 0 u) 1 v) σ' ∧ g_Fr (pJ j) σ σ') ∨ (¬ (R 0 = 0 ∧ (3 ≤ u ∧ u ≤ 12) ∧ (3 ≤ v ∧ v ≤ 12)) ∧ r = some (.int (iZ 0)) ∧ rJob j R σ' ∧ g_Fr (pJ j) σ σ')) := by
  refine Ret.of moX2_takeSheet.1 (Nat.le_of_ble_eq_true rfl) (fun w => ?_)
  obtain ⟨j0, j1, ⟨jf, j2, j2'⟩, ⟨jg, j3, j3'⟩, ⟨jC, j4, j4'⟩, j5, j6⟩ := id hJ
  obtain ⟨bR, r01, r2, r3, r4, rt, rh, rap, rcl, rc2⟩ := id hP
  show Go w mX2_takeSheet (0, 0) 0 [some (.ref j), some (.int (iZ u)), some (.int (iZ v))] [] σ (fun r σ' => ((R 0 = 0 ∧ (3 ≤ u ∧ u ≤ 12) ∧ (3 ≤ v ∧ v ≤ 12)) ∧ r = some (.int (iZ 1)) ∧ rJob j (zup (zup R 0 u) 1 v) σ' ∧ g_Fr (pJ j) σ σ') ∨ (¬ (R 0 = 0 ∧ (3 ≤ u ∧ u ≤ 12) ∧ (3 ≤ v ∧ v ≤ 12)) ∧ r = some (.int (iZ 0)) ∧ rJob j R σ' ∧ g_Fr (pJ j) σ σ'))
  refine g_aload_n (q := 1) dX2_takeSheet_0 rfl rfl ?_
  refine g_callV (As := []) (rest := []) (q := 4) moX2_hasSheet lkX2_takeSheet_50 dX2_takeSheet_1 rfl j0 (r_hasSheet σ j R hJ hP) rfl rfl (Nat.le_of_ble_eq_true rfl) (Nat.le_of_ble_eq_true rfl) (Nat.le_of_ble_eq_true rfl) rfl ?_
  rintro rQ sQ hpQ
  rw [hpQ.1, hpQ.2]
  show Go w mX2_takeSheet (0, 0) 4 [some (.ref j), some (.int (iZ u)), some (.int (iZ v))] [.int (bI (R 0 ≠ 0))] σ (fun r σ' => ((R 0 = 0 ∧ (3 ≤ u ∧ u ≤ 12) ∧ (3 ≤ v ∧ v ≤ 12)) ∧ r = some (.int (iZ 1)) ∧ rJob j (zup (zup R 0 u) 1 v) σ' ∧ g_Fr (pJ j) σ σ') ∨ (¬ (R 0 = 0 ∧ (3 ≤ u ∧ u ≤ 12) ∧ (3 ≤ v ∧ v ≤ 12)) ∧ r = some (.int (iZ 0)) ∧ rJob j R σ' ∧ g_Fr (pJ j) σ σ'))
  refine z_ifB_ne (t := 27) (q := 7) dX2_takeSheet_4 rfl rfl (fun pc1 => ?_) (fun pc1 => ?_)
  · refine z_iconst (q := 28) dX2_takeSheet_27 rfl ?_
    refine z_zret dX2_takeSheet_28 rfl rfl ?_
    exact Or.inr ⟨by omega, rfl, hJ, g_Fr.rf⟩
  · refine g_iload_n (q := 8) dX2_takeSheet_7 rfl rfl ?_
    refine z_iconst (q := 9) dX2_takeSheet_8 rfl ?_
    refine g_bipush (v := iZ 12) (q := 11) dX2_takeSheet_9 (by decide) rfl ?_
    refine g_callSN (As := [.int (iZ u), .int (iZ 3), .int (iZ 12)]) (rest := []) (q := 14) moX8_isWithin lkX2_takeSheet_54 dX2_takeSheet_11 (r_isWithin σ u 3 12 (by omega) (by omega) (by omega)) rfl rfl (Nat.le_of_ble_eq_true rfl) (Nat.le_of_ble_eq_true rfl) (Nat.le_of_ble_eq_true rfl) rfl ?_
    rintro rQ sQ hpQ
    rw [hpQ.1, hpQ.2]
    show Go w mX2_takeSheet (0, 0) 14 [some (.ref j), some (.int (iZ u)), some (.int (iZ v))] [.int (bI (3 ≤ u ∧ u ≤ 12))] σ (fun r σ' => ((R 0 = 0 ∧ (3 ≤ u ∧ u ≤ 12) ∧ (3 ≤ v ∧ v ≤ 12)) ∧ r = some (.int (iZ 1)) ∧ rJob j (zup (zup R 0 u) 1 v) σ' ∧ g_Fr (pJ j) σ σ') ∨ (¬ (R 0 = 0 ∧ (3 ≤ u ∧ u ≤ 12) ∧ (3 ≤ v ∧ v ≤ 12)) ∧ r = some (.int (iZ 0)) ∧ rJob j R σ' ∧ g_Fr (pJ j) σ σ'))
    refine z_ifB_eq (t := 27) (q := 17) dX2_takeSheet_14 rfl rfl (fun pc2 => ?_) (fun pc2 => ?_)
    · refine z_iconst (q := 28) dX2_takeSheet_27 rfl ?_
      refine z_zret dX2_takeSheet_28 rfl rfl ?_
      exact Or.inr ⟨by omega, rfl, hJ, g_Fr.rf⟩
    · refine g_iload_n (q := 18) dX2_takeSheet_17 rfl rfl ?_
      refine z_iconst (q := 19) dX2_takeSheet_18 rfl ?_
      refine g_bipush (v := iZ 12) (q := 21) dX2_takeSheet_19 (by decide) rfl ?_
      refine g_callSN (As := [.int (iZ v), .int (iZ 3), .int (iZ 12)]) (rest := []) (q := 24) moX8_isWithin lkX2_takeSheet_54 dX2_takeSheet_21 (r_isWithin σ v 3 12 (by omega) (by omega) (by omega)) rfl rfl (Nat.le_of_ble_eq_true rfl) (Nat.le_of_ble_eq_true rfl) (Nat.le_of_ble_eq_true rfl) rfl ?_
      rintro rQ sQ hpQ
      rw [hpQ.1, hpQ.2]
      show Go w mX2_takeSheet (0, 0) 24 [some (.ref j), some (.int (iZ u)), some (.int (iZ v))] [.int (bI (3 ≤ v ∧ v ≤ 12))] σ (fun r σ' => ((R 0 = 0 ∧ (3 ≤ u ∧ u ≤ 12) ∧ (3 ≤ v ∧ v ≤ 12)) ∧ r = some (.int (iZ 1)) ∧ rJob j (zup (zup R 0 u) 1 v) σ' ∧ g_Fr (pJ j) σ σ') ∨ (¬ (R 0 = 0 ∧ (3 ≤ u ∧ u ≤ 12) ∧ (3 ≤ v ∧ v ≤ 12)) ∧ r = some (.int (iZ 0)) ∧ rJob j R σ' ∧ g_Fr (pJ j) σ σ'))
      refine z_ifB_ne (t := 29) (q := 27) dX2_takeSheet_24 rfl rfl (fun pc3 => ?_) (fun pc3 => ?_)
      · refine g_aload_n (q := 30) dX2_takeSheet_29 rfl rfl ?_
        refine g_get (q := 33) flX2_12 dX2_takeSheet_30 j0 rfl rfl ?_
        refine z_iconst (q := 34) dX2_takeSheet_33 rfl ?_
        refine z_iconst (q := 35) dX2_takeSheet_34 rfl ?_
        refine g_iload_n (q := 36) dX2_takeSheet_35 rfl rfl ?_
        refine g_iload_n (q := 37) dX2_takeSheet_36 rfl rfl ?_
        refine g_callV (As := [.int (iZ 0), .int (iZ 0), .int (iZ u), .int (iZ v)]) (rest := []) (q := 40) moX0_put lkX2_takeSheet_33 dX2_takeSheet_37 rfl j1 (r_put σ (j + 1) 0 0 (R 0) (R 1) 0 0 u v j1) rfl rfl (Nat.le_of_ble_eq_true rfl) (Nat.le_of_ble_eq_true rfl) (Nat.le_of_ble_eq_true rfl) rfl ?_
        rintro rp4 σ4 ⟨rfl, hp4, fp4⟩
        have c5 := (fp4.2 j (by omega)).trans j0
        have c6 := (fp4.2 (j + 2) (by omega)).trans j2
        have c7 := (fp4.2 (j + 3) (by omega)).trans j3
        have c8 := (fp4.2 (j + 4) (by omega)).trans j4
        show Go w mX2_takeSheet (0, 0) 40 [some (.ref j), some (.int (iZ u)), some (.int (iZ v))] [] σ4 (fun r σ' => ((R 0 = 0 ∧ (3 ≤ u ∧ u ≤ 12) ∧ (3 ≤ v ∧ v ≤ 12)) ∧ r = some (.int (iZ 1)) ∧ rJob j (zup (zup R 0 u) 1 v) σ' ∧ g_Fr (pJ j) σ σ') ∨ (¬ (R 0 = 0 ∧ (3 ≤ u ∧ u ≤ 12) ∧ (3 ≤ v ∧ v ≤ 12)) ∧ r = some (.int (iZ 0)) ∧ rJob j R σ' ∧ g_Fr (pJ j) σ σ'))
        refine z_iconst (q := 41) dX2_takeSheet_40 rfl ?_
        refine z_zret dX2_takeSheet_41 rfl rfl ?_
        exact Or.inl ⟨by omega, rfl, hJ.setSheet (by omega) hp4 (fun k k0 => (fp4.2 k (by omega))), (g_Fr.rf.tr (fp4.wk (fun k e => ⟨by omega, by omega⟩)))⟩
      · refine z_iconst (q := 28) dX2_takeSheet_27 rfl ?_
        refine z_zret dX2_takeSheet_28 rfl rfl ?_
        exact Or.inr ⟨by omega, rfl, hJ, g_Fr.rf⟩
theorem z01_fit {l : Int} (h : 0 ≤ l ∧ l ≤ 1) : fits .boolean (.int (iZ l)) = true := by
  rcases (by omega : l = 0 ∨ l = 1) with rfl | rfl <;> rfl
theorem r_takeTool (σ : g_H0) (j : Nat) (R : Int → Int) (hJ : rJob j R σ) (hP : pR R) (u v y z : Int) (b_u : 0 ≤ u ∧ u ≤ 99) (b_v : 0 ≤ v ∧ v ≤ 99) (b_y : 0 ≤ y ∧ y ≤ 99) (b_z : 0 ≤ z ∧ z ≤ 99) : Ret mX2_takeTool [.ref j, .int (iZ u), .int (iZ v), .int (iZ y), .int (iZ z)] σ (fun r σ' => (((R 0 ≠ 0 ∧ R 2 < 6) ∧ (1 ≤ u ∧ u ≤ 6) ∧ (1 ≤ v ∧ v ≤ 6) ∧ (0 ≤ y ∧ y ≤ 1) ∧ (1 ≤ z ∧ z ≤ 99)) ∧ r = some (.int (iZ 1)) ∧ rJob j (zup (zup (zup (zup (zup R 2 (R 2 + 1)) (4 * R 2 + 5) u) (4 * R 2 + 6) v) (4 * R 2 + 7) y) (4 * R 2 + 8) z) σ' ∧ g_Fr (pJ j) σ σ') ∨ (¬ ((R 0 ≠ 0 ∧ R 2 < 6) ∧ (1 ≤ u ∧ u ≤ 6) ∧ (1 ≤ v ∧ v ≤ 6) ∧ (0 ≤ y ∧ y ≤ 1) ∧ (1 ≤ z ∧ z ≤ 99)) ∧ r = some (.int (iZ 0)) ∧ rJob j R σ' ∧ g_Fr (pJ j) σ σ')) := by
  refine Ret.of moX2_takeTool.1 (Nat.le_of_ble_eq_true rfl) (fun w => ?_)
  obtain ⟨j0, j1, ⟨jf, j2, j2'⟩, ⟨jg, j3, j3'⟩, ⟨jC, j4, j4'⟩, j5, j6⟩ := id hJ
  obtain ⟨bR, r01, r2, r3, r4, rt, rh, rap, rcl, rc2⟩ := id hP
  show Go w mX2_takeTool (0, 0) 0 [some (.ref j), some (.int (iZ u)), some (.int (iZ v)), some (.int (iZ y)), some (.int (iZ z)), none] [] σ (fun r σ' => (((R 0 ≠ 0 ∧ R 2 < 6) ∧ (1 ≤ u ∧ u ≤ 6) ∧ (1 ≤ v ∧ v ≤ 6) ∧ (0 ≤ y ∧ y ≤ 1) ∧ (1 ≤ z ∧ z ≤ 99)) ∧ r = some (.int (iZ 1)) ∧ rJob j (zup (zup (zup (zup (zup R 2 (R 2 + 1)) (4 * R 2 + 5) u) (4 * R 2 + 6) v) (4 * R 2 + 7) y) (4 * R 2 + 8) z) σ' ∧ g_Fr (pJ j) σ σ') ∨ (¬ ((R 0 ≠ 0 ∧ R 2 < 6) ∧ (1 ≤ u ∧ u ≤ 6) ∧ (1 ≤ v ∧ v ≤ 6) ∧ (0 ≤ y ∧ y ≤ 1) ∧ (1 ≤ z ∧ z ≤ 99)) ∧ r = some (.int (iZ 0)) ∧ rJob j R σ' ∧ g_Fr (pJ j) σ σ'))
  refine g_aload_n (q := 1) dX2_takeTool_0 rfl rfl ?_
  refine g_callV (As := []) (rest := []) (q := 4) moX2_hasSheet lkX2_takeTool_50 dX2_takeTool_1 rfl j0 (r_hasSheet σ j R hJ hP) rfl rfl (Nat.le_of_ble_eq_true rfl) (Nat.le_of_ble_eq_true rfl) (Nat.le_of_ble_eq_true rfl) rfl ?_
  rintro rQ sQ hpQ
  rw [hpQ.1, hpQ.2]
  show Go w mX2_takeTool (0, 0) 4 [some (.ref j), some (.int (iZ u)), some (.int (iZ v)), some (.int (iZ y)), some (.int (iZ z)), none] [.int (bI (R 0 ≠ 0))] σ (fun r σ' => (((R 0 ≠ 0 ∧ R 2 < 6) ∧ (1 ≤ u ∧ u ≤ 6) ∧ (1 ≤ v ∧ v ≤ 6) ∧ (0 ≤ y ∧ y ≤ 1) ∧ (1 ≤ z ∧ z ≤ 99)) ∧ r = some (.int (iZ 1)) ∧ rJob j (zup (zup (zup (zup (zup R 2 (R 2 + 1)) (4 * R 2 + 5) u) (4 * R 2 + 6) v) (4 * R 2 + 7) y) (4 * R 2 + 8) z) σ' ∧ g_Fr (pJ j) σ σ') ∨ (¬ ((R 0 ≠ 0 ∧ R 2 < 6) ∧ (1 ≤ u ∧ u ≤ 6) ∧ (1 ≤ v ∧ v ≤ 6) ∧ (0 ≤ y ∧ y ≤ 1) ∧ (1 ≤ z ∧ z ≤ 99)) ∧ r = some (.int (iZ 0)) ∧ rJob j R σ' ∧ g_Fr (pJ j) σ σ'))
  refine z_ifB_eq (t := 54) (q := 7) dX2_takeTool_4 rfl rfl (fun pc1 => ?_) (fun pc1 => ?_)
  · refine z_iconst (q := 55) dX2_takeTool_54 rfl ?_
    refine z_zret dX2_takeTool_55 rfl rfl ?_
    exact Or.inr ⟨by omega, rfl, hJ, g_Fr.rf⟩
  · refine g_aload_n (q := 8) dX2_takeTool_7 rfl rfl ?_
    refine g_get (q := 11) flX2_37 dX2_takeTool_8 j0 rfl rfl ?_
    refine g_bipush (v := iZ 6) (q := 13) dX2_takeTool_11 (by decide) rfl ?_
    refine z_icmp_ge (t := 54) (q := 16) dX2_takeTool_13 rfl (by omega) rfl (fun pc2 => ?_) (fun pc2 => ?_)
    · refine z_iconst (q := 55) dX2_takeTool_54 rfl ?_
      refine z_zret dX2_takeTool_55 rfl rfl ?_
      exact Or.inr ⟨by omega, rfl, hJ, g_Fr.rf⟩
    · refine g_iload_n (q := 17) dX2_takeTool_16 rfl rfl ?_
      refine g_callSN (As := [.int (iZ y)]) (rest := []) (q := 20) moX8_isFlag lkX2_takeTool_58 dX2_takeTool_17 (r_isFlag σ y (by omega)) rfl rfl (Nat.le_of_ble_eq_true rfl) (Nat.le_of_ble_eq_true rfl) (Nat.le_of_ble_eq_true rfl) rfl ?_
      rintro rQ sQ hpQ
      rw [hpQ.1, hpQ.2]
      show Go w mX2_takeTool (0, 0) 20 [some (.ref j), some (.int (iZ u)), some (.int (iZ v)), some (.int (iZ y)), some (.int (iZ z)), none] [.int (bI (y = 0 ∨ y = 1))] σ (fun r σ' => (((R 0 ≠ 0 ∧ R 2 < 6) ∧ (1 ≤ u ∧ u ≤ 6) ∧ (1 ≤ v ∧ v ≤ 6) ∧ (0 ≤ y ∧ y ≤ 1) ∧ (1 ≤ z ∧ z ≤ 99)) ∧ r = some (.int (iZ 1)) ∧ rJob j (zup (zup (zup (zup (zup R 2 (R 2 + 1)) (4 * R 2 + 5) u) (4 * R 2 + 6) v) (4 * R 2 + 7) y) (4 * R 2 + 8) z) σ' ∧ g_Fr (pJ j) σ σ') ∨ (¬ ((R 0 ≠ 0 ∧ R 2 < 6) ∧ (1 ≤ u ∧ u ≤ 6) ∧ (1 ≤ v ∧ v ≤ 6) ∧ (0 ≤ y ∧ y ≤ 1) ∧ (1 ≤ z ∧ z ≤ 99)) ∧ r = some (.int (iZ 0)) ∧ rJob j R σ' ∧ g_Fr (pJ j) σ σ'))
      refine z_ifB_eq (t := 54) (q := 23) dX2_takeTool_20 rfl rfl (fun pc3 => ?_) (fun pc3 => ?_)
      · refine z_iconst (q := 55) dX2_takeTool_54 rfl ?_
        refine z_zret dX2_takeTool_55 rfl rfl ?_
        exact Or.inr ⟨by omega, rfl, hJ, g_Fr.rf⟩
      · refine g_iload_n (q := 24) dX2_takeTool_23 rfl rfl ?_
        refine z_iconst (q := 25) dX2_takeTool_24 rfl ?_
        refine g_bipush (v := iZ 6) (q := 27) dX2_takeTool_25 (by decide) rfl ?_
        refine g_callSN (As := [.int (iZ u), .int (iZ 1), .int (iZ 6)]) (rest := []) (q := 30) moX8_isWithin lkX2_takeTool_54 dX2_takeTool_27 (r_isWithin σ u 1 6 (by omega) (by omega) (by omega)) rfl rfl (Nat.le_of_ble_eq_true rfl) (Nat.le_of_ble_eq_true rfl) (Nat.le_of_ble_eq_true rfl) rfl ?_
        rintro rQ sQ hpQ
        rw [hpQ.1, hpQ.2]
        show Go w mX2_takeTool (0, 0) 30 [some (.ref j), some (.int (iZ u)), some (.int (iZ v)), some (.int (iZ y)), some (.int (iZ z)), none] [.int (bI (1 ≤ u ∧ u ≤ 6))] σ (fun r σ' => (((R 0 ≠ 0 ∧ R 2 < 6) ∧ (1 ≤ u ∧ u ≤ 6) ∧ (1 ≤ v ∧ v ≤ 6) ∧ (0 ≤ y ∧ y ≤ 1) ∧ (1 ≤ z ∧ z ≤ 99)) ∧ r = some (.int (iZ 1)) ∧ rJob j (zup (zup (zup (zup (zup R 2 (R 2 + 1)) (4 * R 2 + 5) u) (4 * R 2 + 6) v) (4 * R 2 + 7) y) (4 * R 2 + 8) z) σ' ∧ g_Fr (pJ j) σ σ') ∨ (¬ ((R 0 ≠ 0 ∧ R 2 < 6) ∧ (1 ≤ u ∧ u ≤ 6) ∧ (1 ≤ v ∧ v ≤ 6) ∧ (0 ≤ y ∧ y ≤ 1) ∧ (1 ≤ z ∧ z ≤ 99)) ∧ r = some (.int (iZ 0)) ∧ rJob j R σ' ∧ g_Fr (pJ j) σ σ'))
        refine z_ifB_eq (t := 54) (q := 33) dX2_takeTool_30 rfl rfl (fun pc4 => ?_) (fun pc4 => ?_)
        · refine z_iconst (q := 55) dX2_takeTool_54 rfl ?_
          refine z_zret dX2_takeTool_55 rfl rfl ?_
          exact Or.inr ⟨by omega, rfl, hJ, g_Fr.rf⟩
        · refine g_iload_n (q := 34) dX2_takeTool_33 rfl rfl ?_
          refine z_iconst (q := 35) dX2_takeTool_34 rfl ?_
          refine g_bipush (v := iZ 6) (q := 37) dX2_takeTool_35 (by decide) rfl ?_
          refine g_callSN (As := [.int (iZ v), .int (iZ 1), .int (iZ 6)]) (rest := []) (q := 40) moX8_isWithin lkX2_takeTool_54 dX2_takeTool_37 (r_isWithin σ v 1 6 (by omega) (by omega) (by omega)) rfl rfl (Nat.le_of_ble_eq_true rfl) (Nat.le_of_ble_eq_true rfl) (Nat.le_of_ble_eq_true rfl) rfl ?_
          rintro rQ sQ hpQ
          rw [hpQ.1, hpQ.2]
          show Go w mX2_takeTool (0, 0) 40 [some (.ref j), some (.int (iZ u)), some (.int (iZ v)), some (.int (iZ y)), some (.int (iZ z)), none] [.int (bI (1 ≤ v ∧ v ≤ 6))] σ (fun r σ' => (((R 0 ≠ 0 ∧ R 2 < 6) ∧ (1 ≤ u ∧ u ≤ 6) ∧ (1 ≤ v ∧ v ≤ 6) ∧ (0 ≤ y ∧ y ≤ 1) ∧ (1 ≤ z ∧ z ≤ 99)) ∧ r = some (.int (iZ 1)) ∧ rJob j (zup (zup (zup (zup (zup R 2 (R 2 + 1)) (4 * R 2 + 5) u) (4 * R 2 + 6) v) (4 * R 2 + 7) y) (4 * R 2 + 8) z) σ' ∧ g_Fr (pJ j) σ σ') ∨ (¬ ((R 0 ≠ 0 ∧ R 2 < 6) ∧ (1 ≤ u ∧ u ≤ 6) ∧ (1 ≤ v ∧ v ≤ 6) ∧ (0 ≤ y ∧ y ≤ 1) ∧ (1 ≤ z ∧ z ≤ 99)) ∧ r = some (.int (iZ 0)) ∧ rJob j R σ' ∧ g_Fr (pJ j) σ σ'))
          refine z_ifB_eq (t := 54) (q := 43) dX2_takeTool_40 rfl rfl (fun pc5 => ?_) (fun pc5 => ?_)
          · refine z_iconst (q := 55) dX2_takeTool_54 rfl ?_
            refine z_zret dX2_takeTool_55 rfl rfl ?_
            exact Or.inr ⟨by omega, rfl, hJ, g_Fr.rf⟩
          · refine g_iload (q := 45) dX2_takeTool_43 rfl rfl ?_
            refine z_iconst (q := 46) dX2_takeTool_45 rfl ?_
            refine g_bipush (v := iZ 99) (q := 48) dX2_takeTool_46 (by decide) rfl ?_
            refine g_callSN (As := [.int (iZ z), .int (iZ 1), .int (iZ 99)]) (rest := []) (q := 51) moX8_isWithin lkX2_takeTool_54 dX2_takeTool_48 (r_isWithin σ z 1 99 (by omega) (by omega) (by omega)) rfl rfl (Nat.le_of_ble_eq_true rfl) (Nat.le_of_ble_eq_true rfl) (Nat.le_of_ble_eq_true rfl) rfl ?_
            rintro rQ sQ hpQ
            rw [hpQ.1, hpQ.2]
            show Go w mX2_takeTool (0, 0) 51 [some (.ref j), some (.int (iZ u)), some (.int (iZ v)), some (.int (iZ y)), some (.int (iZ z)), none] [.int (bI (1 ≤ z ∧ z ≤ 99))] σ (fun r σ' => (((R 0 ≠ 0 ∧ R 2 < 6) ∧ (1 ≤ u ∧ u ≤ 6) ∧ (1 ≤ v ∧ v ≤ 6) ∧ (0 ≤ y ∧ y ≤ 1) ∧ (1 ≤ z ∧ z ≤ 99)) ∧ r = some (.int (iZ 1)) ∧ rJob j (zup (zup (zup (zup (zup R 2 (R 2 + 1)) (4 * R 2 + 5) u) (4 * R 2 + 6) v) (4 * R 2 + 7) y) (4 * R 2 + 8) z) σ' ∧ g_Fr (pJ j) σ σ') ∨ (¬ ((R 0 ≠ 0 ∧ R 2 < 6) ∧ (1 ≤ u ∧ u ≤ 6) ∧ (1 ≤ v ∧ v ≤ 6) ∧ (0 ≤ y ∧ y ≤ 1) ∧ (1 ≤ z ∧ z ≤ 99)) ∧ r = some (.int (iZ 0)) ∧ rJob j R σ' ∧ g_Fr (pJ j) σ σ'))
            refine z_ifB_ne (t := 56) (q := 54) dX2_takeTool_51 rfl rfl (fun pc6 => ?_) (fun pc6 => ?_)
            · refine g_aload_n (q := 57) dX2_takeTool_56 rfl rfl ?_
              refine g_get (q := 60) flX2_20 dX2_takeTool_57 j0 rfl rfl ?_
              refine g_aload_n (q := 61) dX2_takeTool_60 rfl rfl ?_
              refine g_get (q := 64) flX2_37 dX2_takeTool_61 j0 rfl rfl ?_
              obtain ⟨x1, x2, x3, x4, xq, -⟩ := j5 (R 2).toNat (by omega)
              refine z_aald (b := (j + 5 + (R 2).toNat)) (q := 65) dX2_takeTool_64 rfl j2 (by omega) (j2' (R 2).toNat (by omega)) rfl ?_
              refine g_astore (ml' := [some (.ref j), some (.int (iZ u)), some (.int (iZ v)), some (.int (iZ y)), some (.int (iZ z)), some (.ref (j + 5 + (R 2).toNat))]) (q := 67) dX2_takeTool_65 rfl (Nat.le_of_ble_eq_true rfl) rfl rfl ?_
              refine g_aload (q := 69) dX2_takeTool_67 rfl rfl ?_
              refine g_iload_n (q := 70) dX2_takeTool_69 rfl rfl ?_
              refine z_put (fs' := [.int (iZ u), .int (iZ x2), .int (iZ x3), .int (iZ x4)]) (q := 73) fpX2_62 dX2_takeTool_70 xq (Nat.le_of_ble_eq_true rfl) rfl rfl rfl rfl (fun σ7 c8 f9 => ?_)
              have c10 := (f9.2 j (by omega)).trans j0
              have c11 := (f9.2 (j + 1) (by omega)).trans j1
              have c12 := (f9.2 (j + 2) (by omega)).trans j2
              have c13 := (f9.2 (j + 3) (by omega)).trans j3
              have c14 := (f9.2 (j + 4) (by omega)).trans j4
              refine g_aload (q := 75) dX2_takeTool_73 rfl rfl ?_
              refine g_iload_n (q := 76) dX2_takeTool_75 rfl rfl ?_
              refine z_put (fs' := [.int (iZ u), .int (iZ v), .int (iZ x3), .int (iZ x4)]) (q := 79) fpX2_63 dX2_takeTool_76 c8 (Nat.le_of_ble_eq_true rfl) rfl rfl rfl rfl (fun σ15 c16 f17 => ?_)
              have c18 := (f17.2 j (by omega)).trans c10
              have c19 := (f17.2 (j + 1) (by omega)).trans c11
              have c20 := (f17.2 (j + 2) (by omega)).trans c12
              have c21 := (f17.2 (j + 3) (by omega)).trans c13
              have c22 := (f17.2 (j + 4) (by omega)).trans c14
              refine g_aload (q := 81) dX2_takeTool_79 rfl rfl ?_
              refine g_iload_n (q := 82) dX2_takeTool_81 rfl rfl ?_
              refine z_iconst (q := 83) dX2_takeTool_82 rfl ?_
              refine z_icmp_ne (t := 90) (q := 86) dX2_takeTool_83 rfl (by omega) rfl (fun pc23 => ?_) (fun pc23 => ?_)
              · refine z_iconst (q := 91) dX2_takeTool_90 rfl ?_
                refine z_put (fs' := [.int (iZ u), .int (iZ v), .int (iZ x3), .int (iZ 0)]) (q := 94) fpX2_66 dX2_takeTool_91 c16 (Nat.le_of_ble_eq_true rfl) rfl rfl rfl rfl (fun σ24 c25 f26 => ?_)
                have c27 := (f26.2 j (by omega)).trans c18
                have c28 := (f26.2 (j + 1) (by omega)).trans c19
                have c29 := (f26.2 (j + 2) (by omega)).trans c20
                have c30 := (f26.2 (j + 3) (by omega)).trans c21
                have c31 := (f26.2 (j + 4) (by omega)).trans c22
                refine g_aload (q := 96) dX2_takeTool_94 rfl rfl ?_
                refine g_iload (q := 98) dX2_takeTool_96 rfl rfl ?_
                refine z_put (fs' := [.int (iZ u), .int (iZ v), .int (iZ z), .int (iZ 0)]) (q := 101) fpX2_70 dX2_takeTool_98 c25 (Nat.le_of_ble_eq_true rfl) rfl rfl rfl rfl (fun σ32 c33 f34 => ?_)
                have c35 := (f34.2 j (by omega)).trans c27
                have c36 := (f34.2 (j + 1) (by omega)).trans c28
                have c37 := (f34.2 (j + 2) (by omega)).trans c29
                have c38 := (f34.2 (j + 3) (by omega)).trans c30
                have c39 := (f34.2 (j + 4) (by omega)).trans c31
                refine g_aload_n (q := 102) dX2_takeTool_101 rfl rfl ?_
                refine g_dup (q := 103) dX2_takeTool_102 rfl rfl ?_
                refine g_get (q := 106) flX2_37 dX2_takeTool_103 c35 rfl rfl ?_
                refine z_iconst (q := 107) dX2_takeTool_106 rfl ?_
                refine z_iadd (q := 108) dX2_takeTool_107 rfl ?_
                refine z_put (fs' := [.ref (j + 1), .ref (j + 2), .ref (j + 3), .ref (j + 4), .int (iZ ((R 2) + 1)), .int (iZ (R 3)), .int (iZ (R 4))]) (q := 111) fpX2_37 dX2_takeTool_108 c35 (Nat.le_of_ble_eq_true rfl) rfl rfl rfl rfl (fun σ40 c41 f42 => ?_)
                have c43 := (f42.2 (j + 1) (by omega)).trans c36
                have c44 := (f42.2 (j + 2) (by omega)).trans c37
                have c45 := (f42.2 (j + 3) (by omega)).trans c38
                have c46 := (f42.2 (j + 4) (by omega)).trans c39
                have c47 := (f42.2 (j + 5 + (R 2).toNat) (by omega)).trans c33
                refine z_iconst (q := 112) dX2_takeTool_111 rfl ?_
                refine z_zret dX2_takeTool_112 rfl rfl ?_
                obtain rfl : y = 0 := by omega
                exact Or.inl ⟨by omega, rfl, hJ.addTool (by omega) c41 c47 (fun k k0 k1 => ((f42.2 k (by omega)).trans ((f34.2 k (by omega)).trans ((f26.2 k (by omega)).trans ((f17.2 k (by omega)).trans (f9.2 k (by omega))))))), (((((g_Fr.rf.tr (f9.wk (fun k e => ⟨by omega, by omega⟩))).tr (f17.wk (fun k e => ⟨by omega, by omega⟩))).tr (f26.wk (fun k e => ⟨by omega, by omega⟩))).tr (f34.wk (fun k e => ⟨by omega, by omega⟩))).tr (f42.wk (fun k e => ⟨by omega, by omega⟩)))⟩
              · refine z_iconst (q := 87) dX2_takeTool_86 rfl ?_
                refine g_goto (q := 91) dX2_takeTool_87 rfl ?_
                refine z_put (fs' := [.int (iZ u), .int (iZ v), .int (iZ x3), .int (iZ 1)]) (q := 94) fpX2_66 dX2_takeTool_91 c16 (Nat.le_of_ble_eq_true rfl) rfl rfl rfl rfl (fun σ48 c49 f50 => ?_)
                have c51 := (f50.2 j (by omega)).trans c18
                have c52 := (f50.2 (j + 1) (by omega)).trans c19
                have c53 := (f50.2 (j + 2) (by omega)).trans c20
                have c54 := (f50.2 (j + 3) (by omega)).trans c21
                have c55 := (f50.2 (j + 4) (by omega)).trans c22
                refine g_aload (q := 96) dX2_takeTool_94 rfl rfl ?_
                refine g_iload (q := 98) dX2_takeTool_96 rfl rfl ?_
                refine z_put (fs' := [.int (iZ u), .int (iZ v), .int (iZ z), .int (iZ 1)]) (q := 101) fpX2_70 dX2_takeTool_98 c49 (Nat.le_of_ble_eq_true rfl) rfl rfl rfl rfl (fun σ56 c57 f58 => ?_)
                have c59 := (f58.2 j (by omega)).trans c51
                have c60 := (f58.2 (j + 1) (by omega)).trans c52
                have c61 := (f58.2 (j + 2) (by omega)).trans c53
                have c62 := (f58.2 (j + 3) (by omega)).trans c54
                have c63 := (f58.2 (j + 4) (by omega)).trans c55
                refine g_aload_n (q := 102) dX2_takeTool_101 rfl rfl ?_
                refine g_dup (q := 103) dX2_takeTool_102 rfl rfl ?_
                refine g_get (q := 106) flX2_37 dX2_takeTool_103 c59 rfl rfl ?_
                refine z_iconst (q := 107) dX2_takeTool_106 rfl ?_
                refine z_iadd (q := 108) dX2_takeTool_107 rfl ?_
                refine z_put (fs' := [.ref (j + 1), .ref (j + 2), .ref (j + 3), .ref (j + 4), .int (iZ ((R 2) + 1)), .int (iZ (R 3)), .int (iZ (R 4))]) (q := 111) fpX2_37 dX2_takeTool_108 c59 (Nat.le_of_ble_eq_true rfl) rfl rfl rfl rfl (fun σ64 c65 f66 => ?_)
                have c67 := (f66.2 (j + 1) (by omega)).trans c60
                have c68 := (f66.2 (j + 2) (by omega)).trans c61
                have c69 := (f66.2 (j + 3) (by omega)).trans c62
                have c70 := (f66.2 (j + 4) (by omega)).trans c63
                have c71 := (f66.2 (j + 5 + (R 2).toNat) (by omega)).trans c57
                refine z_iconst (q := 112) dX2_takeTool_111 rfl ?_
                refine z_zret dX2_takeTool_112 rfl rfl ?_
                obtain rfl : y = 1 := by omega
                exact Or.inl ⟨by omega, rfl, hJ.addTool (by omega) c65 c71 (fun k k0 k1 => ((f66.2 k (by omega)).trans ((f58.2 k (by omega)).trans ((f50.2 k (by omega)).trans ((f17.2 k (by omega)).trans (f9.2 k (by omega))))))), (((((g_Fr.rf.tr (f9.wk (fun k e => ⟨by omega, by omega⟩))).tr (f17.wk (fun k e => ⟨by omega, by omega⟩))).tr (f50.wk (fun k e => ⟨by omega, by omega⟩))).tr (f58.wk (fun k e => ⟨by omega, by omega⟩))).tr (f66.wk (fun k e => ⟨by omega, by omega⟩)))⟩
            · refine z_iconst (q := 55) dX2_takeTool_54 rfl ?_
              refine z_zret dX2_takeTool_55 rfl rfl ?_
              exact Or.inr ⟨by omega, rfl, hJ, g_Fr.rf⟩
/-- whether HOLES from k on meet these CELLS -/
def cMeetF (R : Int → Int) (u v y z : Int) : Nat → Int → Int
  | 0, _ => 0
  | n + 1, k => if u < R (4 * k + 29) + R (4 * k + 31) ∧ R (4 * k + 29) < u + y ∧ v < R (4 * k + 30) + R (4 * k + 32) ∧ R (4 * k + 30) < v + z then 1 else cMeetF R u v y z n (k + 1)
theorem l_takeHole (w : g_W) (σ0 : g_H0) (j : Nat) (R : Int → Int) (hJ0 : rJob j R σ0) (hP : pR R) (u v y z : Int) (b_u : 0 ≤ u ∧ u ≤ 99) (b_v : 0 ≤ v ∧ v ≤ 99) (b_y : 0 ≤ y ∧ y ≤ 99) (b_z : 0 ≤ z ∧ z ≤ 99) (hc : (R 0 ≠ 0 ∧ R 3 < 5) ∧ (1 ≤ y ∧ 1 ≤ z) ∧ (u + y ≤ R 0 ∧ v + z ≤ R 1)) (σ : g_H0) (hA : σ[j + 11 + (R 3).toNat]? = some (.inr (0, [.int (iZ u), .int (iZ v), .int (iZ y), .int (iZ z)]))) (hF : g_Fr (fun k => k = j + 11 + (R 3).toNat) σ0 σ) : ∀ (n : Nat) (k : Int), 0 ≤ k → k + n = R 3 → cMeetF R u v y z (R 3).toNat 0 = cMeetF R u v y z n k → Go w mX2_takeHole (0, 0) 66 [some (.ref j), some (.int (iZ u)), some (.int (iZ v)), some (.int (iZ y)), some (.int (iZ z)), some (.ref (j + 11 + (R 3).toNat)), some (.int (iZ k))] [] σ (fun r σ' => (((R 0 ≠ 0 ∧ R 3 < 5) ∧ (1 ≤ y ∧ 1 ≤ z) ∧ (u + y ≤ R 0 ∧ v + z ≤ R 1) ∧ cMeetF R u v y z (R 3).toNat 0 = 0) ∧ r = some (.int (iZ 1)) ∧ rJob j (zup (zup (zup (zup (zup R 3 (R 3 + 1)) (4 * R 3 + 29) u) (4 * R 3 + 30) v) (4 * R 3 + 31) y) (4 * R 3 + 32) z) σ' ∧ g_Fr (pJ j) σ0 σ') ∨ (¬ ((R 0 ≠ 0 ∧ R 3 < 5) ∧ (1 ≤ y ∧ 1 ≤ z) ∧ (u + y ≤ R 0 ∧ v + z ≤ R 1) ∧ cMeetF R u v y z (R 3).toNat 0 = 0) ∧ r = some (.int (iZ 0)) ∧ rJob j R σ' ∧ g_Fr (pJ j) σ0 σ')) := by
  intro n
  induction n with
  | zero =>
    intro k k0 k1 hm
    have hJ : rJob j R σ := hJ0.putHole (by omega) hA (fun k e => hF.2 k e)
    obtain ⟨j0, j1, ⟨jf, j2, j2'⟩, ⟨jg, j3, j3'⟩, ⟨jC, j4, j4'⟩, j5, j6⟩ := id hJ
    obtain ⟨bR, r01, r2, r3, r4, rt, rh, rap, rcl, rc2⟩ := id hP
    refine g_iload (q := 68) dX2_takeHole_66 rfl rfl ?_
    refine g_aload_n (q := 69) dX2_takeHole_68 rfl rfl ?_
    refine g_get (q := 72) flX2_41 dX2_takeHole_69 j0 rfl rfl ?_
    refine z_icmp_ge (t := 98) (q := 75) dX2_takeHole_72 rfl (by omega) rfl (fun pc1 => ?_) (fun pc1 => ?_)
    · refine g_aload_n (q := 99) dX2_takeHole_98 rfl rfl ?_
      refine g_dup (q := 100) dX2_takeHole_99 rfl rfl ?_
      refine g_get (q := 103) flX2_41 dX2_takeHole_100 j0 rfl rfl ?_
      refine z_iconst (q := 104) dX2_takeHole_103 rfl ?_
      refine z_iadd (q := 105) dX2_takeHole_104 rfl ?_
      refine z_put (fs' := [.ref (j + 1), .ref (j + 2), .ref (j + 3), .ref (j + 4), .int (iZ (R 2)), .int (iZ ((R 3) + 1)), .int (iZ (R 4))]) (q := 108) fpX2_41 dX2_takeHole_105 j0 (Nat.le_of_ble_eq_true rfl) rfl rfl rfl rfl (fun σ2 c3 f4 => ?_)
      have c5 := (f4.2 (j + 1) (by omega)).trans j1
      have c6 := (f4.2 (j + 2) (by omega)).trans j2
      have c7 := (f4.2 (j + 3) (by omega)).trans j3
      have c8 := (f4.2 (j + 4) (by omega)).trans j4
      have c9 := (f4.2 (j + 11 + (R 3).toNat) (by omega)).trans hA
      refine z_iconst (q := 109) dX2_takeHole_108 rfl ?_
      refine z_zret dX2_takeHole_109 rfl rfl ?_
      refine Or.inl ⟨⟨by omega, by omega, by omega, by rw [hm]; rfl⟩, rfl, hJ0.addHole (by omega) c3 c9 (fun k k0 k1 => (f4.2 k (by omega)).trans (hF.2 k k1)), (hF.wk (fun k e => ⟨by omega, by omega⟩)).tr (f4.wk (fun k e => ⟨by omega, by omega⟩))⟩
    · exfalso
      omega
  | succ n ih =>
    intro k k0 k1 hm
    have hJ : rJob j R σ := hJ0.putHole (by omega) hA (fun k e => hF.2 k e)
    obtain ⟨j0, j1, ⟨jf, j2, j2'⟩, ⟨jg, j3, j3'⟩, ⟨jC, j4, j4'⟩, j5, j6⟩ := id hJ
    obtain ⟨bR, r01, r2, r3, r4, rt, rh, rap, rcl, rc2⟩ := id hP
    refine g_iload (q := 68) dX2_takeHole_66 rfl rfl ?_
    refine g_aload_n (q := 69) dX2_takeHole_68 rfl rfl ?_
    refine g_get (q := 72) flX2_41 dX2_takeHole_69 j0 rfl rfl ?_
    refine z_icmp_ge (t := 98) (q := 75) dX2_takeHole_72 rfl (by omega) rfl (fun pc1 => ?_) (fun pc1 => ?_)
    · exfalso
      omega
    · refine g_aload_n (q := 76) dX2_takeHole_75 rfl rfl ?_
      refine g_get (q := 79) flX2_24 dX2_takeHole_76 j0 rfl rfl ?_
      refine g_iload (q := 81) dX2_takeHole_79 rfl rfl ?_
      obtain ⟨f1, e1, g1, k1⟩ := hJ.hole (s := k) (by omega) (by omega) (by omega)
      have q1 := rh k (by omega) (by omega)
      have q2 := bR (4 * k + 29) (by omega) (by omega)
      have q3 := bR (4 * k + 30) (by omega) (by omega)
      have q4 := bR (4 * k + 31) (by omega) (by omega)
      have q5 := bR (4 * k + 32) (by omega) (by omega)
      refine z_aald (b := (j + 11 + k.toNat)) (q := 82) dX2_takeHole_81 rfl e1 (by omega) g1 rfl ?_
      refine g_aload (q := 84) dX2_takeHole_82 rfl rfl ?_
      refine g_callV (As := [.ref (j + 11 + (R 3).toNat)]) (rest := []) (q := 87) moX0_meets lkX2_takeHole_77 dX2_takeHole_84 rfl k1 (r_meets σ (j + 11 + k.toNat) (j + 11 + (R 3).toNat) (R (4 * k + 29)) (R (4 * k + 30)) (R (4 * k + 31)) (R (4 * k + 32)) u v y z k1 hA (by omega) (by omega) (by omega) (by omega) (by omega) (by omega) (by omega) (by omega)) rfl rfl (Nat.le_of_ble_eq_true rfl) (Nat.le_of_ble_eq_true rfl) (Nat.le_of_ble_eq_true rfl) rfl ?_
      rintro rQ sQ hpQ
      rw [hpQ.1, hpQ.2]
      show Go w mX2_takeHole (0, 0) 87 [some (.ref j), some (.int (iZ u)), some (.int (iZ v)), some (.int (iZ y)), some (.int (iZ z)), some (.ref (j + 11 + (R 3).toNat)), some (.int (iZ k))] [.int (bI (u < (R (4 * k + 29)) + (R (4 * k + 31)) ∧ (R (4 * k + 29)) < u + y ∧ v < (R (4 * k + 30)) + (R (4 * k + 32)) ∧ (R (4 * k + 30)) < v + z))] σ (fun r σ' => (((R 0 ≠ 0 ∧ R 3 < 5) ∧ (1 ≤ y ∧ 1 ≤ z) ∧ (u + y ≤ R 0 ∧ v + z ≤ R 1) ∧ cMeetF R u v y z (R 3).toNat 0 = 0) ∧ r = some (.int (iZ 1)) ∧ rJob j (zup (zup (zup (zup (zup R 3 (R 3 + 1)) (4 * R 3 + 29) u) (4 * R 3 + 30) v) (4 * R 3 + 31) y) (4 * R 3 + 32) z) σ' ∧ g_Fr (pJ j) σ0 σ') ∨ (¬ ((R 0 ≠ 0 ∧ R 3 < 5) ∧ (1 ≤ y ∧ 1 ≤ z) ∧ (u + y ≤ R 0 ∧ v + z ≤ R 1) ∧ cMeetF R u v y z (R 3).toNat 0 = 0) ∧ r = some (.int (iZ 0)) ∧ rJob j R σ' ∧ g_Fr (pJ j) σ0 σ'))
      refine z_ifB_eq (t := 92) (q := 90) dX2_takeHole_87 rfl rfl (fun pc2 => ?_) (fun pc2 => ?_)
      · refine z_iincc (c := (k + 1)) (ml' := [some (.ref j), some (.int (iZ u)), some (.int (iZ v)), some (.int (iZ y)), some (.int (iZ z)), some (.ref (j + 11 + (R 3).toNat)), some (.int (iZ (k + 1)))]) (q := 95) dX2_takeHole_92 rfl (by omega) rfl rfl rfl ?_
        refine g_goto (q := 66) dX2_takeHole_95 rfl ?_
        exact ih (k + 1) (by omega) (by omega) (by rw [hm]; conv => lhs; unfold cMeetF; rw [if_neg (by omega)])
      · refine z_iconst (q := 91) dX2_takeHole_90 rfl ?_
        refine z_zret dX2_takeHole_91 rfl rfl ?_
        refine Or.inr ⟨fun q => ?_, rfl, hJ, hF.wk (fun k e => ⟨by omega, by omega⟩)⟩
        have q2 := q.2.2.2
        rw [hm] at q2; unfold cMeetF at q2; rw [if_pos (by omega)] at q2; omega
theorem r_takeHole (σ : g_H0) (j : Nat) (R : Int → Int) (hJ : rJob j R σ) (hP : pR R) (u v y z : Int) (b_u : 0 ≤ u ∧ u ≤ 99) (b_v : 0 ≤ v ∧ v ≤ 99) (b_y : 0 ≤ y ∧ y ≤ 99) (b_z : 0 ≤ z ∧ z ≤ 99) : Ret mX2_takeHole [.ref j, .int (iZ u), .int (iZ v), .int (iZ y), .int (iZ z)] σ (fun r σ' => (((R 0 ≠ 0 ∧ R 3 < 5) ∧ (1 ≤ y ∧ 1 ≤ z) ∧ (u + y ≤ R 0 ∧ v + z ≤ R 1) ∧ cMeetF R u v y z (R 3).toNat 0 = 0) ∧ r = some (.int (iZ 1)) ∧ rJob j (zup (zup (zup (zup (zup R 3 (R 3 + 1)) (4 * R 3 + 29) u) (4 * R 3 + 30) v) (4 * R 3 + 31) y) (4 * R 3 + 32) z) σ' ∧ g_Fr (pJ j) σ σ') ∨ (¬ ((R 0 ≠ 0 ∧ R 3 < 5) ∧ (1 ≤ y ∧ 1 ≤ z) ∧ (u + y ≤ R 0 ∧ v + z ≤ R 1) ∧ cMeetF R u v y z (R 3).toNat 0 = 0) ∧ r = some (.int (iZ 0)) ∧ rJob j R σ' ∧ g_Fr (pJ j) σ σ')) := by
  refine Ret.of moX2_takeHole.1 (Nat.le_of_ble_eq_true rfl) (fun w => ?_)
  obtain ⟨j0, j1, ⟨jf, j2, j2'⟩, ⟨jg, j3, j3'⟩, ⟨jC, j4, j4'⟩, j5, j6⟩ := id hJ
  obtain ⟨bR, r01, r2, r3, r4, rt, rh, rap, rcl, rc2⟩ := id hP
  show Go w mX2_takeHole (0, 0) 0 [some (.ref j), some (.int (iZ u)), some (.int (iZ v)), some (.int (iZ y)), some (.int (iZ z)), none, none] [] σ (fun r σ' => (((R 0 ≠ 0 ∧ R 3 < 5) ∧ (1 ≤ y ∧ 1 ≤ z) ∧ (u + y ≤ R 0 ∧ v + z ≤ R 1) ∧ cMeetF R u v y z (R 3).toNat 0 = 0) ∧ r = some (.int (iZ 1)) ∧ rJob j (zup (zup (zup (zup (zup R 3 (R 3 + 1)) (4 * R 3 + 29) u) (4 * R 3 + 30) v) (4 * R 3 + 31) y) (4 * R 3 + 32) z) σ' ∧ g_Fr (pJ j) σ σ') ∨ (¬ ((R 0 ≠ 0 ∧ R 3 < 5) ∧ (1 ≤ y ∧ 1 ≤ z) ∧ (u + y ≤ R 0 ∧ v + z ≤ R 1) ∧ cMeetF R u v y z (R 3).toNat 0 = 0) ∧ r = some (.int (iZ 0)) ∧ rJob j R σ' ∧ g_Fr (pJ j) σ σ'))
  refine g_aload_n (q := 1) dX2_takeHole_0 rfl rfl ?_
  refine g_callV (As := []) (rest := []) (q := 4) moX2_hasSheet lkX2_takeHole_50 dX2_takeHole_1 rfl j0 (r_hasSheet σ j R hJ hP) rfl rfl (Nat.le_of_ble_eq_true rfl) (Nat.le_of_ble_eq_true rfl) (Nat.le_of_ble_eq_true rfl) rfl ?_
  rintro rQ sQ hpQ
  rw [hpQ.1, hpQ.2]
  show Go w mX2_takeHole (0, 0) 4 [some (.ref j), some (.int (iZ u)), some (.int (iZ v)), some (.int (iZ y)), some (.int (iZ z)), none, none] [.int (bI (R 0 ≠ 0))] σ (fun r σ' => (((R 0 ≠ 0 ∧ R 3 < 5) ∧ (1 ≤ y ∧ 1 ≤ z) ∧ (u + y ≤ R 0 ∧ v + z ≤ R 1) ∧ cMeetF R u v y z (R 3).toNat 0 = 0) ∧ r = some (.int (iZ 1)) ∧ rJob j (zup (zup (zup (zup (zup R 3 (R 3 + 1)) (4 * R 3 + 29) u) (4 * R 3 + 30) v) (4 * R 3 + 31) y) (4 * R 3 + 32) z) σ' ∧ g_Fr (pJ j) σ σ') ∨ (¬ ((R 0 ≠ 0 ∧ R 3 < 5) ∧ (1 ≤ y ∧ 1 ≤ z) ∧ (u + y ≤ R 0 ∧ v + z ≤ R 1) ∧ cMeetF R u v y z (R 3).toNat 0 = 0) ∧ r = some (.int (iZ 0)) ∧ rJob j R σ' ∧ g_Fr (pJ j) σ σ'))
  refine z_ifB_eq (t := 26) (q := 7) dX2_takeHole_4 rfl rfl (fun pc1 => ?_) (fun pc1 => ?_)
  · refine z_iconst (q := 27) dX2_takeHole_26 rfl ?_
    refine z_zret dX2_takeHole_27 rfl rfl ?_
    exact Or.inr ⟨by omega, rfl, hJ, g_Fr.rf⟩
  · refine g_aload_n (q := 8) dX2_takeHole_7 rfl rfl ?_
    refine g_get (q := 11) flX2_41 dX2_takeHole_8 j0 rfl rfl ?_
    refine z_iconst (q := 12) dX2_takeHole_11 rfl ?_
    refine z_icmp_ge (t := 26) (q := 15) dX2_takeHole_12 rfl (by omega) rfl (fun pc2 => ?_) (fun pc2 => ?_)
    · refine z_iconst (q := 27) dX2_takeHole_26 rfl ?_
      refine z_zret dX2_takeHole_27 rfl rfl ?_
      exact Or.inr ⟨by omega, rfl, hJ, g_Fr.rf⟩
    · refine g_iload_n (q := 16) dX2_takeHole_15 rfl rfl ?_
      refine z_iconst (q := 17) dX2_takeHole_16 rfl ?_
      refine z_icmp_lt (t := 26) (q := 20) dX2_takeHole_17 rfl (by omega) rfl (fun pc3 => ?_) (fun pc3 => ?_)
      · refine z_iconst (q := 27) dX2_takeHole_26 rfl ?_
        refine z_zret dX2_takeHole_27 rfl rfl ?_
        exact Or.inr ⟨by omega, rfl, hJ, g_Fr.rf⟩
      · refine g_iload (q := 22) dX2_takeHole_20 rfl rfl ?_
        refine z_iconst (q := 23) dX2_takeHole_22 rfl ?_
        refine z_icmp_ge (t := 28) (q := 26) dX2_takeHole_23 rfl (by omega) rfl (fun pc4 => ?_) (fun pc4 => ?_)
        · refine g_aload_n (q := 29) dX2_takeHole_28 rfl rfl ?_
          refine g_get (q := 32) flX2_24 dX2_takeHole_29 j0 rfl rfl ?_
          refine g_aload_n (q := 33) dX2_takeHole_32 rfl rfl ?_
          refine g_get (q := 36) flX2_41 dX2_takeHole_33 j0 rfl rfl ?_
          obtain ⟨x1, x2, x3, x4, xq, -⟩ := j6 (R 3).toNat (by omega)
          refine z_aald (b := (j + 11 + (R 3).toNat)) (q := 37) dX2_takeHole_36 rfl j3 (by omega) (j3' (R 3).toNat (by omega)) rfl ?_
          refine g_astore (ml' := [some (.ref j), some (.int (iZ u)), some (.int (iZ v)), some (.int (iZ y)), some (.int (iZ z)), some (.ref (j + 11 + (R 3).toNat)), none]) (q := 39) dX2_takeHole_37 rfl (Nat.le_of_ble_eq_true rfl) rfl rfl ?_
          refine g_aload (q := 41) dX2_takeHole_39 rfl rfl ?_
          refine g_iload_n (q := 42) dX2_takeHole_41 rfl rfl ?_
          refine g_iload_n (q := 43) dX2_takeHole_42 rfl rfl ?_
          refine g_iload_n (q := 44) dX2_takeHole_43 rfl rfl ?_
          refine g_iload (q := 46) dX2_takeHole_44 rfl rfl ?_
          refine g_callV (As := [.int (iZ u), .int (iZ v), .int (iZ y), .int (iZ z)]) (rest := []) (q := 49) moX0_put lkX2_takeHole_33 dX2_takeHole_46 rfl xq (r_put σ (j + 11 + (R 3).toNat) x1 x2 x3 x4 u v y z xq) rfl rfl (Nat.le_of_ble_eq_true rfl) (Nat.le_of_ble_eq_true rfl) (Nat.le_of_ble_eq_true rfl) rfl ?_
          rintro rp5 σ5 ⟨rfl, hp5, fp5⟩
          have c6 := (fp5.2 j (by omega)).trans j0
          have c7 := (fp5.2 (j + 1) (by omega)).trans j1
          have c8 := (fp5.2 (j + 2) (by omega)).trans j2
          have c9 := (fp5.2 (j + 3) (by omega)).trans j3
          have c10 := (fp5.2 (j + 4) (by omega)).trans j4
          show Go w mX2_takeHole (0, 0) 49 [some (.ref j), some (.int (iZ u)), some (.int (iZ v)), some (.int (iZ y)), some (.int (iZ z)), some (.ref (j + 11 + (R 3).toNat)), none] [] σ5 (fun r σ' => (((R 0 ≠ 0 ∧ R 3 < 5) ∧ (1 ≤ y ∧ 1 ≤ z) ∧ (u + y ≤ R 0 ∧ v + z ≤ R 1) ∧ cMeetF R u v y z (R 3).toNat 0 = 0) ∧ r = some (.int (iZ 1)) ∧ rJob j (zup (zup (zup (zup (zup R 3 (R 3 + 1)) (4 * R 3 + 29) u) (4 * R 3 + 30) v) (4 * R 3 + 31) y) (4 * R 3 + 32) z) σ' ∧ g_Fr (pJ j) σ σ') ∨ (¬ ((R 0 ≠ 0 ∧ R 3 < 5) ∧ (1 ≤ y ∧ 1 ≤ z) ∧ (u + y ≤ R 0 ∧ v + z ≤ R 1) ∧ cMeetF R u v y z (R 3).toNat 0 = 0) ∧ r = some (.int (iZ 0)) ∧ rJob j R σ' ∧ g_Fr (pJ j) σ σ'))
          refine g_aload_n (q := 50) dX2_takeHole_49 rfl rfl ?_
          refine g_get (q := 53) flX2_12 dX2_takeHole_50 c6 rfl rfl ?_
          refine g_aload (q := 55) dX2_takeHole_53 rfl rfl ?_
          refine g_callV (As := [.ref (j + 11 + (R 3).toNat)]) (rest := []) (q := 58) moX0_covers lkX2_takeHole_73 dX2_takeHole_55 rfl c7 (r_covers σ5 (j + 1) (j + 11 + (R 3).toNat) 0 0 (R 0) (R 1) u v y z c7 hp5 (by omega) (by omega) (by omega) (by omega) (by omega) (by omega) (by omega) (by omega)) rfl rfl (Nat.le_of_ble_eq_true rfl) (Nat.le_of_ble_eq_true rfl) (Nat.le_of_ble_eq_true rfl) rfl ?_
          rintro rQ sQ hpQ
          rw [hpQ.1, hpQ.2]
          show Go w mX2_takeHole (0, 0) 58 [some (.ref j), some (.int (iZ u)), some (.int (iZ v)), some (.int (iZ y)), some (.int (iZ z)), some (.ref (j + 11 + (R 3).toNat)), none] [.int (bI (0 ≤ u ∧ u + y ≤ 0 + (R 0) ∧ 0 ≤ v ∧ v + z ≤ 0 + (R 1)))] σ5 (fun r σ' => (((R 0 ≠ 0 ∧ R 3 < 5) ∧ (1 ≤ y ∧ 1 ≤ z) ∧ (u + y ≤ R 0 ∧ v + z ≤ R 1) ∧ cMeetF R u v y z (R 3).toNat 0 = 0) ∧ r = some (.int (iZ 1)) ∧ rJob j (zup (zup (zup (zup (zup R 3 (R 3 + 1)) (4 * R 3 + 29) u) (4 * R 3 + 30) v) (4 * R 3 + 31) y) (4 * R 3 + 32) z) σ' ∧ g_Fr (pJ j) σ σ') ∨ (¬ ((R 0 ≠ 0 ∧ R 3 < 5) ∧ (1 ≤ y ∧ 1 ≤ z) ∧ (u + y ≤ R 0 ∧ v + z ≤ R 1) ∧ cMeetF R u v y z (R 3).toNat 0 = 0) ∧ r = some (.int (iZ 0)) ∧ rJob j R σ' ∧ g_Fr (pJ j) σ σ'))
          refine z_ifB_ne (t := 63) (q := 61) dX2_takeHole_58 rfl rfl (fun pc11 => ?_) (fun pc11 => ?_)
          · refine z_iconst (q := 64) dX2_takeHole_63 rfl ?_
            refine g_istore (ml' := [some (.ref j), some (.int (iZ u)), some (.int (iZ v)), some (.int (iZ y)), some (.int (iZ z)), some (.ref (j + 11 + (R 3).toNat)), some (.int (iZ 0))]) (q := 66) dX2_takeHole_64 rfl (Nat.le_of_ble_eq_true rfl) rfl rfl ?_
            exact l_takeHole w σ j R hJ hP u v y z b_u b_v b_y b_z (by omega) σ5 hp5 fp5 (R 3).toNat 0 (by omega) (by omega) rfl
          · refine z_iconst (q := 62) dX2_takeHole_61 rfl ?_
            refine z_zret dX2_takeHole_62 rfl rfl ?_
            exact Or.inr ⟨by omega, rfl, hJ.putHole (by omega) hp5 (fun k e => (fp5.2 k (by omega))), (g_Fr.rf.tr (fp5.wk (fun k e => ⟨by omega, by omega⟩)))⟩
        · refine z_iconst (q := 27) dX2_takeHole_26 rfl ?_
          refine z_zret dX2_takeHole_27 rfl rfl ?_
          exact Or.inr ⟨by omega, rfl, hJ, g_Fr.rf⟩
theorem r_isColumn2 (σ : g_H0) (j : Nat) (R : Int → Int) (hJ : rJob j R σ) (hP : pR R) (c : Int) (b_c : -2147483648 ≤ c ∧ c < 2147483648) : Ret mX2_isColumn [.ref j, .int (iZ c)] σ (fun r σ' => r = some (.int (bI (0 ≤ c ∧ c ≤ R 0 - 2))) ∧ σ' = σ) := by
  refine Ret.of moX2_isColumn.1 (Nat.le_of_ble_eq_true rfl) (fun w => ?_)
  obtain ⟨j0, j1, ⟨jf, j2, j2'⟩, ⟨jg, j3, j3'⟩, ⟨jC, j4, j4'⟩, j5, j6⟩ := id hJ
  obtain ⟨bR, r01, r2, r3, r4, rt, rh, rap, rcl, rc2⟩ := id hP
  show Go w mX2_isColumn (0, 0) 0 [some (.ref j), some (.int (iZ c))] [] σ (fun r σ' => r = some (.int (bI (0 ≤ c ∧ c ≤ R 0 - 2))) ∧ σ' = σ)
  refine g_iload_n (q := 1) dX2_isColumn_0 rfl rfl ?_
  refine z_iconst (q := 2) dX2_isColumn_1 rfl ?_
  refine g_aload_n (q := 3) dX2_isColumn_2 rfl rfl ?_
  refine g_get (q := 6) flX2_12 dX2_isColumn_3 j0 rfl rfl ?_
  refine g_get (q := 9) flX2_47 dX2_isColumn_6 j1 rfl rfl ?_
  refine z_iconst (q := 10) dX2_isColumn_9 rfl ?_
  refine z_isub (q := 11) dX2_isColumn_10 rfl ?_
  refine g_callSN (As := [.int (iZ c), .int (iZ 0), .int (iZ ((R 0) - 2))]) (rest := []) (q := 14) moX8_isWithin lkX2_isColumn_54 dX2_isColumn_11 (r_isWithin σ c 0 ((R 0) - 2) (by omega) (by omega) (by omega)) rfl rfl (Nat.le_of_ble_eq_true rfl) (Nat.le_of_ble_eq_true rfl) (Nat.le_of_ble_eq_true rfl) rfl ?_
  rintro rQ sQ hpQ
  rw [hpQ.1, hpQ.2]
  show Go w mX2_isColumn (0, 0) 14 [some (.ref j), some (.int (iZ c))] [.int (bI (0 ≤ c ∧ c ≤ ((R 0) - 2)))] σ (fun r σ' => r = some (.int (bI (0 ≤ c ∧ c ≤ R 0 - 2))) ∧ σ' = σ)
  refine z_zret dX2_isColumn_14 rfl (bI_nar _) ?_
  exact ⟨congrArg (fun v => some (Value.int v)) (bI_c (by omega)), rfl⟩
theorem r_takeClamp (σ : g_H0) (j : Nat) (R : Int → Int) (hJ : rJob j R σ) (hP : pR R) (u : Int) (b_u : 0 ≤ u ∧ u ≤ 99) : Ret mX2_takeClamp [.ref j, .int (iZ u)] σ (fun r σ' => (((R 0 ≠ 0 ∧ R 4 < 2) ∧ (0 ≤ u ∧ u ≤ R 0 - 2) ∧ (R 4 = 0 ∨ 1 < u - R 49 ∨ 1 < R 49 - u)) ∧ r = some (.int (iZ 1)) ∧ rJob j (zup (zup R 4 (R 4 + 1)) (R 4 + 49) u) σ' ∧ g_Fr (pJ j) σ σ') ∨ (¬ ((R 0 ≠ 0 ∧ R 4 < 2) ∧ (0 ≤ u ∧ u ≤ R 0 - 2) ∧ (R 4 = 0 ∨ 1 < u - R 49 ∨ 1 < R 49 - u)) ∧ r = some (.int (iZ 0)) ∧ rJob j R σ' ∧ g_Fr (pJ j) σ σ')) := by
  refine Ret.of moX2_takeClamp.1 (Nat.le_of_ble_eq_true rfl) (fun w => ?_)
  obtain ⟨j0, j1, ⟨jf, j2, j2'⟩, ⟨jg, j3, j3'⟩, ⟨jC, j4, j4'⟩, j5, j6⟩ := id hJ
  obtain ⟨bR, r01, r2, r3, r4, rt, rh, rap, rcl, rc2⟩ := id hP
  show Go w mX2_takeClamp (0, 0) 0 [some (.ref j), some (.int (iZ u)), none] [] σ (fun r σ' => (((R 0 ≠ 0 ∧ R 4 < 2) ∧ (0 ≤ u ∧ u ≤ R 0 - 2) ∧ (R 4 = 0 ∨ 1 < u - R 49 ∨ 1 < R 49 - u)) ∧ r = some (.int (iZ 1)) ∧ rJob j (zup (zup R 4 (R 4 + 1)) (R 4 + 49) u) σ' ∧ g_Fr (pJ j) σ σ') ∨ (¬ ((R 0 ≠ 0 ∧ R 4 < 2) ∧ (0 ≤ u ∧ u ≤ R 0 - 2) ∧ (R 4 = 0 ∨ 1 < u - R 49 ∨ 1 < R 49 - u)) ∧ r = some (.int (iZ 0)) ∧ rJob j R σ' ∧ g_Fr (pJ j) σ σ'))
  refine g_aload_n (q := 1) dX2_takeClamp_0 rfl rfl ?_
  refine g_callV (As := []) (rest := []) (q := 4) moX2_hasSheet lkX2_takeClamp_50 dX2_takeClamp_1 rfl j0 (r_hasSheet σ j R hJ hP) rfl rfl (Nat.le_of_ble_eq_true rfl) (Nat.le_of_ble_eq_true rfl) (Nat.le_of_ble_eq_true rfl) rfl ?_
  rintro rQ sQ hpQ
  rw [hpQ.1, hpQ.2]
  show Go w mX2_takeClamp (0, 0) 4 [some (.ref j), some (.int (iZ u)), none] [.int (bI (R 0 ≠ 0))] σ (fun r σ' => (((R 0 ≠ 0 ∧ R 4 < 2) ∧ (0 ≤ u ∧ u ≤ R 0 - 2) ∧ (R 4 = 0 ∨ 1 < u - R 49 ∨ 1 < R 49 - u)) ∧ r = some (.int (iZ 1)) ∧ rJob j (zup (zup R 4 (R 4 + 1)) (R 4 + 49) u) σ' ∧ g_Fr (pJ j) σ σ') ∨ (¬ ((R 0 ≠ 0 ∧ R 4 < 2) ∧ (0 ≤ u ∧ u ≤ R 0 - 2) ∧ (R 4 = 0 ∨ 1 < u - R 49 ∨ 1 < R 49 - u)) ∧ r = some (.int (iZ 0)) ∧ rJob j R σ' ∧ g_Fr (pJ j) σ σ'))
  refine z_ifB_eq (t := 23) (q := 7) dX2_takeClamp_4 rfl rfl (fun pc1 => ?_) (fun pc1 => ?_)
  · refine z_iconst (q := 24) dX2_takeClamp_23 rfl ?_
    refine z_zret dX2_takeClamp_24 rfl rfl ?_
    exact Or.inr ⟨by omega, rfl, hJ, g_Fr.rf⟩
  · refine g_aload_n (q := 8) dX2_takeClamp_7 rfl rfl ?_
    refine g_get (q := 11) flX2_44 dX2_takeClamp_8 j0 rfl rfl ?_
    refine z_iconst (q := 12) dX2_takeClamp_11 rfl ?_
    refine z_icmp_ge (t := 23) (q := 15) dX2_takeClamp_12 rfl (by omega) rfl (fun pc2 => ?_) (fun pc2 => ?_)
    · refine z_iconst (q := 24) dX2_takeClamp_23 rfl ?_
      refine z_zret dX2_takeClamp_24 rfl rfl ?_
      exact Or.inr ⟨by omega, rfl, hJ, g_Fr.rf⟩
    · refine g_aload_n (q := 16) dX2_takeClamp_15 rfl rfl ?_
      refine g_iload_n (q := 17) dX2_takeClamp_16 rfl rfl ?_
      refine g_callV (As := [.int (iZ u)]) (rest := []) (q := 20) moX2_isColumn lkX2_takeClamp_80 dX2_takeClamp_17 rfl j0 (r_isColumn2 σ j R hJ hP u (by omega)) rfl rfl (Nat.le_of_ble_eq_true rfl) (Nat.le_of_ble_eq_true rfl) (Nat.le_of_ble_eq_true rfl) rfl ?_
      rintro rQ sQ hpQ
      rw [hpQ.1, hpQ.2]
      show Go w mX2_takeClamp (0, 0) 20 [some (.ref j), some (.int (iZ u)), none] [.int (bI (0 ≤ u ∧ u ≤ R 0 - 2))] σ (fun r σ' => (((R 0 ≠ 0 ∧ R 4 < 2) ∧ (0 ≤ u ∧ u ≤ R 0 - 2) ∧ (R 4 = 0 ∨ 1 < u - R 49 ∨ 1 < R 49 - u)) ∧ r = some (.int (iZ 1)) ∧ rJob j (zup (zup R 4 (R 4 + 1)) (R 4 + 49) u) σ' ∧ g_Fr (pJ j) σ σ') ∨ (¬ ((R 0 ≠ 0 ∧ R 4 < 2) ∧ (0 ≤ u ∧ u ≤ R 0 - 2) ∧ (R 4 = 0 ∨ 1 < u - R 49 ∨ 1 < R 49 - u)) ∧ r = some (.int (iZ 0)) ∧ rJob j R σ' ∧ g_Fr (pJ j) σ σ'))
      refine z_ifB_ne (t := 25) (q := 23) dX2_takeClamp_20 rfl rfl (fun pc3 => ?_) (fun pc3 => ?_)
      · refine z_iconst (q := 26) dX2_takeClamp_25 rfl ?_
        refine g_istore_n (ml' := [some (.ref j), some (.int (iZ u)), some (.int (iZ 0))]) (q := 27) dX2_takeClamp_26 rfl (Nat.le_of_ble_eq_true rfl) rfl rfl ?_
        refine g_iload_n (q := 28) dX2_takeClamp_27 rfl rfl ?_
        refine g_aload_n (q := 29) dX2_takeClamp_28 rfl rfl ?_
        refine g_get (q := 32) flX2_44 dX2_takeClamp_29 j0 rfl rfl ?_
        refine z_icmp_ge (t := 56) (q := 35) dX2_takeClamp_32 rfl (by omega) rfl (fun pc4 => ?_) (fun pc4 => ?_)
        · refine g_aload_n (q := 57) dX2_takeClamp_56 rfl rfl ?_
          refine g_get (q := 60) flX2_28 dX2_takeClamp_57 j0 rfl rfl ?_
          refine g_aload_n (q := 61) dX2_takeClamp_60 rfl rfl ?_
          refine g_get (q := 64) flX2_44 dX2_takeClamp_61 j0 rfl rfl ?_
          refine g_iload_n (q := 65) dX2_takeClamp_64 rfl rfl ?_
          refine z_iast (q := 66) dX2_takeClamp_65 j4 (by omega) rfl (fun σ5 c6 f7 => ?_)
          have c8 := (f7.2 j (by omega)).trans j0
          have c9 := (f7.2 (j + 1) (by omega)).trans j1
          have c10 := (f7.2 (j + 2) (by omega)).trans j2
          have c11 := (f7.2 (j + 3) (by omega)).trans j3
          refine g_aload_n (q := 67) dX2_takeClamp_66 rfl rfl ?_
          refine g_dup (q := 68) dX2_takeClamp_67 rfl rfl ?_
          refine g_get (q := 71) flX2_44 dX2_takeClamp_68 c8 rfl rfl ?_
          refine z_iconst (q := 72) dX2_takeClamp_71 rfl ?_
          refine z_iadd (q := 73) dX2_takeClamp_72 rfl ?_
          refine z_put (fs' := [.ref (j + 1), .ref (j + 2), .ref (j + 3), .ref (j + 4), .int (iZ (R 2)), .int (iZ (R 3)), .int (iZ ((R 4) + 1))]) (q := 76) fpX2_44 dX2_takeClamp_73 c8 (Nat.le_of_ble_eq_true rfl) rfl rfl rfl rfl (fun σ12 c13 f14 => ?_)
          have c15 := (f14.2 (j + 1) (by omega)).trans c9
          have c16 := (f14.2 (j + 2) (by omega)).trans c10
          have c17 := (f14.2 (j + 3) (by omega)).trans c11
          have c18 := (f14.2 (j + 4) (by omega)).trans c6
          refine z_iconst (q := 77) dX2_takeClamp_76 rfl ?_
          refine z_zret dX2_takeClamp_77 rfl rfl ?_
          exact Or.inl ⟨by omega, rfl, hJ.addClamp (by omega) j4' c13 c18 (fun k k0 k1 => ((f14.2 k (by omega)).trans (f7.2 k (by omega)))), ((g_Fr.rf.tr (f7.wk (fun k e => ⟨by omega, by omega⟩))).tr (f14.wk (fun k e => ⟨by omega, by omega⟩)))⟩
        · refine g_aload_n (q := 36) dX2_takeClamp_35 rfl rfl ?_
          refine g_get (q := 39) flX2_28 dX2_takeClamp_36 j0 rfl rfl ?_
          refine g_iload_n (q := 40) dX2_takeClamp_39 rfl rfl ?_
          refine z_iald (q := 41) dX2_takeClamp_40 j4 (by omega) rfl ?_
          rw [show jC 0 = R 49 from j4' 0 (by omega) (by omega)]
          have q49 := bR 49 (by omega) (by omega)
          refine g_iload_n (q := 42) dX2_takeClamp_41 rfl rfl ?_
          refine g_callS (As := [.int (iZ (R 49)), .int (iZ u)]) (rest := []) (q := 45) moX2_areTooNear lkX2_takeClamp_83 dX2_takeClamp_42 (r_areTooNear σ (R 49) u (by omega) (by omega)) rfl rfl (Nat.le_of_ble_eq_true rfl) (Nat.le_of_ble_eq_true rfl) (Nat.le_of_ble_eq_true rfl) rfl ?_
          rintro rQ sQ hpQ
          rw [hpQ.1, hpQ.2]
          show Go w mX2_takeClamp (0, 0) 45 [some (.ref j), some (.int (iZ u)), some (.int (iZ 0))] [.int (bI (-1 ≤ (R 49) - u ∧ (R 49) - u ≤ 1))] σ (fun r σ' => (((R 0 ≠ 0 ∧ R 4 < 2) ∧ (0 ≤ u ∧ u ≤ R 0 - 2) ∧ (R 4 = 0 ∨ 1 < u - R 49 ∨ 1 < R 49 - u)) ∧ r = some (.int (iZ 1)) ∧ rJob j (zup (zup R 4 (R 4 + 1)) (R 4 + 49) u) σ' ∧ g_Fr (pJ j) σ σ') ∨ (¬ ((R 0 ≠ 0 ∧ R 4 < 2) ∧ (0 ≤ u ∧ u ≤ R 0 - 2) ∧ (R 4 = 0 ∨ 1 < u - R 49 ∨ 1 < R 49 - u)) ∧ r = some (.int (iZ 0)) ∧ rJob j R σ' ∧ g_Fr (pJ j) σ σ'))
          refine z_ifB_eq (t := 50) (q := 48) dX2_takeClamp_45 rfl rfl (fun pc19 => ?_) (fun pc19 => ?_)
          · refine z_iincc (c := 1) (ml' := [some (.ref j), some (.int (iZ u)), some (.int (iZ 1))]) (q := 53) dX2_takeClamp_50 rfl (by omega) rfl rfl rfl ?_
            refine g_goto (q := 27) dX2_takeClamp_53 rfl ?_
            refine g_iload_n (q := 28) dX2_takeClamp_27 rfl rfl ?_
            refine g_aload_n (q := 29) dX2_takeClamp_28 rfl rfl ?_
            refine g_get (q := 32) flX2_44 dX2_takeClamp_29 j0 rfl rfl ?_
            refine z_icmp_ge (t := 56) (q := 35) dX2_takeClamp_32 rfl (by omega) rfl (fun pc20 => ?_) (fun pc20 => ?_)
            · refine g_aload_n (q := 57) dX2_takeClamp_56 rfl rfl ?_
              refine g_get (q := 60) flX2_28 dX2_takeClamp_57 j0 rfl rfl ?_
              refine g_aload_n (q := 61) dX2_takeClamp_60 rfl rfl ?_
              refine g_get (q := 64) flX2_44 dX2_takeClamp_61 j0 rfl rfl ?_
              refine g_iload_n (q := 65) dX2_takeClamp_64 rfl rfl ?_
              refine z_iast (q := 66) dX2_takeClamp_65 j4 (by omega) rfl (fun σ21 c22 f23 => ?_)
              have c24 := (f23.2 j (by omega)).trans j0
              have c25 := (f23.2 (j + 1) (by omega)).trans j1
              have c26 := (f23.2 (j + 2) (by omega)).trans j2
              have c27 := (f23.2 (j + 3) (by omega)).trans j3
              refine g_aload_n (q := 67) dX2_takeClamp_66 rfl rfl ?_
              refine g_dup (q := 68) dX2_takeClamp_67 rfl rfl ?_
              refine g_get (q := 71) flX2_44 dX2_takeClamp_68 c24 rfl rfl ?_
              refine z_iconst (q := 72) dX2_takeClamp_71 rfl ?_
              refine z_iadd (q := 73) dX2_takeClamp_72 rfl ?_
              refine z_put (fs' := [.ref (j + 1), .ref (j + 2), .ref (j + 3), .ref (j + 4), .int (iZ (R 2)), .int (iZ (R 3)), .int (iZ ((R 4) + 1))]) (q := 76) fpX2_44 dX2_takeClamp_73 c24 (Nat.le_of_ble_eq_true rfl) rfl rfl rfl rfl (fun σ28 c29 f30 => ?_)
              have c31 := (f30.2 (j + 1) (by omega)).trans c25
              have c32 := (f30.2 (j + 2) (by omega)).trans c26
              have c33 := (f30.2 (j + 3) (by omega)).trans c27
              have c34 := (f30.2 (j + 4) (by omega)).trans c22
              refine z_iconst (q := 77) dX2_takeClamp_76 rfl ?_
              refine z_zret dX2_takeClamp_77 rfl rfl ?_
              exact Or.inl ⟨by omega, rfl, hJ.addClamp (by omega) j4' c29 c34 (fun k k0 k1 => ((f30.2 k (by omega)).trans (f23.2 k (by omega)))), ((g_Fr.rf.tr (f23.wk (fun k e => ⟨by omega, by omega⟩))).tr (f30.wk (fun k e => ⟨by omega, by omega⟩)))⟩
            · exfalso
              omega
          · refine z_iconst (q := 49) dX2_takeClamp_48 rfl ?_
            refine z_zret dX2_takeClamp_49 rfl rfl ?_
            exact Or.inr ⟨by omega, rfl, hJ, g_Fr.rf⟩
      · refine z_iconst (q := 24) dX2_takeClamp_23 rfl ?_
        refine z_zret dX2_takeClamp_24 rfl rfl ?_
        exact Or.inr ⟨by omega, rfl, hJ, g_Fr.rf⟩
