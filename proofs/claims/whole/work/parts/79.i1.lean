theorem r_X0_init (σ : g_H0) (a : Nat) : Ret mX0_init [.ref a] σ (fun r σ' => r = none ∧ σ' = σ) := by
  refine Ret.of moX0_init.1 (Nat.le_of_ble_eq_true rfl) (fun w => ?_)
  have nf0 : g_Nf a σ σ := g_Nf.rf
  show Go w mX0_init (0, 0) 0 [some (.ref a)] [] σ (fun r σ' => r = none ∧ σ' = σ)
  refine g_aload_n (q := 1) dX0_init_0 rfl rfl ?_
  refine g_objInit (q := 4) obX0_1 ob_i ob_c dX0_init_1 (Nat.le_of_ble_eq_true rfl) (Nat.le_of_ble_eq_true rfl) rfl rfl ?_
  refine g_vret dX0_init_4 rfl (Nat.le_of_ble_eq_true rfl) (Nat.le_of_ble_eq_true rfl) ?_
  exact ⟨rfl, rfl⟩
theorem r_X7_init (σ : g_H0) (a : Nat) : Ret mX7_init [.ref a] σ (fun r σ' => r = none ∧ σ' = σ) := by
  refine Ret.of moX7_init.1 (Nat.le_of_ble_eq_true rfl) (fun w => ?_)
  have nf0 : g_Nf a σ σ := g_Nf.rf
  show Go w mX7_init (0, 0) 0 [some (.ref a)] [] σ (fun r σ' => r = none ∧ σ' = σ)
  refine g_aload_n (q := 1) dX7_init_0 rfl rfl ?_
  refine g_objInit (q := 4) obX7_1 ob_i ob_c dX7_init_1 (Nat.le_of_ble_eq_true rfl) (Nat.le_of_ble_eq_true rfl) rfl rfl ?_
  refine g_vret dX7_init_4 rfl (Nat.le_of_ble_eq_true rfl) (Nat.le_of_ble_eq_true rfl) ?_
  exact ⟨rfl, rfl⟩
theorem r_X6_init (σ : g_H0) (a : Nat) (hl : σ.length = a + 1) (h0 : σ[a]? = some (.inr (6, [.null, .int (iZ 0)]))) : Ret mX6_init [.ref a] σ (fun r σ' => r = none ∧ rText a 0 tx0 σ' ∧ σ'.length = a + 2 ∧ g_Nf a σ σ') := by
  refine Ret.of moX6_init.1 (Nat.le_of_ble_eq_true rfl) (fun w => ?_)
  have nf0 : g_Nf a σ σ := g_Nf.rf
  show Go w mX6_init (0, 0) 0 [some (.ref a)] [] σ (fun r σ' => r = none ∧ rText a 0 tx0 σ' ∧ σ'.length = a + 2 ∧ g_Nf a σ σ')
  refine g_aload_n (q := 1) dX6_init_0 rfl rfl ?_
  refine g_objInit (q := 4) obX6_3 ob_i ob_c dX6_init_1 (Nat.le_of_ble_eq_true rfl) (Nat.le_of_ble_eq_true rfl) rfl rfl ?_
  refine g_aload_n (q := 5) dX6_init_4 rfl rfl ?_
  refine g_sipush (v := iZ 200) (q := 8) dX6_init_5 (by decide) rfl ?_
  refine z_newC (a := (a + 1)) (N := 200) (q := 10) dX6_init_8 (by omega) rfl (Nat.le_of_ble_eq_true rfl) (Nat.le_of_ble_eq_true rfl) hl rfl (fun σ1 l4 c2 g3 => ?_)
  have c5 := g3.at h0
  have nf6 := nf0.al g3 (by rw [hl]; omega)
  have l7 : σ1.length = a + 2 := l4
  show Go w mX6_init (1, 200) 10 [some (.ref a)] [.ref (a + 1), .ref a] σ1 (fun r σ' => r = none ∧ rText a 0 tx0 σ' ∧ σ'.length = a + 2 ∧ g_Nf a σ σ')
  refine z_putF (fs' := [.ref (a + 1), .int (iZ 0)]) (q := 13) fpX6_9 rfl dX6_init_10 c5 (Nat.le_of_ble_eq_true rfl) rfl rfl rfl rfl (fun σ8 c9 f10 => ?_)
  have c11 := (f10.2 (a + 1) (by omega)).trans c2
  have l12 : σ8.length = a + 2 := f10.1.trans l7
  have nf13 := nf6.put f10 (by omega)
  refine g_vret dX6_init_13 rfl (Nat.le_of_ble_eq_true rfl) (Nat.le_of_ble_eq_true rfl) ?_
  exact ⟨rfl, ⟨c9, _, c11, fun k k0 k1 => by omega⟩, l12, nf13⟩
theorem r_X4_init (σ : g_H0) (a : Nat) (hl : σ.length = a + 1) (h0 : σ[a]? = some (.inr (4, [.null, .int (iZ 0)]))) : Ret mX4_init [.ref a] σ (fun r σ' => r = none ∧ rRn a 0 (fun _ => 0) σ' ∧ σ'.length = a + 2 ∧ g_Nf a σ σ') := by
  refine Ret.of moX4_init.1 (Nat.le_of_ble_eq_true rfl) (fun w => ?_)
  have nf0 : g_Nf a σ σ := g_Nf.rf
  show Go w mX4_init (0, 0) 0 [some (.ref a)] [] σ (fun r σ' => r = none ∧ rRn a 0 (fun _ => 0) σ' ∧ σ'.length = a + 2 ∧ g_Nf a σ σ')
  refine g_aload_n (q := 1) dX4_init_0 rfl rfl ?_
  refine g_objInit (q := 4) obX4_3 ob_i ob_c dX4_init_1 (Nat.le_of_ble_eq_true rfl) (Nat.le_of_ble_eq_true rfl) rfl rfl ?_
  refine g_aload_n (q := 5) dX4_init_4 rfl rfl ?_
  refine z_iconst (q := 6) dX4_init_5 rfl ?_
  refine z_newI (a := (a + 1)) (N := 4) (q := 8) dX4_init_6 (by omega) rfl (Nat.le_of_ble_eq_true rfl) (Nat.le_of_ble_eq_true rfl) hl rfl (fun σ1 l4 c2 g3 => ?_)
  have c5 := g3.at h0
  have nf6 := nf0.al g3 (by rw [hl]; omega)
  have l7 : σ1.length = a + 2 := l4
  show Go w mX4_init (1, 4) 8 [some (.ref a)] [.ref (a + 1), .ref a] σ1 (fun r σ' => r = none ∧ rRn a 0 (fun _ => 0) σ' ∧ σ'.length = a + 2 ∧ g_Nf a σ σ')
  refine z_putF (fs' := [.ref (a + 1), .int (iZ 0)]) (q := 11) fpX4_9 rfl dX4_init_8 c5 (Nat.le_of_ble_eq_true rfl) rfl rfl rfl rfl (fun σ8 c9 f10 => ?_)
  have c11 := (f10.2 (a + 1) (by omega)).trans c2
  have l12 : σ8.length = a + 2 := f10.1.trans l7
  have nf13 := nf6.put f10 (by omega)
  refine g_vret dX4_init_11 rfl (Nat.le_of_ble_eq_true rfl) (Nat.le_of_ble_eq_true rfl) ?_
  exact ⟨rfl, ⟨c9, c11⟩, l12, nf13⟩
theorem rowB_Z (y : Int) : rowB (fun _ => 0) y = 0 := rfl
/-- a State as it is made -/
def rZ5 (b : Nat) (σ : g_H0) : Prop := σ[b]? = some (.inr (5, [.ref (b + 1), .ref (b + 2), .ref (b + 3), .int (iZ 0), .int (iZ 0), .int (iZ 0), .int (iZ 0)])) ∧ σ[b + 1]? = some (.inl (0, 12, .inl (zA (fun _ => 0)))) ∧ σ[b + 2]? = some (.inl (0, 6, .inl (zA (fun _ => 0)))) ∧ σ[b + 3]? = some (.inl (0, 2, .inl (zA (fun _ => 0))))
theorem rZ5.st {b : Nat} {σ : g_H0} (h : rZ5 b σ) (T : Int → Int) : rSt b T (fun _ => 0) σ := ⟨h.1, _, _, _, h.2.1, h.2.2.1, h.2.2.2, fun _ _ _ => rfl, fun _ _ _ => rfl, fun _ _ _ => rfl⟩
theorem r_X5_init (σ : g_H0) (a : Nat) (hl : σ.length = a + 1) (h0 : σ[a]? = some (.inr (5, [.null, .null, .null, .int (iZ 0), .int (iZ 0), .int (iZ 0), .int (iZ 0)]))) : Ret mX5_init [.ref a] σ (fun r σ' => r = none ∧ rZ5 a σ' ∧ σ'.length = a + 4 ∧ g_Nf a σ σ') := by
  refine Ret.of moX5_init.1 (Nat.le_of_ble_eq_true rfl) (fun w => ?_)
  have nf0 : g_Nf a σ σ := g_Nf.rf
  show Go w mX5_init (0, 0) 0 [some (.ref a)] [] σ (fun r σ' => r = none ∧ rZ5 a σ' ∧ σ'.length = a + 4 ∧ g_Nf a σ σ')
  refine g_aload_n (q := 1) dX5_init_0 rfl rfl ?_
  refine g_objInit (q := 4) obX5_3 ob_i ob_c dX5_init_1 (Nat.le_of_ble_eq_true rfl) (Nat.le_of_ble_eq_true rfl) rfl rfl ?_
  refine g_aload_n (q := 5) dX5_init_4 rfl rfl ?_
  refine g_bipush (v := iZ 12) (q := 7) dX5_init_5 (by decide) rfl ?_
  refine z_newI (a := (a + 1)) (N := 12) (q := 9) dX5_init_7 (by omega) rfl (Nat.le_of_ble_eq_true rfl) (Nat.le_of_ble_eq_true rfl) hl rfl (fun σ1 l4 c2 g3 => ?_)
  have c5 := g3.at h0
  have nf6 := nf0.al g3 (by rw [hl]; omega)
  have l7 : σ1.length = a + 2 := l4
  show Go w mX5_init (1, 12) 9 [some (.ref a)] [.ref (a + 1), .ref a] σ1 (fun r σ' => r = none ∧ rZ5 a σ' ∧ σ'.length = a + 4 ∧ g_Nf a σ σ')
  refine z_putF (fs' := [.ref (a + 1), .null, .null, .int (iZ 0), .int (iZ 0), .int (iZ 0), .int (iZ 0)]) (q := 12) fpX5_9 rfl dX5_init_9 c5 (Nat.le_of_ble_eq_true rfl) rfl rfl rfl rfl (fun σ8 c9 f10 => ?_)
  have c11 := (f10.2 (a + 1) (by omega)).trans c2
  have l12 : σ8.length = a + 2 := f10.1.trans l7
  have nf13 := nf6.put f10 (by omega)
  refine g_aload_n (q := 13) dX5_init_12 rfl rfl ?_
  refine g_bipush (v := iZ 6) (q := 15) dX5_init_13 (by decide) rfl ?_
  refine z_newI (a := (a + 2)) (N := 6) (q := 17) dX5_init_15 (by omega) rfl (Nat.le_of_ble_eq_true rfl) (Nat.le_of_ble_eq_true rfl) l12 rfl (fun σ14 l17 c15 g16 => ?_)
  have c18 := g16.at c11
  have c19 := g16.at c9
  have nf20 := nf13.al g16 (by rw [l12]; omega)
  have l21 : σ14.length = a + 3 := l17
  show Go w mX5_init (2, 18) 17 [some (.ref a)] [.ref (a + 2), .ref a] σ14 (fun r σ' => r = none ∧ rZ5 a σ' ∧ σ'.length = a + 4 ∧ g_Nf a σ σ')
  refine z_putF (fs' := [.ref (a + 1), .ref (a + 2), .null, .int (iZ 0), .int (iZ 0), .int (iZ 0), .int (iZ 0)]) (q := 20) fpX5_15 rfl dX5_init_17 c19 (Nat.le_of_ble_eq_true rfl) rfl rfl rfl rfl (fun σ22 c23 f24 => ?_)
  have c25 := (f24.2 (a + 1) (by omega)).trans c18
  have c26 := (f24.2 (a + 2) (by omega)).trans c15
  have l27 : σ22.length = a + 3 := f24.1.trans l21
  have nf28 := nf20.put f24 (by omega)
  refine g_aload_n (q := 21) dX5_init_20 rfl rfl ?_
  refine z_iconst (q := 22) dX5_init_21 rfl ?_
  refine z_newI (a := (a + 3)) (N := 2) (q := 24) dX5_init_22 (by omega) rfl (Nat.le_of_ble_eq_true rfl) (Nat.le_of_ble_eq_true rfl) l27 rfl (fun σ29 l32 c30 g31 => ?_)
  have c33 := g31.at c25
  have c34 := g31.at c26
  have c35 := g31.at c23
  have nf36 := nf28.al g31 (by rw [l27]; omega)
  have l37 : σ29.length = a + 4 := l32
  show Go w mX5_init (3, 20) 24 [some (.ref a)] [.ref (a + 3), .ref a] σ29 (fun r σ' => r = none ∧ rZ5 a σ' ∧ σ'.length = a + 4 ∧ g_Nf a σ σ')
  refine z_putF (fs' := [.ref (a + 1), .ref (a + 2), .ref (a + 3), .int (iZ 0), .int (iZ 0), .int (iZ 0), .int (iZ 0)]) (q := 27) fpX5_18 rfl dX5_init_24 c35 (Nat.le_of_ble_eq_true rfl) rfl rfl rfl rfl (fun σ38 c39 f40 => ?_)
  have c41 := (f40.2 (a + 1) (by omega)).trans c33
  have c42 := (f40.2 (a + 2) (by omega)).trans c34
  have c43 := (f40.2 (a + 3) (by omega)).trans c30
  have l44 : σ38.length = a + 4 := f40.1.trans l37
  have nf45 := nf36.put f40 (by omega)
  refine g_vret dX5_init_27 rfl (Nat.le_of_ble_eq_true rfl) (Nat.le_of_ble_eq_true rfl) ?_
  exact ⟨rfl, ⟨c39, c41, c42, c43⟩, l44, nf45⟩
theorem r_X3_init (σ : g_H0) (a : Nat) (hl : σ.length = a + 1) (h0 : σ[a]? = some (.inr (3, [.null, .null, .null, .int (iZ 0), .null, .int (iZ 0), .int (iZ 0), .int (iZ 0)]))) : Ret mX3_init [.ref a] σ (fun r σ' => r = none ∧ rPl a (fun _ => 0) (fun _ => 0) (fun _ => 0) (fun _ => 0) 0 0 0 0 σ' ∧ σ'.length = a + 5 ∧ g_Nf a σ σ') := by
  refine Ret.of moX3_init.1 (Nat.le_of_ble_eq_true rfl) (fun w => ?_)
  have nf0 : g_Nf a σ σ := g_Nf.rf
  show Go w mX3_init (0, 0) 0 [some (.ref a)] [] σ (fun r σ' => r = none ∧ rPl a (fun _ => 0) (fun _ => 0) (fun _ => 0) (fun _ => 0) 0 0 0 0 σ' ∧ σ'.length = a + 5 ∧ g_Nf a σ σ')
  refine g_aload_n (q := 1) dX3_init_0 rfl rfl ?_
  refine g_objInit (q := 4) obX3_3 ob_i ob_c dX3_init_1 (Nat.le_of_ble_eq_true rfl) (Nat.le_of_ble_eq_true rfl) rfl rfl ?_
  refine g_aload_n (q := 5) dX3_init_4 rfl rfl ?_
  refine g_bipush (v := iZ 30) (q := 7) dX3_init_5 (by decide) rfl ?_
  refine z_newI (a := (a + 1)) (N := 30) (q := 9) dX3_init_7 (by omega) rfl (Nat.le_of_ble_eq_true rfl) (Nat.le_of_ble_eq_true rfl) hl rfl (fun σ1 l4 c2 g3 => ?_)
  have c5 := g3.at h0
  have nf6 := nf0.al g3 (by rw [hl]; omega)
  have l7 : σ1.length = a + 2 := l4
  show Go w mX3_init (1, 30) 9 [some (.ref a)] [.ref (a + 1), .ref a] σ1 (fun r σ' => r = none ∧ rPl a (fun _ => 0) (fun _ => 0) (fun _ => 0) (fun _ => 0) 0 0 0 0 σ' ∧ σ'.length = a + 5 ∧ g_Nf a σ σ')
  refine z_putF (fs' := [.ref (a + 1), .null, .null, .int (iZ 0), .null, .int (iZ 0), .int (iZ 0), .int (iZ 0)]) (q := 12) fpX3_9 rfl dX3_init_9 c5 (Nat.le_of_ble_eq_true rfl) rfl rfl rfl rfl (fun σ8 c9 f10 => ?_)
  have c11 := (f10.2 (a + 1) (by omega)).trans c2
  have l12 : σ8.length = a + 2 := f10.1.trans l7
  have nf13 := nf6.put f10 (by omega)
  refine g_aload_n (q := 13) dX3_init_12 rfl rfl ?_
  refine g_bipush (v := iZ 30) (q := 15) dX3_init_13 (by decide) rfl ?_
  refine z_newI (a := (a + 2)) (N := 30) (q := 17) dX3_init_15 (by omega) rfl (Nat.le_of_ble_eq_true rfl) (Nat.le_of_ble_eq_true rfl) l12 rfl (fun σ14 l17 c15 g16 => ?_)
  have c18 := g16.at c11
  have c19 := g16.at c9
  have nf20 := nf13.al g16 (by rw [l12]; omega)
  have l21 : σ14.length = a + 3 := l17
  show Go w mX3_init (2, 60) 17 [some (.ref a)] [.ref (a + 2), .ref a] σ14 (fun r σ' => r = none ∧ rPl a (fun _ => 0) (fun _ => 0) (fun _ => 0) (fun _ => 0) 0 0 0 0 σ' ∧ σ'.length = a + 5 ∧ g_Nf a σ σ')
  refine z_putF (fs' := [.ref (a + 1), .ref (a + 2), .null, .int (iZ 0), .null, .int (iZ 0), .int (iZ 0), .int (iZ 0)]) (q := 20) fpX3_15 rfl dX3_init_17 c19 (Nat.le_of_ble_eq_true rfl) rfl rfl rfl rfl (fun σ22 c23 f24 => ?_)
  have c25 := (f24.2 (a + 1) (by omega)).trans c18
  have c26 := (f24.2 (a + 2) (by omega)).trans c15
  have l27 : σ22.length = a + 3 := f24.1.trans l21
  have nf28 := nf20.put f24 (by omega)
  refine g_aload_n (q := 21) dX3_init_20 rfl rfl ?_
  refine z_iconst (q := 22) dX3_init_21 rfl ?_
  refine z_newI (a := (a + 3)) (N := 5) (q := 24) dX3_init_22 (by omega) rfl (Nat.le_of_ble_eq_true rfl) (Nat.le_of_ble_eq_true rfl) l27 rfl (fun σ29 l32 c30 g31 => ?_)
  have c33 := g31.at c25
  have c34 := g31.at c26
  have c35 := g31.at c23
  have nf36 := nf28.al g31 (by rw [l27]; omega)
  have l37 : σ29.length = a + 4 := l32
  show Go w mX3_init (3, 65) 24 [some (.ref a)] [.ref (a + 3), .ref a] σ29 (fun r σ' => r = none ∧ rPl a (fun _ => 0) (fun _ => 0) (fun _ => 0) (fun _ => 0) 0 0 0 0 σ' ∧ σ'.length = a + 5 ∧ g_Nf a σ σ')
  refine z_putF (fs' := [.ref (a + 1), .ref (a + 2), .ref (a + 3), .int (iZ 0), .null, .int (iZ 0), .int (iZ 0), .int (iZ 0)]) (q := 27) fpX3_18 rfl dX3_init_24 c35 (Nat.le_of_ble_eq_true rfl) rfl rfl rfl rfl (fun σ38 c39 f40 => ?_)
  have c41 := (f40.2 (a + 1) (by omega)).trans c33
  have c42 := (f40.2 (a + 2) (by omega)).trans c34
  have c43 := (f40.2 (a + 3) (by omega)).trans c30
  have l44 : σ38.length = a + 4 := f40.1.trans l37
  have nf45 := nf36.put f40 (by omega)
  refine g_aload_n (q := 28) dX3_init_27 rfl rfl ?_
  refine z_iconst (q := 29) dX3_init_28 rfl ?_
  refine z_newI (a := (a + 4)) (N := 5) (q := 31) dX3_init_29 (by omega) rfl (Nat.le_of_ble_eq_true rfl) (Nat.le_of_ble_eq_true rfl) l44 rfl (fun σ46 l49 c47 g48 => ?_)
  have c50 := g48.at c41
  have c51 := g48.at c42
  have c52 := g48.at c43
  have c53 := g48.at c39
  have nf54 := nf45.al g48 (by rw [l44]; omega)
  have l55 : σ46.length = a + 5 := l49
  show Go w mX3_init (4, 70) 31 [some (.ref a)] [.ref (a + 4), .ref a] σ46 (fun r σ' => r = none ∧ rPl a (fun _ => 0) (fun _ => 0) (fun _ => 0) (fun _ => 0) 0 0 0 0 σ' ∧ σ'.length = a + 5 ∧ g_Nf a σ σ')
  refine z_putF (fs' := [.ref (a + 1), .ref (a + 2), .ref (a + 3), .int (iZ 0), .ref (a + 4), .int (iZ 0), .int (iZ 0), .int (iZ 0)]) (q := 34) fpX3_21 rfl dX3_init_31 c53 (Nat.le_of_ble_eq_true rfl) rfl rfl rfl rfl (fun σ56 c57 f58 => ?_)
  have c59 := (f58.2 (a + 1) (by omega)).trans c50
  have c60 := (f58.2 (a + 2) (by omega)).trans c51
  have c61 := (f58.2 (a + 3) (by omega)).trans c52
  have c62 := (f58.2 (a + 4) (by omega)).trans c47
  have l63 : σ56.length = a + 5 := f58.1.trans l55
  have nf64 := nf54.put f58 (by omega)
  refine g_vret dX3_init_34 rfl (Nat.le_of_ble_eq_true rfl) (Nat.le_of_ble_eq_true rfl) ?_
  exact ⟨rfl, ⟨c57, c59, c60, c61, c62⟩, l63, nf64⟩
theorem r_X1_init (σ : g_H0) (a : Nat) (hl : σ.length = a + 1) (h0 : σ[a]? = some (.inr (1, [.null, .int (iZ 0), .int (iZ 0)]))) : Ret mX1_init [.ref a] σ (fun r σ' => r = none ∧ rHi a (fun _ => 0) (fun _ => 0) 0 0 σ' ∧ σ'.length = a + 26 ∧ g_Nf a σ σ') := by
  refine Ret.of moX1_init.1 (Nat.le_of_ble_eq_true rfl) (fun w => ?_)
  have nf0 : g_Nf a σ σ := g_Nf.rf
  show Go w mX1_init (0, 0) 0 [some (.ref a), none] [] σ (fun r σ' => r = none ∧ rHi a (fun _ => 0) (fun _ => 0) 0 0 σ' ∧ σ'.length = a + 26 ∧ g_Nf a σ σ')
  refine g_aload_n (q := 1) dX1_init_0 rfl rfl ?_
  refine g_objInit (q := 4) obX1_3 ob_i ob_c dX1_init_1 (Nat.le_of_ble_eq_true rfl) (Nat.le_of_ble_eq_true rfl) rfl rfl ?_
  refine g_aload_n (q := 5) dX1_init_4 rfl rfl ?_
  refine g_bipush (v := iZ 6) (q := 7) dX1_init_5 (by decide) rfl ?_
  refine z_newA (t := 2) (a := (a + 1)) (N := 6) (q := 10) dX1_init_7 rfl anX1_9 (by omega) rfl (Nat.le_of_ble_eq_true rfl) (Nat.le_of_ble_eq_true rfl) hl rfl (fun σ1 l4 c2 g3 => ?_)
  have c5 := g3.at h0
  have nf6 := nf0.al g3 (by rw [hl]; omega)
  have l7 : σ1.length = a + 2 := l4
  show Go w mX1_init (1, 6) 10 [some (.ref a), none] [.ref (a + 1), .ref a] σ1 (fun r σ' => r = none ∧ rHi a (fun _ => 0) (fun _ => 0) 0 0 σ' ∧ σ'.length = a + 26 ∧ g_Nf a σ σ')
  refine z_putF (fs' := [.ref (a + 1), .int (iZ 0), .int (iZ 0)]) (q := 13) fpX1_11 rfl dX1_init_10 c5 (Nat.le_of_ble_eq_true rfl) rfl rfl rfl rfl (fun σ8 c9 f10 => ?_)
  have c11 := (f10.2 (a + 1) (by omega)).trans c2
  have l12 : σ8.length = a + 2 := f10.1.trans l7
  have nf13 := nf6.put f10 (by omega)
  refine z_iconst (q := 14) dX1_init_13 rfl ?_
  refine g_istore_n (ml' := [some (.ref a), some (.int (iZ 0))]) (q := 15) dX1_init_14 rfl (Nat.le_of_ble_eq_true rfl) rfl rfl ?_
  refine g_iload_n (q := 16) dX1_init_15 rfl rfl ?_
  refine g_bipush (v := iZ 6) (q := 18) dX1_init_16 (by decide) rfl ?_
  refine z_icmp_ge (t := 40) (q := 21) dX1_init_18 rfl (by omega) rfl (fun pc14 => ?_) (fun pc14 => ?_)
  · exfalso; omega
  · refine g_aload_n (q := 22) dX1_init_21 rfl rfl ?_
    refine g_get (q := 25) flX1_11 dX1_init_22 c9 rfl rfl ?_
    refine g_iload_n (q := 26) dX1_init_25 rfl rfl ?_
    refine z_new (a := (a + 2)) (q := 29) nwX1_9 dX1_init_26 (Nat.le_of_ble_eq_true rfl) (Nat.le_of_ble_eq_true rfl) l12 rfl (fun σ15 l18 c16 g17 => ?_)
    have c19 := g17.at c11
    have c20 := g17.at c9
    have nf21 := nf13.al g17 (by rw [l12]; omega)
    have l22 : σ15.length = a + 3 := l18
    show Go w mX1_init (2, 13) 29 [some (.ref a), some (.int (iZ 0))] [.ref (a + 2), .int (iZ 0), .ref (a + 1)] σ15 (fun r σ' => r = none ∧ rHi a (fun _ => 0) (fun _ => 0) 0 0 σ' ∧ σ'.length = a + 26 ∧ g_Nf a σ σ')
    refine g_dup (q := 30) dX1_init_29 rfl rfl ?_
    refine g_callIN (As := []) (rest := [.ref (a + 2), .int (iZ 0), .ref (a + 1)]) (q := 33) moX5_init rfl lkX1_init_17 dX1_init_30 (r_X5_init σ15 (a + 2) l22 c16) rfl rfl (Nat.le_of_ble_eq_true rfl) (Nat.le_of_ble_eq_true rfl) (Nat.le_of_ble_eq_true rfl) rfl ?_
    rintro rn σ23 ⟨rfl, hz24, l25, nf26⟩
    have c27 := (nf26 (a + 1) (by omega)).trans c19
    have c28 := (nf26 a (by omega)).trans c20
    have c29 := hz24.1
    have c30 := hz24.2.1
    have c31 := hz24.2.2.1
    have c32 := hz24.2.2.2
    have nf33 := nf21.tr nf26 (by omega)
    have l34 : σ23.length = a + 6 := l25
    show Go w mX1_init (5, 33) 33 [some (.ref a), some (.int (iZ 0))] [.ref (a + 2), .int (iZ 0), .ref (a + 1)] σ23 (fun r σ' => r = none ∧ rHi a (fun _ => 0) (fun _ => 0) 0 0 σ' ∧ σ'.length = a + 26 ∧ g_Nf a σ σ')
    refine z_aast (q := 34) (r := (RX5, TX5, 7)) dX1_init_33 rfl rfl c27 c29 (by omega) rfl (fun σ35 c36 f37 => ?_)
    have c38 := (f37.2 a (by omega)).trans c28
    have c39 := (f37.2 (a + 2) (by omega)).trans c29
    have c40 := (f37.2 (a + 3) (by omega)).trans c30
    have c41 := (f37.2 (a + 4) (by omega)).trans c31
    have c42 := (f37.2 (a + 5) (by omega)).trans c32
    have l43 : σ35.length = a + 6 := f37.1.trans l34
    have nf44 := nf33.put f37 (by omega)
    refine z_iincc (c := 1) (ml' := [some (.ref a), some (.int (iZ 1))]) (q := 37) dX1_init_34 rfl (by omega) rfl rfl rfl ?_
    refine g_goto (q := 15) dX1_init_37 rfl ?_
    refine g_iload_n (q := 16) dX1_init_15 rfl rfl ?_
    refine g_bipush (v := iZ 6) (q := 18) dX1_init_16 (by decide) rfl ?_
    refine z_icmp_ge (t := 40) (q := 21) dX1_init_18 rfl (by omega) rfl (fun pc45 => ?_) (fun pc45 => ?_)
    · exfalso; omega
    · refine g_aload_n (q := 22) dX1_init_21 rfl rfl ?_
      refine g_get (q := 25) flX1_11 dX1_init_22 c38 rfl rfl ?_
      refine g_iload_n (q := 26) dX1_init_25 rfl rfl ?_
      refine z_new (a := (a + 6)) (q := 29) nwX1_9 dX1_init_26 (Nat.le_of_ble_eq_true rfl) (Nat.le_of_ble_eq_true rfl) l43 rfl (fun σ46 l49 c47 g48 => ?_)
      have c50 := g48.at c38
      have c51 := g48.at c39
      have c52 := g48.at c40
      have c53 := g48.at c41
      have c54 := g48.at c42
      have c55 := g48.at c36
      have nf56 := nf44.al g48 (by rw [l43]; omega)
      have l57 : σ46.length = a + 7 := l49
      show Go w mX1_init (6, 40) 29 [some (.ref a), some (.int (iZ 1))] [.ref (a + 6), .int (iZ 1), .ref (a + 1)] σ46 (fun r σ' => r = none ∧ rHi a (fun _ => 0) (fun _ => 0) 0 0 σ' ∧ σ'.length = a + 26 ∧ g_Nf a σ σ')
      refine g_dup (q := 30) dX1_init_29 rfl rfl ?_
      refine g_callIN (As := []) (rest := [.ref (a + 6), .int (iZ 1), .ref (a + 1)]) (q := 33) moX5_init rfl lkX1_init_17 dX1_init_30 (r_X5_init σ46 (a + 6) l57 c47) rfl rfl (Nat.le_of_ble_eq_true rfl) (Nat.le_of_ble_eq_true rfl) (Nat.le_of_ble_eq_true rfl) rfl ?_
      rintro rn σ58 ⟨rfl, hz59, l60, nf61⟩
      have c62 := (nf61 a (by omega)).trans c50
      have c63 := (nf61 (a + 2) (by omega)).trans c51
      have c64 := (nf61 (a + 3) (by omega)).trans c52
      have c65 := (nf61 (a + 4) (by omega)).trans c53
      have c66 := (nf61 (a + 5) (by omega)).trans c54
      have c67 := (nf61 (a + 1) (by omega)).trans c55
      have c68 := hz59.1
      have c69 := hz59.2.1
      have c70 := hz59.2.2.1
      have c71 := hz59.2.2.2
      have nf72 := nf56.tr nf61 (by omega)
      have l73 : σ58.length = a + 10 := l60
      show Go w mX1_init (9, 60) 33 [some (.ref a), some (.int (iZ 1))] [.ref (a + 6), .int (iZ 1), .ref (a + 1)] σ58 (fun r σ' => r = none ∧ rHi a (fun _ => 0) (fun _ => 0) 0 0 σ' ∧ σ'.length = a + 26 ∧ g_Nf a σ σ')
      refine z_aast (q := 34) (r := (RX5, TX5, 7)) dX1_init_33 rfl rfl c67 c68 (by omega) rfl (fun σ74 c75 f76 => ?_)
      have c77 := (f76.2 a (by omega)).trans c62
      have c78 := (f76.2 (a + 2) (by omega)).trans c63
      have c79 := (f76.2 (a + 3) (by omega)).trans c64
      have c80 := (f76.2 (a + 4) (by omega)).trans c65
      have c81 := (f76.2 (a + 5) (by omega)).trans c66
      have c82 := (f76.2 (a + 6) (by omega)).trans c68
      have c83 := (f76.2 (a + 7) (by omega)).trans c69
      have c84 := (f76.2 (a + 8) (by omega)).trans c70
      have c85 := (f76.2 (a + 9) (by omega)).trans c71
      have l86 : σ74.length = a + 10 := f76.1.trans l73
      have nf87 := nf72.put f76 (by omega)
      refine z_iincc (c := 2) (ml' := [some (.ref a), some (.int (iZ 2))]) (q := 37) dX1_init_34 rfl (by omega) rfl rfl rfl ?_
      refine g_goto (q := 15) dX1_init_37 rfl ?_
      refine g_iload_n (q := 16) dX1_init_15 rfl rfl ?_
      refine g_bipush (v := iZ 6) (q := 18) dX1_init_16 (by decide) rfl ?_
      refine z_icmp_ge (t := 40) (q := 21) dX1_init_18 rfl (by omega) rfl (fun pc88 => ?_) (fun pc88 => ?_)
      · exfalso; omega
      · refine g_aload_n (q := 22) dX1_init_21 rfl rfl ?_
        refine g_get (q := 25) flX1_11 dX1_init_22 c77 rfl rfl ?_
        refine g_iload_n (q := 26) dX1_init_25 rfl rfl ?_
        refine z_new (a := (a + 10)) (q := 29) nwX1_9 dX1_init_26 (Nat.le_of_ble_eq_true rfl) (Nat.le_of_ble_eq_true rfl) l86 rfl (fun σ89 l92 c90 g91 => ?_)
        have c93 := g91.at c77
        have c94 := g91.at c78
        have c95 := g91.at c79
        have c96 := g91.at c80
        have c97 := g91.at c81
        have c98 := g91.at c82
        have c99 := g91.at c83
        have c100 := g91.at c84
        have c101 := g91.at c85
        have c102 := g91.at c75
        have nf103 := nf87.al g91 (by rw [l86]; omega)
        have l104 : σ89.length = a + 11 := l92
        show Go w mX1_init (10, 67) 29 [some (.ref a), some (.int (iZ 2))] [.ref (a + 10), .int (iZ 2), .ref (a + 1)] σ89 (fun r σ' => r = none ∧ rHi a (fun _ => 0) (fun _ => 0) 0 0 σ' ∧ σ'.length = a + 26 ∧ g_Nf a σ σ')
        refine g_dup (q := 30) dX1_init_29 rfl rfl ?_
        refine g_callIN (As := []) (rest := [.ref (a + 10), .int (iZ 2), .ref (a + 1)]) (q := 33) moX5_init rfl lkX1_init_17 dX1_init_30 (r_X5_init σ89 (a + 10) l104 c90) rfl rfl (Nat.le_of_ble_eq_true rfl) (Nat.le_of_ble_eq_true rfl) (Nat.le_of_ble_eq_true rfl) rfl ?_
        rintro rn σ105 ⟨rfl, hz106, l107, nf108⟩
        have c109 := (nf108 a (by omega)).trans c93
        have c110 := (nf108 (a + 2) (by omega)).trans c94
        have c111 := (nf108 (a + 3) (by omega)).trans c95
        have c112 := (nf108 (a + 4) (by omega)).trans c96
        have c113 := (nf108 (a + 5) (by omega)).trans c97
        have c114 := (nf108 (a + 6) (by omega)).trans c98
        have c115 := (nf108 (a + 7) (by omega)).trans c99
        have c116 := (nf108 (a + 8) (by omega)).trans c100
        have c117 := (nf108 (a + 9) (by omega)).trans c101
        have c118 := (nf108 (a + 1) (by omega)).trans c102
        have c119 := hz106.1
        have c120 := hz106.2.1
        have c121 := hz106.2.2.1
        have c122 := hz106.2.2.2
        have nf123 := nf103.tr nf108 (by omega)
        have l124 : σ105.length = a + 14 := l107
        show Go w mX1_init (13, 87) 33 [some (.ref a), some (.int (iZ 2))] [.ref (a + 10), .int (iZ 2), .ref (a + 1)] σ105 (fun r σ' => r = none ∧ rHi a (fun _ => 0) (fun _ => 0) 0 0 σ' ∧ σ'.length = a + 26 ∧ g_Nf a σ σ')
        refine z_aast (q := 34) (r := (RX5, TX5, 7)) dX1_init_33 rfl rfl c118 c119 (by omega) rfl (fun σ125 c126 f127 => ?_)
        have c128 := (f127.2 a (by omega)).trans c109
        have c129 := (f127.2 (a + 2) (by omega)).trans c110
        have c130 := (f127.2 (a + 3) (by omega)).trans c111
        have c131 := (f127.2 (a + 4) (by omega)).trans c112
        have c132 := (f127.2 (a + 5) (by omega)).trans c113
        have c133 := (f127.2 (a + 6) (by omega)).trans c114
        have c134 := (f127.2 (a + 7) (by omega)).trans c115
        have c135 := (f127.2 (a + 8) (by omega)).trans c116
        have c136 := (f127.2 (a + 9) (by omega)).trans c117
        have c137 := (f127.2 (a + 10) (by omega)).trans c119
        have c138 := (f127.2 (a + 11) (by omega)).trans c120
        have c139 := (f127.2 (a + 12) (by omega)).trans c121
        have c140 := (f127.2 (a + 13) (by omega)).trans c122
        have l141 : σ125.length = a + 14 := f127.1.trans l124
        have nf142 := nf123.put f127 (by omega)
        refine z_iincc (c := 3) (ml' := [some (.ref a), some (.int (iZ 3))]) (q := 37) dX1_init_34 rfl (by omega) rfl rfl rfl ?_
        refine g_goto (q := 15) dX1_init_37 rfl ?_
        refine g_iload_n (q := 16) dX1_init_15 rfl rfl ?_
        refine g_bipush (v := iZ 6) (q := 18) dX1_init_16 (by decide) rfl ?_
        refine z_icmp_ge (t := 40) (q := 21) dX1_init_18 rfl (by omega) rfl (fun pc143 => ?_) (fun pc143 => ?_)
        · exfalso; omega
        · refine g_aload_n (q := 22) dX1_init_21 rfl rfl ?_
          refine g_get (q := 25) flX1_11 dX1_init_22 c128 rfl rfl ?_
          refine g_iload_n (q := 26) dX1_init_25 rfl rfl ?_
          refine z_new (a := (a + 14)) (q := 29) nwX1_9 dX1_init_26 (Nat.le_of_ble_eq_true rfl) (Nat.le_of_ble_eq_true rfl) l141 rfl (fun σ144 l147 c145 g146 => ?_)
          have c148 := g146.at c128
          have c149 := g146.at c129
          have c150 := g146.at c130
          have c151 := g146.at c131
          have c152 := g146.at c132
          have c153 := g146.at c133
          have c154 := g146.at c134
          have c155 := g146.at c135
          have c156 := g146.at c136
          have c157 := g146.at c137
          have c158 := g146.at c138
          have c159 := g146.at c139
          have c160 := g146.at c140
          have c161 := g146.at c126
          have nf162 := nf142.al g146 (by rw [l141]; omega)
          have l163 : σ144.length = a + 15 := l147
          show Go w mX1_init (14, 94) 29 [some (.ref a), some (.int (iZ 3))] [.ref (a + 14), .int (iZ 3), .ref (a + 1)] σ144 (fun r σ' => r = none ∧ rHi a (fun _ => 0) (fun _ => 0) 0 0 σ' ∧ σ'.length = a + 26 ∧ g_Nf a σ σ')
          refine g_dup (q := 30) dX1_init_29 rfl rfl ?_
          refine g_callIN (As := []) (rest := [.ref (a + 14), .int (iZ 3), .ref (a + 1)]) (q := 33) moX5_init rfl lkX1_init_17 dX1_init_30 (r_X5_init σ144 (a + 14) l163 c145) rfl rfl (Nat.le_of_ble_eq_true rfl) (Nat.le_of_ble_eq_true rfl) (Nat.le_of_ble_eq_true rfl) rfl ?_
          rintro rn σ164 ⟨rfl, hz165, l166, nf167⟩
          have c168 := (nf167 a (by omega)).trans c148
          have c169 := (nf167 (a + 2) (by omega)).trans c149
          have c170 := (nf167 (a + 3) (by omega)).trans c150
          have c171 := (nf167 (a + 4) (by omega)).trans c151
          have c172 := (nf167 (a + 5) (by omega)).trans c152
          have c173 := (nf167 (a + 6) (by omega)).trans c153
          have c174 := (nf167 (a + 7) (by omega)).trans c154
          have c175 := (nf167 (a + 8) (by omega)).trans c155
          have c176 := (nf167 (a + 9) (by omega)).trans c156
          have c177 := (nf167 (a + 10) (by omega)).trans c157
          have c178 := (nf167 (a + 11) (by omega)).trans c158
          have c179 := (nf167 (a + 12) (by omega)).trans c159
          have c180 := (nf167 (a + 13) (by omega)).trans c160
          have c181 := (nf167 (a + 1) (by omega)).trans c161
          have c182 := hz165.1
          have c183 := hz165.2.1
          have c184 := hz165.2.2.1
          have c185 := hz165.2.2.2
          have nf186 := nf162.tr nf167 (by omega)
          have l187 : σ164.length = a + 18 := l166
          show Go w mX1_init (17, 114) 33 [some (.ref a), some (.int (iZ 3))] [.ref (a + 14), .int (iZ 3), .ref (a + 1)] σ164 (fun r σ' => r = none ∧ rHi a (fun _ => 0) (fun _ => 0) 0 0 σ' ∧ σ'.length = a + 26 ∧ g_Nf a σ σ')
          refine z_aast (q := 34) (r := (RX5, TX5, 7)) dX1_init_33 rfl rfl c181 c182 (by omega) rfl (fun σ188 c189 f190 => ?_)
          have c191 := (f190.2 a (by omega)).trans c168
          have c192 := (f190.2 (a + 2) (by omega)).trans c169
          have c193 := (f190.2 (a + 3) (by omega)).trans c170
          have c194 := (f190.2 (a + 4) (by omega)).trans c171
          have c195 := (f190.2 (a + 5) (by omega)).trans c172
          have c196 := (f190.2 (a + 6) (by omega)).trans c173
          have c197 := (f190.2 (a + 7) (by omega)).trans c174
          have c198 := (f190.2 (a + 8) (by omega)).trans c175
          have c199 := (f190.2 (a + 9) (by omega)).trans c176
          have c200 := (f190.2 (a + 10) (by omega)).trans c177
          have c201 := (f190.2 (a + 11) (by omega)).trans c178
          have c202 := (f190.2 (a + 12) (by omega)).trans c179
          have c203 := (f190.2 (a + 13) (by omega)).trans c180
          have c204 := (f190.2 (a + 14) (by omega)).trans c182
          have c205 := (f190.2 (a + 15) (by omega)).trans c183
          have c206 := (f190.2 (a + 16) (by omega)).trans c184
          have c207 := (f190.2 (a + 17) (by omega)).trans c185
          have l208 : σ188.length = a + 18 := f190.1.trans l187
          have nf209 := nf186.put f190 (by omega)
          refine z_iincc (c := 4) (ml' := [some (.ref a), some (.int (iZ 4))]) (q := 37) dX1_init_34 rfl (by omega) rfl rfl rfl ?_
          refine g_goto (q := 15) dX1_init_37 rfl ?_
          refine g_iload_n (q := 16) dX1_init_15 rfl rfl ?_
          refine g_bipush (v := iZ 6) (q := 18) dX1_init_16 (by decide) rfl ?_
          refine z_icmp_ge (t := 40) (q := 21) dX1_init_18 rfl (by omega) rfl (fun pc210 => ?_) (fun pc210 => ?_)
          · exfalso; omega
          · refine g_aload_n (q := 22) dX1_init_21 rfl rfl ?_
            refine g_get (q := 25) flX1_11 dX1_init_22 c191 rfl rfl ?_
            refine g_iload_n (q := 26) dX1_init_25 rfl rfl ?_
            refine z_new (a := (a + 18)) (q := 29) nwX1_9 dX1_init_26 (Nat.le_of_ble_eq_true rfl) (Nat.le_of_ble_eq_true rfl) l208 rfl (fun σ211 l214 c212 g213 => ?_)
            have c215 := g213.at c191
            have c216 := g213.at c192
            have c217 := g213.at c193
            have c218 := g213.at c194
            have c219 := g213.at c195
            have c220 := g213.at c196
            have c221 := g213.at c197
            have c222 := g213.at c198
            have c223 := g213.at c199
            have c224 := g213.at c200
            have c225 := g213.at c201
            have c226 := g213.at c202
            have c227 := g213.at c203
            have c228 := g213.at c204
            have c229 := g213.at c205
            have c230 := g213.at c206
            have c231 := g213.at c207
            have c232 := g213.at c189
            have nf233 := nf209.al g213 (by rw [l208]; omega)
            have l234 : σ211.length = a + 19 := l214
            show Go w mX1_init (18, 121) 29 [some (.ref a), some (.int (iZ 4))] [.ref (a + 18), .int (iZ 4), .ref (a + 1)] σ211 (fun r σ' => r = none ∧ rHi a (fun _ => 0) (fun _ => 0) 0 0 σ' ∧ σ'.length = a + 26 ∧ g_Nf a σ σ')
            refine g_dup (q := 30) dX1_init_29 rfl rfl ?_
            refine g_callIN (As := []) (rest := [.ref (a + 18), .int (iZ 4), .ref (a + 1)]) (q := 33) moX5_init rfl lkX1_init_17 dX1_init_30 (r_X5_init σ211 (a + 18) l234 c212) rfl rfl (Nat.le_of_ble_eq_true rfl) (Nat.le_of_ble_eq_true rfl) (Nat.le_of_ble_eq_true rfl) rfl ?_
            rintro rn σ235 ⟨rfl, hz236, l237, nf238⟩
            have c239 := (nf238 a (by omega)).trans c215
            have c240 := (nf238 (a + 2) (by omega)).trans c216
            have c241 := (nf238 (a + 3) (by omega)).trans c217
            have c242 := (nf238 (a + 4) (by omega)).trans c218
            have c243 := (nf238 (a + 5) (by omega)).trans c219
            have c244 := (nf238 (a + 6) (by omega)).trans c220
            have c245 := (nf238 (a + 7) (by omega)).trans c221
            have c246 := (nf238 (a + 8) (by omega)).trans c222
            have c247 := (nf238 (a + 9) (by omega)).trans c223
            have c248 := (nf238 (a + 10) (by omega)).trans c224
            have c249 := (nf238 (a + 11) (by omega)).trans c225
            have c250 := (nf238 (a + 12) (by omega)).trans c226
            have c251 := (nf238 (a + 13) (by omega)).trans c227
            have c252 := (nf238 (a + 14) (by omega)).trans c228
            have c253 := (nf238 (a + 15) (by omega)).trans c229
            have c254 := (nf238 (a + 16) (by omega)).trans c230
            have c255 := (nf238 (a + 17) (by omega)).trans c231
            have c256 := (nf238 (a + 1) (by omega)).trans c232
            have c257 := hz236.1
            have c258 := hz236.2.1
            have c259 := hz236.2.2.1
            have c260 := hz236.2.2.2
            have nf261 := nf233.tr nf238 (by omega)
            have l262 : σ235.length = a + 22 := l237
            show Go w mX1_init (21, 141) 33 [some (.ref a), some (.int (iZ 4))] [.ref (a + 18), .int (iZ 4), .ref (a + 1)] σ235 (fun r σ' => r = none ∧ rHi a (fun _ => 0) (fun _ => 0) 0 0 σ' ∧ σ'.length = a + 26 ∧ g_Nf a σ σ')
            refine z_aast (q := 34) (r := (RX5, TX5, 7)) dX1_init_33 rfl rfl c256 c257 (by omega) rfl (fun σ263 c264 f265 => ?_)
            have c266 := (f265.2 a (by omega)).trans c239
            have c267 := (f265.2 (a + 2) (by omega)).trans c240
            have c268 := (f265.2 (a + 3) (by omega)).trans c241
            have c269 := (f265.2 (a + 4) (by omega)).trans c242
            have c270 := (f265.2 (a + 5) (by omega)).trans c243
            have c271 := (f265.2 (a + 6) (by omega)).trans c244
            have c272 := (f265.2 (a + 7) (by omega)).trans c245
            have c273 := (f265.2 (a + 8) (by omega)).trans c246
            have c274 := (f265.2 (a + 9) (by omega)).trans c247
            have c275 := (f265.2 (a + 10) (by omega)).trans c248
            have c276 := (f265.2 (a + 11) (by omega)).trans c249
            have c277 := (f265.2 (a + 12) (by omega)).trans c250
            have c278 := (f265.2 (a + 13) (by omega)).trans c251
            have c279 := (f265.2 (a + 14) (by omega)).trans c252
            have c280 := (f265.2 (a + 15) (by omega)).trans c253
            have c281 := (f265.2 (a + 16) (by omega)).trans c254
            have c282 := (f265.2 (a + 17) (by omega)).trans c255
            have c283 := (f265.2 (a + 18) (by omega)).trans c257
            have c284 := (f265.2 (a + 19) (by omega)).trans c258
            have c285 := (f265.2 (a + 20) (by omega)).trans c259
            have c286 := (f265.2 (a + 21) (by omega)).trans c260
            have l287 : σ263.length = a + 22 := f265.1.trans l262
            have nf288 := nf261.put f265 (by omega)
            refine z_iincc (c := 5) (ml' := [some (.ref a), some (.int (iZ 5))]) (q := 37) dX1_init_34 rfl (by omega) rfl rfl rfl ?_
            refine g_goto (q := 15) dX1_init_37 rfl ?_
            refine g_iload_n (q := 16) dX1_init_15 rfl rfl ?_
            refine g_bipush (v := iZ 6) (q := 18) dX1_init_16 (by decide) rfl ?_
            refine z_icmp_ge (t := 40) (q := 21) dX1_init_18 rfl (by omega) rfl (fun pc289 => ?_) (fun pc289 => ?_)
            · exfalso; omega
            · refine g_aload_n (q := 22) dX1_init_21 rfl rfl ?_
              refine g_get (q := 25) flX1_11 dX1_init_22 c266 rfl rfl ?_
              refine g_iload_n (q := 26) dX1_init_25 rfl rfl ?_
              refine z_new (a := (a + 22)) (q := 29) nwX1_9 dX1_init_26 (Nat.le_of_ble_eq_true rfl) (Nat.le_of_ble_eq_true rfl) l287 rfl (fun σ290 l293 c291 g292 => ?_)
              have c294 := g292.at c266
              have c295 := g292.at c267
              have c296 := g292.at c268
              have c297 := g292.at c269
              have c298 := g292.at c270
              have c299 := g292.at c271
              have c300 := g292.at c272
              have c301 := g292.at c273
              have c302 := g292.at c274
              have c303 := g292.at c275
              have c304 := g292.at c276
              have c305 := g292.at c277
              have c306 := g292.at c278
              have c307 := g292.at c279
              have c308 := g292.at c280
              have c309 := g292.at c281
              have c310 := g292.at c282
              have c311 := g292.at c283
              have c312 := g292.at c284
              have c313 := g292.at c285
              have c314 := g292.at c286
              have c315 := g292.at c264
              have nf316 := nf288.al g292 (by rw [l287]; omega)
              have l317 : σ290.length = a + 23 := l293
              show Go w mX1_init (22, 148) 29 [some (.ref a), some (.int (iZ 5))] [.ref (a + 22), .int (iZ 5), .ref (a + 1)] σ290 (fun r σ' => r = none ∧ rHi a (fun _ => 0) (fun _ => 0) 0 0 σ' ∧ σ'.length = a + 26 ∧ g_Nf a σ σ')
              refine g_dup (q := 30) dX1_init_29 rfl rfl ?_
              refine g_callIN (As := []) (rest := [.ref (a + 22), .int (iZ 5), .ref (a + 1)]) (q := 33) moX5_init rfl lkX1_init_17 dX1_init_30 (r_X5_init σ290 (a + 22) l317 c291) rfl rfl (Nat.le_of_ble_eq_true rfl) (Nat.le_of_ble_eq_true rfl) (Nat.le_of_ble_eq_true rfl) rfl ?_
              rintro rn σ318 ⟨rfl, hz319, l320, nf321⟩
              have c322 := (nf321 a (by omega)).trans c294
              have c323 := (nf321 (a + 2) (by omega)).trans c295
              have c324 := (nf321 (a + 3) (by omega)).trans c296
              have c325 := (nf321 (a + 4) (by omega)).trans c297
              have c326 := (nf321 (a + 5) (by omega)).trans c298
              have c327 := (nf321 (a + 6) (by omega)).trans c299
              have c328 := (nf321 (a + 7) (by omega)).trans c300
              have c329 := (nf321 (a + 8) (by omega)).trans c301
              have c330 := (nf321 (a + 9) (by omega)).trans c302
              have c331 := (nf321 (a + 10) (by omega)).trans c303
              have c332 := (nf321 (a + 11) (by omega)).trans c304
              have c333 := (nf321 (a + 12) (by omega)).trans c305
              have c334 := (nf321 (a + 13) (by omega)).trans c306
              have c335 := (nf321 (a + 14) (by omega)).trans c307
              have c336 := (nf321 (a + 15) (by omega)).trans c308
              have c337 := (nf321 (a + 16) (by omega)).trans c309
              have c338 := (nf321 (a + 17) (by omega)).trans c310
              have c339 := (nf321 (a + 18) (by omega)).trans c311
              have c340 := (nf321 (a + 19) (by omega)).trans c312
              have c341 := (nf321 (a + 20) (by omega)).trans c313
              have c342 := (nf321 (a + 21) (by omega)).trans c314
              have c343 := (nf321 (a + 1) (by omega)).trans c315
              have c344 := hz319.1
              have c345 := hz319.2.1
              have c346 := hz319.2.2.1
              have c347 := hz319.2.2.2
              have nf348 := nf316.tr nf321 (by omega)
              have l349 : σ318.length = a + 26 := l320
              show Go w mX1_init (25, 168) 33 [some (.ref a), some (.int (iZ 5))] [.ref (a + 22), .int (iZ 5), .ref (a + 1)] σ318 (fun r σ' => r = none ∧ rHi a (fun _ => 0) (fun _ => 0) 0 0 σ' ∧ σ'.length = a + 26 ∧ g_Nf a σ σ')
              refine z_aast (q := 34) (r := (RX5, TX5, 7)) dX1_init_33 rfl rfl c343 c344 (by omega) rfl (fun σ350 c351 f352 => ?_)
              have c353 := (f352.2 a (by omega)).trans c322
              have c354 := (f352.2 (a + 2) (by omega)).trans c323
              have c355 := (f352.2 (a + 3) (by omega)).trans c324
              have c356 := (f352.2 (a + 4) (by omega)).trans c325
              have c357 := (f352.2 (a + 5) (by omega)).trans c326
              have c358 := (f352.2 (a + 6) (by omega)).trans c327
              have c359 := (f352.2 (a + 7) (by omega)).trans c328
              have c360 := (f352.2 (a + 8) (by omega)).trans c329
              have c361 := (f352.2 (a + 9) (by omega)).trans c330
              have c362 := (f352.2 (a + 10) (by omega)).trans c331
              have c363 := (f352.2 (a + 11) (by omega)).trans c332
              have c364 := (f352.2 (a + 12) (by omega)).trans c333
              have c365 := (f352.2 (a + 13) (by omega)).trans c334
              have c366 := (f352.2 (a + 14) (by omega)).trans c335
              have c367 := (f352.2 (a + 15) (by omega)).trans c336
              have c368 := (f352.2 (a + 16) (by omega)).trans c337
              have c369 := (f352.2 (a + 17) (by omega)).trans c338
              have c370 := (f352.2 (a + 18) (by omega)).trans c339
              have c371 := (f352.2 (a + 19) (by omega)).trans c340
              have c372 := (f352.2 (a + 20) (by omega)).trans c341
              have c373 := (f352.2 (a + 21) (by omega)).trans c342
              have c374 := (f352.2 (a + 22) (by omega)).trans c344
              have c375 := (f352.2 (a + 23) (by omega)).trans c345
              have c376 := (f352.2 (a + 24) (by omega)).trans c346
              have c377 := (f352.2 (a + 25) (by omega)).trans c347
              have l378 : σ350.length = a + 26 := f352.1.trans l349
              have nf379 := nf348.put f352 (by omega)
              refine z_iincc (c := 6) (ml' := [some (.ref a), some (.int (iZ 6))]) (q := 37) dX1_init_34 rfl (by omega) rfl rfl rfl ?_
              refine g_goto (q := 15) dX1_init_37 rfl ?_
              refine g_iload_n (q := 16) dX1_init_15 rfl rfl ?_
              refine g_bipush (v := iZ 6) (q := 18) dX1_init_16 (by decide) rfl ?_
              refine z_icmp_ge (t := 40) (q := 21) dX1_init_18 rfl (by omega) rfl (fun pc380 => ?_) (fun pc380 => ?_)
              · refine g_vret dX1_init_40 rfl (Nat.le_of_ble_eq_true rfl) (Nat.le_of_ble_eq_true rfl) ?_
                refine ⟨rfl, ⟨c353, ⟨_, c351, fun k hk => ?_⟩, by omega, fun k hk => ?_, fun i i0 i1 => by omega⟩, l378, nf379⟩
                · rcases (by omega : k = 0 ∨ k = 1 ∨ k = 2 ∨ k = 3 ∨ k = 4 ∨ k = 5) with rfl | rfl | rfl | rfl | rfl | rfl <;> rfl
                · rcases (by omega : k = 0 ∨ k = 1 ∨ k = 2 ∨ k = 3 ∨ k = 4 ∨ k = 5) with rfl | rfl | rfl | rfl | rfl | rfl
                  · exact ⟨0, 0, 0, 0, (fun _ => 0), (fun _ => 0), (fun _ => 0), c354, c355, c356, c357⟩
                  · exact ⟨0, 0, 0, 0, (fun _ => 0), (fun _ => 0), (fun _ => 0), c358, c359, c360, c361⟩
                  · exact ⟨0, 0, 0, 0, (fun _ => 0), (fun _ => 0), (fun _ => 0), c362, c363, c364, c365⟩
                  · exact ⟨0, 0, 0, 0, (fun _ => 0), (fun _ => 0), (fun _ => 0), c366, c367, c368, c369⟩
                  · exact ⟨0, 0, 0, 0, (fun _ => 0), (fun _ => 0), (fun _ => 0), c370, c371, c372, c373⟩
                  · exact ⟨0, 0, 0, 0, (fun _ => 0), (fun _ => 0), (fun _ => 0), c374, c375, c376, c377⟩
              · exfalso; omega
theorem r_X2_init (σ : g_H0) (a : Nat) (hl : σ.length = a + 1) (h0 : σ[a]? = some (.inr (2, [.null, .null, .null, .null, .int (iZ 0), .int (iZ 0), .int (iZ 0)]))) : Ret mX2_init [.ref a] σ (fun r σ' => r = none ∧ rJob a (fun _ => 0) σ' ∧ σ'.length = a + 16 ∧ g_Nf a σ σ') := by
  refine Ret.of moX2_init.1 (Nat.le_of_ble_eq_true rfl) (fun w => ?_)
  have nf0 : g_Nf a σ σ := g_Nf.rf
  show Go w mX2_init (0, 0) 0 [some (.ref a), none] [] σ (fun r σ' => r = none ∧ rJob a (fun _ => 0) σ' ∧ σ'.length = a + 16 ∧ g_Nf a σ σ')
  refine g_aload_n (q := 1) dX2_init_0 rfl rfl ?_
  refine g_objInit (q := 4) obX2_3 ob_i ob_c dX2_init_1 (Nat.le_of_ble_eq_true rfl) (Nat.le_of_ble_eq_true rfl) rfl rfl ?_
  refine g_aload_n (q := 5) dX2_init_4 rfl rfl ?_
  refine z_new (a := (a + 1)) (q := 8) nwX2_9 dX2_init_5 (Nat.le_of_ble_eq_true rfl) (Nat.le_of_ble_eq_true rfl) hl rfl (fun σ1 l4 c2 g3 => ?_)
  have c5 := g3.at h0
  have nf6 := nf0.al g3 (by rw [hl]; omega)
  have l7 : σ1.length = a + 2 := l4
  show Go w mX2_init (1, 4) 8 [some (.ref a), none] [.ref (a + 1), .ref a] σ1 (fun r σ' => r = none ∧ rJob a (fun _ => 0) σ' ∧ σ'.length = a + 16 ∧ g_Nf a σ σ')
  refine g_dup (q := 9) dX2_init_8 rfl rfl ?_
  refine g_callIN (As := []) (rest := [.ref (a + 1), .ref a]) (q := 12) moX0_init rfl lkX2_init_11 dX2_init_9 (r_X0_init σ1 (a + 1)) rfl rfl (Nat.le_of_ble_eq_true rfl) (Nat.le_of_ble_eq_true rfl) (Nat.le_of_ble_eq_true rfl) rfl ?_
  rintro rn sn hp
  rw [hp.2]
  obtain rfl := hp.1
  show Go w mX2_init (1, 4) 12 [some (.ref a), none] [.ref (a + 1), .ref a] σ1 (fun r σ' => r = none ∧ rJob a (fun _ => 0) σ' ∧ σ'.length = a + 16 ∧ g_Nf a σ σ')
  refine z_putF (fs' := [.ref (a + 1), .null, .null, .null, .int (iZ 0), .int (iZ 0), .int (iZ 0)]) (q := 15) fpX2_12 rfl dX2_init_12 c5 (Nat.le_of_ble_eq_true rfl) rfl rfl rfl rfl (fun σ8 c9 f10 => ?_)
  have c11 := (f10.2 (a + 1) (by omega)).trans c2
  have l12 : σ8.length = a + 2 := f10.1.trans l7
  have nf13 := nf6.put f10 (by omega)
  refine g_aload_n (q := 16) dX2_init_15 rfl rfl ?_
  refine g_bipush (v := iZ 6) (q := 18) dX2_init_16 (by decide) rfl ?_
  refine z_newA (t := 3) (a := (a + 2)) (N := 6) (q := 21) dX2_init_18 rfl anX2_18 (by omega) rfl (Nat.le_of_ble_eq_true rfl) (Nat.le_of_ble_eq_true rfl) l12 rfl (fun σ14 l17 c15 g16 => ?_)
  have c18 := g16.at c11
  have c19 := g16.at c9
  have nf20 := nf13.al g16 (by rw [l12]; omega)
  have l21 : σ14.length = a + 3 := l17
  show Go w mX2_init (2, 10) 21 [some (.ref a), none] [.ref (a + 2), .ref a] σ14 (fun r σ' => r = none ∧ rJob a (fun _ => 0) σ' ∧ σ'.length = a + 16 ∧ g_Nf a σ σ')
  refine z_putF (fs' := [.ref (a + 1), .ref (a + 2), .null, .null, .int (iZ 0), .int (iZ 0), .int (iZ 0)]) (q := 24) fpX2_20 rfl dX2_init_21 c19 (Nat.le_of_ble_eq_true rfl) rfl rfl rfl rfl (fun σ22 c23 f24 => ?_)
  have c25 := (f24.2 (a + 1) (by omega)).trans c18
  have c26 := (f24.2 (a + 2) (by omega)).trans c15
  have l27 : σ22.length = a + 3 := f24.1.trans l21
  have nf28 := nf20.put f24 (by omega)
  refine g_aload_n (q := 25) dX2_init_24 rfl rfl ?_
  refine z_iconst (q := 26) dX2_init_25 rfl ?_
  refine z_newA (t := 4) (a := (a + 3)) (N := 5) (q := 29) dX2_init_26 rfl anX2_9 (by omega) rfl (Nat.le_of_ble_eq_true rfl) (Nat.le_of_ble_eq_true rfl) l27 rfl (fun σ29 l32 c30 g31 => ?_)
  have c33 := g31.at c25
  have c34 := g31.at c26
  have c35 := g31.at c23
  have nf36 := nf28.al g31 (by rw [l27]; omega)
  have l37 : σ29.length = a + 4 := l32
  show Go w mX2_init (3, 15) 29 [some (.ref a), none] [.ref (a + 3), .ref a] σ29 (fun r σ' => r = none ∧ rJob a (fun _ => 0) σ' ∧ σ'.length = a + 16 ∧ g_Nf a σ σ')
  refine z_putF (fs' := [.ref (a + 1), .ref (a + 2), .ref (a + 3), .null, .int (iZ 0), .int (iZ 0), .int (iZ 0)]) (q := 32) fpX2_24 rfl dX2_init_29 c35 (Nat.le_of_ble_eq_true rfl) rfl rfl rfl rfl (fun σ38 c39 f40 => ?_)
  have c41 := (f40.2 (a + 1) (by omega)).trans c33
  have c42 := (f40.2 (a + 2) (by omega)).trans c34
  have c43 := (f40.2 (a + 3) (by omega)).trans c30
  have l44 : σ38.length = a + 4 := f40.1.trans l37
  have nf45 := nf36.put f40 (by omega)
  refine g_aload_n (q := 33) dX2_init_32 rfl rfl ?_
  refine z_iconst (q := 34) dX2_init_33 rfl ?_
  refine z_newI (a := (a + 4)) (N := 2) (q := 36) dX2_init_34 (by omega) rfl (Nat.le_of_ble_eq_true rfl) (Nat.le_of_ble_eq_true rfl) l44 rfl (fun σ46 l49 c47 g48 => ?_)
  have c50 := g48.at c41
  have c51 := g48.at c42
  have c52 := g48.at c43
  have c53 := g48.at c39
  have nf54 := nf45.al g48 (by rw [l44]; omega)
  have l55 : σ46.length = a + 5 := l49
  show Go w mX2_init (4, 17) 36 [some (.ref a), none] [.ref (a + 4), .ref a] σ46 (fun r σ' => r = none ∧ rJob a (fun _ => 0) σ' ∧ σ'.length = a + 16 ∧ g_Nf a σ σ')
  refine z_putF (fs' := [.ref (a + 1), .ref (a + 2), .ref (a + 3), .ref (a + 4), .int (iZ 0), .int (iZ 0), .int (iZ 0)]) (q := 39) fpX2_28 rfl dX2_init_36 c53 (Nat.le_of_ble_eq_true rfl) rfl rfl rfl rfl (fun σ56 c57 f58 => ?_)
  have c59 := (f58.2 (a + 1) (by omega)).trans c50
  have c60 := (f58.2 (a + 2) (by omega)).trans c51
  have c61 := (f58.2 (a + 3) (by omega)).trans c52
  have c62 := (f58.2 (a + 4) (by omega)).trans c47
  have l63 : σ56.length = a + 5 := f58.1.trans l55
  have nf64 := nf54.put f58 (by omega)
  refine z_iconst (q := 40) dX2_init_39 rfl ?_
  refine g_istore_n (ml' := [some (.ref a), some (.int (iZ 0))]) (q := 41) dX2_init_40 rfl (Nat.le_of_ble_eq_true rfl) rfl rfl ?_
  refine g_iload_n (q := 42) dX2_init_41 rfl rfl ?_
  refine g_bipush (v := iZ 6) (q := 44) dX2_init_42 (by decide) rfl ?_
  refine z_icmp_ge (t := 66) (q := 47) dX2_init_44 rfl (by omega) rfl (fun pc65 => ?_) (fun pc65 => ?_)
  · exfalso; omega
  · refine g_aload_n (q := 48) dX2_init_47 rfl rfl ?_
    refine g_get (q := 51) flX2_20 dX2_init_48 c57 rfl rfl ?_
    refine g_iload_n (q := 52) dX2_init_51 rfl rfl ?_
    refine z_new (a := (a + 5)) (q := 55) nwX2_18 dX2_init_52 (Nat.le_of_ble_eq_true rfl) (Nat.le_of_ble_eq_true rfl) l63 rfl (fun σ66 l69 c67 g68 => ?_)
    have c70 := g68.at c59
    have c71 := g68.at c60
    have c72 := g68.at c61
    have c73 := g68.at c62
    have c74 := g68.at c57
    have nf75 := nf64.al g68 (by rw [l63]; omega)
    have l76 : σ66.length = a + 6 := l69
    show Go w mX2_init (5, 21) 55 [some (.ref a), some (.int (iZ 0))] [.ref (a + 5), .int (iZ 0), .ref (a + 2)] σ66 (fun r σ' => r = none ∧ rJob a (fun _ => 0) σ' ∧ σ'.length = a + 16 ∧ g_Nf a σ σ')
    refine g_dup (q := 56) dX2_init_55 rfl rfl ?_
    refine g_callIN (As := []) (rest := [.ref (a + 5), .int (iZ 0), .ref (a + 2)]) (q := 59) moX7_init rfl lkX2_init_32 dX2_init_56 (r_X7_init σ66 (a + 5)) rfl rfl (Nat.le_of_ble_eq_true rfl) (Nat.le_of_ble_eq_true rfl) (Nat.le_of_ble_eq_true rfl) rfl ?_
    rintro rn sn hp
    rw [hp.2]
    obtain rfl := hp.1
    show Go w mX2_init (5, 21) 59 [some (.ref a), some (.int (iZ 0))] [.ref (a + 5), .int (iZ 0), .ref (a + 2)] σ66 (fun r σ' => r = none ∧ rJob a (fun _ => 0) σ' ∧ σ'.length = a + 16 ∧ g_Nf a σ σ')
    refine z_aast (q := 60) (r := (RX7, TX7, 4)) dX2_init_59 rfl rfl c71 c67 (by omega) rfl (fun σ77 c78 f79 => ?_)
    have c80 := (f79.2 (a + 1) (by omega)).trans c70
    have c81 := (f79.2 (a + 3) (by omega)).trans c72
    have c82 := (f79.2 (a + 4) (by omega)).trans c73
    have c83 := (f79.2 a (by omega)).trans c74
    have c84 := (f79.2 (a + 5) (by omega)).trans c67
    have l85 : σ77.length = a + 6 := f79.1.trans l76
    have nf86 := nf75.put f79 (by omega)
    refine z_iincc (c := 1) (ml' := [some (.ref a), some (.int (iZ 1))]) (q := 63) dX2_init_60 rfl (by omega) rfl rfl rfl ?_
    refine g_goto (q := 41) dX2_init_63 rfl ?_
    refine g_iload_n (q := 42) dX2_init_41 rfl rfl ?_
    refine g_bipush (v := iZ 6) (q := 44) dX2_init_42 (by decide) rfl ?_
    refine z_icmp_ge (t := 66) (q := 47) dX2_init_44 rfl (by omega) rfl (fun pc87 => ?_) (fun pc87 => ?_)
    · exfalso; omega
    · refine g_aload_n (q := 48) dX2_init_47 rfl rfl ?_
      refine g_get (q := 51) flX2_20 dX2_init_48 c83 rfl rfl ?_
      refine g_iload_n (q := 52) dX2_init_51 rfl rfl ?_
      refine z_new (a := (a + 6)) (q := 55) nwX2_18 dX2_init_52 (Nat.le_of_ble_eq_true rfl) (Nat.le_of_ble_eq_true rfl) l85 rfl (fun σ88 l91 c89 g90 => ?_)
      have c92 := g90.at c80
      have c93 := g90.at c81
      have c94 := g90.at c82
      have c95 := g90.at c83
      have c96 := g90.at c84
      have c97 := g90.at c78
      have nf98 := nf86.al g90 (by rw [l85]; omega)
      have l99 : σ88.length = a + 7 := l91
      show Go w mX2_init (6, 25) 55 [some (.ref a), some (.int (iZ 1))] [.ref (a + 6), .int (iZ 1), .ref (a + 2)] σ88 (fun r σ' => r = none ∧ rJob a (fun _ => 0) σ' ∧ σ'.length = a + 16 ∧ g_Nf a σ σ')
      refine g_dup (q := 56) dX2_init_55 rfl rfl ?_
      refine g_callIN (As := []) (rest := [.ref (a + 6), .int (iZ 1), .ref (a + 2)]) (q := 59) moX7_init rfl lkX2_init_32 dX2_init_56 (r_X7_init σ88 (a + 6)) rfl rfl (Nat.le_of_ble_eq_true rfl) (Nat.le_of_ble_eq_true rfl) (Nat.le_of_ble_eq_true rfl) rfl ?_
      rintro rn sn hp
      rw [hp.2]
      obtain rfl := hp.1
      show Go w mX2_init (6, 25) 59 [some (.ref a), some (.int (iZ 1))] [.ref (a + 6), .int (iZ 1), .ref (a + 2)] σ88 (fun r σ' => r = none ∧ rJob a (fun _ => 0) σ' ∧ σ'.length = a + 16 ∧ g_Nf a σ σ')
      refine z_aast (q := 60) (r := (RX7, TX7, 4)) dX2_init_59 rfl rfl c97 c89 (by omega) rfl (fun σ100 c101 f102 => ?_)
      have c103 := (f102.2 (a + 1) (by omega)).trans c92
      have c104 := (f102.2 (a + 3) (by omega)).trans c93
      have c105 := (f102.2 (a + 4) (by omega)).trans c94
      have c106 := (f102.2 a (by omega)).trans c95
      have c107 := (f102.2 (a + 5) (by omega)).trans c96
      have c108 := (f102.2 (a + 6) (by omega)).trans c89
      have l109 : σ100.length = a + 7 := f102.1.trans l99
      have nf110 := nf98.put f102 (by omega)
      refine z_iincc (c := 2) (ml' := [some (.ref a), some (.int (iZ 2))]) (q := 63) dX2_init_60 rfl (by omega) rfl rfl rfl ?_
      refine g_goto (q := 41) dX2_init_63 rfl ?_
      refine g_iload_n (q := 42) dX2_init_41 rfl rfl ?_
      refine g_bipush (v := iZ 6) (q := 44) dX2_init_42 (by decide) rfl ?_
      refine z_icmp_ge (t := 66) (q := 47) dX2_init_44 rfl (by omega) rfl (fun pc111 => ?_) (fun pc111 => ?_)
      · exfalso; omega
      · refine g_aload_n (q := 48) dX2_init_47 rfl rfl ?_
        refine g_get (q := 51) flX2_20 dX2_init_48 c106 rfl rfl ?_
        refine g_iload_n (q := 52) dX2_init_51 rfl rfl ?_
        refine z_new (a := (a + 7)) (q := 55) nwX2_18 dX2_init_52 (Nat.le_of_ble_eq_true rfl) (Nat.le_of_ble_eq_true rfl) l109 rfl (fun σ112 l115 c113 g114 => ?_)
        have c116 := g114.at c103
        have c117 := g114.at c104
        have c118 := g114.at c105
        have c119 := g114.at c106
        have c120 := g114.at c107
        have c121 := g114.at c108
        have c122 := g114.at c101
        have nf123 := nf110.al g114 (by rw [l109]; omega)
        have l124 : σ112.length = a + 8 := l115
        show Go w mX2_init (7, 29) 55 [some (.ref a), some (.int (iZ 2))] [.ref (a + 7), .int (iZ 2), .ref (a + 2)] σ112 (fun r σ' => r = none ∧ rJob a (fun _ => 0) σ' ∧ σ'.length = a + 16 ∧ g_Nf a σ σ')
        refine g_dup (q := 56) dX2_init_55 rfl rfl ?_
        refine g_callIN (As := []) (rest := [.ref (a + 7), .int (iZ 2), .ref (a + 2)]) (q := 59) moX7_init rfl lkX2_init_32 dX2_init_56 (r_X7_init σ112 (a + 7)) rfl rfl (Nat.le_of_ble_eq_true rfl) (Nat.le_of_ble_eq_true rfl) (Nat.le_of_ble_eq_true rfl) rfl ?_
        rintro rn sn hp
        rw [hp.2]
        obtain rfl := hp.1
        show Go w mX2_init (7, 29) 59 [some (.ref a), some (.int (iZ 2))] [.ref (a + 7), .int (iZ 2), .ref (a + 2)] σ112 (fun r σ' => r = none ∧ rJob a (fun _ => 0) σ' ∧ σ'.length = a + 16 ∧ g_Nf a σ σ')
        refine z_aast (q := 60) (r := (RX7, TX7, 4)) dX2_init_59 rfl rfl c122 c113 (by omega) rfl (fun σ125 c126 f127 => ?_)
        have c128 := (f127.2 (a + 1) (by omega)).trans c116
        have c129 := (f127.2 (a + 3) (by omega)).trans c117
        have c130 := (f127.2 (a + 4) (by omega)).trans c118
        have c131 := (f127.2 a (by omega)).trans c119
        have c132 := (f127.2 (a + 5) (by omega)).trans c120
        have c133 := (f127.2 (a + 6) (by omega)).trans c121
        have c134 := (f127.2 (a + 7) (by omega)).trans c113
        have l135 : σ125.length = a + 8 := f127.1.trans l124
        have nf136 := nf123.put f127 (by omega)
        refine z_iincc (c := 3) (ml' := [some (.ref a), some (.int (iZ 3))]) (q := 63) dX2_init_60 rfl (by omega) rfl rfl rfl ?_
        refine g_goto (q := 41) dX2_init_63 rfl ?_
        refine g_iload_n (q := 42) dX2_init_41 rfl rfl ?_
        refine g_bipush (v := iZ 6) (q := 44) dX2_init_42 (by decide) rfl ?_
        refine z_icmp_ge (t := 66) (q := 47) dX2_init_44 rfl (by omega) rfl (fun pc137 => ?_) (fun pc137 => ?_)
        · exfalso; omega
        · refine g_aload_n (q := 48) dX2_init_47 rfl rfl ?_
          refine g_get (q := 51) flX2_20 dX2_init_48 c131 rfl rfl ?_
          refine g_iload_n (q := 52) dX2_init_51 rfl rfl ?_
          refine z_new (a := (a + 8)) (q := 55) nwX2_18 dX2_init_52 (Nat.le_of_ble_eq_true rfl) (Nat.le_of_ble_eq_true rfl) l135 rfl (fun σ138 l141 c139 g140 => ?_)
          have c142 := g140.at c128
          have c143 := g140.at c129
          have c144 := g140.at c130
          have c145 := g140.at c131
          have c146 := g140.at c132
          have c147 := g140.at c133
          have c148 := g140.at c134
          have c149 := g140.at c126
          have nf150 := nf136.al g140 (by rw [l135]; omega)
          have l151 : σ138.length = a + 9 := l141
          show Go w mX2_init (8, 33) 55 [some (.ref a), some (.int (iZ 3))] [.ref (a + 8), .int (iZ 3), .ref (a + 2)] σ138 (fun r σ' => r = none ∧ rJob a (fun _ => 0) σ' ∧ σ'.length = a + 16 ∧ g_Nf a σ σ')
          refine g_dup (q := 56) dX2_init_55 rfl rfl ?_
          refine g_callIN (As := []) (rest := [.ref (a + 8), .int (iZ 3), .ref (a + 2)]) (q := 59) moX7_init rfl lkX2_init_32 dX2_init_56 (r_X7_init σ138 (a + 8)) rfl rfl (Nat.le_of_ble_eq_true rfl) (Nat.le_of_ble_eq_true rfl) (Nat.le_of_ble_eq_true rfl) rfl ?_
          rintro rn sn hp
          rw [hp.2]
          obtain rfl := hp.1
          show Go w mX2_init (8, 33) 59 [some (.ref a), some (.int (iZ 3))] [.ref (a + 8), .int (iZ 3), .ref (a + 2)] σ138 (fun r σ' => r = none ∧ rJob a (fun _ => 0) σ' ∧ σ'.length = a + 16 ∧ g_Nf a σ σ')
          refine z_aast (q := 60) (r := (RX7, TX7, 4)) dX2_init_59 rfl rfl c149 c139 (by omega) rfl (fun σ152 c153 f154 => ?_)
          have c155 := (f154.2 (a + 1) (by omega)).trans c142
          have c156 := (f154.2 (a + 3) (by omega)).trans c143
          have c157 := (f154.2 (a + 4) (by omega)).trans c144
          have c158 := (f154.2 a (by omega)).trans c145
          have c159 := (f154.2 (a + 5) (by omega)).trans c146
          have c160 := (f154.2 (a + 6) (by omega)).trans c147
          have c161 := (f154.2 (a + 7) (by omega)).trans c148
          have c162 := (f154.2 (a + 8) (by omega)).trans c139
          have l163 : σ152.length = a + 9 := f154.1.trans l151
          have nf164 := nf150.put f154 (by omega)
          refine z_iincc (c := 4) (ml' := [some (.ref a), some (.int (iZ 4))]) (q := 63) dX2_init_60 rfl (by omega) rfl rfl rfl ?_
          refine g_goto (q := 41) dX2_init_63 rfl ?_
          refine g_iload_n (q := 42) dX2_init_41 rfl rfl ?_
          refine g_bipush (v := iZ 6) (q := 44) dX2_init_42 (by decide) rfl ?_
          refine z_icmp_ge (t := 66) (q := 47) dX2_init_44 rfl (by omega) rfl (fun pc165 => ?_) (fun pc165 => ?_)
          · exfalso; omega
          · refine g_aload_n (q := 48) dX2_init_47 rfl rfl ?_
            refine g_get (q := 51) flX2_20 dX2_init_48 c158 rfl rfl ?_
            refine g_iload_n (q := 52) dX2_init_51 rfl rfl ?_
            refine z_new (a := (a + 9)) (q := 55) nwX2_18 dX2_init_52 (Nat.le_of_ble_eq_true rfl) (Nat.le_of_ble_eq_true rfl) l163 rfl (fun σ166 l169 c167 g168 => ?_)
            have c170 := g168.at c155
            have c171 := g168.at c156
            have c172 := g168.at c157
            have c173 := g168.at c158
            have c174 := g168.at c159
            have c175 := g168.at c160
            have c176 := g168.at c161
            have c177 := g168.at c162
            have c178 := g168.at c153
            have nf179 := nf164.al g168 (by rw [l163]; omega)
            have l180 : σ166.length = a + 10 := l169
            show Go w mX2_init (9, 37) 55 [some (.ref a), some (.int (iZ 4))] [.ref (a + 9), .int (iZ 4), .ref (a + 2)] σ166 (fun r σ' => r = none ∧ rJob a (fun _ => 0) σ' ∧ σ'.length = a + 16 ∧ g_Nf a σ σ')
            refine g_dup (q := 56) dX2_init_55 rfl rfl ?_
            refine g_callIN (As := []) (rest := [.ref (a + 9), .int (iZ 4), .ref (a + 2)]) (q := 59) moX7_init rfl lkX2_init_32 dX2_init_56 (r_X7_init σ166 (a + 9)) rfl rfl (Nat.le_of_ble_eq_true rfl) (Nat.le_of_ble_eq_true rfl) (Nat.le_of_ble_eq_true rfl) rfl ?_
            rintro rn sn hp
            rw [hp.2]
            obtain rfl := hp.1
            show Go w mX2_init (9, 37) 59 [some (.ref a), some (.int (iZ 4))] [.ref (a + 9), .int (iZ 4), .ref (a + 2)] σ166 (fun r σ' => r = none ∧ rJob a (fun _ => 0) σ' ∧ σ'.length = a + 16 ∧ g_Nf a σ σ')
            refine z_aast (q := 60) (r := (RX7, TX7, 4)) dX2_init_59 rfl rfl c178 c167 (by omega) rfl (fun σ181 c182 f183 => ?_)
            have c184 := (f183.2 (a + 1) (by omega)).trans c170
            have c185 := (f183.2 (a + 3) (by omega)).trans c171
            have c186 := (f183.2 (a + 4) (by omega)).trans c172
            have c187 := (f183.2 a (by omega)).trans c173
            have c188 := (f183.2 (a + 5) (by omega)).trans c174
            have c189 := (f183.2 (a + 6) (by omega)).trans c175
            have c190 := (f183.2 (a + 7) (by omega)).trans c176
            have c191 := (f183.2 (a + 8) (by omega)).trans c177
            have c192 := (f183.2 (a + 9) (by omega)).trans c167
            have l193 : σ181.length = a + 10 := f183.1.trans l180
            have nf194 := nf179.put f183 (by omega)
            refine z_iincc (c := 5) (ml' := [some (.ref a), some (.int (iZ 5))]) (q := 63) dX2_init_60 rfl (by omega) rfl rfl rfl ?_
            refine g_goto (q := 41) dX2_init_63 rfl ?_
            refine g_iload_n (q := 42) dX2_init_41 rfl rfl ?_
            refine g_bipush (v := iZ 6) (q := 44) dX2_init_42 (by decide) rfl ?_
            refine z_icmp_ge (t := 66) (q := 47) dX2_init_44 rfl (by omega) rfl (fun pc195 => ?_) (fun pc195 => ?_)
            · exfalso; omega
            · refine g_aload_n (q := 48) dX2_init_47 rfl rfl ?_
              refine g_get (q := 51) flX2_20 dX2_init_48 c187 rfl rfl ?_
              refine g_iload_n (q := 52) dX2_init_51 rfl rfl ?_
              refine z_new (a := (a + 10)) (q := 55) nwX2_18 dX2_init_52 (Nat.le_of_ble_eq_true rfl) (Nat.le_of_ble_eq_true rfl) l193 rfl (fun σ196 l199 c197 g198 => ?_)
              have c200 := g198.at c184
              have c201 := g198.at c185
              have c202 := g198.at c186
              have c203 := g198.at c187
              have c204 := g198.at c188
              have c205 := g198.at c189
              have c206 := g198.at c190
              have c207 := g198.at c191
              have c208 := g198.at c192
              have c209 := g198.at c182
              have nf210 := nf194.al g198 (by rw [l193]; omega)
              have l211 : σ196.length = a + 11 := l199
              show Go w mX2_init (10, 41) 55 [some (.ref a), some (.int (iZ 5))] [.ref (a + 10), .int (iZ 5), .ref (a + 2)] σ196 (fun r σ' => r = none ∧ rJob a (fun _ => 0) σ' ∧ σ'.length = a + 16 ∧ g_Nf a σ σ')
              refine g_dup (q := 56) dX2_init_55 rfl rfl ?_
              refine g_callIN (As := []) (rest := [.ref (a + 10), .int (iZ 5), .ref (a + 2)]) (q := 59) moX7_init rfl lkX2_init_32 dX2_init_56 (r_X7_init σ196 (a + 10)) rfl rfl (Nat.le_of_ble_eq_true rfl) (Nat.le_of_ble_eq_true rfl) (Nat.le_of_ble_eq_true rfl) rfl ?_
              rintro rn sn hp
              rw [hp.2]
              obtain rfl := hp.1
              show Go w mX2_init (10, 41) 59 [some (.ref a), some (.int (iZ 5))] [.ref (a + 10), .int (iZ 5), .ref (a + 2)] σ196 (fun r σ' => r = none ∧ rJob a (fun _ => 0) σ' ∧ σ'.length = a + 16 ∧ g_Nf a σ σ')
              refine z_aast (q := 60) (r := (RX7, TX7, 4)) dX2_init_59 rfl rfl c209 c197 (by omega) rfl (fun σ212 c213 f214 => ?_)
              have c215 := (f214.2 (a + 1) (by omega)).trans c200
              have c216 := (f214.2 (a + 3) (by omega)).trans c201
              have c217 := (f214.2 (a + 4) (by omega)).trans c202
              have c218 := (f214.2 a (by omega)).trans c203
              have c219 := (f214.2 (a + 5) (by omega)).trans c204
              have c220 := (f214.2 (a + 6) (by omega)).trans c205
              have c221 := (f214.2 (a + 7) (by omega)).trans c206
              have c222 := (f214.2 (a + 8) (by omega)).trans c207
              have c223 := (f214.2 (a + 9) (by omega)).trans c208
              have c224 := (f214.2 (a + 10) (by omega)).trans c197
              have l225 : σ212.length = a + 11 := f214.1.trans l211
              have nf226 := nf210.put f214 (by omega)
              refine z_iincc (c := 6) (ml' := [some (.ref a), some (.int (iZ 6))]) (q := 63) dX2_init_60 rfl (by omega) rfl rfl rfl ?_
              refine g_goto (q := 41) dX2_init_63 rfl ?_
              refine g_iload_n (q := 42) dX2_init_41 rfl rfl ?_
              refine g_bipush (v := iZ 6) (q := 44) dX2_init_42 (by decide) rfl ?_
              refine z_icmp_ge (t := 66) (q := 47) dX2_init_44 rfl (by omega) rfl (fun pc227 => ?_) (fun pc227 => ?_)
              · refine z_iconst (q := 67) dX2_init_66 rfl ?_
                refine g_istore_n (ml' := [some (.ref a), some (.int (iZ 0))]) (q := 68) dX2_init_67 rfl (Nat.le_of_ble_eq_true rfl) rfl rfl ?_
                refine g_iload_n (q := 69) dX2_init_68 rfl rfl ?_
                refine z_iconst (q := 70) dX2_init_69 rfl ?_
                refine z_icmp_ge (t := 92) (q := 73) dX2_init_70 rfl (by omega) rfl (fun pc228 => ?_) (fun pc228 => ?_)
                · exfalso; omega
                · refine g_aload_n (q := 74) dX2_init_73 rfl rfl ?_
                  refine g_get (q := 77) flX2_24 dX2_init_74 c218 rfl rfl ?_
                  refine g_iload_n (q := 78) dX2_init_77 rfl rfl ?_
                  refine z_new (a := (a + 11)) (q := 81) nwX2_9 dX2_init_78 (Nat.le_of_ble_eq_true rfl) (Nat.le_of_ble_eq_true rfl) l225 rfl (fun σ229 l232 c230 g231 => ?_)
                  have c233 := g231.at c215
                  have c234 := g231.at c216
                  have c235 := g231.at c217
                  have c236 := g231.at c218
                  have c237 := g231.at c219
                  have c238 := g231.at c220
                  have c239 := g231.at c221
                  have c240 := g231.at c222
                  have c241 := g231.at c223
                  have c242 := g231.at c224
                  have c243 := g231.at c213
                  have nf244 := nf226.al g231 (by rw [l225]; omega)
                  have l245 : σ229.length = a + 12 := l232
                  show Go w mX2_init (11, 45) 81 [some (.ref a), some (.int (iZ 0))] [.ref (a + 11), .int (iZ 0), .ref (a + 3)] σ229 (fun r σ' => r = none ∧ rJob a (fun _ => 0) σ' ∧ σ'.length = a + 16 ∧ g_Nf a σ σ')
                  refine g_dup (q := 82) dX2_init_81 rfl rfl ?_
                  refine g_callIN (As := []) (rest := [.ref (a + 11), .int (iZ 0), .ref (a + 3)]) (q := 85) moX0_init rfl lkX2_init_11 dX2_init_82 (r_X0_init σ229 (a + 11)) rfl rfl (Nat.le_of_ble_eq_true rfl) (Nat.le_of_ble_eq_true rfl) (Nat.le_of_ble_eq_true rfl) rfl ?_
                  rintro rn sn hp
                  rw [hp.2]
                  obtain rfl := hp.1
                  show Go w mX2_init (11, 45) 85 [some (.ref a), some (.int (iZ 0))] [.ref (a + 11), .int (iZ 0), .ref (a + 3)] σ229 (fun r σ' => r = none ∧ rJob a (fun _ => 0) σ' ∧ σ'.length = a + 16 ∧ g_Nf a σ σ')
                  refine z_aast (q := 86) (r := (RX0, TX0, 4)) dX2_init_85 rfl rfl c234 c230 (by omega) rfl (fun σ246 c247 f248 => ?_)
                  have c249 := (f248.2 (a + 1) (by omega)).trans c233
                  have c250 := (f248.2 (a + 4) (by omega)).trans c235
                  have c251 := (f248.2 a (by omega)).trans c236
                  have c252 := (f248.2 (a + 5) (by omega)).trans c237
                  have c253 := (f248.2 (a + 6) (by omega)).trans c238
                  have c254 := (f248.2 (a + 7) (by omega)).trans c239
                  have c255 := (f248.2 (a + 8) (by omega)).trans c240
                  have c256 := (f248.2 (a + 9) (by omega)).trans c241
                  have c257 := (f248.2 (a + 10) (by omega)).trans c242
                  have c258 := (f248.2 (a + 2) (by omega)).trans c243
                  have c259 := (f248.2 (a + 11) (by omega)).trans c230
                  have l260 : σ246.length = a + 12 := f248.1.trans l245
                  have nf261 := nf244.put f248 (by omega)
                  refine z_iincc (c := 1) (ml' := [some (.ref a), some (.int (iZ 1))]) (q := 89) dX2_init_86 rfl (by omega) rfl rfl rfl ?_
                  refine g_goto (q := 68) dX2_init_89 rfl ?_
                  refine g_iload_n (q := 69) dX2_init_68 rfl rfl ?_
                  refine z_iconst (q := 70) dX2_init_69 rfl ?_
                  refine z_icmp_ge (t := 92) (q := 73) dX2_init_70 rfl (by omega) rfl (fun pc262 => ?_) (fun pc262 => ?_)
                  · exfalso; omega
                  · refine g_aload_n (q := 74) dX2_init_73 rfl rfl ?_
                    refine g_get (q := 77) flX2_24 dX2_init_74 c251 rfl rfl ?_
                    refine g_iload_n (q := 78) dX2_init_77 rfl rfl ?_
                    refine z_new (a := (a + 12)) (q := 81) nwX2_9 dX2_init_78 (Nat.le_of_ble_eq_true rfl) (Nat.le_of_ble_eq_true rfl) l260 rfl (fun σ263 l266 c264 g265 => ?_)
                    have c267 := g265.at c249
                    have c268 := g265.at c250
                    have c269 := g265.at c251
                    have c270 := g265.at c252
                    have c271 := g265.at c253
                    have c272 := g265.at c254
                    have c273 := g265.at c255
                    have c274 := g265.at c256
                    have c275 := g265.at c257
                    have c276 := g265.at c258
                    have c277 := g265.at c259
                    have c278 := g265.at c247
                    have nf279 := nf261.al g265 (by rw [l260]; omega)
                    have l280 : σ263.length = a + 13 := l266
                    show Go w mX2_init (12, 49) 81 [some (.ref a), some (.int (iZ 1))] [.ref (a + 12), .int (iZ 1), .ref (a + 3)] σ263 (fun r σ' => r = none ∧ rJob a (fun _ => 0) σ' ∧ σ'.length = a + 16 ∧ g_Nf a σ σ')
                    refine g_dup (q := 82) dX2_init_81 rfl rfl ?_
                    refine g_callIN (As := []) (rest := [.ref (a + 12), .int (iZ 1), .ref (a + 3)]) (q := 85) moX0_init rfl lkX2_init_11 dX2_init_82 (r_X0_init σ263 (a + 12)) rfl rfl (Nat.le_of_ble_eq_true rfl) (Nat.le_of_ble_eq_true rfl) (Nat.le_of_ble_eq_true rfl) rfl ?_
                    rintro rn sn hp
                    rw [hp.2]
                    obtain rfl := hp.1
                    show Go w mX2_init (12, 49) 85 [some (.ref a), some (.int (iZ 1))] [.ref (a + 12), .int (iZ 1), .ref (a + 3)] σ263 (fun r σ' => r = none ∧ rJob a (fun _ => 0) σ' ∧ σ'.length = a + 16 ∧ g_Nf a σ σ')
                    refine z_aast (q := 86) (r := (RX0, TX0, 4)) dX2_init_85 rfl rfl c278 c264 (by omega) rfl (fun σ281 c282 f283 => ?_)
                    have c284 := (f283.2 (a + 1) (by omega)).trans c267
                    have c285 := (f283.2 (a + 4) (by omega)).trans c268
                    have c286 := (f283.2 a (by omega)).trans c269
                    have c287 := (f283.2 (a + 5) (by omega)).trans c270
                    have c288 := (f283.2 (a + 6) (by omega)).trans c271
                    have c289 := (f283.2 (a + 7) (by omega)).trans c272
                    have c290 := (f283.2 (a + 8) (by omega)).trans c273
                    have c291 := (f283.2 (a + 9) (by omega)).trans c274
                    have c292 := (f283.2 (a + 10) (by omega)).trans c275
                    have c293 := (f283.2 (a + 2) (by omega)).trans c276
                    have c294 := (f283.2 (a + 11) (by omega)).trans c277
                    have c295 := (f283.2 (a + 12) (by omega)).trans c264
                    have l296 : σ281.length = a + 13 := f283.1.trans l280
                    have nf297 := nf279.put f283 (by omega)
                    refine z_iincc (c := 2) (ml' := [some (.ref a), some (.int (iZ 2))]) (q := 89) dX2_init_86 rfl (by omega) rfl rfl rfl ?_
                    refine g_goto (q := 68) dX2_init_89 rfl ?_
                    refine g_iload_n (q := 69) dX2_init_68 rfl rfl ?_
                    refine z_iconst (q := 70) dX2_init_69 rfl ?_
                    refine z_icmp_ge (t := 92) (q := 73) dX2_init_70 rfl (by omega) rfl (fun pc298 => ?_) (fun pc298 => ?_)
                    · exfalso; omega
                    · refine g_aload_n (q := 74) dX2_init_73 rfl rfl ?_
                      refine g_get (q := 77) flX2_24 dX2_init_74 c286 rfl rfl ?_
                      refine g_iload_n (q := 78) dX2_init_77 rfl rfl ?_
                      refine z_new (a := (a + 13)) (q := 81) nwX2_9 dX2_init_78 (Nat.le_of_ble_eq_true rfl) (Nat.le_of_ble_eq_true rfl) l296 rfl (fun σ299 l302 c300 g301 => ?_)
                      have c303 := g301.at c284
                      have c304 := g301.at c285
                      have c305 := g301.at c286
                      have c306 := g301.at c287
                      have c307 := g301.at c288
                      have c308 := g301.at c289
                      have c309 := g301.at c290
                      have c310 := g301.at c291
                      have c311 := g301.at c292
                      have c312 := g301.at c293
                      have c313 := g301.at c294
                      have c314 := g301.at c295
                      have c315 := g301.at c282
                      have nf316 := nf297.al g301 (by rw [l296]; omega)
                      have l317 : σ299.length = a + 14 := l302
                      show Go w mX2_init (13, 53) 81 [some (.ref a), some (.int (iZ 2))] [.ref (a + 13), .int (iZ 2), .ref (a + 3)] σ299 (fun r σ' => r = none ∧ rJob a (fun _ => 0) σ' ∧ σ'.length = a + 16 ∧ g_Nf a σ σ')
                      refine g_dup (q := 82) dX2_init_81 rfl rfl ?_
                      refine g_callIN (As := []) (rest := [.ref (a + 13), .int (iZ 2), .ref (a + 3)]) (q := 85) moX0_init rfl lkX2_init_11 dX2_init_82 (r_X0_init σ299 (a + 13)) rfl rfl (Nat.le_of_ble_eq_true rfl) (Nat.le_of_ble_eq_true rfl) (Nat.le_of_ble_eq_true rfl) rfl ?_
                      rintro rn sn hp
                      rw [hp.2]
                      obtain rfl := hp.1
                      show Go w mX2_init (13, 53) 85 [some (.ref a), some (.int (iZ 2))] [.ref (a + 13), .int (iZ 2), .ref (a + 3)] σ299 (fun r σ' => r = none ∧ rJob a (fun _ => 0) σ' ∧ σ'.length = a + 16 ∧ g_Nf a σ σ')
                      refine z_aast (q := 86) (r := (RX0, TX0, 4)) dX2_init_85 rfl rfl c315 c300 (by omega) rfl (fun σ318 c319 f320 => ?_)
                      have c321 := (f320.2 (a + 1) (by omega)).trans c303
                      have c322 := (f320.2 (a + 4) (by omega)).trans c304
                      have c323 := (f320.2 a (by omega)).trans c305
                      have c324 := (f320.2 (a + 5) (by omega)).trans c306
                      have c325 := (f320.2 (a + 6) (by omega)).trans c307
                      have c326 := (f320.2 (a + 7) (by omega)).trans c308
                      have c327 := (f320.2 (a + 8) (by omega)).trans c309
                      have c328 := (f320.2 (a + 9) (by omega)).trans c310
                      have c329 := (f320.2 (a + 10) (by omega)).trans c311
                      have c330 := (f320.2 (a + 2) (by omega)).trans c312
                      have c331 := (f320.2 (a + 11) (by omega)).trans c313
                      have c332 := (f320.2 (a + 12) (by omega)).trans c314
                      have c333 := (f320.2 (a + 13) (by omega)).trans c300
                      have l334 : σ318.length = a + 14 := f320.1.trans l317
                      have nf335 := nf316.put f320 (by omega)
                      refine z_iincc (c := 3) (ml' := [some (.ref a), some (.int (iZ 3))]) (q := 89) dX2_init_86 rfl (by omega) rfl rfl rfl ?_
                      refine g_goto (q := 68) dX2_init_89 rfl ?_
                      refine g_iload_n (q := 69) dX2_init_68 rfl rfl ?_
                      refine z_iconst (q := 70) dX2_init_69 rfl ?_
                      refine z_icmp_ge (t := 92) (q := 73) dX2_init_70 rfl (by omega) rfl (fun pc336 => ?_) (fun pc336 => ?_)
                      · exfalso; omega
                      · refine g_aload_n (q := 74) dX2_init_73 rfl rfl ?_
                        refine g_get (q := 77) flX2_24 dX2_init_74 c323 rfl rfl ?_
                        refine g_iload_n (q := 78) dX2_init_77 rfl rfl ?_
                        refine z_new (a := (a + 14)) (q := 81) nwX2_9 dX2_init_78 (Nat.le_of_ble_eq_true rfl) (Nat.le_of_ble_eq_true rfl) l334 rfl (fun σ337 l340 c338 g339 => ?_)
                        have c341 := g339.at c321
                        have c342 := g339.at c322
                        have c343 := g339.at c323
                        have c344 := g339.at c324
                        have c345 := g339.at c325
                        have c346 := g339.at c326
                        have c347 := g339.at c327
                        have c348 := g339.at c328
                        have c349 := g339.at c329
                        have c350 := g339.at c330
                        have c351 := g339.at c331
                        have c352 := g339.at c332
                        have c353 := g339.at c333
                        have c354 := g339.at c319
                        have nf355 := nf335.al g339 (by rw [l334]; omega)
                        have l356 : σ337.length = a + 15 := l340
                        show Go w mX2_init (14, 57) 81 [some (.ref a), some (.int (iZ 3))] [.ref (a + 14), .int (iZ 3), .ref (a + 3)] σ337 (fun r σ' => r = none ∧ rJob a (fun _ => 0) σ' ∧ σ'.length = a + 16 ∧ g_Nf a σ σ')
                        refine g_dup (q := 82) dX2_init_81 rfl rfl ?_
                        refine g_callIN (As := []) (rest := [.ref (a + 14), .int (iZ 3), .ref (a + 3)]) (q := 85) moX0_init rfl lkX2_init_11 dX2_init_82 (r_X0_init σ337 (a + 14)) rfl rfl (Nat.le_of_ble_eq_true rfl) (Nat.le_of_ble_eq_true rfl) (Nat.le_of_ble_eq_true rfl) rfl ?_
                        rintro rn sn hp
                        rw [hp.2]
                        obtain rfl := hp.1
                        show Go w mX2_init (14, 57) 85 [some (.ref a), some (.int (iZ 3))] [.ref (a + 14), .int (iZ 3), .ref (a + 3)] σ337 (fun r σ' => r = none ∧ rJob a (fun _ => 0) σ' ∧ σ'.length = a + 16 ∧ g_Nf a σ σ')
                        refine z_aast (q := 86) (r := (RX0, TX0, 4)) dX2_init_85 rfl rfl c354 c338 (by omega) rfl (fun σ357 c358 f359 => ?_)
                        have c360 := (f359.2 (a + 1) (by omega)).trans c341
                        have c361 := (f359.2 (a + 4) (by omega)).trans c342
                        have c362 := (f359.2 a (by omega)).trans c343
                        have c363 := (f359.2 (a + 5) (by omega)).trans c344
                        have c364 := (f359.2 (a + 6) (by omega)).trans c345
                        have c365 := (f359.2 (a + 7) (by omega)).trans c346
                        have c366 := (f359.2 (a + 8) (by omega)).trans c347
                        have c367 := (f359.2 (a + 9) (by omega)).trans c348
                        have c368 := (f359.2 (a + 10) (by omega)).trans c349
                        have c369 := (f359.2 (a + 2) (by omega)).trans c350
                        have c370 := (f359.2 (a + 11) (by omega)).trans c351
                        have c371 := (f359.2 (a + 12) (by omega)).trans c352
                        have c372 := (f359.2 (a + 13) (by omega)).trans c353
                        have c373 := (f359.2 (a + 14) (by omega)).trans c338
                        have l374 : σ357.length = a + 15 := f359.1.trans l356
                        have nf375 := nf355.put f359 (by omega)
                        refine z_iincc (c := 4) (ml' := [some (.ref a), some (.int (iZ 4))]) (q := 89) dX2_init_86 rfl (by omega) rfl rfl rfl ?_
                        refine g_goto (q := 68) dX2_init_89 rfl ?_
                        refine g_iload_n (q := 69) dX2_init_68 rfl rfl ?_
                        refine z_iconst (q := 70) dX2_init_69 rfl ?_
                        refine z_icmp_ge (t := 92) (q := 73) dX2_init_70 rfl (by omega) rfl (fun pc376 => ?_) (fun pc376 => ?_)
                        · exfalso; omega
                        · refine g_aload_n (q := 74) dX2_init_73 rfl rfl ?_
                          refine g_get (q := 77) flX2_24 dX2_init_74 c362 rfl rfl ?_
                          refine g_iload_n (q := 78) dX2_init_77 rfl rfl ?_
                          refine z_new (a := (a + 15)) (q := 81) nwX2_9 dX2_init_78 (Nat.le_of_ble_eq_true rfl) (Nat.le_of_ble_eq_true rfl) l374 rfl (fun σ377 l380 c378 g379 => ?_)
                          have c381 := g379.at c360
                          have c382 := g379.at c361
                          have c383 := g379.at c362
                          have c384 := g379.at c363
                          have c385 := g379.at c364
                          have c386 := g379.at c365
                          have c387 := g379.at c366
                          have c388 := g379.at c367
                          have c389 := g379.at c368
                          have c390 := g379.at c369
                          have c391 := g379.at c370
                          have c392 := g379.at c371
                          have c393 := g379.at c372
                          have c394 := g379.at c373
                          have c395 := g379.at c358
                          have nf396 := nf375.al g379 (by rw [l374]; omega)
                          have l397 : σ377.length = a + 16 := l380
                          show Go w mX2_init (15, 61) 81 [some (.ref a), some (.int (iZ 4))] [.ref (a + 15), .int (iZ 4), .ref (a + 3)] σ377 (fun r σ' => r = none ∧ rJob a (fun _ => 0) σ' ∧ σ'.length = a + 16 ∧ g_Nf a σ σ')
                          refine g_dup (q := 82) dX2_init_81 rfl rfl ?_
                          refine g_callIN (As := []) (rest := [.ref (a + 15), .int (iZ 4), .ref (a + 3)]) (q := 85) moX0_init rfl lkX2_init_11 dX2_init_82 (r_X0_init σ377 (a + 15)) rfl rfl (Nat.le_of_ble_eq_true rfl) (Nat.le_of_ble_eq_true rfl) (Nat.le_of_ble_eq_true rfl) rfl ?_
                          rintro rn sn hp
                          rw [hp.2]
                          obtain rfl := hp.1
                          show Go w mX2_init (15, 61) 85 [some (.ref a), some (.int (iZ 4))] [.ref (a + 15), .int (iZ 4), .ref (a + 3)] σ377 (fun r σ' => r = none ∧ rJob a (fun _ => 0) σ' ∧ σ'.length = a + 16 ∧ g_Nf a σ σ')
                          refine z_aast (q := 86) (r := (RX0, TX0, 4)) dX2_init_85 rfl rfl c395 c378 (by omega) rfl (fun σ398 c399 f400 => ?_)
                          have c401 := (f400.2 (a + 1) (by omega)).trans c381
                          have c402 := (f400.2 (a + 4) (by omega)).trans c382
                          have c403 := (f400.2 a (by omega)).trans c383
                          have c404 := (f400.2 (a + 5) (by omega)).trans c384
                          have c405 := (f400.2 (a + 6) (by omega)).trans c385
                          have c406 := (f400.2 (a + 7) (by omega)).trans c386
                          have c407 := (f400.2 (a + 8) (by omega)).trans c387
                          have c408 := (f400.2 (a + 9) (by omega)).trans c388
                          have c409 := (f400.2 (a + 10) (by omega)).trans c389
                          have c410 := (f400.2 (a + 2) (by omega)).trans c390
                          have c411 := (f400.2 (a + 11) (by omega)).trans c391
                          have c412 := (f400.2 (a + 12) (by omega)).trans c392
                          have c413 := (f400.2 (a + 13) (by omega)).trans c393
                          have c414 := (f400.2 (a + 14) (by omega)).trans c394
                          have c415 := (f400.2 (a + 15) (by omega)).trans c378
                          have l416 : σ398.length = a + 16 := f400.1.trans l397
                          have nf417 := nf396.put f400 (by omega)
                          refine z_iincc (c := 5) (ml' := [some (.ref a), some (.int (iZ 5))]) (q := 89) dX2_init_86 rfl (by omega) rfl rfl rfl ?_
                          refine g_goto (q := 68) dX2_init_89 rfl ?_
                          refine g_iload_n (q := 69) dX2_init_68 rfl rfl ?_
                          refine z_iconst (q := 70) dX2_init_69 rfl ?_
                          refine z_icmp_ge (t := 92) (q := 73) dX2_init_70 rfl (by omega) rfl (fun pc418 => ?_) (fun pc418 => ?_)
                          · refine g_vret dX2_init_92 rfl (Nat.le_of_ble_eq_true rfl) (Nat.le_of_ble_eq_true rfl) ?_
                            refine ⟨rfl, ⟨c403, c401, ⟨_, c410, fun k hk => ?_⟩, ⟨_, c399, fun k hk => ?_⟩, ⟨_, c402, fun _ _ _ => rfl⟩, fun k hk => ?_, fun k hk => ?_⟩, l416, nf417⟩
                            · rcases (by omega : k = 0 ∨ k = 1 ∨ k = 2 ∨ k = 3 ∨ k = 4 ∨ k = 5) with rfl | rfl | rfl | rfl | rfl | rfl <;> rfl
                            · rcases (by omega : k = 0 ∨ k = 1 ∨ k = 2 ∨ k = 3 ∨ k = 4) with rfl | rfl | rfl | rfl | rfl <;> rfl
                            · rcases (by omega : k = 0 ∨ k = 1 ∨ k = 2 ∨ k = 3 ∨ k = 4 ∨ k = 5) with rfl | rfl | rfl | rfl | rfl | rfl
                              · exact ⟨0, 0, 0, 0, c404, fun _ => ⟨rfl, rfl, rfl, rfl⟩⟩
                              · exact ⟨0, 0, 0, 0, c405, fun _ => ⟨rfl, rfl, rfl, rfl⟩⟩
                              · exact ⟨0, 0, 0, 0, c406, fun _ => ⟨rfl, rfl, rfl, rfl⟩⟩
                              · exact ⟨0, 0, 0, 0, c407, fun _ => ⟨rfl, rfl, rfl, rfl⟩⟩
                              · exact ⟨0, 0, 0, 0, c408, fun _ => ⟨rfl, rfl, rfl, rfl⟩⟩
                              · exact ⟨0, 0, 0, 0, c409, fun _ => ⟨rfl, rfl, rfl, rfl⟩⟩
                            · rcases (by omega : k = 0 ∨ k = 1 ∨ k = 2 ∨ k = 3 ∨ k = 4) with rfl | rfl | rfl | rfl | rfl
                              · exact ⟨0, 0, 0, 0, c411, fun _ => ⟨rfl, rfl, rfl, rfl⟩⟩
                              · exact ⟨0, 0, 0, 0, c412, fun _ => ⟨rfl, rfl, rfl, rfl⟩⟩
                              · exact ⟨0, 0, 0, 0, c413, fun _ => ⟨rfl, rfl, rfl, rfl⟩⟩
                              · exact ⟨0, 0, 0, 0, c414, fun _ => ⟨rfl, rfl, rfl, rfl⟩⟩
                              · exact ⟨0, 0, 0, 0, c415, fun _ => ⟨rfl, rfl, rfl, rfl⟩⟩
                          · exfalso; omega
              · exfalso; omega
