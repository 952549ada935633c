def mAdds (T : Int → Int) (at_ m x y z v : Int) : Int → Int :=
  zup (zup (zup (zup (zup T (at_ + 4 * T m) x) (at_ + 4 * T m + 1) y) (at_ + 4 * T m + 2) z) (at_ + 4 * T m + 3) v) m (zup (zup (zup (zup T (at_ + 4 * T m) x) (at_ + 4 * T m + 1) y) (at_ + 4 * T m + 2) z) (at_ + 4 * T m + 3) v m + 1)
theorem r_M_adds (σ : g_H0) (a : Nat) (I : Nat → Int) (A : Nat → Int → Int) (hM : rM a I A σ) (at_ m x y z v : Int) (bm : 0 ≤ m ∧ m < 51) (ba : 0 ≤ at_ + 4 * A 1 m ∧ at_ + 4 * A 1 m + 3 < 51) : Ret mX9_adds [.ref a, .int (iZ at_), .int (iZ m), .int (iZ x), .int (iZ y), .int (iZ z), .int (iZ v)] σ (fun r σ' => r = none ∧ rM a I (nup A 1 (mAdds (A 1) at_ m x y z v)) σ' ∧ g_Fr (mR a) σ σ') := by
  refine Ret.of moX9_adds.1 (Nat.le_of_ble_eq_true rfl) (fun w => ?_)
  obtain ⟨m0, m1, m2, m3, m4, m5, m6, m7, m8, m9, m10, m11⟩ := id hM
  show Go w mX9_adds (0, 0) 0 [some (.ref a), some (.int (iZ at_)), some (.int (iZ m)), some (.int (iZ x)), some (.int (iZ y)), some (.int (iZ z)), some (.int (iZ v)), none] [] σ (fun r σ' => r = none ∧ rM a I (nup A 1 (mAdds (A 1) at_ m x y z v)) σ' ∧ g_Fr (mR a) σ σ')
  refine g_iload_n (q := 1) dX9_adds_0 rfl rfl ?_
  refine z_iconst (q := 2) dX9_adds_1 rfl ?_
  refine g_aload_n (q := 3) dX9_adds_2 rfl rfl ?_
  refine g_get (q := 6) flX9_13 dX9_adds_3 m0 rfl rfl ?_
  refine g_iload_n (q := 7) dX9_adds_6 rfl rfl ?_
  refine z_iald (q := 8) dX9_adds_7 m2 (by omega) rfl ?_
  refine z_imul (q := 9) dX9_adds_8 rfl ?_
  refine z_iaddc (c := (at_ + 4 * (A 1 m))) (q := 10) dX9_adds_9 (by omega) rfl ?_
  refine g_istore (ml' := [some (.ref a), some (.int (iZ at_)), some (.int (iZ m)), some (.int (iZ x)), some (.int (iZ y)), some (.int (iZ z)), some (.int (iZ v)), some (.int (iZ (at_ + 4 * (A 1 m))))]) (q := 12) dX9_adds_10 rfl (Nat.le_of_ble_eq_true rfl) rfl rfl ?_
  refine g_aload_n (q := 13) dX9_adds_12 rfl rfl ?_
  refine g_get (q := 16) flX9_13 dX9_adds_13 m0 rfl rfl ?_
  refine g_iload (q := 18) dX9_adds_16 rfl rfl ?_
  refine g_iload_n (q := 19) dX9_adds_18 rfl rfl ?_
  refine z_iast (q := 20) dX9_adds_19 m2 (by omega) rfl (fun σ1 c2 f3 => ?_)
  have c4 := (f3.2 a (by omega)).trans m0
  have c5 := (f3.2 (a + 1) (by omega)).trans m1
  have c6 := (f3.2 (a + 3) (by omega)).trans m3
  have c7 := (f3.2 (a + 4) (by omega)).trans m4
  have c8 := (f3.2 (a + 5) (by omega)).trans m5
  have c9 := (f3.2 (a + 6) (by omega)).trans m6
  have c10 := (f3.2 (a + 7) (by omega)).trans m7
  have c11 := (f3.2 (a + 8) (by omega)).trans m8
  have c12 := (f3.2 (a + 9) (by omega)).trans m9
  have c13 := (f3.2 (a + 10) (by omega)).trans m10
  have c14 := (f3.2 (a + 11) (by omega)).trans m11
  refine g_aload_n (q := 21) dX9_adds_20 rfl rfl ?_
  refine g_get (q := 24) flX9_13 dX9_adds_21 c4 rfl rfl ?_
  refine g_iload (q := 26) dX9_adds_24 rfl rfl ?_
  refine z_iconst (q := 27) dX9_adds_26 rfl ?_
  refine z_iaddc (c := (at_ + 4 * (A 1 m) + 1)) (q := 28) dX9_adds_27 (by omega) rfl ?_
  refine g_iload (q := 30) dX9_adds_28 rfl rfl ?_
  refine z_iast (q := 31) dX9_adds_30 c2 (by omega) rfl (fun σ15 c16 f17 => ?_)
  have c18 := (f17.2 a (by omega)).trans c4
  have c19 := (f17.2 (a + 1) (by omega)).trans c5
  have c20 := (f17.2 (a + 3) (by omega)).trans c6
  have c21 := (f17.2 (a + 4) (by omega)).trans c7
  have c22 := (f17.2 (a + 5) (by omega)).trans c8
  have c23 := (f17.2 (a + 6) (by omega)).trans c9
  have c24 := (f17.2 (a + 7) (by omega)).trans c10
  have c25 := (f17.2 (a + 8) (by omega)).trans c11
  have c26 := (f17.2 (a + 9) (by omega)).trans c12
  have c27 := (f17.2 (a + 10) (by omega)).trans c13
  have c28 := (f17.2 (a + 11) (by omega)).trans c14
  refine g_aload_n (q := 32) dX9_adds_31 rfl rfl ?_
  refine g_get (q := 35) flX9_13 dX9_adds_32 c18 rfl rfl ?_
  refine g_iload (q := 37) dX9_adds_35 rfl rfl ?_
  refine z_iconst (q := 38) dX9_adds_37 rfl ?_
  refine z_iaddc (c := (at_ + 4 * (A 1 m) + 2)) (q := 39) dX9_adds_38 (by omega) rfl ?_
  refine g_iload (q := 41) dX9_adds_39 rfl rfl ?_
  refine z_iast (q := 42) dX9_adds_41 c16 (by omega) rfl (fun σ29 c30 f31 => ?_)
  have c32 := (f31.2 a (by omega)).trans c18
  have c33 := (f31.2 (a + 1) (by omega)).trans c19
  have c34 := (f31.2 (a + 3) (by omega)).trans c20
  have c35 := (f31.2 (a + 4) (by omega)).trans c21
  have c36 := (f31.2 (a + 5) (by omega)).trans c22
  have c37 := (f31.2 (a + 6) (by omega)).trans c23
  have c38 := (f31.2 (a + 7) (by omega)).trans c24
  have c39 := (f31.2 (a + 8) (by omega)).trans c25
  have c40 := (f31.2 (a + 9) (by omega)).trans c26
  have c41 := (f31.2 (a + 10) (by omega)).trans c27
  have c42 := (f31.2 (a + 11) (by omega)).trans c28
  refine g_aload_n (q := 43) dX9_adds_42 rfl rfl ?_
  refine g_get (q := 46) flX9_13 dX9_adds_43 c32 rfl rfl ?_
  refine g_iload (q := 48) dX9_adds_46 rfl rfl ?_
  refine z_iconst (q := 49) dX9_adds_48 rfl ?_
  refine z_iaddc (c := (at_ + 4 * (A 1 m) + 3)) (q := 50) dX9_adds_49 (by omega) rfl ?_
  refine g_iload (q := 52) dX9_adds_50 rfl rfl ?_
  refine z_iast (q := 53) dX9_adds_52 c30 (by omega) rfl (fun σ43 c44 f45 => ?_)
  have c46 := (f45.2 a (by omega)).trans c32
  have c47 := (f45.2 (a + 1) (by omega)).trans c33
  have c48 := (f45.2 (a + 3) (by omega)).trans c34
  have c49 := (f45.2 (a + 4) (by omega)).trans c35
  have c50 := (f45.2 (a + 5) (by omega)).trans c36
  have c51 := (f45.2 (a + 6) (by omega)).trans c37
  have c52 := (f45.2 (a + 7) (by omega)).trans c38
  have c53 := (f45.2 (a + 8) (by omega)).trans c39
  have c54 := (f45.2 (a + 9) (by omega)).trans c40
  have c55 := (f45.2 (a + 10) (by omega)).trans c41
  have c56 := (f45.2 (a + 11) (by omega)).trans c42
  refine g_aload_n (q := 54) dX9_adds_53 rfl rfl ?_
  refine g_get (q := 57) flX9_13 dX9_adds_54 c46 rfl rfl ?_
  refine g_iload_n (q := 58) dX9_adds_57 rfl rfl ?_
  refine g_dup2 (q := 59) dX9_adds_58 rfl rfl rfl ?_
  refine z_iald (q := 60) dX9_adds_59 c44 (by omega) rfl ?_
  refine z_iconst (q := 61) dX9_adds_60 rfl ?_
  refine z_iadd (q := 62) dX9_adds_61 rfl ?_
  refine z_iast (q := 63) dX9_adds_62 c44 (by omega) rfl (fun σ57 c58 f59 => ?_)
  have c60 := (f59.2 a (by omega)).trans c46
  have c61 := (f59.2 (a + 1) (by omega)).trans c47
  have c62 := (f59.2 (a + 3) (by omega)).trans c48
  have c63 := (f59.2 (a + 4) (by omega)).trans c49
  have c64 := (f59.2 (a + 5) (by omega)).trans c50
  have c65 := (f59.2 (a + 6) (by omega)).trans c51
  have c66 := (f59.2 (a + 7) (by omega)).trans c52
  have c67 := (f59.2 (a + 8) (by omega)).trans c53
  have c68 := (f59.2 (a + 9) (by omega)).trans c54
  have c69 := (f59.2 (a + 10) (by omega)).trans c55
  have c70 := (f59.2 (a + 11) (by omega)).trans c56
  refine z_vret dX9_adds_63 rfl ?_
  exact ⟨rfl, ⟨c60, c61, c58, c62, c63, c64, c65, c66, c67, c68, c69, c70⟩, (((((g_Fr.rf.step f3 ⟨by omega, by omega⟩).step f17 ⟨by omega, by omega⟩).step f31 ⟨by omega, by omega⟩).step f45 ⟨by omega, by omega⟩).step f59 ⟨by omega, by omega⟩)⟩
def mT0_0 : Int → Int := zup (zup (fun _ => (0 : Int)) 0 10) 1 8
def mT0_1 : Int → Int := mAdds mT0_0 5 2 2 2 0 40
def mT0_2 : Int → Int := mAdds mT0_1 5 2 3 1 1 12
def mT0_3 : Int → Int := mAdds mT0_2 5 2 1 1 0 99
def mT0_4 : Int → Int := mAdds mT0_3 29 3 1 1 4 2
def mT0_5 : Int → Int := mAdds mT0_4 29 3 6 1 3 3
def mT0_6 : Int → Int := mAdds mT0_5 29 3 2 5 1 3
def mT0_7 : Int → Int := mAdds mT0_6 29 3 6 6 3 1
def mT0 : Int → Int := zup (zup (zup mT0_7 4 2) 49 0) 50 7
theorem r_M_init (σ : g_H0) (a : Nat) (hl : σ.length = a + 1) (h0 : σ[a]? = some (.inr (9, [.int (iZ 0), .null, .int (iZ 0), .null, .null, .null, .null, .int (iZ 0), .null, .null, .null, .int (iZ 0), .int (iZ 0), .null, .null, .null]))) : Ret mX9_init [.ref a] σ (fun r σ' => r = none ∧ (∃ A : Nat → Int → Int, rM a (fun _ => 0) A σ' ∧ A 0 = (fun _ => 0) ∧ A 1 = mT0 ∧ A 3 = mAnew mT0 (fun _ => 0) ∧ A 4 = (fun _ => 0)) ∧ σ'.length = a + 12 ∧ g_Nf a σ σ') := by
  refine Ret.of moX9_init.1 (Nat.le_of_ble_eq_true rfl) (fun w => ?_)
  have nf0 : g_Nf a σ σ := g_Nf.rf
  show Go w mX9_init (0, 0) 0 [some (.ref a)] [] σ (fun r σ' => r = none ∧ (∃ A : Nat → Int → Int, rM a (fun _ => 0) A σ' ∧ A 0 = (fun _ => 0) ∧ A 1 = mT0 ∧ A 3 = mAnew mT0 (fun _ => 0) ∧ A 4 = (fun _ => 0)) ∧ σ'.length = a + 12 ∧ g_Nf a σ σ')
  refine g_aload_n (q := 1) dX9_init_0 rfl rfl ?_
  refine g_objInit (q := 4) obX9_1 ob_i ob_c dX9_init_1 (Nat.le_of_ble_eq_true rfl) (Nat.le_of_ble_eq_true rfl) rfl rfl ?_
  refine g_aload_n (q := 5) dX9_init_4 rfl rfl ?_
  refine g_sipush (v := iZ 200) (q := 8) dX9_init_5 (by decide) rfl ?_
  refine z_newI (a := (a + 1)) (N := 200) (q := 10) dX9_init_8 (by omega) rfl (Nat.le_of_ble_eq_true rfl) (Nat.le_of_ble_eq_true rfl) hl rfl (fun σ1 l4 c2 g3 => ?_)
  have c5 := g3.at h0
  have nf6 := nf0.al g3 (by rw [hl]; omega)
  have l7 : σ1.length = a + 2 := l4
  show Go w mX9_init (1, 200) 10 [some (.ref a)] [.ref (a + 1), .ref a] σ1 (fun r σ' => r = none ∧ (∃ A : Nat → Int → Int, rM a (fun _ => 0) A σ' ∧ A 0 = (fun _ => 0) ∧ A 1 = mT0 ∧ A 3 = mAnew mT0 (fun _ => 0) ∧ A 4 = (fun _ => 0)) ∧ σ'.length = a + 12 ∧ g_Nf a σ σ')
  refine z_putF (fs' := [.int (iZ 0), .ref (a + 1), .int (iZ 0), .null, .null, .null, .null, .int (iZ 0), .null, .null, .null, .int (iZ 0), .int (iZ 0), .null, .null, .null]) (q := 13) fpX9_7 rfl dX9_init_10 c5 (Nat.le_of_ble_eq_true rfl) rfl rfl rfl rfl (fun σ8 c9 f10 => ?_)
  have c11 := (f10.2 (a + 1) (by omega)).trans c2
  have l12 : σ8.length = a + 2 := f10.1.trans l7
  have nf13 := nf6.put f10 (by omega)
  refine g_aload_n (q := 14) dX9_init_13 rfl rfl ?_
  refine g_bipush (v := iZ 51) (q := 16) dX9_init_14 (by decide) rfl ?_
  refine z_newI (a := (a + 2)) (N := 51) (q := 18) dX9_init_16 (by omega) rfl (Nat.le_of_ble_eq_true rfl) (Nat.le_of_ble_eq_true rfl) l12 rfl (fun σ14 l17 c15 g16 => ?_)
  have c18 := g16.at c11
  have c19 := g16.at c9
  have nf20 := nf13.al g16 (by rw [l12]; omega)
  have l21 : σ14.length = a + 3 := l17
  show Go w mX9_init (2, 251) 18 [some (.ref a)] [.ref (a + 2), .ref a] σ14 (fun r σ' => r = none ∧ (∃ A : Nat → Int → Int, rM a (fun _ => 0) A σ' ∧ A 0 = (fun _ => 0) ∧ A 1 = mT0 ∧ A 3 = mAnew mT0 (fun _ => 0) ∧ A 4 = (fun _ => 0)) ∧ σ'.length = a + 12 ∧ g_Nf a σ σ')
  refine z_putF (fs' := [.int (iZ 0), .ref (a + 1), .int (iZ 0), .ref (a + 2), .null, .null, .null, .int (iZ 0), .null, .null, .null, .int (iZ 0), .int (iZ 0), .null, .null, .null]) (q := 21) fpX9_13 rfl dX9_init_18 c19 (Nat.le_of_ble_eq_true rfl) rfl rfl rfl rfl (fun σ22 c23 f24 => ?_)
  have c25 := (f24.2 (a + 1) (by omega)).trans c18
  have c26 := (f24.2 (a + 2) (by omega)).trans c15
  have l27 : σ22.length = a + 3 := f24.1.trans l21
  have nf28 := nf20.put f24 (by omega)
  refine g_aload_n (q := 22) dX9_init_21 rfl rfl ?_
  refine g_bipush (v := iZ 51) (q := 24) dX9_init_22 (by decide) rfl ?_
  refine z_newI (a := (a + 3)) (N := 51) (q := 26) dX9_init_24 (by omega) rfl (Nat.le_of_ble_eq_true rfl) (Nat.le_of_ble_eq_true rfl) l27 rfl (fun σ29 l32 c30 g31 => ?_)
  have c33 := g31.at c25
  have c34 := g31.at c26
  have c35 := g31.at c23
  have nf36 := nf28.al g31 (by rw [l27]; omega)
  have l37 : σ29.length = a + 4 := l32
  show Go w mX9_init (3, 302) 26 [some (.ref a)] [.ref (a + 3), .ref a] σ29 (fun r σ' => r = none ∧ (∃ A : Nat → Int → Int, rM a (fun _ => 0) A σ' ∧ A 0 = (fun _ => 0) ∧ A 1 = mT0 ∧ A 3 = mAnew mT0 (fun _ => 0) ∧ A 4 = (fun _ => 0)) ∧ σ'.length = a + 12 ∧ g_Nf a σ σ')
  refine z_putF (fs' := [.int (iZ 0), .ref (a + 1), .int (iZ 0), .ref (a + 2), .ref (a + 3), .null, .null, .int (iZ 0), .null, .null, .null, .int (iZ 0), .int (iZ 0), .null, .null, .null]) (q := 29) fpX9_16 rfl dX9_init_26 c35 (Nat.le_of_ble_eq_true rfl) rfl rfl rfl rfl (fun σ38 c39 f40 => ?_)
  have c41 := (f40.2 (a + 1) (by omega)).trans c33
  have c42 := (f40.2 (a + 2) (by omega)).trans c34
  have c43 := (f40.2 (a + 3) (by omega)).trans c30
  have l44 : σ38.length = a + 4 := f40.1.trans l37
  have nf45 := nf36.put f40 (by omega)
  refine g_aload_n (q := 30) dX9_init_29 rfl rfl ?_
  refine g_sipush (v := iZ 156) (q := 33) dX9_init_30 (by decide) rfl ?_
  refine z_newI (a := (a + 4)) (N := 156) (q := 35) dX9_init_33 (by omega) rfl (Nat.le_of_ble_eq_true rfl) (Nat.le_of_ble_eq_true rfl) l44 rfl (fun σ46 l49 c47 g48 => ?_)
  have c50 := g48.at c41
  have c51 := g48.at c42
  have c52 := g48.at c43
  have c53 := g48.at c39
  have nf54 := nf45.al g48 (by rw [l44]; omega)
  have l55 : σ46.length = a + 5 := l49
  show Go w mX9_init (4, 458) 35 [some (.ref a)] [.ref (a + 4), .ref a] σ46 (fun r σ' => r = none ∧ (∃ A : Nat → Int → Int, rM a (fun _ => 0) A σ' ∧ A 0 = (fun _ => 0) ∧ A 1 = mT0 ∧ A 3 = mAnew mT0 (fun _ => 0) ∧ A 4 = (fun _ => 0)) ∧ σ'.length = a + 12 ∧ g_Nf a σ σ')
  refine z_putF (fs' := [.int (iZ 0), .ref (a + 1), .int (iZ 0), .ref (a + 2), .ref (a + 3), .ref (a + 4), .null, .int (iZ 0), .null, .null, .null, .int (iZ 0), .int (iZ 0), .null, .null, .null]) (q := 38) fpX9_19 rfl dX9_init_35 c53 (Nat.le_of_ble_eq_true rfl) rfl rfl rfl rfl (fun σ56 c57 f58 => ?_)
  have c59 := (f58.2 (a + 1) (by omega)).trans c50
  have c60 := (f58.2 (a + 2) (by omega)).trans c51
  have c61 := (f58.2 (a + 3) (by omega)).trans c52
  have c62 := (f58.2 (a + 4) (by omega)).trans c47
  have l63 : σ56.length = a + 5 := f58.1.trans l55
  have nf64 := nf54.put f58 (by omega)
  refine g_aload_n (q := 39) dX9_init_38 rfl rfl ?_
  refine g_sipush (v := iZ 936) (q := 42) dX9_init_39 (by decide) rfl ?_
  refine z_newI (a := (a + 5)) (N := 936) (q := 44) dX9_init_42 (by omega) rfl (Nat.le_of_ble_eq_true rfl) (Nat.le_of_ble_eq_true rfl) l63 rfl (fun σ65 l68 c66 g67 => ?_)
  have c69 := g67.at c59
  have c70 := g67.at c60
  have c71 := g67.at c61
  have c72 := g67.at c62
  have c73 := g67.at c57
  have nf74 := nf64.al g67 (by rw [l63]; omega)
  have l75 : σ65.length = a + 6 := l68
  show Go w mX9_init (5, 1394) 44 [some (.ref a)] [.ref (a + 5), .ref a] σ65 (fun r σ' => r = none ∧ (∃ A : Nat → Int → Int, rM a (fun _ => 0) A σ' ∧ A 0 = (fun _ => 0) ∧ A 1 = mT0 ∧ A 3 = mAnew mT0 (fun _ => 0) ∧ A 4 = (fun _ => 0)) ∧ σ'.length = a + 12 ∧ g_Nf a σ σ')
  refine z_putF (fs' := [.int (iZ 0), .ref (a + 1), .int (iZ 0), .ref (a + 2), .ref (a + 3), .ref (a + 4), .ref (a + 5), .int (iZ 0), .null, .null, .null, .int (iZ 0), .int (iZ 0), .null, .null, .null]) (q := 47) fpX9_22 rfl dX9_init_44 c73 (Nat.le_of_ble_eq_true rfl) rfl rfl rfl rfl (fun σ76 c77 f78 => ?_)
  have c79 := (f78.2 (a + 1) (by omega)).trans c69
  have c80 := (f78.2 (a + 2) (by omega)).trans c70
  have c81 := (f78.2 (a + 3) (by omega)).trans c71
  have c82 := (f78.2 (a + 4) (by omega)).trans c72
  have c83 := (f78.2 (a + 5) (by omega)).trans c66
  have l84 : σ76.length = a + 6 := f78.1.trans l75
  have nf85 := nf74.put f78 (by omega)
  refine g_aload_n (q := 48) dX9_init_47 rfl rfl ?_
  refine g_sipush (v := iZ 156) (q := 51) dX9_init_48 (by decide) rfl ?_
  refine z_newI (a := (a + 6)) (N := 156) (q := 53) dX9_init_51 (by omega) rfl (Nat.le_of_ble_eq_true rfl) (Nat.le_of_ble_eq_true rfl) l84 rfl (fun σ86 l89 c87 g88 => ?_)
  have c90 := g88.at c79
  have c91 := g88.at c80
  have c92 := g88.at c81
  have c93 := g88.at c82
  have c94 := g88.at c83
  have c95 := g88.at c77
  have nf96 := nf85.al g88 (by rw [l84]; omega)
  have l97 : σ86.length = a + 7 := l89
  show Go w mX9_init (6, 1550) 53 [some (.ref a)] [.ref (a + 6), .ref a] σ86 (fun r σ' => r = none ∧ (∃ A : Nat → Int → Int, rM a (fun _ => 0) A σ' ∧ A 0 = (fun _ => 0) ∧ A 1 = mT0 ∧ A 3 = mAnew mT0 (fun _ => 0) ∧ A 4 = (fun _ => 0)) ∧ σ'.length = a + 12 ∧ g_Nf a σ σ')
  refine z_putF (fs' := [.int (iZ 0), .ref (a + 1), .int (iZ 0), .ref (a + 2), .ref (a + 3), .ref (a + 4), .ref (a + 5), .int (iZ 0), .ref (a + 6), .null, .null, .int (iZ 0), .int (iZ 0), .null, .null, .null]) (q := 56) fpX9_25 rfl dX9_init_53 c95 (Nat.le_of_ble_eq_true rfl) rfl rfl rfl rfl (fun σ98 c99 f100 => ?_)
  have c101 := (f100.2 (a + 1) (by omega)).trans c90
  have c102 := (f100.2 (a + 2) (by omega)).trans c91
  have c103 := (f100.2 (a + 3) (by omega)).trans c92
  have c104 := (f100.2 (a + 4) (by omega)).trans c93
  have c105 := (f100.2 (a + 5) (by omega)).trans c94
  have c106 := (f100.2 (a + 6) (by omega)).trans c87
  have l107 : σ98.length = a + 7 := f100.1.trans l97
  have nf108 := nf96.put f100 (by omega)
  refine g_aload_n (q := 57) dX9_init_56 rfl rfl ?_
  refine g_bipush (v := iZ 64) (q := 59) dX9_init_57 (by decide) rfl ?_
  refine z_newI (a := (a + 7)) (N := 64) (q := 61) dX9_init_59 (by omega) rfl (Nat.le_of_ble_eq_true rfl) (Nat.le_of_ble_eq_true rfl) l107 rfl (fun σ109 l112 c110 g111 => ?_)
  have c113 := g111.at c101
  have c114 := g111.at c102
  have c115 := g111.at c103
  have c116 := g111.at c104
  have c117 := g111.at c105
  have c118 := g111.at c106
  have c119 := g111.at c99
  have nf120 := nf108.al g111 (by rw [l107]; omega)
  have l121 : σ109.length = a + 8 := l112
  show Go w mX9_init (7, 1614) 61 [some (.ref a)] [.ref (a + 7), .ref a] σ109 (fun r σ' => r = none ∧ (∃ A : Nat → Int → Int, rM a (fun _ => 0) A σ' ∧ A 0 = (fun _ => 0) ∧ A 1 = mT0 ∧ A 3 = mAnew mT0 (fun _ => 0) ∧ A 4 = (fun _ => 0)) ∧ σ'.length = a + 12 ∧ g_Nf a σ σ')
  refine z_putF (fs' := [.int (iZ 0), .ref (a + 1), .int (iZ 0), .ref (a + 2), .ref (a + 3), .ref (a + 4), .ref (a + 5), .int (iZ 0), .ref (a + 6), .ref (a + 7), .null, .int (iZ 0), .int (iZ 0), .null, .null, .null]) (q := 64) fpX9_28 rfl dX9_init_61 c119 (Nat.le_of_ble_eq_true rfl) rfl rfl rfl rfl (fun σ122 c123 f124 => ?_)
  have c125 := (f124.2 (a + 1) (by omega)).trans c113
  have c126 := (f124.2 (a + 2) (by omega)).trans c114
  have c127 := (f124.2 (a + 3) (by omega)).trans c115
  have c128 := (f124.2 (a + 4) (by omega)).trans c116
  have c129 := (f124.2 (a + 5) (by omega)).trans c117
  have c130 := (f124.2 (a + 6) (by omega)).trans c118
  have c131 := (f124.2 (a + 7) (by omega)).trans c110
  have l132 : σ122.length = a + 8 := f124.1.trans l121
  have nf133 := nf120.put f124 (by omega)
  refine g_aload_n (q := 65) dX9_init_64 rfl rfl ?_
  refine z_iconst (q := 66) dX9_init_65 rfl ?_
  refine z_newI (a := (a + 8)) (N := 5) (q := 68) dX9_init_66 (by omega) rfl (Nat.le_of_ble_eq_true rfl) (Nat.le_of_ble_eq_true rfl) l132 rfl (fun σ134 l137 c135 g136 => ?_)
  have c138 := g136.at c125
  have c139 := g136.at c126
  have c140 := g136.at c127
  have c141 := g136.at c128
  have c142 := g136.at c129
  have c143 := g136.at c130
  have c144 := g136.at c131
  have c145 := g136.at c123
  have nf146 := nf133.al g136 (by rw [l132]; omega)
  have l147 : σ134.length = a + 9 := l137
  show Go w mX9_init (8, 1619) 68 [some (.ref a)] [.ref (a + 8), .ref a] σ134 (fun r σ' => r = none ∧ (∃ A : Nat → Int → Int, rM a (fun _ => 0) A σ' ∧ A 0 = (fun _ => 0) ∧ A 1 = mT0 ∧ A 3 = mAnew mT0 (fun _ => 0) ∧ A 4 = (fun _ => 0)) ∧ σ'.length = a + 12 ∧ g_Nf a σ σ')
  refine z_putF (fs' := [.int (iZ 0), .ref (a + 1), .int (iZ 0), .ref (a + 2), .ref (a + 3), .ref (a + 4), .ref (a + 5), .int (iZ 0), .ref (a + 6), .ref (a + 7), .ref (a + 8), .int (iZ 0), .int (iZ 0), .null, .null, .null]) (q := 71) fpX9_31 rfl dX9_init_68 c145 (Nat.le_of_ble_eq_true rfl) rfl rfl rfl rfl (fun σ148 c149 f150 => ?_)
  have c151 := (f150.2 (a + 1) (by omega)).trans c138
  have c152 := (f150.2 (a + 2) (by omega)).trans c139
  have c153 := (f150.2 (a + 3) (by omega)).trans c140
  have c154 := (f150.2 (a + 4) (by omega)).trans c141
  have c155 := (f150.2 (a + 5) (by omega)).trans c142
  have c156 := (f150.2 (a + 6) (by omega)).trans c143
  have c157 := (f150.2 (a + 7) (by omega)).trans c144
  have c158 := (f150.2 (a + 8) (by omega)).trans c135
  have l159 : σ148.length = a + 9 := f150.1.trans l147
  have nf160 := nf146.put f150 (by omega)
  refine g_aload_n (q := 72) dX9_init_71 rfl rfl ?_
  refine z_iconst (q := 73) dX9_init_72 rfl ?_
  refine z_newI (a := (a + 9)) (N := 5) (q := 75) dX9_init_73 (by omega) rfl (Nat.le_of_ble_eq_true rfl) (Nat.le_of_ble_eq_true rfl) l159 rfl (fun σ161 l164 c162 g163 => ?_)
  have c165 := g163.at c151
  have c166 := g163.at c152
  have c167 := g163.at c153
  have c168 := g163.at c154
  have c169 := g163.at c155
  have c170 := g163.at c156
  have c171 := g163.at c157
  have c172 := g163.at c158
  have c173 := g163.at c149
  have nf174 := nf160.al g163 (by rw [l159]; omega)
  have l175 : σ161.length = a + 10 := l164
  show Go w mX9_init (9, 1624) 75 [some (.ref a)] [.ref (a + 9), .ref a] σ161 (fun r σ' => r = none ∧ (∃ A : Nat → Int → Int, rM a (fun _ => 0) A σ' ∧ A 0 = (fun _ => 0) ∧ A 1 = mT0 ∧ A 3 = mAnew mT0 (fun _ => 0) ∧ A 4 = (fun _ => 0)) ∧ σ'.length = a + 12 ∧ g_Nf a σ σ')
  refine z_putF (fs' := [.int (iZ 0), .ref (a + 1), .int (iZ 0), .ref (a + 2), .ref (a + 3), .ref (a + 4), .ref (a + 5), .int (iZ 0), .ref (a + 6), .ref (a + 7), .ref (a + 8), .int (iZ 0), .int (iZ 0), .ref (a + 9), .null, .null]) (q := 78) fpX9_34 rfl dX9_init_75 c173 (Nat.le_of_ble_eq_true rfl) rfl rfl rfl rfl (fun σ176 c177 f178 => ?_)
  have c179 := (f178.2 (a + 1) (by omega)).trans c165
  have c180 := (f178.2 (a + 2) (by omega)).trans c166
  have c181 := (f178.2 (a + 3) (by omega)).trans c167
  have c182 := (f178.2 (a + 4) (by omega)).trans c168
  have c183 := (f178.2 (a + 5) (by omega)).trans c169
  have c184 := (f178.2 (a + 6) (by omega)).trans c170
  have c185 := (f178.2 (a + 7) (by omega)).trans c171
  have c186 := (f178.2 (a + 8) (by omega)).trans c172
  have c187 := (f178.2 (a + 9) (by omega)).trans c162
  have l188 : σ176.length = a + 10 := f178.1.trans l175
  have nf189 := nf174.put f178 (by omega)
  refine g_aload_n (q := 79) dX9_init_78 rfl rfl ?_
  refine g_bipush (v := iZ 60) (q := 81) dX9_init_79 (by decide) rfl ?_
  refine z_newI (a := (a + 10)) (N := 60) (q := 83) dX9_init_81 (by omega) rfl (Nat.le_of_ble_eq_true rfl) (Nat.le_of_ble_eq_true rfl) l188 rfl (fun σ190 l193 c191 g192 => ?_)
  have c194 := g192.at c179
  have c195 := g192.at c180
  have c196 := g192.at c181
  have c197 := g192.at c182
  have c198 := g192.at c183
  have c199 := g192.at c184
  have c200 := g192.at c185
  have c201 := g192.at c186
  have c202 := g192.at c187
  have c203 := g192.at c177
  have nf204 := nf189.al g192 (by rw [l188]; omega)
  have l205 : σ190.length = a + 11 := l193
  show Go w mX9_init (10, 1684) 83 [some (.ref a)] [.ref (a + 10), .ref a] σ190 (fun r σ' => r = none ∧ (∃ A : Nat → Int → Int, rM a (fun _ => 0) A σ' ∧ A 0 = (fun _ => 0) ∧ A 1 = mT0 ∧ A 3 = mAnew mT0 (fun _ => 0) ∧ A 4 = (fun _ => 0)) ∧ σ'.length = a + 12 ∧ g_Nf a σ σ')
  refine z_putF (fs' := [.int (iZ 0), .ref (a + 1), .int (iZ 0), .ref (a + 2), .ref (a + 3), .ref (a + 4), .ref (a + 5), .int (iZ 0), .ref (a + 6), .ref (a + 7), .ref (a + 8), .int (iZ 0), .int (iZ 0), .ref (a + 9), .ref (a + 10), .null]) (q := 86) fpX9_37 rfl dX9_init_83 c203 (Nat.le_of_ble_eq_true rfl) rfl rfl rfl rfl (fun σ206 c207 f208 => ?_)
  have c209 := (f208.2 (a + 1) (by omega)).trans c194
  have c210 := (f208.2 (a + 2) (by omega)).trans c195
  have c211 := (f208.2 (a + 3) (by omega)).trans c196
  have c212 := (f208.2 (a + 4) (by omega)).trans c197
  have c213 := (f208.2 (a + 5) (by omega)).trans c198
  have c214 := (f208.2 (a + 6) (by omega)).trans c199
  have c215 := (f208.2 (a + 7) (by omega)).trans c200
  have c216 := (f208.2 (a + 8) (by omega)).trans c201
  have c217 := (f208.2 (a + 9) (by omega)).trans c202
  have c218 := (f208.2 (a + 10) (by omega)).trans c191
  have l219 : σ206.length = a + 11 := f208.1.trans l205
  have nf220 := nf204.put f208 (by omega)
  refine g_aload_n (q := 87) dX9_init_86 rfl rfl ?_
  refine z_iconst (q := 88) dX9_init_87 rfl ?_
  refine z_newI (a := (a + 11)) (N := 5) (q := 90) dX9_init_88 (by omega) rfl (Nat.le_of_ble_eq_true rfl) (Nat.le_of_ble_eq_true rfl) l219 rfl (fun σ221 l224 c222 g223 => ?_)
  have c225 := g223.at c209
  have c226 := g223.at c210
  have c227 := g223.at c211
  have c228 := g223.at c212
  have c229 := g223.at c213
  have c230 := g223.at c214
  have c231 := g223.at c215
  have c232 := g223.at c216
  have c233 := g223.at c217
  have c234 := g223.at c218
  have c235 := g223.at c207
  have nf236 := nf220.al g223 (by rw [l219]; omega)
  have l237 : σ221.length = a + 12 := l224
  show Go w mX9_init (11, 1689) 90 [some (.ref a)] [.ref (a + 11), .ref a] σ221 (fun r σ' => r = none ∧ (∃ A : Nat → Int → Int, rM a (fun _ => 0) A σ' ∧ A 0 = (fun _ => 0) ∧ A 1 = mT0 ∧ A 3 = mAnew mT0 (fun _ => 0) ∧ A 4 = (fun _ => 0)) ∧ σ'.length = a + 12 ∧ g_Nf a σ σ')
  refine z_putF (fs' := [.int (iZ 0), .ref (a + 1), .int (iZ 0), .ref (a + 2), .ref (a + 3), .ref (a + 4), .ref (a + 5), .int (iZ 0), .ref (a + 6), .ref (a + 7), .ref (a + 8), .int (iZ 0), .int (iZ 0), .ref (a + 9), .ref (a + 10), .ref (a + 11)]) (q := 93) fpX9_40 rfl dX9_init_90 c235 (Nat.le_of_ble_eq_true rfl) rfl rfl rfl rfl (fun σ238 c239 f240 => ?_)
  have c241 := (f240.2 (a + 1) (by omega)).trans c225
  have c242 := (f240.2 (a + 2) (by omega)).trans c226
  have c243 := (f240.2 (a + 3) (by omega)).trans c227
  have c244 := (f240.2 (a + 4) (by omega)).trans c228
  have c245 := (f240.2 (a + 5) (by omega)).trans c229
  have c246 := (f240.2 (a + 6) (by omega)).trans c230
  have c247 := (f240.2 (a + 7) (by omega)).trans c231
  have c248 := (f240.2 (a + 8) (by omega)).trans c232
  have c249 := (f240.2 (a + 9) (by omega)).trans c233
  have c250 := (f240.2 (a + 10) (by omega)).trans c234
  have c251 := (f240.2 (a + 11) (by omega)).trans c222
  have l252 : σ238.length = a + 12 := f240.1.trans l237
  have nf253 := nf236.put f240 (by omega)
  refine g_aload_n (q := 94) dX9_init_93 rfl rfl ?_
  refine g_get (q := 97) flX9_13 dX9_init_94 c239 rfl rfl ?_
  refine z_iconst (q := 98) dX9_init_97 rfl ?_
  refine g_bipush (v := iZ 10) (q := 100) dX9_init_98 (by decide) rfl ?_
  refine z_iast (q := 101) dX9_init_100 c242 (by omega) rfl (fun σ254 c255 f256 => ?_)
  have c257 := (f256.2 (a + 1) (by omega)).trans c241
  have c258 := (f256.2 (a + 3) (by omega)).trans c243
  have c259 := (f256.2 (a + 4) (by omega)).trans c244
  have c260 := (f256.2 (a + 5) (by omega)).trans c245
  have c261 := (f256.2 (a + 6) (by omega)).trans c246
  have c262 := (f256.2 (a + 7) (by omega)).trans c247
  have c263 := (f256.2 (a + 8) (by omega)).trans c248
  have c264 := (f256.2 (a + 9) (by omega)).trans c249
  have c265 := (f256.2 (a + 10) (by omega)).trans c250
  have c266 := (f256.2 (a + 11) (by omega)).trans c251
  have c267 := (f256.2 a (by omega)).trans c239
  have l268 : σ254.length = a + 12 := f256.1.trans l252
  have nf269 := nf253.put f256 (by omega)
  refine g_aload_n (q := 102) dX9_init_101 rfl rfl ?_
  refine g_get (q := 105) flX9_13 dX9_init_102 c267 rfl rfl ?_
  refine z_iconst (q := 106) dX9_init_105 rfl ?_
  refine g_bipush (v := iZ 8) (q := 108) dX9_init_106 (by decide) rfl ?_
  refine z_iast (q := 109) dX9_init_108 c255 (by omega) rfl (fun σ270 c271 f272 => ?_)
  have c273 := (f272.2 (a + 1) (by omega)).trans c257
  have c274 := (f272.2 (a + 3) (by omega)).trans c258
  have c275 := (f272.2 (a + 4) (by omega)).trans c259
  have c276 := (f272.2 (a + 5) (by omega)).trans c260
  have c277 := (f272.2 (a + 6) (by omega)).trans c261
  have c278 := (f272.2 (a + 7) (by omega)).trans c262
  have c279 := (f272.2 (a + 8) (by omega)).trans c263
  have c280 := (f272.2 (a + 9) (by omega)).trans c264
  have c281 := (f272.2 (a + 10) (by omega)).trans c265
  have c282 := (f272.2 (a + 11) (by omega)).trans c266
  have c283 := (f272.2 a (by omega)).trans c267
  have l284 : σ270.length = a + 12 := f272.1.trans l268
  have nf285 := nf269.put f272 (by omega)
  refine g_aload_n (q := 110) dX9_init_109 rfl rfl ?_
  refine z_iconst (q := 111) dX9_init_110 rfl ?_
  refine z_iconst (q := 112) dX9_init_111 rfl ?_
  refine z_iconst (q := 113) dX9_init_112 rfl ?_
  refine z_iconst (q := 114) dX9_init_113 rfl ?_
  refine z_iconst (q := 115) dX9_init_114 rfl ?_
  refine g_bipush (v := iZ 40) (q := 117) dX9_init_115 (by decide) rfl ?_
  have hM286 : rM a (fun _ => 0) (nup (fun _ _ => 0) 1 mT0_0) σ270 := ⟨c283, c273, c271, c274, c275, c276, c277, c278, c279, c280, c281, c282⟩
  refine g_callV (As := [.int (iZ 5), .int (iZ 2), .int (iZ 2), .int (iZ 2), .int (iZ 0), .int (iZ 40)]) (rest := []) (q := 120) moX9_adds lkX9_init_43 dX9_init_117 rfl hM286.1 (r_M_adds σ270 a _ _ hM286 5 2 2 2 0 40 (by omega) (by show 0 ≤ 5 + 4 * mT0_0 2 ∧ 5 + 4 * mT0_0 2 + 3 < 51; decide +kernel)) rfl rfl (Nat.le_of_ble_eq_true rfl) (Nat.le_of_ble_eq_true rfl) (Nat.le_of_ble_eq_true rfl) rfl ?_
  rintro r288 σ287 ⟨rfl, hq288, hf288⟩
  have hM288 : rM a (fun _ => 0) (nup (fun _ _ => 0) 1 mT0_1) σ287 := hq288.congr (fun _ _ => rfl) (fun j _ => by rw [nup_nup]; rfl)
  have nf288 := nf285.fr hf288 (fun k hk => hk.1)
  have l288 := hf288.1.trans l284
  obtain ⟨m0, m1, m2, m3, m4, m5, m6, m7, m8, m9, m10, m11⟩ := id hM288
  have m2 : σ287[a + 2]? = some (.inl (0, 51, .inl (zA mT0_1))) := m2
  have m0 : σ287[a]? = some (.inr (9, [.int (iZ 0), .ref (a + 1), .int (iZ 0), .ref (a + 2), .ref (a + 3), .ref (a + 4), .ref (a + 5), .int (iZ 0), .ref (a + 6), .ref (a + 7), .ref (a + 8), .int (iZ 0), .int (iZ 0), .ref (a + 9), .ref (a + 10), .ref (a + 11)])) := m0
  have m1 : σ287[a + 1]? = some (.inl (0, 200, .inl (zA (fun _ => 0)))) := m1
  have m3 : σ287[a + 3]? = some (.inl (0, 51, .inl (zA (fun _ => 0)))) := m3
  have m4 : σ287[a + 4]? = some (.inl (0, 156, .inl (zA (fun _ => 0)))) := m4
  have m5 : σ287[a + 5]? = some (.inl (0, 936, .inl (zA (fun _ => 0)))) := m5
  have m6 : σ287[a + 6]? = some (.inl (0, 156, .inl (zA (fun _ => 0)))) := m6
  have m7 : σ287[a + 7]? = some (.inl (0, 64, .inl (zA (fun _ => 0)))) := m7
  have m8 : σ287[a + 8]? = some (.inl (0, 5, .inl (zA (fun _ => 0)))) := m8
  have m9 : σ287[a + 9]? = some (.inl (0, 5, .inl (zA (fun _ => 0)))) := m9
  have m10 : σ287[a + 10]? = some (.inl (0, 60, .inl (zA (fun _ => 0)))) := m10
  have m11 : σ287[a + 11]? = some (.inl (0, 5, .inl (zA (fun _ => 0)))) := m11
  show Go w mX9_init (11, 1689) 120 [some (.ref a)] [] σ287 (fun r σ' => r = none ∧ (∃ A : Nat → Int → Int, rM a (fun _ => 0) A σ' ∧ A 0 = (fun _ => 0) ∧ A 1 = mT0 ∧ A 3 = mAnew mT0 (fun _ => 0) ∧ A 4 = (fun _ => 0)) ∧ σ'.length = a + 12 ∧ g_Nf a σ σ')
  refine g_aload_n (q := 121) dX9_init_120 rfl rfl ?_
  refine z_iconst (q := 122) dX9_init_121 rfl ?_
  refine z_iconst (q := 123) dX9_init_122 rfl ?_
  refine z_iconst (q := 124) dX9_init_123 rfl ?_
  refine z_iconst (q := 125) dX9_init_124 rfl ?_
  refine z_iconst (q := 126) dX9_init_125 rfl ?_
  refine g_bipush (v := iZ 12) (q := 128) dX9_init_126 (by decide) rfl ?_
  refine g_callV (As := [.int (iZ 5), .int (iZ 2), .int (iZ 3), .int (iZ 1), .int (iZ 1), .int (iZ 12)]) (rest := []) (q := 131) moX9_adds lkX9_init_43 dX9_init_128 rfl hM288.1 (r_M_adds σ287 a _ _ hM288 5 2 3 1 1 12 (by omega) (by show 0 ≤ 5 + 4 * mT0_1 2 ∧ 5 + 4 * mT0_1 2 + 3 < 51; decide +kernel)) rfl rfl (Nat.le_of_ble_eq_true rfl) (Nat.le_of_ble_eq_true rfl) (Nat.le_of_ble_eq_true rfl) rfl ?_
  rintro r291 σ290 ⟨rfl, hq291, hf291⟩
  have hM291 : rM a (fun _ => 0) (nup (fun _ _ => 0) 1 mT0_2) σ290 := hq291.congr (fun _ _ => rfl) (fun j _ => by rw [nup_nup]; rfl)
  have nf291 := nf288.fr hf291 (fun k hk => hk.1)
  have l291 := hf291.1.trans l288
  obtain ⟨m0, m1, m2, m3, m4, m5, m6, m7, m8, m9, m10, m11⟩ := id hM291
  have m2 : σ290[a + 2]? = some (.inl (0, 51, .inl (zA mT0_2))) := m2
  have m0 : σ290[a]? = some (.inr (9, [.int (iZ 0), .ref (a + 1), .int (iZ 0), .ref (a + 2), .ref (a + 3), .ref (a + 4), .ref (a + 5), .int (iZ 0), .ref (a + 6), .ref (a + 7), .ref (a + 8), .int (iZ 0), .int (iZ 0), .ref (a + 9), .ref (a + 10), .ref (a + 11)])) := m0
  have m1 : σ290[a + 1]? = some (.inl (0, 200, .inl (zA (fun _ => 0)))) := m1
  have m3 : σ290[a + 3]? = some (.inl (0, 51, .inl (zA (fun _ => 0)))) := m3
  have m4 : σ290[a + 4]? = some (.inl (0, 156, .inl (zA (fun _ => 0)))) := m4
  have m5 : σ290[a + 5]? = some (.inl (0, 936, .inl (zA (fun _ => 0)))) := m5
  have m6 : σ290[a + 6]? = some (.inl (0, 156, .inl (zA (fun _ => 0)))) := m6
  have m7 : σ290[a + 7]? = some (.inl (0, 64, .inl (zA (fun _ => 0)))) := m7
  have m8 : σ290[a + 8]? = some (.inl (0, 5, .inl (zA (fun _ => 0)))) := m8
  have m9 : σ290[a + 9]? = some (.inl (0, 5, .inl (zA (fun _ => 0)))) := m9
  have m10 : σ290[a + 10]? = some (.inl (0, 60, .inl (zA (fun _ => 0)))) := m10
  have m11 : σ290[a + 11]? = some (.inl (0, 5, .inl (zA (fun _ => 0)))) := m11
  show Go w mX9_init (11, 1689) 131 [some (.ref a)] [] σ290 (fun r σ' => r = none ∧ (∃ A : Nat → Int → Int, rM a (fun _ => 0) A σ' ∧ A 0 = (fun _ => 0) ∧ A 1 = mT0 ∧ A 3 = mAnew mT0 (fun _ => 0) ∧ A 4 = (fun _ => 0)) ∧ σ'.length = a + 12 ∧ g_Nf a σ σ')
  refine g_aload_n (q := 132) dX9_init_131 rfl rfl ?_
  refine z_iconst (q := 133) dX9_init_132 rfl ?_
  refine z_iconst (q := 134) dX9_init_133 rfl ?_
  refine z_iconst (q := 135) dX9_init_134 rfl ?_
  refine z_iconst (q := 136) dX9_init_135 rfl ?_
  refine z_iconst (q := 137) dX9_init_136 rfl ?_
  refine g_bipush (v := iZ 99) (q := 139) dX9_init_137 (by decide) rfl ?_
  refine g_callV (As := [.int (iZ 5), .int (iZ 2), .int (iZ 1), .int (iZ 1), .int (iZ 0), .int (iZ 99)]) (rest := []) (q := 142) moX9_adds lkX9_init_43 dX9_init_139 rfl hM291.1 (r_M_adds σ290 a _ _ hM291 5 2 1 1 0 99 (by omega) (by show 0 ≤ 5 + 4 * mT0_2 2 ∧ 5 + 4 * mT0_2 2 + 3 < 51; decide +kernel)) rfl rfl (Nat.le_of_ble_eq_true rfl) (Nat.le_of_ble_eq_true rfl) (Nat.le_of_ble_eq_true rfl) rfl ?_
  rintro r294 σ293 ⟨rfl, hq294, hf294⟩
  have hM294 : rM a (fun _ => 0) (nup (fun _ _ => 0) 1 mT0_3) σ293 := hq294.congr (fun _ _ => rfl) (fun j _ => by rw [nup_nup]; rfl)
  have nf294 := nf291.fr hf294 (fun k hk => hk.1)
  have l294 := hf294.1.trans l291
  obtain ⟨m0, m1, m2, m3, m4, m5, m6, m7, m8, m9, m10, m11⟩ := id hM294
  have m2 : σ293[a + 2]? = some (.inl (0, 51, .inl (zA mT0_3))) := m2
  have m0 : σ293[a]? = some (.inr (9, [.int (iZ 0), .ref (a + 1), .int (iZ 0), .ref (a + 2), .ref (a + 3), .ref (a + 4), .ref (a + 5), .int (iZ 0), .ref (a + 6), .ref (a + 7), .ref (a + 8), .int (iZ 0), .int (iZ 0), .ref (a + 9), .ref (a + 10), .ref (a + 11)])) := m0
  have m1 : σ293[a + 1]? = some (.inl (0, 200, .inl (zA (fun _ => 0)))) := m1
  have m3 : σ293[a + 3]? = some (.inl (0, 51, .inl (zA (fun _ => 0)))) := m3
  have m4 : σ293[a + 4]? = some (.inl (0, 156, .inl (zA (fun _ => 0)))) := m4
  have m5 : σ293[a + 5]? = some (.inl (0, 936, .inl (zA (fun _ => 0)))) := m5
  have m6 : σ293[a + 6]? = some (.inl (0, 156, .inl (zA (fun _ => 0)))) := m6
  have m7 : σ293[a + 7]? = some (.inl (0, 64, .inl (zA (fun _ => 0)))) := m7
  have m8 : σ293[a + 8]? = some (.inl (0, 5, .inl (zA (fun _ => 0)))) := m8
  have m9 : σ293[a + 9]? = some (.inl (0, 5, .inl (zA (fun _ => 0)))) := m9
  have m10 : σ293[a + 10]? = some (.inl (0, 60, .inl (zA (fun _ => 0)))) := m10
  have m11 : σ293[a + 11]? = some (.inl (0, 5, .inl (zA (fun _ => 0)))) := m11
  show Go w mX9_init (11, 1689) 142 [some (.ref a)] [] σ293 (fun r σ' => r = none ∧ (∃ A : Nat → Int → Int, rM a (fun _ => 0) A σ' ∧ A 0 = (fun _ => 0) ∧ A 1 = mT0 ∧ A 3 = mAnew mT0 (fun _ => 0) ∧ A 4 = (fun _ => 0)) ∧ σ'.length = a + 12 ∧ g_Nf a σ σ')
  refine g_aload_n (q := 143) dX9_init_142 rfl rfl ?_
  refine g_bipush (v := iZ 29) (q := 145) dX9_init_143 (by decide) rfl ?_
  refine z_iconst (q := 146) dX9_init_145 rfl ?_
  refine z_iconst (q := 147) dX9_init_146 rfl ?_
  refine z_iconst (q := 148) dX9_init_147 rfl ?_
  refine z_iconst (q := 149) dX9_init_148 rfl ?_
  refine z_iconst (q := 150) dX9_init_149 rfl ?_
  refine g_callV (As := [.int (iZ 29), .int (iZ 3), .int (iZ 1), .int (iZ 1), .int (iZ 4), .int (iZ 2)]) (rest := []) (q := 153) moX9_adds lkX9_init_43 dX9_init_150 rfl hM294.1 (r_M_adds σ293 a _ _ hM294 29 3 1 1 4 2 (by omega) (by show 0 ≤ 29 + 4 * mT0_3 3 ∧ 29 + 4 * mT0_3 3 + 3 < 51; decide +kernel)) rfl rfl (Nat.le_of_ble_eq_true rfl) (Nat.le_of_ble_eq_true rfl) (Nat.le_of_ble_eq_true rfl) rfl ?_
  rintro r297 σ296 ⟨rfl, hq297, hf297⟩
  have hM297 : rM a (fun _ => 0) (nup (fun _ _ => 0) 1 mT0_4) σ296 := hq297.congr (fun _ _ => rfl) (fun j _ => by rw [nup_nup]; rfl)
  have nf297 := nf294.fr hf297 (fun k hk => hk.1)
  have l297 := hf297.1.trans l294
  obtain ⟨m0, m1, m2, m3, m4, m5, m6, m7, m8, m9, m10, m11⟩ := id hM297
  have m2 : σ296[a + 2]? = some (.inl (0, 51, .inl (zA mT0_4))) := m2
  have m0 : σ296[a]? = some (.inr (9, [.int (iZ 0), .ref (a + 1), .int (iZ 0), .ref (a + 2), .ref (a + 3), .ref (a + 4), .ref (a + 5), .int (iZ 0), .ref (a + 6), .ref (a + 7), .ref (a + 8), .int (iZ 0), .int (iZ 0), .ref (a + 9), .ref (a + 10), .ref (a + 11)])) := m0
  have m1 : σ296[a + 1]? = some (.inl (0, 200, .inl (zA (fun _ => 0)))) := m1
  have m3 : σ296[a + 3]? = some (.inl (0, 51, .inl (zA (fun _ => 0)))) := m3
  have m4 : σ296[a + 4]? = some (.inl (0, 156, .inl (zA (fun _ => 0)))) := m4
  have m5 : σ296[a + 5]? = some (.inl (0, 936, .inl (zA (fun _ => 0)))) := m5
  have m6 : σ296[a + 6]? = some (.inl (0, 156, .inl (zA (fun _ => 0)))) := m6
  have m7 : σ296[a + 7]? = some (.inl (0, 64, .inl (zA (fun _ => 0)))) := m7
  have m8 : σ296[a + 8]? = some (.inl (0, 5, .inl (zA (fun _ => 0)))) := m8
  have m9 : σ296[a + 9]? = some (.inl (0, 5, .inl (zA (fun _ => 0)))) := m9
  have m10 : σ296[a + 10]? = some (.inl (0, 60, .inl (zA (fun _ => 0)))) := m10
  have m11 : σ296[a + 11]? = some (.inl (0, 5, .inl (zA (fun _ => 0)))) := m11
  show Go w mX9_init (11, 1689) 153 [some (.ref a)] [] σ296 (fun r σ' => r = none ∧ (∃ A : Nat → Int → Int, rM a (fun _ => 0) A σ' ∧ A 0 = (fun _ => 0) ∧ A 1 = mT0 ∧ A 3 = mAnew mT0 (fun _ => 0) ∧ A 4 = (fun _ => 0)) ∧ σ'.length = a + 12 ∧ g_Nf a σ σ')
  refine g_aload_n (q := 154) dX9_init_153 rfl rfl ?_
  refine g_bipush (v := iZ 29) (q := 156) dX9_init_154 (by decide) rfl ?_
  refine z_iconst (q := 157) dX9_init_156 rfl ?_
  refine g_bipush (v := iZ 6) (q := 159) dX9_init_157 (by decide) rfl ?_
  refine z_iconst (q := 160) dX9_init_159 rfl ?_
  refine z_iconst (q := 161) dX9_init_160 rfl ?_
  refine z_iconst (q := 162) dX9_init_161 rfl ?_
  refine g_callV (As := [.int (iZ 29), .int (iZ 3), .int (iZ 6), .int (iZ 1), .int (iZ 3), .int (iZ 3)]) (rest := []) (q := 165) moX9_adds lkX9_init_43 dX9_init_162 rfl hM297.1 (r_M_adds σ296 a _ _ hM297 29 3 6 1 3 3 (by omega) (by show 0 ≤ 29 + 4 * mT0_4 3 ∧ 29 + 4 * mT0_4 3 + 3 < 51; decide +kernel)) rfl rfl (Nat.le_of_ble_eq_true rfl) (Nat.le_of_ble_eq_true rfl) (Nat.le_of_ble_eq_true rfl) rfl ?_
  rintro r300 σ299 ⟨rfl, hq300, hf300⟩
  have hM300 : rM a (fun _ => 0) (nup (fun _ _ => 0) 1 mT0_5) σ299 := hq300.congr (fun _ _ => rfl) (fun j _ => by rw [nup_nup]; rfl)
  have nf300 := nf297.fr hf300 (fun k hk => hk.1)
  have l300 := hf300.1.trans l297
  obtain ⟨m0, m1, m2, m3, m4, m5, m6, m7, m8, m9, m10, m11⟩ := id hM300
  have m2 : σ299[a + 2]? = some (.inl (0, 51, .inl (zA mT0_5))) := m2
  have m0 : σ299[a]? = some (.inr (9, [.int (iZ 0), .ref (a + 1), .int (iZ 0), .ref (a + 2), .ref (a + 3), .ref (a + 4), .ref (a + 5), .int (iZ 0), .ref (a + 6), .ref (a + 7), .ref (a + 8), .int (iZ 0), .int (iZ 0), .ref (a + 9), .ref (a + 10), .ref (a + 11)])) := m0
  have m1 : σ299[a + 1]? = some (.inl (0, 200, .inl (zA (fun _ => 0)))) := m1
  have m3 : σ299[a + 3]? = some (.inl (0, 51, .inl (zA (fun _ => 0)))) := m3
  have m4 : σ299[a + 4]? = some (.inl (0, 156, .inl (zA (fun _ => 0)))) := m4
  have m5 : σ299[a + 5]? = some (.inl (0, 936, .inl (zA (fun _ => 0)))) := m5
  have m6 : σ299[a + 6]? = some (.inl (0, 156, .inl (zA (fun _ => 0)))) := m6
  have m7 : σ299[a + 7]? = some (.inl (0, 64, .inl (zA (fun _ => 0)))) := m7
  have m8 : σ299[a + 8]? = some (.inl (0, 5, .inl (zA (fun _ => 0)))) := m8
  have m9 : σ299[a + 9]? = some (.inl (0, 5, .inl (zA (fun _ => 0)))) := m9
  have m10 : σ299[a + 10]? = some (.inl (0, 60, .inl (zA (fun _ => 0)))) := m10
  have m11 : σ299[a + 11]? = some (.inl (0, 5, .inl (zA (fun _ => 0)))) := m11
  show Go w mX9_init (11, 1689) 165 [some (.ref a)] [] σ299 (fun r σ' => r = none ∧ (∃ A : Nat → Int → Int, rM a (fun _ => 0) A σ' ∧ A 0 = (fun _ => 0) ∧ A 1 = mT0 ∧ A 3 = mAnew mT0 (fun _ => 0) ∧ A 4 = (fun _ => 0)) ∧ σ'.length = a + 12 ∧ g_Nf a σ σ')
  refine g_aload_n (q := 166) dX9_init_165 rfl rfl ?_
  refine g_bipush (v := iZ 29) (q := 168) dX9_init_166 (by decide) rfl ?_
  refine z_iconst (q := 169) dX9_init_168 rfl ?_
  refine z_iconst (q := 170) dX9_init_169 rfl ?_
  refine z_iconst (q := 171) dX9_init_170 rfl ?_
  refine z_iconst (q := 172) dX9_init_171 rfl ?_
  refine z_iconst (q := 173) dX9_init_172 rfl ?_
  refine g_callV (As := [.int (iZ 29), .int (iZ 3), .int (iZ 2), .int (iZ 5), .int (iZ 1), .int (iZ 3)]) (rest := []) (q := 176) moX9_adds lkX9_init_43 dX9_init_173 rfl hM300.1 (r_M_adds σ299 a _ _ hM300 29 3 2 5 1 3 (by omega) (by show 0 ≤ 29 + 4 * mT0_5 3 ∧ 29 + 4 * mT0_5 3 + 3 < 51; decide +kernel)) rfl rfl (Nat.le_of_ble_eq_true rfl) (Nat.le_of_ble_eq_true rfl) (Nat.le_of_ble_eq_true rfl) rfl ?_
  rintro r303 σ302 ⟨rfl, hq303, hf303⟩
  have hM303 : rM a (fun _ => 0) (nup (fun _ _ => 0) 1 mT0_6) σ302 := hq303.congr (fun _ _ => rfl) (fun j _ => by rw [nup_nup]; rfl)
  have nf303 := nf300.fr hf303 (fun k hk => hk.1)
  have l303 := hf303.1.trans l300
  obtain ⟨m0, m1, m2, m3, m4, m5, m6, m7, m8, m9, m10, m11⟩ := id hM303
  have m2 : σ302[a + 2]? = some (.inl (0, 51, .inl (zA mT0_6))) := m2
  have m0 : σ302[a]? = some (.inr (9, [.int (iZ 0), .ref (a + 1), .int (iZ 0), .ref (a + 2), .ref (a + 3), .ref (a + 4), .ref (a + 5), .int (iZ 0), .ref (a + 6), .ref (a + 7), .ref (a + 8), .int (iZ 0), .int (iZ 0), .ref (a + 9), .ref (a + 10), .ref (a + 11)])) := m0
  have m1 : σ302[a + 1]? = some (.inl (0, 200, .inl (zA (fun _ => 0)))) := m1
  have m3 : σ302[a + 3]? = some (.inl (0, 51, .inl (zA (fun _ => 0)))) := m3
  have m4 : σ302[a + 4]? = some (.inl (0, 156, .inl (zA (fun _ => 0)))) := m4
  have m5 : σ302[a + 5]? = some (.inl (0, 936, .inl (zA (fun _ => 0)))) := m5
  have m6 : σ302[a + 6]? = some (.inl (0, 156, .inl (zA (fun _ => 0)))) := m6
  have m7 : σ302[a + 7]? = some (.inl (0, 64, .inl (zA (fun _ => 0)))) := m7
  have m8 : σ302[a + 8]? = some (.inl (0, 5, .inl (zA (fun _ => 0)))) := m8
  have m9 : σ302[a + 9]? = some (.inl (0, 5, .inl (zA (fun _ => 0)))) := m9
  have m10 : σ302[a + 10]? = some (.inl (0, 60, .inl (zA (fun _ => 0)))) := m10
  have m11 : σ302[a + 11]? = some (.inl (0, 5, .inl (zA (fun _ => 0)))) := m11
  show Go w mX9_init (11, 1689) 176 [some (.ref a)] [] σ302 (fun r σ' => r = none ∧ (∃ A : Nat → Int → Int, rM a (fun _ => 0) A σ' ∧ A 0 = (fun _ => 0) ∧ A 1 = mT0 ∧ A 3 = mAnew mT0 (fun _ => 0) ∧ A 4 = (fun _ => 0)) ∧ σ'.length = a + 12 ∧ g_Nf a σ σ')
  refine g_aload_n (q := 177) dX9_init_176 rfl rfl ?_
  refine g_bipush (v := iZ 29) (q := 179) dX9_init_177 (by decide) rfl ?_
  refine z_iconst (q := 180) dX9_init_179 rfl ?_
  refine g_bipush (v := iZ 6) (q := 182) dX9_init_180 (by decide) rfl ?_
  refine g_bipush (v := iZ 6) (q := 184) dX9_init_182 (by decide) rfl ?_
  refine z_iconst (q := 185) dX9_init_184 rfl ?_
  refine z_iconst (q := 186) dX9_init_185 rfl ?_
  refine g_callV (As := [.int (iZ 29), .int (iZ 3), .int (iZ 6), .int (iZ 6), .int (iZ 3), .int (iZ 1)]) (rest := []) (q := 189) moX9_adds lkX9_init_43 dX9_init_186 rfl hM303.1 (r_M_adds σ302 a _ _ hM303 29 3 6 6 3 1 (by omega) (by show 0 ≤ 29 + 4 * mT0_6 3 ∧ 29 + 4 * mT0_6 3 + 3 < 51; decide +kernel)) rfl rfl (Nat.le_of_ble_eq_true rfl) (Nat.le_of_ble_eq_true rfl) (Nat.le_of_ble_eq_true rfl) rfl ?_
  rintro r306 σ305 ⟨rfl, hq306, hf306⟩
  have hM306 : rM a (fun _ => 0) (nup (fun _ _ => 0) 1 mT0_7) σ305 := hq306.congr (fun _ _ => rfl) (fun j _ => by rw [nup_nup]; rfl)
  have nf306 := nf303.fr hf306 (fun k hk => hk.1)
  have l306 := hf306.1.trans l303
  obtain ⟨m0, m1, m2, m3, m4, m5, m6, m7, m8, m9, m10, m11⟩ := id hM306
  have m2 : σ305[a + 2]? = some (.inl (0, 51, .inl (zA mT0_7))) := m2
  have m0 : σ305[a]? = some (.inr (9, [.int (iZ 0), .ref (a + 1), .int (iZ 0), .ref (a + 2), .ref (a + 3), .ref (a + 4), .ref (a + 5), .int (iZ 0), .ref (a + 6), .ref (a + 7), .ref (a + 8), .int (iZ 0), .int (iZ 0), .ref (a + 9), .ref (a + 10), .ref (a + 11)])) := m0
  have m1 : σ305[a + 1]? = some (.inl (0, 200, .inl (zA (fun _ => 0)))) := m1
  have m3 : σ305[a + 3]? = some (.inl (0, 51, .inl (zA (fun _ => 0)))) := m3
  have m4 : σ305[a + 4]? = some (.inl (0, 156, .inl (zA (fun _ => 0)))) := m4
  have m5 : σ305[a + 5]? = some (.inl (0, 936, .inl (zA (fun _ => 0)))) := m5
  have m6 : σ305[a + 6]? = some (.inl (0, 156, .inl (zA (fun _ => 0)))) := m6
  have m7 : σ305[a + 7]? = some (.inl (0, 64, .inl (zA (fun _ => 0)))) := m7
  have m8 : σ305[a + 8]? = some (.inl (0, 5, .inl (zA (fun _ => 0)))) := m8
  have m9 : σ305[a + 9]? = some (.inl (0, 5, .inl (zA (fun _ => 0)))) := m9
  have m10 : σ305[a + 10]? = some (.inl (0, 60, .inl (zA (fun _ => 0)))) := m10
  have m11 : σ305[a + 11]? = some (.inl (0, 5, .inl (zA (fun _ => 0)))) := m11
  show Go w mX9_init (11, 1689) 189 [some (.ref a)] [] σ305 (fun r σ' => r = none ∧ (∃ A : Nat → Int → Int, rM a (fun _ => 0) A σ' ∧ A 0 = (fun _ => 0) ∧ A 1 = mT0 ∧ A 3 = mAnew mT0 (fun _ => 0) ∧ A 4 = (fun _ => 0)) ∧ σ'.length = a + 12 ∧ g_Nf a σ σ')
  refine g_aload_n (q := 190) dX9_init_189 rfl rfl ?_
  refine g_get (q := 193) flX9_13 dX9_init_190 m0 rfl rfl ?_
  refine z_iconst (q := 194) dX9_init_193 rfl ?_
  refine z_iconst (q := 195) dX9_init_194 rfl ?_
  refine z_iast (q := 196) dX9_init_195 m2 (by omega) rfl (fun σ307 c308 f309 => ?_)
  have c310 := (f309.2 a (by omega)).trans m0
  have c311 := (f309.2 (a + 1) (by omega)).trans m1
  have c312 := (f309.2 (a + 3) (by omega)).trans m3
  have c313 := (f309.2 (a + 4) (by omega)).trans m4
  have c314 := (f309.2 (a + 5) (by omega)).trans m5
  have c315 := (f309.2 (a + 6) (by omega)).trans m6
  have c316 := (f309.2 (a + 7) (by omega)).trans m7
  have c317 := (f309.2 (a + 8) (by omega)).trans m8
  have c318 := (f309.2 (a + 9) (by omega)).trans m9
  have c319 := (f309.2 (a + 10) (by omega)).trans m10
  have c320 := (f309.2 (a + 11) (by omega)).trans m11
  have l321 : σ307.length = a + 12 := f309.1.trans l306
  have nf322 := nf306.put f309 (by omega)
  refine g_aload_n (q := 197) dX9_init_196 rfl rfl ?_
  refine g_get (q := 200) flX9_13 dX9_init_197 c310 rfl rfl ?_
  refine g_bipush (v := iZ 49) (q := 202) dX9_init_200 (by decide) rfl ?_
  refine z_iconst (q := 203) dX9_init_202 rfl ?_
  refine z_iast (q := 204) dX9_init_203 c308 (by omega) rfl (fun σ323 c324 f325 => ?_)
  have c326 := (f325.2 a (by omega)).trans c310
  have c327 := (f325.2 (a + 1) (by omega)).trans c311
  have c328 := (f325.2 (a + 3) (by omega)).trans c312
  have c329 := (f325.2 (a + 4) (by omega)).trans c313
  have c330 := (f325.2 (a + 5) (by omega)).trans c314
  have c331 := (f325.2 (a + 6) (by omega)).trans c315
  have c332 := (f325.2 (a + 7) (by omega)).trans c316
  have c333 := (f325.2 (a + 8) (by omega)).trans c317
  have c334 := (f325.2 (a + 9) (by omega)).trans c318
  have c335 := (f325.2 (a + 10) (by omega)).trans c319
  have c336 := (f325.2 (a + 11) (by omega)).trans c320
  have l337 : σ323.length = a + 12 := f325.1.trans l321
  have nf338 := nf322.put f325 (by omega)
  refine g_aload_n (q := 205) dX9_init_204 rfl rfl ?_
  refine g_get (q := 208) flX9_13 dX9_init_205 c326 rfl rfl ?_
  refine g_bipush (v := iZ 50) (q := 210) dX9_init_208 (by decide) rfl ?_
  refine g_bipush (v := iZ 7) (q := 212) dX9_init_210 (by decide) rfl ?_
  refine z_iast (q := 213) dX9_init_212 c324 (by omega) rfl (fun σ339 c340 f341 => ?_)
  have c342 := (f341.2 a (by omega)).trans c326
  have c343 := (f341.2 (a + 1) (by omega)).trans c327
  have c344 := (f341.2 (a + 3) (by omega)).trans c328
  have c345 := (f341.2 (a + 4) (by omega)).trans c329
  have c346 := (f341.2 (a + 5) (by omega)).trans c330
  have c347 := (f341.2 (a + 6) (by omega)).trans c331
  have c348 := (f341.2 (a + 7) (by omega)).trans c332
  have c349 := (f341.2 (a + 8) (by omega)).trans c333
  have c350 := (f341.2 (a + 9) (by omega)).trans c334
  have c351 := (f341.2 (a + 10) (by omega)).trans c335
  have c352 := (f341.2 (a + 11) (by omega)).trans c336
  have l353 : σ339.length = a + 12 := f341.1.trans l337
  have nf354 := nf338.put f341 (by omega)
  refine g_aload_n (q := 214) dX9_init_213 rfl rfl ?_
  have hMz : rM a (fun _ => 0) (nup (fun _ _ => 0) 1 mT0) σ339 := ⟨c342, c343, c340, c344, c345, c346, c347, c348, c349, c350, c351, c352⟩
  refine g_callV (As := []) (rest := []) (q := 217) moX9_anew lkX9_init_47 dX9_init_214 rfl hMz.1 (r_M_anew σ339 a _ _ hMz) rfl rfl (Nat.le_of_ble_eq_true rfl) (Nat.le_of_ble_eq_true rfl) (Nat.le_of_ble_eq_true rfl) rfl ?_
  rintro rz σz ⟨rfl, hqz, hfz⟩
  have nfz := nf354.fr hfz (fun k hk => hk.1)
  have lz := hfz.1.trans l353
  show Go w mX9_init (11, 1689) 217 [some (.ref a)] [] σz (fun r σ' => r = none ∧ (∃ A : Nat → Int → Int, rM a (fun _ => 0) A σ' ∧ A 0 = (fun _ => 0) ∧ A 1 = mT0 ∧ A 3 = mAnew mT0 (fun _ => 0) ∧ A 4 = (fun _ => 0)) ∧ σ'.length = a + 12 ∧ g_Nf a σ σ')
  refine g_vret dX9_init_217 rfl (Nat.le_of_ble_eq_true rfl) (Nat.le_of_ble_eq_true rfl) ?_
  refine ⟨rfl, ⟨_, hqz.congr (fun j _ => ?_) (fun _ _ => rfl), rfl, rfl, rfl, rfl⟩, lz, nfz⟩
  unfold nup; split <;> rfl
