theorem rC.told {j d : Nat} {L : Int} {tx T T' S B : Int → Int} {n : Int} {σ : g_H0} (h : rC j d L tx T S B 0 σ) (e : ∀ k, 0 ≤ k → k < 51 → T k = T' k) (hb : (T 2 ≤ 6 ∧ T 3 ≤ 5) ∧ T 4 ≤ 2) : rC j d L tx T' S B 0 σ := by
  obtain ⟨hjd, c0, hT, hR, hS, hS0, ⟨nx, hH⟩, hPl, hA, hJ, hD⟩ := h
  refine ⟨hjd, c0, hT, hR, ?_, hS0, ⟨nx, ?_⟩, hPl, hA, hJ.congr hb e, hD⟩
  · obtain ⟨h1, C, W, K, h2, h3, h4, h5, h6, h7⟩ := hS
    exact ⟨h1, C, W, K, h2, h3, h4, h5, h6, fun c c0 c1 => h7 c c0 (by have := e 4 (by omega) (by omega); omega)⟩
  · obtain ⟨q1, q2, q4, q5, q6⟩ := hH
    exact ⟨q1, q2, q4, q5, fun i i0 i1 => by omega⟩
theorem first_T : ∀ k, 0 ≤ k → k < 51 → zcp (fun _ => 0) (mFlt 121 tx0 (fun _ => 0)).2 0 0 51 k = mT0 k := by
  intro k k0 k1
  rw [zcp_in _ _ ⟨k0, k1⟩]
  obtain ⟨n, rfl⟩ := Int.eq_ofNat_of_zero_le k0
  exact first_2 n (by omega)
theorem first_c : (mFlt 121 tx0 (fun _ => 0)).1 = -4 ∧ (mFlt 121 tx0 (fun _ => 0)).2 2 ≠ 0 := by decide +kernel
theorem first_b : (zcp (fun _ => 0) (mFlt 121 tx0 (fun _ => 0)).2 0 0 51 2 ≤ 6 ∧ zcp (fun _ => 0) (mFlt 121 tx0 (fun _ => 0)).2 0 0 51 3 ≤ 5) ∧ zcp (fun _ => 0) (mFlt 121 tx0 (fun _ => 0)).2 0 0 51 4 ≤ 2 := by decide +kernel
theorem mAnew_congr {T T' : Int → Int} (S : Int → Int) (e : ∀ k, 0 ≤ k → k < 51 → T k = T' k) : mAnew T S = mAnew T' S := by
  unfold mAnew
  rw [e 49 (by omega) (by omega), e 50 (by omega) (by omega)]
theorem rC.laid0 {j d : Nat} {L : Int} {tx T T' S B : Int → Int} {σ : g_H0} (h : rC j d L tx T (mAnew T S) B 0 σ) (e : ∀ k, 0 ≤ k → k < 51 → T k = T' k) (hb : (T 2 ≤ 6 ∧ T 3 ≤ 5) ∧ T 4 ≤ 2) : rC j d L tx T' (mAnew T' S) B 0 σ := by
  rw [← mAnew_congr S e]
  exact rC.told (n := 0) h e hb
theorem tx0_at {k : Int} (h : 0 ≤ k ∧ k < 121) : sC 0 k = tx0 k := by
  obtain ⟨n, rfl⟩ := Int.eq_ofNat_of_zero_le h.1
  exact tx0_ok n (by omega)
theorem l_X8_init (w : g_W) : ∀ (n : Nat) (i : Int) (σ : g_H0), 0 ≤ i → i + n = 121 → σ.length = 77 → rC 45 61 i tx0 (fun _ => 0) (fun _ => 0) (fun _ => 0) 0 σ → Go w mX8_init (76, 651) 105 [some (.ref 0), some (.int (iZ i))] [] σ (fun r σ' => r = none ∧ (∃ j d : Nat, rC j d 0 (fun _ => 0) mT0 (mAnew mT0 (fun _ => 0)) (fun _ => 0) 0 σ') ∧ σ'.length = 77) := by
  intro n
  induction n with
  | zero =>
    intro i σ i0 i1 hl hQ
    obtain ⟨-, c0, hT, -⟩ := id hQ
    have hQe : rC 45 61 121 tx0 (fun _ => 0) (fun _ => 0) (fun _ => 0) 0 σ := by rw [show (121 : Int) = i by omega]; exact hQ
    refine g_iload_n (q := 106) dX8_init_105 rfl rfl ?_
    refine g_ldcS (i := 0) (q := 108) (by omega) rfl dX8_init_106 rfl rfl ?_
    refine g_callVS (i := 0) (x := (UInt32.ofNat (1 + 0))) (As := []) (rest := [.int (iZ i)]) (q := 111) (by omega) rfl rfl moJ0_length_8abf5 lkX8_init_66 dX8_init_108 (r_s_length σ 0 (by omega) (UInt32.ofNat (1 + 0)) rfl (UInt32.ofNat (11 + 0)) rfl) rfl rfl (Nat.le_of_ble_eq_true rfl) (Nat.le_of_ble_eq_true rfl) (Nat.le_of_ble_eq_true rfl) rfl ?_
    rintro r1 s1 hp
    rw [hp.1, hp.2]
    show Go w mX8_init (76, 651) 111 [some (.ref 0), some (.int (iZ i))] [.int (iZ (sL 0)), .int (iZ i)] σ (fun r σ' => r = none ∧ (∃ j d : Nat, rC j d 0 (fun _ => 0) mT0 (mAnew mT0 (fun _ => 0)) (fun _ => 0) 0 σ') ∧ σ'.length = 77)
    rw [sL_0]
    show Go w mX8_init (76, 651) 111 [some (.ref 0), some (.int (iZ i))] [.int (iZ 121), .int (iZ i)] σ (fun r σ' => r = none ∧ (∃ j d : Nat, rC j d 0 (fun _ => 0) mT0 (mAnew mT0 (fun _ => 0)) (fun _ => 0) 0 σ') ∧ σ'.length = 77)
    refine z_icmp_ge (t := 134) (q := 114) dX8_init_111 rfl (by omega) rfl (fun pc1 => ?_) (fun pc1 => ?_)
    · refine g_aload_n (q := 135) dX8_init_134 rfl rfl ?_
      refine g_callV (As := []) (rest := []) (q := 138) moX8_layDraft lkX8_init_80 dX8_init_135 rfl c0 (r_C_layDraft σ 45 61 121 tx0 (fun _ => 0) (fun _ => 0) (fun _ => 0) 0 hQe (by omega) tx0_b (fun _ => 0)) rfl rfl (Nat.le_of_ble_eq_true rfl) (Nat.le_of_ble_eq_true rfl) (Nat.le_of_ble_eq_true rfl) rfl ?_
      rintro rl σ1 hpl
      rcases hpl with ⟨-, rfl, hQ1, f1⟩ | ⟨hc, -⟩
      rotate_left
      · exact absurd first_c hc
      have hl1 := f1.1.trans hl
      obtain ⟨-, c01, hT1, -⟩ := id hQ1
      show Go w mX8_init (76, 651) 138 [some (.ref 0), some (.int (iZ i))] [.int (iZ 1)] σ1 (fun r σ' => r = none ∧ (∃ j d : Nat, rC j d 0 (fun _ => 0) mT0 (mAnew mT0 (fun _ => 0)) (fun _ => 0) 0 σ') ∧ σ'.length = 77)
      refine g_pop (q := 139) dX8_init_138 rfl rfl ?_
      refine g_aload_n (q := 140) dX8_init_139 rfl rfl ?_
      refine g_get (q := 143) flX8_10 dX8_init_140 c01 rfl rfl ?_
      refine g_callV (As := []) (rest := []) (q := 146) moX6_clear lkX8_init_84 dX8_init_143 rfl hT1.1 (r_tclear σ1 1 121 tx0 (fun _ => 0) hT1) rfl rfl (Nat.le_of_ble_eq_true rfl) (Nat.le_of_ble_eq_true rfl) (Nat.le_of_ble_eq_true rfl) rfl ?_
      rintro rc σ2 ⟨rfl, q2, f2⟩
      have hQ2 := rC.text q2 hQ1 f2
      show Go w mX8_init (76, 651) 146 [some (.ref 0), some (.int (iZ i))] [] σ2 (fun r σ' => r = none ∧ (∃ j d : Nat, rC j d 0 (fun _ => 0) mT0 (mAnew mT0 (fun _ => 0)) (fun _ => 0) 0 σ') ∧ σ'.length = 77)
      refine g_vret dX8_init_146 rfl (Nat.le_of_ble_eq_true rfl) (Nat.le_of_ble_eq_true rfl) ?_
      refine ⟨rfl, ⟨61, 45, ?_⟩, f2.1.trans hl1⟩
      exact rC.laid0 hQ2 first_T first_b
    · exfalso
      omega
  | succ n ih =>
    intro i σ i0 i1 hl hQ
    obtain ⟨-, c0, hT, -⟩ := id hQ
    refine g_iload_n (q := 106) dX8_init_105 rfl rfl ?_
    refine g_ldcS (i := 0) (q := 108) (by omega) rfl dX8_init_106 rfl rfl ?_
    refine g_callVS (i := 0) (x := (UInt32.ofNat (1 + 0))) (As := []) (rest := [.int (iZ i)]) (q := 111) (by omega) rfl rfl moJ0_length_8abf5 lkX8_init_66 dX8_init_108 (r_s_length σ 0 (by omega) (UInt32.ofNat (1 + 0)) rfl (UInt32.ofNat (11 + 0)) rfl) rfl rfl (Nat.le_of_ble_eq_true rfl) (Nat.le_of_ble_eq_true rfl) (Nat.le_of_ble_eq_true rfl) rfl ?_
    rintro r1 s1 hp
    rw [hp.1, hp.2]
    show Go w mX8_init (76, 651) 111 [some (.ref 0), some (.int (iZ i))] [.int (iZ (sL 0)), .int (iZ i)] σ (fun r σ' => r = none ∧ (∃ j d : Nat, rC j d 0 (fun _ => 0) mT0 (mAnew mT0 (fun _ => 0)) (fun _ => 0) 0 σ') ∧ σ'.length = 77)
    rw [sL_0]
    show Go w mX8_init (76, 651) 111 [some (.ref 0), some (.int (iZ i))] [.int (iZ 121), .int (iZ i)] σ (fun r σ' => r = none ∧ (∃ j d : Nat, rC j d 0 (fun _ => 0) mT0 (mAnew mT0 (fun _ => 0)) (fun _ => 0) 0 σ') ∧ σ'.length = 77)
    refine z_icmp_ge (t := 134) (q := 114) dX8_init_111 rfl (by omega) rfl (fun pc1 => ?_) (fun pc1 => ?_)
    · exfalso
      omega
    · refine g_aload_n (q := 115) dX8_init_114 rfl rfl ?_
      refine g_get (q := 118) flX8_10 dX8_init_115 c0 rfl rfl ?_
      refine g_ldcS (i := 0) (q := 120) (by omega) rfl dX8_init_118 rfl rfl ?_
      refine g_iload_n (q := 121) dX8_init_120 rfl rfl ?_
      have bk : 0 ≤ i ∧ i < sL 0 := by rw [sL_0]; omega
      refine g_callVS (i := 0) (x := (UInt32.ofNat (1 + 0))) (As := [.int (iZ i)]) (rest := [.ref 1]) (q := 124) (by omega) rfl rfl moJ0_charAt_5068e lkX8_init_72 dX8_init_121 (r_s_charAt σ 0 (by omega) (UInt32.ofNat (1 + 0)) rfl (UInt32.ofNat (11 + 0)) rfl i bk) rfl rfl (Nat.le_of_ble_eq_true rfl) (Nat.le_of_ble_eq_true rfl) (Nat.le_of_ble_eq_true rfl) rfl ?_
      rintro r1 s1 hp
      rw [hp.1, hp.2]
      show Go w mX8_init (76, 651) 124 [some (.ref 0), some (.int (iZ i))] [.int (iZ (sC 0 i)), .ref 1] σ (fun r σ' => r = none ∧ (∃ j d : Nat, rC j d 0 (fun _ => 0) mT0 (mAnew mT0 (fun _ => 0)) (fun _ => 0) 0 σ') ∧ σ'.length = 77)
      rw [tx0_at (k := i) (by omega)]
      show Go w mX8_init (76, 651) 124 [some (.ref 0), some (.int (iZ i))] [.int (iZ (tx0 i)), .ref 1] σ (fun r σ' => r = none ∧ (∃ j d : Nat, rC j d 0 (fun _ => 0) mT0 (mAnew mT0 (fun _ => 0)) (fun _ => 0) 0 σ') ∧ σ'.length = 77)
      have bC := tx0_b i (by omega) (by omega)
      refine g_callV (As := [.int (iZ (tx0 i))]) (rest := []) (q := 127) moX6_append lkX8_init_76 dX8_init_124 rfl hT.1 (r_append σ 1 i tx0 hT (by omega) (tx0 i) (by omega)) rfl rfl (Nat.le_of_ble_eq_true rfl) (Nat.le_of_ble_eq_true rfl) (Nat.le_of_ble_eq_true rfl) rfl ?_
      rintro ra σ1 hpa
      rcases hpa with ⟨hL0, -⟩ | ⟨hL0, rfl, q1, f1⟩
      · exfalso; omega
      · rw [zup_id] at q1
        have hQ1 := rC.text q1 hQ f1
        have hl1 := f1.1.trans hl
        show Go w mX8_init (76, 651) 127 [some (.ref 0), some (.int (iZ i))] [.int (iZ 1)] σ1 (fun r σ' => r = none ∧ (∃ j d : Nat, rC j d 0 (fun _ => 0) mT0 (mAnew mT0 (fun _ => 0)) (fun _ => 0) 0 σ') ∧ σ'.length = 77)
        refine g_pop (q := 128) dX8_init_127 rfl rfl ?_
        refine z_iincc (c := (i + 1)) (ml' := [some (.ref 0), some (.int (iZ (i + 1)))]) (q := 131) dX8_init_128 rfl (by omega) rfl rfl rfl ?_
        refine g_goto (q := 105) dX8_init_131 rfl ?_
        exact ih (i + 1) σ1 (by omega) (by omega) hl1 hQ1
theorem r_C_init (σ : g_H0) (hl : σ.length = 0 + 1) (h0 : σ[0]? = some (.inr (8, [.null, .null, .null, .null, .null, .null, .null, .null, .null]))) : Ret mX8_init [.ref 0] σ (fun r σ' => r = none ∧ (∃ j d : Nat, rC j d 0 (fun _ => 0) mT0 (mAnew mT0 (fun _ => 0)) (fun _ => 0) 0 σ') ∧ σ'.length = 77) := by
  refine Ret.of moX8_init.1 (Nat.le_of_ble_eq_true rfl) (fun w => ?_)
  have nf0 : g_Nf 0 σ σ := g_Nf.rf
  show Go w mX8_init (0, 0) 0 [some (.ref 0), none] [] σ (fun r σ' => r = none ∧ (∃ j d : Nat, rC j d 0 (fun _ => 0) mT0 (mAnew mT0 (fun _ => 0)) (fun _ => 0) 0 σ') ∧ σ'.length = 77)
  refine g_aload_n (q := 1) dX8_init_0 rfl rfl ?_
  refine g_objInit (q := 4) obX8_1 ob_i ob_c dX8_init_1 (Nat.le_of_ble_eq_true rfl) (Nat.le_of_ble_eq_true rfl) rfl rfl ?_
  refine g_aload_n (q := 5) dX8_init_4 rfl rfl ?_
  refine z_new (a := 1) (q := 8) nwX8_7 dX8_init_5 (Nat.le_of_ble_eq_true rfl) (Nat.le_of_ble_eq_true rfl) hl rfl (fun σ1 l4 c2 g3 => ?_)
  have c5 := g3.at h0
  have l6 : σ1.length = 2 := l4
  show Go w mX8_init (1, 2) 8 [some (.ref 0), none] [.ref 1, .ref 0] σ1 (fun r σ' => r = none ∧ (∃ j d : Nat, rC j d 0 (fun _ => 0) mT0 (mAnew mT0 (fun _ => 0)) (fun _ => 0) 0 σ') ∧ σ'.length = 77)
  refine g_dup (q := 9) dX8_init_8 rfl rfl ?_
  refine g_callIN (As := []) (rest := [.ref 1, .ref 0]) (q := 12) moX6_init rfl lkX8_init_9 dX8_init_9 (r_X6_init σ1 1 l6 c2) rfl rfl (Nat.le_of_ble_eq_true rfl) (Nat.le_of_ble_eq_true rfl) (Nat.le_of_ble_eq_true rfl) rfl ?_
  rintro rn σ7 ⟨rfl, hz8, l9, nf10⟩
  have c11 := (nf10 0 (by omega)).trans c5
  have l12 : σ7.length = 3 := l9
  show Go w mX8_init (2, 202) 12 [some (.ref 0), none] [.ref 1, .ref 0] σ7 (fun r σ' => r = none ∧ (∃ j d : Nat, rC j d 0 (fun _ => 0) mT0 (mAnew mT0 (fun _ => 0)) (fun _ => 0) 0 σ') ∧ σ'.length = 77)
  refine z_putF (fs' := [.ref 1, .null, .null, .null, .null, .null, .null, .null, .null]) (q := 15) fpX8_10 rfl dX8_init_12 c11 (Nat.le_of_ble_eq_true rfl) rfl rfl rfl rfl (fun σ13 c14 f15 => ?_)
  have b16 := hz8.fr (σ' := σ13) (fun k k0 k1 => f15.2 k (by omega))
  have l17 : σ13.length = 3 := f15.1.trans l12
  refine g_aload_n (q := 16) dX8_init_15 rfl rfl ?_
  refine z_new (a := 3) (q := 19) nwX8_16 dX8_init_16 (Nat.le_of_ble_eq_true rfl) (Nat.le_of_ble_eq_true rfl) l17 rfl (fun σ18 l21 c19 g20 => ?_)
  have c22 := g20.at c14
  have b23 := b16.fr (σ' := σ18) (fun k k0 k1 => g20 k (by rw [l17]; omega))
  have l24 : σ18.length = 4 := l21
  show Go w mX8_init (3, 204) 19 [some (.ref 0), none] [.ref 3, .ref 0] σ18 (fun r σ' => r = none ∧ (∃ j d : Nat, rC j d 0 (fun _ => 0) mT0 (mAnew mT0 (fun _ => 0)) (fun _ => 0) 0 σ') ∧ σ'.length = 77)
  refine g_dup (q := 20) dX8_init_19 rfl rfl ?_
  refine g_callIN (As := []) (rest := [.ref 3, .ref 0]) (q := 23) moX4_init rfl lkX8_init_18 dX8_init_20 (r_X4_init σ18 3 l24 c19) rfl rfl (Nat.le_of_ble_eq_true rfl) (Nat.le_of_ble_eq_true rfl) (Nat.le_of_ble_eq_true rfl) rfl ?_
  rintro rn σ25 ⟨rfl, hz26, l27, nf28⟩
  have c29 := (nf28 0 (by omega)).trans c22
  have b30 := b23.fr (σ' := σ25) (fun k k0 k1 => nf28 k (by omega))
  have l31 : σ25.length = 5 := l27
  show Go w mX8_init (4, 208) 23 [some (.ref 0), none] [.ref 3, .ref 0] σ25 (fun r σ' => r = none ∧ (∃ j d : Nat, rC j d 0 (fun _ => 0) mT0 (mAnew mT0 (fun _ => 0)) (fun _ => 0) 0 σ') ∧ σ'.length = 77)
  refine z_putF (fs' := [.ref 1, .ref 3, .null, .null, .null, .null, .null, .null, .null]) (q := 26) fpX8_19 rfl dX8_init_23 c29 (Nat.le_of_ble_eq_true rfl) rfl rfl rfl rfl (fun σ32 c33 f34 => ?_)
  have b35 := b30.fr (σ' := σ32) (fun k k0 k1 => f34.2 k (by omega))
  have b36 := hz26.fr (σ' := σ32) (fun k k0 k1 => f34.2 k (by omega))
  have l37 : σ32.length = 5 := f34.1.trans l31
  refine g_aload_n (q := 27) dX8_init_26 rfl rfl ?_
  refine z_new (a := 5) (q := 30) nwX8_23 dX8_init_27 (Nat.le_of_ble_eq_true rfl) (Nat.le_of_ble_eq_true rfl) l37 rfl (fun σ38 l41 c39 g40 => ?_)
  have c42 := g40.at c33
  have b43 := b35.fr (σ' := σ38) (fun k k0 k1 => g40 k (by rw [l37]; omega))
  have b44 := b36.fr (σ' := σ38) (fun k k0 k1 => g40 k (by rw [l37]; omega))
  have l45 : σ38.length = 6 := l41
  show Go w mX8_init (5, 215) 30 [some (.ref 0), none] [.ref 5, .ref 0] σ38 (fun r σ' => r = none ∧ (∃ j d : Nat, rC j d 0 (fun _ => 0) mT0 (mAnew mT0 (fun _ => 0)) (fun _ => 0) 0 σ') ∧ σ'.length = 77)
  refine g_dup (q := 31) dX8_init_30 rfl rfl ?_
  refine g_callIN (As := []) (rest := [.ref 5, .ref 0]) (q := 34) moX5_init rfl lkX8_init_25 dX8_init_31 (r_X5_init σ38 5 l45 c39) rfl rfl (Nat.le_of_ble_eq_true rfl) (Nat.le_of_ble_eq_true rfl) (Nat.le_of_ble_eq_true rfl) rfl ?_
  rintro rn σ46 ⟨rfl, hz47, l48, nf49⟩
  have c50 := (nf49 0 (by omega)).trans c42
  have b51 := b43.fr (σ' := σ46) (fun k k0 k1 => nf49 k (by omega))
  have b52 := b44.fr (σ' := σ46) (fun k k0 k1 => nf49 k (by omega))
  have hz53 := hz47.st (fun _ => 0)
  have l54 : σ46.length = 9 := l48
  show Go w mX8_init (8, 235) 34 [some (.ref 0), none] [.ref 5, .ref 0] σ46 (fun r σ' => r = none ∧ (∃ j d : Nat, rC j d 0 (fun _ => 0) mT0 (mAnew mT0 (fun _ => 0)) (fun _ => 0) 0 σ') ∧ σ'.length = 77)
  refine z_putF (fs' := [.ref 1, .ref 3, .ref 5, .null, .null, .null, .null, .null, .null]) (q := 37) fpX8_26 rfl dX8_init_34 c50 (Nat.le_of_ble_eq_true rfl) rfl rfl rfl rfl (fun σ55 c56 f57 => ?_)
  have b58 := b51.fr (σ' := σ55) (fun k k0 k1 => f57.2 k (by omega))
  have b59 := b52.fr (σ' := σ55) (fun k k0 k1 => f57.2 k (by omega))
  have b60 := hz53.fr (σ' := σ55) (fun k k0 k1 => f57.2 k (by omega))
  have l61 : σ55.length = 9 := f57.1.trans l54
  refine g_aload_n (q := 38) dX8_init_37 rfl rfl ?_
  refine z_new (a := 9) (q := 41) nwX8_23 dX8_init_38 (Nat.le_of_ble_eq_true rfl) (Nat.le_of_ble_eq_true rfl) l61 rfl (fun σ62 l65 c63 g64 => ?_)
  have c66 := g64.at c56
  have b67 := b58.fr (σ' := σ62) (fun k k0 k1 => g64 k (by rw [l61]; omega))
  have b68 := b59.fr (σ' := σ62) (fun k k0 k1 => g64 k (by rw [l61]; omega))
  have b69 := b60.fr (σ' := σ62) (fun k k0 k1 => g64 k (by rw [l61]; omega))
  have l70 : σ62.length = 10 := l65
  show Go w mX8_init (9, 242) 41 [some (.ref 0), none] [.ref 9, .ref 0] σ62 (fun r σ' => r = none ∧ (∃ j d : Nat, rC j d 0 (fun _ => 0) mT0 (mAnew mT0 (fun _ => 0)) (fun _ => 0) 0 σ') ∧ σ'.length = 77)
  refine g_dup (q := 42) dX8_init_41 rfl rfl ?_
  refine g_callIN (As := []) (rest := [.ref 9, .ref 0]) (q := 45) moX5_init rfl lkX8_init_25 dX8_init_42 (r_X5_init σ62 9 l70 c63) rfl rfl (Nat.le_of_ble_eq_true rfl) (Nat.le_of_ble_eq_true rfl) (Nat.le_of_ble_eq_true rfl) rfl ?_
  rintro rn σ71 ⟨rfl, hz72, l73, nf74⟩
  have c75 := (nf74 0 (by omega)).trans c66
  have b76 := b67.fr (σ' := σ71) (fun k k0 k1 => nf74 k (by omega))
  have b77 := b68.fr (σ' := σ71) (fun k k0 k1 => nf74 k (by omega))
  have b78 := b69.fr (σ' := σ71) (fun k k0 k1 => nf74 k (by omega))
  have hz79 := hz72.st (fun _ => 0)
  have l80 : σ71.length = 13 := l73
  show Go w mX8_init (12, 262) 45 [some (.ref 0), none] [.ref 9, .ref 0] σ71 (fun r σ' => r = none ∧ (∃ j d : Nat, rC j d 0 (fun _ => 0) mT0 (mAnew mT0 (fun _ => 0)) (fun _ => 0) 0 σ') ∧ σ'.length = 77)
  refine z_putF (fs' := [.ref 1, .ref 3, .ref 5, .ref 9, .null, .null, .null, .null, .null]) (q := 48) fpX8_30 rfl dX8_init_45 c75 (Nat.le_of_ble_eq_true rfl) rfl rfl rfl rfl (fun σ81 c82 f83 => ?_)
  have b84 := b76.fr (σ' := σ81) (fun k k0 k1 => f83.2 k (by omega))
  have b85 := b77.fr (σ' := σ81) (fun k k0 k1 => f83.2 k (by omega))
  have b86 := b78.fr (σ' := σ81) (fun k k0 k1 => f83.2 k (by omega))
  have b87 := hz79.fr (σ' := σ81) (fun k k0 k1 => f83.2 k (by omega))
  have l88 : σ81.length = 13 := f83.1.trans l80
  refine g_aload_n (q := 49) dX8_init_48 rfl rfl ?_
  refine z_new (a := 13) (q := 52) nwX8_33 dX8_init_49 (Nat.le_of_ble_eq_true rfl) (Nat.le_of_ble_eq_true rfl) l88 rfl (fun σ89 l92 c90 g91 => ?_)
  have c93 := g91.at c82
  have b94 := b84.fr (σ' := σ89) (fun k k0 k1 => g91 k (by rw [l88]; omega))
  have b95 := b85.fr (σ' := σ89) (fun k k0 k1 => g91 k (by rw [l88]; omega))
  have b96 := b86.fr (σ' := σ89) (fun k k0 k1 => g91 k (by rw [l88]; omega))
  have b97 := b87.fr (σ' := σ89) (fun k k0 k1 => g91 k (by rw [l88]; omega))
  have l98 : σ89.length = 14 := l92
  show Go w mX8_init (13, 265) 52 [some (.ref 0), none] [.ref 13, .ref 0] σ89 (fun r σ' => r = none ∧ (∃ j d : Nat, rC j d 0 (fun _ => 0) mT0 (mAnew mT0 (fun _ => 0)) (fun _ => 0) 0 σ') ∧ σ'.length = 77)
  refine g_dup (q := 53) dX8_init_52 rfl rfl ?_
  refine g_callI (As := []) (rest := [.ref 13, .ref 0]) (q := 56) moX1_init rfl lkX8_init_35 dX8_init_53 (r_X1_init σ89 13 l98 c90) rfl rfl (Nat.le_of_ble_eq_true rfl) (Nat.le_of_ble_eq_true rfl) (Nat.le_of_ble_eq_true rfl) rfl ?_
  rintro rn σ99 ⟨rfl, hz100, l101, nf102⟩
  have c103 := (nf102 0 (by omega)).trans c93
  have b104 := b94.fr (σ' := σ99) (fun k k0 k1 => nf102 k (by omega))
  have b105 := b95.fr (σ' := σ99) (fun k k0 k1 => nf102 k (by omega))
  have b106 := b96.fr (σ' := σ99) (fun k k0 k1 => nf102 k (by omega))
  have b107 := b97.fr (σ' := σ99) (fun k k0 k1 => nf102 k (by omega))
  have l108 : σ99.length = 39 := l101
  show Go w mX8_init (38, 433) 56 [some (.ref 0), none] [.ref 13, .ref 0] σ99 (fun r σ' => r = none ∧ (∃ j d : Nat, rC j d 0 (fun _ => 0) mT0 (mAnew mT0 (fun _ => 0)) (fun _ => 0) 0 σ') ∧ σ'.length = 77)
  refine z_putF (fs' := [.ref 1, .ref 3, .ref 5, .ref 9, .ref 13, .null, .null, .null, .null]) (q := 59) fpX8_36 rfl dX8_init_56 c103 (Nat.le_of_ble_eq_true rfl) rfl rfl rfl rfl (fun σ109 c110 f111 => ?_)
  have b112 := b104.fr (σ' := σ109) (fun k k0 k1 => f111.2 k (by omega))
  have b113 := b105.fr (σ' := σ109) (fun k k0 k1 => f111.2 k (by omega))
  have b114 := b106.fr (σ' := σ109) (fun k k0 k1 => f111.2 k (by omega))
  have b115 := b107.fr (σ' := σ109) (fun k k0 k1 => f111.2 k (by omega))
  have b116 := hz100.fr (σ' := σ109) (fun k k0 k1 => f111.2 k (by omega))
  have l117 : σ109.length = 39 := f111.1.trans l108
  refine g_aload_n (q := 60) dX8_init_59 rfl rfl ?_
  refine z_new (a := 39) (q := 63) nwX8_40 dX8_init_60 (Nat.le_of_ble_eq_true rfl) (Nat.le_of_ble_eq_true rfl) l117 rfl (fun σ118 l121 c119 g120 => ?_)
  have c122 := g120.at c110
  have b123 := b112.fr (σ' := σ118) (fun k k0 k1 => g120 k (by rw [l117]; omega))
  have b124 := b113.fr (σ' := σ118) (fun k k0 k1 => g120 k (by rw [l117]; omega))
  have b125 := b114.fr (σ' := σ118) (fun k k0 k1 => g120 k (by rw [l117]; omega))
  have b126 := b115.fr (σ' := σ118) (fun k k0 k1 => g120 k (by rw [l117]; omega))
  have b127 := b116.fr (σ' := σ118) (fun k k0 k1 => g120 k (by rw [l117]; omega))
  have l128 : σ118.length = 40 := l121
  show Go w mX8_init (39, 441) 63 [some (.ref 0), none] [.ref 39, .ref 0] σ118 (fun r σ' => r = none ∧ (∃ j d : Nat, rC j d 0 (fun _ => 0) mT0 (mAnew mT0 (fun _ => 0)) (fun _ => 0) 0 σ') ∧ σ'.length = 77)
  refine g_dup (q := 64) dX8_init_63 rfl rfl ?_
  refine g_callIN (As := []) (rest := [.ref 39, .ref 0]) (q := 67) moX3_init rfl lkX8_init_42 dX8_init_64 (r_X3_init σ118 39 l128 c119) rfl rfl (Nat.le_of_ble_eq_true rfl) (Nat.le_of_ble_eq_true rfl) (Nat.le_of_ble_eq_true rfl) rfl ?_
  rintro rn σ129 ⟨rfl, hz130, l131, nf132⟩
  have c133 := (nf132 0 (by omega)).trans c122
  have b134 := b123.fr (σ' := σ129) (fun k k0 k1 => nf132 k (by omega))
  have b135 := b124.fr (σ' := σ129) (fun k k0 k1 => nf132 k (by omega))
  have b136 := b125.fr (σ' := σ129) (fun k k0 k1 => nf132 k (by omega))
  have b137 := b126.fr (σ' := σ129) (fun k k0 k1 => nf132 k (by omega))
  have b138 := b127.fr (σ' := σ129) (fun k k0 k1 => nf132 k (by omega))
  have l139 : σ129.length = 44 := l131
  show Go w mX8_init (43, 511) 67 [some (.ref 0), none] [.ref 39, .ref 0] σ129 (fun r σ' => r = none ∧ (∃ j d : Nat, rC j d 0 (fun _ => 0) mT0 (mAnew mT0 (fun _ => 0)) (fun _ => 0) 0 σ') ∧ σ'.length = 77)
  refine z_putF (fs' := [.ref 1, .ref 3, .ref 5, .ref 9, .ref 13, .ref 39, .null, .null, .null]) (q := 70) fpX8_43 rfl dX8_init_67 c133 (Nat.le_of_ble_eq_true rfl) rfl rfl rfl rfl (fun σ140 c141 f142 => ?_)
  have b143 := b134.fr (σ' := σ140) (fun k k0 k1 => f142.2 k (by omega))
  have b144 := b135.fr (σ' := σ140) (fun k k0 k1 => f142.2 k (by omega))
  have b145 := b136.fr (σ' := σ140) (fun k k0 k1 => f142.2 k (by omega))
  have b146 := b137.fr (σ' := σ140) (fun k k0 k1 => f142.2 k (by omega))
  have b147 := b138.fr (σ' := σ140) (fun k k0 k1 => f142.2 k (by omega))
  have b148 := hz130.fr (σ' := σ140) (fun k k0 k1 => f142.2 k (by omega))
  have l149 : σ140.length = 44 := f142.1.trans l139
  refine g_aload_n (q := 71) dX8_init_70 rfl rfl ?_
  refine z_new (a := 44) (q := 74) nwX8_47 dX8_init_71 (Nat.le_of_ble_eq_true rfl) (Nat.le_of_ble_eq_true rfl) l149 rfl (fun σ150 l153 c151 g152 => ?_)
  have c154 := g152.at c141
  have b155 := b143.fr (σ' := σ150) (fun k k0 k1 => g152 k (by rw [l149]; omega))
  have b156 := b144.fr (σ' := σ150) (fun k k0 k1 => g152 k (by rw [l149]; omega))
  have b157 := b145.fr (σ' := σ150) (fun k k0 k1 => g152 k (by rw [l149]; omega))
  have b158 := b146.fr (σ' := σ150) (fun k k0 k1 => g152 k (by rw [l149]; omega))
  have b159 := b147.fr (σ' := σ150) (fun k k0 k1 => g152 k (by rw [l149]; omega))
  have b160 := b148.fr (σ' := σ150) (fun k k0 k1 => g152 k (by rw [l149]; omega))
  have l161 : σ150.length = 45 := l153
  show Go w mX8_init (44, 515) 74 [some (.ref 0), none] [.ref 44, .ref 0] σ150 (fun r σ' => r = none ∧ (∃ j d : Nat, rC j d 0 (fun _ => 0) mT0 (mAnew mT0 (fun _ => 0)) (fun _ => 0) 0 σ') ∧ σ'.length = 77)
  refine g_dup (q := 75) dX8_init_74 rfl rfl ?_
  refine g_callIN (As := []) (rest := [.ref 44, .ref 0]) (q := 78) moX0_init rfl lkX8_init_49 dX8_init_75 (r_X0_init σ150 44) rfl rfl (Nat.le_of_ble_eq_true rfl) (Nat.le_of_ble_eq_true rfl) (Nat.le_of_ble_eq_true rfl) rfl ?_
  rintro rn sn hp
  rw [hp.2]
  obtain rfl := hp.1
  show Go w mX8_init (44, 515) 78 [some (.ref 0), none] [.ref 44, .ref 0] σ150 (fun r σ' => r = none ∧ (∃ j d : Nat, rC j d 0 (fun _ => 0) mT0 (mAnew mT0 (fun _ => 0)) (fun _ => 0) 0 σ') ∧ σ'.length = 77)
  refine z_putF (fs' := [.ref 1, .ref 3, .ref 5, .ref 9, .ref 13, .ref 39, .ref 44, .null, .null]) (q := 81) fpX8_50 rfl dX8_init_78 c154 (Nat.le_of_ble_eq_true rfl) rfl rfl rfl rfl (fun σ166 c167 f168 => ?_)
  have b169 := b155.fr (σ' := σ166) (fun k k0 k1 => f168.2 k (by omega))
  have b170 := b156.fr (σ' := σ166) (fun k k0 k1 => f168.2 k (by omega))
  have b171 := b157.fr (σ' := σ166) (fun k k0 k1 => f168.2 k (by omega))
  have b172 := b158.fr (σ' := σ166) (fun k k0 k1 => f168.2 k (by omega))
  have b173 := b159.fr (σ' := σ166) (fun k k0 k1 => f168.2 k (by omega))
  have b174 := b160.fr (σ' := σ166) (fun k k0 k1 => f168.2 k (by omega))
  have b175 := (f168.2 44 (by omega)).trans c151
  have l176 : σ166.length = 45 := f168.1.trans l161
  refine g_aload_n (q := 82) dX8_init_81 rfl rfl ?_
  refine z_new (a := 45) (q := 85) nwX8_54 dX8_init_82 (Nat.le_of_ble_eq_true rfl) (Nat.le_of_ble_eq_true rfl) l176 rfl (fun σ177 l180 c178 g179 => ?_)
  have c181 := g179.at c167
  have b182 := b169.fr (σ' := σ177) (fun k k0 k1 => g179 k (by rw [l176]; omega))
  have b183 := b170.fr (σ' := σ177) (fun k k0 k1 => g179 k (by rw [l176]; omega))
  have b184 := b171.fr (σ' := σ177) (fun k k0 k1 => g179 k (by rw [l176]; omega))
  have b185 := b172.fr (σ' := σ177) (fun k k0 k1 => g179 k (by rw [l176]; omega))
  have b186 := b173.fr (σ' := σ177) (fun k k0 k1 => g179 k (by rw [l176]; omega))
  have b187 := b174.fr (σ' := σ177) (fun k k0 k1 => g179 k (by rw [l176]; omega))
  have b188 := (g179 44 (by rw [l176]; omega)).trans b175
  have l189 : σ177.length = 46 := l180
  show Go w mX8_init (45, 522) 85 [some (.ref 0), none] [.ref 45, .ref 0] σ177 (fun r σ' => r = none ∧ (∃ j d : Nat, rC j d 0 (fun _ => 0) mT0 (mAnew mT0 (fun _ => 0)) (fun _ => 0) 0 σ') ∧ σ'.length = 77)
  refine g_dup (q := 86) dX8_init_85 rfl rfl ?_
  refine g_callI (As := []) (rest := [.ref 45, .ref 0]) (q := 89) moX2_init rfl lkX8_init_56 dX8_init_86 (r_X2_init σ177 45 l189 c178) rfl rfl (Nat.le_of_ble_eq_true rfl) (Nat.le_of_ble_eq_true rfl) (Nat.le_of_ble_eq_true rfl) rfl ?_
  rintro rn σ190 ⟨rfl, hz191, l192, nf193⟩
  have c194 := (nf193 0 (by omega)).trans c181
  have b195 := b182.fr (σ' := σ190) (fun k k0 k1 => nf193 k (by omega))
  have b196 := b183.fr (σ' := σ190) (fun k k0 k1 => nf193 k (by omega))
  have b197 := b184.fr (σ' := σ190) (fun k k0 k1 => nf193 k (by omega))
  have b198 := b185.fr (σ' := σ190) (fun k k0 k1 => nf193 k (by omega))
  have b199 := b186.fr (σ' := σ190) (fun k k0 k1 => nf193 k (by omega))
  have b200 := b187.fr (σ' := σ190) (fun k k0 k1 => nf193 k (by omega))
  have b201 := (nf193 44 (by omega)).trans b188
  have l202 : σ190.length = 61 := l192
  show Go w mX8_init (60, 583) 89 [some (.ref 0), none] [.ref 45, .ref 0] σ190 (fun r σ' => r = none ∧ (∃ j d : Nat, rC j d 0 (fun _ => 0) mT0 (mAnew mT0 (fun _ => 0)) (fun _ => 0) 0 σ') ∧ σ'.length = 77)
  refine z_put (fs' := [.ref 1, .ref 3, .ref 5, .ref 9, .ref 13, .ref 39, .ref 44, .ref 45, .null]) (q := 92) fpX8_57 dX8_init_89 c194 (Nat.le_of_ble_eq_true rfl) rfl rfl rfl rfl (fun σ203 c204 f205 => ?_)
  have b206 := b195.fr (σ' := σ203) (fun k k0 k1 => f205.2 k (by omega))
  have b207 := b196.fr (σ' := σ203) (fun k k0 k1 => f205.2 k (by omega))
  have b208 := b197.fr (σ' := σ203) (fun k k0 k1 => f205.2 k (by omega))
  have b209 := b198.fr (σ' := σ203) (fun k k0 k1 => f205.2 k (by omega))
  have b210 := b199.fr (σ' := σ203) (fun k k0 k1 => f205.2 k (by omega))
  have b211 := b200.fr (σ' := σ203) (fun k k0 k1 => f205.2 k (by omega))
  have b212 := (f205.2 44 (by omega)).trans b201
  have b213 := hz191.fr (σ' := σ203) (fun k k0 k1 => f205.2 k (by omega))
  have l214 : σ203.length = 61 := f205.1.trans l202
  refine g_aload_n (q := 93) dX8_init_92 rfl rfl ?_
  refine z_new (a := 61) (q := 96) nwX8_54 dX8_init_93 (Nat.le_of_ble_eq_true rfl) (Nat.le_of_ble_eq_true rfl) l214 rfl (fun σ215 l218 c216 g217 => ?_)
  have c219 := g217.at c204
  have b220 := b206.fr (σ' := σ215) (fun k k0 k1 => g217 k (by rw [l214]; omega))
  have b221 := b207.fr (σ' := σ215) (fun k k0 k1 => g217 k (by rw [l214]; omega))
  have b222 := b208.fr (σ' := σ215) (fun k k0 k1 => g217 k (by rw [l214]; omega))
  have b223 := b209.fr (σ' := σ215) (fun k k0 k1 => g217 k (by rw [l214]; omega))
  have b224 := b210.fr (σ' := σ215) (fun k k0 k1 => g217 k (by rw [l214]; omega))
  have b225 := b211.fr (σ' := σ215) (fun k k0 k1 => g217 k (by rw [l214]; omega))
  have b226 := (g217 44 (by rw [l214]; omega)).trans b212
  have b227 := b213.fr (σ' := σ215) (fun k k0 k1 => g217 k (by rw [l214]; omega))
  have l228 : σ215.length = 62 := l218
  show Go w mX8_init (61, 590) 96 [some (.ref 0), none] [.ref 61, .ref 0] σ215 (fun r σ' => r = none ∧ (∃ j d : Nat, rC j d 0 (fun _ => 0) mT0 (mAnew mT0 (fun _ => 0)) (fun _ => 0) 0 σ') ∧ σ'.length = 77)
  refine g_dup (q := 97) dX8_init_96 rfl rfl ?_
  refine g_callI (As := []) (rest := [.ref 61, .ref 0]) (q := 100) moX2_init rfl lkX8_init_56 dX8_init_97 (r_X2_init σ215 61 l228 c216) rfl rfl (Nat.le_of_ble_eq_true rfl) (Nat.le_of_ble_eq_true rfl) (Nat.le_of_ble_eq_true rfl) rfl ?_
  rintro rn σ229 ⟨rfl, hz230, l231, nf232⟩
  have c233 := (nf232 0 (by omega)).trans c219
  have b234 := b220.fr (σ' := σ229) (fun k k0 k1 => nf232 k (by omega))
  have b235 := b221.fr (σ' := σ229) (fun k k0 k1 => nf232 k (by omega))
  have b236 := b222.fr (σ' := σ229) (fun k k0 k1 => nf232 k (by omega))
  have b237 := b223.fr (σ' := σ229) (fun k k0 k1 => nf232 k (by omega))
  have b238 := b224.fr (σ' := σ229) (fun k k0 k1 => nf232 k (by omega))
  have b239 := b225.fr (σ' := σ229) (fun k k0 k1 => nf232 k (by omega))
  have b240 := (nf232 44 (by omega)).trans b226
  have b241 := b227.fr (σ' := σ229) (fun k k0 k1 => nf232 k (by omega))
  have l242 : σ229.length = 77 := l231
  show Go w mX8_init (76, 651) 100 [some (.ref 0), none] [.ref 61, .ref 0] σ229 (fun r σ' => r = none ∧ (∃ j d : Nat, rC j d 0 (fun _ => 0) mT0 (mAnew mT0 (fun _ => 0)) (fun _ => 0) 0 σ') ∧ σ'.length = 77)
  refine z_put (fs' := [.ref 1, .ref 3, .ref 5, .ref 9, .ref 13, .ref 39, .ref 44, .ref 45, .ref 61]) (q := 103) fpX8_61 dX8_init_100 c233 (Nat.le_of_ble_eq_true rfl) rfl rfl rfl rfl (fun σ243 c244 f245 => ?_)
  have b246 := b234.fr (σ' := σ243) (fun k k0 k1 => f245.2 k (by omega))
  have b247 := b235.fr (σ' := σ243) (fun k k0 k1 => f245.2 k (by omega))
  have b248 := b236.fr (σ' := σ243) (fun k k0 k1 => f245.2 k (by omega))
  have b249 := b237.fr (σ' := σ243) (fun k k0 k1 => f245.2 k (by omega))
  have b250 := b238.fr (σ' := σ243) (fun k k0 k1 => f245.2 k (by omega))
  have b251 := b239.fr (σ' := σ243) (fun k k0 k1 => f245.2 k (by omega))
  have b252 := (f245.2 44 (by omega)).trans b240
  have b253 := b241.fr (σ' := σ243) (fun k k0 k1 => f245.2 k (by omega))
  have b254 := hz230.fr (σ' := σ243) (fun k k0 k1 => f245.2 k (by omega))
  have l255 : σ243.length = 77 := f245.1.trans l242
  refine z_iconst (q := 104) dX8_init_103 rfl ?_
  refine g_istore_n (ml' := [some (.ref 0), some (.int (iZ 0))]) (q := 105) dX8_init_104 rfl (Nat.le_of_ble_eq_true rfl) rfl rfl ?_
  have hQ : rC 45 61 0 tx0 (fun _ => 0) (fun _ => 0) (fun _ => 0) 0 σ243 := ⟨Or.inl ⟨rfl, rfl⟩, c244, b246, ⟨0, (fun _ => 0), b247⟩, b248, b249.s0, ⟨0, b250⟩, ⟨_, _, _, _, _, _, _, _, b251⟩, ⟨0, 0, 0, 0, b252⟩, b253, ⟨_, b254⟩⟩
  exact l_X8_init w 121 0 σ243 (by omega) (by omega) l255 hQ
