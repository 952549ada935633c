theorem pR.job {F : Int → Int} (h : pR F) : (F 2 ≤ 6 ∧ F 3 ≤ 5) ∧ F 4 ≤ 2 := by
  obtain ⟨-, -, h2, h3, h4, -⟩ := h
  omega
theorem zcp_in (T F : Int → Int) {k : Int} (h : 0 ≤ k ∧ k < 51) : zcp T F 0 0 51 k = F k := by
  unfold zcp
  rw [if_pos (by omega), Int.add_zero]
theorem r_C_layDraft (σ : g_H0) (j d : Nat) (L : Int) (tx T S B : Int → Int) (n : Int) (hQ : rC j d L tx T S B n σ) (hL : 0 ≤ L ∧ L ≤ 200) (ht : zBt L tx) (Rr : Int → Int) : Ret mX8_layDraft [.ref 0] σ (fun r σ' => (((mFlt L tx Rr).1 = -4 ∧ (mFlt L tx Rr).2 2 ≠ 0) ∧ r = some (.int (iZ 1)) ∧ rC d j L tx (zcp T (mFlt L tx Rr).2 0 0 51) (mAnew (zcp T (mFlt L tx Rr).2 0 0 51) S) B 0 σ' ∧ g_Fr pC σ σ') ∨ (¬ ((mFlt L tx Rr).1 = -4 ∧ (mFlt L tx Rr).2 2 ≠ 0) ∧ r = some (.int (iZ 0)) ∧ rC j d L tx T S B n σ' ∧ g_Fr pC σ σ')) := by
  refine Ret.of moX8_layDraft.1 (Nat.le_of_ble_eq_true rfl) (fun w => ?_)
  obtain ⟨hjd, c0, hT, ⟨rp, rN, hR⟩, hS, hS0, ⟨nx, hH⟩, ⟨Fe, Wy, Tr, Be, tH, pbh, pbt, pfo, hPl⟩, ⟨sx, sy, sw, sh, hA⟩, hJ, ⟨R0, hD⟩⟩ := id hQ
  show Go w mX8_layDraft (0, 0) 0 [some (.ref 0), none] [] σ (fun r σ' => (((mFlt L tx Rr).1 = -4 ∧ (mFlt L tx Rr).2 2 ≠ 0) ∧ r = some (.int (iZ 1)) ∧ rC d j L tx (zcp T (mFlt L tx Rr).2 0 0 51) (mAnew (zcp T (mFlt L tx Rr).2 0 0 51) S) B 0 σ' ∧ g_Fr pC σ σ') ∨ (¬ ((mFlt L tx Rr).1 = -4 ∧ (mFlt L tx Rr).2 2 ≠ 0) ∧ r = some (.int (iZ 0)) ∧ rC j d L tx T S B n σ' ∧ g_Fr pC σ σ'))
  refine g_aload_n (q := 1) dX8_layDraft_0 rfl rfl ?_
  refine g_get (q := 4) flX8_19 dX8_layDraft_1 c0 rfl rfl ?_
  refine g_aload_n (q := 5) dX8_layDraft_4 rfl rfl ?_
  refine g_get (q := 8) flX8_10 dX8_layDraft_5 c0 rfl rfl ?_
  refine g_aload_n (q := 9) dX8_layDraft_8 rfl rfl ?_
  refine g_get (q := 12) flX8_61 dX8_layDraft_9 c0 rfl rfl ?_
  refine g_callV (As := [.ref 1, .ref d]) (rest := []) (q := 15) moX4_firstFault lkX8_layDraft_90 dX8_layDraft_12 rfl hR.1 (r_firstFault σ 3 1 d (by omega) (by omega) rp rN hR L tx hT hL ht R0 hD (zcp Rr (fun _ => 0) 0 0 51) (zcp_zero Rr) (pR_0 Rr)) rfl rfl (Nat.le_of_ble_eq_true rfl) (Nat.le_of_ble_eq_true rfl) (Nat.le_of_ble_eq_true rfl) rfl ?_
  rintro rf σ1 ⟨hrf, q1, ⟨Rd, q2, q3⟩, f1⟩
  have bF : -2147483648 ≤ (mFlt L tx Rr).1 ∧ (mFlt L tx Rr).1 < 2147483648 := mFlF_b ht _ _ _ hL.2 (by omega) (pR_0 _)
  replace hrf : rf = some (.int (iZ (mFlt L tx Rr).1)) := hrf
  subst hrf
  replace q3 : (mFlt L tx Rr).1 = -4 → Rd = (mFlt L tx Rr).2 := q3
  have hQ1 := rC.rd q1 ⟨Rd, q2⟩ hQ f1
  have f1c : g_Fr pC σ σ1 := f1.wk (fun k e => show k < 77 by rcases e with e | e <;> (have := e.1; have := e.2; omega))
  obtain ⟨-, c01, hT1, ⟨rp1, rN1, hR1⟩, hS1, hS01, ⟨nx1, hH1⟩, ⟨Fe1, Wy1, Tr1, Be1, tH1, pbh1, pbt1, pfo1, hPl1⟩, ⟨sx1, sy1, sw1, sh1, hA1⟩, hJ1, ⟨R01, hD1⟩⟩ := id hQ1
  show Go w mX8_layDraft (0, 0) 15 [some (.ref 0), none] [.int (iZ ((mFlt L tx Rr).1))] σ1 (fun r σ' => (((mFlt L tx Rr).1 = -4 ∧ (mFlt L tx Rr).2 2 ≠ 0) ∧ r = some (.int (iZ 1)) ∧ rC d j L tx (zcp T (mFlt L tx Rr).2 0 0 51) (mAnew (zcp T (mFlt L tx Rr).2 0 0 51) S) B 0 σ' ∧ g_Fr pC σ σ') ∨ (¬ ((mFlt L tx Rr).1 = -4 ∧ (mFlt L tx Rr).2 2 ≠ 0) ∧ r = some (.int (iZ 0)) ∧ rC j d L tx T S B n σ' ∧ g_Fr pC σ σ'))
  refine g_bipush (v := iZ (-4)) (q := 17) dX8_layDraft_15 (by decide) rfl ?_
  refine z_icmp_ne (t := 30) (q := 20) dX8_layDraft_17 rfl (by omega) rfl (fun pc1 => ?_) (fun pc1 => ?_)
  · refine z_iconst (q := 31) dX8_layDraft_30 rfl ?_
    refine z_zret dX8_layDraft_31 rfl rfl ?_
    exact Or.inr ⟨by omega, rfl, hQ1, f1c⟩
  · have eR : Rd = (mFlt L tx Rr).2 := q3 (by omega)
    have hPF : pR (mFlt L tx Rr).2 := mFl_pR ht (by omega) (pR_0 _) (show (mFlt L tx Rr).1 = -4 by omega)
    have hb2 := hPF.2.2.1
    have e2r : Rd 2 = (mFlt L tx Rr).2 2 := by rw [eR]
    refine g_aload_n (q := 21) dX8_layDraft_20 rfl rfl ?_
    refine g_get (q := 24) flX8_61 dX8_layDraft_21 c01 rfl rfl ?_
    refine g_get (q := 27) flX8_94 dX8_layDraft_24 q2.1 rfl rfl ?_
    refine z_if_ne (t := 32) (q := 30) dX8_layDraft_27 rfl (by omega) rfl (fun pc2 => ?_) (fun pc2 => ?_)
    · refine g_aload_n (q := 33) dX8_layDraft_32 rfl rfl ?_
      refine g_get (q := 36) flX8_57 dX8_layDraft_33 c01 rfl rfl ?_
      refine g_astore_n (ml' := [some (.ref 0), some (.ref j)]) (q := 37) dX8_layDraft_36 rfl (Nat.le_of_ble_eq_true rfl) rfl rfl ?_
      refine g_aload_n (q := 38) dX8_layDraft_37 rfl rfl ?_
      refine g_aload_n (q := 39) dX8_layDraft_38 rfl rfl ?_
      refine g_get (q := 42) flX8_61 dX8_layDraft_39 c01 rfl rfl ?_
      refine z_put (fs' := [.ref 1, .ref 3, .ref 5, .ref 9, .ref 13, .ref 39, .ref 44, .ref d, .ref d]) (q := 45) fpX8_57 dX8_layDraft_42 c01 (Nat.le_of_ble_eq_true rfl) rfl rfl rfl rfl (fun σ3 c4 f5 => ?_)
      refine g_aload_n (q := 46) dX8_layDraft_45 rfl rfl ?_
      refine g_aload_n (q := 47) dX8_layDraft_46 rfl rfl ?_
      refine z_put (fs' := [.ref 1, .ref 3, .ref 5, .ref 9, .ref 13, .ref 39, .ref 44, .ref d, .ref j]) (q := 50) fpX8_61 dX8_layDraft_47 c4 (Nat.le_of_ble_eq_true rfl) rfl rfl rfl rfl (fun σ6 c7 f8 => ?_)
      refine g_aload_n (q := 51) dX8_layDraft_50 rfl rfl ?_
      refine g_get (q := 54) flX8_26 dX8_layDraft_51 c7 rfl rfl ?_
      refine g_aload_n (q := 55) dX8_layDraft_54 rfl rfl ?_
      refine g_get (q := 58) flX8_57 dX8_layDraft_55 c7 rfl rfl ?_
      have nk : ∀ k, k ≠ 0 → σ6[k]? = σ1[k]? := fun k hk => (f8.2 k hk).trans (f5.2 k hk)
      have hJd : rJob d (zcp T (mFlt L tx Rr).2 0 0 51) σ6 := ((by rw [← eR]; exact q2 : rJob d (mFlt L tx Rr).2 σ1).congr hPF.job (fun k k0 k1 => (zcp_in T _ ⟨k0, k1⟩).symm)).fr (fun k k0 k1 => nk k (by omega))
      have h05 : rS0 5 σ6 := hS1.s0.fr (fun k k0 k1 => nk k (by omega))
      have e4 : (zcp T (mFlt L tx Rr).2 0 0 51) 4 ≤ 2 := by rw [zcp_in T _ (by omega)]; exact hPF.job.2
      refine g_callV (As := [.ref d]) (rest := []) (q := 61) moX5_begin lkX8_layDraft_275 dX8_layDraft_58 rfl h05.choose_spec.choose_spec.choose_spec.choose_spec.choose_spec.choose_spec.choose_spec.1 (r_begin σ6 5 d (by omega) (zcp T (mFlt L tx Rr).2 0 0 51) S h05 hJd e4) rfl rfl (Nat.le_of_ble_eq_true rfl) (Nat.le_of_ble_eq_true rfl) (Nat.le_of_ble_eq_true rfl) rfl ?_
      rintro rb σ4 ⟨rfl, q4, fz4⟩
      have n4 : ∀ k, k ≠ 0 → ¬ pS 5 k → σ4[k]? = σ1[k]? := fun k hk hp => (fz4.2 k hp).trans (nk k hk)
      have c04 := (fz4.2 0 (fun e => by have := e.1; omega)).trans c7
      have hH4 := hH1.fr (σ' := σ4) (fun k k0 k1 => n4 k (by omega) (fun e => by have := e.2; omega))
      show Go w mX8_layDraft (0, 0) 61 [some (.ref 0), some (.ref j)] [] σ4 (fun r σ' => (((mFlt L tx Rr).1 = -4 ∧ (mFlt L tx Rr).2 2 ≠ 0) ∧ r = some (.int (iZ 1)) ∧ rC d j L tx (zcp T (mFlt L tx Rr).2 0 0 51) (mAnew (zcp T (mFlt L tx Rr).2 0 0 51) S) B 0 σ' ∧ g_Fr pC σ σ') ∨ (¬ ((mFlt L tx Rr).1 = -4 ∧ (mFlt L tx Rr).2 2 ≠ 0) ∧ r = some (.int (iZ 0)) ∧ rC j d L tx T S B n σ' ∧ g_Fr pC σ σ'))
      refine g_aload_n (q := 62) dX8_layDraft_61 rfl rfl ?_
      refine g_get (q := 65) flX8_36 dX8_layDraft_62 c04 rfl rfl ?_
      refine g_callV (As := []) (rest := []) (q := 68) moX1_forget lkX8_layDraft_279 dX8_layDraft_65 rfl hH4.1 (r_forget σ4 13 T (zcp T (mFlt L tx Rr).2 0 0 51) B B n nx1 hH4) rfl rfl (Nat.le_of_ble_eq_true rfl) (Nat.le_of_ble_eq_true rfl) (Nat.le_of_ble_eq_true rfl) rfl ?_
      rintro rf σ5 ⟨rfl, q5, fz5⟩
      have n5 : ∀ k, k ≠ 0 → ¬ pS 5 k → ¬ pH 13 k → σ5[k]? = σ1[k]? := fun k hk hp hh => (fz5.2 k hh).trans (n4 k hk hp)
      have n6 : ∀ k, (1 ≤ k ∧ k < 5) ∨ (9 ≤ k ∧ k < 13) ∨ 39 ≤ k → σ5[k]? = σ1[k]? := fun k hk => n5 k (by omega) (fun e => by have := e.1; have := e.2; omega) (fun e => by have := e.1; have := e.2; omega)
      have c05 := (fz5.2 0 (fun e => by have := e.1; omega)).trans c04
      have hQz : rC d j L tx (zcp T (mFlt L tx Rr).2 0 0 51) (mAnew (zcp T (mFlt L tx Rr).2 0 0 51) S) B 0 σ5 := ⟨by omega, c05, hT1.fr (fun k k0 k1 => n6 k (by omega)), ⟨rp1, rN1, hR1.fr (fun k k0 k1 => n6 k (by omega))⟩, q4.fr (fun k k0 k1 => fz5.2 k (fun e => by have := e.1; omega)), hS01.fr (fun k k0 k1 => n6 k (by omega)), ⟨nx1, q5⟩, ⟨Fe1, Wy1, Tr1, Be1, tH1, pbh1, pbt1, pfo1, hPl1.fr (fun k k0 k1 => n6 k (by omega))⟩, ⟨sx1, sy1, sw1, sh1, (n6 44 (by omega)).trans hA1⟩, hJd.fr (fun k k0 k1 => ((fz5.2 k (fun e => by have := e.1; have := e.2; omega)).trans (fz4.2 k (fun e => by have := e.1; have := e.2; omega)))), ⟨T, hJ1.fr (fun k k0 k1 => n6 k (by omega))⟩⟩
      have hFz : g_Fr pC σ σ5 := (((f1c.tr (f5.wk (fun k e => show k < 77 by omega))).tr (f8.wk (fun k e => show k < 77 by omega))).tr (fz4.wk (fun k e => show k < 77 by have := e.1; have := e.2; omega))).tr (fz5.wk (fun k e => show k < 77 by have := e.1; have := e.2; omega))
      show Go w mX8_layDraft (0, 0) 68 [some (.ref 0), some (.ref j)] [] σ5 (fun r σ' => (((mFlt L tx Rr).1 = -4 ∧ (mFlt L tx Rr).2 2 ≠ 0) ∧ r = some (.int (iZ 1)) ∧ rC d j L tx (zcp T (mFlt L tx Rr).2 0 0 51) (mAnew (zcp T (mFlt L tx Rr).2 0 0 51) S) B 0 σ' ∧ g_Fr pC σ σ') ∨ (¬ ((mFlt L tx Rr).1 = -4 ∧ (mFlt L tx Rr).2 2 ≠ 0) ∧ r = some (.int (iZ 0)) ∧ rC j d L tx T S B n σ' ∧ g_Fr pC σ σ'))
      refine z_iconst (q := 69) dX8_layDraft_68 rfl ?_
      refine z_zret dX8_layDraft_69 rfl rfl ?_
      exact Or.inl ⟨⟨by omega, by omega⟩, rfl, hQz, hFz⟩
    · refine z_iconst (q := 31) dX8_layDraft_30 rfl ?_
      refine z_zret dX8_layDraft_31 rfl rfl ?_
      exact Or.inr ⟨by omega, rfl, hQ1, f1c⟩
theorem r_C_lay (σ : g_H0) (j d : Nat) (L : Int) (tx T S B : Int → Int) (n : Int) (hQ : rC j d L tx T S B n σ) (hL : 0 ≤ L ∧ L ≤ 200) (ht : zBt L tx) (Rr : Int → Int) : Ret mX8_lay [.ref 0] σ (cPost σ (spLay L tx T S B n Rr).1 L tx (spLay L tx T S B n Rr).2.1 (spLay L tx T S B n Rr).2.2.2.1 (spLay L tx T S B n Rr).2.2.2.2.1 (spLay L tx T S B n Rr).2.2.2.2.2) := by
  refine Ret.of moX8_lay.1 (Nat.le_of_ble_eq_true rfl) (fun w => ?_)
  obtain ⟨hjd, c0, hT, ⟨rp, rN, hR⟩, hS, hS0, ⟨nx, hH⟩, ⟨Fe, Wy, Tr, Be, tH, pbh, pbt, pfo, hPl⟩, ⟨sx, sy, sw, sh, hA⟩, hJ, ⟨R0, hD⟩⟩ := id hQ
  show Go w mX8_lay (0, 0) 0 [some (.ref 0)] [] σ (cPost σ (spLay L tx T S B n Rr).1 L tx (spLay L tx T S B n Rr).2.1 (spLay L tx T S B n Rr).2.2.2.1 (spLay L tx T S B n Rr).2.2.2.2.1 (spLay L tx T S B n Rr).2.2.2.2.2)
  refine g_aload_n (q := 1) dX8_lay_0 rfl rfl ?_
  refine g_callV (As := []) (rest := []) (q := 4) moX8_layDraft lkX8_lay_80 dX8_lay_1 rfl c0 (r_C_layDraft σ j d L tx T S B n hQ hL ht Rr) rfl rfl (Nat.le_of_ble_eq_true rfl) (Nat.le_of_ble_eq_true rfl) (Nat.le_of_ble_eq_true rfl) rfl ?_
  rintro rl σ1 hpl
  rcases hpl with ⟨hc, rfl, hQ1, f1⟩ | ⟨hc, rfl, hQ1, f1⟩
  · obtain ⟨-, c01, -, -, -, -, -, -, -, hJ1, -⟩ := id hQ1
    show Go w mX8_lay (0, 0) 4 [some (.ref 0)] [.int (iZ 1)] σ1 (cPost σ (spLay L tx T S B n Rr).1 L tx (spLay L tx T S B n Rr).2.1 (spLay L tx T S B n Rr).2.2.2.1 (spLay L tx T S B n Rr).2.2.2.2.1 (spLay L tx T S B n Rr).2.2.2.2.2)
    refine z_if_eq (t := 17) (q := 7) dX8_lay_4 rfl (by omega) rfl (fun pc1 => ?_) (fun pc1 => ?_)
    · exfalso; omega
    · refine g_aload_n (q := 8) dX8_lay_7 rfl rfl ?_
      refine g_get (q := 11) flX8_57 dX8_lay_8 c01 rfl rfl ?_
      refine g_get (q := 14) flX8_94 dX8_lay_11 hJ1.1 rfl rfl ?_
      refine g_goto (q := 19) dX8_lay_14 rfl ?_
      refine z_iret dX8_lay_19 rfl ?_
      have e : spLay L tx T S B n Rr = ((mFlt L tx Rr).2 2, (zcp T (mFlt L tx Rr).2 0 0 51), (0, mAnew (zcp T (mFlt L tx Rr).2 0 0 51) S, B, 0)) := if_pos hc
      rw [e]
      exact ⟨congrArg (fun z => some (Value.int (iZ z))) (zcp_in T _ (by omega)), ⟨d, j, hQ1⟩, f1⟩
  · skip
    show Go w mX8_lay (0, 0) 4 [some (.ref 0)] [.int (iZ 0)] σ1 (cPost σ (spLay L tx T S B n Rr).1 L tx (spLay L tx T S B n Rr).2.1 (spLay L tx T S B n Rr).2.2.2.1 (spLay L tx T S B n Rr).2.2.2.2.1 (spLay L tx T S B n Rr).2.2.2.2.2)
    refine z_if_eq (t := 17) (q := 7) dX8_lay_4 rfl (by omega) rfl (fun pc2 => ?_) (fun pc2 => ?_)
    · refine g_bipush (v := iZ (-2)) (q := 19) dX8_lay_17 (by decide) rfl ?_
      refine z_iret dX8_lay_19 rfl ?_
      have e : spLay L tx T S B n Rr = (-2, T, (0, S, B, n)) := if_neg hc
      rw [e]; exact ⟨rfl, ⟨j, d, hQ1⟩, f1⟩
    · exfalso; omega
