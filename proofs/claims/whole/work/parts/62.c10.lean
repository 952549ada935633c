theorem sL_0 : sL 0 = 121 := by decide +kernel
theorem sL_1 : sL 1 = 6 := by decide +kernel
theorem sL_2 : sL 2 = 5 := by decide +kernel
theorem sL_3 : sL 3 = 5 := by decide +kernel
theorem sL_4 : sL 4 = 6 := by decide +kernel
def pAJ (a j : Nat) : Nat → Prop := fun k => pA a k ∨ pJ j k
theorem rRn.fr {a : Nat} {p : Int} {N : Int → Int} {σ σ' : g_H0} (h : rRn a p N σ) (e : ∀ k, a ≤ k → k < a + 2 → σ'[k]? = σ[k]?) : rRn a p N σ' := ⟨(e _ (by omega) (by omega)).trans h.1, (e _ (by omega) (by omega)).trans h.2⟩
theorem qB {L : Int} {t : Int → Int} (ht : zBt L t) {m : Int} : ∀ (n : Nat) (i s : Int) (N : Int → Int), 0 ≤ s → 0 ≤ i → (qNumF L t m n i s N).1 ≠ 0 → (∀ k, 0 ≤ k → k < i → 0 ≤ N k ∧ N k ≤ 99) → ∀ k, 0 ≤ k → k < i + n → 0 ≤ (qNumF L t m n i s N).2.2 k ∧ (qNumF L t m n i s N).2.2 k ≤ 99
  | 0, i, s, N, hs, hi, _, hN => fun k k0 k1 => hN k k0 (by omega)
  | n + 1, i, s, N, hs, hi, h0, hN => by
    unfold qNumF at h0 ⊢
    by_cases h1 : ¬ (48 ≤ mB L t s ∧ mB L t s ≤ 57)
    · rw [if_pos h1] at h0; exact absurd rfl h0
    · rw [if_neg h1] at h0 ⊢
      have b := nVE ht hs (show nF L t s from Classical.not_not.mp h1)
      by_cases h2 : mB L t (nE L t s) ≠ (if i = m - 1 then 59 else 44)
      · rw [if_pos h2] at h0; exact absurd rfl h0
      · rw [if_neg h2] at h0 ⊢
        intro k k0 k1
        refine qB ht n (i + 1) _ _ (by omega) (by omega) h0 (fun k k0 k1 => ?_) k k0 (by omega)
        by_cases e : k = i
        · subst e; rw [zup_self]; exact b.1
        · rw [zup_ne _ _ e]; exact hN k k0 (by omega)
theorem r_takesItem (σ : g_H0) (a t : Nat) (hd : t + 2 ≤ a) (p : Int) (bp : 0 ≤ p ∧ p < 2000) (N : Int → Int) (hR : rRn a p N σ) (L : Int) (tx : Int → Int) (hT : rText t L tx σ) (hL : 0 ≤ L ∧ L ≤ 200) (ht : zBt L tx) (j : Nat) (hd2 : a + 2 ≤ j) (R : Int → Int) (hJ : rJob j R σ) (hP : pR R) : Ret mX4_takesItem [.ref a, .ref t, .ref j] σ (fun r σ' => (itOK L tx p R ∧ r = some (.int (iZ 1)) ∧ (∃ N', rRn a ((mItem L tx p R).2.1 + 1) N' σ') ∧ rJob j (mItem L tx p R).2.2 σ' ∧ g_Fr (pAJ a j) σ σ') ∨ (¬ itOK L tx p R ∧ r = some (.int (iZ 0)) ∧ (∃ p' N', rRn a p' N' σ') ∧ (∃ R', rJob j R' σ') ∧ g_Fr (pAJ a j) σ σ')) := by
  refine Ret.of moX4_takesItem.1 (Nat.le_of_ble_eq_true rfl) (fun w => ?_)
  show Go w mX4_takesItem (0, 0) 0 [some (.ref a), some (.ref t), some (.ref j)] [] σ (fun r σ' => (itOK L tx p R ∧ r = some (.int (iZ 1)) ∧ (∃ N', rRn a ((mItem L tx p R).2.1 + 1) N' σ') ∧ rJob j (mItem L tx p R).2.2 σ' ∧ g_Fr (pAJ a j) σ σ') ∨ (¬ itOK L tx p R ∧ r = some (.int (iZ 0)) ∧ (∃ p' N', rRn a p' N' σ') ∧ (∃ R', rJob j R' σ') ∧ g_Fr (pAJ a j) σ σ'))
  refine g_aload_n (q := 1) dX4_takesItem_0 rfl rfl ?_
  refine g_aload_n (q := 2) dX4_takesItem_1 rfl rfl ?_
  refine g_ldcS (i := 1) (q := 4) (by omega) rfl dX4_takesItem_2 rfl rfl ?_
  refine g_callV (As := [.ref t, .float (UInt32.ofNat (1 + 1))]) (rest := []) (q := 7) moX4_takesWord lkX4_takesItem_35 dX4_takesItem_4 rfl hR.1 (r_takesWord σ a t hd p (by omega) N hR L tx hT hL ht 1 (by omega) (UInt32.ofNat (1 + 1)) (UInt32.ofNat (11 + 1)) rfl rfl) rfl rfl (Nat.le_of_ble_eq_true rfl) (Nat.le_of_ble_eq_true rfl) (Nat.le_of_ble_eq_true rfl) rfl ?_
  rintro rw1 σw1 hpw1
  rcases hpw1 with ⟨hq1, rfl, hRw, hFw⟩ | ⟨hq1, rfl, hsw1⟩
  · obtain ⟨hw, hs⟩ := qW_wSheet.mp hq1
    rw [sL_1, show p + 6 = p + 5 + 1 by omega] at hRw
    have hTw : rText t L tx σw1 := hT.fr (fun k k0 k1 => hFw.2 k (fun e => by have := e.1; omega))
    have hJw : rJob j R σw1 := hJ.fr (fun k k0 k1 => hFw.2 k (fun e => by have := e.1; have := e.2; omega))
    show Go w mX4_takesItem (0, 0) 7 [some (.ref a), some (.ref t), some (.ref j)] [.int (iZ 1)] σw1 (fun r σ' => (itOK L tx p R ∧ r = some (.int (iZ 1)) ∧ (∃ N', rRn a ((mItem L tx p R).2.1 + 1) N' σ') ∧ rJob j (mItem L tx p R).2.2 σ' ∧ g_Fr (pAJ a j) σ σ') ∨ (¬ itOK L tx p R ∧ r = some (.int (iZ 0)) ∧ (∃ p' N', rRn a p' N' σ') ∧ (∃ R', rJob j R' σ') ∧ g_Fr (pAJ a j) σ σ'))
    refine z_if_eq (t := 44) (q := 10) dX4_takesItem_7 rfl (by omega) rfl (fun pc1 => ?_) (fun pc1 => ?_)
    · exfalso; omega
    · refine g_aload_n (q := 11) dX4_takesItem_10 rfl rfl ?_
      refine g_aload_n (q := 12) dX4_takesItem_11 rfl rfl ?_
      refine z_iconst (q := 13) dX4_takesItem_12 rfl ?_
      obtain ⟨q, hqq⟩ : ∃ q, qNumF L tx 2 2 0 (p + 5 + 1) N = q := ⟨_, rfl⟩
      have qb := qNumF_b L tx 2 2 0 (p + 5 + 1) N
      rw [hqq] at qb
      refine g_callV (As := [.ref t, .int (iZ 2)]) (rest := []) (q := 16) moX4_takesNumbers lkX4_takesItem_39 dX4_takesItem_13 rfl hRw.1 (r_takesNumbers σw1 a t hd (p + 5 + 1) (by omega) N hRw L tx hTw hL ht 2 (by omega)) rfl rfl (Nat.le_of_ble_eq_true rfl) (Nat.le_of_ble_eq_true rfl) (Nat.le_of_ble_eq_true rfl) rfl ?_
      rintro rn σn ⟨hrn, hRn, hFn⟩
      replace hrn : rn = some (.int (iZ (qNumF L tx 2 2 0 (p + 5 + 1) N).1)) := hrn
      replace hRn : rRn a (qNumF L tx 2 2 0 (p + 5 + 1) N).2.1 (qNumF L tx 2 2 0 (p + 5 + 1) N).2.2 σn := hRn
      rw [hqq] at hrn hRn
      subst hrn
      have hJn : rJob j R σn := hJw.fr (fun k k0 k1 => hFn.2 k (fun e => by have := e.1; have := e.2; omega))
      show Go w mX4_takesItem (0, 0) 16 [some (.ref a), some (.ref t), some (.ref j)] [.int (iZ q.1)] σn (fun r σ' => (itOK L tx p R ∧ r = some (.int (iZ 1)) ∧ (∃ N', rRn a ((mItem L tx p R).2.1 + 1) N' σ') ∧ rJob j (mItem L tx p R).2.2 σ' ∧ g_Fr (pAJ a j) σ σ') ∨ (¬ itOK L tx p R ∧ r = some (.int (iZ 0)) ∧ (∃ p' N', rRn a p' N' σ') ∧ (∃ R', rJob j R' σ') ∧ g_Fr (pAJ a j) σ σ'))
      refine z_if_eq (t := 42) (q := 19) dX4_takesItem_16 rfl (by omega) rfl (fun pc2 => ?_) (fun pc2 => ?_)
      · refine z_iconst (q := 43) dX4_takesItem_42 rfl ?_
        refine z_zret dX4_takesItem_43 rfl rfl ?_
        exact Or.inr ⟨fun h => ((it_sheet hw hs hqq).1 h).1 (by omega), rfl, ⟨_, _, hRn⟩, ⟨_, hJn⟩, ((hFw.wk (fun k e => Or.inl e)).tr (hFn.wk (fun k e => Or.inl e)))⟩
      · have vb := qB ht 2 0 (p + 5 + 1) N (m := 2) (by omega) (by omega) (by rw [hqq]; omega) (fun k k0 k1 => by omega)
        rw [hqq] at vb
        have vb0 := vb 0 (by omega) (by omega)
        have vb1 := vb 1 (by omega) (by omega)
        refine g_aload_n (q := 20) dX4_takesItem_19 rfl rfl ?_
        refine g_aload_n (q := 21) dX4_takesItem_20 rfl rfl ?_
        refine g_get (q := 24) flX4_9 dX4_takesItem_21 hRn.1 rfl rfl ?_
        refine z_iconst (q := 25) dX4_takesItem_24 rfl ?_
        refine z_iald (q := 26) dX4_takesItem_25 hRn.2 (by omega) rfl ?_
        refine g_aload_n (q := 27) dX4_takesItem_26 rfl rfl ?_
        refine g_get (q := 30) flX4_9 dX4_takesItem_27 hRn.1 rfl rfl ?_
        refine z_iconst (q := 31) dX4_takesItem_30 rfl ?_
        refine z_iald (q := 32) dX4_takesItem_31 hRn.2 (by omega) rfl ?_
        refine g_callV (As := [.int (iZ (q.2.2 0)), .int (iZ (q.2.2 1))]) (rest := []) (q := 35) moX2_takeSheet lkX4_takesItem_43 dX4_takesItem_32 rfl hJn.1 (r_takeSheet σn j R hJn hP (q.2.2 0) (q.2.2 1) (by omega) (by omega)) rfl rfl (Nat.le_of_ble_eq_true rfl) (Nat.le_of_ble_eq_true rfl) (Nat.le_of_ble_eq_true rfl) rfl ?_
        rintro rt σt hpt
        rcases hpt with ⟨hC, rfl, hJt, hFt⟩ | ⟨hC, rfl, hJt, hFt⟩
        · have hRt : rRn a q.2.1 q.2.2 σt := hRn.fr (fun k k0 k1 => hFt.2 k (fun e => by have := e.1; have := e.2; omega))
          show Go w mX4_takesItem (0, 0) 35 [some (.ref a), some (.ref t), some (.ref j)] [.int (iZ 1)] σt (fun r σ' => (itOK L tx p R ∧ r = some (.int (iZ 1)) ∧ (∃ N', rRn a ((mItem L tx p R).2.1 + 1) N' σ') ∧ rJob j (mItem L tx p R).2.2 σ' ∧ g_Fr (pAJ a j) σ σ') ∨ (¬ itOK L tx p R ∧ r = some (.int (iZ 0)) ∧ (∃ p' N', rRn a p' N' σ') ∧ (∃ R', rJob j R' σ') ∧ g_Fr (pAJ a j) σ σ'))
          refine z_if_eq (t := 42) (q := 38) dX4_takesItem_35 rfl (by omega) rfl (fun pc3 => ?_) (fun pc3 => ?_)
          · exfalso; omega
          · refine z_iconst (q := 39) dX4_takesItem_38 rfl ?_
            refine g_goto (q := 43) dX4_takesItem_39 rfl ?_
            refine z_zret dX4_takesItem_43 rfl rfl ?_
            obtain ⟨ok, e1, e2⟩ := (it_sheet hw hs hqq).2 (by omega) hC
            rw [e1] at hRt; rw [e2] at hJt
            exact Or.inl ⟨ok, rfl, ⟨_, hRt⟩, hJt, (((hFw.wk (fun k e => Or.inl e)).tr (hFn.wk (fun k e => Or.inl e))).tr (hFt.wk (fun k e => Or.inr e)))⟩
        · have hRt : rRn a q.2.1 q.2.2 σt := hRn.fr (fun k k0 k1 => hFt.2 k (fun e => by have := e.1; have := e.2; omega))
          show Go w mX4_takesItem (0, 0) 35 [some (.ref a), some (.ref t), some (.ref j)] [.int (iZ 0)] σt (fun r σ' => (itOK L tx p R ∧ r = some (.int (iZ 1)) ∧ (∃ N', rRn a ((mItem L tx p R).2.1 + 1) N' σ') ∧ rJob j (mItem L tx p R).2.2 σ' ∧ g_Fr (pAJ a j) σ σ') ∨ (¬ itOK L tx p R ∧ r = some (.int (iZ 0)) ∧ (∃ p' N', rRn a p' N' σ') ∧ (∃ R', rJob j R' σ') ∧ g_Fr (pAJ a j) σ σ'))
          refine z_if_eq (t := 42) (q := 38) dX4_takesItem_35 rfl (by omega) rfl (fun pc4 => ?_) (fun pc4 => ?_)
          · refine z_iconst (q := 43) dX4_takesItem_42 rfl ?_
            refine z_zret dX4_takesItem_43 rfl rfl ?_
            exact Or.inr ⟨fun h => hC ((it_sheet hw hs hqq).1 h).2, rfl, ⟨_, _, hRt⟩, ⟨_, hJt⟩, (((hFw.wk (fun k e => Or.inl e)).tr (hFn.wk (fun k e => Or.inl e))).tr (hFt.wk (fun k e => Or.inr e)))⟩
          · exfalso; omega
  · have hn1 : ¬ (wSheet L tx p ∧ mB L tx (p + 5) = 32) := fun e => by have := qW_wSheet.mpr e; omega
    rw [hsw1]
    show Go w mX4_takesItem (0, 0) 7 [some (.ref a), some (.ref t), some (.ref j)] [.int (iZ 0)] σ (fun r σ' => (itOK L tx p R ∧ r = some (.int (iZ 1)) ∧ (∃ N', rRn a ((mItem L tx p R).2.1 + 1) N' σ') ∧ rJob j (mItem L tx p R).2.2 σ' ∧ g_Fr (pAJ a j) σ σ') ∨ (¬ itOK L tx p R ∧ r = some (.int (iZ 0)) ∧ (∃ p' N', rRn a p' N' σ') ∧ (∃ R', rJob j R' σ') ∧ g_Fr (pAJ a j) σ σ'))
    refine z_if_eq (t := 44) (q := 10) dX4_takesItem_7 rfl (by omega) rfl (fun pc5 => ?_) (fun pc5 => ?_)
    · refine g_aload_n (q := 45) dX4_takesItem_44 rfl rfl ?_
      refine g_aload_n (q := 46) dX4_takesItem_45 rfl rfl ?_
      refine g_ldcS (i := 2) (q := 48) (by omega) rfl dX4_takesItem_46 rfl rfl ?_
      refine g_callV (As := [.ref t, .float (UInt32.ofNat (1 + 2))]) (rest := []) (q := 51) moX4_takesWord lkX4_takesItem_35 dX4_takesItem_48 rfl hR.1 (r_takesWord σ a t hd p (by omega) N hR L tx hT hL ht 2 (by omega) (UInt32.ofNat (1 + 2)) (UInt32.ofNat (11 + 2)) rfl rfl) rfl rfl (Nat.le_of_ble_eq_true rfl) (Nat.le_of_ble_eq_true rfl) (Nat.le_of_ble_eq_true rfl) rfl ?_
      rintro rw2 σw2 hpw2
      rcases hpw2 with ⟨hq2, rfl, hRw, hFw⟩ | ⟨hq2, rfl, hsw2⟩
      · obtain ⟨hw, hs⟩ := qW_wTool.mp hq2
        rw [sL_2, show p + 5 = p + 4 + 1 by omega] at hRw
        have hTw : rText t L tx σw2 := hT.fr (fun k k0 k1 => hFw.2 k (fun e => by have := e.1; omega))
        have hJw : rJob j R σw2 := hJ.fr (fun k k0 k1 => hFw.2 k (fun e => by have := e.1; have := e.2; omega))
        show Go w mX4_takesItem (0, 0) 51 [some (.ref a), some (.ref t), some (.ref j)] [.int (iZ 1)] σw2 (fun r σ' => (itOK L tx p R ∧ r = some (.int (iZ 1)) ∧ (∃ N', rRn a ((mItem L tx p R).2.1 + 1) N' σ') ∧ rJob j (mItem L tx p R).2.2 σ' ∧ g_Fr (pAJ a j) σ σ') ∨ (¬ itOK L tx p R ∧ r = some (.int (iZ 0)) ∧ (∃ p' N', rRn a p' N' σ') ∧ (∃ R', rJob j R' σ') ∧ g_Fr (pAJ a j) σ σ'))
        refine z_if_eq (t := 100) (q := 54) dX4_takesItem_51 rfl (by omega) rfl (fun pc6 => ?_) (fun pc6 => ?_)
        · exfalso; omega
        · refine g_aload_n (q := 55) dX4_takesItem_54 rfl rfl ?_
          refine g_aload_n (q := 56) dX4_takesItem_55 rfl rfl ?_
          refine z_iconst (q := 57) dX4_takesItem_56 rfl ?_
          obtain ⟨q, hqq⟩ : ∃ q, qNumF L tx 4 4 0 (p + 4 + 1) N = q := ⟨_, rfl⟩
          have qb := qNumF_b L tx 4 4 0 (p + 4 + 1) N
          rw [hqq] at qb
          refine g_callV (As := [.ref t, .int (iZ 4)]) (rest := []) (q := 60) moX4_takesNumbers lkX4_takesItem_39 dX4_takesItem_57 rfl hRw.1 (r_takesNumbers σw2 a t hd (p + 4 + 1) (by omega) N hRw L tx hTw hL ht 4 (by omega)) rfl rfl (Nat.le_of_ble_eq_true rfl) (Nat.le_of_ble_eq_true rfl) (Nat.le_of_ble_eq_true rfl) rfl ?_
          rintro rn σn ⟨hrn, hRn, hFn⟩
          replace hrn : rn = some (.int (iZ (qNumF L tx 4 4 0 (p + 4 + 1) N).1)) := hrn
          replace hRn : rRn a (qNumF L tx 4 4 0 (p + 4 + 1) N).2.1 (qNumF L tx 4 4 0 (p + 4 + 1) N).2.2 σn := hRn
          rw [hqq] at hrn hRn
          subst hrn
          have hJn : rJob j R σn := hJw.fr (fun k k0 k1 => hFn.2 k (fun e => by have := e.1; have := e.2; omega))
          show Go w mX4_takesItem (0, 0) 60 [some (.ref a), some (.ref t), some (.ref j)] [.int (iZ q.1)] σn (fun r σ' => (itOK L tx p R ∧ r = some (.int (iZ 1)) ∧ (∃ N', rRn a ((mItem L tx p R).2.1 + 1) N' σ') ∧ rJob j (mItem L tx p R).2.2 σ' ∧ g_Fr (pAJ a j) σ σ') ∨ (¬ itOK L tx p R ∧ r = some (.int (iZ 0)) ∧ (∃ p' N', rRn a p' N' σ') ∧ (∃ R', rJob j R' σ') ∧ g_Fr (pAJ a j) σ σ'))
          refine z_if_eq (t := 98) (q := 63) dX4_takesItem_60 rfl (by omega) rfl (fun pc7 => ?_) (fun pc7 => ?_)
          · refine z_iconst (q := 99) dX4_takesItem_98 rfl ?_
            refine z_zret dX4_takesItem_99 rfl rfl ?_
            exact Or.inr ⟨fun h => ((it_tool hw hs hqq).1 h).1 (by omega), rfl, ⟨_, _, hRn⟩, ⟨_, hJn⟩, ((hFw.wk (fun k e => Or.inl e)).tr (hFn.wk (fun k e => Or.inl e)))⟩
          · have vb := qB ht 4 0 (p + 4 + 1) N (m := 4) (by omega) (by omega) (by rw [hqq]; omega) (fun k k0 k1 => by omega)
            rw [hqq] at vb
            have vb0 := vb 0 (by omega) (by omega)
            have vb1 := vb 1 (by omega) (by omega)
            have vb2 := vb 2 (by omega) (by omega)
            have vb3 := vb 3 (by omega) (by omega)
            refine g_aload_n (q := 64) dX4_takesItem_63 rfl rfl ?_
            refine g_aload_n (q := 65) dX4_takesItem_64 rfl rfl ?_
            refine g_get (q := 68) flX4_9 dX4_takesItem_65 hRn.1 rfl rfl ?_
            refine z_iconst (q := 69) dX4_takesItem_68 rfl ?_
            refine z_iald (q := 70) dX4_takesItem_69 hRn.2 (by omega) rfl ?_
            refine g_aload_n (q := 71) dX4_takesItem_70 rfl rfl ?_
            refine g_get (q := 74) flX4_9 dX4_takesItem_71 hRn.1 rfl rfl ?_
            refine z_iconst (q := 75) dX4_takesItem_74 rfl ?_
            refine z_iald (q := 76) dX4_takesItem_75 hRn.2 (by omega) rfl ?_
            refine g_aload_n (q := 77) dX4_takesItem_76 rfl rfl ?_
            refine g_get (q := 80) flX4_9 dX4_takesItem_77 hRn.1 rfl rfl ?_
            refine z_iconst (q := 81) dX4_takesItem_80 rfl ?_
            refine z_iald (q := 82) dX4_takesItem_81 hRn.2 (by omega) rfl ?_
            refine g_aload_n (q := 83) dX4_takesItem_82 rfl rfl ?_
            refine g_get (q := 86) flX4_9 dX4_takesItem_83 hRn.1 rfl rfl ?_
            refine z_iconst (q := 87) dX4_takesItem_86 rfl ?_
            refine z_iald (q := 88) dX4_takesItem_87 hRn.2 (by omega) rfl ?_
            refine g_callV (As := [.int (iZ (q.2.2 0)), .int (iZ (q.2.2 1)), .int (iZ (q.2.2 2)), .int (iZ (q.2.2 3))]) (rest := []) (q := 91) moX2_takeTool lkX4_takesItem_49 dX4_takesItem_88 rfl hJn.1 (r_takeTool σn j R hJn hP (q.2.2 0) (q.2.2 1) (q.2.2 2) (q.2.2 3) (by omega) (by omega) (by omega) (by omega)) rfl rfl (Nat.le_of_ble_eq_true rfl) (Nat.le_of_ble_eq_true rfl) (Nat.le_of_ble_eq_true rfl) rfl ?_
            rintro rt σt hpt
            rcases hpt with ⟨hC, rfl, hJt, hFt⟩ | ⟨hC, rfl, hJt, hFt⟩
            · have hRt : rRn a q.2.1 q.2.2 σt := hRn.fr (fun k k0 k1 => hFt.2 k (fun e => by have := e.1; have := e.2; omega))
              show Go w mX4_takesItem (0, 0) 91 [some (.ref a), some (.ref t), some (.ref j)] [.int (iZ 1)] σt (fun r σ' => (itOK L tx p R ∧ r = some (.int (iZ 1)) ∧ (∃ N', rRn a ((mItem L tx p R).2.1 + 1) N' σ') ∧ rJob j (mItem L tx p R).2.2 σ' ∧ g_Fr (pAJ a j) σ σ') ∨ (¬ itOK L tx p R ∧ r = some (.int (iZ 0)) ∧ (∃ p' N', rRn a p' N' σ') ∧ (∃ R', rJob j R' σ') ∧ g_Fr (pAJ a j) σ σ'))
              refine z_if_eq (t := 98) (q := 94) dX4_takesItem_91 rfl (by omega) rfl (fun pc8 => ?_) (fun pc8 => ?_)
              · exfalso; omega
              · refine z_iconst (q := 95) dX4_takesItem_94 rfl ?_
                refine g_goto (q := 99) dX4_takesItem_95 rfl ?_
                refine z_zret dX4_takesItem_99 rfl rfl ?_
                obtain ⟨ok, e1, e2⟩ := (it_tool hw hs hqq).2 (by omega) hC
                rw [e1] at hRt; rw [e2] at hJt
                exact Or.inl ⟨ok, rfl, ⟨_, hRt⟩, hJt, (((hFw.wk (fun k e => Or.inl e)).tr (hFn.wk (fun k e => Or.inl e))).tr (hFt.wk (fun k e => Or.inr e)))⟩
            · have hRt : rRn a q.2.1 q.2.2 σt := hRn.fr (fun k k0 k1 => hFt.2 k (fun e => by have := e.1; have := e.2; omega))
              show Go w mX4_takesItem (0, 0) 91 [some (.ref a), some (.ref t), some (.ref j)] [.int (iZ 0)] σt (fun r σ' => (itOK L tx p R ∧ r = some (.int (iZ 1)) ∧ (∃ N', rRn a ((mItem L tx p R).2.1 + 1) N' σ') ∧ rJob j (mItem L tx p R).2.2 σ' ∧ g_Fr (pAJ a j) σ σ') ∨ (¬ itOK L tx p R ∧ r = some (.int (iZ 0)) ∧ (∃ p' N', rRn a p' N' σ') ∧ (∃ R', rJob j R' σ') ∧ g_Fr (pAJ a j) σ σ'))
              refine z_if_eq (t := 98) (q := 94) dX4_takesItem_91 rfl (by omega) rfl (fun pc9 => ?_) (fun pc9 => ?_)
              · refine z_iconst (q := 99) dX4_takesItem_98 rfl ?_
                refine z_zret dX4_takesItem_99 rfl rfl ?_
                exact Or.inr ⟨fun h => hC ((it_tool hw hs hqq).1 h).2, rfl, ⟨_, _, hRt⟩, ⟨_, hJt⟩, (((hFw.wk (fun k e => Or.inl e)).tr (hFn.wk (fun k e => Or.inl e))).tr (hFt.wk (fun k e => Or.inr e)))⟩
              · exfalso; omega
      · have hn2 : ¬ (wTool L tx p ∧ mB L tx (p + 4) = 32) := fun e => by have := qW_wTool.mpr e; omega
        rw [hsw2]
        show Go w mX4_takesItem (0, 0) 51 [some (.ref a), some (.ref t), some (.ref j)] [.int (iZ 0)] σ (fun r σ' => (itOK L tx p R ∧ r = some (.int (iZ 1)) ∧ (∃ N', rRn a ((mItem L tx p R).2.1 + 1) N' σ') ∧ rJob j (mItem L tx p R).2.2 σ' ∧ g_Fr (pAJ a j) σ σ') ∨ (¬ itOK L tx p R ∧ r = some (.int (iZ 0)) ∧ (∃ p' N', rRn a p' N' σ') ∧ (∃ R', rJob j R' σ') ∧ g_Fr (pAJ a j) σ σ'))
        refine z_if_eq (t := 100) (q := 54) dX4_takesItem_51 rfl (by omega) rfl (fun pc10 => ?_) (fun pc10 => ?_)
        · refine g_aload_n (q := 101) dX4_takesItem_100 rfl rfl ?_
          refine g_aload_n (q := 102) dX4_takesItem_101 rfl rfl ?_
          refine g_ldcS (i := 3) (q := 104) (by omega) rfl dX4_takesItem_102 rfl rfl ?_
          refine g_callV (As := [.ref t, .float (UInt32.ofNat (1 + 3))]) (rest := []) (q := 107) moX4_takesWord lkX4_takesItem_35 dX4_takesItem_104 rfl hR.1 (r_takesWord σ a t hd p (by omega) N hR L tx hT hL ht 3 (by omega) (UInt32.ofNat (1 + 3)) (UInt32.ofNat (11 + 3)) rfl rfl) rfl rfl (Nat.le_of_ble_eq_true rfl) (Nat.le_of_ble_eq_true rfl) (Nat.le_of_ble_eq_true rfl) rfl ?_
          rintro rw3 σw3 hpw3
          rcases hpw3 with ⟨hq3, rfl, hRw, hFw⟩ | ⟨hq3, rfl, hsw3⟩
          · obtain ⟨hw, hs⟩ := qW_wHole.mp hq3
            rw [sL_3, show p + 5 = p + 4 + 1 by omega] at hRw
            have hTw : rText t L tx σw3 := hT.fr (fun k k0 k1 => hFw.2 k (fun e => by have := e.1; omega))
            have hJw : rJob j R σw3 := hJ.fr (fun k k0 k1 => hFw.2 k (fun e => by have := e.1; have := e.2; omega))
            show Go w mX4_takesItem (0, 0) 107 [some (.ref a), some (.ref t), some (.ref j)] [.int (iZ 1)] σw3 (fun r σ' => (itOK L tx p R ∧ r = some (.int (iZ 1)) ∧ (∃ N', rRn a ((mItem L tx p R).2.1 + 1) N' σ') ∧ rJob j (mItem L tx p R).2.2 σ' ∧ g_Fr (pAJ a j) σ σ') ∨ (¬ itOK L tx p R ∧ r = some (.int (iZ 0)) ∧ (∃ p' N', rRn a p' N' σ') ∧ (∃ R', rJob j R' σ') ∧ g_Fr (pAJ a j) σ σ'))
            refine z_if_eq (t := 156) (q := 110) dX4_takesItem_107 rfl (by omega) rfl (fun pc11 => ?_) (fun pc11 => ?_)
            · exfalso; omega
            · refine g_aload_n (q := 111) dX4_takesItem_110 rfl rfl ?_
              refine g_aload_n (q := 112) dX4_takesItem_111 rfl rfl ?_
              refine z_iconst (q := 113) dX4_takesItem_112 rfl ?_
              obtain ⟨q, hqq⟩ : ∃ q, qNumF L tx 4 4 0 (p + 4 + 1) N = q := ⟨_, rfl⟩
              have qb := qNumF_b L tx 4 4 0 (p + 4 + 1) N
              rw [hqq] at qb
              refine g_callV (As := [.ref t, .int (iZ 4)]) (rest := []) (q := 116) moX4_takesNumbers lkX4_takesItem_39 dX4_takesItem_113 rfl hRw.1 (r_takesNumbers σw3 a t hd (p + 4 + 1) (by omega) N hRw L tx hTw hL ht 4 (by omega)) rfl rfl (Nat.le_of_ble_eq_true rfl) (Nat.le_of_ble_eq_true rfl) (Nat.le_of_ble_eq_true rfl) rfl ?_
              rintro rn σn ⟨hrn, hRn, hFn⟩
              replace hrn : rn = some (.int (iZ (qNumF L tx 4 4 0 (p + 4 + 1) N).1)) := hrn
              replace hRn : rRn a (qNumF L tx 4 4 0 (p + 4 + 1) N).2.1 (qNumF L tx 4 4 0 (p + 4 + 1) N).2.2 σn := hRn
              rw [hqq] at hrn hRn
              subst hrn
              have hJn : rJob j R σn := hJw.fr (fun k k0 k1 => hFn.2 k (fun e => by have := e.1; have := e.2; omega))
              show Go w mX4_takesItem (0, 0) 116 [some (.ref a), some (.ref t), some (.ref j)] [.int (iZ q.1)] σn (fun r σ' => (itOK L tx p R ∧ r = some (.int (iZ 1)) ∧ (∃ N', rRn a ((mItem L tx p R).2.1 + 1) N' σ') ∧ rJob j (mItem L tx p R).2.2 σ' ∧ g_Fr (pAJ a j) σ σ') ∨ (¬ itOK L tx p R ∧ r = some (.int (iZ 0)) ∧ (∃ p' N', rRn a p' N' σ') ∧ (∃ R', rJob j R' σ') ∧ g_Fr (pAJ a j) σ σ'))
              refine z_if_eq (t := 154) (q := 119) dX4_takesItem_116 rfl (by omega) rfl (fun pc12 => ?_) (fun pc12 => ?_)
              · refine z_iconst (q := 155) dX4_takesItem_154 rfl ?_
                refine z_zret dX4_takesItem_155 rfl rfl ?_
                exact Or.inr ⟨fun h => ((it_hole ht (by omega) hP hw hs hqq).1 h).1 (by omega), rfl, ⟨_, _, hRn⟩, ⟨_, hJn⟩, ((hFw.wk (fun k e => Or.inl e)).tr (hFn.wk (fun k e => Or.inl e)))⟩
              · have vb := qB ht 4 0 (p + 4 + 1) N (m := 4) (by omega) (by omega) (by rw [hqq]; omega) (fun k k0 k1 => by omega)
                rw [hqq] at vb
                have vb0 := vb 0 (by omega) (by omega)
                have vb1 := vb 1 (by omega) (by omega)
                have vb2 := vb 2 (by omega) (by omega)
                have vb3 := vb 3 (by omega) (by omega)
                refine g_aload_n (q := 120) dX4_takesItem_119 rfl rfl ?_
                refine g_aload_n (q := 121) dX4_takesItem_120 rfl rfl ?_
                refine g_get (q := 124) flX4_9 dX4_takesItem_121 hRn.1 rfl rfl ?_
                refine z_iconst (q := 125) dX4_takesItem_124 rfl ?_
                refine z_iald (q := 126) dX4_takesItem_125 hRn.2 (by omega) rfl ?_
                refine g_aload_n (q := 127) dX4_takesItem_126 rfl rfl ?_
                refine g_get (q := 130) flX4_9 dX4_takesItem_127 hRn.1 rfl rfl ?_
                refine z_iconst (q := 131) dX4_takesItem_130 rfl ?_
                refine z_iald (q := 132) dX4_takesItem_131 hRn.2 (by omega) rfl ?_
                refine g_aload_n (q := 133) dX4_takesItem_132 rfl rfl ?_
                refine g_get (q := 136) flX4_9 dX4_takesItem_133 hRn.1 rfl rfl ?_
                refine z_iconst (q := 137) dX4_takesItem_136 rfl ?_
                refine z_iald (q := 138) dX4_takesItem_137 hRn.2 (by omega) rfl ?_
                refine g_aload_n (q := 139) dX4_takesItem_138 rfl rfl ?_
                refine g_get (q := 142) flX4_9 dX4_takesItem_139 hRn.1 rfl rfl ?_
                refine z_iconst (q := 143) dX4_takesItem_142 rfl ?_
                refine z_iald (q := 144) dX4_takesItem_143 hRn.2 (by omega) rfl ?_
                refine g_callV (As := [.int (iZ (q.2.2 0)), .int (iZ (q.2.2 1)), .int (iZ (q.2.2 2)), .int (iZ (q.2.2 3))]) (rest := []) (q := 147) moX2_takeHole lkX4_takesItem_55 dX4_takesItem_144 rfl hJn.1 (r_takeHole σn j R hJn hP (q.2.2 0) (q.2.2 1) (q.2.2 2) (q.2.2 3) (by omega) (by omega) (by omega) (by omega)) rfl rfl (Nat.le_of_ble_eq_true rfl) (Nat.le_of_ble_eq_true rfl) (Nat.le_of_ble_eq_true rfl) rfl ?_
                rintro rt σt hpt
                rcases hpt with ⟨hC, rfl, hJt, hFt⟩ | ⟨hC, rfl, hJt, hFt⟩
                · have hRt : rRn a q.2.1 q.2.2 σt := hRn.fr (fun k k0 k1 => hFt.2 k (fun e => by have := e.1; have := e.2; omega))
                  show Go w mX4_takesItem (0, 0) 147 [some (.ref a), some (.ref t), some (.ref j)] [.int (iZ 1)] σt (fun r σ' => (itOK L tx p R ∧ r = some (.int (iZ 1)) ∧ (∃ N', rRn a ((mItem L tx p R).2.1 + 1) N' σ') ∧ rJob j (mItem L tx p R).2.2 σ' ∧ g_Fr (pAJ a j) σ σ') ∨ (¬ itOK L tx p R ∧ r = some (.int (iZ 0)) ∧ (∃ p' N', rRn a p' N' σ') ∧ (∃ R', rJob j R' σ') ∧ g_Fr (pAJ a j) σ σ'))
                  refine z_if_eq (t := 154) (q := 150) dX4_takesItem_147 rfl (by omega) rfl (fun pc13 => ?_) (fun pc13 => ?_)
                  · exfalso; omega
                  · refine z_iconst (q := 151) dX4_takesItem_150 rfl ?_
                    refine g_goto (q := 155) dX4_takesItem_151 rfl ?_
                    refine z_zret dX4_takesItem_155 rfl rfl ?_
                    obtain ⟨ok, e1, e2⟩ := (it_hole ht (by omega) hP hw hs hqq).2 (by omega) hC
                    rw [e1] at hRt; rw [e2] at hJt
                    exact Or.inl ⟨ok, rfl, ⟨_, hRt⟩, hJt, (((hFw.wk (fun k e => Or.inl e)).tr (hFn.wk (fun k e => Or.inl e))).tr (hFt.wk (fun k e => Or.inr e)))⟩
                · have hRt : rRn a q.2.1 q.2.2 σt := hRn.fr (fun k k0 k1 => hFt.2 k (fun e => by have := e.1; have := e.2; omega))
                  show Go w mX4_takesItem (0, 0) 147 [some (.ref a), some (.ref t), some (.ref j)] [.int (iZ 0)] σt (fun r σ' => (itOK L tx p R ∧ r = some (.int (iZ 1)) ∧ (∃ N', rRn a ((mItem L tx p R).2.1 + 1) N' σ') ∧ rJob j (mItem L tx p R).2.2 σ' ∧ g_Fr (pAJ a j) σ σ') ∨ (¬ itOK L tx p R ∧ r = some (.int (iZ 0)) ∧ (∃ p' N', rRn a p' N' σ') ∧ (∃ R', rJob j R' σ') ∧ g_Fr (pAJ a j) σ σ'))
                  refine z_if_eq (t := 154) (q := 150) dX4_takesItem_147 rfl (by omega) rfl (fun pc14 => ?_) (fun pc14 => ?_)
                  · refine z_iconst (q := 155) dX4_takesItem_154 rfl ?_
                    refine z_zret dX4_takesItem_155 rfl rfl ?_
                    exact Or.inr ⟨fun h => hC ((it_hole ht (by omega) hP hw hs hqq).1 h).2, rfl, ⟨_, _, hRt⟩, ⟨_, hJt⟩, (((hFw.wk (fun k e => Or.inl e)).tr (hFn.wk (fun k e => Or.inl e))).tr (hFt.wk (fun k e => Or.inr e)))⟩
                  · exfalso; omega
          · have hn3 : ¬ (wHole L tx p ∧ mB L tx (p + 4) = 32) := fun e => by have := qW_wHole.mpr e; omega
            rw [hsw3]
            show Go w mX4_takesItem (0, 0) 107 [some (.ref a), some (.ref t), some (.ref j)] [.int (iZ 0)] σ (fun r σ' => (itOK L tx p R ∧ r = some (.int (iZ 1)) ∧ (∃ N', rRn a ((mItem L tx p R).2.1 + 1) N' σ') ∧ rJob j (mItem L tx p R).2.2 σ' ∧ g_Fr (pAJ a j) σ σ') ∨ (¬ itOK L tx p R ∧ r = some (.int (iZ 0)) ∧ (∃ p' N', rRn a p' N' σ') ∧ (∃ R', rJob j R' σ') ∧ g_Fr (pAJ a j) σ σ'))
            refine z_if_eq (t := 156) (q := 110) dX4_takesItem_107 rfl (by omega) rfl (fun pc15 => ?_) (fun pc15 => ?_)
            · refine g_aload_n (q := 157) dX4_takesItem_156 rfl rfl ?_
              refine g_aload_n (q := 158) dX4_takesItem_157 rfl rfl ?_
              refine g_ldcS (i := 4) (q := 160) (by omega) rfl dX4_takesItem_158 rfl rfl ?_
              refine g_callV (As := [.ref t, .float (UInt32.ofNat (1 + 4))]) (rest := []) (q := 163) moX4_takesWord lkX4_takesItem_35 dX4_takesItem_160 rfl hR.1 (r_takesWord σ a t hd p (by omega) N hR L tx hT hL ht 4 (by omega) (UInt32.ofNat (1 + 4)) (UInt32.ofNat (11 + 4)) rfl rfl) rfl rfl (Nat.le_of_ble_eq_true rfl) (Nat.le_of_ble_eq_true rfl) (Nat.le_of_ble_eq_true rfl) rfl ?_
              rintro rw4 σw4 hpw4
              rcases hpw4 with ⟨hq4, rfl, hRw, hFw⟩ | ⟨hq4, rfl, hsw4⟩
              · obtain ⟨hw, hs⟩ := qW_wClamp.mp hq4
                rw [sL_4, show p + 6 = p + 5 + 1 by omega] at hRw
                have hTw : rText t L tx σw4 := hT.fr (fun k k0 k1 => hFw.2 k (fun e => by have := e.1; omega))
                have hJw : rJob j R σw4 := hJ.fr (fun k k0 k1 => hFw.2 k (fun e => by have := e.1; have := e.2; omega))
                show Go w mX4_takesItem (0, 0) 163 [some (.ref a), some (.ref t), some (.ref j)] [.int (iZ 1)] σw4 (fun r σ' => (itOK L tx p R ∧ r = some (.int (iZ 1)) ∧ (∃ N', rRn a ((mItem L tx p R).2.1 + 1) N' σ') ∧ rJob j (mItem L tx p R).2.2 σ' ∧ g_Fr (pAJ a j) σ σ') ∨ (¬ itOK L tx p R ∧ r = some (.int (iZ 0)) ∧ (∃ p' N', rRn a p' N' σ') ∧ (∃ R', rJob j R' σ') ∧ g_Fr (pAJ a j) σ σ'))
                refine z_if_eq (t := 194) (q := 166) dX4_takesItem_163 rfl (by omega) rfl (fun pc16 => ?_) (fun pc16 => ?_)
                · exfalso; omega
                · refine g_aload_n (q := 167) dX4_takesItem_166 rfl rfl ?_
                  refine g_aload_n (q := 168) dX4_takesItem_167 rfl rfl ?_
                  refine z_iconst (q := 169) dX4_takesItem_168 rfl ?_
                  obtain ⟨q, hqq⟩ : ∃ q, qNumF L tx 1 1 0 (p + 5 + 1) N = q := ⟨_, rfl⟩
                  have qb := qNumF_b L tx 1 1 0 (p + 5 + 1) N
                  rw [hqq] at qb
                  refine g_callV (As := [.ref t, .int (iZ 1)]) (rest := []) (q := 172) moX4_takesNumbers lkX4_takesItem_39 dX4_takesItem_169 rfl hRw.1 (r_takesNumbers σw4 a t hd (p + 5 + 1) (by omega) N hRw L tx hTw hL ht 1 (by omega)) rfl rfl (Nat.le_of_ble_eq_true rfl) (Nat.le_of_ble_eq_true rfl) (Nat.le_of_ble_eq_true rfl) rfl ?_
                  rintro rn σn ⟨hrn, hRn, hFn⟩
                  replace hrn : rn = some (.int (iZ (qNumF L tx 1 1 0 (p + 5 + 1) N).1)) := hrn
                  replace hRn : rRn a (qNumF L tx 1 1 0 (p + 5 + 1) N).2.1 (qNumF L tx 1 1 0 (p + 5 + 1) N).2.2 σn := hRn
                  rw [hqq] at hrn hRn
                  subst hrn
                  have hJn : rJob j R σn := hJw.fr (fun k k0 k1 => hFn.2 k (fun e => by have := e.1; have := e.2; omega))
                  show Go w mX4_takesItem (0, 0) 172 [some (.ref a), some (.ref t), some (.ref j)] [.int (iZ q.1)] σn (fun r σ' => (itOK L tx p R ∧ r = some (.int (iZ 1)) ∧ (∃ N', rRn a ((mItem L tx p R).2.1 + 1) N' σ') ∧ rJob j (mItem L tx p R).2.2 σ' ∧ g_Fr (pAJ a j) σ σ') ∨ (¬ itOK L tx p R ∧ r = some (.int (iZ 0)) ∧ (∃ p' N', rRn a p' N' σ') ∧ (∃ R', rJob j R' σ') ∧ g_Fr (pAJ a j) σ σ'))
                  refine z_if_eq (t := 192) (q := 175) dX4_takesItem_172 rfl (by omega) rfl (fun pc17 => ?_) (fun pc17 => ?_)
                  · refine z_iconst (q := 193) dX4_takesItem_192 rfl ?_
                    refine z_zret dX4_takesItem_193 rfl rfl ?_
                    exact Or.inr ⟨fun h => ((it_clamp hP hw hs hqq).1 h).1 (by omega), rfl, ⟨_, _, hRn⟩, ⟨_, hJn⟩, ((hFw.wk (fun k e => Or.inl e)).tr (hFn.wk (fun k e => Or.inl e)))⟩
                  · have vb := qB ht 1 0 (p + 5 + 1) N (m := 1) (by omega) (by omega) (by rw [hqq]; omega) (fun k k0 k1 => by omega)
                    rw [hqq] at vb
                    have vb0 := vb 0 (by omega) (by omega)
                    refine g_aload_n (q := 176) dX4_takesItem_175 rfl rfl ?_
                    refine g_aload_n (q := 177) dX4_takesItem_176 rfl rfl ?_
                    refine g_get (q := 180) flX4_9 dX4_takesItem_177 hRn.1 rfl rfl ?_
                    refine z_iconst (q := 181) dX4_takesItem_180 rfl ?_
                    refine z_iald (q := 182) dX4_takesItem_181 hRn.2 (by omega) rfl ?_
                    refine g_callV (As := [.int (iZ (q.2.2 0))]) (rest := []) (q := 185) moX2_takeClamp lkX4_takesItem_60 dX4_takesItem_182 rfl hJn.1 (r_takeClamp σn j R hJn hP (q.2.2 0) (by omega)) rfl rfl (Nat.le_of_ble_eq_true rfl) (Nat.le_of_ble_eq_true rfl) (Nat.le_of_ble_eq_true rfl) rfl ?_
                    rintro rt σt hpt
                    rcases hpt with ⟨hC, rfl, hJt, hFt⟩ | ⟨hC, rfl, hJt, hFt⟩
                    · have hRt : rRn a q.2.1 q.2.2 σt := hRn.fr (fun k k0 k1 => hFt.2 k (fun e => by have := e.1; have := e.2; omega))
                      show Go w mX4_takesItem (0, 0) 185 [some (.ref a), some (.ref t), some (.ref j)] [.int (iZ 1)] σt (fun r σ' => (itOK L tx p R ∧ r = some (.int (iZ 1)) ∧ (∃ N', rRn a ((mItem L tx p R).2.1 + 1) N' σ') ∧ rJob j (mItem L tx p R).2.2 σ' ∧ g_Fr (pAJ a j) σ σ') ∨ (¬ itOK L tx p R ∧ r = some (.int (iZ 0)) ∧ (∃ p' N', rRn a p' N' σ') ∧ (∃ R', rJob j R' σ') ∧ g_Fr (pAJ a j) σ σ'))
                      refine z_if_eq (t := 192) (q := 188) dX4_takesItem_185 rfl (by omega) rfl (fun pc18 => ?_) (fun pc18 => ?_)
                      · exfalso; omega
                      · refine z_iconst (q := 189) dX4_takesItem_188 rfl ?_
                        refine g_goto (q := 193) dX4_takesItem_189 rfl ?_
                        refine z_zret dX4_takesItem_193 rfl rfl ?_
                        obtain ⟨ok, e1, e2⟩ := (it_clamp hP hw hs hqq).2 (by omega) hC
                        rw [e1] at hRt; rw [e2] at hJt
                        exact Or.inl ⟨ok, rfl, ⟨_, hRt⟩, hJt, (((hFw.wk (fun k e => Or.inl e)).tr (hFn.wk (fun k e => Or.inl e))).tr (hFt.wk (fun k e => Or.inr e)))⟩
                    · have hRt : rRn a q.2.1 q.2.2 σt := hRn.fr (fun k k0 k1 => hFt.2 k (fun e => by have := e.1; have := e.2; omega))
                      show Go w mX4_takesItem (0, 0) 185 [some (.ref a), some (.ref t), some (.ref j)] [.int (iZ 0)] σt (fun r σ' => (itOK L tx p R ∧ r = some (.int (iZ 1)) ∧ (∃ N', rRn a ((mItem L tx p R).2.1 + 1) N' σ') ∧ rJob j (mItem L tx p R).2.2 σ' ∧ g_Fr (pAJ a j) σ σ') ∨ (¬ itOK L tx p R ∧ r = some (.int (iZ 0)) ∧ (∃ p' N', rRn a p' N' σ') ∧ (∃ R', rJob j R' σ') ∧ g_Fr (pAJ a j) σ σ'))
                      refine z_if_eq (t := 192) (q := 188) dX4_takesItem_185 rfl (by omega) rfl (fun pc19 => ?_) (fun pc19 => ?_)
                      · refine z_iconst (q := 193) dX4_takesItem_192 rfl ?_
                        refine z_zret dX4_takesItem_193 rfl rfl ?_
                        exact Or.inr ⟨fun h => hC ((it_clamp hP hw hs hqq).1 h).2, rfl, ⟨_, _, hRt⟩, ⟨_, hJt⟩, (((hFw.wk (fun k e => Or.inl e)).tr (hFn.wk (fun k e => Or.inl e))).tr (hFt.wk (fun k e => Or.inr e)))⟩
                      · exfalso; omega
              · have hn4 : ¬ (wClamp L tx p ∧ mB L tx (p + 5) = 32) := fun e => by have := qW_wClamp.mpr e; omega
                rw [hsw4]
                show Go w mX4_takesItem (0, 0) 163 [some (.ref a), some (.ref t), some (.ref j)] [.int (iZ 0)] σ (fun r σ' => (itOK L tx p R ∧ r = some (.int (iZ 1)) ∧ (∃ N', rRn a ((mItem L tx p R).2.1 + 1) N' σ') ∧ rJob j (mItem L tx p R).2.2 σ' ∧ g_Fr (pAJ a j) σ σ') ∨ (¬ itOK L tx p R ∧ r = some (.int (iZ 0)) ∧ (∃ p' N', rRn a p' N' σ') ∧ (∃ R', rJob j R' σ') ∧ g_Fr (pAJ a j) σ σ'))
                refine z_if_eq (t := 194) (q := 166) dX4_takesItem_163 rfl (by omega) rfl (fun pc20 => ?_) (fun pc20 => ?_)
                · refine z_iconst (q := 195) dX4_takesItem_194 rfl ?_
                  refine z_zret dX4_takesItem_195 rfl rfl ?_
                  refine Or.inr ⟨fun h => ?_, rfl, ⟨_, _, hR⟩, ⟨_, hJ⟩, g_Fr.rf⟩
                  rcases h.w hP with e | e | e | e
                  · exact hn1 e
                  · exact hn2 e
                  · exact hn3 e
                  · exact hn4 e
                · exfalso; omega
            · exfalso; omega
        · exfalso; omega
    · exfalso; omega
theorem l_firstFault (w : g_W) (σ0 : g_H0) (a t j : Nat) (hd : t + 2 ≤ a) (hd2 : a + 2 ≤ j) (L : Int) (tx : Int → Int) (hL : 0 ≤ L ∧ L ≤ 200) (ht : zBt L tx) (R0 : Int → Int) : ∀ (n : Nat) (i p : Int) (N R : Int → Int) (σ : g_H0), 0 ≤ i → i + n = 200 → i ≤ p → p ≤ L → mFlF L tx 200 0 R0 = mFlF L tx n p R → pR R → rRn a p N σ → rText t L tx σ → rJob j R σ → g_Fr (pAJ a j) σ0 σ → Go w mX4_firstFault (0, 0) 11 [some (.ref a), some (.ref t), some (.ref j), some (.int (iZ i)), none] [] σ (fun r σ' => r = some (.int (iZ (mFlF L tx 200 0 R0).1)) ∧ (∃ p' N', rRn a p' N' σ') ∧ (∃ R', rJob j R' σ' ∧ ((mFlF L tx 200 0 R0).1 = -4 → R' = (mFlF L tx 200 0 R0).2)) ∧ g_Fr (pAJ a j) σ0 σ') := by
  intro n
  induction n with
  | zero =>
    intro i p N R σ i0 i1 ip pL hm hP hR hT hJ hF
    refine g_iload_n (q := 12) dX4_firstFault_11 rfl rfl ?_
    refine g_sipush (v := iZ 200) (q := 15) dX4_firstFault_12 (by decide) rfl ?_
    refine z_icmp_ge (t := 53) (q := 18) dX4_firstFault_15 rfl (by omega) rfl (fun pc1 => ?_) (fun pc1 => ?_)
    · refine g_bipush (v := iZ (-4)) (q := 55) dX4_firstFault_53 (by decide) rfl ?_
      refine z_iret dX4_firstFault_55 rfl ?_
      rw [hm]
      have e : mFlF L tx 0 p R = (-4, R) := rfl
      rw [e]; exact ⟨rfl, ⟨_, _, hR⟩, ⟨R, hJ, fun _ => rfl⟩, hF⟩
    · exfalso
      omega
  | succ n ih =>
    intro i p N R σ i0 i1 ip pL hm hP hR hT hJ hF
    refine g_iload_n (q := 12) dX4_firstFault_11 rfl rfl ?_
    refine g_sipush (v := iZ 200) (q := 15) dX4_firstFault_12 (by decide) rfl ?_
    refine z_icmp_ge (t := 53) (q := 18) dX4_firstFault_15 rfl (by omega) rfl (fun pc1 => ?_) (fun pc1 => ?_)
    · refine g_bipush (v := iZ (-4)) (q := 55) dX4_firstFault_53 (by decide) rfl ?_
      refine z_iret dX4_firstFault_55 rfl ?_
      rw [hm]
      have e : mFlF L tx (n + 1) p R = (-4, R) := by unfold mFlF; rw [if_pos (by omega)]
      rw [e]; exact ⟨rfl, ⟨_, _, hR⟩, ⟨R, hJ, fun _ => rfl⟩, hF⟩
    · refine g_aload_n (q := 19) dX4_firstFault_18 rfl rfl ?_
      refine g_get (q := 22) flX4_20 dX4_firstFault_19 hR.1 rfl rfl ?_
      refine g_aload_n (q := 23) dX4_firstFault_22 rfl rfl ?_
      refine g_get (q := 26) flX4_24 dX4_firstFault_23 hT.1 rfl rfl ?_
      refine z_icmp_ge (t := 53) (q := 29) dX4_firstFault_26 rfl (by omega) rfl (fun pc2 => ?_) (fun pc2 => ?_)
      · refine g_bipush (v := iZ (-4)) (q := 55) dX4_firstFault_53 (by decide) rfl ?_
        refine z_iret dX4_firstFault_55 rfl ?_
        rw [hm]
        have e : mFlF L tx (n + 1) p R = (-4, R) := by unfold mFlF; rw [if_pos (by omega)]
        rw [e]; exact ⟨rfl, ⟨_, _, hR⟩, ⟨R, hJ, fun _ => rfl⟩, hF⟩
      · refine g_aload_n (q := 30) dX4_firstFault_29 rfl rfl ?_
        refine g_get (q := 33) flX4_20 dX4_firstFault_30 hR.1 rfl rfl ?_
        refine g_istore (ml' := [some (.ref a), some (.ref t), some (.ref j), some (.int (iZ i)), some (.int (iZ p))]) (q := 35) dX4_firstFault_33 rfl (Nat.le_of_ble_eq_true rfl) rfl rfl ?_
        refine g_aload_n (q := 36) dX4_firstFault_35 rfl rfl ?_
        refine g_aload_n (q := 37) dX4_firstFault_36 rfl rfl ?_
        refine g_aload_n (q := 38) dX4_firstFault_37 rfl rfl ?_
        refine g_callV (As := [.ref t, .ref j]) (rest := []) (q := 41) moX4_takesItem lkX4_firstFault_29 dX4_firstFault_38 rfl hR.1 (r_takesItem σ a t hd p (by omega) N hR L tx hT hL ht j hd2 R hJ hP) rfl rfl (Nat.le_of_ble_eq_true rfl) (Nat.le_of_ble_eq_true rfl) (Nat.le_of_ble_eq_true rfl) rfl ?_
        rintro ri σi hpi
        rcases hpi with ⟨hok, rfl, ⟨N2, hR2⟩, hJ2, hF2⟩ | ⟨hok, rfl, hR2, ⟨R2, hJ2⟩, hF2⟩
        · show Go w mX4_firstFault (0, 0) 41 [some (.ref a), some (.ref t), some (.ref j), some (.int (iZ i)), some (.int (iZ p))] [.int (iZ 1)] σi (fun r σ' => r = some (.int (iZ (mFlF L tx 200 0 R0).1)) ∧ (∃ p' N', rRn a p' N' σ') ∧ (∃ R', rJob j R' σ' ∧ ((mFlF L tx 200 0 R0).1 = -4 → R' = (mFlF L tx 200 0 R0).2)) ∧ g_Fr (pAJ a j) σ0 σ')
          refine z_if_ne (t := 47) (q := 44) dX4_firstFault_41 rfl (by omega) rfl (fun pc3 => ?_) (fun pc3 => ?_)
          · refine z_iincc (c := (i + 1)) (ml' := [some (.ref a), some (.ref t), some (.ref j), some (.int (iZ (i + 1))), some (.int (iZ p))]) (q := 50) dX4_firstFault_47 rfl (by omega) rfl rfl rfl ?_
            refine g_goto (q := 11) dX4_firstFault_50 rfl ?_
            refine Go.wk (ml' := [some (.ref a), some (.ref t), some (.ref j), some (.int (iZ (i + 1))), none]) ⟨Or.inr rfl, Or.inr rfl, Or.inr rfl, Or.inr rfl, Or.inl rfl, trivial⟩ ?_
            have hI := pR_item ht (by omega) hP hok.1
            have hlt : (mItem L tx p R).2.1 < L := by
              have e59 := hok.2
              unfold mB at e59; split at e59 <;> omega
            refine ih (i + 1) ((mItem L tx p R).2.1 + 1) N2 (mItem L tx p R).2.2 σi (by omega) (by omega) (by omega) (by omega) ?_ hI.1 hR2 (hT.fr (fun k k0 k1 => hF2.2 k (fun e => by rcases e with e | e <;> (have := e.1; omega)))) hJ2 (hF.tr hF2)
            rw [hm]; conv => lhs; unfold mFlF
            rw [if_neg (by omega), if_neg]
            rintro (e | e)
            · exact hok.1 e
            · exact e hok.2
          · exfalso; omega
        · show Go w mX4_firstFault (0, 0) 41 [some (.ref a), some (.ref t), some (.ref j), some (.int (iZ i)), some (.int (iZ p))] [.int (iZ 0)] σi (fun r σ' => r = some (.int (iZ (mFlF L tx 200 0 R0).1)) ∧ (∃ p' N', rRn a p' N' σ') ∧ (∃ R', rJob j R' σ' ∧ ((mFlF L tx 200 0 R0).1 = -4 → R' = (mFlF L tx 200 0 R0).2)) ∧ g_Fr (pAJ a j) σ0 σ')
          refine z_if_ne (t := 47) (q := 44) dX4_firstFault_41 rfl (by omega) rfl (fun pc4 => ?_) (fun pc4 => ?_)
          · exfalso; omega
          · refine g_iload (q := 46) dX4_firstFault_44 rfl rfl ?_
            refine z_iret dX4_firstFault_46 rfl ?_
            rw [hm]
            have e : mFlF L tx (n + 1) p R = (p, (mItem L tx p R).2.2) := by
              unfold mFlF; rw [if_neg (by omega), if_pos]
              by_cases e1 : (mItem L tx p R).1 = 0
              · exact Or.inl e1
              · exact Or.inr (fun e2 => hok ⟨e1, e2⟩)
            rw [e]; exact ⟨rfl, hR2, ⟨R2, hJ2, fun e4 => by have e4 : p = -4 := e4; omega⟩, hF.tr hF2⟩
theorem r_firstFault (σ : g_H0) (a t j : Nat) (hd : t + 2 ≤ a) (hd2 : a + 2 ≤ j) (p : Int) (N : Int → Int) (hR : rRn a p N σ) (L : Int) (tx : Int → Int) (hT : rText t L tx σ) (hL : 0 ≤ L ∧ L ≤ 200) (ht : zBt L tx) (R : Int → Int) (hJ : rJob j R σ) (R0 : Int → Int) (hz : R0 0 = 0 ∧ R0 1 = 0 ∧ R0 2 = 0 ∧ R0 3 = 0 ∧ R0 4 = 0) (hP : pR R0) : Ret mX4_firstFault [.ref a, .ref t, .ref j] σ (fun r σ' => r = some (.int (iZ (mFlF L tx 200 0 R0).1)) ∧ (∃ p' N', rRn a p' N' σ') ∧ (∃ R', rJob j R' σ' ∧ ((mFlF L tx 200 0 R0).1 = -4 → R' = (mFlF L tx 200 0 R0).2)) ∧ g_Fr (pAJ a j) σ σ') := by
  refine Ret.of moX4_firstFault.1 (Nat.le_of_ble_eq_true rfl) (fun w => ?_)
  show Go w mX4_firstFault (0, 0) 0 [some (.ref a), some (.ref t), some (.ref j), none, none] [] σ (fun r σ' => r = some (.int (iZ (mFlF L tx 200 0 R0).1)) ∧ (∃ p' N', rRn a p' N' σ') ∧ (∃ R', rJob j R' σ' ∧ ((mFlF L tx 200 0 R0).1 = -4 → R' = (mFlF L tx 200 0 R0).2)) ∧ g_Fr (pAJ a j) σ σ')
  refine g_aload_n (q := 1) dX4_firstFault_0 rfl rfl ?_
  refine g_callV (As := []) (rest := []) (q := 4) moX2_clear lkX4_firstFault_15 dX4_firstFault_1 rfl hJ.1 (r_jclear σ j R hJ R0 hz) rfl rfl (Nat.le_of_ble_eq_true rfl) (Nat.le_of_ble_eq_true rfl) (Nat.le_of_ble_eq_true rfl) rfl ?_
  rintro rc σc ⟨rfl, hJc, hFc⟩
  have hRc : rRn a p N σc := hR.fr (fun k k0 k1 => hFc.2 k (fun e => by have := e.1; omega))
  have hTc : rText t L tx σc := hT.fr (fun k k0 k1 => hFc.2 k (fun e => by have := e.1; omega))
  show Go w mX4_firstFault (0, 0) 4 [some (.ref a), some (.ref t), some (.ref j), none, none] [] σc (fun r σ' => r = some (.int (iZ (mFlF L tx 200 0 R0).1)) ∧ (∃ p' N', rRn a p' N' σ') ∧ (∃ R', rJob j R' σ' ∧ ((mFlF L tx 200 0 R0).1 = -4 → R' = (mFlF L tx 200 0 R0).2)) ∧ g_Fr (pAJ a j) σ σ')
  refine g_aload_n (q := 5) dX4_firstFault_4 rfl rfl ?_
  refine z_iconst (q := 6) dX4_firstFault_5 rfl ?_
  refine z_put (fs' := [.ref (a + 1), .int (iZ 0)]) (q := 9) fpX4_20 dX4_firstFault_6 hRc.1 (Nat.le_of_ble_eq_true rfl) rfl rfl rfl rfl (fun σ1 c2 f3 => ?_)
  have c4 := (f3.2 (a + 1) (by omega)).trans hRc.2
  refine z_iconst (q := 10) dX4_firstFault_9 rfl ?_
  refine g_istore_n (ml' := [some (.ref a), some (.ref t), some (.ref j), some (.int (iZ 0)), none]) (q := 11) dX4_firstFault_10 rfl (Nat.le_of_ble_eq_true rfl) rfl rfl ?_
  have hRd : rRn a 0 N σ1 := ⟨c2, c4⟩
  exact l_firstFault w σ a t j hd hd2 L tx hL ht R0 200 0 0 N R0 σ1 (by omega) (by omega) (by omega) (by omega) rfl hP hRd (hTc.fr (fun k k0 k1 => f3.2 k (by omega))) (hJc.fr (fun k k0 k1 => f3.2 k (by omega))) ((hFc.wk (fun k e => Or.inr e)).tr (f3.wk (fun k e => Or.inl ⟨by omega, by omega⟩)))
