def wkF (T S Fe Wy : Int → Int) : Nat → Int → Int → Int → Int → (Int → Int) → (Int → Int) → Int × Int × Int × (Int → Int)
  | 0, _, fo, bh, bt_, Be, _ => (fo, bh, bt_, Be)
  | m + 1, mask, fo, bh, bt_, Be, Tr =>
    if (tsQ T S Fe Wy mask Tr).1 = 0 then wkF T S Fe Wy m (mask + 1) fo bh bt_ Be (tsQ T S Fe Wy mask Tr).2.2
    else if fo = 0 ∨ btrQ (T 3) (tsQ T S Fe Wy mask Tr).2.1 (cTt (T 2) (S 150) mask) bh bt_ (tsQ T S Fe Wy mask Tr).2.2 Be ≠ 0 then wkF T S Fe Wy m (mask + 1) 1 (tsQ T S Fe Wy mask Tr).2.1 (cTt (T 2) (S 150) mask) (zcp Be (tsQ T S Fe Wy mask Tr).2.2 0 0 5) (tsQ T S Fe Wy mask Tr).2.2
    else wkF T S Fe Wy m (mask + 1) fo bh bt_ Be (tsQ T S Fe Wy mask Tr).2.2
theorem tfF_w {Fe Wy : Int → Int} {k mask n : Int} {lo hi : Int} (bW : ∀ s, 0 ≤ s → s < n → lo ≤ Wy (6 * k + s) ∧ Wy (6 * k + s) ≤ hi) : ∀ (m : Nat) (s : Int) (r : Int × Int), 0 ≤ s → s + m ≤ n → (lo ≤ r.2 ∧ r.2 ≤ hi) → lo ≤ (tfF Fe Wy k mask m s r).2 ∧ (tfF Fe Wy k mask m s r).2 ≤ hi
  | 0, s, r, _, _, h => h
  | m + 1, s, r, h0, h1, h => by
    unfold tfF
    refine tfF_w bW m (s + 1) _ (by omega) (by omega) ?_
    split
    · exact bW s h0 (by omega)
    · exact h
theorem tsF_01 (T S Fe Wy : Int → Int) (mask : Int) : ∀ (m : Nat) (k th : Int) (Tr : Int → Int), 0 ≤ (tsF T S Fe Wy mask m k th Tr).1 ∧ (tsF T S Fe Wy mask m k th Tr).1 ≤ 1
  | 0, k, th, Tr => by show (0 : Int) ≤ 1 ∧ (1 : Int) ≤ 1; omega
  | m + 1, k, th, Tr => by
    unfold tsF
    split
    · exact tsF_01 T S Fe Wy mask m _ _ _
    · split
      · show (0 : Int) ≤ 0 ∧ (0 : Int) ≤ 1; omega
      · exact tsF_01 T S Fe Wy mask m _ _ _
theorem tsF_b {T S Fe Wy : Int → Int} {mask : Int} (h2 : 0 ≤ T 2) (bF : ∀ k s, 0 ≤ k → k < T 3 → 0 ≤ s → s < T 2 → 0 ≤ Fe (6 * k + s) ∧ Fe (6 * k + s) ≤ 1000) (bW : ∀ k s, 0 ≤ k → k < T 3 → 0 ≤ s → s < T 2 → -4 ≤ Wy (6 * k + s) ∧ Wy (6 * k + s) ≤ 100) : ∀ (m : Nat) (k th : Int) (Tr : Int → Int), 0 ≤ k → k + m = T 3 → 0 ≤ th → (∀ i, 0 ≤ i → i < k → -4 ≤ Tr i ∧ Tr i ≤ 100) → (tsF T S Fe Wy mask m k th Tr).1 ≠ 0 → (0 ≤ (tsF T S Fe Wy mask m k th Tr).2.1 ∧ (tsF T S Fe Wy mask m k th Tr).2.1 ≤ th + 1000 * m) ∧ ∀ i, 0 ≤ i → i < T 3 → -4 ≤ (tsF T S Fe Wy mask m k th Tr).2.2 i ∧ (tsF T S Fe Wy mask m k th Tr).2.2 i ≤ 100
  | 0, k, th, Tr, _, h1, ht, hT, _ => ⟨by show 0 ≤ th ∧ th ≤ th + 1000 * ((0 : Nat) : Int); omega, fun i i0 i1 => hT i i0 (by omega)⟩
  | m + 1, k, th, Tr, h0, h1, ht, hT, hn => by
    have bq := tfQ_b (Wy := Wy) (mask := mask) (n := T 2) (k := k) h2 (fun s s0 s1 => bF k s h0 (by omega) s0 s1)
    have bw := tfF_w (Fe := Fe) (Wy := Wy) (k := k) (mask := mask) (n := T 2) (lo := -4) (hi := 100) (fun s s0 s1 => bW k s h0 (by omega) s0 s1) (T 2).toNat 0 (0, -4) (by omega) (by omega) (by show (-4 : Int) ≤ -4 ∧ (-4 : Int) ≤ 100; omega)
    unfold tsF at hn ⊢
    by_cases c1 : cOpen T S k = 0
    · rw [if_pos c1] at hn ⊢
      have := tsF_b h2 bF bW m (k + 1) th _ (by omega) (by omega) ht (fun i i0 i1 => by
        by_cases e : i = k
        · subst e; rw [zup_self]; omega
        · rw [zup_ne _ _ e]; exact hT i i0 (by omega)) hn
      exact ⟨by omega, this.2⟩
    · rw [if_neg c1] at hn ⊢
      by_cases c2 : (tfQ Fe Wy (T 2) k mask).1 = 0
      · rw [if_pos c2] at hn; exact absurd rfl hn
      · rw [if_neg c2] at hn ⊢
        have := tsF_b h2 bF bW m (k + 1) (th + (tfQ Fe Wy (T 2) k mask).1) _ (by omega) (by omega) (by omega) (fun i i0 i1 => by
          rw [zup_zup]
          by_cases e : i = k
          · subst e; rw [zup_self]; exact bw
          · rw [zup_ne _ _ e]; exact hT i i0 (by omega)) hn
        exact ⟨by omega, this.2⟩
theorem cTtF_b {n here mask : Int} (hn : n ≤ 6) : ∀ (m : Nat) (up f : Int), 0 ≤ up → up + m ≤ n → 0 ≤ f ∧ f ≤ 6 → 0 ≤ cTtF n here mask m up f ∧ cTtF n here mask m up f ≤ 6
  | 0, up, f, _, _, h => h
  | m + 1, up, f, h0, h1, h => by
    unfold cTtF
    have b := cDbF_b (n := n) (here := here) (mask := mask) (n - (up + 1)).toNat (up + 1) (by omega) (by omega)
    have b2 : 0 ≤ cDb n here mask up := b.1
    have z1 := zmin_c up (cDb n here mask up)
    have z2 := zmin_c f (up + cDb n here mask up + zmin up (cDb n here mask up))
    exact cTtF_b hn m (up + 1) _ (by omega) (by omega) (by omega)
theorem lexF_b (Tr Be : Int → Int) : ∀ (m : Nat) (k : Int), 0 ≤ lexF Tr Be m k ∧ lexF Tr Be m k ≤ 1
  | 0, k => by unfold lexF; omega
  | m + 1, k => by
    unfold lexF
    split
    · exact lexF_b Tr Be m (k + 1)
    · split <;> omega
theorem btrQ_b (h th turns bh bt_ : Int) (Tr Be : Int → Int) : 0 ≤ btrQ h th turns bh bt_ Tr Be ∧ btrQ h th turns bh bt_ Tr Be ≤ 1 := by
  unfold btrQ
  split
  · split <;> omega
  · split
    · split <;> omega
    · exact lexF_b Tr Be _ _
theorem l_work (w : g_W) (σ0 : g_H0) (a b j : Nat) (hd : b + 4 ≤ a) (hd2 : a + 5 ≤ j) (T S : Int → Int) (wT : wfT T) (wS : wfS T S) (Fe Wy : Int → Int) (bF : ∀ k s, 0 ≤ k → k < T 3 → 0 ≤ s → s < T 2 → 0 ≤ Fe (6 * k + s) ∧ Fe (6 * k + s) ≤ 1000) (bW : ∀ k s, 0 ≤ k → k < T 3 → 0 ≤ s → s < T 2 → -4 ≤ Wy (6 * k + s) ∧ Wy (6 * k + s) ≤ 100) (Q : Int × Int × Int × (Int → Int)) : ∀ (m : Nat) (mask fo bh bt_ tH : Int) (Be Tr : Int → Int) (σ : g_H0), 0 ≤ mask → mask + m = pw (T 2) → (0 ≤ fo ∧ fo ≤ 1) → (fo ≠ 0 → (-10000 ≤ bh ∧ bh ≤ 10000) ∧ (-10000 ≤ bt_ ∧ bt_ ≤ 10000) ∧ ∀ k, 0 ≤ k → k < T 3 → -1000 ≤ Be k ∧ Be k ≤ 1000) → wkF T S Fe Wy m mask fo bh bt_ Be Tr = Q → rPl a Fe Wy Tr Be tH bh bt_ fo σ → rJob j T σ → rSt b T S σ → g_Fr (pP a) σ0 σ → Go w mX3_work (0, 0) 12 [some (.ref a), some (.ref j), some (.ref b), some (.int (iZ mask)), none] [] σ (fun r σ' => r = none ∧ (∃ (Tr' : Int → Int) (tH' : Int), rPl a Fe Wy Tr' Q.2.2.2 tH' Q.2.1 Q.2.2.1 Q.1 σ') ∧ g_Fr (pP a) σ0 σ') := by
  intro m
  induction m with
  | zero =>
    intro mask fo bh bt_ tH Be Tr σ m0 m1 bfo hB hQ hPl hJ hS hF
    obtain ⟨p0, p1, p2, p3, p4⟩ := id hPl
    obtain ⟨bT, t0, t1, t2, t3, t4, tt, th, tap, tcl, tc2⟩ := id wT
    obtain ⟨w1, w2, w3, w4, w5, w6⟩ := id wS
    have pb := pw_b (b := T 2) (by omega)
    refine g_iload_n (q := 13) dX3_work_12 rfl rfl ?_
    refine z_iconst (q := 14) dX3_work_13 rfl ?_
    refine g_aload_n (q := 15) dX3_work_14 rfl rfl ?_
    refine g_get (q := 18) flX3_32 dX3_work_15 hJ.1 rfl rfl ?_
    refine z_shl1 (q := 19) dX3_work_18 (by omega) rfl ?_
    have b1 := pw_b (b := (T 2)) (by omega)
    refine z_icmp_ge (t := 78) (q := 22) dX3_work_19 rfl (by omega) rfl (fun pc2 => ?_) (fun pc2 => ?_)
    · refine z_vret dX3_work_78 rfl ?_
      rw [← hQ]
      exact ⟨rfl, ⟨Tr, tH, hPl⟩, hF⟩
    · exfalso
      omega
  | succ m ih =>
    intro mask fo bh bt_ tH Be Tr σ m0 m1 bfo hB hQ hPl hJ hS hF
    obtain ⟨p0, p1, p2, p3, p4⟩ := id hPl
    obtain ⟨bT, t0, t1, t2, t3, t4, tt, th, tap, tcl, tc2⟩ := id wT
    obtain ⟨w1, w2, w3, w4, w5, w6⟩ := id wS
    have pb := pw_b (b := T 2) (by omega)
    refine g_iload_n (q := 13) dX3_work_12 rfl rfl ?_
    refine z_iconst (q := 14) dX3_work_13 rfl ?_
    refine g_aload_n (q := 15) dX3_work_14 rfl rfl ?_
    refine g_get (q := 18) flX3_32 dX3_work_15 hJ.1 rfl rfl ?_
    refine z_shl1 (q := 19) dX3_work_18 (by omega) rfl ?_
    have b1 := pw_b (b := (T 2)) (by omega)
    refine z_icmp_ge (t := 78) (q := 22) dX3_work_19 rfl (by omega) rfl (fun pc2 => ?_) (fun pc2 => ?_)
    · exfalso
      omega
    · refine g_aload_n (q := 23) dX3_work_22 rfl rfl ?_
      refine g_aload_n (q := 24) dX3_work_23 rfl rfl ?_
      refine g_aload_n (q := 25) dX3_work_24 rfl rfl ?_
      refine g_iload_n (q := 26) dX3_work_25 rfl rfl ?_
      obtain ⟨q, hq⟩ : ∃ q, q = tsQ T S Fe Wy mask Tr := ⟨_, rfl⟩
      have q01 : 0 ≤ q.1 ∧ q.1 ≤ 1 := by rw [hq]; exact tsF_01 _ _ _ _ _ _ _ _ _
      refine g_callV (As := [.ref j, .ref b, .int (iZ mask)]) (rest := []) (q := 29) moX3_triesSet lkX3_work_38 dX3_work_26 rfl p0 (r_triesSet σ a b j hd hd2 T S wT wS Fe Wy Be bh bt_ fo mask (by omega) bF Tr tH hPl hJ hS) rfl rfl (Nat.le_of_ble_eq_true rfl) (Nat.le_of_ble_eq_true rfl) (Nat.le_of_ble_eq_true rfl) rfl ?_
      rintro rt σt ⟨hrt, hPt, hFt⟩
      rw [← hq] at hrt hPt
      subst hrt
      obtain ⟨t_0, t_1, t_2, t_3, t_4⟩ := id hPt
      have hJt : rJob j T σt := hJ.fr (fun k k0 k1 => hFt.2 k (fun e => by have := e.1; have := e.2; omega))
      have hSt : rSt b T S σt := hS.fr (fun k k0 k1 => hFt.2 k (fun e => by have := e.1; have := e.2; omega))
      show Go w mX3_work (0, 0) 29 [some (.ref a), some (.ref j), some (.ref b), some (.int (iZ mask)), none] [.int (iZ q.1)] σt (fun r σ' => r = none ∧ (∃ (Tr' : Int → Int) (tH' : Int), rPl a Fe Wy Tr' Q.2.2.2 tH' Q.2.1 Q.2.2.1 Q.1 σ') ∧ g_Fr (pP a) σ0 σ')
      refine z_if_ne (t := 35) (q := 32) dX3_work_29 rfl (by omega) rfl (fun pc3 => ?_) (fun pc3 => ?_)
      · have tb := tsF_b (mask := mask) (by omega) bF bW (T 3).toNat 0 0 Tr (by omega) (by omega) (by omega) (fun i i0 i1 => by omega) (show (tsQ T S Fe Wy mask Tr).1 ≠ 0 by rw [← hq]; omega)
        replace tb : (0 ≤ (tsQ T S Fe Wy mask Tr).2.1 ∧ (tsQ T S Fe Wy mask Tr).2.1 ≤ 0 + 1000 * ((T 3).toNat : Int)) ∧ ∀ i, 0 ≤ i → i < T 3 → -4 ≤ (tsQ T S Fe Wy mask Tr).2.2 i ∧ (tsQ T S Fe Wy mask Tr).2.2 i ≤ 100 := tb
        rw [← hq] at tb
        obtain ⟨tb1, tb2⟩ := tb
        refine g_aload_n (q := 36) dX3_work_35 rfl rfl ?_
        refine g_aload_n (q := 37) dX3_work_36 rfl rfl ?_
        refine g_get (q := 40) flX3_42 dX3_work_37 hSt.1 rfl rfl ?_
        refine g_iload_n (q := 41) dX3_work_40 rfl rfl ?_
        refine g_callV (As := [.int (iZ (S 150)), .int (iZ mask)]) (rest := []) (q := 44) moX2_turnsThrough lkX3_work_47 dX3_work_41 rfl hJt.1 (r_turnsThrough σt j T hJt wT (S 150) mask (by omega) (by omega)) rfl rfl (Nat.le_of_ble_eq_true rfl) (Nat.le_of_ble_eq_true rfl) (Nat.le_of_ble_eq_true rfl) rfl ?_
        rintro rQ sQ hpQ
        rw [hpQ.1, hpQ.2]
        show Go w mX3_work (0, 0) 44 [some (.ref a), some (.ref j), some (.ref b), some (.int (iZ mask)), none] [.int (iZ (cTt (T 2) (S 150) mask))] σt (fun r σ' => r = none ∧ (∃ (Tr' : Int → Int) (tH' : Int), rPl a Fe Wy Tr' Q.2.2.2 tH' Q.2.1 Q.2.2.1 Q.1 σ') ∧ g_Fr (pP a) σ0 σ')
        have tt6 : 0 ≤ cTt (T 2) (S 150) mask ∧ cTt (T 2) (S 150) mask ≤ 6 := cTtF_b (by omega) _ _ _ (by omega) (by omega) (by omega)
        refine g_istore (ml' := [some (.ref a), some (.ref j), some (.ref b), some (.int (iZ mask)), some (.int (iZ (cTt (T 2) (S 150) mask)))]) (q := 46) dX3_work_44 rfl (Nat.le_of_ble_eq_true rfl) rfl rfl ?_
        refine g_aload_n (q := 47) dX3_work_46 rfl rfl ?_
        refine g_get (q := 50) flX3_24 dX3_work_47 t_0 rfl rfl ?_
        refine z_if_eq (t := 66) (q := 53) dX3_work_50 rfl (by omega) rfl (fun pc4 => ?_) (fun pc4 => ?_)
        · refine g_aload_n (q := 67) dX3_work_66 rfl rfl ?_
          refine g_iload (q := 69) dX3_work_67 rfl rfl ?_
          refine g_callV (As := [.int (iZ (cTt (T 2) (S 150) mask))]) (rest := []) (q := 72) moX3_keepTried lkX3_work_58 dX3_work_69 rfl t_0 (r_keepTried σt a Fe Wy q.2.2 Be q.2.1 bh bt_ fo hPt (cTt (T 2) (S 150) mask)) rfl rfl (Nat.le_of_ble_eq_true rfl) (Nat.le_of_ble_eq_true rfl) (Nat.le_of_ble_eq_true rfl) rfl ?_
          rintro rk σk ⟨rfl, hPk, hFk⟩
          show Go w mX3_work (0, 0) 72 [some (.ref a), some (.ref j), some (.ref b), some (.int (iZ mask)), some (.int (iZ (cTt (T 2) (S 150) mask)))] [] σk (fun r σ' => r = none ∧ (∃ (Tr' : Int → Int) (tH' : Int), rPl a Fe Wy Tr' Q.2.2.2 tH' Q.2.1 Q.2.2.1 Q.1 σ') ∧ g_Fr (pP a) σ0 σ')
          refine z_iincc (c := (mask + 1)) (ml' := [some (.ref a), some (.ref j), some (.ref b), some (.int (iZ (mask + 1))), some (.int (iZ (cTt (T 2) (S 150) mask)))]) (q := 75) dX3_work_72 rfl (by omega) rfl rfl rfl ?_
          refine g_goto (q := 12) dX3_work_75 rfl ?_
          refine Go.wk (ml' := [some (.ref a), some (.ref j), some (.ref b), some (.int (iZ (mask + 1))), none]) ⟨Or.inr rfl, Or.inr rfl, Or.inr rfl, Or.inr rfl, Or.inl rfl, trivial⟩ ?_
          refine ih (mask + 1) 1 q.2.1 (cTt (T 2) (S 150) mask) q.2.1 (zcp Be q.2.2 0 0 5) q.2.2 σk (by omega) (by omega) (by omega) (fun _ => ⟨by omega, by omega, fun k k0 k1 => ?_⟩) ?_ hPk (hJt.fr (fun k k0 k1 => hFk.2 k (fun e => by have := e.1; have := e.2; omega))) (hSt.fr (fun k k0 k1 => hFk.2 k (fun e => by have := e.1; have := e.2; omega))) ((hF.tr hFt).tr hFk)
          · unfold zcp; rw [if_pos (by omega), Int.add_zero]; have := tb2 k k0 k1; omega
          · rw [← hQ]; conv => rhs; unfold wkF
            rw [← hq, if_neg (by omega), if_pos (by omega)]
        · refine g_aload_n (q := 54) dX3_work_53 rfl rfl ?_
          refine g_aload_n (q := 55) dX3_work_54 rfl rfl ?_
          refine g_get (q := 58) flX3_51 dX3_work_55 hJt.1 rfl rfl ?_
          refine g_iload (q := 60) dX3_work_58 rfl rfl ?_
          obtain ⟨b1_, b2_, b3_⟩ := hB (by omega)
          refine g_callV (As := [.int (iZ (T 3)), .int (iZ (cTt (T 2) (S 150) mask))]) (rest := []) (q := 63) moX3_isBetter lkX3_work_54 dX3_work_60 rfl t_0 (r_isBetter σt a Fe Wy q.2.2 Be q.2.1 bh bt_ fo hPt (T 3) (cTt (T 2) (S 150) mask) (by omega) (by omega) (by omega) (by omega) (by omega) (fun k k0 k1 => by have := tb2 k k0 k1; omega) (fun k k0 k1 => by have := b3_ k k0 k1; omega)) rfl rfl (Nat.le_of_ble_eq_true rfl) (Nat.le_of_ble_eq_true rfl) (Nat.le_of_ble_eq_true rfl) rfl ?_
          rintro rQ sQ hpQ
          rw [hpQ.1, hpQ.2]
          show Go w mX3_work (0, 0) 63 [some (.ref a), some (.ref j), some (.ref b), some (.int (iZ mask)), some (.int (iZ (cTt (T 2) (S 150) mask)))] [.int (iZ (btrQ (T 3) q.2.1 (cTt (T 2) (S 150) mask) bh bt_ q.2.2 Be))] σt (fun r σ' => r = none ∧ (∃ (Tr' : Int → Int) (tH' : Int), rPl a Fe Wy Tr' Q.2.2.2 tH' Q.2.1 Q.2.2.1 Q.1 σ') ∧ g_Fr (pP a) σ0 σ')
          have bb := btrQ_b (T 3) q.2.1 (cTt (T 2) (S 150) mask) bh bt_ q.2.2 Be
          refine z_if_eq (t := 72) (q := 66) dX3_work_63 rfl (by omega) rfl (fun pc5 => ?_) (fun pc5 => ?_)
          · refine z_iincc (c := (mask + 1)) (ml' := [some (.ref a), some (.ref j), some (.ref b), some (.int (iZ (mask + 1))), some (.int (iZ (cTt (T 2) (S 150) mask)))]) (q := 75) dX3_work_72 rfl (by omega) rfl rfl rfl ?_
            refine g_goto (q := 12) dX3_work_75 rfl ?_
            refine Go.wk (ml' := [some (.ref a), some (.ref j), some (.ref b), some (.int (iZ (mask + 1))), none]) ⟨Or.inr rfl, Or.inr rfl, Or.inr rfl, Or.inr rfl, Or.inl rfl, trivial⟩ ?_
            refine ih (mask + 1) fo bh bt_ q.2.1 Be q.2.2 σt (by omega) (by omega) bfo hB ?_ hPt hJt hSt (hF.tr hFt)
            rw [← hQ]; conv => rhs; unfold wkF
            first | rw [← hq, if_pos (by omega)] | rw [← hq, if_neg (by omega), if_neg (by omega)]
          · refine g_aload_n (q := 67) dX3_work_66 rfl rfl ?_
            refine g_iload (q := 69) dX3_work_67 rfl rfl ?_
            refine g_callV (As := [.int (iZ (cTt (T 2) (S 150) mask))]) (rest := []) (q := 72) moX3_keepTried lkX3_work_58 dX3_work_69 rfl t_0 (r_keepTried σt a Fe Wy q.2.2 Be q.2.1 bh bt_ fo hPt (cTt (T 2) (S 150) mask)) rfl rfl (Nat.le_of_ble_eq_true rfl) (Nat.le_of_ble_eq_true rfl) (Nat.le_of_ble_eq_true rfl) rfl ?_
            rintro rk σk ⟨rfl, hPk, hFk⟩
            show Go w mX3_work (0, 0) 72 [some (.ref a), some (.ref j), some (.ref b), some (.int (iZ mask)), some (.int (iZ (cTt (T 2) (S 150) mask)))] [] σk (fun r σ' => r = none ∧ (∃ (Tr' : Int → Int) (tH' : Int), rPl a Fe Wy Tr' Q.2.2.2 tH' Q.2.1 Q.2.2.1 Q.1 σ') ∧ g_Fr (pP a) σ0 σ')
            refine z_iincc (c := (mask + 1)) (ml' := [some (.ref a), some (.ref j), some (.ref b), some (.int (iZ (mask + 1))), some (.int (iZ (cTt (T 2) (S 150) mask)))]) (q := 75) dX3_work_72 rfl (by omega) rfl rfl rfl ?_
            refine g_goto (q := 12) dX3_work_75 rfl ?_
            refine Go.wk (ml' := [some (.ref a), some (.ref j), some (.ref b), some (.int (iZ (mask + 1))), none]) ⟨Or.inr rfl, Or.inr rfl, Or.inr rfl, Or.inr rfl, Or.inl rfl, trivial⟩ ?_
            refine ih (mask + 1) 1 q.2.1 (cTt (T 2) (S 150) mask) q.2.1 (zcp Be q.2.2 0 0 5) q.2.2 σk (by omega) (by omega) (by omega) (fun _ => ⟨by omega, by omega, fun k k0 k1 => ?_⟩) ?_ hPk (hJt.fr (fun k k0 k1 => hFk.2 k (fun e => by have := e.1; have := e.2; omega))) (hSt.fr (fun k k0 k1 => hFk.2 k (fun e => by have := e.1; have := e.2; omega))) ((hF.tr hFt).tr hFk)
            · unfold zcp; rw [if_pos (by omega), Int.add_zero]; have := tb2 k k0 k1; omega
            · rw [← hQ]; conv => rhs; unfold wkF
              rw [← hq, if_neg (by omega), if_pos (by omega)]
      · refine g_goto (q := 72) dX3_work_32 rfl ?_
        refine z_iincc (c := (mask + 1)) (ml' := [some (.ref a), some (.ref j), some (.ref b), some (.int (iZ (mask + 1))), none]) (q := 75) dX3_work_72 rfl (by omega) rfl rfl rfl ?_
        refine g_goto (q := 12) dX3_work_75 rfl ?_
        refine ih (mask + 1) fo bh bt_ q.2.1 Be q.2.2 σt (by omega) (by omega) bfo hB ?_ hPt hJt hSt (hF.tr hFt)
        rw [← hQ]; conv => rhs; unfold wkF
        first | rw [← hq, if_pos (by omega)] | rw [← hq, if_neg (by omega), if_neg (by omega)]
/-- the rows that are weighed -/
def wFe (T Fe Wy : Int → Int) : Int → Int := (wwO T (T 3).toNat 0 Fe Wy).1
def wWy (T Fe Wy : Int → Int) : Int → Int := (wwO T (T 3).toNat 0 Fe Wy).2
theorem wFe_at {T : Int → Int} (wT : wfT T) (Fe Wy : Int → Int) {k s : Int} (hk : 0 ≤ k ∧ k < T 3) (hs : 0 ≤ s ∧ s < T 2) : wFe T Fe Wy (6 * k + s) = cFew T k s ∧ wWy T Fe Wy (6 * k + s) = cWay T k s := by
  have t2 := wT.2.2.2.1
  have := wwO_at t2 (T 3).toNat 0 Fe Wy k s hs.1 hs.2
  rw [if_pos (by omega), if_pos (by omega)] at this
  exact this
theorem cFew_b {T : Int → Int} (wT : wfT T) {k s : Int} (hk : 0 ≤ k ∧ k < T 3) (hs : 0 ≤ s ∧ s < T 2) : (0 ≤ cFew T k s ∧ cFew T k s ≤ 144) ∧ (0 ≤ cWay T k s ∧ cWay T k s ≤ 11) := by
  have t2 := wT.2.2.2.1
  have b0 := cS_b wT (t := 0) hk hs
  have b1 := cS_b wT (t := 1) hk hs
  unfold cFew cWay
  constructor
  · split <;> omega
  · split <;> omega
def cPlanQ (T S Fe Wy Be Tr : Int → Int) (bh bt_ : Int) : Int × Int × Int × (Int → Int) := wkF T S (wFe T Fe Wy) (wWy T Fe Wy) (pw (T 2)).toNat 0 0 bh bt_ Be Tr
theorem r_work (σ : g_H0) (a b j : Nat) (hd : b + 4 ≤ a) (hd2 : a + 5 ≤ j) (T S : Int → Int) (wT : wfT T) (wS : wfS T S) (Fe Wy Tr Be : Int → Int) (tH bh bt_ fo : Int) (hPl : rPl a Fe Wy Tr Be tH bh bt_ fo σ) (hJ : rJob j T σ) (hS : rSt b T S σ) : Ret mX3_work [.ref a, .ref j, .ref b] σ (fun r σ' => r = none ∧ (∃ (Fe' Wy' Tr' : Int → Int) (tH' : Int), rPl a Fe' Wy' Tr' (cPlanQ T S Fe Wy Be Tr bh bt_).2.2.2 tH' (cPlanQ T S Fe Wy Be Tr bh bt_).2.1 (cPlanQ T S Fe Wy Be Tr bh bt_).2.2.1 (cPlanQ T S Fe Wy Be Tr bh bt_).1 σ') ∧ g_Fr (pP a) σ σ') := by
  refine Ret.of moX3_work.1 (Nat.le_of_ble_eq_true rfl) (fun w => ?_)
  obtain ⟨p0, p1, p2, p3, p4⟩ := id hPl
  obtain ⟨bT, t0, t1, t2, t3, t4, tt, th, tap, tcl, tc2⟩ := id wT
  show Go w mX3_work (0, 0) 0 [some (.ref a), some (.ref j), some (.ref b), none, none] [] σ (fun r σ' => r = none ∧ (∃ (Fe' Wy' Tr' : Int → Int) (tH' : Int), rPl a Fe' Wy' Tr' (cPlanQ T S Fe Wy Be Tr bh bt_).2.2.2 tH' (cPlanQ T S Fe Wy Be Tr bh bt_).2.1 (cPlanQ T S Fe Wy Be Tr bh bt_).2.2.1 (cPlanQ T S Fe Wy Be Tr bh bt_).1 σ') ∧ g_Fr (pP a) σ σ')
  refine g_aload_n (q := 1) dX3_work_0 rfl rfl ?_
  refine z_iconst (q := 2) dX3_work_1 rfl ?_
  refine z_put (fs' := [.ref (a + 1), .ref (a + 2), .ref (a + 3), .int (iZ tH), .ref (a + 4), .int (iZ bh), .int (iZ bt_), .int (iZ 0)]) (q := 5) fpX3_24 dX3_work_2 p0 (Nat.le_of_ble_eq_true rfl) rfl rfl rfl rfl (fun σ1 c2 f3 => ?_)
  have c4 := (f3.2 (a + 1) (by omega)).trans p1
  have c5 := (f3.2 (a + 2) (by omega)).trans p2
  have c6 := (f3.2 (a + 3) (by omega)).trans p3
  have c7 := (f3.2 (a + 4) (by omega)).trans p4
  refine g_aload_n (q := 6) dX3_work_5 rfl rfl ?_
  refine g_aload_n (q := 7) dX3_work_6 rfl rfl ?_
  have hPz : rPl a Fe Wy Tr Be tH bh bt_ 0 σ1 := ⟨c2, c4, c5, c6, c7⟩
  have hJz : rJob j T σ1 := hJ.fr (fun k k0 k1 => f3.2 k (by omega))
  have hSz : rSt b T S σ1 := hS.fr (fun k k0 k1 => f3.2 k (by omega))
  refine g_callV (As := [.ref j]) (rest := []) (q := 10) moX3_weighWays lkX3_work_28 dX3_work_7 rfl c2 (r_weighWays σ1 a j hd2 T wT Fe Wy Tr Be tH bh bt_ 0 hPz hJz) rfl rfl (Nat.le_of_ble_eq_true rfl) (Nat.le_of_ble_eq_true rfl) (Nat.le_of_ble_eq_true rfl) rfl ?_
  rintro rw_ σw ⟨rfl, hPw, hFw⟩
  have hJw : rJob j T σw := hJz.fr (fun k k0 k1 => hFw.2 k (fun e => by have := e.1; have := e.2; omega))
  have hSw : rSt b T S σw := hSz.fr (fun k k0 k1 => hFw.2 k (fun e => by have := e.1; have := e.2; omega))
  show Go w mX3_work (0, 0) 10 [some (.ref a), some (.ref j), some (.ref b), none, none] [] σw (fun r σ' => r = none ∧ (∃ (Fe' Wy' Tr' : Int → Int) (tH' : Int), rPl a Fe' Wy' Tr' (cPlanQ T S Fe Wy Be Tr bh bt_).2.2.2 tH' (cPlanQ T S Fe Wy Be Tr bh bt_).2.1 (cPlanQ T S Fe Wy Be Tr bh bt_).2.2.1 (cPlanQ T S Fe Wy Be Tr bh bt_).1 σ') ∧ g_Fr (pP a) σ σ')
  refine z_iconst (q := 11) dX3_work_10 rfl ?_
  refine g_istore_n (ml' := [some (.ref a), some (.ref j), some (.ref b), some (.int (iZ 0)), none]) (q := 12) dX3_work_11 rfl (Nat.le_of_ble_eq_true rfl) rfl rfl ?_
  exact (l_work w σ a b j hd hd2 T S wT wS (wFe T Fe Wy) (wWy T Fe Wy) (fun k s k0 k1 s0 s1 => by rw [(wFe_at wT Fe Wy ⟨k0, k1⟩ ⟨s0, s1⟩).1]; have := cFew_b wT (k := k) (s := s) ⟨k0, k1⟩ ⟨s0, s1⟩; omega) (fun k s k0 k1 s0 s1 => by rw [(wFe_at wT Fe Wy ⟨k0, k1⟩ ⟨s0, s1⟩).2]; have := cFew_b wT (k := k) (s := s) ⟨k0, k1⟩ ⟨s0, s1⟩; omega) (cPlanQ T S Fe Wy Be Tr bh bt_) (pw (T 2)).toNat 0 0 bh bt_ tH Be Tr σw (by omega) (by have := pw_b (b := T 2) (by omega); omega) (by omega) (fun e => absurd rfl e) rfl hPw hJw hSw ((f3.wk (fun k e => ⟨by omega, by omega⟩)).tr hFw)).mono (fun r s2 hp => ⟨hp.1, by obtain ⟨T1, h2, h3⟩ := hp.2.1; exact ⟨_, _, T1, h2, h3⟩, hp.2.2⟩)
