def cPost (σ : g_H0) (v L : Int) (tx T S B : Int → Int) (n : Int) : g_Post := fun r σ' => r = some (.int (iZ v)) ∧ (∃ j d : Nat, rC j d L tx T S B n σ') ∧ g_Fr pC σ σ'
theorem rJob.congr {b : Nat} {R R' : Int → Int} {σ : g_H0} (h : rJob b R σ) (hb : (R 2 ≤ 6 ∧ R 3 ≤ 5) ∧ R 4 ≤ 2) (e : ∀ k, 0 ≤ k → k < 51 → R k = R' k) : rJob b R' σ := by
  obtain ⟨h1, h2, h3, h4, ⟨C, h5, h5'⟩, h6, h7⟩ := h
  rw [e 2 (by omega) (by omega), e 3 (by omega) (by omega), e 4 (by omega) (by omega)] at h1
  rw [e 0 (by omega) (by omega), e 1 (by omega) (by omega)] at h2
  have e2 := e 2 (by omega) (by omega)
  have e3 := e 3 (by omega) (by omega)
  have e4 := e 4 (by omega) (by omega)
  refine ⟨h1, h2, h3, h4, ⟨C, h5, fun c c0 c1 => (h5' c c0 (by omega)).trans (e _ (by omega) (by omega))⟩, fun k hk => ?_, fun k hk => ?_⟩
  · obtain ⟨x, y, l, c, q1, q2⟩ := h6 k hk
    refine ⟨x, y, l, c, q1, fun g => ?_⟩
    rw [← e _ (by omega) (by omega), ← e _ (by omega) (by omega), ← e _ (by omega) (by omega), ← e _ (by omega) (by omega)]
    exact q2 (by omega)
  · obtain ⟨x, y, l, c, q1, q2⟩ := h7 k hk
    refine ⟨x, y, l, c, q1, fun g => ?_⟩
    rw [← e _ (by omega) (by omega), ← e _ (by omega) (by omega), ← e _ (by omega) (by omega), ← e _ (by omega) (by omega)]
    exact q2 (by omega)
theorem r_C_why (σ : g_H0) (j d : Nat) (L : Int) (tx T S B : Int → Int) (n : Int) (hQ : rC j d L tx T S B n σ) (wT : wfT T) (wS : wfS T S) (k x y t : Int) (b_k : -2147483648 ≤ k ∧ k < 2147483648) (b_x : -2147483648 ≤ x ∧ x < 2147483648) (b_y : -2147483648 ≤ y ∧ y < 2147483648) (b_t : -2147483648 ≤ t ∧ t < 2147483648) : Ret mX8_why [.ref 0, .int (iZ k), .int (iZ x), .int (iZ y), .int (iZ t)] σ (cPost σ (mWhyQ T S k x y t) L tx T S B n) := by
  refine Ret.of moX8_why.1 (Nat.le_of_ble_eq_true rfl) (fun w => ?_)
  obtain ⟨hjd, c0, hT, ⟨rp, rN, hR⟩, hS, hS0, ⟨nx, hH⟩, ⟨Fe, Wy, Tr, Be, tH, pbh, pbt, pfo, hPl⟩, ⟨sx, sy, sw, sh, hA⟩, hJ, ⟨R0, hD⟩⟩ := id hQ
  obtain ⟨bT, t0, t1, t2, t3, t4, tt, th, tap, tcl, tc2⟩ := id wT
  obtain ⟨j0, j1, ⟨jf, j2, j2'⟩, ⟨jg, j3, j3'⟩, ⟨jC, j4, j4'⟩, j5, j6⟩ := id hJ
  obtain ⟨s0, C, W, K, s1, s2, s3, hC, hW, hK⟩ := id hS
  obtain ⟨w1, w2, w3, w4, w5, w6⟩ := id wS
  show Go w mX8_why (0, 0) 0 [some (.ref 0), some (.int (iZ k)), some (.int (iZ x)), some (.int (iZ y)), some (.int (iZ t))] [] σ (cPost σ (mWhyQ T S k x y t) L tx T S B n)
  refine g_aload_n (q := 1) dX8_why_0 rfl rfl ?_
  refine g_iload_n (q := 2) dX8_why_1 rfl rfl ?_
  refine g_iload_n (q := 3) dX8_why_2 rfl rfl ?_
  refine g_iload_n (q := 4) dX8_why_3 rfl rfl ?_
  refine g_iload (q := 6) dX8_why_4 rfl rfl ?_
  refine g_callV (As := [.int (iZ k), .int (iZ x), .int (iZ y), .int (iZ t)]) (rest := []) (q := 9) moX8_isHitTold lkX8_why_97 dX8_why_6 rfl c0 (r_C_isHitTold σ j d L tx T S B n hQ wT wS k x y t (by omega) (by omega) (by omega) (by omega)) rfl rfl (Nat.le_of_ble_eq_true rfl) (Nat.le_of_ble_eq_true rfl) (Nat.le_of_ble_eq_true rfl) rfl ?_
  rintro rQ sQ hpQ
  rw [hpQ.1, hpQ.2]
  show Go w mX8_why (0, 0) 9 [some (.ref 0), some (.int (iZ k)), some (.int (iZ x)), some (.int (iZ y)), some (.int (iZ t))] [.int (bI ((0 ≤ k ∧ k < T 2) ∧ (0 ≤ x ∧ x ≤ 99) ∧ (0 ≤ y ∧ y ≤ 99) ∧ (0 ≤ t ∧ t ≤ 1)))] σ (cPost σ (mWhyQ T S k x y t) L tx T S B n)
  refine z_ifB_ne (t := 14) (q := 12) dX8_why_9 rfl rfl (fun pc1 => ?_) (fun pc1 => ?_)
  · refine g_aload_n (q := 15) dX8_why_14 rfl rfl ?_
    refine g_get (q := 18) flX8_57 dX8_why_15 c0 rfl rfl ?_
    refine g_get (q := 21) flX8_101 dX8_why_18 j0 rfl rfl ?_
    refine g_iload_n (q := 22) dX8_why_21 rfl rfl ?_
    obtain ⟨f2, e2, g2, k2⟩ := hJ.tool (s := k) (by omega) (by omega) (by omega)
    have k2 : σ[(j + 5 + k.toNat)]? = some (.inr (7, [.int (iZ (T (4 * k + 5))), .int (iZ (T (4 * k + 6))), .int (iZ (T (4 * k + 8))), .int (iZ (T (4 * k + 7)))])) := k2
    have q2 := tt k (by omega) (by omega)
    refine z_aald (b := (j + 5 + k.toNat)) (q := 23) dX8_why_22 rfl e2 (by omega) g2 rfl ?_
    refine g_aload_n (q := 24) dX8_why_23 rfl rfl ?_
    refine g_get (q := 27) flX8_50 dX8_why_24 c0 rfl rfl ?_
    refine g_iload_n (q := 28) dX8_why_27 rfl rfl ?_
    refine g_iload_n (q := 29) dX8_why_28 rfl rfl ?_
    have J3 : ∀ z4 : Int, z4 = t → Go w mX8_why (0, 0) 40 [some (.ref 0), some (.int (iZ k)), some (.int (iZ x)), some (.int (iZ y)), some (.int (iZ t))] [.int (iZ z4), .int (iZ y), .int (iZ x), .ref 44, .ref (j + 5 + k.toNat)] σ (cPost σ (mWhyQ T S k x y t) L tx T S B n) := by
      intro z4 e5
      rw [e5]
      refine g_callV (As := [.ref 44, .int (iZ x), .int (iZ y), .int (iZ t)]) (rest := []) (q := 43) moX7_stampAt lkX8_why_105 dX8_why_40 rfl k2 (r_stampAt σ (j + 5 + k.toNat) 44 (by omega) (T (4 * k + 5)) (T (4 * k + 6)) (T (4 * k + 8)) (T (4 * k + 7)) sx sy sw sh x y t k2 hA (by omega)) rfl rfl (Nat.le_of_ble_eq_true rfl) (Nat.le_of_ble_eq_true rfl) (Nat.le_of_ble_eq_true rfl) rfl ?_
      rintro rs σ1 ⟨rfl, q1, f1⟩
      have q1 : σ1[44]? = some (.inr (0, [.int (iZ x), .int (iZ y), .int (iZ (mWide T k t)), .int (iZ (mHigh T k t))])) := q1
      have hQ1 := rC.st q1 hQ f1
      have bw := wT.w (k := k) (by omega) (by omega) t
      have bh := wT.h (k := k) (by omega) (by omega) t
      obtain ⟨-, c01, hT1, ⟨rp1, rN1, hR1⟩, hS1, hS01, ⟨nx1, hH1⟩, ⟨Fe1, Wy1, Tr1, Be1, tH1, pbh1, pbt1, pfo1, hPl1⟩, ⟨sx1, sy1, sw1, sh1, hA1⟩, hJ1, ⟨R01, hD1⟩⟩ := id hQ1
      show Go w mX8_why (0, 0) 43 [some (.ref 0), some (.int (iZ k)), some (.int (iZ x)), some (.int (iZ y)), some (.int (iZ t))] [] σ1 (cPost σ (mWhyQ T S k x y t) L tx T S B n)
      refine g_aload_n (q := 44) dX8_why_43 rfl rfl ?_
      refine g_get (q := 47) flX8_26 dX8_why_44 c01 rfl rfl ?_
      refine g_aload_n (q := 48) dX8_why_47 rfl rfl ?_
      refine g_get (q := 51) flX8_57 dX8_why_48 c01 rfl rfl ?_
      refine g_iload_n (q := 52) dX8_why_51 rfl rfl ?_
      have J6 : ∀ z7 : Int, z7 = t → Go w mX8_why (0, 0) 63 [some (.ref 0), some (.int (iZ k)), some (.int (iZ x)), some (.int (iZ y)), some (.int (iZ t))] [.int (iZ z7), .int (iZ k), .ref j, .ref 5] σ1 (cPost σ (mWhyQ T S k x y t) L tx T S B n) := by
        intro z7 e8
        rw [e8]
        refine g_aload_n (q := 64) dX8_why_63 rfl rfl ?_
        refine g_get (q := 67) flX8_50 dX8_why_64 c01 rfl rfl ?_
        refine g_callV (As := [.ref j, .int (iZ k), .int (iZ t), .ref 44]) (rest := []) (q := 70) moX5_refusal lkX8_why_111 dX8_why_67 rfl hS1.1 (r_refusal σ1 5 j T S hS1 hJ1 wT wS k t (by omega) (by omega) 44 x y (mWide T k t) (mHigh T k t) q1 (by omega) (by omega) (by omega) (by omega)) rfl rfl (Nat.le_of_ble_eq_true rfl) (Nat.le_of_ble_eq_true rfl) (Nat.le_of_ble_eq_true rfl) rfl ?_
        rintro rQ sQ hpQ
        rw [hpQ.1, hpQ.2]
        show Go w mX8_why (0, 0) 70 [some (.ref 0), some (.int (iZ k)), some (.int (iZ x)), some (.int (iZ y)), some (.int (iZ t))] [.int (iZ (cRef T S k t x y (mWide T k t) (mHigh T k t)))] σ1 (cPost σ (mWhyQ T S k x y t) L tx T S B n)
        rw [cRef_why wT wS (by omega)]
        show Go w mX8_why (0, 0) 70 [some (.ref 0), some (.int (iZ k)), some (.int (iZ x)), some (.int (iZ y)), some (.int (iZ t))] [.int (iZ (mWhy T S k x y t))] σ1 (cPost σ (mWhyQ T S k x y t) L tx T S B n)
        have bwy := mWhy_b T S k x y t
        refine z_iret dX8_why_70 rfl ?_
        have e : mWhyQ T S k x y t = mWhy T S k x y t := if_pos (by omega)
        rw [e]
        exact ⟨rfl, ⟨j, d, hQ1⟩, (g_Fr.rf.tr (f1.wk (fun k e => show k < 77 by omega)))⟩
      refine g_iload (q := 54) dX8_why_52 rfl rfl ?_
      refine z_iconst (q := 55) dX8_why_54 rfl ?_
      refine z_icmp_ne (t := 62) (q := 58) dX8_why_55 rfl (by omega) rfl (fun pc9 => ?_) (fun pc9 => ?_)
      · refine z_iconst (q := 63) dX8_why_62 rfl ?_
        exact J6 _ (by omega)
      · refine z_iconst (q := 59) dX8_why_58 rfl ?_
        refine g_goto (q := 63) dX8_why_59 rfl ?_
        exact J6 _ (by omega)
    refine g_iload (q := 31) dX8_why_29 rfl rfl ?_
    refine z_iconst (q := 32) dX8_why_31 rfl ?_
    refine z_icmp_ne (t := 39) (q := 35) dX8_why_32 rfl (by omega) rfl (fun pc10 => ?_) (fun pc10 => ?_)
    · refine z_iconst (q := 40) dX8_why_39 rfl ?_
      exact J3 _ (by omega)
    · refine z_iconst (q := 36) dX8_why_35 rfl ?_
      refine g_goto (q := 40) dX8_why_36 rfl ?_
      exact J3 _ (by omega)
  · refine z_iconst (q := 13) dX8_why_12 rfl ?_
    refine z_iret dX8_why_13 rfl ?_
    have e : mWhyQ T S k x y t = -1 := if_neg (by omega)
    rw [e]
    exact ⟨rfl, ⟨j, d, hQ⟩, g_Fr.rf⟩
theorem r_C_hit (σ : g_H0) (j d : Nat) (L : Int) (tx T S B : Int → Int) (n : Int) (hQ : rC j d L tx T S B n σ) (wT : wfT T) (wS : wfS T S) (k x y t : Int) (b_k : -2147483648 ≤ k ∧ k < 2147483648) (b_x : -2147483648 ≤ x ∧ x < 2147483648) (b_y : -2147483648 ≤ y ∧ y < 2147483648) (b_t : -2147483648 ≤ t ∧ t < 2147483648) : Ret mX8_hit [.ref 0, .int (iZ k), .int (iZ x), .int (iZ y), .int (iZ t)] σ (cPost σ (spHit T S B n k x y t).1 L tx T (spHit T S B n k x y t).2.1 (spHit T S B n k x y t).2.2.1 (spHit T S B n k x y t).2.2.2) := by
  refine Ret.of moX8_hit.1 (Nat.le_of_ble_eq_true rfl) (fun w => ?_)
  obtain ⟨hjd, c0, hT, ⟨rp, rN, hR⟩, hS, hS0, ⟨nx, hH⟩, ⟨Fe, Wy, Tr, Be, tH, pbh, pbt, pfo, hPl⟩, ⟨sx, sy, sw, sh, hA⟩, hJ, ⟨R0, hD⟩⟩ := id hQ
  obtain ⟨bT, t0, t1, t2, t3, t4, tt, th, tap, tcl, tc2⟩ := id wT
  obtain ⟨j0, j1, ⟨jf, j2, j2'⟩, ⟨jg, j3, j3'⟩, ⟨jC, j4, j4'⟩, j5, j6⟩ := id hJ
  obtain ⟨s0, C, W, K, s1, s2, s3, hC, hW, hK⟩ := id hS
  obtain ⟨w1, w2, w3, w4, w5, w6⟩ := id wS
  show Go w mX8_hit (0, 0) 0 [some (.ref 0), some (.int (iZ k)), some (.int (iZ x)), some (.int (iZ y)), some (.int (iZ t))] [] σ (cPost σ (spHit T S B n k x y t).1 L tx T (spHit T S B n k x y t).2.1 (spHit T S B n k x y t).2.2.1 (spHit T S B n k x y t).2.2.2)
  refine g_aload_n (q := 1) dX8_hit_0 rfl rfl ?_
  refine g_iload_n (q := 2) dX8_hit_1 rfl rfl ?_
  refine g_iload_n (q := 3) dX8_hit_2 rfl rfl ?_
  refine g_iload_n (q := 4) dX8_hit_3 rfl rfl ?_
  refine g_iload (q := 6) dX8_hit_4 rfl rfl ?_
  refine g_callV (As := [.int (iZ k), .int (iZ x), .int (iZ y), .int (iZ t)]) (rest := []) (q := 9) moX8_isHitTold lkX8_hit_97 dX8_hit_6 rfl c0 (r_C_isHitTold σ j d L tx T S B n hQ wT wS k x y t (by omega) (by omega) (by omega) (by omega)) rfl rfl (Nat.le_of_ble_eq_true rfl) (Nat.le_of_ble_eq_true rfl) (Nat.le_of_ble_eq_true rfl) rfl ?_
  rintro rQ sQ hpQ
  rw [hpQ.1, hpQ.2]
  show Go w mX8_hit (0, 0) 9 [some (.ref 0), some (.int (iZ k)), some (.int (iZ x)), some (.int (iZ y)), some (.int (iZ t))] [.int (bI ((0 ≤ k ∧ k < T 2) ∧ (0 ≤ x ∧ x ≤ 99) ∧ (0 ≤ y ∧ y ≤ 99) ∧ (0 ≤ t ∧ t ≤ 1)))] σ (cPost σ (spHit T S B n k x y t).1 L tx T (spHit T S B n k x y t).2.1 (spHit T S B n k x y t).2.2.1 (spHit T S B n k x y t).2.2.2)
  refine z_ifB_ne (t := 14) (q := 12) dX8_hit_9 rfl rfl (fun pc1 => ?_) (fun pc1 => ?_)
  · refine g_aload_n (q := 15) dX8_hit_14 rfl rfl ?_
    refine g_get (q := 18) flX8_57 dX8_hit_15 c0 rfl rfl ?_
    refine g_get (q := 21) flX8_101 dX8_hit_18 j0 rfl rfl ?_
    refine g_iload_n (q := 22) dX8_hit_21 rfl rfl ?_
    obtain ⟨f2, e2, g2, k2⟩ := hJ.tool (s := k) (by omega) (by omega) (by omega)
    have k2 : σ[(j + 5 + k.toNat)]? = some (.inr (7, [.int (iZ (T (4 * k + 5))), .int (iZ (T (4 * k + 6))), .int (iZ (T (4 * k + 8))), .int (iZ (T (4 * k + 7)))])) := k2
    have q2 := tt k (by omega) (by omega)
    refine z_aald (b := (j + 5 + k.toNat)) (q := 23) dX8_hit_22 rfl e2 (by omega) g2 rfl ?_
    refine g_aload_n (q := 24) dX8_hit_23 rfl rfl ?_
    refine g_get (q := 27) flX8_50 dX8_hit_24 c0 rfl rfl ?_
    refine g_iload_n (q := 28) dX8_hit_27 rfl rfl ?_
    refine g_iload_n (q := 29) dX8_hit_28 rfl rfl ?_
    have J3 : ∀ z4 : Int, z4 = t → Go w mX8_hit (0, 0) 40 [some (.ref 0), some (.int (iZ k)), some (.int (iZ x)), some (.int (iZ y)), some (.int (iZ t))] [.int (iZ z4), .int (iZ y), .int (iZ x), .ref 44, .ref (j + 5 + k.toNat)] σ (cPost σ (spHit T S B n k x y t).1 L tx T (spHit T S B n k x y t).2.1 (spHit T S B n k x y t).2.2.1 (spHit T S B n k x y t).2.2.2) := by
      intro z4 e5
      rw [e5]
      refine g_callV (As := [.ref 44, .int (iZ x), .int (iZ y), .int (iZ t)]) (rest := []) (q := 43) moX7_stampAt lkX8_hit_105 dX8_hit_40 rfl k2 (r_stampAt σ (j + 5 + k.toNat) 44 (by omega) (T (4 * k + 5)) (T (4 * k + 6)) (T (4 * k + 8)) (T (4 * k + 7)) sx sy sw sh x y t k2 hA (by omega)) rfl rfl (Nat.le_of_ble_eq_true rfl) (Nat.le_of_ble_eq_true rfl) (Nat.le_of_ble_eq_true rfl) rfl ?_
      rintro rs σ1 ⟨rfl, q1, f1⟩
      have q1 : σ1[44]? = some (.inr (0, [.int (iZ x), .int (iZ y), .int (iZ (mWide T k t)), .int (iZ (mHigh T k t))])) := q1
      have hQ1 := rC.st q1 hQ f1
      have bw := wT.w (k := k) (by omega) (by omega) t
      have bh := wT.h (k := k) (by omega) (by omega) t
      obtain ⟨-, c01, hT1, ⟨rp1, rN1, hR1⟩, hS1, hS01, ⟨nx1, hH1⟩, ⟨Fe1, Wy1, Tr1, Be1, tH1, pbh1, pbt1, pfo1, hPl1⟩, ⟨sx1, sy1, sw1, sh1, hA1⟩, hJ1, ⟨R01, hD1⟩⟩ := id hQ1
      show Go w mX8_hit (0, 0) 43 [some (.ref 0), some (.int (iZ k)), some (.int (iZ x)), some (.int (iZ y)), some (.int (iZ t))] [] σ1 (cPost σ (spHit T S B n k x y t).1 L tx T (spHit T S B n k x y t).2.1 (spHit T S B n k x y t).2.2.1 (spHit T S B n k x y t).2.2.2)
      refine g_aload_n (q := 44) dX8_hit_43 rfl rfl ?_
      refine g_get (q := 47) flX8_26 dX8_hit_44 c01 rfl rfl ?_
      refine g_aload_n (q := 48) dX8_hit_47 rfl rfl ?_
      refine g_get (q := 51) flX8_57 dX8_hit_48 c01 rfl rfl ?_
      refine g_iload_n (q := 52) dX8_hit_51 rfl rfl ?_
      have J6 : ∀ z7 : Int, z7 = t → Go w mX8_hit (0, 0) 63 [some (.ref 0), some (.int (iZ k)), some (.int (iZ x)), some (.int (iZ y)), some (.int (iZ t))] [.int (iZ z7), .int (iZ k), .ref j, .ref 5] σ1 (cPost σ (spHit T S B n k x y t).1 L tx T (spHit T S B n k x y t).2.1 (spHit T S B n k x y t).2.2.1 (spHit T S B n k x y t).2.2.2) := by
        intro z7 e8
        rw [e8]
        refine g_aload_n (q := 64) dX8_hit_63 rfl rfl ?_
        refine g_get (q := 67) flX8_50 dX8_hit_64 c01 rfl rfl ?_
        refine g_callV (As := [.ref j, .int (iZ k), .int (iZ t), .ref 44]) (rest := []) (q := 70) moX5_refusal lkX8_hit_111 dX8_hit_67 rfl hS1.1 (r_refusal σ1 5 j T S hS1 hJ1 wT wS k t (by omega) (by omega) 44 x y (mWide T k t) (mHigh T k t) q1 (by omega) (by omega) (by omega) (by omega)) rfl rfl (Nat.le_of_ble_eq_true rfl) (Nat.le_of_ble_eq_true rfl) (Nat.le_of_ble_eq_true rfl) rfl ?_
        rintro rQ sQ hpQ
        rw [hpQ.1, hpQ.2]
        show Go w mX8_hit (0, 0) 70 [some (.ref 0), some (.int (iZ k)), some (.int (iZ x)), some (.int (iZ y)), some (.int (iZ t))] [.int (iZ (cRef T S k t x y (mWide T k t) (mHigh T k t)))] σ1 (cPost σ (spHit T S B n k x y t).1 L tx T (spHit T S B n k x y t).2.1 (spHit T S B n k x y t).2.2.1 (spHit T S B n k x y t).2.2.2)
        rw [cRef_why wT wS (by omega)]
        show Go w mX8_hit (0, 0) 70 [some (.ref 0), some (.int (iZ k)), some (.int (iZ x)), some (.int (iZ y)), some (.int (iZ t))] [.int (iZ (mWhy T S k x y t))] σ1 (cPost σ (spHit T S B n k x y t).1 L tx T (spHit T S B n k x y t).2.1 (spHit T S B n k x y t).2.2.1 (spHit T S B n k x y t).2.2.2)
        have bwy := mWhy_b T S k x y t
        refine z_if_eq (t := 76) (q := 73) dX8_hit_70 rfl (by omega) rfl (fun pc9 => ?_) (fun pc9 => ?_)
        · have h00 := mWhy_0 (T := T) (S := S) (k := k) (x := x) (y := y) (t := t) (by omega)
          refine g_aload_n (q := 77) dX8_hit_76 rfl rfl ?_
          refine g_get (q := 80) flX8_36 dX8_hit_77 c01 rfl rfl ?_
          refine g_aload_n (q := 81) dX8_hit_80 rfl rfl ?_
          refine g_get (q := 84) flX8_26 dX8_hit_81 c01 rfl rfl ?_
          refine g_callV (As := [.ref 5]) (rest := []) (q := 87) moX1_keep lkX8_hit_115 dX8_hit_84 rfl hH1.1 (r_keep σ1 13 5 (by omega) T B S n nx1 hH1 hS1 (by omega)) rfl rfl (Nat.le_of_ble_eq_true rfl) (Nat.le_of_ble_eq_true rfl) (Nat.le_of_ble_eq_true rfl) rfl ?_
          rintro rk σ2 ⟨rfl, q2, f2⟩
          have hQ2 := rC.hist q2 hQ1 f2
          have q1b := (f2.2 44 (fun e => by have := e.1; have := e.2; omega)).trans q1
          obtain ⟨-, c02, hT2, ⟨rp2, rN2, hR2⟩, hS2, hS02, ⟨nx2, hH2⟩, ⟨Fe2, Wy2, Tr2, Be2, tH2, pbh2, pbt2, pfo2, hPl2⟩, ⟨sx2, sy2, sw2, sh2, hA2⟩, hJ2, ⟨R02, hD2⟩⟩ := id hQ2
          show Go w mX8_hit (0, 0) 87 [some (.ref 0), some (.int (iZ k)), some (.int (iZ x)), some (.int (iZ y)), some (.int (iZ t))] [] σ2 (cPost σ (spHit T S B n k x y t).1 L tx T (spHit T S B n k x y t).2.1 (spHit T S B n k x y t).2.2.1 (spHit T S B n k x y t).2.2.2)
          refine g_aload_n (q := 88) dX8_hit_87 rfl rfl ?_
          refine g_get (q := 91) flX8_26 dX8_hit_88 c02 rfl rfl ?_
          refine g_aload_n (q := 92) dX8_hit_91 rfl rfl ?_
          refine g_get (q := 95) flX8_57 dX8_hit_92 c02 rfl rfl ?_
          refine g_iload_n (q := 96) dX8_hit_95 rfl rfl ?_
          refine g_aload_n (q := 97) dX8_hit_96 rfl rfl ?_
          refine g_get (q := 100) flX8_50 dX8_hit_97 c02 rfl rfl ?_
          refine g_callV (As := [.ref j, .int (iZ k), .ref 44]) (rest := []) (q := 103) moX5_punch lkX8_hit_119 dX8_hit_100 rfl hS2.1 (r_punch σ2 5 j T S hS2 hJ2 wT wS k (by omega) 44 x y (mWide T k t) (mHigh T k t) q1b (by omega) (by omega) (by omega)) rfl rfl (Nat.le_of_ble_eq_true rfl) (Nat.le_of_ble_eq_true rfl) (Nat.le_of_ble_eq_true rfl) rfl ?_
          rintro rp σ3 ⟨hr3, q3, f3⟩
          have hQ3 := rC.now q3 hQ2 f3
          subst hr3
          show Go w mX8_hit (0, 0) 103 [some (.ref 0), some (.int (iZ k)), some (.int (iZ x)), some (.int (iZ y)), some (.int (iZ t))] [.int (iZ (cUn S x y (mWide T k t) (mHigh T k t)))] σ3 (cPost σ (spHit T S B n k x y t).1 L tx T (spHit T S B n k x y t).2.1 (spHit T S B n k x y t).2.2.1 (spHit T S B n k x y t).2.2.2)
          refine z_iret dX8_hit_103 rfl ?_
          have e : mWhyQ T S k x y t = mWhy T S k x y t := if_pos (by omega)
          have e2 : spHit T S B n k x y t = (cUn S x y (mWide T k t) (mHigh T k t), mStrT T k (strR S x y (mWide T k t) (mHigh T k t)), mNoteB B S n, mNoteN n) := by unfold spHit; rw [e, if_pos (by omega), mStrN_un (by omega) (by omega) (by omega), str_eq (by omega) bw.1 bh.1 (by omega) (by omega)]
          rw [e2]
          exact ⟨rfl, ⟨j, d, hQ3⟩, (((g_Fr.rf.tr (f1.wk (fun k e => show k < 77 by omega))).tr (f2.wk (fun k e => show k < 77 by have := e.1; have := e.2; omega))).tr (f3.wk (fun k e => show k < 77 by have := e.1; have := e.2; omega)))⟩
        · refine g_bipush (v := iZ (-2)) (q := 75) dX8_hit_73 (by decide) rfl ?_
          refine z_iret dX8_hit_75 rfl ?_
          have e : mWhyQ T S k x y t = mWhy T S k x y t := if_pos (by omega)
          have e2 : spHit T S B n k x y t = (-2, S, B, n) := by unfold spHit; rw [e, if_neg (by omega), if_neg (by omega)]
          rw [e2]
          exact ⟨rfl, ⟨j, d, hQ1⟩, (g_Fr.rf.tr (f1.wk (fun k e => show k < 77 by omega)))⟩
      refine g_iload (q := 54) dX8_hit_52 rfl rfl ?_
      refine z_iconst (q := 55) dX8_hit_54 rfl ?_
      refine z_icmp_ne (t := 62) (q := 58) dX8_hit_55 rfl (by omega) rfl (fun pc10 => ?_) (fun pc10 => ?_)
      · refine z_iconst (q := 63) dX8_hit_62 rfl ?_
        exact J6 _ (by omega)
      · refine z_iconst (q := 59) dX8_hit_58 rfl ?_
        refine g_goto (q := 63) dX8_hit_59 rfl ?_
        exact J6 _ (by omega)
    refine g_iload (q := 31) dX8_hit_29 rfl rfl ?_
    refine z_iconst (q := 32) dX8_hit_31 rfl ?_
    refine z_icmp_ne (t := 39) (q := 35) dX8_hit_32 rfl (by omega) rfl (fun pc11 => ?_) (fun pc11 => ?_)
    · refine z_iconst (q := 40) dX8_hit_39 rfl ?_
      exact J3 _ (by omega)
    · refine z_iconst (q := 36) dX8_hit_35 rfl ?_
      refine g_goto (q := 40) dX8_hit_36 rfl ?_
      exact J3 _ (by omega)
  · refine z_iconst (q := 13) dX8_hit_12 rfl ?_
    refine z_iret dX8_hit_13 rfl ?_
    have e : mWhyQ T S k x y t = -1 := if_neg (by omega)
    have e2 : spHit T S B n k x y t = (-1, S, B, n) := by unfold spHit; rw [e, if_neg (by omega), if_pos rfl]
    rw [e2]
    exact ⟨rfl, ⟨j, d, hQ⟩, g_Fr.rf⟩
theorem r_C_sharpen (σ : g_H0) (j d : Nat) (L : Int) (tx T S B : Int → Int) (n : Int) (hQ : rC j d L tx T S B n σ) (wT : wfT T) (wS : wfS T S) (k : Int) (b_k : -2147483648 ≤ k ∧ k < 2147483648) : Ret mX8_sharpen [.ref 0, .int (iZ k)] σ (cPost σ (spSharpen T S B n k).1 L tx T (spSharpen T S B n k).2.1 (spSharpen T S B n k).2.2.1 (spSharpen T S B n k).2.2.2) := by
  refine Ret.of moX8_sharpen.1 (Nat.le_of_ble_eq_true rfl) (fun w => ?_)
  obtain ⟨hjd, c0, hT, ⟨rp, rN, hR⟩, hS, hS0, ⟨nx, hH⟩, ⟨Fe, Wy, Tr, Be, tH, pbh, pbt, pfo, hPl⟩, ⟨sx, sy, sw, sh, hA⟩, hJ, ⟨R0, hD⟩⟩ := id hQ
  obtain ⟨bT, t0, t1, t2, t3, t4, tt, th, tap, tcl, tc2⟩ := id wT
  obtain ⟨j0, j1, ⟨jf, j2, j2'⟩, ⟨jg, j3, j3'⟩, ⟨jC, j4, j4'⟩, j5, j6⟩ := id hJ
  obtain ⟨s0, C, W, K, s1, s2, s3, hC, hW, hK⟩ := id hS
  obtain ⟨w1, w2, w3, w4, w5, w6⟩ := id wS
  show Go w mX8_sharpen (0, 0) 0 [some (.ref 0), some (.int (iZ k)), none] [] σ (cPost σ (spSharpen T S B n k).1 L tx T (spSharpen T S B n k).2.1 (spSharpen T S B n k).2.2.1 (spSharpen T S B n k).2.2.2)
  refine g_aload_n (q := 1) dX8_sharpen_0 rfl rfl ?_
  refine g_iload_n (q := 2) dX8_sharpen_1 rfl rfl ?_
  refine g_callV (As := [.int (iZ k)]) (rest := []) (q := 5) moX8_isStation lkX8_sharpen_127 dX8_sharpen_2 rfl c0 (r_C_isStation σ j d L tx T S B n hQ wT wS k (by omega)) rfl rfl (Nat.le_of_ble_eq_true rfl) (Nat.le_of_ble_eq_true rfl) (Nat.le_of_ble_eq_true rfl) rfl ?_
  rintro rQ sQ hpQ
  rw [hpQ.1, hpQ.2]
  show Go w mX8_sharpen (0, 0) 5 [some (.ref 0), some (.int (iZ k)), none] [.int (bI (0 ≤ k ∧ k < T 2))] σ (cPost σ (spSharpen T S B n k).1 L tx T (spSharpen T S B n k).2.1 (spSharpen T S B n k).2.2.1 (spSharpen T S B n k).2.2.2)
  refine z_ifB_ne (t := 10) (q := 8) dX8_sharpen_5 rfl rfl (fun pc1 => ?_) (fun pc1 => ?_)
  · refine g_aload_n (q := 11) dX8_sharpen_10 rfl rfl ?_
    refine g_get (q := 14) flX8_26 dX8_sharpen_11 c0 rfl rfl ?_
    refine g_get (q := 17) flX8_165 dX8_sharpen_14 s0 rfl rfl ?_
    refine g_iload_n (q := 18) dX8_sharpen_17 rfl rfl ?_
    refine z_iald (q := 19) dX8_sharpen_18 s2 (by omega) rfl ?_
    rw [show W k = (S (k + 144)) from (hW k (by omega) (by omega))]
    have b2 := w2 k (by omega) (by omega)
    refine g_istore_n (ml' := [some (.ref 0), some (.int (iZ k)), some (.int (iZ (S (k + 144))))]) (q := 20) dX8_sharpen_19 rfl (Nat.le_of_ble_eq_true rfl) rfl rfl ?_
    refine g_iload_n (q := 21) dX8_sharpen_20 rfl rfl ?_
    refine z_if_ne (t := 27) (q := 24) dX8_sharpen_21 rfl (by omega) rfl (fun pc3 => ?_) (fun pc3 => ?_)
    · refine g_aload_n (q := 28) dX8_sharpen_27 rfl rfl ?_
      refine g_get (q := 31) flX8_36 dX8_sharpen_28 c0 rfl rfl ?_
      refine g_aload_n (q := 32) dX8_sharpen_31 rfl rfl ?_
      refine g_get (q := 35) flX8_26 dX8_sharpen_32 c0 rfl rfl ?_
      refine g_callV (As := [.ref 5]) (rest := []) (q := 38) moX1_keep lkX8_sharpen_115 dX8_sharpen_35 rfl hH.1 (r_keep σ 13 5 (by omega) T B S n nx hH hS (by omega)) rfl rfl (Nat.le_of_ble_eq_true rfl) (Nat.le_of_ble_eq_true rfl) (Nat.le_of_ble_eq_true rfl) rfl ?_
      rintro rk σ2 ⟨rfl, q2, f2⟩
      have hQ2 := rC.hist q2 hQ f2
      obtain ⟨-, c02, hT2, ⟨rp2, rN2, hR2⟩, hS2, hS02, ⟨nx2, hH2⟩, ⟨Fe2, Wy2, Tr2, Be2, tH2, pbh2, pbt2, pfo2, hPl2⟩, ⟨sx2, sy2, sw2, sh2, hA2⟩, hJ2, ⟨R02, hD2⟩⟩ := id hQ2
      show Go w mX8_sharpen (0, 0) 38 [some (.ref 0), some (.int (iZ k)), some (.int (iZ (S (k + 144))))] [] σ2 (cPost σ (spSharpen T S B n k).1 L tx T (spSharpen T S B n k).2.1 (spSharpen T S B n k).2.2.1 (spSharpen T S B n k).2.2.2)
      refine g_aload_n (q := 39) dX8_sharpen_38 rfl rfl ?_
      refine g_get (q := 42) flX8_26 dX8_sharpen_39 c02 rfl rfl ?_
      refine g_get (q := 45) flX8_165 dX8_sharpen_42 hS2.1 rfl rfl ?_
      refine g_iload_n (q := 46) dX8_sharpen_45 rfl rfl ?_
      refine z_iconst (q := 47) dX8_sharpen_46 rfl ?_
      obtain ⟨z0, C2, W2, K2, z1, z2, z3, hC2, hW2, hK2⟩ := id hS2
      refine z_iast (q := 48) dX8_sharpen_47 z2 (by omega) rfl (fun σ4 c5 f6 => ?_)
      have c7 := (f6.2 0 (by omega)).trans c02
      have c8 := (f6.2 5 (by omega)).trans z0
      have c9 := (f6.2 (5 + 1) (by omega)).trans z1
      have c10 := (f6.2 (5 + 3) (by omega)).trans z3
      refine g_iload_n (q := 49) dX8_sharpen_48 rfl rfl ?_
      refine z_iret dX8_sharpen_49 rfl ?_
      have e2 : spSharpen T S B n k = (S (k + 144), zup S (k + 144) 0, mNoteB B S n, mNoteN n) := by unfold spSharpen; rw [if_neg (by omega), if_neg (by omega)]
      rw [e2]
      have q3 : rSt 5 T (zup S (k + 144) 0) σ4 := by
        refine ⟨?_, C2, _, K2, c9, c5, c10, fun y y0 y1 => ?_, fun q q0 q1 => ?_, fun c c0 c1 => ?_⟩
        · rw [zup_ne _ _ (by omega), zup_ne _ _ (by omega), zup_ne _ _ (by omega), zup_ne _ _ (by omega)]; exact c8
        · rw [hC2 y y0 y1]; exact rowB_congr (fun x x0 x1 => by rw [zup_ne _ _ (by omega)])
        · by_cases e : q = k
          · subst e; rw [zup_self, zup_self]
          · rw [zup_ne _ _ e, zup_ne _ _ (by omega)]; exact hW2 q q0 q1
        · rw [zup_ne _ _ (by omega)]; exact hK2 c c0 c1
      have hQ3 := rC.now q3 hQ2 (f6.wk (fun k e => (show pS 5 k from ⟨by omega, by omega⟩)))
      exact ⟨rfl, ⟨j, d, hQ3⟩, ((g_Fr.rf.tr (f2.wk (fun k e => show k < 77 by have := e.1; have := e.2; omega))).tr ((f6.wk (fun k e => (show pS 5 k from ⟨by omega, by omega⟩))).wk (fun k e => show k < 77 by have := e.1; have := e.2; omega)))⟩
    · refine g_bipush (v := iZ (-2)) (q := 26) dX8_sharpen_24 (by decide) rfl ?_
      refine z_iret dX8_sharpen_26 rfl ?_
      have e2 : spSharpen T S B n k = (-2, S, B, n) := by unfold spSharpen; rw [if_neg (by omega), if_pos (by omega)]
      rw [e2]; exact ⟨rfl, ⟨j, d, hQ⟩, g_Fr.rf⟩
  · refine z_iconst (q := 9) dX8_sharpen_8 rfl ?_
    refine z_iret dX8_sharpen_9 rfl ?_
    have e2 : spSharpen T S B n k = (-1, S, B, n) := by unfold spSharpen; rw [if_pos (by omega)]
    rw [e2]; exact ⟨rfl, ⟨j, d, hQ⟩, g_Fr.rf⟩
theorem r_C_clamp (σ : g_H0) (j d : Nat) (L : Int) (tx T S B : Int → Int) (n : Int) (hQ : rC j d L tx T S B n σ) (wT : wfT T) (wS : wfS T S) (c col : Int) (b_c : -2147483648 ≤ c ∧ c < 2147483648) (b_col : -2147483648 ≤ col ∧ col < 2147483648) : Ret mX8_clamp [.ref 0, .int (iZ c), .int (iZ col)] σ (cPost σ (spClamp T S B n c col).1 L tx T (spClamp T S B n c col).2.1 (spClamp T S B n c col).2.2.1 (spClamp T S B n c col).2.2.2) := by
  refine Ret.of moX8_clamp.1 (Nat.le_of_ble_eq_true rfl) (fun w => ?_)
  obtain ⟨hjd, c0, hT, ⟨rp, rN, hR⟩, hS, hS0, ⟨nx, hH⟩, ⟨Fe, Wy, Tr, Be, tH, pbh, pbt, pfo, hPl⟩, ⟨sx, sy, sw, sh, hA⟩, hJ, ⟨R0, hD⟩⟩ := id hQ
  obtain ⟨bT, t0, t1, t2, t3, t4, tt, th, tap, tcl, tc2⟩ := id wT
  obtain ⟨j0, j1, ⟨jf, j2, j2'⟩, ⟨jg, j3, j3'⟩, ⟨jC, j4, j4'⟩, j5, j6⟩ := id hJ
  obtain ⟨s0, C, W, K, s1, s2, s3, hC, hW, hK⟩ := id hS
  obtain ⟨w1, w2, w3, w4, w5, w6⟩ := id wS
  show Go w mX8_clamp (0, 0) 0 [some (.ref 0), some (.int (iZ c)), some (.int (iZ col)), none] [] σ (cPost σ (spClamp T S B n c col).1 L tx T (spClamp T S B n c col).2.1 (spClamp T S B n c col).2.2.1 (spClamp T S B n c col).2.2.2)
  refine g_aload_n (q := 1) dX8_clamp_0 rfl rfl ?_
  refine g_iload_n (q := 2) dX8_clamp_1 rfl rfl ?_
  refine g_callV (As := [.int (iZ c)]) (rest := []) (q := 5) moX8_isClamp lkX8_clamp_148 dX8_clamp_2 rfl c0 (r_C_isClamp σ j d L tx T S B n hQ wT wS c (by omega)) rfl rfl (Nat.le_of_ble_eq_true rfl) (Nat.le_of_ble_eq_true rfl) (Nat.le_of_ble_eq_true rfl) rfl ?_
  rintro rQ sQ hpQ
  rw [hpQ.1, hpQ.2]
  show Go w mX8_clamp (0, 0) 5 [some (.ref 0), some (.int (iZ c)), some (.int (iZ col)), none] [.int (bI (0 ≤ c ∧ c < T 4))] σ (cPost σ (spClamp T S B n c col).1 L tx T (spClamp T S B n c col).2.1 (spClamp T S B n c col).2.2.1 (spClamp T S B n c col).2.2.2)
  refine z_ifB_eq (t := 19) (q := 8) dX8_clamp_5 rfl rfl (fun pc1 => ?_) (fun pc1 => ?_)
  · refine z_iconst (q := 20) dX8_clamp_19 rfl ?_
    refine z_iret dX8_clamp_20 rfl ?_
    have e2 : spClamp T S B n c col = (-1, S, B, n) := by unfold spClamp; rw [if_pos (by omega)]
    rw [e2]; exact ⟨rfl, ⟨j, d, hQ⟩, g_Fr.rf⟩
  · refine g_aload_n (q := 9) dX8_clamp_8 rfl rfl ?_
    refine g_get (q := 12) flX8_57 dX8_clamp_9 c0 rfl rfl ?_
    refine g_iload_n (q := 13) dX8_clamp_12 rfl rfl ?_
    refine g_callV (As := [.int (iZ col)]) (rest := []) (q := 16) moX2_isColumn lkX8_clamp_151 dX8_clamp_13 rfl j0 (r_isColumn σ j T hJ wT col (by omega)) rfl rfl (Nat.le_of_ble_eq_true rfl) (Nat.le_of_ble_eq_true rfl) (Nat.le_of_ble_eq_true rfl) rfl ?_
    rintro rQ sQ hpQ
    rw [hpQ.1, hpQ.2]
    show Go w mX8_clamp (0, 0) 16 [some (.ref 0), some (.int (iZ c)), some (.int (iZ col)), none] [.int (bI (0 ≤ col ∧ col ≤ T 0 - 2))] σ (cPost σ (spClamp T S B n c col).1 L tx T (spClamp T S B n c col).2.1 (spClamp T S B n c col).2.2.1 (spClamp T S B n c col).2.2.2)
    refine z_ifB_ne (t := 21) (q := 19) dX8_clamp_16 rfl rfl (fun pc2 => ?_) (fun pc2 => ?_)
    · refine g_aload_n (q := 22) dX8_clamp_21 rfl rfl ?_
      refine g_get (q := 25) flX8_26 dX8_clamp_22 c0 rfl rfl ?_
      refine g_get (q := 28) flX8_154 dX8_clamp_25 s0 rfl rfl ?_
      refine g_iload_n (q := 29) dX8_clamp_28 rfl rfl ?_
      refine z_iald (q := 30) dX8_clamp_29 s3 (by omega) rfl ?_
      rw [show K c = (S (c + 151)) from (hK c (by omega) (by omega))]
      have b3 : 0 ≤ S (c + 151) ∧ S (c + 151) ≤ 12 := w4 c (by omega) (by omega)
      refine g_istore_n (ml' := [some (.ref 0), some (.int (iZ c)), some (.int (iZ col)), some (.int (iZ (S (c + 151))))]) (q := 31) dX8_clamp_30 rfl (Nat.le_of_ble_eq_true rfl) rfl rfl ?_
      refine g_iload_n (q := 32) dX8_clamp_31 rfl rfl ?_
      refine g_iload_n (q := 33) dX8_clamp_32 rfl rfl ?_
      refine z_icmp_eq (t := 52) (q := 36) dX8_clamp_33 rfl (by omega) rfl (fun pc4 => ?_) (fun pc4 => ?_)
      · refine g_bipush (v := iZ (-2)) (q := 54) dX8_clamp_52 (by decide) rfl ?_
        refine z_iret dX8_clamp_54 rfl ?_
        have e2 : spClamp T S B n c col = (-2, S, B, n) := by unfold spClamp; rw [if_neg (by omega), if_pos (by omega)]
        rw [e2]; exact ⟨rfl, ⟨j, d, hQ⟩, g_Fr.rf⟩
      · refine g_aload_n (q := 37) dX8_clamp_36 rfl rfl ?_
        refine g_get (q := 40) flX8_26 dX8_clamp_37 c0 rfl rfl ?_
        refine g_aload_n (q := 41) dX8_clamp_40 rfl rfl ?_
        refine g_get (q := 44) flX8_57 dX8_clamp_41 c0 rfl rfl ?_
        refine g_iload_n (q := 45) dX8_clamp_44 rfl rfl ?_
        refine g_iload_n (q := 46) dX8_clamp_45 rfl rfl ?_
        refine g_callV (As := [.ref j, .int (iZ c), .int (iZ col)]) (rest := []) (q := 49) moX5_isTakenByOther lkX8_clamp_158 dX8_clamp_46 rfl s0 (r_taken σ 5 j T S hS hJ wT wS c col (by omega) (by omega)) rfl rfl (Nat.le_of_ble_eq_true rfl) (Nat.le_of_ble_eq_true rfl) (Nat.le_of_ble_eq_true rfl) rfl ?_
        rintro rQ sQ hpQ
        rw [hpQ.1, hpQ.2]
        show Go w mX8_clamp (0, 0) 49 [some (.ref 0), some (.int (iZ c)), some (.int (iZ col)), some (.int (iZ (S (c + 151))))] [.int (bI (T 4 = 2 ∧ (-1 ≤ col - S (-c + 152) ∧ col - S (-c + 152) ≤ 1)))] σ (cPost σ (spClamp T S B n c col).1 L tx T (spClamp T S B n c col).2.1 (spClamp T S B n c col).2.2.1 (spClamp T S B n c col).2.2.2)
        refine z_ifB_eq (t := 55) (q := 52) dX8_clamp_49 rfl rfl (fun pc5 => ?_) (fun pc5 => ?_)
        · refine g_aload_n (q := 56) dX8_clamp_55 rfl rfl ?_
          refine g_get (q := 59) flX8_36 dX8_clamp_56 c0 rfl rfl ?_
          refine g_aload_n (q := 60) dX8_clamp_59 rfl rfl ?_
          refine g_get (q := 63) flX8_26 dX8_clamp_60 c0 rfl rfl ?_
          refine g_callV (As := [.ref 5]) (rest := []) (q := 66) moX1_keep lkX8_clamp_115 dX8_clamp_63 rfl hH.1 (r_keep σ 13 5 (by omega) T B S n nx hH hS (by omega)) rfl rfl (Nat.le_of_ble_eq_true rfl) (Nat.le_of_ble_eq_true rfl) (Nat.le_of_ble_eq_true rfl) rfl ?_
          rintro rk σ2 ⟨rfl, q2, f2⟩
          have hQ2 := rC.hist q2 hQ f2
          obtain ⟨-, c02, hT2, ⟨rp2, rN2, hR2⟩, hS2, hS02, ⟨nx2, hH2⟩, ⟨Fe2, Wy2, Tr2, Be2, tH2, pbh2, pbt2, pfo2, hPl2⟩, ⟨sx2, sy2, sw2, sh2, hA2⟩, hJ2, ⟨R02, hD2⟩⟩ := id hQ2
          show Go w mX8_clamp (0, 0) 66 [some (.ref 0), some (.int (iZ c)), some (.int (iZ col)), some (.int (iZ (S (c + 151))))] [] σ2 (cPost σ (spClamp T S B n c col).1 L tx T (spClamp T S B n c col).2.1 (spClamp T S B n c col).2.2.1 (spClamp T S B n c col).2.2.2)
          refine g_aload_n (q := 67) dX8_clamp_66 rfl rfl ?_
          refine g_get (q := 70) flX8_26 dX8_clamp_67 c02 rfl rfl ?_
          refine g_get (q := 73) flX8_154 dX8_clamp_70 hS2.1 rfl rfl ?_
          refine g_iload_n (q := 74) dX8_clamp_73 rfl rfl ?_
          refine g_iload_n (q := 75) dX8_clamp_74 rfl rfl ?_
          obtain ⟨z0, C2, W2, K2, z1, z2, z3, hC2, hW2, hK2⟩ := id hS2
          refine z_iast (q := 76) dX8_clamp_75 z3 (by omega) rfl (fun σ6 c7 f8 => ?_)
          have c9 := (f8.2 0 (by omega)).trans c02
          have c10 := (f8.2 5 (by omega)).trans z0
          have c11 := (f8.2 (5 + 1) (by omega)).trans z1
          have c12 := (f8.2 (5 + 2) (by omega)).trans z2
          refine g_aload_n (q := 77) dX8_clamp_76 rfl rfl ?_
          refine g_get (q := 80) flX8_26 dX8_clamp_77 c9 rfl rfl ?_
          refine g_dup (q := 81) dX8_clamp_80 rfl rfl ?_
          refine g_get (q := 84) flX8_162 dX8_clamp_81 c10 rfl rfl ?_
          refine z_iconst (q := 85) dX8_clamp_84 rfl ?_
          refine z_iadd (q := 86) dX8_clamp_85 rfl ?_
          refine z_put (fs' := [.ref (5 + 1), .ref (5 + 2), .ref (5 + 3), .int (iZ (S 150)), .int (iZ (S 153)), .int (iZ (S 154)), .int (iZ ((S 155) + 1))]) (q := 89) fpX8_162 dX8_clamp_86 c10 (Nat.le_of_ble_eq_true rfl) rfl rfl rfl rfl (fun σ13 c14 f15 => ?_)
          have c16 := (f15.2 0 (by omega)).trans c9
          have c17 := (f15.2 (5 + 1) (by omega)).trans c11
          have c18 := (f15.2 (5 + 2) (by omega)).trans c12
          have c19 := (f15.2 (5 + 3) (by omega)).trans c7
          refine g_iload_n (q := 90) dX8_clamp_89 rfl rfl ?_
          refine z_iret dX8_clamp_90 rfl ?_
          have e2 : spClamp T S B n c col = (S (c + 151), zup (zup S (c + 151) col) 155 (zup S (c + 151) col 155 + 1), mNoteB B S n, mNoteN n) := by unfold spClamp; rw [if_neg (by omega), if_neg (by omega)]
          rw [e2]
          have q3 : rSt 5 T (zup (zup S (c + 151) col) 155 (zup S (c + 151) col 155 + 1)) σ13 := by
            refine ⟨?_, C2, W2, _, c17, c18, c19, fun y y0 y1 => ?_, fun q q0 q1 => ?_, fun q q0 q1 => ?_⟩
            · rw [zup_self, zup_ne _ _ (by omega), zup_ne (k := 150) _ _ (by omega), zup_ne _ _ (by omega), zup_ne (k := 153) _ _ (by omega), zup_ne _ _ (by omega), zup_ne (k := 154) _ _ (by omega), zup_ne (k := 155) _ _ (by omega)]; exact c14
            · rw [hC2 y y0 y1]; exact rowB_congr (fun x x0 x1 => by rw [zup_ne _ _ (by omega), zup_ne _ _ (by omega)])
            · rw [zup_ne _ _ (by omega), zup_ne _ _ (by omega)]; exact hW2 q q0 q1
            · rw [zup_ne (i := 155) _ _ (by omega)]
              by_cases e : q = c
              · subst e; rw [zup_self, zup_self]
              · rw [zup_ne _ _ e, zup_ne _ _ (by omega)]; exact hK2 q q0 q1
          have hQ3 := rC.now q3 hQ2 ((f8.wk (fun k e => (show pS 5 k from ⟨by omega, by omega⟩))).tr (f15.wk (fun k e => (show pS 5 k from ⟨by omega, by omega⟩))))
          exact ⟨rfl, ⟨j, d, hQ3⟩, ((g_Fr.rf.tr (f2.wk (fun k e => show k < 77 by have := e.1; have := e.2; omega))).tr (((f8.wk (fun k e => (show pS 5 k from ⟨by omega, by omega⟩))).tr (f15.wk (fun k e => (show pS 5 k from ⟨by omega, by omega⟩)))).wk (fun k e => show k < 77 by have := e.1; have := e.2; omega)))⟩
        · refine g_bipush (v := iZ (-2)) (q := 54) dX8_clamp_52 (by decide) rfl ?_
          refine z_iret dX8_clamp_54 rfl ?_
          have e2 : spClamp T S B n c col = (-2, S, B, n) := by unfold spClamp; rw [if_neg (by omega), if_pos (by omega)]
          rw [e2]; exact ⟨rfl, ⟨j, d, hQ⟩, g_Fr.rf⟩
    · refine z_iconst (q := 20) dX8_clamp_19 rfl ?_
      refine z_iret dX8_clamp_20 rfl ?_
      have e2 : spClamp T S B n c col = (-1, S, B, n) := by unfold spClamp; rw [if_pos (by omega)]
      rw [e2]; exact ⟨rfl, ⟨j, d, hQ⟩, g_Fr.rf⟩
theorem r_C_undo (σ : g_H0) (j d : Nat) (L : Int) (tx T S B : Int → Int) (n : Int) (hQ : rC j d L tx T S B n σ) (wT : wfT T) (wS : wfS T S) : Ret mX8_undo [.ref 0] σ (cPost σ (spUndo S B n).1 L tx T (spUndo S B n).2.1 (spUndo S B n).2.2.1 (spUndo S B n).2.2.2) := by
  refine Ret.of moX8_undo.1 (Nat.le_of_ble_eq_true rfl) (fun w => ?_)
  obtain ⟨hjd, c0, hT, ⟨rp, rN, hR⟩, hS, hS0, ⟨nx, hH⟩, ⟨Fe, Wy, Tr, Be, tH, pbh, pbt, pfo, hPl⟩, ⟨sx, sy, sw, sh, hA⟩, hJ, ⟨R0, hD⟩⟩ := id hQ
  obtain ⟨bT, t0, t1, t2, t3, t4, tt, th, tap, tcl, tc2⟩ := id wT
  obtain ⟨j0, j1, ⟨jf, j2, j2'⟩, ⟨jg, j3, j3'⟩, ⟨jC, j4, j4'⟩, j5, j6⟩ := id hJ
  obtain ⟨s0, C, W, K, s1, s2, s3, hC, hW, hK⟩ := id hS
  obtain ⟨w1, w2, w3, w4, w5, w6⟩ := id wS
  show Go w mX8_undo (0, 0) 0 [some (.ref 0)] [] σ (cPost σ (spUndo S B n).1 L tx T (spUndo S B n).2.1 (spUndo S B n).2.2.1 (spUndo S B n).2.2.2)
  refine g_aload_n (q := 1) dX8_undo_0 rfl rfl ?_
  refine g_get (q := 4) flX8_36 dX8_undo_1 c0 rfl rfl ?_
  refine g_aload_n (q := 5) dX8_undo_4 rfl rfl ?_
  refine g_get (q := 8) flX8_26 dX8_undo_5 c0 rfl rfl ?_
  refine g_callV (As := [.ref 5]) (rest := []) (q := 11) moX1_giveBack lkX8_undo_168 dX8_undo_8 rfl hH.1 (r_giveBack σ 13 5 (by omega) T B n nx hH hS.s0 (by omega)) rfl rfl (Nat.le_of_ble_eq_true rfl) (Nat.le_of_ble_eq_true rfl) (Nat.le_of_ble_eq_true rfl) rfl ?_
  rintro rg σ1 hpg
  rcases hpg with ⟨hn0, rfl, hs⟩ | ⟨hn0, rfl, q1, q2, f1⟩
  · rw [hs]
    show Go w mX8_undo (0, 0) 11 [some (.ref 0)] [.int (iZ 0)] σ (cPost σ (spUndo S B n).1 L tx T (spUndo S B n).2.1 (spUndo S B n).2.2.1 (spUndo S B n).2.2.2)
    refine z_if_eq (t := 24) (q := 14) dX8_undo_11 rfl (by omega) rfl (fun pc1 => ?_) (fun pc1 => ?_)
    · refine g_bipush (v := iZ (-2)) (q := 26) dX8_undo_24 (by decide) rfl ?_
      refine z_iret dX8_undo_26 rfl ?_
      have e2 : spUndo S B n = (-2, S, B, n) := by unfold spUndo; rw [if_pos hn0]
      rw [e2]; exact ⟨rfl, ⟨j, d, hQ⟩, g_Fr.rf⟩
    · exfalso; omega
  · obtain ⟨nx1, q1⟩ := q1
    have c01 := (f1.2 0 (fun e => by rcases e with e | e <;> (have := e.1; omega))).trans c0
    show Go w mX8_undo (0, 0) 11 [some (.ref 0)] [.int (iZ 1)] σ1 (cPost σ (spUndo S B n).1 L tx T (spUndo S B n).2.1 (spUndo S B n).2.2.1 (spUndo S B n).2.2.2)
    refine z_if_eq (t := 24) (q := 14) dX8_undo_11 rfl (by omega) rfl (fun pc2 => ?_) (fun pc2 => ?_)
    · exfalso; omega
    · refine g_aload_n (q := 15) dX8_undo_14 rfl rfl ?_
      refine g_get (q := 18) flX8_36 dX8_undo_15 c01 rfl rfl ?_
      refine g_get (q := 21) flX8_172 dX8_undo_18 q1.1 rfl rfl ?_
      refine g_goto (q := 26) dX8_undo_21 rfl ?_
      refine z_iret dX8_undo_26 rfl ?_
      have e2 : spUndo S B n = (n - 1, zcp S B 0 (156 * (n - 1)) 156, B, n - 1) := by unfold spUndo; rw [if_neg (by omega)]
      rw [e2]
      have q3 : rSt 5 T (zcp S B 0 (156 * (n - 1)) 156) σ1 := q2.congr (by omega) (fun k k0 k1 => by unfold zcp bk; rw [if_pos (by omega)]; congr 1; omega)
      have ne : ∀ k, ¬ (pS 5 k ∨ pH 13 k) → σ1[k]? = σ[k]? := f1.2
      have nk : ∀ k, (k < 5 ∨ (9 ≤ k ∧ k < 13) ∨ 39 ≤ k) → σ1[k]? = σ[k]? := fun k hk => ne k (fun e => by rcases e with e | e <;> (have := e.1; have := e.2; omega))
      refine ⟨rfl, ⟨j, d, hjd, c01, hT.fr (fun k k0 k1 => nk k (by omega)), ⟨rp, rN, hR.fr (fun k k0 k1 => nk k (by omega))⟩, q3, hS0.fr (fun k k0 k1 => nk k (by omega)), ⟨nx1, q1⟩, ⟨Fe, Wy, Tr, Be, tH, pbh, pbt, pfo, hPl.fr (fun k k0 k1 => nk k (by omega))⟩, ⟨sx, sy, sw, sh, (nk 44 (by omega)).trans hA⟩, hJ.fr (fun k k0 k1 => nk k (by omega)), ⟨R0, hD.fr (fun k k0 k1 => nk k (by omega))⟩⟩, f1.wk (fun k e => ?_)⟩
      show k < 77; rcases e with e | e <;> (have := e.1; have := e.2; omega)
theorem r_C_write (σ : g_H0) (j d : Nat) (L : Int) (tx T S B : Int → Int) (n : Int) (hQ : rC j d L tx T S B n σ) (wT : wfT T) (wS : wfS T S) (hL : 0 ≤ L ∧ L ≤ 200) (c : Int) (b_c : -2147483648 ≤ c ∧ c < 2147483648) : Ret mX8_write [.ref 0, .int (iZ c)] σ (cPost σ (tWrite L tx c).1 (tWrite L tx c).2.1 (tWrite L tx c).2.2 T S B n) := by
  refine Ret.of moX8_write.1 (Nat.le_of_ble_eq_true rfl) (fun w => ?_)
  obtain ⟨hjd, c0, hT, ⟨rp, rN, hR⟩, hS, hS0, ⟨nx, hH⟩, ⟨Fe, Wy, Tr, Be, tH, pbh, pbt, pfo, hPl⟩, ⟨sx, sy, sw, sh, hA⟩, hJ, ⟨R0, hD⟩⟩ := id hQ
  obtain ⟨bT, t0, t1, t2, t3, t4, tt, th, tap, tcl, tc2⟩ := id wT
  obtain ⟨j0, j1, ⟨jf, j2, j2'⟩, ⟨jg, j3, j3'⟩, ⟨jC, j4, j4'⟩, j5, j6⟩ := id hJ
  obtain ⟨s0, C, W, K, s1, s2, s3, hC, hW, hK⟩ := id hS
  obtain ⟨w1, w2, w3, w4, w5, w6⟩ := id wS
  show Go w mX8_write (0, 0) 0 [some (.ref 0), some (.int (iZ c))] [] σ (cPost σ (tWrite L tx c).1 (tWrite L tx c).2.1 (tWrite L tx c).2.2 T S B n)
  refine g_iload_n (q := 1) dX8_write_0 rfl rfl ?_
  refine g_bipush (v := iZ 32) (q := 3) dX8_write_1 (by decide) rfl ?_
  refine z_icmp_lt (t := 12) (q := 6) dX8_write_3 rfl (by omega) rfl (fun pc1 => ?_) (fun pc1 => ?_)
  · refine z_iconst (q := 13) dX8_write_12 rfl ?_
    refine z_iret dX8_write_13 rfl ?_
    have e2 : tWrite L tx c = (-1, L, tx) := by unfold tWrite; rw [if_pos (by omega)]
    rw [e2]; exact ⟨rfl, ⟨j, d, hQ⟩, g_Fr.rf⟩
  · refine g_iload_n (q := 7) dX8_write_6 rfl rfl ?_
    refine g_bipush (v := iZ 126) (q := 9) dX8_write_7 (by decide) rfl ?_
    refine z_icmp_le (t := 14) (q := 12) dX8_write_9 rfl (by omega) rfl (fun pc2 => ?_) (fun pc2 => ?_)
    · refine g_aload_n (q := 15) dX8_write_14 rfl rfl ?_
      refine g_get (q := 18) flX8_10 dX8_write_15 c0 rfl rfl ?_
      refine g_iload_n (q := 19) dX8_write_18 rfl rfl ?_
      refine g_i2c (q := 20) dX8_write_19 (ch_nar (z := c) (by omega)).2.1 rfl ?_
      refine g_callV (As := [.int (iZ c)]) (rest := []) (q := 23) moX6_append lkX8_write_76 dX8_write_20 rfl hT.1 (r_append σ 1 L tx hT hL c (by omega)) rfl rfl (Nat.le_of_ble_eq_true rfl) (Nat.le_of_ble_eq_true rfl) (Nat.le_of_ble_eq_true rfl) rfl ?_
      rintro ra σ1 hpa
      rcases hpa with ⟨hL0, rfl, hs⟩ | ⟨hL0, rfl, q1, f1⟩
      · rw [hs]
        show Go w mX8_write (0, 0) 23 [some (.ref 0), some (.int (iZ c))] [.int (iZ 0)] σ (cPost σ (tWrite L tx c).1 (tWrite L tx c).2.1 (tWrite L tx c).2.2 T S B n)
        refine z_if_eq (t := 36) (q := 26) dX8_write_23 rfl (by omega) rfl (fun pc3 => ?_) (fun pc3 => ?_)
        · refine g_bipush (v := iZ (-3)) (q := 38) dX8_write_36 (by decide) rfl ?_
          refine z_iret dX8_write_38 rfl ?_
          have e2 : tWrite L tx c = (-3, L, tx) := by unfold tWrite; rw [if_neg (by omega), if_pos (by omega)]
          rw [e2]; exact ⟨rfl, ⟨j, d, hQ⟩, g_Fr.rf⟩
        · exfalso; omega
      · have c01 := (f1.2 0 (by omega)).trans c0
        show Go w mX8_write (0, 0) 23 [some (.ref 0), some (.int (iZ c))] [.int (iZ 1)] σ1 (cPost σ (tWrite L tx c).1 (tWrite L tx c).2.1 (tWrite L tx c).2.2 T S B n)
        refine z_if_eq (t := 36) (q := 26) dX8_write_23 rfl (by omega) rfl (fun pc4 => ?_) (fun pc4 => ?_)
        · exfalso; omega
        · refine g_aload_n (q := 27) dX8_write_26 rfl rfl ?_
          refine g_get (q := 30) flX8_10 dX8_write_27 c01 rfl rfl ?_
          refine g_get (q := 33) flX8_87 dX8_write_30 q1.1 rfl rfl ?_
          refine g_goto (q := 38) dX8_write_33 rfl ?_
          refine z_iret dX8_write_38 rfl ?_
          have e2 : tWrite L tx c = (L + 1, L + 1, zup tx L c) := by unfold tWrite; rw [if_neg (by omega), if_neg (by omega)]
          rw [e2]; exact ⟨rfl, ⟨j, d, rC.text q1 hQ f1⟩, f1.wk (fun k e => show k < 77 by omega)⟩
    · refine z_iconst (q := 13) dX8_write_12 rfl ?_
      refine z_iret dX8_write_13 rfl ?_
      have e2 : tWrite L tx c = (-1, L, tx) := by unfold tWrite; rw [if_pos (by omega)]
      rw [e2]; exact ⟨rfl, ⟨j, d, hQ⟩, g_Fr.rf⟩
theorem r_C_wipe (σ : g_H0) (j d : Nat) (L : Int) (tx T S B : Int → Int) (n : Int) (hQ : rC j d L tx T S B n σ) (wT : wfT T) (wS : wfS T S) : Ret mX8_wipe [.ref 0] σ (cPost σ L 0 tx T S B n) := by
  refine Ret.of moX8_wipe.1 (Nat.le_of_ble_eq_true rfl) (fun w => ?_)
  obtain ⟨hjd, c0, hT, ⟨rp, rN, hR⟩, hS, hS0, ⟨nx, hH⟩, ⟨Fe, Wy, Tr, Be, tH, pbh, pbt, pfo, hPl⟩, ⟨sx, sy, sw, sh, hA⟩, hJ, ⟨R0, hD⟩⟩ := id hQ
  obtain ⟨bT, t0, t1, t2, t3, t4, tt, th, tap, tcl, tc2⟩ := id wT
  obtain ⟨j0, j1, ⟨jf, j2, j2'⟩, ⟨jg, j3, j3'⟩, ⟨jC, j4, j4'⟩, j5, j6⟩ := id hJ
  obtain ⟨s0, C, W, K, s1, s2, s3, hC, hW, hK⟩ := id hS
  obtain ⟨w1, w2, w3, w4, w5, w6⟩ := id wS
  show Go w mX8_wipe (0, 0) 0 [some (.ref 0), none] [] σ (cPost σ L 0 tx T S B n)
  refine g_aload_n (q := 1) dX8_wipe_0 rfl rfl ?_
  refine g_get (q := 4) flX8_10 dX8_wipe_1 c0 rfl rfl ?_
  refine g_get (q := 7) flX8_87 dX8_wipe_4 hT.1 rfl rfl ?_
  refine g_istore_n (ml' := [some (.ref 0), some (.int (iZ L))]) (q := 8) dX8_wipe_7 rfl (Nat.le_of_ble_eq_true rfl) rfl rfl ?_
  refine g_aload_n (q := 9) dX8_wipe_8 rfl rfl ?_
  refine g_get (q := 12) flX8_10 dX8_wipe_9 c0 rfl rfl ?_
  refine g_callV (As := []) (rest := []) (q := 15) moX6_clear lkX8_wipe_84 dX8_wipe_12 rfl hT.1 (r_tclear σ 1 L tx tx hT) rfl rfl (Nat.le_of_ble_eq_true rfl) (Nat.le_of_ble_eq_true rfl) (Nat.le_of_ble_eq_true rfl) rfl ?_
  rintro rc σ1 ⟨rfl, q1, f1⟩
  show Go w mX8_wipe (0, 0) 15 [some (.ref 0), some (.int (iZ L))] [] σ1 (cPost σ L 0 tx T S B n)
  refine g_iload_n (q := 16) dX8_wipe_15 rfl rfl ?_
  refine z_iret dX8_wipe_16 rfl ?_
  exact ⟨rfl, ⟨j, d, rC.text q1 hQ f1⟩, f1.wk (fun k e => show k < 77 by omega)⟩
theorem zcp_zero (R : Int → Int) : zcp R (fun _ => 0) 0 0 51 0 = 0 ∧ zcp R (fun _ => 0) 0 0 51 1 = 0 ∧ zcp R (fun _ => 0) 0 0 51 2 = 0 ∧ zcp R (fun _ => 0) 0 0 51 3 = 0 ∧ zcp R (fun _ => 0) 0 0 51 4 = 0 := ⟨rfl, rfl, rfl, rfl, rfl⟩
theorem r_C_fault (σ : g_H0) (j d : Nat) (L : Int) (tx T S B : Int → Int) (n : Int) (hQ : rC j d L tx T S B n σ) (wT : wfT T) (wS : wfS T S) (hL : 0 ≤ L ∧ L ≤ 200) (ht : zBt L tx) (Rr : Int → Int) : Ret mX8_fault [.ref 0] σ (cPost σ (mFlt L tx Rr).1 L tx T S B n) := by
  refine Ret.of moX8_fault.1 (Nat.le_of_ble_eq_true rfl) (fun w => ?_)
  obtain ⟨hjd, c0, hT, ⟨rp, rN, hR⟩, hS, hS0, ⟨nx, hH⟩, ⟨Fe, Wy, Tr, Be, tH, pbh, pbt, pfo, hPl⟩, ⟨sx, sy, sw, sh, hA⟩, hJ, ⟨R0, hD⟩⟩ := id hQ
  obtain ⟨bT, t0, t1, t2, t3, t4, tt, th, tap, tcl, tc2⟩ := id wT
  obtain ⟨j0, j1, ⟨jf, j2, j2'⟩, ⟨jg, j3, j3'⟩, ⟨jC, j4, j4'⟩, j5, j6⟩ := id hJ
  obtain ⟨s0, C, W, K, s1, s2, s3, hC, hW, hK⟩ := id hS
  obtain ⟨w1, w2, w3, w4, w5, w6⟩ := id wS
  show Go w mX8_fault (0, 0) 0 [some (.ref 0)] [] σ (cPost σ (mFlt L tx Rr).1 L tx T S B n)
  refine g_aload_n (q := 1) dX8_fault_0 rfl rfl ?_
  refine g_get (q := 4) flX8_19 dX8_fault_1 c0 rfl rfl ?_
  refine g_aload_n (q := 5) dX8_fault_4 rfl rfl ?_
  refine g_get (q := 8) flX8_10 dX8_fault_5 c0 rfl rfl ?_
  refine g_aload_n (q := 9) dX8_fault_8 rfl rfl ?_
  refine g_get (q := 12) flX8_61 dX8_fault_9 c0 rfl rfl ?_
  refine g_callV (As := [.ref 1, .ref d]) (rest := []) (q := 15) moX4_firstFault lkX8_fault_90 dX8_fault_12 rfl hR.1 (r_firstFault σ 3 1 d (by omega) (by omega) rp rN hR L tx hT hL ht R0 hD (zcp Rr (fun _ => 0) 0 0 51) (zcp_zero Rr) (pR_0 Rr)) rfl rfl (Nat.le_of_ble_eq_true rfl) (Nat.le_of_ble_eq_true rfl) (Nat.le_of_ble_eq_true rfl) rfl ?_
  rintro rf σ1 ⟨hrf, q1, ⟨Rd, q2, q3⟩, f1⟩
  have bF : -2147483648 ≤ (mFlt L tx Rr).1 ∧ (mFlt L tx Rr).1 < 2147483648 := mFlF_b ht _ _ _ hL.2 (by omega) (pR_0 _)
  replace hrf : rf = some (.int (iZ (mFlt L tx Rr).1)) := hrf
  subst hrf
  replace q3 : (mFlt L tx Rr).1 = -4 → Rd = (mFlt L tx Rr).2 := q3
  have hQ1 := rC.rd q1 ⟨Rd, q2⟩ hQ f1
  have f1c : g_Fr pC σ σ1 := f1.wk (fun k e => show k < 77 by rcases e with e | e <;> (have := e.1; have := e.2; omega))
  obtain ⟨-, c01, hT1, ⟨rp1, rN1, hR1⟩, hS1, hS01, ⟨nx1, hH1⟩, ⟨Fe1, Wy1, Tr1, Be1, tH1, pbh1, pbt1, pfo1, hPl1⟩, ⟨sx1, sy1, sw1, sh1, hA1⟩, hJ1, ⟨R01, hD1⟩⟩ := id hQ1
  show Go w mX8_fault (0, 0) 15 [some (.ref 0)] [.int (iZ ((mFlt L tx Rr).1))] σ1 (cPost σ (mFlt L tx Rr).1 L tx T S B n)
  refine z_iret dX8_fault_15 rfl ?_
  exact ⟨rfl, ⟨j, d, hQ1⟩, f1c⟩
