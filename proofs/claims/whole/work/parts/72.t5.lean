theorem mNibF_mono (T : Int → Int) (h k t : Int) : ∀ (n : Nat) (i : Int) (S : Int → Int) (m : Int), m ≤ (mNibF T h k t n i S m).2.1
  | 0, i, S, m => Int.le_refl _
  | n + 1, i, S, m => by
    unfold mNibF
    split
    · exact mNibF_mono T h k t n _ _ _
    · split
      · exact Int.le_refl _
      · refine Int.le_trans ?_ (mNibF_mono T h k t n _ _ _)
        split <;> omega
theorem mNibF_zero {T S : Int → Int} {h k t : Int} (wT : wfT T) (wS : wfS T S) (hh : 0 ≤ h ∧ h < T 3) (hk : 0 ≤ k ∧ k < T 2) (hn : mNib T h k t ≠ -4) : ∀ (n : Nat) (i m : Int), 0 ≤ i → i + n ≤ mNib T h k t → (mNibF T h k t n i S m).2.2 = 0 → (mNibF T h k t n i S m).2.1 = m → ∀ q, i ≤ q → q < i + n → cUn S (mNx T h k t q) (mNy T h k t q) (mWide T k t) (mHigh T k t) = 0
  | 0, i, m, _, _, _, _ => fun q q0 q1 => by omega
  | n + 1, i, m, i0, i1, e1, e2 => by
    have bw := wT.w hk.1 hk.2 t
    have bg := wT.h hk.1 hk.2 t
    have t0 := wT.2.1
    have t1 := wT.2.2.1
    have qh := wT.2.2.2.2.2.2.2.1 h hh.1 hh.2
    have nxy := mNxy wT hh hk hn i0 (by omega)
    have cu := mCut_un wS.1 (x := mNx T h k t i) (y := mNy T h k t i) (a := mWide T k t) (b := mHigh T k t) bw.1 (by omega) (by omega)
    unfold mNibF at e1 e2
    by_cases c1 : mCutF S (mNx T h k t i) (mNy T h k t i) (mWide T k t) (mWide T k t * mHigh T k t).toNat 0 1 = 1
    · rw [if_pos c1] at e1 e2
      have ih := mNibF_zero wT wS hh hk hn n (i + 1) m (by omega) (by omega) e1 e2
      intro q q0 q1
      by_cases g : q = i
      · rw [g]; exact cu.mp c1
      · exact ih q (by omega) (by omega)
    · exfalso
      rw [if_neg c1] at e1 e2
      by_cases c2 : 0 < mWhy T S k (mNx T h k t i) (mNy T h k t i) t
      · rw [if_pos c2] at e1; exact absurd e1 (by show ¬ (1 : Int) = 0; omega)
      · rw [if_neg c2] at e2
        have en := mStrN_un (S := S) (x := mNx T h k t i) (y := mNy T h k t i) (a := mWide T k t) (b := mHigh T k t) (by omega) (by omega) (by omega)
        have bu := cUn_b (S := S) (x := mNx T h k t i) (y := mNy T h k t i) (w := mWide T k t) (h := mHigh T k t) wS.1 (by omega) (by omega)
        have nz : cUn S (mNx T h k t i) (mNy T h k t i) (mWide T k t) (mHigh T k t) ≠ 0 := fun e => c1 (cu.mpr e)
        rw [en, if_pos (by omega)] at e2
        have := mNibF_mono T h k t n (i + 1) (mStr T S k (mNx T h k t i) (mNy T h k t i) t) (m + 1)
        omega
theorem seg {w c n : Int} (hw : 1 ≤ w) (hc : 0 ≤ c ∧ c < n) (hwn : w ≤ n) : (0 ≤ c / w ∧ c / w < (n + w - 1) / w) ∧ (w * (c / w) ≤ c ∧ c < w * (c / w) + w) := by
  have e := Int.emod_add_mul_ediv c w
  have b1 := Int.emod_nonneg c (show w ≠ 0 by omega)
  have b2 := Int.emod_lt_of_pos c (show 0 < w by omega)
  have d0 := Int.ediv_nonneg hc.1 (show 0 ≤ w by omega)
  refine ⟨⟨d0, ?_⟩, by omega, by omega⟩
  have : c / w + 1 ≤ (n + w - 1) / w := by
    rw [Int.le_ediv_iff_mul_le (by omega), Int.add_mul, Int.one_mul, Int.mul_comm]
    omega
  omega
theorem nib_made {T S : Int → Int} {h k t : Int} (wT : wfT T) (wS : wfS T S) (hh : 0 ≤ h ∧ h < T 3) (hk : 0 ≤ k ∧ k < T 2) (hn : mNib T h k t ≠ -4) (ho : cOpen T S h ≠ 0) (hf : (mNibF T h k t (mNib T h k t).toNat 0 S 0).2.2 = 0) : 1 ≤ (mNibF T h k t (mNib T h k t).toNat 0 S 0).2.1 := by
  have mo := mNibF_mono T h k t (mNib T h k t).toNat 0 S 0
  apply Classical.byContradiction
  intro hc
  obtain ⟨nb1, nb2, nb3, nb4, nb5, nb6⟩ := mNib_ok wT hh hk hn
  have bw := wT.w hk.1 hk.2 t
  have bg := wT.h hk.1 hk.2 t
  have t0 := wT.2.1
  have t1 := wT.2.2.1
  have qh := wT.2.2.2.2.2.2.2.1 h hh.1 hh.2
  have mb := mNib_b (t := t) wT hh hk
  have hp1 := zmul144 nb5 nb6
  have all := mNibF_zero wT wS hh hk hn (mNib T h k t).toNat 0 0 (by omega) (by omega) hf (by omega)
  apply ho
  unfold cOpen
  rw [cUn_0 wS.1 (by omega) (by omega) (by omega)]
  intro c c0 c1
  have dz := zdm (c := c) (a := T (4 * h + 31)) (b := T (4 * h + 32)) c0 (by omega) c1
  have sx := seg (w := mWide T k t) (c := c % T (4 * h + 31)) (n := T (4 * h + 31)) bw.1 (by omega) nb2
  have sy := seg (w := mHigh T k t) (c := c / T (4 * h + 31)) (n := T (4 * h + 32)) bg.1 (by omega) nb3
  generalize hi : c % T (4 * h + 31) / mWide T k t = i at sx
  generalize hr : c / T (4 * h + 31) / mHigh T k t = r at sy
  have il := idx_lt (i := i) (r := r) nb4 sx.1 sy.1
  have dm := div_mod_at (a := ((T (4 * h + 31) + mWide T k t - 1) / mWide T k t)) (r := r) (i := i) nb5.1 sx.1
  have z := all (((T (4 * h + 31) + mWide T k t - 1) / mWide T k t) * r + i) il.2 (by omega)
  have nxy := mNxy wT hh hk hn il.2 il.1
  have ex : mNx T h k t (((T (4 * h + 31) + mWide T k t - 1) / mWide T k t) * r + i) ≤ T (4 * h + 29) + c % T (4 * h + 31) ∧ T (4 * h + 29) + c % T (4 * h + 31) < mNx T h k t (((T (4 * h + 31) + mWide T k t - 1) / mWide T k t) * r + i) + mWide T k t := by
    unfold mNx; rw [dm.2]; split <;> omega
  have ey : mNy T h k t (((T (4 * h + 31) + mWide T k t - 1) / mWide T k t) * r + i) ≤ T (4 * h + 30) + c / T (4 * h + 31) ∧ T (4 * h + 30) + c / T (4 * h + 31) < mNy T h k t (((T (4 * h + 31) + mWide T k t - 1) / mWide T k t) * r + i) + mHigh T k t := by
    unfold mNy; rw [dm.1]; split <;> omega
  generalize mNx T h k t (((T (4 * h + 31) + mWide T k t - 1) / mWide T k t) * r + i) = X at z nxy ex
  generalize mNy T h k t (((T (4 * h + 31) + mWide T k t - 1) / mWide T k t) * r + i) = Y at z nxy ey
  rw [cUn_0 wS.1 bw.1 (by omega) (by omega)] at z
  have d2 := div_mod_at (a := mWide T k t) (r := T (4 * h + 30) + c / T (4 * h + 31) - Y) (i := T (4 * h + 29) + c % T (4 * h + 31) - X) bw.1 (by omega)
  have il2 := idx_lt (nb := mWide T k t * mHigh T k t) (pr := mWide T k t) (rw_ := mHigh T k t) (r := T (4 * h + 30) + c / T (4 * h + 31) - Y) (i := T (4 * h + 29) + c % T (4 * h + 31) - X) rfl (by omega) (by omega)
  have zz := z _ il2.2 il2.1
  rw [d2.1, d2.2] at zz
  rw [← zz]; congr 1; omega
theorem mNibF_ub (T : Int → Int) (h k t : Int) : ∀ (n : Nat) (i : Int) (S : Int → Int) (m : Int), (mNibF T h k t n i S m).2.1 ≤ m + n
  | 0, i, S, m => by unfold mNibF; show m ≤ m + ((0 : Nat) : Int); omega
  | n + 1, i, S, m => by
    unfold mNibF
    split
    · have := mNibF_ub T h k t n (i + 1) S m; omega
    · split
      · show m ≤ m + ((n + 1 : Nat) : Int); omega
      · refine Int.le_trans (mNibF_ub T h k t n _ _ _) ?_
        split <;> omega
theorem r_C_nibble (σ : g_H0) (j d : Nat) (L : Int) (tx T S B : Int → Int) (n : Int) (hQ : rC j d L tx T S B n σ) (wT : wfT T) (wS : wfS T S) (h k t : Int) (b_h : -2147483648 ≤ h ∧ h < 2147483648) (b_k : -2147483648 ≤ k ∧ k < 2147483648) (b_t : -2147483648 ≤ t ∧ t < 2147483648) : Ret mX8_nibble [.ref 0, .int (iZ h), .int (iZ k), .int (iZ t)] σ (cPost σ (spNibble T S B n h k t).1 L tx T (spNibble T S B n h k t).2.1 (spNibble T S B n h k t).2.2.1 (spNibble T S B n h k t).2.2.2) := by
  refine Ret.of moX8_nibble.1 (Nat.le_of_ble_eq_true rfl) (fun w => ?_)
  obtain ⟨hjd, c0, hT, ⟨rp, rN, hR⟩, hS, hS0, ⟨nx, hH⟩, ⟨Fe, Wy, Tr, Be, tH, pbh, pbt, pfo, hPl⟩, ⟨sx, sy, sw, sh, hA⟩, hJ, ⟨R0, hD⟩⟩ := id hQ
  obtain ⟨bT, t0, t1, t2, t3, t4, tt, th, tap, tcl, tc2⟩ := id wT
  obtain ⟨j0, j1, ⟨jf, j2, j2'⟩, ⟨jg, j3, j3'⟩, ⟨jC, j4, j4'⟩, j5, j6⟩ := id hJ
  obtain ⟨s0, C, W, K, s1, s2, s3, hC, hW, hK⟩ := id hS
  obtain ⟨w1, w2, w3, w4, w5, w6⟩ := id wS
  show Go w mX8_nibble (0, 0) 0 [some (.ref 0), some (.int (iZ h)), some (.int (iZ k)), some (.int (iZ t)), none] [] σ (cPost σ (spNibble T S B n h k t).1 L tx T (spNibble T S B n h k t).2.1 (spNibble T S B n h k t).2.2.1 (spNibble T S B n h k t).2.2.2)
  refine g_aload_n (q := 1) dX8_nibble_0 rfl rfl ?_
  refine g_iload_n (q := 2) dX8_nibble_1 rfl rfl ?_
  refine g_callV (As := [.int (iZ h)]) (rest := []) (q := 5) moX8_isHole lkX8_nibble_123 dX8_nibble_2 rfl c0 (r_C_isHole σ j d L tx T S B n hQ wT wS h (by omega)) rfl rfl (Nat.le_of_ble_eq_true rfl) (Nat.le_of_ble_eq_true rfl) (Nat.le_of_ble_eq_true rfl) rfl ?_
  rintro rQ sQ hpQ
  rw [hpQ.1, hpQ.2]
  show Go w mX8_nibble (0, 0) 5 [some (.ref 0), some (.int (iZ h)), some (.int (iZ k)), some (.int (iZ t)), none] [.int (bI (0 ≤ h ∧ h < T 3))] σ (cPost σ (spNibble T S B n h k t).1 L tx T (spNibble T S B n h k t).2.1 (spNibble T S B n h k t).2.2.1 (spNibble T S B n h k t).2.2.2)
  refine z_ifB_eq (t := 23) (q := 8) dX8_nibble_5 rfl rfl (fun pc1 => ?_) (fun pc1 => ?_)
  · refine z_iconst (q := 24) dX8_nibble_23 rfl ?_
    refine z_iret dX8_nibble_24 rfl ?_
    have e2 : spNibble T S B n h k t = (-1, S, B, n) := by unfold spNibble; rw [if_pos (by omega)]
    rw [e2]; exact ⟨rfl, ⟨j, d, hQ⟩, g_Fr.rf⟩
  · refine g_aload_n (q := 9) dX8_nibble_8 rfl rfl ?_
    refine g_iload_n (q := 10) dX8_nibble_9 rfl rfl ?_
    refine g_callV (As := [.int (iZ k)]) (rest := []) (q := 13) moX8_isStation lkX8_nibble_127 dX8_nibble_10 rfl c0 (r_C_isStation σ j d L tx T S B n hQ wT wS k (by omega)) rfl rfl (Nat.le_of_ble_eq_true rfl) (Nat.le_of_ble_eq_true rfl) (Nat.le_of_ble_eq_true rfl) rfl ?_
    rintro rQ sQ hpQ
    rw [hpQ.1, hpQ.2]
    show Go w mX8_nibble (0, 0) 13 [some (.ref 0), some (.int (iZ h)), some (.int (iZ k)), some (.int (iZ t)), none] [.int (bI (0 ≤ k ∧ k < T 2))] σ (cPost σ (spNibble T S B n h k t).1 L tx T (spNibble T S B n h k t).2.1 (spNibble T S B n h k t).2.2.1 (spNibble T S B n h k t).2.2.2)
    refine z_ifB_eq (t := 23) (q := 16) dX8_nibble_13 rfl rfl (fun pc2 => ?_) (fun pc2 => ?_)
    · refine z_iconst (q := 24) dX8_nibble_23 rfl ?_
      refine z_iret dX8_nibble_24 rfl ?_
      have e2 : spNibble T S B n h k t = (-1, S, B, n) := by unfold spNibble; rw [if_pos (by omega)]
      rw [e2]; exact ⟨rfl, ⟨j, d, hQ⟩, g_Fr.rf⟩
    · refine g_iload_n (q := 17) dX8_nibble_16 rfl rfl ?_
      refine g_callS (As := [.int (iZ t)]) (rest := []) (q := 20) moX8_isFlag lkX8_nibble_130 dX8_nibble_17 (r_isFlag σ t (by omega)) rfl rfl (Nat.le_of_ble_eq_true rfl) (Nat.le_of_ble_eq_true rfl) (Nat.le_of_ble_eq_true rfl) rfl ?_
      rintro rQ sQ hpQ
      rw [hpQ.1, hpQ.2]
      show Go w mX8_nibble (0, 0) 20 [some (.ref 0), some (.int (iZ h)), some (.int (iZ k)), some (.int (iZ t)), none] [.int (bI (t = 0 ∨ t = 1))] σ (cPost σ (spNibble T S B n h k t).1 L tx T (spNibble T S B n h k t).2.1 (spNibble T S B n h k t).2.2.1 (spNibble T S B n h k t).2.2.2)
      refine z_ifB_ne (t := 25) (q := 23) dX8_nibble_20 rfl rfl (fun pc3 => ?_) (fun pc3 => ?_)
      · refine g_aload_n (q := 26) dX8_nibble_25 rfl rfl ?_
        refine g_get (q := 29) flX8_26 dX8_nibble_26 c0 rfl rfl ?_
        refine g_aload_n (q := 30) dX8_nibble_29 rfl rfl ?_
        refine g_get (q := 33) flX8_57 dX8_nibble_30 c0 rfl rfl ?_
        refine g_get (q := 36) flX8_133 dX8_nibble_33 j0 rfl rfl ?_
        refine g_iload_n (q := 37) dX8_nibble_36 rfl rfl ?_
        obtain ⟨f4, e4, g4, k4⟩ := hJ.hole (s := h) (by omega) (by omega) (by omega)
        have k4 : σ[(j + 11 + h.toNat)]? = some (.inr (0, [.int (iZ (T (4 * h + 29))), .int (iZ (T (4 * h + 30))), .int (iZ (T (4 * h + 31))), .int (iZ (T (4 * h + 32)))])) := k4
        have q4 := th h (by omega) (by omega)
        refine z_aald (b := (j + 11 + h.toNat)) (q := 38) dX8_nibble_37 rfl e4 (by omega) g4 rfl ?_
        refine g_callV (As := [.ref (j + 11 + h.toNat)]) (rest := []) (q := 41) moX5_isCut lkX8_nibble_137 dX8_nibble_38 rfl s0 (r_isCut σ 5 T S hS wT wS (j + 11 + h.toNat) (T (4 * h + 29)) (T (4 * h + 30)) (T (4 * h + 31)) (T (4 * h + 32)) k4 (by omega) (by omega)) rfl rfl (Nat.le_of_ble_eq_true rfl) (Nat.le_of_ble_eq_true rfl) (Nat.le_of_ble_eq_true rfl) rfl ?_
        rintro rQ sQ hpQ
        rw [hpQ.1, hpQ.2]
        show Go w mX8_nibble (0, 0) 41 [some (.ref 0), some (.int (iZ h)), some (.int (iZ k)), some (.int (iZ t)), none] [.int (bI (cOpen T S h = 0))] σ (cPost σ (spNibble T S B n h k t).1 L tx T (spNibble T S B n h k t).2.1 (spNibble T S B n h k t).2.2.1 (spNibble T S B n h k t).2.2.2)
        have eo := mOpen_c (S := S) wT (h := h) (by omega)
        refine z_ifB_eq (t := 47) (q := 44) dX8_nibble_41 rfl rfl (fun pc5 => ?_) (fun pc5 => ?_)
        · refine g_aload_n (q := 48) dX8_nibble_47 rfl rfl ?_
          refine g_get (q := 51) flX8_30 dX8_nibble_48 c0 rfl rfl ?_
          refine g_aload_n (q := 52) dX8_nibble_51 rfl rfl ?_
          refine g_get (q := 55) flX8_26 dX8_nibble_52 c0 rfl rfl ?_
          refine g_callV (As := [.ref 5]) (rest := []) (q := 58) moX5_copyFrom lkX8_nibble_141 dX8_nibble_55 rfl hS0.choose_spec.choose_spec.choose_spec.choose_spec.choose_spec.choose_spec.choose_spec.1 (r_copyFrom σ 9 5 (by omega) T S hS0 hS (by omega)) rfl rfl (Nat.le_of_ble_eq_true rfl) (Nat.le_of_ble_eq_true rfl) (Nat.le_of_ble_eq_true rfl) rfl ?_
          rintro rc σ1 ⟨rfl, q1, f1⟩
          have hQ1 := rC.trial q1.s0 hQ f1
          obtain ⟨-, c01, hT1, ⟨rp1, rN1, hR1⟩, hS1, hS01, ⟨nx1, hH1⟩, ⟨Fe1, Wy1, Tr1, Be1, tH1, pbh1, pbt1, pfo1, hPl1⟩, ⟨sx1, sy1, sw1, sh1, hA1⟩, hJ1, ⟨R01, hD1⟩⟩ := id hQ1
          show Go w mX8_nibble (0, 0) 58 [some (.ref 0), some (.int (iZ h)), some (.int (iZ k)), some (.int (iZ t)), none] [] σ1 (cPost σ (spNibble T S B n h k t).1 L tx T (spNibble T S B n h k t).2.1 (spNibble T S B n h k t).2.2.1 (spNibble T S B n h k t).2.2.2)
          refine g_aload_n (q := 59) dX8_nibble_58 rfl rfl ?_
          refine g_aload_n (q := 60) dX8_nibble_59 rfl rfl ?_
          refine g_get (q := 63) flX8_57 dX8_nibble_60 c01 rfl rfl ?_
          refine g_get (q := 66) flX8_133 dX8_nibble_63 hJ1.1 rfl rfl ?_
          refine g_iload_n (q := 67) dX8_nibble_66 rfl rfl ?_
          obtain ⟨f6, e6, g6, k6⟩ := hJ1.hole (s := h) (by omega) (by omega) (by omega)
          have k6 : σ1[(j + 11 + h.toNat)]? = some (.inr (0, [.int (iZ (T (4 * h + 29))), .int (iZ (T (4 * h + 30))), .int (iZ (T (4 * h + 31))), .int (iZ (T (4 * h + 32)))])) := k6
          have q6 := th h (by omega) (by omega)
          refine z_aald (b := (j + 11 + h.toNat)) (q := 68) dX8_nibble_67 rfl e6 (by omega) g6 rfl ?_
          refine g_iload_n (q := 69) dX8_nibble_68 rfl rfl ?_
          have J7 : ∀ z8 : Int, z8 = t → Go w mX8_nibble (0, 0) 79 [some (.ref 0), some (.int (iZ h)), some (.int (iZ k)), some (.int (iZ t)), none] [.int (iZ z8), .int (iZ k), .ref (j + 11 + h.toNat), .ref 0] σ1 (cPost σ (spNibble T S B n h k t).1 L tx T (spNibble T S B n h k t).2.1 (spNibble T S B n h k t).2.2.1 (spNibble T S B n h k t).2.2.2) := by
            intro z8 e9
            rw [e9]
            refine g_callV (As := [.ref (j + 11 + h.toNat), .int (iZ k), .int (iZ t)]) (rest := []) (q := 82) moX8_punchAll lkX8_nibble_144 dX8_nibble_79 rfl c01 (r_C_punchAll σ1 j d L tx T S B n hQ1 wT S q1 wS h k t (by omega) (by omega) (by omega)) rfl rfl (Nat.le_of_ble_eq_true rfl) (Nat.le_of_ble_eq_true rfl) (Nat.le_of_ble_eq_true rfl) rfl ?_
            rintro rp σ2 ⟨hpp, hQ2, f2⟩
            rcases hpp with ⟨hn4, rfl⟩ | ⟨hn4, hf1, rfl⟩ | ⟨hn4, hf0, rfl, hU2⟩
            · skip
              show Go w mX8_nibble (0, 0) 82 [some (.ref 0), some (.int (iZ h)), some (.int (iZ k)), some (.int (iZ t)), none] [.int (iZ 0)] σ2 (cPost σ (spNibble T S B n h k t).1 L tx T (spNibble T S B n h k t).2.1 (spNibble T S B n h k t).2.2.1 (spNibble T S B n h k t).2.2.2)
              refine g_istore (ml' := [some (.ref 0), some (.int (iZ h)), some (.int (iZ k)), some (.int (iZ t)), some (.int (iZ 0))]) (q := 84) dX8_nibble_82 rfl (Nat.le_of_ble_eq_true rfl) rfl rfl ?_
              refine g_iload (q := 86) dX8_nibble_84 rfl rfl ?_
              refine z_if_ne (t := 92) (q := 89) dX8_nibble_86 rfl (by omega) rfl (fun pc10 => ?_) (fun pc10 => ?_)
              · exfalso; omega
              · refine g_bipush (v := iZ (-2)) (q := 91) dX8_nibble_89 (by decide) rfl ?_
                refine z_iret dX8_nibble_91 rfl ?_
                have e2 : spNibble T S B n h k t = (-2, S, B, n) := by unfold spNibble; rw [if_neg (by omega), if_pos (by omega)]
                rw [e2]; exact ⟨rfl, ⟨j, d, hQ2⟩, ((g_Fr.rf.tr (f1.wk (fun k e => show k < 77 by have := e.1; have := e.2; omega))).tr f2)⟩
            · skip
              show Go w mX8_nibble (0, 0) 82 [some (.ref 0), some (.int (iZ h)), some (.int (iZ k)), some (.int (iZ t)), none] [.int (iZ 0)] σ2 (cPost σ (spNibble T S B n h k t).1 L tx T (spNibble T S B n h k t).2.1 (spNibble T S B n h k t).2.2.1 (spNibble T S B n h k t).2.2.2)
              refine g_istore (ml' := [some (.ref 0), some (.int (iZ h)), some (.int (iZ k)), some (.int (iZ t)), some (.int (iZ 0))]) (q := 84) dX8_nibble_82 rfl (Nat.le_of_ble_eq_true rfl) rfl rfl ?_
              refine g_iload (q := 86) dX8_nibble_84 rfl rfl ?_
              refine z_if_ne (t := 92) (q := 89) dX8_nibble_86 rfl (by omega) rfl (fun pc11 => ?_) (fun pc11 => ?_)
              · exfalso; omega
              · refine g_bipush (v := iZ (-2)) (q := 91) dX8_nibble_89 (by decide) rfl ?_
                refine z_iret dX8_nibble_91 rfl ?_
                have e2 : spNibble T S B n h k t = (-2, S, B, n) := by unfold spNibble; rw [if_neg (by omega), if_neg (by omega), if_pos hf1]
                rw [e2]; exact ⟨rfl, ⟨j, d, hQ2⟩, ((g_Fr.rf.tr (f1.wk (fun k e => show k < 77 by have := e.1; have := e.2; omega))).tr f2)⟩
            · have nm := nib_made wT wS (by omega) (by omega) hn4 (by omega) hf0
              have nmb := mNibF_ub T h k t (mNib T h k t).toNat 0 S 0
              have mb := mNib_b (h := h) (k := k) (t := t) wT (by omega) (by omega)
              obtain ⟨-, c02, hT2, ⟨rp2, rN2, hR2⟩, hS2, hS02, ⟨nx2, hH2⟩, ⟨Fe2, Wy2, Tr2, Be2, tH2, pbh2, pbt2, pfo2, hPl2⟩, ⟨sx2, sy2, sw2, sh2, hA2⟩, hJ2, ⟨R02, hD2⟩⟩ := id hQ2
              show Go w mX8_nibble (0, 0) 82 [some (.ref 0), some (.int (iZ h)), some (.int (iZ k)), some (.int (iZ t)), none] [.int (iZ ((mNibF T h k t (mNib T h k t).toNat 0 S 0).2.1))] σ2 (cPost σ (spNibble T S B n h k t).1 L tx T (spNibble T S B n h k t).2.1 (spNibble T S B n h k t).2.2.1 (spNibble T S B n h k t).2.2.2)
              refine g_istore (ml' := [some (.ref 0), some (.int (iZ h)), some (.int (iZ k)), some (.int (iZ t)), some (.int (iZ ((mNibF T h k t (mNib T h k t).toNat 0 S 0).2.1)))]) (q := 84) dX8_nibble_82 rfl (Nat.le_of_ble_eq_true rfl) rfl rfl ?_
              refine g_iload (q := 86) dX8_nibble_84 rfl rfl ?_
              refine z_if_ne (t := 92) (q := 89) dX8_nibble_86 rfl (by omega) rfl (fun pc12 => ?_) (fun pc12 => ?_)
              · refine g_aload_n (q := 93) dX8_nibble_92 rfl rfl ?_
                refine g_get (q := 96) flX8_36 dX8_nibble_93 c02 rfl rfl ?_
                refine g_aload_n (q := 97) dX8_nibble_96 rfl rfl ?_
                refine g_get (q := 100) flX8_26 dX8_nibble_97 c02 rfl rfl ?_
                refine g_callV (As := [.ref 5]) (rest := []) (q := 103) moX1_keep lkX8_nibble_115 dX8_nibble_100 rfl hH2.1 (r_keep σ2 13 5 (by omega) T B S n nx2 hH2 hS2 (by omega)) rfl rfl (Nat.le_of_ble_eq_true rfl) (Nat.le_of_ble_eq_true rfl) (Nat.le_of_ble_eq_true rfl) rfl ?_
                rintro rk σ3 ⟨rfl, q3, f3⟩
                have hQ3 := rC.hist q3 hQ2 f3
                have hU3 := hU2.fr (σ' := σ3) (fun k k0 k1 => f3.2 k (fun e => by have := e.1; omega))
                obtain ⟨-, c03, hT3, ⟨rp3, rN3, hR3⟩, hS3, hS03, ⟨nx3, hH3⟩, ⟨Fe3, Wy3, Tr3, Be3, tH3, pbh3, pbt3, pfo3, hPl3⟩, ⟨sx3, sy3, sw3, sh3, hA3⟩, hJ3, ⟨R03, hD3⟩⟩ := id hQ3
                show Go w mX8_nibble (0, 0) 103 [some (.ref 0), some (.int (iZ h)), some (.int (iZ k)), some (.int (iZ t)), some (.int (iZ ((mNibF T h k t (mNib T h k t).toNat 0 S 0).2.1)))] [] σ3 (cPost σ (spNibble T S B n h k t).1 L tx T (spNibble T S B n h k t).2.1 (spNibble T S B n h k t).2.2.1 (spNibble T S B n h k t).2.2.2)
                refine g_aload_n (q := 104) dX8_nibble_103 rfl rfl ?_
                refine g_get (q := 107) flX8_26 dX8_nibble_104 c03 rfl rfl ?_
                refine g_aload_n (q := 108) dX8_nibble_107 rfl rfl ?_
                refine g_get (q := 111) flX8_30 dX8_nibble_108 c03 rfl rfl ?_
                refine g_callV (As := [.ref 9]) (rest := []) (q := 114) moX5_copyFrom lkX8_nibble_141 dX8_nibble_111 rfl hS3.1 (r_copyFrom σ3 5 9 (by omega) T _ hS3.s0 hU3 (by omega)) rfl rfl (Nat.le_of_ble_eq_true rfl) (Nat.le_of_ble_eq_true rfl) (Nat.le_of_ble_eq_true rfl) rfl ?_
                rintro rc σ4 ⟨rfl, q4, f4⟩
                have hQ4 := rC.now q4 hQ3 f4
                show Go w mX8_nibble (0, 0) 114 [some (.ref 0), some (.int (iZ h)), some (.int (iZ k)), some (.int (iZ t)), some (.int (iZ ((mNibF T h k t (mNib T h k t).toNat 0 S 0).2.1)))] [] σ4 (cPost σ (spNibble T S B n h k t).1 L tx T (spNibble T S B n h k t).2.1 (spNibble T S B n h k t).2.2.1 (spNibble T S B n h k t).2.2.2)
                refine g_iload (q := 116) dX8_nibble_114 rfl rfl ?_
                refine z_iret dX8_nibble_116 rfl ?_
                have e2 : spNibble T S B n h k t = ((mNibF T h k t (mNib T h k t).toNat 0 S 0).2.1, (mNibF T h k t (mNib T h k t).toNat 0 S 0).1, mNoteB B S n, mNoteN n) := by unfold spNibble; rw [if_neg (by omega), if_neg (by omega), if_neg (by omega)]
                rw [e2]; exact ⟨rfl, ⟨j, d, hQ4⟩, ((((g_Fr.rf.tr (f1.wk (fun k e => show k < 77 by have := e.1; have := e.2; omega))).tr f2).tr (f3.wk (fun k e => show k < 77 by have := e.1; have := e.2; omega))).tr (f4.wk (fun k e => show k < 77 by have := e.1; have := e.2; omega)))⟩
              · refine g_bipush (v := iZ (-2)) (q := 91) dX8_nibble_89 (by decide) rfl ?_
                refine z_iret dX8_nibble_91 rfl ?_
                exfalso; omega
          refine g_iload_n (q := 70) dX8_nibble_69 rfl rfl ?_
          refine z_iconst (q := 71) dX8_nibble_70 rfl ?_
          refine z_icmp_ne (t := 78) (q := 74) dX8_nibble_71 rfl (by omega) rfl (fun pc13 => ?_) (fun pc13 => ?_)
          · refine z_iconst (q := 79) dX8_nibble_78 rfl ?_
            exact J7 _ (by omega)
          · refine z_iconst (q := 75) dX8_nibble_74 rfl ?_
            refine g_goto (q := 79) dX8_nibble_75 rfl ?_
            exact J7 _ (by omega)
        · refine g_bipush (v := iZ (-2)) (q := 46) dX8_nibble_44 (by decide) rfl ?_
          refine z_iret dX8_nibble_46 rfl ?_
          have e2 : spNibble T S B n h k t = (-2, S, B, n) := by unfold spNibble; rw [if_neg (by omega), if_pos (by omega)]
          rw [e2]; exact ⟨rfl, ⟨j, d, hQ⟩, g_Fr.rf⟩
      · refine z_iconst (q := 24) dX8_nibble_23 rfl ?_
        refine z_iret dX8_nibble_24 rfl ?_
        have e2 : spNibble T S B n h k t = (-1, S, B, n) := by unfold spNibble; rw [if_pos (by omega)]
        rw [e2]; exact ⟨rfl, ⟨j, d, hQ⟩, g_Fr.rf⟩
