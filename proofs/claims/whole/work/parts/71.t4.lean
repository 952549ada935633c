theorem mNibF_01 (T : Int → Int) (h k t : Int) : ∀ (n : Nat) (i : Int) (S : Int → Int) (m : Int), (mNibF T h k t n i S m).2.2 = 0 ∨ (mNibF T h k t n i S m).2.2 = 1
  | 0, i, S, m => Or.inl rfl
  | n + 1, i, S, m => by
    unfold mNibF
    split
    · exact mNibF_01 T h k t n _ _ _
    · split
      · exact Or.inr rfl
      · exact mNibF_01 T h k t n _ _ _
theorem nx_eq {T : Int → Int} {h k t r i : Int} (hp : 1 ≤ ((T (4 * h + 31) + mWide T k t - 1) / mWide T k t)) (hi : 0 ≤ i ∧ i < ((T (4 * h + 31) + mWide T k t - 1) / mWide T k t)) : T (4 * h + 29) + zmin (i * mWide T k t) (T (4 * h + 31) - mWide T k t) = mNx T h k t (((T (4 * h + 31) + mWide T k t - 1) / mWide T k t) * r + i) := by
  have dm := div_mod_at (a := ((T (4 * h + 31) + mWide T k t - 1) / mWide T k t)) (r := r) (i := i) hp hi
  unfold mNx
  rw [dm.2]
  have z := zmin_c (i * mWide T k t) (T (4 * h + 31) - mWide T k t)
  rw [Int.mul_comm i] at z ⊢
  split <;> omega
theorem ny_eq {T : Int → Int} {h k t r i : Int} (hp : 1 ≤ ((T (4 * h + 31) + mWide T k t - 1) / mWide T k t)) (hi : 0 ≤ i ∧ i < ((T (4 * h + 31) + mWide T k t - 1) / mWide T k t)) : T (4 * h + 30) + zmin (r * mHigh T k t) (T (4 * h + 32) - mHigh T k t) = mNy T h k t (((T (4 * h + 31) + mWide T k t - 1) / mWide T k t) * r + i) := by
  have dm := div_mod_at (a := ((T (4 * h + 31) + mWide T k t - 1) / mWide T k t)) (r := r) (i := i) hp hi
  unfold mNy
  rw [dm.1]
  have z := zmin_c (r * mHigh T k t) (T (4 * h + 32) - mHigh T k t)
  rw [Int.mul_comm r] at z ⊢
  split <;> omega
theorem idx_lt {nb pr rw_ r i : Int} (e : nb = pr * rw_) (hi : 0 ≤ i ∧ i < pr) (hr : 0 ≤ r ∧ r < rw_) : pr * r + i < nb ∧ 0 ≤ pr * r + i := by
  have h1 : pr * r ≤ pr * (rw_ - 1) := Int.mul_le_mul_of_nonneg_left (by omega) (by omega)
  have h2 : 0 ≤ pr * r := Int.mul_nonneg (by omega) hr.1
  rw [Int.mul_sub, Int.mul_one] at h1
  omega
theorem l_pa1 (w : g_W) (σ0 : g_H0) (j d : Nat) (L : Int) (tx T S B : Int → Int) (n : Int) (wT : wfT T) (h k t : Int) (bh : 0 ≤ h ∧ h < T 3) (bk : 0 ≤ k ∧ k < T 2) (bt_ : 0 ≤ t ∧ t ≤ 1) (hn : mNib T h k t ≠ -4) (F : (Int → Int) × Int × Int) (r : Int) (br : 0 ≤ r ∧ r < ((T (4 * h + 32) + mHigh T k t - 1) / mHigh T k t)) (q : Nat) (K : ∀ (U : Int → Int) (m : Int) (σ : g_H0), rC j d L tx T S B n σ → rSt 9 T U σ → wfS T U → g_Fr pC σ0 σ → mNibF T h k t q (((T (4 * h + 31) + mWide T k t - 1) / mWide T k t) * (r + 1)) U m = F → Go w mX8_punchAll (0, 0) 227 [some (.ref 0), some (.ref (j + 11 + h.toNat)), some (.int (iZ k)), some (.int (iZ t)), some (.ref (j + 5 + k.toNat)), some (.int (iZ (cSt (T (4 * h + 32)) (mHigh T k t)))), some (.int (iZ (cSt (T (4 * h + 31)) (mWide T k t)))), some (.int (iZ m)), some (.int (iZ r)), none] [] σ (fun r σ' => ((F.2.2 = 1 ∧ r = some (.int (iZ 0))) ∨ (F.2.2 = 0 ∧ r = some (.int (iZ F.2.1)) ∧ rSt 9 T F.1 σ')) ∧ rC j d L tx T S B n σ' ∧ g_Fr pC σ0 σ')) : ∀ (p : Nat) (i : Int) (U : Int → Int) (m : Int) (σ : g_H0), 0 ≤ i → i + p = ((T (4 * h + 31) + mWide T k t - 1) / mWide T k t) → mNibF T h k t (p + q) (((T (4 * h + 31) + mWide T k t - 1) / mWide T k t) * r + i) U m = F → rC j d L tx T S B n σ → rSt 9 T U σ → wfS T U → g_Fr pC σ0 σ → Go w mX8_punchAll (0, 0) 69 [some (.ref 0), some (.ref (j + 11 + h.toNat)), some (.int (iZ k)), some (.int (iZ t)), some (.ref (j + 5 + k.toNat)), some (.int (iZ (cSt (T (4 * h + 32)) (mHigh T k t)))), some (.int (iZ (cSt (T (4 * h + 31)) (mWide T k t)))), some (.int (iZ m)), some (.int (iZ r)), some (.int (iZ i))] [] σ (fun r σ' => ((F.2.2 = 1 ∧ r = some (.int (iZ 0))) ∨ (F.2.2 = 0 ∧ r = some (.int (iZ F.2.1)) ∧ rSt 9 T F.1 σ')) ∧ rC j d L tx T S B n σ' ∧ g_Fr pC σ0 σ') := by
  intro p
  induction p with
  | zero =>
    intro i U m σ i0 i1 hF hQ hU wU hf
    obtain ⟨nb1, nb2, nb3, nb4, nb5, nb6⟩ := mNib_ok wT bh bk hn
    have bw := wT.w bk.1 bk.2 t
    have bg := wT.h bk.1 bk.2 t
    obtain ⟨bT, t0, t1, t2, t3, t4, tt, th, tap, tcl, tc2⟩ := id wT
    have qh := th h bh.1 bh.2
    have qt := tt k bk.1 bk.2
    have ep : cSt (T (4 * h + 31)) (mWide T k t) = ((T (4 * h + 31) + mWide T k t - 1) / mWide T k t) := by unfold cSt; rw [if_neg (by omega)]
    have er : cSt (T (4 * h + 32)) (mHigh T k t) = ((T (4 * h + 32) + mHigh T k t - 1) / mHigh T k t) := by unfold cSt; rw [if_neg (by omega)]
    obtain ⟨hjd, c0, hT, hR, hS, hS0, hH, hPl, ⟨sx, sy, sw, sh, hA⟩, hJ, hD⟩ := id hQ
    obtain ⟨_, -, -, hX⟩ := hJ.hole (s := h) bh.1 bh.2 (by omega)
    obtain ⟨_, -, -, hY⟩ := hJ.tool (s := k) bk.1 bk.2 (by omega)
    refine g_iload (q := 71) dX8_punchAll_69 rfl rfl ?_
    refine g_iload (q := 73) dX8_punchAll_71 rfl rfl ?_
    refine z_icmp_ge (t := 227) (q := 76) dX8_punchAll_73 rfl (by omega) rfl (fun pc1 => ?_) (fun pc1 => ?_)
    · refine Go.wk (ml' := [some (.ref 0), some (.ref (j + 11 + h.toNat)), some (.int (iZ k)), some (.int (iZ t)), some (.ref (j + 5 + k.toNat)), some (.int (iZ (cSt (T (4 * h + 32)) (mHigh T k t)))), some (.int (iZ (cSt (T (4 * h + 31)) (mWide T k t)))), some (.int (iZ m)), some (.int (iZ r)), none]) ⟨Or.inr rfl, Or.inr rfl, Or.inr rfl, Or.inr rfl, Or.inr rfl, Or.inr rfl, Or.inr rfl, Or.inr rfl, Or.inr rfl, Or.inl rfl, trivial⟩ ?_
      refine K U m σ hQ hU wU hf ?_
      rw [← hF, Nat.zero_add]; congr 1; rw [Int.mul_add, Int.mul_one]; omega
    · exfalso
      omega
  | succ p ih =>
    intro i U m σ i0 i1 hF hQ hU wU hf
    obtain ⟨nb1, nb2, nb3, nb4, nb5, nb6⟩ := mNib_ok wT bh bk hn
    have bw := wT.w bk.1 bk.2 t
    have bg := wT.h bk.1 bk.2 t
    obtain ⟨bT, t0, t1, t2, t3, t4, tt, th, tap, tcl, tc2⟩ := id wT
    have qh := th h bh.1 bh.2
    have qt := tt k bk.1 bk.2
    have ep : cSt (T (4 * h + 31)) (mWide T k t) = ((T (4 * h + 31) + mWide T k t - 1) / mWide T k t) := by unfold cSt; rw [if_neg (by omega)]
    have er : cSt (T (4 * h + 32)) (mHigh T k t) = ((T (4 * h + 32) + mHigh T k t - 1) / mHigh T k t) := by unfold cSt; rw [if_neg (by omega)]
    obtain ⟨hjd, c0, hT, hR, hS, hS0, hH, hPl, ⟨sx, sy, sw, sh, hA⟩, hJ, hD⟩ := id hQ
    obtain ⟨_, -, -, hX⟩ := hJ.hole (s := h) bh.1 bh.2 (by omega)
    obtain ⟨_, -, -, hY⟩ := hJ.tool (s := k) bk.1 bk.2 (by omega)
    refine g_iload (q := 71) dX8_punchAll_69 rfl rfl ?_
    refine g_iload (q := 73) dX8_punchAll_71 rfl rfl ?_
    refine z_icmp_ge (t := 227) (q := 76) dX8_punchAll_73 rfl (by omega) rfl (fun pc1 => ?_) (fun pc1 => ?_)
    · exfalso
      omega
    · refine g_aload (q := 78) dX8_punchAll_76 rfl rfl ?_
      refine g_aload_n (q := 79) dX8_punchAll_78 rfl rfl ?_
      refine g_get (q := 82) flX8_50 dX8_punchAll_79 c0 rfl rfl ?_
      refine z_iconst (q := 83) dX8_punchAll_82 rfl ?_
      refine z_iconst (q := 84) dX8_punchAll_83 rfl ?_
      refine g_iload_n (q := 85) dX8_punchAll_84 rfl rfl ?_
      refine g_callV (As := [.ref 44, .int (iZ 0), .int (iZ 0), .int (iZ t)]) (rest := []) (q := 88) moX7_stampAt lkX8_punchAll_105 dX8_punchAll_85 rfl hY (r_stampAt σ (j + 5 + k.toNat) 44 (by omega) (T (4 * k + 5)) (T (4 * k + 6)) (T (4 * k + 8)) (T (4 * k + 7)) sx sy sw sh 0 0 t hY hA bt_) rfl rfl (Nat.le_of_ble_eq_true rfl) (Nat.le_of_ble_eq_true rfl) (Nat.le_of_ble_eq_true rfl) rfl ?_
      rintro rs σ1 ⟨rfl, q1, f1⟩
      have q1 : σ1[44]? = some (.inr (0, [.int (iZ 0), .int (iZ 0), .int (iZ (mWide T k t)), .int (iZ (mHigh T k t))])) := q1
      have hQ1 := rC.st q1 hQ f1
      obtain ⟨hjd1, c01, hT1, hR1, hS1, hS01, hH1, hPl1, ⟨sx1, sy1, sw1, sh1, hA1⟩, hJ1, hD1⟩ := id hQ1
      obtain ⟨_, -, -, hX1⟩ := hJ1.hole (s := h) bh.1 bh.2 (by omega)
      obtain ⟨_, -, -, hY1⟩ := hJ1.tool (s := k) bk.1 bk.2 (by omega)
      have zb1 := zmulb (r := i) bw (by omega)
      rw [Int.mul_comm] at zb1
      have zb2 := zmulb (r := r) bg (by omega)
      rw [Int.mul_comm] at zb2
      show Go w mX8_punchAll (0, 0) 88 [some (.ref 0), some (.ref (j + 11 + h.toNat)), some (.int (iZ k)), some (.int (iZ t)), some (.ref (j + 5 + k.toNat)), some (.int (iZ (cSt (T (4 * h + 32)) (mHigh T k t)))), some (.int (iZ (cSt (T (4 * h + 31)) (mWide T k t)))), some (.int (iZ m)), some (.int (iZ r)), some (.int (iZ i))] [] σ1 (fun r σ' => ((F.2.2 = 1 ∧ r = some (.int (iZ 0))) ∨ (F.2.2 = 0 ∧ r = some (.int (iZ F.2.1)) ∧ rSt 9 T F.1 σ')) ∧ rC j d L tx T S B n σ' ∧ g_Fr pC σ0 σ')
      refine g_aload_n (q := 89) dX8_punchAll_88 rfl rfl ?_
      refine g_get (q := 92) flX8_50 dX8_punchAll_89 c01 rfl rfl ?_
      refine g_aload_n (q := 93) dX8_punchAll_92 rfl rfl ?_
      refine g_get (q := 96) flX8_203 dX8_punchAll_93 hX1 rfl rfl ?_
      refine g_iload (q := 98) dX8_punchAll_96 rfl rfl ?_
      refine g_aload_n (q := 99) dX8_punchAll_98 rfl rfl ?_
      refine g_get (q := 102) flX8_50 dX8_punchAll_99 c01 rfl rfl ?_
      refine g_get (q := 105) flX8_209 dX8_punchAll_102 q1 rfl rfl ?_
      refine z_imul (q := 106) dX8_punchAll_105 rfl ?_
      refine g_aload_n (q := 107) dX8_punchAll_106 rfl rfl ?_
      refine g_get (q := 110) flX8_209 dX8_punchAll_107 hX1 rfl rfl ?_
      refine g_aload_n (q := 111) dX8_punchAll_110 rfl rfl ?_
      refine g_get (q := 114) flX8_50 dX8_punchAll_111 c01 rfl rfl ?_
      refine g_get (q := 117) flX8_209 dX8_punchAll_114 q1 rfl rfl ?_
      refine z_isub (q := 118) dX8_punchAll_117 rfl ?_
      refine z_min (q := 121) lkX8_punchAll_291.1 dX8_punchAll_118 (by omega) (Nat.le_of_ble_eq_true rfl) (Nat.le_of_ble_eq_true rfl) (Nat.le_of_ble_eq_true rfl) (Nat.le_of_ble_eq_true rfl) (Nat.le_of_ble_eq_true rfl) rfl ?_
      have b2 := zmin_c (i * (mWide T k t)) ((T (4 * h + 31)) - (mWide T k t))
      refine z_iadd (q := 122) dX8_punchAll_121 rfl ?_
      refine z_put (fs' := [.int (iZ ((T (4 * h + 29)) + (zmin (i * (mWide T k t)) ((T (4 * h + 31)) - (mWide T k t))))), .int (iZ 0), .int (iZ (mWide T k t)), .int (iZ (mHigh T k t))]) (q := 125) fpX8_203 dX8_punchAll_122 q1 (Nat.le_of_ble_eq_true rfl) rfl rfl rfl rfl (fun σ3 c4 f5 => ?_)
      have c6 := (f5.2 0 (by omega)).trans c01
      have c7 := (f5.2 (j + 11 + h.toNat) (by omega)).trans hX1
      have c8 := (f5.2 (j + 5 + k.toNat) (by omega)).trans hY1
      have c9 := (f5.2 j (by omega)).trans hJ1.1
      refine g_aload_n (q := 126) dX8_punchAll_125 rfl rfl ?_
      refine g_get (q := 129) flX8_50 dX8_punchAll_126 c6 rfl rfl ?_
      refine g_aload_n (q := 130) dX8_punchAll_129 rfl rfl ?_
      refine g_get (q := 133) flX8_206 dX8_punchAll_130 c7 rfl rfl ?_
      refine g_iload (q := 135) dX8_punchAll_133 rfl rfl ?_
      refine g_aload_n (q := 136) dX8_punchAll_135 rfl rfl ?_
      refine g_get (q := 139) flX8_50 dX8_punchAll_136 c6 rfl rfl ?_
      refine g_get (q := 142) flX8_210 dX8_punchAll_139 c4 rfl rfl ?_
      refine z_imul (q := 143) dX8_punchAll_142 rfl ?_
      refine g_aload_n (q := 144) dX8_punchAll_143 rfl rfl ?_
      refine g_get (q := 147) flX8_210 dX8_punchAll_144 c7 rfl rfl ?_
      refine g_aload_n (q := 148) dX8_punchAll_147 rfl rfl ?_
      refine g_get (q := 151) flX8_50 dX8_punchAll_148 c6 rfl rfl ?_
      refine g_get (q := 154) flX8_210 dX8_punchAll_151 c4 rfl rfl ?_
      refine z_isub (q := 155) dX8_punchAll_154 rfl ?_
      refine z_min (q := 158) lkX8_punchAll_291.1 dX8_punchAll_155 (by omega) (Nat.le_of_ble_eq_true rfl) (Nat.le_of_ble_eq_true rfl) (Nat.le_of_ble_eq_true rfl) (Nat.le_of_ble_eq_true rfl) (Nat.le_of_ble_eq_true rfl) rfl ?_
      have b10 := zmin_c (r * (mHigh T k t)) ((T (4 * h + 32)) - (mHigh T k t))
      refine z_iadd (q := 159) dX8_punchAll_158 rfl ?_
      refine z_put (fs' := [.int (iZ ((T (4 * h + 29)) + (zmin (i * (mWide T k t)) ((T (4 * h + 31)) - (mWide T k t))))), .int (iZ ((T (4 * h + 30)) + (zmin (r * (mHigh T k t)) ((T (4 * h + 32)) - (mHigh T k t))))), .int (iZ (mWide T k t)), .int (iZ (mHigh T k t))]) (q := 162) fpX8_206 dX8_punchAll_159 c4 (Nat.le_of_ble_eq_true rfl) rfl rfl rfl rfl (fun σ11 c12 f13 => ?_)
      have c14 := (f13.2 0 (by omega)).trans c6
      have c15 := (f13.2 (j + 11 + h.toNat) (by omega)).trans c7
      have c16 := (f13.2 (j + 5 + k.toNat) (by omega)).trans c8
      have c17 := (f13.2 j (by omega)).trans c9
      have ex := nx_eq (T := T) (h := h) (k := k) (t := t) (r := r) (i := i) (by omega) (by omega)
      have ey := ny_eq (T := T) (h := h) (k := k) (t := t) (r := r) (i := i) (by omega) (by omega)
      obtain ⟨X, hXe⟩ : ∃ X, X = mNx T h k t (((T (4 * h + 31) + mWide T k t - 1) / mWide T k t) * r + i) := ⟨_, rfl⟩
      obtain ⟨Y, hYe⟩ : ∃ Y, Y = mNy T h k t (((T (4 * h + 31) + mWide T k t - 1) / mWide T k t) * r + i) := ⟨_, rfl⟩
      have hlt : (((T (4 * h + 31) + mWide T k t - 1) / mWide T k t) * r + i) < mNib T h k t ∧ 0 ≤ (((T (4 * h + 31) + mWide T k t - 1) / mWide T k t) * r + i) := idx_lt nb4 (by omega) (by omega)
      have nxy := mNxy wT bh bk hn hlt.2 hlt.1
      rw [← hXe, ← hYe] at nxy
      rw [← hXe] at ex
      rw [← hYe] at ey
      have q2 : σ11[44]? = some (.inr (0, [.int (iZ X), .int (iZ Y), .int (iZ (mWide T k t)), .int (iZ (mHigh T k t))])) := by
        have q := c12
        rw [show ((T (4 * h + 29)) + (zmin (i * (mWide T k t)) ((T (4 * h + 31)) - (mWide T k t)))) = X by omega, show ((T (4 * h + 30)) + (zmin (r * (mHigh T k t)) ((T (4 * h + 32)) - (mHigh T k t)))) = Y by omega] at q; exact q
      have f44 : g_Fr (fun b => b = 44) σ1 σ11 := f5.tr f13
      have hQ2 := rC.st q2 hQ1 f44
      have hU2 : rSt 9 T U σ11 := (hU.fr (fun k k0 k1 => f1.2 k (by omega))).fr (fun k k0 k1 => f44.2 k (by omega))
      obtain ⟨hjd2, c02, hT2, hR2, hS2, hS02, hH2, hPl2, ⟨sx2, sy2, sw2, sh2, hA2⟩, hJ2, hD2⟩ := id hQ2
      obtain ⟨_, -, -, hX2⟩ := hJ2.hole (s := h) bh.1 bh.2 (by omega)
      obtain ⟨_, -, -, hY2⟩ := hJ2.tool (s := k) bk.1 bk.2 (by omega)
      have cu := mCut_un wU.1 (x := X) (y := Y) (a := mWide T k t) (b := mHigh T k t) bw.1 (by omega) (by omega)
      show Go w mX8_punchAll (0, 0) 162 [some (.ref 0), some (.ref (j + 11 + h.toNat)), some (.int (iZ k)), some (.int (iZ t)), some (.ref (j + 5 + k.toNat)), some (.int (iZ (cSt (T (4 * h + 32)) (mHigh T k t)))), some (.int (iZ (cSt (T (4 * h + 31)) (mWide T k t)))), some (.int (iZ m)), some (.int (iZ r)), some (.int (iZ i))] [] σ11 (fun r σ' => ((F.2.2 = 1 ∧ r = some (.int (iZ 0))) ∨ (F.2.2 = 0 ∧ r = some (.int (iZ F.2.1)) ∧ rSt 9 T F.1 σ')) ∧ rC j d L tx T S B n σ' ∧ g_Fr pC σ0 σ')
      refine g_aload_n (q := 163) dX8_punchAll_162 rfl rfl ?_
      refine g_get (q := 166) flX8_30 dX8_punchAll_163 c02 rfl rfl ?_
      refine g_aload_n (q := 167) dX8_punchAll_166 rfl rfl ?_
      refine g_get (q := 170) flX8_50 dX8_punchAll_167 c02 rfl rfl ?_
      refine g_callV (As := [.ref 44]) (rest := []) (q := 173) moX5_isCut lkX8_punchAll_137 dX8_punchAll_170 rfl hU2.1 (r_isCut σ11 9 T U hU2 wT wU 44 X Y (mWide T k t) (mHigh T k t) q2 (by omega) (by omega)) rfl rfl (Nat.le_of_ble_eq_true rfl) (Nat.le_of_ble_eq_true rfl) (Nat.le_of_ble_eq_true rfl) rfl ?_
      rintro rQ sQ hpQ
      rw [hpQ.1, hpQ.2]
      show Go w mX8_punchAll (0, 0) 173 [some (.ref 0), some (.ref (j + 11 + h.toNat)), some (.int (iZ k)), some (.int (iZ t)), some (.ref (j + 5 + k.toNat)), some (.int (iZ (cSt (T (4 * h + 32)) (mHigh T k t)))), some (.int (iZ (cSt (T (4 * h + 31)) (mWide T k t)))), some (.int (iZ m)), some (.int (iZ r)), some (.int (iZ i))] [.int (bI (cUn U X Y (mWide T k t) (mHigh T k t) = 0))] σ11 (fun r σ' => ((F.2.2 = 1 ∧ r = some (.int (iZ 0))) ∨ (F.2.2 = 0 ∧ r = some (.int (iZ F.2.1)) ∧ rSt 9 T F.1 σ')) ∧ rC j d L tx T S B n σ' ∧ g_Fr pC σ0 σ')
      refine z_ifB_eq (t := 179) (q := 176) dX8_punchAll_173 rfl rfl (fun pc18 => ?_) (fun pc18 => ?_)
      · refine g_aload_n (q := 180) dX8_punchAll_179 rfl rfl ?_
        refine g_get (q := 183) flX8_30 dX8_punchAll_180 c02 rfl rfl ?_
        refine g_aload_n (q := 184) dX8_punchAll_183 rfl rfl ?_
        refine g_get (q := 187) flX8_57 dX8_punchAll_184 c02 rfl rfl ?_
        refine g_iload_n (q := 188) dX8_punchAll_187 rfl rfl ?_
        refine g_iload_n (q := 189) dX8_punchAll_188 rfl rfl ?_
        refine g_aload_n (q := 190) dX8_punchAll_189 rfl rfl ?_
        refine g_get (q := 193) flX8_50 dX8_punchAll_190 c02 rfl rfl ?_
        refine g_callV (As := [.ref j, .int (iZ k), .int (iZ t), .ref 44]) (rest := []) (q := 196) moX5_refusal lkX8_punchAll_111 dX8_punchAll_193 rfl hU2.1 (r_refusal σ11 9 j T U hU2 hJ2 wT wU k t bk bt_ 44 X Y (mWide T k t) (mHigh T k t) q2 (by omega) (by omega) (by omega) (by omega)) rfl rfl (Nat.le_of_ble_eq_true rfl) (Nat.le_of_ble_eq_true rfl) (Nat.le_of_ble_eq_true rfl) rfl ?_
        rintro rQ sQ hpQ
        rw [hpQ.1, hpQ.2]
        show Go w mX8_punchAll (0, 0) 196 [some (.ref 0), some (.ref (j + 11 + h.toNat)), some (.int (iZ k)), some (.int (iZ t)), some (.ref (j + 5 + k.toNat)), some (.int (iZ (cSt (T (4 * h + 32)) (mHigh T k t)))), some (.int (iZ (cSt (T (4 * h + 31)) (mWide T k t)))), some (.int (iZ m)), some (.int (iZ r)), some (.int (iZ i))] [.int (iZ (cRef T U k t X Y (mWide T k t) (mHigh T k t)))] σ11 (fun r σ' => ((F.2.2 = 1 ∧ r = some (.int (iZ 0))) ∨ (F.2.2 = 0 ∧ r = some (.int (iZ F.2.1)) ∧ rSt 9 T F.1 σ')) ∧ rC j d L tx T S B n σ' ∧ g_Fr pC σ0 σ')
        rw [cRef_why wT wU bk]
        show Go w mX8_punchAll (0, 0) 196 [some (.ref 0), some (.ref (j + 11 + h.toNat)), some (.int (iZ k)), some (.int (iZ t)), some (.ref (j + 5 + k.toNat)), some (.int (iZ (cSt (T (4 * h + 32)) (mHigh T k t)))), some (.int (iZ (cSt (T (4 * h + 31)) (mWide T k t)))), some (.int (iZ m)), some (.int (iZ r)), some (.int (iZ i))] [.int (iZ (mWhy T U k X Y t))] σ11 (fun r σ' => ((F.2.2 = 1 ∧ r = some (.int (iZ 0))) ∨ (F.2.2 = 0 ∧ r = some (.int (iZ F.2.1)) ∧ rSt 9 T F.1 σ')) ∧ rC j d L tx T S B n σ' ∧ g_Fr pC σ0 σ')
        have bwy := mWhy_b T U k X Y t
        refine z_if_eq (t := 201) (q := 199) dX8_punchAll_196 rfl (by omega) rfl (fun pc19 => ?_) (fun pc19 => ?_)
        · refine g_aload_n (q := 202) dX8_punchAll_201 rfl rfl ?_
          refine g_get (q := 205) flX8_30 dX8_punchAll_202 c02 rfl rfl ?_
          refine g_aload_n (q := 206) dX8_punchAll_205 rfl rfl ?_
          refine g_get (q := 209) flX8_57 dX8_punchAll_206 c02 rfl rfl ?_
          refine g_iload_n (q := 210) dX8_punchAll_209 rfl rfl ?_
          refine g_aload_n (q := 211) dX8_punchAll_210 rfl rfl ?_
          refine g_get (q := 214) flX8_50 dX8_punchAll_211 c02 rfl rfl ?_
          have w3 := wfS.str wT wU bk (show mWhy T U k X Y t = 0 by omega)
          have es : mStr T U k X Y t = mStrT T k (strR U X Y (mWide T k t) (mHigh T k t)) := str_eq (by omega) bw.1 bg.1 (by omega) (by omega)
          have en := mStrN_un (S := U) (x := X) (y := Y) (a := mWide T k t) (b := mHigh T k t) (by omega) (by omega) (by omega)
          have bu := cUn_b (S := U) (x := X) (y := Y) (w := mWide T k t) (h := mHigh T k t) wU.1 (by omega) (by omega)
          refine g_callV (As := [.ref j, .int (iZ k), .ref 44]) (rest := []) (q := 217) moX5_punch lkX8_punchAll_119 dX8_punchAll_214 rfl hU2.1 (r_punch σ11 9 j T U hU2 hJ2 wT wU k bk 44 X Y (mWide T k t) (mHigh T k t) q2 (by omega) (by omega) (by omega)) rfl rfl (Nat.le_of_ble_eq_true rfl) (Nat.le_of_ble_eq_true rfl) (Nat.le_of_ble_eq_true rfl) rfl ?_
          rintro rp σ3 ⟨hr3, q3, f3⟩
          subst hr3
          rw [← es] at q3
          have hQ3 := rC.trial q3.s0 hQ2 f3
          show Go w mX8_punchAll (0, 0) 217 [some (.ref 0), some (.ref (j + 11 + h.toNat)), some (.int (iZ k)), some (.int (iZ t)), some (.ref (j + 5 + k.toNat)), some (.int (iZ (cSt (T (4 * h + 32)) (mHigh T k t)))), some (.int (iZ (cSt (T (4 * h + 31)) (mWide T k t)))), some (.int (iZ m)), some (.int (iZ r)), some (.int (iZ i))] [.int (iZ (cUn U X Y (mWide T k t) (mHigh T k t)))] σ3 (fun r σ' => ((F.2.2 = 1 ∧ r = some (.int (iZ 0))) ∨ (F.2.2 = 0 ∧ r = some (.int (iZ F.2.1)) ∧ rSt 9 T F.1 σ')) ∧ rC j d L tx T S B n σ' ∧ g_Fr pC σ0 σ')
          refine g_pop (q := 218) dX8_punchAll_217 rfl rfl ?_
          refine z_iincc (c := (m + 1)) (ml' := [some (.ref 0), some (.ref (j + 11 + h.toNat)), some (.int (iZ k)), some (.int (iZ t)), some (.ref (j + 5 + k.toNat)), some (.int (iZ (cSt (T (4 * h + 32)) (mHigh T k t)))), some (.int (iZ (cSt (T (4 * h + 31)) (mWide T k t)))), some (.int (iZ (m + 1))), some (.int (iZ r)), some (.int (iZ i))]) (q := 221) dX8_punchAll_218 rfl (by omega) rfl rfl rfl ?_
          refine z_iincc (c := (i + 1)) (ml' := [some (.ref 0), some (.ref (j + 11 + h.toNat)), some (.int (iZ k)), some (.int (iZ t)), some (.ref (j + 5 + k.toNat)), some (.int (iZ (cSt (T (4 * h + 32)) (mHigh T k t)))), some (.int (iZ (cSt (T (4 * h + 31)) (mWide T k t)))), some (.int (iZ (m + 1))), some (.int (iZ r)), some (.int (iZ (i + 1)))]) (q := 224) dX8_punchAll_221 rfl (by omega) rfl rfl rfl ?_
          refine g_goto (q := 69) dX8_punchAll_224 rfl ?_
          rw [show p + 1 + q = (p + q) + 1 by omega] at hF
          unfold mNibF at hF
          rw [← hXe, ← hYe] at hF
          refine ih (i + 1) (mStr T U k X Y t) (m + 1) σ3 (by omega) (by omega) ?_ hQ3 q3 w3 (((hf.tr (f1.wk (fun k e => show k < 77 by omega))).tr (f44.wk (fun k e => show k < 77 by omega))).tr (f3.wk (fun k e => show k < 77 by have := e.1; have := e.2; omega)))
          rw [if_neg (fun e => by have := cu.mp e; omega), if_neg (by omega), en, if_pos (by omega)] at hF
          rw [← hF]; congr 1; omega
        · refine z_iconst (q := 200) dX8_punchAll_199 rfl ?_
          refine z_iret dX8_punchAll_200 rfl ?_
          rw [show p + 1 + q = (p + q) + 1 by omega] at hF
          unfold mNibF at hF
          rw [← hXe, ← hYe] at hF
          rw [if_neg (fun e => by have := cu.mp e; omega), if_pos (by omega)] at hF
          exact ⟨Or.inl ⟨by rw [← hF], rfl⟩, hQ2, ((hf.tr (f1.wk (fun k e => show k < 77 by omega))).tr (f44.wk (fun k e => show k < 77 by omega)))⟩
      · refine g_goto (q := 221) dX8_punchAll_176 rfl ?_
        refine z_iincc (c := (i + 1)) (ml' := [some (.ref 0), some (.ref (j + 11 + h.toNat)), some (.int (iZ k)), some (.int (iZ t)), some (.ref (j + 5 + k.toNat)), some (.int (iZ (cSt (T (4 * h + 32)) (mHigh T k t)))), some (.int (iZ (cSt (T (4 * h + 31)) (mWide T k t)))), some (.int (iZ m)), some (.int (iZ r)), some (.int (iZ (i + 1)))]) (q := 224) dX8_punchAll_221 rfl (by omega) rfl rfl rfl ?_
        refine g_goto (q := 69) dX8_punchAll_224 rfl ?_
        rw [show p + 1 + q = (p + q) + 1 by omega] at hF
        unfold mNibF at hF
        rw [← hXe, ← hYe] at hF
        refine ih (i + 1) U m σ11 (by omega) (by omega) ?_ hQ2 hU2 wU ((hf.tr (f1.wk (fun k e => show k < 77 by omega))).tr (f44.wk (fun k e => show k < 77 by omega)))
        rw [if_pos (cu.mpr (by omega))] at hF
        rw [← hF]; congr 1; omega
theorem l_pa2 (w : g_W) (σ0 : g_H0) (j d : Nat) (L : Int) (tx T S B : Int → Int) (n : Int) (wT : wfT T) (h k t : Int) (bh : 0 ≤ h ∧ h < T 3) (bk : 0 ≤ k ∧ k < T 2) (bt_ : 0 ≤ t ∧ t ≤ 1) (hn : mNib T h k t ≠ -4) (F : (Int → Int) × Int × Int) : ∀ (p : Nat) (r : Int) (U : Int → Int) (m : Int) (σ : g_H0), 0 ≤ r → r + p = ((T (4 * h + 32) + mHigh T k t - 1) / mHigh T k t) → mNibF T h k t (p * ((T (4 * h + 31) + mWide T k t - 1) / mWide T k t).toNat) (((T (4 * h + 31) + mWide T k t - 1) / mWide T k t) * r) U m = F → rC j d L tx T S B n σ → rSt 9 T U σ → wfS T U → g_Fr pC σ0 σ → Go w mX8_punchAll (0, 0) 59 [some (.ref 0), some (.ref (j + 11 + h.toNat)), some (.int (iZ k)), some (.int (iZ t)), some (.ref (j + 5 + k.toNat)), some (.int (iZ (cSt (T (4 * h + 32)) (mHigh T k t)))), some (.int (iZ (cSt (T (4 * h + 31)) (mWide T k t)))), some (.int (iZ m)), some (.int (iZ r)), none] [] σ (fun r σ' => ((F.2.2 = 1 ∧ r = some (.int (iZ 0))) ∨ (F.2.2 = 0 ∧ r = some (.int (iZ F.2.1)) ∧ rSt 9 T F.1 σ')) ∧ rC j d L tx T S B n σ' ∧ g_Fr pC σ0 σ') := by
  intro p
  induction p with
  | zero =>
    intro r U m σ r0 r1 hF hQ hU wU hf
    obtain ⟨nb1, nb2, nb3, nb4, nb5, nb6⟩ := mNib_ok wT bh bk hn
    have bw := wT.w bk.1 bk.2 t
    have bg := wT.h bk.1 bk.2 t
    obtain ⟨bT, t0, t1, t2, t3, t4, tt, th, tap, tcl, tc2⟩ := id wT
    have qh := th h bh.1 bh.2
    have qt := tt k bk.1 bk.2
    have ep : cSt (T (4 * h + 31)) (mWide T k t) = ((T (4 * h + 31) + mWide T k t - 1) / mWide T k t) := by unfold cSt; rw [if_neg (by omega)]
    have er : cSt (T (4 * h + 32)) (mHigh T k t) = ((T (4 * h + 32) + mHigh T k t - 1) / mHigh T k t) := by unfold cSt; rw [if_neg (by omega)]
    refine g_iload (q := 61) dX8_punchAll_59 rfl rfl ?_
    refine g_iload (q := 63) dX8_punchAll_61 rfl rfl ?_
    refine z_icmp_ge (t := 233) (q := 66) dX8_punchAll_63 rfl (by omega) rfl (fun pc1 => ?_) (fun pc1 => ?_)
    · refine g_iload (q := 235) dX8_punchAll_233 rfl rfl ?_
      refine z_iret dX8_punchAll_235 rfl ?_
      rw [Nat.zero_mul] at hF
      unfold mNibF at hF
      exact ⟨Or.inr ⟨by rw [← hF], by rw [← hF], by rw [← hF]; exact hU⟩, hQ, hf⟩
    · exfalso
      omega
  | succ p ih =>
    intro r U m σ r0 r1 hF hQ hU wU hf
    obtain ⟨nb1, nb2, nb3, nb4, nb5, nb6⟩ := mNib_ok wT bh bk hn
    have bw := wT.w bk.1 bk.2 t
    have bg := wT.h bk.1 bk.2 t
    obtain ⟨bT, t0, t1, t2, t3, t4, tt, th, tap, tcl, tc2⟩ := id wT
    have qh := th h bh.1 bh.2
    have qt := tt k bk.1 bk.2
    have ep : cSt (T (4 * h + 31)) (mWide T k t) = ((T (4 * h + 31) + mWide T k t - 1) / mWide T k t) := by unfold cSt; rw [if_neg (by omega)]
    have er : cSt (T (4 * h + 32)) (mHigh T k t) = ((T (4 * h + 32) + mHigh T k t - 1) / mHigh T k t) := by unfold cSt; rw [if_neg (by omega)]
    refine g_iload (q := 61) dX8_punchAll_59 rfl rfl ?_
    refine g_iload (q := 63) dX8_punchAll_61 rfl rfl ?_
    refine z_icmp_ge (t := 233) (q := 66) dX8_punchAll_63 rfl (by omega) rfl (fun pc1 => ?_) (fun pc1 => ?_)
    · exfalso
      omega
    · refine z_iconst (q := 67) dX8_punchAll_66 rfl ?_
      refine g_istore (ml' := [some (.ref 0), some (.ref (j + 11 + h.toNat)), some (.int (iZ k)), some (.int (iZ t)), some (.ref (j + 5 + k.toNat)), some (.int (iZ (cSt (T (4 * h + 32)) (mHigh T k t)))), some (.int (iZ (cSt (T (4 * h + 31)) (mWide T k t)))), some (.int (iZ m)), some (.int (iZ r)), some (.int (iZ 0))]) (q := 69) dX8_punchAll_67 rfl (Nat.le_of_ble_eq_true rfl) rfl rfl ?_
      refine l_pa1 w σ0 j d L tx T S B n wT h k t bh bk bt_ hn F r (by omega) (p * ((T (4 * h + 31) + mWide T k t - 1) / mWide T k t).toNat) (fun U2 m2 σ2 hQ2 hU2 wU2 hf2 hF2 => ?_) ((T (4 * h + 31) + mWide T k t - 1) / mWide T k t).toNat 0 U m σ (by omega) (by omega) (by rw [← hF, Nat.succ_mul, Nat.add_comm]; congr 1; omega) hQ hU wU hf
      refine z_iincc (c := (r + 1)) (ml' := [some (.ref 0), some (.ref (j + 11 + h.toNat)), some (.int (iZ k)), some (.int (iZ t)), some (.ref (j + 5 + k.toNat)), some (.int (iZ (cSt (T (4 * h + 32)) (mHigh T k t)))), some (.int (iZ (cSt (T (4 * h + 31)) (mWide T k t)))), some (.int (iZ m2)), some (.int (iZ (r + 1))), none]) (q := 230) dX8_punchAll_227 rfl (by omega) rfl rfl rfl ?_
      refine g_goto (q := 59) dX8_punchAll_230 rfl ?_
      exact ih (r + 1) U2 m2 σ2 (by omega) (by omega) hF2 hQ2 hU2 wU2 hf2
theorem nat_mul {a b : Int} (ha : 0 ≤ a) (hb : 0 ≤ b) : b.toNat * a.toNat = (a * b).toNat := by
  obtain ⟨m, rfl⟩ := Int.eq_ofNat_of_zero_le ha
  obtain ⟨n, rfl⟩ := Int.eq_ofNat_of_zero_le hb
  rw [Nat.mul_comm]; rfl
theorem r_C_punchAll (σ : g_H0) (j d : Nat) (L : Int) (tx T S B : Int → Int) (n : Int) (hQ : rC j d L tx T S B n σ) (wT : wfT T) (U : Int → Int) (hU : rSt 9 T U σ) (wU : wfS T U) (h k t : Int) (bh : 0 ≤ h ∧ h < T 3) (bk : 0 ≤ k ∧ k < T 2) (bt_ : 0 ≤ t ∧ t ≤ 1) : Ret mX8_punchAll [.ref 0, .ref (j + 11 + h.toNat), .int (iZ k), .int (iZ t)] σ (fun r σ' => ((mNib T h k t = -4 ∧ r = some (.int (iZ 0))) ∨ (mNib T h k t ≠ -4 ∧ (mNibF T h k t (mNib T h k t).toNat 0 U 0).2.2 = 1 ∧ r = some (.int (iZ 0))) ∨ (mNib T h k t ≠ -4 ∧ (mNibF T h k t (mNib T h k t).toNat 0 U 0).2.2 = 0 ∧ r = some (.int (iZ (mNibF T h k t (mNib T h k t).toNat 0 U 0).2.1)) ∧ rSt 9 T (mNibF T h k t (mNib T h k t).toNat 0 U 0).1 σ')) ∧ rC j d L tx T S B n σ' ∧ g_Fr pC σ σ') := by
  refine Ret.of moX8_punchAll.1 (Nat.le_of_ble_eq_true rfl) (fun w => ?_)
  obtain ⟨hjd, c0, hT, hR, hS, hS0, hH, hPl, ⟨sx, sy, sw, sh, hA⟩, hJ, hD⟩ := id hQ
  obtain ⟨bT, t0, t1, t2, t3, t4, tt, th, tap, tcl, tc2⟩ := id wT
  obtain ⟨_, -, -, hX⟩ := hJ.hole (s := h) bh.1 bh.2 (by omega)
  have qh := th h bh.1 bh.2
  have qt := tt k bk.1 bk.2
  show Go w mX8_punchAll (0, 0) 0 [some (.ref 0), some (.ref (j + 11 + h.toNat)), some (.int (iZ k)), some (.int (iZ t)), none, none, none, none, none, none] [] σ (fun r σ' => ((mNib T h k t = -4 ∧ r = some (.int (iZ 0))) ∨ (mNib T h k t ≠ -4 ∧ (mNibF T h k t (mNib T h k t).toNat 0 U 0).2.2 = 1 ∧ r = some (.int (iZ 0))) ∨ (mNib T h k t ≠ -4 ∧ (mNibF T h k t (mNib T h k t).toNat 0 U 0).2.2 = 0 ∧ r = some (.int (iZ (mNibF T h k t (mNib T h k t).toNat 0 U 0).2.1)) ∧ rSt 9 T (mNibF T h k t (mNib T h k t).toNat 0 U 0).1 σ')) ∧ rC j d L tx T S B n σ' ∧ g_Fr pC σ σ')
  refine g_aload_n (q := 1) dX8_punchAll_0 rfl rfl ?_
  refine g_get (q := 4) flX8_57 dX8_punchAll_1 c0 rfl rfl ?_
  refine g_get (q := 7) flX8_101 dX8_punchAll_4 hJ.1 rfl rfl ?_
  refine g_iload_n (q := 8) dX8_punchAll_7 rfl rfl ?_
  obtain ⟨f9, e9, g9, hY⟩ := hJ.tool (s := k) bk.1 bk.2 (by omega)
  refine z_aald (b := (j + 5 + k.toNat)) (q := 9) dX8_punchAll_8 rfl e9 (by omega) g9 rfl ?_
  refine g_astore (ml' := [some (.ref 0), some (.ref (j + 11 + h.toNat)), some (.int (iZ k)), some (.int (iZ t)), some (.ref (j + 5 + k.toNat)), none, none, none, none, none]) (q := 11) dX8_punchAll_9 rfl (Nat.le_of_ble_eq_true rfl) rfl rfl ?_
  refine g_aload (q := 13) dX8_punchAll_11 rfl rfl ?_
  refine g_aload_n (q := 14) dX8_punchAll_13 rfl rfl ?_
  refine g_iload_n (q := 15) dX8_punchAll_14 rfl rfl ?_
  refine g_callV (As := [.ref (j + 11 + h.toNat), .int (iZ t)]) (rest := []) (q := 18) moX7_hitsFor lkX8_punchAll_215 dX8_punchAll_15 rfl hY (r_hitsFor σ (j + 5 + k.toNat) (j + 11 + h.toNat) (T (4 * k + 5)) (T (4 * k + 6)) (T (4 * k + 8)) (T (4 * k + 7)) (T (4 * h + 29)) (T (4 * h + 30)) (T (4 * h + 31)) (T (4 * h + 32)) t hY hX bt_ (by omega) (by omega) (by omega) (by omega) (by omega)) rfl rfl (Nat.le_of_ble_eq_true rfl) (Nat.le_of_ble_eq_true rfl) (Nat.le_of_ble_eq_true rfl) rfl ?_
  rintro rQ sQ hpQ
  rw [hpQ.1, hpQ.2]
  show Go w mX8_punchAll (0, 0) 18 [some (.ref 0), some (.ref (j + 11 + h.toNat)), some (.int (iZ k)), some (.int (iZ t)), some (.ref (j + 5 + k.toNat)), none, none, none, none, none] [.int (iZ (cS T h k t))] σ (fun r σ' => ((mNib T h k t = -4 ∧ r = some (.int (iZ 0))) ∨ (mNib T h k t ≠ -4 ∧ (mNibF T h k t (mNib T h k t).toNat 0 U 0).2.2 = 1 ∧ r = some (.int (iZ 0))) ∨ (mNib T h k t ≠ -4 ∧ (mNibF T h k t (mNib T h k t).toNat 0 U 0).2.2 = 0 ∧ r = some (.int (iZ (mNibF T h k t (mNib T h k t).toNat 0 U 0).2.1)) ∧ rSt 9 T (mNibF T h k t (mNib T h k t).toNat 0 U 0).1 σ')) ∧ rC j d L tx T S B n σ' ∧ g_Fr pC σ σ')
  have csb := cS_b wT (k := h) (s := k) (t := t) bh bk
  have csn := cS_nib wT (h := h) (k := k) (t := t) bh bk bt_
  refine z_if_ne (t := 23) (q := 21) dX8_punchAll_18 rfl (by omega) rfl (fun pc1 => ?_) (fun pc1 => ?_)
  · have hn : mNib T h k t ≠ -4 := by omega
    obtain ⟨nb1, nb2, nb3, nb4, nb5, nb6⟩ := mNib_ok wT bh bk hn
    have bw := wT.w bk.1 bk.2 t
    have bg := wT.h bk.1 bk.2 t
    refine g_aload_n (q := 24) dX8_punchAll_23 rfl rfl ?_
    refine g_get (q := 27) flX8_210 dX8_punchAll_24 hX rfl rfl ?_
    refine g_aload (q := 29) dX8_punchAll_27 rfl rfl ?_
    refine g_iload_n (q := 30) dX8_punchAll_29 rfl rfl ?_
    refine g_callV (As := [.int (iZ t)]) (rest := [.int (iZ (T (4 * h + 32)))]) (q := 33) moX7_highWhen lkX8_punchAll_282 dX8_punchAll_30 rfl hY (r_highWhen σ (j + 5 + k.toNat) (T (4 * k + 5)) (T (4 * k + 6)) (T (4 * k + 8)) (T (4 * k + 7)) t hY bt_) rfl rfl (Nat.le_of_ble_eq_true rfl) (Nat.le_of_ble_eq_true rfl) (Nat.le_of_ble_eq_true rfl) rfl ?_
    rintro rQ sQ hpQ
    rw [hpQ.1, hpQ.2]
    show Go w mX8_punchAll (0, 0) 33 [some (.ref 0), some (.ref (j + 11 + h.toNat)), some (.int (iZ k)), some (.int (iZ t)), some (.ref (j + 5 + k.toNat)), none, none, none, none, none] [.int (iZ (mHigh T k t)), .int (iZ (T (4 * h + 32)))] σ (fun r σ' => ((mNib T h k t = -4 ∧ r = some (.int (iZ 0))) ∨ (mNib T h k t ≠ -4 ∧ (mNibF T h k t (mNib T h k t).toNat 0 U 0).2.2 = 1 ∧ r = some (.int (iZ 0))) ∨ (mNib T h k t ≠ -4 ∧ (mNibF T h k t (mNib T h k t).toNat 0 U 0).2.2 = 0 ∧ r = some (.int (iZ (mNibF T h k t (mNib T h k t).toNat 0 U 0).2.1)) ∧ rSt 9 T (mNibF T h k t (mNib T h k t).toNat 0 U 0).1 σ')) ∧ rC j d L tx T S B n σ' ∧ g_Fr pC σ σ')
    refine g_callS (As := [.int (iZ (T (4 * h + 32))), .int (iZ (mHigh T k t))]) (rest := []) (q := 36) moX8_stepsOver lkX8_punchAll_285 dX8_punchAll_33 (r_stepsOver σ (T (4 * h + 32)) (mHigh T k t) (by omega) (by omega)) rfl rfl (Nat.le_of_ble_eq_true rfl) (Nat.le_of_ble_eq_true rfl) (Nat.le_of_ble_eq_true rfl) rfl ?_
    rintro rQ sQ hpQ
    rw [hpQ.1, hpQ.2]
    show Go w mX8_punchAll (0, 0) 36 [some (.ref 0), some (.ref (j + 11 + h.toNat)), some (.int (iZ k)), some (.int (iZ t)), some (.ref (j + 5 + k.toNat)), none, none, none, none, none] [.int (iZ (cSt (T (4 * h + 32)) (mHigh T k t)))] σ (fun r σ' => ((mNib T h k t = -4 ∧ r = some (.int (iZ 0))) ∨ (mNib T h k t ≠ -4 ∧ (mNibF T h k t (mNib T h k t).toNat 0 U 0).2.2 = 1 ∧ r = some (.int (iZ 0))) ∨ (mNib T h k t ≠ -4 ∧ (mNibF T h k t (mNib T h k t).toNat 0 U 0).2.2 = 0 ∧ r = some (.int (iZ (mNibF T h k t (mNib T h k t).toNat 0 U 0).2.1)) ∧ rSt 9 T (mNibF T h k t (mNib T h k t).toNat 0 U 0).1 σ')) ∧ rC j d L tx T S B n σ' ∧ g_Fr pC σ σ')
    refine g_istore (ml' := [some (.ref 0), some (.ref (j + 11 + h.toNat)), some (.int (iZ k)), some (.int (iZ t)), some (.ref (j + 5 + k.toNat)), some (.int (iZ (cSt (T (4 * h + 32)) (mHigh T k t)))), none, none, none, none]) (q := 38) dX8_punchAll_36 rfl (Nat.le_of_ble_eq_true rfl) rfl rfl ?_
    refine g_aload_n (q := 39) dX8_punchAll_38 rfl rfl ?_
    refine g_get (q := 42) flX8_209 dX8_punchAll_39 hX rfl rfl ?_
    refine g_aload (q := 44) dX8_punchAll_42 rfl rfl ?_
    refine g_iload_n (q := 45) dX8_punchAll_44 rfl rfl ?_
    refine g_callV (As := [.int (iZ t)]) (rest := [.int (iZ (T (4 * h + 31)))]) (q := 48) moX7_wideWhen lkX8_punchAll_288 dX8_punchAll_45 rfl hY (r_wideWhen σ (j + 5 + k.toNat) (T (4 * k + 5)) (T (4 * k + 6)) (T (4 * k + 8)) (T (4 * k + 7)) t hY bt_) rfl rfl (Nat.le_of_ble_eq_true rfl) (Nat.le_of_ble_eq_true rfl) (Nat.le_of_ble_eq_true rfl) rfl ?_
    rintro rQ sQ hpQ
    rw [hpQ.1, hpQ.2]
    show Go w mX8_punchAll (0, 0) 48 [some (.ref 0), some (.ref (j + 11 + h.toNat)), some (.int (iZ k)), some (.int (iZ t)), some (.ref (j + 5 + k.toNat)), some (.int (iZ (cSt (T (4 * h + 32)) (mHigh T k t)))), none, none, none, none] [.int (iZ (mWide T k t)), .int (iZ (T (4 * h + 31)))] σ (fun r σ' => ((mNib T h k t = -4 ∧ r = some (.int (iZ 0))) ∨ (mNib T h k t ≠ -4 ∧ (mNibF T h k t (mNib T h k t).toNat 0 U 0).2.2 = 1 ∧ r = some (.int (iZ 0))) ∨ (mNib T h k t ≠ -4 ∧ (mNibF T h k t (mNib T h k t).toNat 0 U 0).2.2 = 0 ∧ r = some (.int (iZ (mNibF T h k t (mNib T h k t).toNat 0 U 0).2.1)) ∧ rSt 9 T (mNibF T h k t (mNib T h k t).toNat 0 U 0).1 σ')) ∧ rC j d L tx T S B n σ' ∧ g_Fr pC σ σ')
    refine g_callS (As := [.int (iZ (T (4 * h + 31))), .int (iZ (mWide T k t))]) (rest := []) (q := 51) moX8_stepsOver lkX8_punchAll_285 dX8_punchAll_48 (r_stepsOver σ (T (4 * h + 31)) (mWide T k t) (by omega) (by omega)) rfl rfl (Nat.le_of_ble_eq_true rfl) (Nat.le_of_ble_eq_true rfl) (Nat.le_of_ble_eq_true rfl) rfl ?_
    rintro rQ sQ hpQ
    rw [hpQ.1, hpQ.2]
    show Go w mX8_punchAll (0, 0) 51 [some (.ref 0), some (.ref (j + 11 + h.toNat)), some (.int (iZ k)), some (.int (iZ t)), some (.ref (j + 5 + k.toNat)), some (.int (iZ (cSt (T (4 * h + 32)) (mHigh T k t)))), none, none, none, none] [.int (iZ (cSt (T (4 * h + 31)) (mWide T k t)))] σ (fun r σ' => ((mNib T h k t = -4 ∧ r = some (.int (iZ 0))) ∨ (mNib T h k t ≠ -4 ∧ (mNibF T h k t (mNib T h k t).toNat 0 U 0).2.2 = 1 ∧ r = some (.int (iZ 0))) ∨ (mNib T h k t ≠ -4 ∧ (mNibF T h k t (mNib T h k t).toNat 0 U 0).2.2 = 0 ∧ r = some (.int (iZ (mNibF T h k t (mNib T h k t).toNat 0 U 0).2.1)) ∧ rSt 9 T (mNibF T h k t (mNib T h k t).toNat 0 U 0).1 σ')) ∧ rC j d L tx T S B n σ' ∧ g_Fr pC σ σ')
    refine g_istore (ml' := [some (.ref 0), some (.ref (j + 11 + h.toNat)), some (.int (iZ k)), some (.int (iZ t)), some (.ref (j + 5 + k.toNat)), some (.int (iZ (cSt (T (4 * h + 32)) (mHigh T k t)))), some (.int (iZ (cSt (T (4 * h + 31)) (mWide T k t)))), none, none, none]) (q := 53) dX8_punchAll_51 rfl (Nat.le_of_ble_eq_true rfl) rfl rfl ?_
    refine z_iconst (q := 54) dX8_punchAll_53 rfl ?_
    refine g_istore (ml' := [some (.ref 0), some (.ref (j + 11 + h.toNat)), some (.int (iZ k)), some (.int (iZ t)), some (.ref (j + 5 + k.toNat)), some (.int (iZ (cSt (T (4 * h + 32)) (mHigh T k t)))), some (.int (iZ (cSt (T (4 * h + 31)) (mWide T k t)))), some (.int (iZ 0)), none, none]) (q := 56) dX8_punchAll_54 rfl (Nat.le_of_ble_eq_true rfl) rfl rfl ?_
    refine z_iconst (q := 57) dX8_punchAll_56 rfl ?_
    refine g_istore (ml' := [some (.ref 0), some (.ref (j + 11 + h.toNat)), some (.int (iZ k)), some (.int (iZ t)), some (.ref (j + 5 + k.toNat)), some (.int (iZ (cSt (T (4 * h + 32)) (mHigh T k t)))), some (.int (iZ (cSt (T (4 * h + 31)) (mWide T k t)))), some (.int (iZ 0)), some (.int (iZ 0)), none]) (q := 59) dX8_punchAll_57 rfl (Nat.le_of_ble_eq_true rfl) rfl rfl ?_
    refine (l_pa2 w σ j d L tx T S B n wT h k t bh bk bt_ hn (mNibF T h k t (mNib T h k t).toNat 0 U 0) ((T (4 * h + 32) + mHigh T k t - 1) / mHigh T k t).toNat 0 U 0 σ (by omega) (by omega) ?_ hQ hU wU g_Fr.rf).mono (fun r σ1 hp => ⟨?_, hp.2⟩)
    · rw [Int.mul_zero]; congr 1; rw [nb4, nat_mul (by omega) (by omega)]
    · rcases hp.1 with e | e
      · exact Or.inr (Or.inl ⟨hn, e⟩)
      · exact Or.inr (Or.inr ⟨hn, e⟩)
  · refine z_iconst (q := 22) dX8_punchAll_21 rfl ?_
    refine z_iret dX8_punchAll_22 rfl ?_
    exact ⟨Or.inl ⟨by omega, rfl⟩, hQ, g_Fr.rf⟩
