theorem zcp_swap {F S G : Int → Int} (h : ∀ j, j < 0 ∨ 156 ≤ j → F j = S j) : zcp F (zcp G S 0 0 156) 0 0 156 = S := by
  funext k
  unfold zcp
  by_cases hk : 0 ≤ k ∧ k < 0 + 156
  · rw [if_pos hk, if_pos (by omega)]
    congr 1
    omega
  · rw [if_neg hk]
    exact h k (by omega)
theorem r_M_nibble (σ : g_H0) (a : Nat) (I : Nat → Int) (A : Nat → Int → Int) (hM : rM a I A σ) (h k t : Int) (b_h : -2147483648 ≤ h ∧ h < 2147483648) (b_k : -2147483648 ≤ k ∧ k < 2147483648) (b_t : -2147483648 ≤ t ∧ t < 2147483648) (hT : wfT (A 1)) (hS : wfS (A 1) (A 3)) (hn : 0 ≤ I 2 ∧ I 2 ≤ 6) : Ret mX9_nibble [.ref a, .int (iZ h), .int (iZ k), .int (iZ t)] σ (mPost a I A σ (spNibble (A 1) (A 3) (A 4) (I 2) h k t)) := by
  refine Ret.of moX9_nibble.1 (Nat.le_of_ble_eq_true rfl) (fun w => ?_)
  obtain ⟨m0, m1, m2, m3, m4, m5, m6, m7, m8, m9, m10, m11⟩ := id hM
  have bT := hT.1
  have bS := hS.bs hT
  have q0 := hT.2.1
  have q1 := hT.2.2.1
  have q2 := hT.2.2.2.1
  have h3 := hT.2.2.2.2.1
  have h4 := hT.2.2.2.2.2.1
  have s150 := hS.2.2.1
  show Go w mX9_nibble (0, 0) 0 [some (.ref a), some (.int (iZ h)), some (.int (iZ k)), some (.int (iZ t)), none, none, none, none, none, none, none, none, none, none, none] [] σ (mPost a I A σ (spNibble (A 1) (A 3) (A 4) (I 2) h k t))
  refine g_aload_n (q := 1) dX9_nibble_0 rfl rfl ?_
  refine g_iload_n (q := 2) dX9_nibble_1 rfl rfl ?_
  refine g_callV (As := [.int (iZ h)]) (rest := []) (q := 5) moX9_isHole lkX9_nibble_158 dX9_nibble_2 rfl m0 (r_M_isHole σ a I A hM h (by omega) bT) rfl rfl (Nat.le_of_ble_eq_true rfl) (Nat.le_of_ble_eq_true rfl) (Nat.le_of_ble_eq_true rfl) rfl ?_
  rintro r1 s1 hp
  rw [hp.1, hp.2]
  show Go w mX9_nibble (0, 0) 5 [some (.ref a), some (.int (iZ h)), some (.int (iZ k)), some (.int (iZ t)), none, none, none, none, none, none, none, none, none, none, none] [.int (bI (0 ≤ h ∧ h < A 1 3))] σ (mPost a I A σ (spNibble (A 1) (A 3) (A 4) (I 2) h k t))
  refine z_ifB_eq (t := 26) (q := 8) dX9_nibble_5 rfl rfl (fun pc1 => ?_) (fun pc1 => ?_)
  · refine z_iconst (q := 27) dX9_nibble_26 rfl ?_
    refine z_iret dX9_nibble_27 rfl ?_
    unfold spNibble; (repeat (first | rw [if_pos (by omega)] | rw [if_neg (by omega)]))
    exact mPost.same hM _
  · refine g_aload_n (q := 9) dX9_nibble_8 rfl rfl ?_
    refine g_iload_n (q := 10) dX9_nibble_9 rfl rfl ?_
    refine g_callV (As := [.int (iZ k)]) (rest := []) (q := 13) moX9_isStation lkX9_nibble_134 dX9_nibble_10 rfl m0 (r_M_isStation σ a I A hM k (by omega) bT) rfl rfl (Nat.le_of_ble_eq_true rfl) (Nat.le_of_ble_eq_true rfl) (Nat.le_of_ble_eq_true rfl) rfl ?_
    rintro r1 s1 hp
    rw [hp.1, hp.2]
    show Go w mX9_nibble (0, 0) 13 [some (.ref a), some (.int (iZ h)), some (.int (iZ k)), some (.int (iZ t)), none, none, none, none, none, none, none, none, none, none, none] [.int (bI (0 ≤ k ∧ k < A 1 2))] σ (mPost a I A σ (spNibble (A 1) (A 3) (A 4) (I 2) h k t))
    refine z_ifB_eq (t := 26) (q := 16) dX9_nibble_13 rfl rfl (fun pc2 => ?_) (fun pc2 => ?_)
    · refine z_iconst (q := 27) dX9_nibble_26 rfl ?_
      refine z_iret dX9_nibble_27 rfl ?_
      unfold spNibble; (repeat (first | rw [if_pos (by omega)] | rw [if_neg (by omega)]))
      exact mPost.same hM _
    · refine g_iload_n (q := 17) dX9_nibble_16 rfl rfl ?_
      refine z_i2l (q := 18) dX9_nibble_17 (by omega) rfl ?_
      refine g_lconst (v := lZ 0) (q := 19) dX9_nibble_18 (by decide) rfl ?_
      refine g_lconst (v := lZ 1) (q := 20) dX9_nibble_19 (by decide) rfl ?_
      refine g_callS (As := [.long (lZ t), .long (lZ 0), .long (lZ 1)]) (rest := []) (q := 23) moX9_in lkX9_nibble_58 dX9_nibble_20 (r_M_in σ t 0 1 (by omega) (by omega) (by omega)) rfl rfl (Nat.le_of_ble_eq_true rfl) (Nat.le_of_ble_eq_true rfl) (Nat.le_of_ble_eq_true rfl) rfl ?_
      rintro r1 s1 hp
      rw [hp.1, hp.2]
      show Go w mX9_nibble (0, 0) 23 [some (.ref a), some (.int (iZ h)), some (.int (iZ k)), some (.int (iZ t)), none, none, none, none, none, none, none, none, none, none, none] [.int (bI (0 ≤ t ∧ t ≤ 1))] σ (mPost a I A σ (spNibble (A 1) (A 3) (A 4) (I 2) h k t))
      refine z_ifB_ne (t := 28) (q := 26) dX9_nibble_23 rfl rfl (fun pc3 => ?_) (fun pc3 => ?_)
      · have nb0 := mNib_b (h := h) (k := k) (t := t) hT (by omega) (by omega)
        have hb0 := hT.2.2.2.2.2.2.2.1 h (by omega) (by omega)
        have hw := hT.w (k := k) (by omega) (by omega) t
        have hh := hT.h (k := k) (by omega) (by omega) t
        refine g_aload_n (q := 29) dX9_nibble_28 rfl rfl ?_
        refine g_iload_n (q := 30) dX9_nibble_29 rfl rfl ?_
        refine g_iload_n (q := 31) dX9_nibble_30 rfl rfl ?_
        refine g_iload_n (q := 32) dX9_nibble_31 rfl rfl ?_
        have b4 := hT.2.2.2.2.2.2.2.1 h (by omega) (by omega)
        refine g_callV (As := [.int (iZ h), .int (iZ k), .int (iZ t)]) (rest := []) (q := 35) moX9_nibbles lkX9_nibble_161 dX9_nibble_32 rfl m0 (r_M_nibbles σ a I A hM h k t (by omega) (by omega) (by omega) bT (hT.w (by omega) (by omega) _) (hT.h (by omega) (by omega) _) (show 0 ≤ A 1 (4 * h + 31) ∧ A 1 (4 * h + 31) ≤ 12 by omega) (show 0 ≤ A 1 (4 * h + 32) ∧ A 1 (4 * h + 32) ≤ 12 by omega)) rfl rfl (Nat.le_of_ble_eq_true rfl) (Nat.le_of_ble_eq_true rfl) (Nat.le_of_ble_eq_true rfl) rfl ?_
        rintro r1 s1 hp
        rw [hp.1, hp.2]
        show Go w mX9_nibble (0, 0) 35 [some (.ref a), some (.int (iZ h)), some (.int (iZ k)), some (.int (iZ t)), none, none, none, none, none, none, none, none, none, none, none] [.int (iZ (mNib (A 1) h k t))] σ (mPost a I A σ (spNibble (A 1) (A 3) (A 4) (I 2) h k t))
        refine g_istore (ml' := [some (.ref a), some (.int (iZ h)), some (.int (iZ k)), some (.int (iZ t)), some (.int (iZ (mNib (A 1) h k t))), none, none, none, none, none, none, none, none, none, none]) (q := 37) dX9_nibble_35 rfl (Nat.le_of_ble_eq_true rfl) rfl rfl ?_
        refine g_aload_n (q := 38) dX9_nibble_37 rfl rfl ?_
        refine g_iload_n (q := 39) dX9_nibble_38 rfl rfl ?_
        refine g_callV (As := [.int (iZ h)]) (rest := []) (q := 42) moX9_open lkX9_nibble_165 dX9_nibble_39 rfl m0 (r_M_open σ a I A hM h (by omega) bT bS h3) rfl rfl (Nat.le_of_ble_eq_true rfl) (Nat.le_of_ble_eq_true rfl) (Nat.le_of_ble_eq_true rfl) rfl ?_
        rintro r1 s1 hp
        rw [hp.1, hp.2]
        show Go w mX9_nibble (0, 0) 42 [some (.ref a), some (.int (iZ h)), some (.int (iZ k)), some (.int (iZ t)), some (.int (iZ (mNib (A 1) h k t))), none, none, none, none, none, none, none, none, none, none] [.int (iZ (mOpen (A 1) (A 3) h))] σ (mPost a I A σ (spNibble (A 1) (A 3) (A 4) (I 2) h k t))
        have b5 := mOpen_b (A 1) (A 3) h hS.1
        refine z_if_eq (t := 52) (q := 45) dX9_nibble_42 rfl (by omega) rfl (fun pc6 => ?_) (fun pc6 => ?_)
        · refine g_bipush (v := iZ (-2)) (q := 54) dX9_nibble_52 (by decide) rfl ?_
          refine z_iret dX9_nibble_54 rfl ?_
          unfold spNibble; (repeat (first | rw [if_pos (by omega)] | rw [if_neg (by omega)]))
          exact mPost.same hM _
        · refine g_iload (q := 47) dX9_nibble_45 rfl rfl ?_
          refine g_bipush (v := iZ (-4)) (q := 49) dX9_nibble_47 (by decide) rfl ?_
          refine z_icmp_ne (t := 55) (q := 52) dX9_nibble_49 rfl (by omega) rfl (fun pc7 => ?_) (fun pc7 => ?_)
          · refine g_bipush (v := iZ 29) (q := 57) dX9_nibble_55 (by decide) rfl ?_
            refine z_iconst (q := 58) dX9_nibble_57 rfl ?_
            refine g_iload_n (q := 59) dX9_nibble_58 rfl rfl ?_
            refine z_imul (q := 60) dX9_nibble_59 rfl ?_
            refine z_iaddc (c := (4 * h + 29)) (q := 61) dX9_nibble_60 (by omega) rfl ?_
            refine g_istore (ml' := [some (.ref a), some (.int (iZ h)), some (.int (iZ k)), some (.int (iZ t)), some (.int (iZ (mNib (A 1) h k t))), some (.int (iZ (4 * h + 29))), none, none, none, none, none, none, none, none, none]) (q := 63) dX9_nibble_61 rfl (Nat.le_of_ble_eq_true rfl) rfl rfl ?_
            refine g_aload_n (q := 64) dX9_nibble_63 rfl rfl ?_
            refine g_iload_n (q := 65) dX9_nibble_64 rfl rfl ?_
            refine g_iload_n (q := 66) dX9_nibble_65 rfl rfl ?_
            refine g_callV (As := [.int (iZ k), .int (iZ t)]) (rest := []) (q := 69) moX9_wide lkX9_nibble_114 dX9_nibble_66 rfl m0 (r_M_wide σ a I A hM k t (by omega) (by omega) bT) rfl rfl (Nat.le_of_ble_eq_true rfl) (Nat.le_of_ble_eq_true rfl) (Nat.le_of_ble_eq_true rfl) rfl ?_
            rintro r1 s1 hp
            rw [hp.1, hp.2]
            show Go w mX9_nibble (0, 0) 69 [some (.ref a), some (.int (iZ h)), some (.int (iZ k)), some (.int (iZ t)), some (.int (iZ (mNib (A 1) h k t))), some (.int (iZ (4 * h + 29))), none, none, none, none, none, none, none, none, none] [.int (iZ (mWide (A 1) k t))] σ (mPost a I A σ (spNibble (A 1) (A 3) (A 4) (I 2) h k t))
            refine g_istore (ml' := [some (.ref a), some (.int (iZ h)), some (.int (iZ k)), some (.int (iZ t)), some (.int (iZ (mNib (A 1) h k t))), some (.int (iZ (4 * h + 29))), some (.int (iZ (mWide (A 1) k t))), none, none, none, none, none, none, none, none]) (q := 71) dX9_nibble_69 rfl (Nat.le_of_ble_eq_true rfl) rfl rfl ?_
            refine g_aload_n (q := 72) dX9_nibble_71 rfl rfl ?_
            refine g_iload_n (q := 73) dX9_nibble_72 rfl rfl ?_
            refine g_iload_n (q := 74) dX9_nibble_73 rfl rfl ?_
            refine g_callV (As := [.int (iZ k), .int (iZ t)]) (rest := []) (q := 77) moX9_high lkX9_nibble_118 dX9_nibble_74 rfl m0 (r_M_high σ a I A hM k t (by omega) (by omega) bT) rfl rfl (Nat.le_of_ble_eq_true rfl) (Nat.le_of_ble_eq_true rfl) (Nat.le_of_ble_eq_true rfl) rfl ?_
            rintro r1 s1 hp
            rw [hp.1, hp.2]
            show Go w mX9_nibble (0, 0) 77 [some (.ref a), some (.int (iZ h)), some (.int (iZ k)), some (.int (iZ t)), some (.int (iZ (mNib (A 1) h k t))), some (.int (iZ (4 * h + 29))), some (.int (iZ (mWide (A 1) k t))), none, none, none, none, none, none, none, none] [.int (iZ (mHigh (A 1) k t))] σ (mPost a I A σ (spNibble (A 1) (A 3) (A 4) (I 2) h k t))
            refine g_istore (ml' := [some (.ref a), some (.int (iZ h)), some (.int (iZ k)), some (.int (iZ t)), some (.int (iZ (mNib (A 1) h k t))), some (.int (iZ (4 * h + 29))), some (.int (iZ (mWide (A 1) k t))), some (.int (iZ (mHigh (A 1) k t))), none, none, none, none, none, none, none]) (q := 79) dX9_nibble_77 rfl (Nat.le_of_ble_eq_true rfl) rfl rfl ?_
            refine g_aload_n (q := 80) dX9_nibble_79 rfl rfl ?_
            refine g_get (q := 83) flX9_13 dX9_nibble_80 m0 rfl rfl ?_
            refine g_iload (q := 85) dX9_nibble_83 rfl rfl ?_
            refine z_iconst (q := 86) dX9_nibble_85 rfl ?_
            refine z_iaddc (c := (4 * h + 31)) (q := 87) dX9_nibble_86 (by omega) rfl ?_
            refine z_iald (q := 88) dX9_nibble_87 m2 (by omega) rfl ?_
            have b8 := bT (4 * h + 31)
            refine g_iload (q := 90) dX9_nibble_88 rfl rfl ?_
            refine g_callS (As := [.int (iZ ((A 1) (4 * h + 31))), .int (iZ (mWide (A 1) k t))]) (rest := []) (q := 93) moX9_parts lkX9_nibble_155 dX9_nibble_90 (r_M_parts σ ((A 1) (4 * h + 31)) (mWide (A 1) k t) (by omega) (by omega)) rfl rfl (Nat.le_of_ble_eq_true rfl) (Nat.le_of_ble_eq_true rfl) (Nat.le_of_ble_eq_true rfl) rfl ?_
            rintro r1 s1 hp
            rw [hp.1, hp.2]
            show Go w mX9_nibble (0, 0) 93 [some (.ref a), some (.int (iZ h)), some (.int (iZ k)), some (.int (iZ t)), some (.int (iZ (mNib (A 1) h k t))), some (.int (iZ (4 * h + 29))), some (.int (iZ (mWide (A 1) k t))), some (.int (iZ (mHigh (A 1) k t))), none, none, none, none, none, none, none] [.int (iZ ((((A 1) (4 * h + 31)) + (mWide (A 1) k t) - 1) / (mWide (A 1) k t)))] σ (mPost a I A σ (spNibble (A 1) (A 3) (A 4) (I 2) h k t))
            refine g_istore (ml' := [some (.ref a), some (.int (iZ h)), some (.int (iZ k)), some (.int (iZ t)), some (.int (iZ (mNib (A 1) h k t))), some (.int (iZ (4 * h + 29))), some (.int (iZ (mWide (A 1) k t))), some (.int (iZ (mHigh (A 1) k t))), some (.int (iZ ((((A 1) (4 * h + 31)) + (mWide (A 1) k t) - 1) / (mWide (A 1) k t)))), none, none, none, none, none, none]) (q := 95) dX9_nibble_93 rfl (Nat.le_of_ble_eq_true rfl) rfl rfl ?_
            refine z_iconst (q := 96) dX9_nibble_95 rfl ?_
            refine g_istore (ml' := [some (.ref a), some (.int (iZ h)), some (.int (iZ k)), some (.int (iZ t)), some (.int (iZ (mNib (A 1) h k t))), some (.int (iZ (4 * h + 29))), some (.int (iZ (mWide (A 1) k t))), some (.int (iZ (mHigh (A 1) k t))), some (.int (iZ ((((A 1) (4 * h + 31)) + (mWide (A 1) k t) - 1) / (mWide (A 1) k t)))), some (.int (iZ 0)), none, none, none, none, none]) (q := 98) dX9_nibble_96 rfl (Nat.le_of_ble_eq_true rfl) rfl rfl ?_
            have hk0 : 0 ≤ h ∧ h < A 1 3 := by omega
            have hk : 0 ≤ k ∧ k < A 1 2 := by omega
            have bt : 0 ≤ t ∧ t ≤ 1 := by omega
            have hnb : (mNib (A 1) h k t) ≠ -4 := by omega
            have nb := mNib_b (t := t) hT hk0 hk
            obtain ⟨-, w1, w2, en, r1, r2⟩ := mNib_ok hT hk0 hk hnb
            have pp := zmul144 r1 r2
            refine l_M_nibcp w _ σ a I A h k t (mNib (A 1) h k t) (4 * h + 29) (mWide (A 1) k t) (mHigh (A 1) k t) ((((A 1) (4 * h + 31)) + (mWide (A 1) k t) - 1) / (mWide (A 1) k t)) (fun σc hMc hFc => ?_) 156 0 σ (by omega) (by omega) (by rw [zcp_0, nup_id]; exact hM) g_Fr.rf
            refine z_iconst (q := 127) dX9_nibble_126 rfl ?_
            refine g_istore (ml' := [some (.ref a), some (.int (iZ h)), some (.int (iZ k)), some (.int (iZ t)), some (.int (iZ (mNib (A 1) h k t))), some (.int (iZ (4 * h + 29))), some (.int (iZ (mWide (A 1) k t))), some (.int (iZ (mHigh (A 1) k t))), some (.int (iZ ((((A 1) (4 * h + 31)) + (mWide (A 1) k t) - 1) / (mWide (A 1) k t)))), some (.int (iZ 0)), none, none, none, none, none]) (q := 129) dX9_nibble_127 rfl (Nat.le_of_ble_eq_true rfl) rfl rfl ?_
            refine z_iconst (q := 130) dX9_nibble_129 rfl ?_
            refine g_istore (ml' := [some (.ref a), some (.int (iZ h)), some (.int (iZ k)), some (.int (iZ t)), some (.int (iZ (mNib (A 1) h k t))), some (.int (iZ (4 * h + 29))), some (.int (iZ (mWide (A 1) k t))), some (.int (iZ (mHigh (A 1) k t))), some (.int (iZ ((((A 1) (4 * h + 31)) + (mWide (A 1) k t) - 1) / (mWide (A 1) k t)))), some (.int (iZ 0)), some (.int (iZ 0)), none, none, none, none]) (q := 132) dX9_nibble_130 rfl (Nat.le_of_ble_eq_true rfl) rfl rfl ?_
            refine z_iconst (q := 133) dX9_nibble_132 rfl ?_
            refine g_istore (ml' := [some (.ref a), some (.int (iZ h)), some (.int (iZ k)), some (.int (iZ t)), some (.int (iZ (mNib (A 1) h k t))), some (.int (iZ (4 * h + 29))), some (.int (iZ (mWide (A 1) k t))), some (.int (iZ (mHigh (A 1) k t))), some (.int (iZ ((((A 1) (4 * h + 31)) + (mWide (A 1) k t) - 1) / (mWide (A 1) k t)))), some (.int (iZ 0)), some (.int (iZ 0)), some (.int (iZ 0)), none, none, none]) (q := 135) dX9_nibble_133 rfl (Nat.le_of_ble_eq_true rfl) rfl rfl ?_
            refine l_M_nibble w _ σ a I A (zcp (A 5) (A 3) 0 0 156) hT h k t hk0 hk bt hnb (mNibF (A 1) h k t (mNib (A 1) h k t).toNat 0 (A 3) 0) (fun σd hMd hFd => ?_) (mNib (A 1) h k t).toNat 0 0 (A 3) σc (by omega) (by omega) rfl hS (hMc.congr (fun _ _ => rfl) (fun j _ => (congrFun (nup_id (nup A 5 (zcp (A 5) (A 3) 0 0 156)) 3) j).symm)) hFc
            have hrf := mNibF_rf (A 1) h k t (mNib (A 1) h k t).toNat 0 (A 3) 0
            have hout : ∀ j, j < 0 ∨ 156 ≤ j → (mNibF (A 1) h k t (mNib (A 1) h k t).toNat 0 (A 3) 0).1 j = A 3 j := fun j hj => mNibF_out hT hk0 hk hnb (mNib (A 1) h k t).toNat 0 (A 3) 0 j (by omega) (by omega) hj
            obtain ⟨m0, m1, m2, m3, m4, m5, m6, m7, m8, m9, m10, m11⟩ := id hMd
            refine g_aload_n (q := 369) dX9_nibble_368 rfl rfl ?_
            refine g_callV (As := []) (rest := []) (q := 372) moX9_swaps lkX9_nibble_171 dX9_nibble_369 rfl m0 (r_M_swaps σd a I _ hMd) rfl rfl (Nat.le_of_ble_eq_true rfl) (Nat.le_of_ble_eq_true rfl) (Nat.le_of_ble_eq_true rfl) rfl ?_
            rintro r3 σe ⟨rfl, hMe, hFe⟩
            have hM1 : rM a I (nup A 5 (zcp (zcp (A 5) (A 3) 0 0 156) (mNibF (A 1) h k t (mNib (A 1) h k t).toNat 0 (A 3) 0).1 0 0 156)) σe := hMe.congr (fun _ _ => rfl) (fun j _ => by
              show nup (nup (nup (nup A 5 (zcp (A 5) (A 3) 0 0 156)) 3 (mNibF (A 1) h k t (mNib (A 1) h k t).toNat 0 (A 3) 0).1) 3 (zcp (mNibF (A 1) h k t (mNib (A 1) h k t).toNat 0 (A 3) 0).1 (zcp (A 5) (A 3) 0 0 156) 0 0 156)) 5 (zcp (zcp (A 5) (A 3) 0 0 156) (mNibF (A 1) h k t (mNib (A 1) h k t).toNat 0 (A 3) 0).1 0 0 156) j = _
              rw [zcp_swap hout, nup_nup, nup_cm _ _ _ (show (5 : Nat) ≠ 3 by omega), nup_id, nup_nup])
            obtain ⟨m0, m1, m2, m3, m4, m5, m6, m7, m8, m9, m10, m11⟩ := id hM1
            show Go w mX9_nibble (0, 0) 372 [some (.ref a), some (.int (iZ h)), some (.int (iZ k)), some (.int (iZ t)), some (.int (iZ (mNib (A 1) h k t))), some (.int (iZ (4 * h + 29))), some (.int (iZ (mWide (A 1) k t))), some (.int (iZ (mHigh (A 1) k t))), some (.int (iZ ((((A 1) (4 * h + 31)) + (mWide (A 1) k t) - 1) / (mWide (A 1) k t)))), some (.int (iZ ((mNibF (A 1) h k t (mNib (A 1) h k t).toNat 0 (A 3) 0).2.1))), some (.int (iZ ((mNibF (A 1) h k t (mNib (A 1) h k t).toNat 0 (A 3) 0).2.2))), none, none, none, none] [] σe _
            refine g_iload (q := 374) dX9_nibble_372 rfl rfl ?_
            refine z_if_eq (t := 380) (q := 377) dX9_nibble_374 rfl (by omega) rfl (fun pc9 => ?_) (fun pc9 => ?_)
            · refine g_aload_n (q := 381) dX9_nibble_380 rfl rfl ?_
              refine g_callV (As := []) (rest := []) (q := 384) moX9_note lkX9_nibble_149 dX9_nibble_381 rfl m0 (r_M_note σe a I (nup A 5 (zcp (zcp (A 5) (A 3) 0 0 156) (mNibF (A 1) h k t (mNib (A 1) h k t).toNat 0 (A 3) 0).1 0 0 156)) hM1 hn) rfl rfl (Nat.le_of_ble_eq_true rfl) (Nat.le_of_ble_eq_true rfl) (Nat.le_of_ble_eq_true rfl) rfl ?_
              rintro r4 σn ⟨rfl, hMn, hFn⟩
              obtain ⟨m0, m1, m2, m3, m4, m5, m6, m7, m8, m9, m10, m11⟩ := id hMn
              show Go w mX9_nibble (0, 0) 384 [some (.ref a), some (.int (iZ h)), some (.int (iZ k)), some (.int (iZ t)), some (.int (iZ (mNib (A 1) h k t))), some (.int (iZ (4 * h + 29))), some (.int (iZ (mWide (A 1) k t))), some (.int (iZ (mHigh (A 1) k t))), some (.int (iZ ((((A 1) (4 * h + 31)) + (mWide (A 1) k t) - 1) / (mWide (A 1) k t)))), some (.int (iZ ((mNibF (A 1) h k t (mNib (A 1) h k t).toNat 0 (A 3) 0).2.1))), some (.int (iZ ((mNibF (A 1) h k t (mNib (A 1) h k t).toNat 0 (A 3) 0).2.2))), none, none, none, none] [] σn _
              refine g_aload_n (q := 385) dX9_nibble_384 rfl rfl ?_
              refine g_callV (As := []) (rest := []) (q := 388) moX9_swaps lkX9_nibble_171 dX9_nibble_385 rfl m0 (r_M_swaps σn a _ _ hMn) rfl rfl (Nat.le_of_ble_eq_true rfl) (Nat.le_of_ble_eq_true rfl) (Nat.le_of_ble_eq_true rfl) rfl ?_
              rintro r5 σf ⟨rfl, hMf, hFf⟩
              have hM2 : rM a (nup I 2 (mNoteN (I 2))) (nup (nup A 3 (mNibF (A 1) h k t (mNib (A 1) h k t).toNat 0 (A 3) 0).1) 4 (mNoteB (A 4) (A 3) (I 2))) σf ∨ True := Or.inr trivial
              have e2 : zcp (A 3) (zcp (zcp (A 5) (A 3) 0 0 156) (mNibF (A 1) h k t (mNib (A 1) h k t).toNat 0 (A 3) 0).1 0 0 156) 0 0 156 = (mNibF (A 1) h k t (mNib (A 1) h k t).toNat 0 (A 3) 0).1 := zcp_swap (fun j hj => (hout j hj).symm)
              show Go w mX9_nibble (0, 0) 388 [some (.ref a), some (.int (iZ h)), some (.int (iZ k)), some (.int (iZ t)), some (.int (iZ (mNib (A 1) h k t))), some (.int (iZ (4 * h + 29))), some (.int (iZ (mWide (A 1) k t))), some (.int (iZ (mHigh (A 1) k t))), some (.int (iZ ((((A 1) (4 * h + 31)) + (mWide (A 1) k t) - 1) / (mWide (A 1) k t)))), some (.int (iZ ((mNibF (A 1) h k t (mNib (A 1) h k t).toNat 0 (A 3) 0).2.1))), some (.int (iZ ((mNibF (A 1) h k t (mNib (A 1) h k t).toNat 0 (A 3) 0).2.2))), none, none, none, none] [] σf _
              refine g_iload (q := 390) dX9_nibble_388 rfl rfl ?_
              refine z_iret dX9_nibble_390 rfl ?_
              unfold spNibble; (repeat (first | rw [if_pos (by omega)] | rw [if_neg (by omega)]))
              refine ⟨rfl, ⟨_, _, hMf, rfl, rfl, rfl, rfl, ?_, rfl⟩, ((hFd.tr hFe).tr hFn).tr hFf⟩
              exact e2
            · refine g_bipush (v := iZ (-2)) (q := 379) dX9_nibble_377 (by decide) rfl ?_
              refine z_iret dX9_nibble_379 rfl ?_
              unfold spNibble; (repeat (first | rw [if_pos (by omega)] | rw [if_neg (by omega)]))
              exact ⟨rfl, hM1.mc, hFd.tr hFe⟩
          · refine g_bipush (v := iZ (-2)) (q := 54) dX9_nibble_52 (by decide) rfl ?_
            refine z_iret dX9_nibble_54 rfl ?_
            unfold spNibble; (repeat (first | rw [if_pos (by omega)] | rw [if_neg (by omega)]))
            exact mPost.same hM _
      · refine z_iconst (q := 27) dX9_nibble_26 rfl ?_
        refine z_iret dX9_nibble_27 rfl ?_
        unfold spNibble; (repeat (first | rw [if_pos (by omega)] | rw [if_neg (by omega)]))
        exact mPost.same hM _
