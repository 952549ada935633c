def lexF (Tr Be : Int → Int) : Nat → Int → Int
  | 0, _ => 0
  | m + 1, k => if Tr k = Be k then lexF Tr Be m (k + 1) else if Tr k < Be k then 1 else 0
/-- whether what is tried is better than what is best -/
def btrQ (h th turns bh bt_ : Int) (Tr Be : Int → Int) : Int :=
  if th + turns ≠ bh + bt_ then (if th + turns < bh + bt_ then 1 else 0) else if turns ≠ bt_ then (if turns < bt_ then 1 else 0) else lexF Tr Be h.toNat 0
theorem l_lex (w : g_W) (σ : g_H0) (a : Nat) (Fe Wy Tr Be : Int → Int) (tH bh bt_ fo : Int) (hPl : rPl a Fe Wy Tr Be tH bh bt_ fo σ) (h turns : Int) (bhh : 0 ≤ h ∧ h ≤ 5) (b1 : -100000 ≤ tH ∧ tH ≤ 100000) (b2 : -100000 ≤ turns ∧ turns ≤ 100000) (b3 : -100000 ≤ bh ∧ bh ≤ 100000) (b4 : -100000 ≤ bt_ ∧ bt_ ≤ 100000) (bT1 : ∀ k, 0 ≤ k → k < h → -1000 ≤ Tr k ∧ Tr k ≤ 1000) (bT2 : ∀ k, 0 ≤ k → k < h → -1000 ≤ Be k ∧ Be k ≤ 1000) : ∀ (n : Nat) (k : Int), 0 ≤ k → k + n = h → Go w mX3_isBetter (0, 0) 66 [some (.ref a), some (.int (iZ h)), some (.int (iZ turns)), some (.int (iZ k))] [] σ (fun r σ' => r = some (.int (iZ (lexF Tr Be n k))) ∧ σ' = σ) := by
  intro n
  induction n with
  | zero =>
    intro k k0 k1
    obtain ⟨p0, p1, p2, p3, p4⟩ := id hPl
    refine g_iload_n (q := 67) dX3_isBetter_66 rfl rfl ?_
    refine g_iload_n (q := 68) dX3_isBetter_67 rfl rfl ?_
    refine z_icmp_ge (t := 113) (q := 71) dX3_isBetter_68 rfl (by omega) rfl (fun pc1 => ?_) (fun pc1 => ?_)
    · refine z_iconst (q := 114) dX3_isBetter_113 rfl ?_
      refine z_zret dX3_isBetter_114 rfl rfl ?_
      exact ⟨rfl, rfl⟩
    · exfalso
      omega
  | succ n ih =>
    intro k k0 k1
    obtain ⟨p0, p1, p2, p3, p4⟩ := id hPl
    refine g_iload_n (q := 67) dX3_isBetter_66 rfl rfl ?_
    refine g_iload_n (q := 68) dX3_isBetter_67 rfl rfl ?_
    refine z_icmp_ge (t := 113) (q := 71) dX3_isBetter_68 rfl (by omega) rfl (fun pc1 => ?_) (fun pc1 => ?_)
    · exfalso
      omega
    · have kb1 := bT1 k (by omega) (by omega)
      have kb2 := bT2 k (by omega) (by omega)
      refine g_aload_n (q := 72) dX3_isBetter_71 rfl rfl ?_
      refine g_get (q := 75) flX3_18 dX3_isBetter_72 p0 rfl rfl ?_
      refine g_iload_n (q := 76) dX3_isBetter_75 rfl rfl ?_
      refine z_iald (q := 77) dX3_isBetter_76 p3 (by omega) rfl ?_
      refine g_aload_n (q := 78) dX3_isBetter_77 rfl rfl ?_
      refine g_get (q := 81) flX3_21 dX3_isBetter_78 p0 rfl rfl ?_
      refine g_iload_n (q := 82) dX3_isBetter_81 rfl rfl ?_
      refine z_iald (q := 83) dX3_isBetter_82 p4 (by omega) rfl ?_
      refine z_icmp_eq (t := 107) (q := 86) dX3_isBetter_83 rfl (by omega) rfl (fun pc2 => ?_) (fun pc2 => ?_)
      · refine z_iincc (c := (k + 1)) (ml' := [some (.ref a), some (.int (iZ h)), some (.int (iZ turns)), some (.int (iZ (k + 1)))]) (q := 110) dX3_isBetter_107 rfl (by omega) rfl rfl rfl ?_
        refine g_goto (q := 66) dX3_isBetter_110 rfl ?_
        exact (ih (k + 1) (by omega) (by omega)).mono (fun r σ1 hp => ⟨hp.1.trans (congrArg (fun z => some (Value.int (iZ z))) (by conv => rhs; unfold lexF; rw [if_pos (by omega)])), hp.2⟩)
      · refine g_aload_n (q := 87) dX3_isBetter_86 rfl rfl ?_
        refine g_get (q := 90) flX3_18 dX3_isBetter_87 p0 rfl rfl ?_
        refine g_iload_n (q := 91) dX3_isBetter_90 rfl rfl ?_
        refine z_iald (q := 92) dX3_isBetter_91 p3 (by omega) rfl ?_
        refine g_aload_n (q := 93) dX3_isBetter_92 rfl rfl ?_
        refine g_get (q := 96) flX3_21 dX3_isBetter_93 p0 rfl rfl ?_
        refine g_iload_n (q := 97) dX3_isBetter_96 rfl rfl ?_
        refine z_iald (q := 98) dX3_isBetter_97 p4 (by omega) rfl ?_
        refine z_icmp_ge (t := 105) (q := 101) dX3_isBetter_98 rfl (by omega) rfl (fun pc3 => ?_) (fun pc3 => ?_)
        · refine z_iconst (q := 106) dX3_isBetter_105 rfl ?_
          refine z_zret dX3_isBetter_106 rfl rfl ?_
          exact ⟨congrArg (fun z => some (Value.int (iZ z))) (by unfold lexF; rw [if_neg (by omega), if_neg (by omega)]), rfl⟩
        · refine z_iconst (q := 102) dX3_isBetter_101 rfl ?_
          refine g_goto (q := 106) dX3_isBetter_102 rfl ?_
          refine z_zret dX3_isBetter_106 rfl rfl ?_
          exact ⟨congrArg (fun z => some (Value.int (iZ z))) (by unfold lexF; rw [if_neg (by omega), if_pos (by omega)]), rfl⟩
theorem r_isBetter (σ : g_H0) (a : Nat) (Fe Wy Tr Be : Int → Int) (tH bh bt_ fo : Int) (hPl : rPl a Fe Wy Tr Be tH bh bt_ fo σ) (h turns : Int) (bhh : 0 ≤ h ∧ h ≤ 5) (b1 : -100000 ≤ tH ∧ tH ≤ 100000) (b2 : -100000 ≤ turns ∧ turns ≤ 100000) (b3 : -100000 ≤ bh ∧ bh ≤ 100000) (b4 : -100000 ≤ bt_ ∧ bt_ ≤ 100000) (bT1 : ∀ k, 0 ≤ k → k < h → -1000 ≤ Tr k ∧ Tr k ≤ 1000) (bT2 : ∀ k, 0 ≤ k → k < h → -1000 ≤ Be k ∧ Be k ≤ 1000) : Ret mX3_isBetter [.ref a, .int (iZ h), .int (iZ turns)] σ (fun r σ' => r = some (.int (iZ (btrQ h tH turns bh bt_ Tr Be))) ∧ σ' = σ) := by
  refine Ret.of moX3_isBetter.1 (Nat.le_of_ble_eq_true rfl) (fun w => ?_)
  obtain ⟨p0, p1, p2, p3, p4⟩ := id hPl
  show Go w mX3_isBetter (0, 0) 0 [some (.ref a), some (.int (iZ h)), some (.int (iZ turns)), none] [] σ (fun r σ' => r = some (.int (iZ (btrQ h tH turns bh bt_ Tr Be))) ∧ σ' = σ)
  refine g_aload_n (q := 1) dX3_isBetter_0 rfl rfl ?_
  refine g_get (q := 4) flX3_80 dX3_isBetter_1 p0 rfl rfl ?_
  refine g_iload_n (q := 5) dX3_isBetter_4 rfl rfl ?_
  refine z_iadd (q := 6) dX3_isBetter_5 rfl ?_
  refine g_aload_n (q := 7) dX3_isBetter_6 rfl rfl ?_
  refine g_get (q := 10) flX3_91 dX3_isBetter_7 p0 rfl rfl ?_
  refine g_aload_n (q := 11) dX3_isBetter_10 rfl rfl ?_
  refine g_get (q := 14) flX3_94 dX3_isBetter_11 p0 rfl rfl ?_
  refine z_iadd (q := 15) dX3_isBetter_14 rfl ?_
  refine z_icmp_eq (t := 42) (q := 18) dX3_isBetter_15 rfl (by omega) rfl (fun pc1 => ?_) (fun pc1 => ?_)
  · refine g_iload_n (q := 43) dX3_isBetter_42 rfl rfl ?_
    refine g_aload_n (q := 44) dX3_isBetter_43 rfl rfl ?_
    refine g_get (q := 47) flX3_94 dX3_isBetter_44 p0 rfl rfl ?_
    refine z_icmp_eq (t := 64) (q := 50) dX3_isBetter_47 rfl (by omega) rfl (fun pc2 => ?_) (fun pc2 => ?_)
    · refine z_iconst (q := 65) dX3_isBetter_64 rfl ?_
      refine g_istore_n (ml' := [some (.ref a), some (.int (iZ h)), some (.int (iZ turns)), some (.int (iZ 0))]) (q := 66) dX3_isBetter_65 rfl (Nat.le_of_ble_eq_true rfl) rfl rfl ?_
      refine (l_lex w σ a Fe Wy Tr Be tH bh bt_ fo hPl h turns bhh b1 b2 b3 b4 bT1 bT2 h.toNat 0 (by omega) (by omega)).mono (fun r σ1 hp => ⟨hp.1.trans (congrArg (fun z => some (Value.int (iZ z))) ?_), hp.2⟩)
      unfold btrQ; rw [if_neg (by omega), if_neg (by omega)]
    · refine g_iload_n (q := 51) dX3_isBetter_50 rfl rfl ?_
      refine g_aload_n (q := 52) dX3_isBetter_51 rfl rfl ?_
      refine g_get (q := 55) flX3_94 dX3_isBetter_52 p0 rfl rfl ?_
      refine z_icmp_ge (t := 62) (q := 58) dX3_isBetter_55 rfl (by omega) rfl (fun pc3 => ?_) (fun pc3 => ?_)
      · refine z_iconst (q := 63) dX3_isBetter_62 rfl ?_
        refine z_zret dX3_isBetter_63 rfl rfl ?_
        refine ⟨congrArg (fun z => some (Value.int (iZ z))) ?_, rfl⟩
        unfold btrQ
        first | rw [if_pos (by omega), if_pos (by omega)] | rw [if_pos (by omega), if_neg (by omega)] | rw [if_neg (by omega), if_pos (by omega), if_pos (by omega)] | rw [if_neg (by omega), if_pos (by omega), if_neg (by omega)]
      · refine z_iconst (q := 59) dX3_isBetter_58 rfl ?_
        refine g_goto (q := 63) dX3_isBetter_59 rfl ?_
        refine z_zret dX3_isBetter_63 rfl rfl ?_
        refine ⟨congrArg (fun z => some (Value.int (iZ z))) ?_, rfl⟩
        unfold btrQ
        first | rw [if_pos (by omega), if_pos (by omega)] | rw [if_pos (by omega), if_neg (by omega)] | rw [if_neg (by omega), if_pos (by omega), if_pos (by omega)] | rw [if_neg (by omega), if_pos (by omega), if_neg (by omega)]
  · refine g_aload_n (q := 19) dX3_isBetter_18 rfl rfl ?_
    refine g_get (q := 22) flX3_80 dX3_isBetter_19 p0 rfl rfl ?_
    refine g_iload_n (q := 23) dX3_isBetter_22 rfl rfl ?_
    refine z_iadd (q := 24) dX3_isBetter_23 rfl ?_
    refine g_aload_n (q := 25) dX3_isBetter_24 rfl rfl ?_
    refine g_get (q := 28) flX3_91 dX3_isBetter_25 p0 rfl rfl ?_
    refine g_aload_n (q := 29) dX3_isBetter_28 rfl rfl ?_
    refine g_get (q := 32) flX3_94 dX3_isBetter_29 p0 rfl rfl ?_
    refine z_iadd (q := 33) dX3_isBetter_32 rfl ?_
    refine z_icmp_ge (t := 40) (q := 36) dX3_isBetter_33 rfl (by omega) rfl (fun pc4 => ?_) (fun pc4 => ?_)
    · refine z_iconst (q := 41) dX3_isBetter_40 rfl ?_
      refine z_zret dX3_isBetter_41 rfl rfl ?_
      refine ⟨congrArg (fun z => some (Value.int (iZ z))) ?_, rfl⟩
      unfold btrQ
      first | rw [if_pos (by omega), if_pos (by omega)] | rw [if_pos (by omega), if_neg (by omega)] | rw [if_neg (by omega), if_pos (by omega), if_pos (by omega)] | rw [if_neg (by omega), if_pos (by omega), if_neg (by omega)]
    · refine z_iconst (q := 37) dX3_isBetter_36 rfl ?_
      refine g_goto (q := 41) dX3_isBetter_37 rfl ?_
      refine z_zret dX3_isBetter_41 rfl rfl ?_
      refine ⟨congrArg (fun z => some (Value.int (iZ z))) ?_, rfl⟩
      unfold btrQ
      first | rw [if_pos (by omega), if_pos (by omega)] | rw [if_pos (by omega), if_neg (by omega)] | rw [if_neg (by omega), if_pos (by omega), if_pos (by omega)] | rw [if_neg (by omega), if_pos (by omega), if_neg (by omega)]
theorem r_keepTried (σ : g_H0) (a : Nat) (Fe Wy Tr Be : Int → Int) (tH bh bt_ fo : Int) (hPl : rPl a Fe Wy Tr Be tH bh bt_ fo σ) (turns : Int) : Ret mX3_keepTried [.ref a, .int (iZ turns)] σ (fun r σ' => r = none ∧ rPl a Fe Wy Tr (zcp Be Tr 0 0 5) tH tH turns 1 σ' ∧ g_Fr (pP a) σ σ') := by
  refine Ret.of moX3_keepTried.1 (Nat.le_of_ble_eq_true rfl) (fun w => ?_)
  obtain ⟨p0, p1, p2, p3, p4⟩ := id hPl
  show Go w mX3_keepTried (0, 0) 0 [some (.ref a), some (.int (iZ turns))] [] σ (fun r σ' => r = none ∧ rPl a Fe Wy Tr (zcp Be Tr 0 0 5) tH tH turns 1 σ' ∧ g_Fr (pP a) σ σ')
  refine g_aload_n (q := 1) dX3_keepTried_0 rfl rfl ?_
  refine z_iconst (q := 2) dX3_keepTried_1 rfl ?_
  refine z_put (fs' := [.ref (a + 1), .ref (a + 2), .ref (a + 3), .int (iZ tH), .ref (a + 4), .int (iZ bh), .int (iZ bt_), .int (iZ 1)]) (q := 5) fpX3_24 dX3_keepTried_2 p0 (Nat.le_of_ble_eq_true rfl) rfl rfl rfl rfl (fun σ1 c2 f3 => ?_)
  have c4 := (f3.2 (a + 1) (by omega)).trans p1
  have c5 := (f3.2 (a + 2) (by omega)).trans p2
  have c6 := (f3.2 (a + 3) (by omega)).trans p3
  have c7 := (f3.2 (a + 4) (by omega)).trans p4
  refine g_aload_n (q := 6) dX3_keepTried_5 rfl rfl ?_
  refine g_aload_n (q := 7) dX3_keepTried_6 rfl rfl ?_
  refine g_get (q := 10) flX3_80 dX3_keepTried_7 c2 rfl rfl ?_
  refine z_put (fs' := [.ref (a + 1), .ref (a + 2), .ref (a + 3), .int (iZ tH), .ref (a + 4), .int (iZ tH), .int (iZ bt_), .int (iZ 1)]) (q := 13) fpX3_91 dX3_keepTried_10 c2 (Nat.le_of_ble_eq_true rfl) rfl rfl rfl rfl (fun σ8 c9 f10 => ?_)
  have c11 := (f10.2 (a + 1) (by omega)).trans c4
  have c12 := (f10.2 (a + 2) (by omega)).trans c5
  have c13 := (f10.2 (a + 3) (by omega)).trans c6
  have c14 := (f10.2 (a + 4) (by omega)).trans c7
  refine g_aload_n (q := 14) dX3_keepTried_13 rfl rfl ?_
  refine g_iload_n (q := 15) dX3_keepTried_14 rfl rfl ?_
  refine z_put (fs' := [.ref (a + 1), .ref (a + 2), .ref (a + 3), .int (iZ tH), .ref (a + 4), .int (iZ tH), .int (iZ turns), .int (iZ 1)]) (q := 18) fpX3_94 dX3_keepTried_15 c9 (Nat.le_of_ble_eq_true rfl) rfl rfl rfl rfl (fun σ15 c16 f17 => ?_)
  have c18 := (f17.2 (a + 1) (by omega)).trans c11
  have c19 := (f17.2 (a + 2) (by omega)).trans c12
  have c20 := (f17.2 (a + 3) (by omega)).trans c13
  have c21 := (f17.2 (a + 4) (by omega)).trans c14
  refine g_aload_n (q := 19) dX3_keepTried_18 rfl rfl ?_
  refine g_get (q := 22) flX3_18 dX3_keepTried_19 c16 rfl rfl ?_
  refine z_iconst (q := 23) dX3_keepTried_22 rfl ?_
  refine g_aload_n (q := 24) dX3_keepTried_23 rfl rfl ?_
  refine g_get (q := 27) flX3_21 dX3_keepTried_24 c16 rfl rfl ?_
  refine z_iconst (q := 28) dX3_keepTried_27 rfl ?_
  refine z_iconst (q := 29) dX3_keepTried_28 rfl ?_
  refine z_copy (q := 32) laX3_97 dX3_keepTried_29 c20 c21 (by omega) (Nat.le_of_ble_eq_true rfl) (Nat.le_of_ble_eq_true rfl) (Nat.le_of_ble_eq_true rfl) rfl (fun σ22 c23 f24 => ?_)
  have c25 := (f24.2 (a + 1) (by omega)).trans c18
  have c26 := (f24.2 (a + 2) (by omega)).trans c19
  have c27 := (f24.2 (a + 3) (by omega)).trans c20
  have c28 := (f24.2 a (by omega)).trans c16
  refine z_vret dX3_keepTried_32 rfl ?_
  exact ⟨rfl, ⟨c28, c25, c26, c27, c23⟩, ((((g_Fr.rf.tr (f3.wk (fun k e => ⟨by omega, by omega⟩))).tr (f10.wk (fun k e => ⟨by omega, by omega⟩))).tr (f17.wk (fun k e => ⟨by omega, by omega⟩))).tr (f24.wk (fun k e => ⟨by omega, by omega⟩)))⟩
def cS (T : Int → Int) (k s t : Int) : Int := cHf (T (4 * s + 5)) (T (4 * s + 6)) (T (4 * s + 7)) (T (4 * k + 31)) (T (4 * k + 32)) t
theorem cS_b {T : Int → Int} (wT : wfT T) {k s t : Int} (hk : 0 ≤ k ∧ k < T 3) (hs : 0 ≤ s ∧ s < T 2) : 0 ≤ cS T k s t ∧ cS T k s t ≤ 144 := by
  have q1 := wT.2.2.2.2.2.2.1 s hs.1 hs.2
  have q2 := wT.2.2.2.2.2.2.2.1 k hk.1 hk.2
  have t0 := wT.2.1
  have t1 := wT.2.2.1
  unfold cS cHf
  have b1 : 1 ≤ cW (T (4 * s + 5)) (T (4 * s + 6)) t ∧ cW (T (4 * s + 5)) (T (4 * s + 6)) t ≤ 6 := by unfold cW; split <;> omega
  have b2 : 1 ≤ cW (T (4 * s + 6)) (T (4 * s + 5)) t ∧ cW (T (4 * s + 6)) (T (4 * s + 5)) t ≤ 6 := by unfold cW; split <;> omega
  split
  · omega
  · have z1 : cSt (T (4 * k + 31)) (cW (T (4 * s + 5)) (T (4 * s + 6)) t) = (T (4 * k + 31) + cW (T (4 * s + 5)) (T (4 * s + 6)) t - 1) / cW (T (4 * s + 5)) (T (4 * s + 6)) t := by unfold cSt; rw [if_neg (by omega)]
    have z2 : cSt (T (4 * k + 32)) (cW (T (4 * s + 6)) (T (4 * s + 5)) t) = (T (4 * k + 32) + cW (T (4 * s + 6)) (T (4 * s + 5)) t - 1) / cW (T (4 * s + 6)) (T (4 * s + 5)) t := by unfold cSt; rw [if_neg (by omega)]
    rw [z1, z2]
    have := zmul144 (zparts (n := T (4 * k + 31)) (d := cW (T (4 * s + 5)) (T (4 * s + 6)) t) b1.1 (by omega)) (zparts (n := T (4 * k + 32)) (d := cW (T (4 * s + 6)) (T (4 * s + 5)) t) b2.1 (by omega))
    omega
def cTn (T : Int → Int) (k s : Int) : Prop := cS T k s 1 ≠ 0 ∧ (cS T k s 0 = 0 ∨ cS T k s 1 < cS T k s 0)
def cFew (T : Int → Int) (k s : Int) : Int := if cS T k s 1 ≠ 0 ∧ (cS T k s 0 = 0 ∨ cS T k s 1 < cS T k s 0) then cS T k s 1 else cS T k s 0
def cWay (T : Int → Int) (k s : Int) : Int := if cS T k s 1 ≠ 0 ∧ (cS T k s 0 = 0 ∨ cS T k s 1 < cS T k s 0) then 2 * s + 1 else 2 * s
def wwF (T : Int → Int) (k : Int) : Nat → Int → (Int → Int) → (Int → Int) → (Int → Int) × (Int → Int)
  | 0, _, Fe, Wy => (Fe, Wy)
  | m + 1, s, Fe, Wy => wwF T k m (s + 1) (zup Fe (6 * k + s) (cFew T k s)) (zup Wy (6 * k + s) (cWay T k s))
def wwO (T : Int → Int) : Nat → Int → (Int → Int) → (Int → Int) → (Int → Int) × (Int → Int)
  | 0, _, Fe, Wy => (Fe, Wy)
  | m + 1, k, Fe, Wy => wwO T m (k + 1) (wwF T k (T 2).toNat 0 Fe Wy).1 (wwF T k (T 2).toNat 0 Fe Wy).2
theorem wwF_at (T : Int → Int) (k : Int) : ∀ (m : Nat) (s : Int) (Fe Wy : Int → Int) (x : Int), (wwF T k m s Fe Wy).1 x = (if 6 * k + s ≤ x ∧ x < 6 * k + s + m then cFew T k (x - 6 * k) else Fe x) ∧ (wwF T k m s Fe Wy).2 x = (if 6 * k + s ≤ x ∧ x < 6 * k + s + m then cWay T k (x - 6 * k) else Wy x)
  | 0, s, Fe, Wy, x => by unfold wwF; rw [if_neg (by omega), if_neg (by omega)]; exact ⟨rfl, rfl⟩
  | m + 1, s, Fe, Wy, x => by
    unfold wwF
    obtain ⟨e1, e2⟩ := wwF_at T k m (s + 1) (zup Fe (6 * k + s) (cFew T k s)) (zup Wy (6 * k + s) (cWay T k s)) x
    rw [e1, e2]
    by_cases h : x = 6 * k + s
    · subst h
      refine ⟨?_, ?_⟩
      · rw [if_neg (by omega), if_pos (by omega), zup_self, show 6 * k + s - 6 * k = s by omega]
      · rw [if_neg (by omega), if_pos (by omega), zup_self, show 6 * k + s - 6 * k = s by omega]
    · rw [zup_ne _ _ h, zup_ne _ _ h]
      by_cases h2 : 6 * k + (s + 1) ≤ x ∧ x < 6 * k + (s + 1) + m
      · refine ⟨?_, ?_⟩
        · rw [if_pos h2, if_pos (by omega)]
        · rw [if_pos h2, if_pos (by omega)]
      · refine ⟨?_, ?_⟩
        · rw [if_neg h2, if_neg (by omega)]
        · rw [if_neg h2, if_neg (by omega)]
theorem wwO_at {T : Int → Int} (hT : 1 ≤ T 2 ∧ T 2 ≤ 6) : ∀ (m : Nat) (k : Int) (Fe Wy : Int → Int) (q s : Int), 0 ≤ s → s < T 2 → (wwO T m k Fe Wy).1 (6 * q + s) = (if k ≤ q ∧ q < k + m then cFew T q s else Fe (6 * q + s)) ∧ (wwO T m k Fe Wy).2 (6 * q + s) = (if k ≤ q ∧ q < k + m then cWay T q s else Wy (6 * q + s))
  | 0, k, Fe, Wy, q, s, _, _ => by unfold wwO; rw [if_neg (by omega), if_neg (by omega)]; exact ⟨rfl, rfl⟩
  | m + 1, k, Fe, Wy, q, s, s0, s1 => by
    unfold wwO
    obtain ⟨e1, e2⟩ := wwO_at hT m (k + 1) (wwF T k (T 2).toNat 0 Fe Wy).1 (wwF T k (T 2).toNat 0 Fe Wy).2 q s s0 s1
    obtain ⟨f1, f2⟩ := wwF_at T k (T 2).toNat 0 Fe Wy (6 * q + s)
    rw [e1, e2, f1, f2]
    by_cases h : q = k
    · subst h
      refine ⟨?_, ?_⟩
      · rw [if_neg (by omega), if_pos (by omega), if_pos (by omega), show 6 * q + s - 6 * q = s by omega]
      · rw [if_neg (by omega), if_pos (by omega), if_pos (by omega), show 6 * q + s - 6 * q = s by omega]
    · by_cases h2 : k + 1 ≤ q ∧ q < k + 1 + m
      · refine ⟨?_, ?_⟩
        · rw [if_pos h2, if_pos (by omega)]
        · rw [if_pos h2, if_pos (by omega)]
      · refine ⟨?_, ?_⟩
        · rw [if_neg h2, if_neg (by omega), if_neg (by omega)]
        · rw [if_neg h2, if_neg (by omega), if_neg (by omega)]
theorem l_ww1 (w : g_W) (Φ : g_Post) (σ0 : g_H0) (a j : Nat) (hd2 : a + 5 ≤ j) (T : Int → Int) (wT : wfT T) (Tr Be : Int → Int) (tH bh bt_ fo : Int) (k : Int) (bk : 0 ≤ k ∧ k < T 3) (Ff Wf : Int → Int) (K : ∀ σ : g_H0, rPl a Ff Wf Tr Be tH bh bt_ fo σ → rJob j T σ → g_Fr (pP a) σ0 σ → Go w mX3_weighWays (0, 0) 129 [some (.ref a), some (.ref j), some (.int (iZ k)), none, none, none, none] [] σ Φ) : ∀ (m : Nat) (s : Int) (Fe Wy : Int → Int) (σ : g_H0), 0 ≤ s → s + m = T 2 → wwF T k m s Fe Wy = (Ff, Wf) → rPl a Fe Wy Tr Be tH bh bt_ fo σ → rJob j T σ → g_Fr (pP a) σ0 σ → Go w mX3_weighWays (0, 0) 12 [some (.ref a), some (.ref j), some (.int (iZ k)), some (.int (iZ s)), none, none, none] [] σ Φ := by
  intro m
  induction m with
  | zero =>
    intro s Fe Wy σ s0 s1 hw hPl hJ hF
    obtain ⟨p0, p1, p2, p3, p4⟩ := id hPl
    obtain ⟨bT, t0, t1, t2, t3, t4, tt, th, tap, tcl, tc2⟩ := id wT
    obtain ⟨j0, j1, ⟨jf, j2, j2'⟩, ⟨jg, j3, j3'⟩, ⟨jC, j4, j4'⟩, j5, j6⟩ := id hJ
    refine g_iload_n (q := 13) dX3_weighWays_12 rfl rfl ?_
    refine g_aload_n (q := 14) dX3_weighWays_13 rfl rfl ?_
    refine g_get (q := 17) flX3_32 dX3_weighWays_14 j0 rfl rfl ?_
    refine z_icmp_ge (t := 129) (q := 20) dX3_weighWays_17 rfl (by omega) rfl (fun pc1 => ?_) (fun pc1 => ?_)
    · obtain ⟨rfl, rfl⟩ : Fe = Ff ∧ Wy = Wf := by unfold wwF at hw; exact ⟨congrArg Prod.fst hw, congrArg Prod.snd hw⟩
      refine Go.wk (ml' := [some (.ref a), some (.ref j), some (.int (iZ k)), none, none, none, none]) ⟨Or.inr rfl, Or.inr rfl, Or.inr rfl, Or.inl rfl, Or.inl rfl, Or.inl rfl, Or.inl rfl, trivial⟩ ?_
      exact K σ hPl hJ hF
    · exfalso
      omega
  | succ m ih =>
    intro s Fe Wy σ s0 s1 hw hPl hJ hF
    obtain ⟨p0, p1, p2, p3, p4⟩ := id hPl
    obtain ⟨bT, t0, t1, t2, t3, t4, tt, th, tap, tcl, tc2⟩ := id wT
    obtain ⟨j0, j1, ⟨jf, j2, j2'⟩, ⟨jg, j3, j3'⟩, ⟨jC, j4, j4'⟩, j5, j6⟩ := id hJ
    refine g_iload_n (q := 13) dX3_weighWays_12 rfl rfl ?_
    refine g_aload_n (q := 14) dX3_weighWays_13 rfl rfl ?_
    refine g_get (q := 17) flX3_32 dX3_weighWays_14 j0 rfl rfl ?_
    refine z_icmp_ge (t := 129) (q := 20) dX3_weighWays_17 rfl (by omega) rfl (fun pc1 => ?_) (fun pc1 => ?_)
    · exfalso
      omega
    · refine g_aload_n (q := 21) dX3_weighWays_20 rfl rfl ?_
      refine g_get (q := 24) flX3_62 dX3_weighWays_21 j0 rfl rfl ?_
      refine g_iload_n (q := 25) dX3_weighWays_24 rfl rfl ?_
      obtain ⟨f2, e2, g2, k2⟩ := hJ.tool (s := s) (by omega) (by omega) (by omega)
      have k2 : σ[(j + 5 + s.toNat)]? = some (.inr (7, [.int (iZ (T (4 * s + 5))), .int (iZ (T (4 * s + 6))), .int (iZ (T (4 * s + 8))), .int (iZ (T (4 * s + 7)))])) := k2
      have q2 := tt s (by omega) (by omega)
      refine z_aald (b := (j + 5 + s.toNat)) (q := 26) dX3_weighWays_25 rfl e2 (by omega) g2 rfl ?_
      refine g_aload_n (q := 27) dX3_weighWays_26 rfl rfl ?_
      refine g_get (q := 30) flX3_66 dX3_weighWays_27 j0 rfl rfl ?_
      refine g_iload_n (q := 31) dX3_weighWays_30 rfl rfl ?_
      obtain ⟨f3, e3, g3, k3⟩ := hJ.hole (s := k) (by omega) (by omega) (by omega)
      have k3 : σ[(j + 11 + k.toNat)]? = some (.inr (0, [.int (iZ (T (4 * k + 29))), .int (iZ (T (4 * k + 30))), .int (iZ (T (4 * k + 31))), .int (iZ (T (4 * k + 32)))])) := k3
      have q3 := th k (by omega) (by omega)
      refine z_aald (b := (j + 11 + k.toNat)) (q := 32) dX3_weighWays_31 rfl e3 (by omega) g3 rfl ?_
      refine z_iconst (q := 33) dX3_weighWays_32 rfl ?_
      refine g_callV (As := [.ref (j + 11 + k.toNat), .int (iZ 0)]) (rest := []) (q := 36) moX7_hitsFor lkX3_weighWays_70 dX3_weighWays_33 rfl k2 (r_hitsFor σ (j + 5 + s.toNat) (j + 11 + k.toNat) (T (4 * s + 5)) (T (4 * s + 6)) (T (4 * s + 8)) (T (4 * s + 7)) (T (4 * k + 29)) (T (4 * k + 30)) (T (4 * k + 31)) (T (4 * k + 32)) 0 k2 k3 (by omega) (by omega) (by omega) (by omega) (by omega) (by omega)) rfl rfl (Nat.le_of_ble_eq_true rfl) (Nat.le_of_ble_eq_true rfl) (Nat.le_of_ble_eq_true rfl) rfl ?_
      rintro rQ sQ hpQ
      rw [hpQ.1, hpQ.2]
      show Go w mX3_weighWays (0, 0) 36 [some (.ref a), some (.ref j), some (.int (iZ k)), some (.int (iZ s)), none, none, none] [.int (iZ (cS T k s 0))] σ Φ
      have b4 := cS_b wT (k := k) (s := s) (t := 0) (by omega) (by omega)
      refine g_istore (ml' := [some (.ref a), some (.ref j), some (.int (iZ k)), some (.int (iZ s)), some (.int (iZ (cS T k s 0))), none, none]) (q := 38) dX3_weighWays_36 rfl (Nat.le_of_ble_eq_true rfl) rfl rfl ?_
      refine g_aload_n (q := 39) dX3_weighWays_38 rfl rfl ?_
      refine g_get (q := 42) flX3_62 dX3_weighWays_39 j0 rfl rfl ?_
      refine g_iload_n (q := 43) dX3_weighWays_42 rfl rfl ?_
      obtain ⟨f5, e5, g5, k5⟩ := hJ.tool (s := s) (by omega) (by omega) (by omega)
      have k5 : σ[(j + 5 + s.toNat)]? = some (.inr (7, [.int (iZ (T (4 * s + 5))), .int (iZ (T (4 * s + 6))), .int (iZ (T (4 * s + 8))), .int (iZ (T (4 * s + 7)))])) := k5
      have q5 := tt s (by omega) (by omega)
      refine z_aald (b := (j + 5 + s.toNat)) (q := 44) dX3_weighWays_43 rfl e5 (by omega) g5 rfl ?_
      refine g_aload_n (q := 45) dX3_weighWays_44 rfl rfl ?_
      refine g_get (q := 48) flX3_66 dX3_weighWays_45 j0 rfl rfl ?_
      refine g_iload_n (q := 49) dX3_weighWays_48 rfl rfl ?_
      obtain ⟨f6, e6, g6, k6⟩ := hJ.hole (s := k) (by omega) (by omega) (by omega)
      have k6 : σ[(j + 11 + k.toNat)]? = some (.inr (0, [.int (iZ (T (4 * k + 29))), .int (iZ (T (4 * k + 30))), .int (iZ (T (4 * k + 31))), .int (iZ (T (4 * k + 32)))])) := k6
      have q6 := th k (by omega) (by omega)
      refine z_aald (b := (j + 11 + k.toNat)) (q := 50) dX3_weighWays_49 rfl e6 (by omega) g6 rfl ?_
      refine z_iconst (q := 51) dX3_weighWays_50 rfl ?_
      refine g_callV (As := [.ref (j + 11 + k.toNat), .int (iZ 1)]) (rest := []) (q := 54) moX7_hitsFor lkX3_weighWays_70 dX3_weighWays_51 rfl k5 (r_hitsFor σ (j + 5 + s.toNat) (j + 11 + k.toNat) (T (4 * s + 5)) (T (4 * s + 6)) (T (4 * s + 8)) (T (4 * s + 7)) (T (4 * k + 29)) (T (4 * k + 30)) (T (4 * k + 31)) (T (4 * k + 32)) 1 k5 k6 (by omega) (by omega) (by omega) (by omega) (by omega) (by omega)) rfl rfl (Nat.le_of_ble_eq_true rfl) (Nat.le_of_ble_eq_true rfl) (Nat.le_of_ble_eq_true rfl) rfl ?_
      rintro rQ sQ hpQ
      rw [hpQ.1, hpQ.2]
      show Go w mX3_weighWays (0, 0) 54 [some (.ref a), some (.ref j), some (.int (iZ k)), some (.int (iZ s)), some (.int (iZ (cS T k s 0))), none, none] [.int (iZ (cS T k s 1))] σ Φ
      have b7 := cS_b wT (k := k) (s := s) (t := 1) (by omega) (by omega)
      refine g_istore (ml' := [some (.ref a), some (.ref j), some (.int (iZ k)), some (.int (iZ s)), some (.int (iZ (cS T k s 0))), some (.int (iZ (cS T k s 1))), none]) (q := 56) dX3_weighWays_54 rfl (Nat.le_of_ble_eq_true rfl) rfl rfl ?_
      refine g_iload (q := 58) dX3_weighWays_56 rfl rfl ?_
      refine z_if_eq (t := 77) (q := 61) dX3_weighWays_58 rfl (by omega) rfl (fun pc8 => ?_) (fun pc8 => ?_)
      · refine z_iconst (q := 78) dX3_weighWays_77 rfl ?_
        refine g_istore (ml' := [some (.ref a), some (.ref j), some (.int (iZ k)), some (.int (iZ s)), some (.int (iZ (cS T k s 0))), some (.int (iZ (cS T k s 1))), some (.int (iZ 0))]) (q := 80) dX3_weighWays_78 rfl (Nat.le_of_ble_eq_true rfl) rfl rfl ?_
        refine g_aload_n (q := 81) dX3_weighWays_80 rfl rfl ?_
        refine g_get (q := 84) flX3_9 dX3_weighWays_81 p0 rfl rfl ?_
        refine g_iload_n (q := 85) dX3_weighWays_84 rfl rfl ?_
        refine g_bipush (v := iZ 6) (q := 87) dX3_weighWays_85 (by decide) rfl ?_
        refine z_imulc (c := (6 * k)) (q := 88) dX3_weighWays_87 (by omega) rfl ?_
        refine g_iload_n (q := 89) dX3_weighWays_88 rfl rfl ?_
        refine z_iaddc (c := (6 * k + s)) (q := 90) dX3_weighWays_89 (by omega) rfl ?_
        refine g_iload (q := 92) dX3_weighWays_90 rfl rfl ?_
        refine z_if_eq (t := 100) (q := 95) dX3_weighWays_92 rfl (by omega) rfl (fun pc9 => ?_) (fun pc9 => ?_)
        · refine g_iload (q := 102) dX3_weighWays_100 rfl rfl ?_
          refine z_iast (q := 103) dX3_weighWays_102 p1 (by omega) rfl (fun σ10 c11 f12 => ?_)
          have c13 := (f12.2 a (by omega)).trans p0
          have c14 := (f12.2 (a + 2) (by omega)).trans p2
          have c15 := (f12.2 (a + 3) (by omega)).trans p3
          have c16 := (f12.2 (a + 4) (by omega)).trans p4
          have c17 := (f12.2 j (by omega)).trans j0
          have c18 := (f12.2 (j + 1) (by omega)).trans j1
          have c19 := (f12.2 (j + 2) (by omega)).trans j2
          have c20 := (f12.2 (j + 3) (by omega)).trans j3
          have c21 := (f12.2 (j + 4) (by omega)).trans j4
          have c22 := (f12.2 (j + 5 + s.toNat) (by omega)).trans k5
          have c23 := (f12.2 (j + 11 + k.toNat) (by omega)).trans k6
          have hJ24 : rJob j T σ10 := hJ.fr (fun k k0 k1 => f12.2 k (by omega))
          refine g_aload_n (q := 104) dX3_weighWays_103 rfl rfl ?_
          refine g_get (q := 107) flX3_15 dX3_weighWays_104 c13 rfl rfl ?_
          refine g_iload_n (q := 108) dX3_weighWays_107 rfl rfl ?_
          refine g_bipush (v := iZ 6) (q := 110) dX3_weighWays_108 (by decide) rfl ?_
          refine z_imulc (c := (6 * k)) (q := 111) dX3_weighWays_110 (by omega) rfl ?_
          refine g_iload_n (q := 112) dX3_weighWays_111 rfl rfl ?_
          refine z_iaddc (c := (6 * k + s)) (q := 113) dX3_weighWays_112 (by omega) rfl ?_
          refine z_iconst (q := 114) dX3_weighWays_113 rfl ?_
          refine g_iload_n (q := 115) dX3_weighWays_114 rfl rfl ?_
          refine z_imul (q := 116) dX3_weighWays_115 rfl ?_
          refine g_iload (q := 118) dX3_weighWays_116 rfl rfl ?_
          refine g_callSN (As := [.int (iZ 0)]) (rest := [.int (iZ (2 * s)), .int (iZ (6 * k + s)), .ref (a + 2)]) (q := 121) moX8_asFlag lkX3_weighWays_76 dX3_weighWays_118 (r_asFlagZ σ10 0 (by omega)) rfl rfl (Nat.le_of_ble_eq_true rfl) (Nat.le_of_ble_eq_true rfl) (Nat.le_of_ble_eq_true rfl) rfl ?_
          rintro rQ sQ hpQ
          rw [hpQ.1, hpQ.2]
          show Go w mX3_weighWays (0, 0) 121 [some (.ref a), some (.ref j), some (.int (iZ k)), some (.int (iZ s)), some (.int (iZ (cS T k s 0))), some (.int (iZ (cS T k s 1))), some (.int (iZ 0))] [.int (iZ 0), .int (iZ (2 * s)), .int (iZ (6 * k + s)), .ref (a + 2)] σ10 Φ
          refine z_iaddc (c := (2 * s)) (q := 122) dX3_weighWays_121 (by omega) rfl ?_
          refine z_iast (q := 123) dX3_weighWays_122 c14 (by omega) rfl (fun σ25 c26 f27 => ?_)
          have c28 := (f27.2 a (by omega)).trans c13
          have c29 := (f27.2 (a + 3) (by omega)).trans c15
          have c30 := (f27.2 (a + 4) (by omega)).trans c16
          have c31 := (f27.2 j (by omega)).trans c17
          have c32 := (f27.2 (j + 1) (by omega)).trans c18
          have c33 := (f27.2 (j + 2) (by omega)).trans c19
          have c34 := (f27.2 (j + 3) (by omega)).trans c20
          have c35 := (f27.2 (j + 4) (by omega)).trans c21
          have c36 := (f27.2 (j + 5 + s.toNat) (by omega)).trans c22
          have c37 := (f27.2 (j + 11 + k.toNat) (by omega)).trans c23
          have c38 := (f27.2 (a + 1) (by omega)).trans c11
          have hJ39 : rJob j T σ25 := hJ24.fr (fun k k0 k1 => f27.2 k (by omega))
          refine z_iincc (c := (s + 1)) (ml' := [some (.ref a), some (.ref j), some (.int (iZ k)), some (.int (iZ (s + 1))), some (.int (iZ (cS T k s 0))), some (.int (iZ (cS T k s 1))), some (.int (iZ 0))]) (q := 126) dX3_weighWays_123 rfl (by omega) rfl rfl rfl ?_
          refine g_goto (q := 12) dX3_weighWays_126 rfl ?_
          refine Go.wk (ml' := [some (.ref a), some (.ref j), some (.int (iZ k)), some (.int (iZ (s + 1))), none, none, none]) ⟨Or.inr rfl, Or.inr rfl, Or.inr rfl, Or.inr rfl, Or.inl rfl, Or.inl rfl, Or.inl rfl, trivial⟩ ?_
          refine ih (s + 1) (zup Fe (6 * k + s) (cS T k s 0)) (zup Wy (6 * k + s) (2 * s)) σ25 (by omega) (by omega) ?_ ⟨c28, c38, c26, c29, c30⟩ hJ39 ((hF.tr (f12.wk (fun k e => ⟨by omega, by omega⟩))).tr (f27.wk (fun k e => ⟨by omega, by omega⟩)))
          rw [← hw]; conv => rhs; unfold wwF cFew cWay
          first | (rw [if_pos (by omega), if_pos (by omega)]; done) | (rw [if_neg (by omega), if_neg (by omega)]; done)
        · exfalso; omega
      · refine g_iload (q := 63) dX3_weighWays_61 rfl rfl ?_
        refine z_if_eq (t := 73) (q := 66) dX3_weighWays_63 rfl (by omega) rfl (fun pc40 => ?_) (fun pc40 => ?_)
        · refine z_iconst (q := 74) dX3_weighWays_73 rfl ?_
          refine g_goto (q := 78) dX3_weighWays_74 rfl ?_
          refine g_istore (ml' := [some (.ref a), some (.ref j), some (.int (iZ k)), some (.int (iZ s)), some (.int (iZ (cS T k s 0))), some (.int (iZ (cS T k s 1))), some (.int (iZ 1))]) (q := 80) dX3_weighWays_78 rfl (Nat.le_of_ble_eq_true rfl) rfl rfl ?_
          refine g_aload_n (q := 81) dX3_weighWays_80 rfl rfl ?_
          refine g_get (q := 84) flX3_9 dX3_weighWays_81 p0 rfl rfl ?_
          refine g_iload_n (q := 85) dX3_weighWays_84 rfl rfl ?_
          refine g_bipush (v := iZ 6) (q := 87) dX3_weighWays_85 (by decide) rfl ?_
          refine z_imulc (c := (6 * k)) (q := 88) dX3_weighWays_87 (by omega) rfl ?_
          refine g_iload_n (q := 89) dX3_weighWays_88 rfl rfl ?_
          refine z_iaddc (c := (6 * k + s)) (q := 90) dX3_weighWays_89 (by omega) rfl ?_
          refine g_iload (q := 92) dX3_weighWays_90 rfl rfl ?_
          refine z_if_eq (t := 100) (q := 95) dX3_weighWays_92 rfl (by omega) rfl (fun pc41 => ?_) (fun pc41 => ?_)
          · exfalso; omega
          · refine g_iload (q := 97) dX3_weighWays_95 rfl rfl ?_
            refine g_goto (q := 102) dX3_weighWays_97 rfl ?_
            refine z_iast (q := 103) dX3_weighWays_102 p1 (by omega) rfl (fun σ42 c43 f44 => ?_)
            have c45 := (f44.2 a (by omega)).trans p0
            have c46 := (f44.2 (a + 2) (by omega)).trans p2
            have c47 := (f44.2 (a + 3) (by omega)).trans p3
            have c48 := (f44.2 (a + 4) (by omega)).trans p4
            have c49 := (f44.2 j (by omega)).trans j0
            have c50 := (f44.2 (j + 1) (by omega)).trans j1
            have c51 := (f44.2 (j + 2) (by omega)).trans j2
            have c52 := (f44.2 (j + 3) (by omega)).trans j3
            have c53 := (f44.2 (j + 4) (by omega)).trans j4
            have c54 := (f44.2 (j + 5 + s.toNat) (by omega)).trans k5
            have c55 := (f44.2 (j + 11 + k.toNat) (by omega)).trans k6
            have hJ56 : rJob j T σ42 := hJ.fr (fun k k0 k1 => f44.2 k (by omega))
            refine g_aload_n (q := 104) dX3_weighWays_103 rfl rfl ?_
            refine g_get (q := 107) flX3_15 dX3_weighWays_104 c45 rfl rfl ?_
            refine g_iload_n (q := 108) dX3_weighWays_107 rfl rfl ?_
            refine g_bipush (v := iZ 6) (q := 110) dX3_weighWays_108 (by decide) rfl ?_
            refine z_imulc (c := (6 * k)) (q := 111) dX3_weighWays_110 (by omega) rfl ?_
            refine g_iload_n (q := 112) dX3_weighWays_111 rfl rfl ?_
            refine z_iaddc (c := (6 * k + s)) (q := 113) dX3_weighWays_112 (by omega) rfl ?_
            refine z_iconst (q := 114) dX3_weighWays_113 rfl ?_
            refine g_iload_n (q := 115) dX3_weighWays_114 rfl rfl ?_
            refine z_imul (q := 116) dX3_weighWays_115 rfl ?_
            refine g_iload (q := 118) dX3_weighWays_116 rfl rfl ?_
            refine g_callSN (As := [.int (iZ 1)]) (rest := [.int (iZ (2 * s)), .int (iZ (6 * k + s)), .ref (a + 2)]) (q := 121) moX8_asFlag lkX3_weighWays_76 dX3_weighWays_118 (r_asFlagZ σ42 1 (by omega)) rfl rfl (Nat.le_of_ble_eq_true rfl) (Nat.le_of_ble_eq_true rfl) (Nat.le_of_ble_eq_true rfl) rfl ?_
            rintro rQ sQ hpQ
            rw [hpQ.1, hpQ.2]
            show Go w mX3_weighWays (0, 0) 121 [some (.ref a), some (.ref j), some (.int (iZ k)), some (.int (iZ s)), some (.int (iZ (cS T k s 0))), some (.int (iZ (cS T k s 1))), some (.int (iZ 1))] [.int (iZ 1), .int (iZ (2 * s)), .int (iZ (6 * k + s)), .ref (a + 2)] σ42 Φ
            refine z_iaddc (c := (2 * s + 1)) (q := 122) dX3_weighWays_121 (by omega) rfl ?_
            refine z_iast (q := 123) dX3_weighWays_122 c46 (by omega) rfl (fun σ57 c58 f59 => ?_)
            have c60 := (f59.2 a (by omega)).trans c45
            have c61 := (f59.2 (a + 3) (by omega)).trans c47
            have c62 := (f59.2 (a + 4) (by omega)).trans c48
            have c63 := (f59.2 j (by omega)).trans c49
            have c64 := (f59.2 (j + 1) (by omega)).trans c50
            have c65 := (f59.2 (j + 2) (by omega)).trans c51
            have c66 := (f59.2 (j + 3) (by omega)).trans c52
            have c67 := (f59.2 (j + 4) (by omega)).trans c53
            have c68 := (f59.2 (j + 5 + s.toNat) (by omega)).trans c54
            have c69 := (f59.2 (j + 11 + k.toNat) (by omega)).trans c55
            have c70 := (f59.2 (a + 1) (by omega)).trans c43
            have hJ71 : rJob j T σ57 := hJ56.fr (fun k k0 k1 => f59.2 k (by omega))
            refine z_iincc (c := (s + 1)) (ml' := [some (.ref a), some (.ref j), some (.int (iZ k)), some (.int (iZ (s + 1))), some (.int (iZ (cS T k s 0))), some (.int (iZ (cS T k s 1))), some (.int (iZ 1))]) (q := 126) dX3_weighWays_123 rfl (by omega) rfl rfl rfl ?_
            refine g_goto (q := 12) dX3_weighWays_126 rfl ?_
            refine Go.wk (ml' := [some (.ref a), some (.ref j), some (.int (iZ k)), some (.int (iZ (s + 1))), none, none, none]) ⟨Or.inr rfl, Or.inr rfl, Or.inr rfl, Or.inr rfl, Or.inl rfl, Or.inl rfl, Or.inl rfl, trivial⟩ ?_
            refine ih (s + 1) (zup Fe (6 * k + s) (cS T k s 1)) (zup Wy (6 * k + s) (2 * s + 1)) σ57 (by omega) (by omega) ?_ ⟨c60, c70, c58, c61, c62⟩ hJ71 ((hF.tr (f44.wk (fun k e => ⟨by omega, by omega⟩))).tr (f59.wk (fun k e => ⟨by omega, by omega⟩)))
            rw [← hw]; conv => rhs; unfold wwF cFew cWay
            first | (rw [if_pos (by omega), if_pos (by omega)]; done) | (rw [if_neg (by omega), if_neg (by omega)]; done)
        · refine g_iload (q := 68) dX3_weighWays_66 rfl rfl ?_
          refine g_iload (q := 70) dX3_weighWays_68 rfl rfl ?_
          refine z_icmp_ge (t := 77) (q := 73) dX3_weighWays_70 rfl (by omega) rfl (fun pc72 => ?_) (fun pc72 => ?_)
          · refine z_iconst (q := 78) dX3_weighWays_77 rfl ?_
            refine g_istore (ml' := [some (.ref a), some (.ref j), some (.int (iZ k)), some (.int (iZ s)), some (.int (iZ (cS T k s 0))), some (.int (iZ (cS T k s 1))), some (.int (iZ 0))]) (q := 80) dX3_weighWays_78 rfl (Nat.le_of_ble_eq_true rfl) rfl rfl ?_
            refine g_aload_n (q := 81) dX3_weighWays_80 rfl rfl ?_
            refine g_get (q := 84) flX3_9 dX3_weighWays_81 p0 rfl rfl ?_
            refine g_iload_n (q := 85) dX3_weighWays_84 rfl rfl ?_
            refine g_bipush (v := iZ 6) (q := 87) dX3_weighWays_85 (by decide) rfl ?_
            refine z_imulc (c := (6 * k)) (q := 88) dX3_weighWays_87 (by omega) rfl ?_
            refine g_iload_n (q := 89) dX3_weighWays_88 rfl rfl ?_
            refine z_iaddc (c := (6 * k + s)) (q := 90) dX3_weighWays_89 (by omega) rfl ?_
            refine g_iload (q := 92) dX3_weighWays_90 rfl rfl ?_
            refine z_if_eq (t := 100) (q := 95) dX3_weighWays_92 rfl (by omega) rfl (fun pc73 => ?_) (fun pc73 => ?_)
            · refine g_iload (q := 102) dX3_weighWays_100 rfl rfl ?_
              refine z_iast (q := 103) dX3_weighWays_102 p1 (by omega) rfl (fun σ74 c75 f76 => ?_)
              have c77 := (f76.2 a (by omega)).trans p0
              have c78 := (f76.2 (a + 2) (by omega)).trans p2
              have c79 := (f76.2 (a + 3) (by omega)).trans p3
              have c80 := (f76.2 (a + 4) (by omega)).trans p4
              have c81 := (f76.2 j (by omega)).trans j0
              have c82 := (f76.2 (j + 1) (by omega)).trans j1
              have c83 := (f76.2 (j + 2) (by omega)).trans j2
              have c84 := (f76.2 (j + 3) (by omega)).trans j3
              have c85 := (f76.2 (j + 4) (by omega)).trans j4
              have c86 := (f76.2 (j + 5 + s.toNat) (by omega)).trans k5
              have c87 := (f76.2 (j + 11 + k.toNat) (by omega)).trans k6
              have hJ88 : rJob j T σ74 := hJ.fr (fun k k0 k1 => f76.2 k (by omega))
              refine g_aload_n (q := 104) dX3_weighWays_103 rfl rfl ?_
              refine g_get (q := 107) flX3_15 dX3_weighWays_104 c77 rfl rfl ?_
              refine g_iload_n (q := 108) dX3_weighWays_107 rfl rfl ?_
              refine g_bipush (v := iZ 6) (q := 110) dX3_weighWays_108 (by decide) rfl ?_
              refine z_imulc (c := (6 * k)) (q := 111) dX3_weighWays_110 (by omega) rfl ?_
              refine g_iload_n (q := 112) dX3_weighWays_111 rfl rfl ?_
              refine z_iaddc (c := (6 * k + s)) (q := 113) dX3_weighWays_112 (by omega) rfl ?_
              refine z_iconst (q := 114) dX3_weighWays_113 rfl ?_
              refine g_iload_n (q := 115) dX3_weighWays_114 rfl rfl ?_
              refine z_imul (q := 116) dX3_weighWays_115 rfl ?_
              refine g_iload (q := 118) dX3_weighWays_116 rfl rfl ?_
              refine g_callSN (As := [.int (iZ 0)]) (rest := [.int (iZ (2 * s)), .int (iZ (6 * k + s)), .ref (a + 2)]) (q := 121) moX8_asFlag lkX3_weighWays_76 dX3_weighWays_118 (r_asFlagZ σ74 0 (by omega)) rfl rfl (Nat.le_of_ble_eq_true rfl) (Nat.le_of_ble_eq_true rfl) (Nat.le_of_ble_eq_true rfl) rfl ?_
              rintro rQ sQ hpQ
              rw [hpQ.1, hpQ.2]
              show Go w mX3_weighWays (0, 0) 121 [some (.ref a), some (.ref j), some (.int (iZ k)), some (.int (iZ s)), some (.int (iZ (cS T k s 0))), some (.int (iZ (cS T k s 1))), some (.int (iZ 0))] [.int (iZ 0), .int (iZ (2 * s)), .int (iZ (6 * k + s)), .ref (a + 2)] σ74 Φ
              refine z_iaddc (c := (2 * s)) (q := 122) dX3_weighWays_121 (by omega) rfl ?_
              refine z_iast (q := 123) dX3_weighWays_122 c78 (by omega) rfl (fun σ89 c90 f91 => ?_)
              have c92 := (f91.2 a (by omega)).trans c77
              have c93 := (f91.2 (a + 3) (by omega)).trans c79
              have c94 := (f91.2 (a + 4) (by omega)).trans c80
              have c95 := (f91.2 j (by omega)).trans c81
              have c96 := (f91.2 (j + 1) (by omega)).trans c82
              have c97 := (f91.2 (j + 2) (by omega)).trans c83
              have c98 := (f91.2 (j + 3) (by omega)).trans c84
              have c99 := (f91.2 (j + 4) (by omega)).trans c85
              have c100 := (f91.2 (j + 5 + s.toNat) (by omega)).trans c86
              have c101 := (f91.2 (j + 11 + k.toNat) (by omega)).trans c87
              have c102 := (f91.2 (a + 1) (by omega)).trans c75
              have hJ103 : rJob j T σ89 := hJ88.fr (fun k k0 k1 => f91.2 k (by omega))
              refine z_iincc (c := (s + 1)) (ml' := [some (.ref a), some (.ref j), some (.int (iZ k)), some (.int (iZ (s + 1))), some (.int (iZ (cS T k s 0))), some (.int (iZ (cS T k s 1))), some (.int (iZ 0))]) (q := 126) dX3_weighWays_123 rfl (by omega) rfl rfl rfl ?_
              refine g_goto (q := 12) dX3_weighWays_126 rfl ?_
              refine Go.wk (ml' := [some (.ref a), some (.ref j), some (.int (iZ k)), some (.int (iZ (s + 1))), none, none, none]) ⟨Or.inr rfl, Or.inr rfl, Or.inr rfl, Or.inr rfl, Or.inl rfl, Or.inl rfl, Or.inl rfl, trivial⟩ ?_
              refine ih (s + 1) (zup Fe (6 * k + s) (cS T k s 0)) (zup Wy (6 * k + s) (2 * s)) σ89 (by omega) (by omega) ?_ ⟨c92, c102, c90, c93, c94⟩ hJ103 ((hF.tr (f76.wk (fun k e => ⟨by omega, by omega⟩))).tr (f91.wk (fun k e => ⟨by omega, by omega⟩)))
              rw [← hw]; conv => rhs; unfold wwF cFew cWay
              first | (rw [if_pos (by omega), if_pos (by omega)]; done) | (rw [if_neg (by omega), if_neg (by omega)]; done)
            · exfalso; omega
          · refine z_iconst (q := 74) dX3_weighWays_73 rfl ?_
            refine g_goto (q := 78) dX3_weighWays_74 rfl ?_
            refine g_istore (ml' := [some (.ref a), some (.ref j), some (.int (iZ k)), some (.int (iZ s)), some (.int (iZ (cS T k s 0))), some (.int (iZ (cS T k s 1))), some (.int (iZ 1))]) (q := 80) dX3_weighWays_78 rfl (Nat.le_of_ble_eq_true rfl) rfl rfl ?_
            refine g_aload_n (q := 81) dX3_weighWays_80 rfl rfl ?_
            refine g_get (q := 84) flX3_9 dX3_weighWays_81 p0 rfl rfl ?_
            refine g_iload_n (q := 85) dX3_weighWays_84 rfl rfl ?_
            refine g_bipush (v := iZ 6) (q := 87) dX3_weighWays_85 (by decide) rfl ?_
            refine z_imulc (c := (6 * k)) (q := 88) dX3_weighWays_87 (by omega) rfl ?_
            refine g_iload_n (q := 89) dX3_weighWays_88 rfl rfl ?_
            refine z_iaddc (c := (6 * k + s)) (q := 90) dX3_weighWays_89 (by omega) rfl ?_
            refine g_iload (q := 92) dX3_weighWays_90 rfl rfl ?_
            refine z_if_eq (t := 100) (q := 95) dX3_weighWays_92 rfl (by omega) rfl (fun pc104 => ?_) (fun pc104 => ?_)
            · exfalso; omega
            · refine g_iload (q := 97) dX3_weighWays_95 rfl rfl ?_
              refine g_goto (q := 102) dX3_weighWays_97 rfl ?_
              refine z_iast (q := 103) dX3_weighWays_102 p1 (by omega) rfl (fun σ105 c106 f107 => ?_)
              have c108 := (f107.2 a (by omega)).trans p0
              have c109 := (f107.2 (a + 2) (by omega)).trans p2
              have c110 := (f107.2 (a + 3) (by omega)).trans p3
              have c111 := (f107.2 (a + 4) (by omega)).trans p4
              have c112 := (f107.2 j (by omega)).trans j0
              have c113 := (f107.2 (j + 1) (by omega)).trans j1
              have c114 := (f107.2 (j + 2) (by omega)).trans j2
              have c115 := (f107.2 (j + 3) (by omega)).trans j3
              have c116 := (f107.2 (j + 4) (by omega)).trans j4
              have c117 := (f107.2 (j + 5 + s.toNat) (by omega)).trans k5
              have c118 := (f107.2 (j + 11 + k.toNat) (by omega)).trans k6
              have hJ119 : rJob j T σ105 := hJ.fr (fun k k0 k1 => f107.2 k (by omega))
              refine g_aload_n (q := 104) dX3_weighWays_103 rfl rfl ?_
              refine g_get (q := 107) flX3_15 dX3_weighWays_104 c108 rfl rfl ?_
              refine g_iload_n (q := 108) dX3_weighWays_107 rfl rfl ?_
              refine g_bipush (v := iZ 6) (q := 110) dX3_weighWays_108 (by decide) rfl ?_
              refine z_imulc (c := (6 * k)) (q := 111) dX3_weighWays_110 (by omega) rfl ?_
              refine g_iload_n (q := 112) dX3_weighWays_111 rfl rfl ?_
              refine z_iaddc (c := (6 * k + s)) (q := 113) dX3_weighWays_112 (by omega) rfl ?_
              refine z_iconst (q := 114) dX3_weighWays_113 rfl ?_
              refine g_iload_n (q := 115) dX3_weighWays_114 rfl rfl ?_
              refine z_imul (q := 116) dX3_weighWays_115 rfl ?_
              refine g_iload (q := 118) dX3_weighWays_116 rfl rfl ?_
              refine g_callSN (As := [.int (iZ 1)]) (rest := [.int (iZ (2 * s)), .int (iZ (6 * k + s)), .ref (a + 2)]) (q := 121) moX8_asFlag lkX3_weighWays_76 dX3_weighWays_118 (r_asFlagZ σ105 1 (by omega)) rfl rfl (Nat.le_of_ble_eq_true rfl) (Nat.le_of_ble_eq_true rfl) (Nat.le_of_ble_eq_true rfl) rfl ?_
              rintro rQ sQ hpQ
              rw [hpQ.1, hpQ.2]
              show Go w mX3_weighWays (0, 0) 121 [some (.ref a), some (.ref j), some (.int (iZ k)), some (.int (iZ s)), some (.int (iZ (cS T k s 0))), some (.int (iZ (cS T k s 1))), some (.int (iZ 1))] [.int (iZ 1), .int (iZ (2 * s)), .int (iZ (6 * k + s)), .ref (a + 2)] σ105 Φ
              refine z_iaddc (c := (2 * s + 1)) (q := 122) dX3_weighWays_121 (by omega) rfl ?_
              refine z_iast (q := 123) dX3_weighWays_122 c109 (by omega) rfl (fun σ120 c121 f122 => ?_)
              have c123 := (f122.2 a (by omega)).trans c108
              have c124 := (f122.2 (a + 3) (by omega)).trans c110
              have c125 := (f122.2 (a + 4) (by omega)).trans c111
              have c126 := (f122.2 j (by omega)).trans c112
              have c127 := (f122.2 (j + 1) (by omega)).trans c113
              have c128 := (f122.2 (j + 2) (by omega)).trans c114
              have c129 := (f122.2 (j + 3) (by omega)).trans c115
              have c130 := (f122.2 (j + 4) (by omega)).trans c116
              have c131 := (f122.2 (j + 5 + s.toNat) (by omega)).trans c117
              have c132 := (f122.2 (j + 11 + k.toNat) (by omega)).trans c118
              have c133 := (f122.2 (a + 1) (by omega)).trans c106
              have hJ134 : rJob j T σ120 := hJ119.fr (fun k k0 k1 => f122.2 k (by omega))
              refine z_iincc (c := (s + 1)) (ml' := [some (.ref a), some (.ref j), some (.int (iZ k)), some (.int (iZ (s + 1))), some (.int (iZ (cS T k s 0))), some (.int (iZ (cS T k s 1))), some (.int (iZ 1))]) (q := 126) dX3_weighWays_123 rfl (by omega) rfl rfl rfl ?_
              refine g_goto (q := 12) dX3_weighWays_126 rfl ?_
              refine Go.wk (ml' := [some (.ref a), some (.ref j), some (.int (iZ k)), some (.int (iZ (s + 1))), none, none, none]) ⟨Or.inr rfl, Or.inr rfl, Or.inr rfl, Or.inr rfl, Or.inl rfl, Or.inl rfl, Or.inl rfl, trivial⟩ ?_
              refine ih (s + 1) (zup Fe (6 * k + s) (cS T k s 1)) (zup Wy (6 * k + s) (2 * s + 1)) σ120 (by omega) (by omega) ?_ ⟨c123, c133, c121, c124, c125⟩ hJ134 ((hF.tr (f107.wk (fun k e => ⟨by omega, by omega⟩))).tr (f122.wk (fun k e => ⟨by omega, by omega⟩)))
              rw [← hw]; conv => rhs; unfold wwF cFew cWay
              first | (rw [if_pos (by omega), if_pos (by omega)]; done) | (rw [if_neg (by omega), if_neg (by omega)]; done)
theorem l_ww2 (w : g_W) (σ0 : g_H0) (a j : Nat) (hd2 : a + 5 ≤ j) (T : Int → Int) (wT : wfT T) (Tr Be : Int → Int) (tH bh bt_ fo : Int) (Q : (Int → Int) × (Int → Int)) : ∀ (m : Nat) (k : Int) (Fe Wy : Int → Int) (σ : g_H0), 0 ≤ k → k + m = T 3 → wwO T m k Fe Wy = Q → rPl a Fe Wy Tr Be tH bh bt_ fo σ → rJob j T σ → g_Fr (pP a) σ0 σ → Go w mX3_weighWays (0, 0) 2 [some (.ref a), some (.ref j), some (.int (iZ k)), none, none, none, none] [] σ (fun r σ' => r = none ∧ rPl a Q.1 Q.2 Tr Be tH bh bt_ fo σ' ∧ g_Fr (pP a) σ0 σ') := by
  intro m
  induction m with
  | zero =>
    intro k Fe Wy σ k0 k1 hw hPl hJ hF
    obtain ⟨p0, p1, p2, p3, p4⟩ := id hPl
    obtain ⟨bT, t0, t1, t2, t3, t4, tt, th, tap, tcl, tc2⟩ := id wT
    obtain ⟨j0, j1, ⟨jf, j2, j2'⟩, ⟨jg, j3, j3'⟩, ⟨jC, j4, j4'⟩, j5, j6⟩ := id hJ
    refine g_iload_n (q := 3) dX3_weighWays_2 rfl rfl ?_
    refine g_aload_n (q := 4) dX3_weighWays_3 rfl rfl ?_
    refine g_get (q := 7) flX3_51 dX3_weighWays_4 j0 rfl rfl ?_
    refine z_icmp_ge (t := 135) (q := 10) dX3_weighWays_7 rfl (by omega) rfl (fun pc1 => ?_) (fun pc1 => ?_)
    · refine z_vret dX3_weighWays_135 rfl ?_
      rw [← hw]
      exact ⟨rfl, hPl, hF⟩
    · exfalso
      omega
  | succ m ih =>
    intro k Fe Wy σ k0 k1 hw hPl hJ hF
    obtain ⟨p0, p1, p2, p3, p4⟩ := id hPl
    obtain ⟨bT, t0, t1, t2, t3, t4, tt, th, tap, tcl, tc2⟩ := id wT
    obtain ⟨j0, j1, ⟨jf, j2, j2'⟩, ⟨jg, j3, j3'⟩, ⟨jC, j4, j4'⟩, j5, j6⟩ := id hJ
    refine g_iload_n (q := 3) dX3_weighWays_2 rfl rfl ?_
    refine g_aload_n (q := 4) dX3_weighWays_3 rfl rfl ?_
    refine g_get (q := 7) flX3_51 dX3_weighWays_4 j0 rfl rfl ?_
    refine z_icmp_ge (t := 135) (q := 10) dX3_weighWays_7 rfl (by omega) rfl (fun pc1 => ?_) (fun pc1 => ?_)
    · exfalso
      omega
    · refine z_iconst (q := 11) dX3_weighWays_10 rfl ?_
      refine g_istore_n (ml' := [some (.ref a), some (.ref j), some (.int (iZ k)), some (.int (iZ 0)), none, none, none]) (q := 12) dX3_weighWays_11 rfl (Nat.le_of_ble_eq_true rfl) rfl rfl ?_
      refine l_ww1 w _ σ0 a j hd2 T wT Tr Be tH bh bt_ fo k (by omega) (wwF T k (T 2).toNat 0 Fe Wy).1 (wwF T k (T 2).toNat 0 Fe Wy).2 (fun σ1 hPl1 hJ1 hF1 => ?_) (T 2).toNat 0 Fe Wy σ (by omega) (by omega) rfl hPl hJ hF
      refine z_iincc (c := (k + 1)) (ml' := [some (.ref a), some (.ref j), some (.int (iZ (k + 1))), none, none, none, none]) (q := 132) dX3_weighWays_129 rfl (by omega) rfl rfl rfl ?_
      refine g_goto (q := 2) dX3_weighWays_132 rfl ?_
      exact ih (k + 1) _ _ σ1 (by omega) (by omega) (by rw [← hw]; rfl) hPl1 hJ1 hF1
theorem r_weighWays (σ : g_H0) (a j : Nat) (hd2 : a + 5 ≤ j) (T : Int → Int) (wT : wfT T) (Fe Wy Tr Be : Int → Int) (tH bh bt_ fo : Int) (hPl : rPl a Fe Wy Tr Be tH bh bt_ fo σ) (hJ : rJob j T σ) : Ret mX3_weighWays [.ref a, .ref j] σ (fun r σ' => r = none ∧ rPl a (wwO T (T 3).toNat 0 Fe Wy).1 (wwO T (T 3).toNat 0 Fe Wy).2 Tr Be tH bh bt_ fo σ' ∧ g_Fr (pP a) σ σ') := by
  refine Ret.of moX3_weighWays.1 (Nat.le_of_ble_eq_true rfl) (fun w => ?_)
  obtain ⟨bT, t0, t1, t2, t3, t4, tt, th, tap, tcl, tc2⟩ := id wT
  show Go w mX3_weighWays (0, 0) 0 [some (.ref a), some (.ref j), none, none, none, none, none] [] σ (fun r σ' => r = none ∧ rPl a (wwO T (T 3).toNat 0 Fe Wy).1 (wwO T (T 3).toNat 0 Fe Wy).2 Tr Be tH bh bt_ fo σ' ∧ g_Fr (pP a) σ σ')
  refine z_iconst (q := 1) dX3_weighWays_0 rfl ?_
  refine g_istore_n (ml' := [some (.ref a), some (.ref j), some (.int (iZ 0)), none, none, none, none]) (q := 2) dX3_weighWays_1 rfl (Nat.le_of_ble_eq_true rfl) rfl rfl ?_
  exact l_ww2 w σ a j hd2 T wT Tr Be tH bh bt_ fo _ (T 3).toNat 0 Fe Wy σ (by omega) (by omega) rfl hPl hJ g_Fr.rf
