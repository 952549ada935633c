theorem pr2 {α β : Type} {a a' : α} {b b' : β} (h1 : a = a') (h2 : b = b') : (a, b) = (a', b') := by rw [h1, h2]
/-! longs -/
theorem lZ_add (a b : Int) : lZ a + lZ b = lZ (a + b) := (Int64.ofInt_add a b).symm
theorem lZ_sub (a b : Int) : lZ a - lZ b = lZ (a - b) := (Int64.ofInt_sub a b).symm
theorem lZ_mul (a b : Int) : lZ a * lZ b = lZ (a * b) := (Int64.ofInt_mul a b).symm
section GL
variable {w : g_W} {M : g_MD} {cs : Nat × Nat} {pc q : Nat} {ml : List (Option Value)} {st : List Value} {σ : g_H0} {Φ : g_Post}
theorem z_laddc {a b c : Int} (hd : decode M.2.1 pc = .ok (.ladd, 1)) (hc : a + b = c) (hq : pc + 1 = q) (k : Go w M cs q ml (.long (lZ c) :: st) σ Φ) : Go w M cs pc ml (.long (lZ b) :: .long (lZ a) :: st) σ Φ := by
  subst hc
  refine g_ladd hd hq ?_
  rw [lZ_add]; exact k
theorem z_lsubc {a b c : Int} (hd : decode M.2.1 pc = .ok (.lsub, 1)) (hc : a - b = c) (hq : pc + 1 = q) (k : Go w M cs q ml (.long (lZ c) :: st) σ Φ) : Go w M cs pc ml (.long (lZ b) :: .long (lZ a) :: st) σ Φ := by
  subst hc
  refine g_lsub hd hq ?_
  rw [lZ_sub]; exact k
theorem z_lmulc {a b c : Int} (hd : decode M.2.1 pc = .ok (.lmul, 1)) (hc : a * b = c) (hq : pc + 1 = q) (k : Go w M cs q ml (.long (lZ c) :: st) σ Φ) : Go w M cs pc ml (.long (lZ b) :: .long (lZ a) :: st) σ Φ := by
  subst hc
  refine g_lmul hd hq ?_
  rw [lZ_mul]; exact k
theorem z_lshr {a b c : Int} (hd : decode M.2.1 pc = .ok (.lshr, 1)) (hc : lZ a >>> ((iZ b).toInt64 &&& 63) = lZ c) (hq : pc + 1 = q) (k : Go w M cs q ml (.long (lZ c) :: st) σ Φ) : Go w M cs pc ml (.int (iZ b) :: .long (lZ a) :: st) σ Φ := by
  refine g_lshr hd hq ?_
  rw [hc]; exact k
theorem z_land {a b c : Int} (hd : decode M.2.1 pc = .ok (.land, 1)) (hc : lZ a &&& lZ b = lZ c) (hq : pc + 1 = q) (k : Go w M cs q ml (.long (lZ c) :: st) σ Φ) : Go w M cs pc ml (.long (lZ b) :: .long (lZ a) :: st) σ Φ := by
  refine g_land hd hq ?_
  rw [hc]; exact k
end GL
/-! the TEXT: letters, numbers, words -/
def mB (L : Int) (t : Int → Int) (k : Int) : Int := if k < L then t k else 0
def zBt (L : Int) (t : Int → Int) : Prop := ∀ k, 0 ≤ k → k < L → 32 ≤ t k ∧ t k ≤ 126
theorem mB_b {L : Int} {t : Int → Int} (h : zBt L t) {k : Int} (hk : 0 ≤ k) : 0 ≤ mB L t k ∧ mB L t k ≤ 126 := by
  unfold mB
  split
  · next e => have := h k hk e; omega
  · omega
/-- value, figures, where it ends -/
def mNum (L : Int) (t : Int → Int) (p : Int) : Int × Int × Int :=
  if ¬ (48 ≤ mB L t p ∧ mB L t p ≤ 57) then (0, 0, p) else if ¬ (48 ≤ mB L t (p + 1) ∧ mB L t (p + 1) ≤ 57) then (mB L t p - 48, 1, p + 1) else (10 * (mB L t p - 48) + mB L t (p + 1) - 48, 2, p + 2)
def mNumber (L : Int) (t : Int → Int) (p : Int) (R : Int → Int) (sg to lo hi : Int) : Int × Int × (Int → Int) :=
  if mB L t p ≠ sg then (0, p, R) else (if 0 < (mNum L t (p + 1)).2.1 ∧ (lo ≤ (mNum L t (p + 1)).1 ∧ (mNum L t (p + 1)).1 ≤ hi) then 1 else 0, (mNum L t (p + 1)).2.2, zup R to (mNum L t (p + 1)).1)
theorem mNum_b {L : Int} {t : Int → Int} (h : zBt L t) {p : Int} (hp : 0 ≤ p) : (0 ≤ (mNum L t p).1 ∧ (mNum L t p).1 ≤ 99) ∧ (p ≤ (mNum L t p).2.2 ∧ (mNum L t p).2.2 ≤ p + 2) := by
  unfold mNum
  split
  · constructor
    · show (0 : Int) ≤ 0 ∧ (0 : Int) ≤ 99; omega
    · show p ≤ p ∧ p ≤ p + 2; omega
  · split
    · constructor
      · show 0 ≤ mB L t p - 48 ∧ mB L t p - 48 ≤ 99; omega
      · show p ≤ p + 1 ∧ p + 1 ≤ p + 2; omega
    · constructor
      · show 0 ≤ 10 * (mB L t p - 48) + mB L t (p + 1) - 48 ∧ 10 * (mB L t p - 48) + mB L t (p + 1) - 48 ≤ 99; omega
      · show p ≤ p + 2 ∧ p + 2 ≤ p + 2; omega
theorem mNumber_p {L : Int} {t : Int → Int} (h : zBt L t) {p : Int} (hp : 0 ≤ p) (R : Int → Int) (sg to lo hi : Int) : (0 ≤ (mNumber L t p R sg to lo hi).1 ∧ (mNumber L t p R sg to lo hi).1 ≤ 1) ∧ (p ≤ (mNumber L t p R sg to lo hi).2.1 ∧ (mNumber L t p R sg to lo hi).2.1 ≤ p + 3) := by
  unfold mNumber
  have := mNum_b h (p := p + 1) (by omega)
  split
  · constructor
    · show (0 : Int) ≤ 0 ∧ (0 : Int) ≤ 1; omega
    · show p ≤ p ∧ p ≤ p + 3; omega
  · constructor
    · show 0 ≤ (if _ then (1 : Int) else 0) ∧ (if _ then (1 : Int) else 0) ≤ 1; split <;> omega
    · show p ≤ (mNum L t (p + 1)).2.2 ∧ (mNum L t (p + 1)).2.2 ≤ p + 3; omega
theorem mNumber_R {L : Int} {t : Int → Int} (h : zBt L t) {p : Int} (hp : 0 ≤ p) {R : Int → Int} (sg to lo hi : Int) (hR : ∀ k, 0 ≤ k → k < 51 → -1000 ≤ R k ∧ R k ≤ 1000) : ∀ k, 0 ≤ k → k < 51 → -1000 ≤ (mNumber L t p R sg to lo hi).2.2 k ∧ (mNumber L t p R sg to lo hi).2.2 k ≤ 1000 := by
  intro k k0 k1
  unfold mNumber
  have := mNum_b h (p := p + 1) (by omega)
  split
  · exact hR k k0 k1
  · show -1000 ≤ zup R to (mNum L t (p + 1)).1 k ∧ zup R to (mNum L t (p + 1)).1 k ≤ 1000
    unfold zup
    split
    · omega
    · exact hR k k0 k1
theorem r_M_number (σ : g_H0) (a : Nat) (I : Nat → Int) (A : Nat → Int → Int) (p : Int) (bp : 0 ≤ p ∧ p < 100000) (hM : rM a (nup I 1 p) A σ) (hL : 0 ≤ I 0 ∧ I 0 ≤ 200) (ht : zBt (I 0) (A 0)) (sg to lo hi : Int) (bg : 0 ≤ sg ∧ sg < 1000) (bto : 0 ≤ to ∧ to < 51) (blo : -2000 ≤ lo ∧ lo ≤ 2000) (bhi : -2000 ≤ hi ∧ hi ≤ 2000) : Ret mX9_number [.ref a, .int (iZ sg), .int (iZ to), .int (iZ lo), .int (iZ hi)] σ (fun r σ' => r = some (.int (iZ (mNumber (I 0) (A 0) p (A 2) sg to lo hi).1)) ∧ rM a (nup I 1 (mNumber (I 0) (A 0) p (A 2) sg to lo hi).2.1) (nup A 2 (mNumber (I 0) (A 0) p (A 2) sg to lo hi).2.2) σ' ∧ g_Fr (mR a) σ σ') := by
  refine Ret.of moX9_number.1 (Nat.le_of_ble_eq_true rfl) (fun w => ?_)
  obtain ⟨m0, m1, m2, m3, m4, m5, m6, m7, m8, m9, m10, m11⟩ := id hM
  have m0 : σ[a]? = some (.inr (9, [.int (iZ (I 0)), .ref (a + 1), .int (iZ p), .ref (a + 2), .ref (a + 3), .ref (a + 4), .ref (a + 5), .int (iZ (I 2)), .ref (a + 6), .ref (a + 7), .ref (a + 8), .int (iZ (I 3)), .int (iZ (I 4)), .ref (a + 9), .ref (a + 10), .ref (a + 11)])) := m0
  show Go w mX9_number (0, 0) 0 [some (.ref a), some (.int (iZ sg)), some (.int (iZ to)), some (.int (iZ lo)), some (.int (iZ hi)), none, none] [] σ (fun r σ' => r = some (.int (iZ (mNumber (I 0) (A 0) p (A 2) sg to lo hi).1)) ∧ rM a (nup I 1 (mNumber (I 0) (A 0) p (A 2) sg to lo hi).2.1) (nup A 2 (mNumber (I 0) (A 0) p (A 2) sg to lo hi).2.2) σ' ∧ g_Fr (mR a) σ σ')
  refine g_aload_n (q := 1) dX9_number_0 rfl rfl ?_
  refine g_aload_n (q := 2) dX9_number_1 rfl rfl ?_
  refine g_get (q := 5) flX9_65 dX9_number_2 m0 rfl rfl ?_
  have hN1 : rM a (nup I 1 p) A σ := ⟨m0, m1, m2, m3, m4, m5, m6, m7, m8, m9, m10, m11⟩
  refine g_callV (As := [.int (iZ p)]) (rest := []) (q := 8) moX9_byteAt lkX9_number_68 dX9_number_5 rfl m0 (r_M_byteAt σ a _ _ hN1 p (by omega) hL) rfl rfl (Nat.le_of_ble_eq_true rfl) (Nat.le_of_ble_eq_true rfl) (Nat.le_of_ble_eq_true rfl) rfl ?_
  rintro r1 s1 hp
  rw [hp.1, hp.2]
  show Go w mX9_number (0, 0) 8 [some (.ref a), some (.int (iZ sg)), some (.int (iZ to)), some (.int (iZ lo)), some (.int (iZ hi)), none, none] [.int (iZ (mB (I 0) (A 0) p))] σ (fun r σ' => r = some (.int (iZ (mNumber (I 0) (A 0) p (A 2) sg to lo hi).1)) ∧ rM a (nup I 1 (mNumber (I 0) (A 0) p (A 2) sg to lo hi).2.1) (nup A 2 (mNumber (I 0) (A 0) p (A 2) sg to lo hi).2.2) σ' ∧ g_Fr (mR a) σ σ')
  have b2 := mB_b ht (k := p) (by omega)
  refine g_iload_n (q := 9) dX9_number_8 rfl rfl ?_
  refine z_icmp_eq (t := 14) (q := 12) dX9_number_9 rfl (by omega) rfl (fun pc3 => ?_) (fun pc3 => ?_)
  · refine g_aload_n (q := 15) dX9_number_14 rfl rfl ?_
    refine g_dup (q := 16) dX9_number_15 rfl rfl ?_
    refine g_get (q := 19) flX9_65 dX9_number_16 m0 rfl rfl ?_
    refine z_iconst (q := 20) dX9_number_19 rfl ?_
    refine z_iadd (q := 21) dX9_number_20 rfl ?_
    refine z_put (fs' := [.int (iZ (I 0)), .ref (a + 1), .int (iZ (p + 1)), .ref (a + 2), .ref (a + 3), .ref (a + 4), .ref (a + 5), .int (iZ (I 2)), .ref (a + 6), .ref (a + 7), .ref (a + 8), .int (iZ (I 3)), .int (iZ (I 4)), .ref (a + 9), .ref (a + 10), .ref (a + 11)]) (q := 24) fpX9_65 dX9_number_21 m0 (Nat.le_of_ble_eq_true rfl) rfl rfl rfl rfl (fun σ4 c5 f6 => ?_)
    have c7 := (f6.2 (a + 1) (by omega)).trans m1
    have c8 := (f6.2 (a + 2) (by omega)).trans m2
    have c9 := (f6.2 (a + 3) (by omega)).trans m3
    have c10 := (f6.2 (a + 4) (by omega)).trans m4
    have c11 := (f6.2 (a + 5) (by omega)).trans m5
    have c12 := (f6.2 (a + 6) (by omega)).trans m6
    have c13 := (f6.2 (a + 7) (by omega)).trans m7
    have c14 := (f6.2 (a + 8) (by omega)).trans m8
    have c15 := (f6.2 (a + 9) (by omega)).trans m9
    have c16 := (f6.2 (a + 10) (by omega)).trans m10
    have c17 := (f6.2 (a + 11) (by omega)).trans m11
    refine z_iconst (q := 25) dX9_number_24 rfl ?_
    refine g_istore (ml' := [some (.ref a), some (.int (iZ sg)), some (.int (iZ to)), some (.int (iZ lo)), some (.int (iZ hi)), some (.int (iZ 0)), none]) (q := 27) dX9_number_25 rfl (Nat.le_of_ble_eq_true rfl) rfl rfl ?_
    refine z_iconst (q := 28) dX9_number_27 rfl ?_
    refine g_istore (ml' := [some (.ref a), some (.int (iZ sg)), some (.int (iZ to)), some (.int (iZ lo)), some (.int (iZ hi)), some (.int (iZ 0)), some (.int (iZ 0))]) (q := 30) dX9_number_28 rfl (Nat.le_of_ble_eq_true rfl) rfl rfl ?_
    refine g_iload (q := 32) dX9_number_30 rfl rfl ?_
    refine z_iconst (q := 33) dX9_number_32 rfl ?_
    refine z_icmp_ge (t := 92) (q := 36) dX9_number_33 rfl (by omega) rfl (fun pc18 => ?_) (fun pc18 => ?_)
    · exfalso; omega
    · refine g_aload_n (q := 37) dX9_number_36 rfl rfl ?_
      refine g_aload_n (q := 38) dX9_number_37 rfl rfl ?_
      refine g_get (q := 41) flX9_65 dX9_number_38 c5 rfl rfl ?_
      have hN19 : rM a (nup I 1 (p + 1)) A σ4 := ⟨c5, c7, c8, c9, c10, c11, c12, c13, c14, c15, c16, c17⟩
      refine g_callV (As := [.int (iZ (p + 1))]) (rest := []) (q := 44) moX9_byteAt lkX9_number_68 dX9_number_41 rfl c5 (r_M_byteAt σ4 a _ _ hN19 (p + 1) (by omega) hL) rfl rfl (Nat.le_of_ble_eq_true rfl) (Nat.le_of_ble_eq_true rfl) (Nat.le_of_ble_eq_true rfl) rfl ?_
      rintro r1 s1 hp
      rw [hp.1, hp.2]
      show Go w mX9_number (0, 0) 44 [some (.ref a), some (.int (iZ sg)), some (.int (iZ to)), some (.int (iZ lo)), some (.int (iZ hi)), some (.int (iZ 0)), some (.int (iZ 0))] [.int (iZ (mB (I 0) (A 0) (p + 1)))] σ4 (fun r σ' => r = some (.int (iZ (mNumber (I 0) (A 0) p (A 2) sg to lo hi).1)) ∧ rM a (nup I 1 (mNumber (I 0) (A 0) p (A 2) sg to lo hi).2.1) (nup A 2 (mNumber (I 0) (A 0) p (A 2) sg to lo hi).2.2) σ' ∧ g_Fr (mR a) σ σ')
      have b20 := mB_b ht (k := (p + 1)) (by omega)
      refine z_i2l (q := 45) dX9_number_44 (by omega) rfl ?_
      refine g_ldc2 (v := lZ 48) (q := 48) dX9_number_45 klX9_72 rfl ?_
      refine g_ldc2 (v := lZ 57) (q := 51) dX9_number_48 klX9_74 rfl ?_
      refine g_callS (As := [.long (lZ (mB (I 0) (A 0) (p + 1))), .long (lZ 48), .long (lZ 57)]) (rest := []) (q := 54) moX9_in lkX9_number_58 dX9_number_51 (r_M_in σ4 (mB (I 0) (A 0) (p + 1)) 48 57 (by omega) (by omega) (by omega)) rfl rfl (Nat.le_of_ble_eq_true rfl) (Nat.le_of_ble_eq_true rfl) (Nat.le_of_ble_eq_true rfl) rfl ?_
      rintro r1 s1 hp
      rw [hp.1, hp.2]
      show Go w mX9_number (0, 0) 54 [some (.ref a), some (.int (iZ sg)), some (.int (iZ to)), some (.int (iZ lo)), some (.int (iZ hi)), some (.int (iZ 0)), some (.int (iZ 0))] [.int (bI (48 ≤ (mB (I 0) (A 0) (p + 1)) ∧ (mB (I 0) (A 0) (p + 1)) ≤ 57))] σ4 (fun r σ' => r = some (.int (iZ (mNumber (I 0) (A 0) p (A 2) sg to lo hi).1)) ∧ rM a (nup I 1 (mNumber (I 0) (A 0) p (A 2) sg to lo hi).2.1) (nup A 2 (mNumber (I 0) (A 0) p (A 2) sg to lo hi).2.2) σ' ∧ g_Fr (mR a) σ σ')
      refine z_ifB_eq (t := 92) (q := 57) dX9_number_54 rfl rfl (fun pc21 => ?_) (fun pc21 => ?_)
      · refine g_aload_n (q := 93) dX9_number_92 rfl rfl ?_
        refine g_get (q := 96) flX9_16 dX9_number_93 c5 rfl rfl ?_
        refine g_iload_n (q := 97) dX9_number_96 rfl rfl ?_
        refine g_iload (q := 99) dX9_number_97 rfl rfl ?_
        refine z_iast (q := 100) dX9_number_99 c9 (by omega) rfl (fun σ22 c23 f24 => ?_)
        have c25 := (f24.2 (a + 1) (by omega)).trans c7
        have c26 := (f24.2 (a + 2) (by omega)).trans c8
        have c27 := (f24.2 (a + 4) (by omega)).trans c10
        have c28 := (f24.2 (a + 5) (by omega)).trans c11
        have c29 := (f24.2 (a + 6) (by omega)).trans c12
        have c30 := (f24.2 (a + 7) (by omega)).trans c13
        have c31 := (f24.2 (a + 8) (by omega)).trans c14
        have c32 := (f24.2 (a + 9) (by omega)).trans c15
        have c33 := (f24.2 (a + 10) (by omega)).trans c16
        have c34 := (f24.2 (a + 11) (by omega)).trans c17
        have c35 := (f24.2 a (by omega)).trans c5
        refine g_iload (q := 102) dX9_number_100 rfl rfl ?_
        refine z_if_le (t := 123) (q := 105) dX9_number_102 rfl (by omega) rfl (fun pc36 => ?_) (fun pc36 => ?_)
        · refine z_iconst (q := 124) dX9_number_123 rfl ?_
          refine z_zret dX9_number_124 rfl rfl ?_
          have eN : mNum (I 0) (A 0) (p + 1) = (0, 0, (p + 1)) := by
            unfold mNum; rw [if_pos (by omega)]
          have e2 : mNumber (I 0) (A 0) p (A 2) sg to lo hi = (0, (p + 1), (zup (A 2) to 0)) := by
            unfold mNumber; rw [if_neg (by omega), eN]; dsimp only; exact pr2 (by first | (rw [if_pos (by omega)]; done) | (rw [if_neg (by omega)]; done)) rfl
          rw [e2]
          exact ⟨rfl, ⟨c35, c25, c26, c23, c27, c28, c29, c30, c31, c32, c33, c34⟩, ((g_Fr.rf.step f6 ⟨by omega, by omega⟩).step f24 ⟨by omega, by omega⟩)⟩
        · exfalso; omega
      · refine g_bipush (v := iZ 10) (q := 59) dX9_number_57 (by decide) rfl ?_
        refine g_iload (q := 61) dX9_number_59 rfl rfl ?_
        refine z_imulc (c := 0) (q := 62) dX9_number_61 (by omega) rfl ?_
        refine g_aload_n (q := 63) dX9_number_62 rfl rfl ?_
        refine g_aload_n (q := 64) dX9_number_63 rfl rfl ?_
        refine g_get (q := 67) flX9_65 dX9_number_64 c5 rfl rfl ?_
        have hN37 : rM a (nup I 1 (p + 1)) A σ4 := ⟨c5, c7, c8, c9, c10, c11, c12, c13, c14, c15, c16, c17⟩
        refine g_callV (As := [.int (iZ (p + 1))]) (rest := [.int (iZ 0)]) (q := 70) moX9_byteAt lkX9_number_68 dX9_number_67 rfl c5 (r_M_byteAt σ4 a _ _ hN37 (p + 1) (by omega) hL) rfl rfl (Nat.le_of_ble_eq_true rfl) (Nat.le_of_ble_eq_true rfl) (Nat.le_of_ble_eq_true rfl) rfl ?_
        rintro r1 s1 hp
        rw [hp.1, hp.2]
        show Go w mX9_number (0, 0) 70 [some (.ref a), some (.int (iZ sg)), some (.int (iZ to)), some (.int (iZ lo)), some (.int (iZ hi)), some (.int (iZ 0)), some (.int (iZ 0))] [.int (iZ (mB (I 0) (A 0) (p + 1))), .int (iZ 0)] σ4 (fun r σ' => r = some (.int (iZ (mNumber (I 0) (A 0) p (A 2) sg to lo hi).1)) ∧ rM a (nup I 1 (mNumber (I 0) (A 0) p (A 2) sg to lo hi).2.1) (nup A 2 (mNumber (I 0) (A 0) p (A 2) sg to lo hi).2.2) σ' ∧ g_Fr (mR a) σ σ')
        have b38 := mB_b ht (k := (p + 1)) (by omega)
        refine z_iaddc (c := ((mB (I 0) (A 0) (p + 1)))) (q := 71) dX9_number_70 (by omega) rfl ?_
        refine g_bipush (v := iZ 48) (q := 73) dX9_number_71 (by decide) rfl ?_
        refine z_isubc (c := ((mB (I 0) (A 0) (p + 1)) - 48)) (q := 74) dX9_number_73 (by omega) rfl ?_
        refine g_istore (ml' := [some (.ref a), some (.int (iZ sg)), some (.int (iZ to)), some (.int (iZ lo)), some (.int (iZ hi)), some (.int (iZ ((mB (I 0) (A 0) (p + 1)) - 48))), some (.int (iZ 0))]) (q := 76) dX9_number_74 rfl (Nat.le_of_ble_eq_true rfl) rfl rfl ?_
        refine g_aload_n (q := 77) dX9_number_76 rfl rfl ?_
        refine g_dup (q := 78) dX9_number_77 rfl rfl ?_
        refine g_get (q := 81) flX9_65 dX9_number_78 c5 rfl rfl ?_
        refine z_iconst (q := 82) dX9_number_81 rfl ?_
        refine z_iaddc (c := (p + 2)) (q := 83) dX9_number_82 (by omega) rfl ?_
        refine z_put (fs' := [.int (iZ (I 0)), .ref (a + 1), .int (iZ (p + 2)), .ref (a + 2), .ref (a + 3), .ref (a + 4), .ref (a + 5), .int (iZ (I 2)), .ref (a + 6), .ref (a + 7), .ref (a + 8), .int (iZ (I 3)), .int (iZ (I 4)), .ref (a + 9), .ref (a + 10), .ref (a + 11)]) (q := 86) fpX9_65 dX9_number_83 c5 (Nat.le_of_ble_eq_true rfl) rfl rfl rfl rfl (fun σ39 c40 f41 => ?_)
        have c42 := (f41.2 (a + 1) (by omega)).trans c7
        have c43 := (f41.2 (a + 2) (by omega)).trans c8
        have c44 := (f41.2 (a + 3) (by omega)).trans c9
        have c45 := (f41.2 (a + 4) (by omega)).trans c10
        have c46 := (f41.2 (a + 5) (by omega)).trans c11
        have c47 := (f41.2 (a + 6) (by omega)).trans c12
        have c48 := (f41.2 (a + 7) (by omega)).trans c13
        have c49 := (f41.2 (a + 8) (by omega)).trans c14
        have c50 := (f41.2 (a + 9) (by omega)).trans c15
        have c51 := (f41.2 (a + 10) (by omega)).trans c16
        have c52 := (f41.2 (a + 11) (by omega)).trans c17
        refine z_iincc (c := 1) (ml' := [some (.ref a), some (.int (iZ sg)), some (.int (iZ to)), some (.int (iZ lo)), some (.int (iZ hi)), some (.int (iZ ((mB (I 0) (A 0) (p + 1)) - 48))), some (.int (iZ 1))]) (q := 89) dX9_number_86 rfl (by omega) rfl rfl rfl ?_
        refine g_goto (q := 30) dX9_number_89 rfl ?_
        refine g_iload (q := 32) dX9_number_30 rfl rfl ?_
        refine z_iconst (q := 33) dX9_number_32 rfl ?_
        refine z_icmp_ge (t := 92) (q := 36) dX9_number_33 rfl (by omega) rfl (fun pc53 => ?_) (fun pc53 => ?_)
        · exfalso; omega
        · refine g_aload_n (q := 37) dX9_number_36 rfl rfl ?_
          refine g_aload_n (q := 38) dX9_number_37 rfl rfl ?_
          refine g_get (q := 41) flX9_65 dX9_number_38 c40 rfl rfl ?_
          have hN54 : rM a (nup I 1 (p + 2)) A σ39 := ⟨c40, c42, c43, c44, c45, c46, c47, c48, c49, c50, c51, c52⟩
          refine g_callV (As := [.int (iZ (p + 2))]) (rest := []) (q := 44) moX9_byteAt lkX9_number_68 dX9_number_41 rfl c40 (r_M_byteAt σ39 a _ _ hN54 (p + 2) (by omega) hL) rfl rfl (Nat.le_of_ble_eq_true rfl) (Nat.le_of_ble_eq_true rfl) (Nat.le_of_ble_eq_true rfl) rfl ?_
          rintro r1 s1 hp
          rw [hp.1, hp.2]
          show Go w mX9_number (0, 0) 44 [some (.ref a), some (.int (iZ sg)), some (.int (iZ to)), some (.int (iZ lo)), some (.int (iZ hi)), some (.int (iZ ((mB (I 0) (A 0) (p + 1)) - 48))), some (.int (iZ 1))] [.int (iZ (mB (I 0) (A 0) (p + 2)))] σ39 (fun r σ' => r = some (.int (iZ (mNumber (I 0) (A 0) p (A 2) sg to lo hi).1)) ∧ rM a (nup I 1 (mNumber (I 0) (A 0) p (A 2) sg to lo hi).2.1) (nup A 2 (mNumber (I 0) (A 0) p (A 2) sg to lo hi).2.2) σ' ∧ g_Fr (mR a) σ σ')
          have b55 := mB_b ht (k := (p + 2)) (by omega)
          refine z_i2l (q := 45) dX9_number_44 (by omega) rfl ?_
          refine g_ldc2 (v := lZ 48) (q := 48) dX9_number_45 klX9_72 rfl ?_
          refine g_ldc2 (v := lZ 57) (q := 51) dX9_number_48 klX9_74 rfl ?_
          refine g_callS (As := [.long (lZ (mB (I 0) (A 0) (p + 2))), .long (lZ 48), .long (lZ 57)]) (rest := []) (q := 54) moX9_in lkX9_number_58 dX9_number_51 (r_M_in σ39 (mB (I 0) (A 0) (p + 2)) 48 57 (by omega) (by omega) (by omega)) rfl rfl (Nat.le_of_ble_eq_true rfl) (Nat.le_of_ble_eq_true rfl) (Nat.le_of_ble_eq_true rfl) rfl ?_
          rintro r1 s1 hp
          rw [hp.1, hp.2]
          show Go w mX9_number (0, 0) 54 [some (.ref a), some (.int (iZ sg)), some (.int (iZ to)), some (.int (iZ lo)), some (.int (iZ hi)), some (.int (iZ ((mB (I 0) (A 0) (p + 1)) - 48))), some (.int (iZ 1))] [.int (bI (48 ≤ (mB (I 0) (A 0) (p + 2)) ∧ (mB (I 0) (A 0) (p + 2)) ≤ 57))] σ39 (fun r σ' => r = some (.int (iZ (mNumber (I 0) (A 0) p (A 2) sg to lo hi).1)) ∧ rM a (nup I 1 (mNumber (I 0) (A 0) p (A 2) sg to lo hi).2.1) (nup A 2 (mNumber (I 0) (A 0) p (A 2) sg to lo hi).2.2) σ' ∧ g_Fr (mR a) σ σ')
          refine z_ifB_eq (t := 92) (q := 57) dX9_number_54 rfl rfl (fun pc56 => ?_) (fun pc56 => ?_)
          · refine g_aload_n (q := 93) dX9_number_92 rfl rfl ?_
            refine g_get (q := 96) flX9_16 dX9_number_93 c40 rfl rfl ?_
            refine g_iload_n (q := 97) dX9_number_96 rfl rfl ?_
            refine g_iload (q := 99) dX9_number_97 rfl rfl ?_
            refine z_iast (q := 100) dX9_number_99 c44 (by omega) rfl (fun σ57 c58 f59 => ?_)
            have c60 := (f59.2 (a + 1) (by omega)).trans c42
            have c61 := (f59.2 (a + 2) (by omega)).trans c43
            have c62 := (f59.2 (a + 4) (by omega)).trans c45
            have c63 := (f59.2 (a + 5) (by omega)).trans c46
            have c64 := (f59.2 (a + 6) (by omega)).trans c47
            have c65 := (f59.2 (a + 7) (by omega)).trans c48
            have c66 := (f59.2 (a + 8) (by omega)).trans c49
            have c67 := (f59.2 (a + 9) (by omega)).trans c50
            have c68 := (f59.2 (a + 10) (by omega)).trans c51
            have c69 := (f59.2 (a + 11) (by omega)).trans c52
            have c70 := (f59.2 a (by omega)).trans c40
            refine g_iload (q := 102) dX9_number_100 rfl rfl ?_
            refine z_if_le (t := 123) (q := 105) dX9_number_102 rfl (by omega) rfl (fun pc71 => ?_) (fun pc71 => ?_)
            · exfalso; omega
            · refine g_iload (q := 107) dX9_number_105 rfl rfl ?_
              refine z_i2l (q := 108) dX9_number_107 (by omega) rfl ?_
              refine g_iload_n (q := 109) dX9_number_108 rfl rfl ?_
              refine z_i2l (q := 110) dX9_number_109 (by omega) rfl ?_
              refine g_iload (q := 112) dX9_number_110 rfl rfl ?_
              refine z_i2l (q := 113) dX9_number_112 (by omega) rfl ?_
              refine g_callS (As := [.long (lZ ((mB (I 0) (A 0) (p + 1)) - 48)), .long (lZ lo), .long (lZ hi)]) (rest := []) (q := 116) moX9_in lkX9_number_58 dX9_number_113 (r_M_in σ57 ((mB (I 0) (A 0) (p + 1)) - 48) lo hi (by omega) (by omega) (by omega)) rfl rfl (Nat.le_of_ble_eq_true rfl) (Nat.le_of_ble_eq_true rfl) (Nat.le_of_ble_eq_true rfl) rfl ?_
              rintro r1 s1 hp
              rw [hp.1, hp.2]
              show Go w mX9_number (0, 0) 116 [some (.ref a), some (.int (iZ sg)), some (.int (iZ to)), some (.int (iZ lo)), some (.int (iZ hi)), some (.int (iZ ((mB (I 0) (A 0) (p + 1)) - 48))), some (.int (iZ 1))] [.int (bI (lo ≤ ((mB (I 0) (A 0) (p + 1)) - 48) ∧ ((mB (I 0) (A 0) (p + 1)) - 48) ≤ hi))] σ57 (fun r σ' => r = some (.int (iZ (mNumber (I 0) (A 0) p (A 2) sg to lo hi).1)) ∧ rM a (nup I 1 (mNumber (I 0) (A 0) p (A 2) sg to lo hi).2.1) (nup A 2 (mNumber (I 0) (A 0) p (A 2) sg to lo hi).2.2) σ' ∧ g_Fr (mR a) σ σ')
              refine z_ifB_eq (t := 123) (q := 119) dX9_number_116 rfl rfl (fun pc72 => ?_) (fun pc72 => ?_)
              · refine z_iconst (q := 124) dX9_number_123 rfl ?_
                refine z_zret dX9_number_124 rfl rfl ?_
                have eN : mNum (I 0) (A 0) (p + 1) = (((mB (I 0) (A 0) (p + 1)) - 48), 1, (p + 2)) := by
                  unfold mNum; rw [show p + 1 + 1 = p + 2 by omega, if_neg (by omega), if_pos (by omega)]; try exact pr2 (by omega) (pr2 rfl (by omega))
                have e2 : mNumber (I 0) (A 0) p (A 2) sg to lo hi = (0, (p + 2), (zup (A 2) to ((mB (I 0) (A 0) (p + 1)) - 48))) := by
                  unfold mNumber; rw [if_neg (by omega), eN]; dsimp only; exact pr2 (by first | (rw [if_pos (by omega)]; done) | (rw [if_neg (by omega)]; done)) rfl
                rw [e2]
                exact ⟨rfl, ⟨c70, c60, c61, c58, c62, c63, c64, c65, c66, c67, c68, c69⟩, (((g_Fr.rf.step f6 ⟨by omega, by omega⟩).step f41 ⟨by omega, by omega⟩).step f59 ⟨by omega, by omega⟩)⟩
              · refine z_iconst (q := 120) dX9_number_119 rfl ?_
                refine g_goto (q := 124) dX9_number_120 rfl ?_
                refine z_zret dX9_number_124 rfl rfl ?_
                have eN : mNum (I 0) (A 0) (p + 1) = (((mB (I 0) (A 0) (p + 1)) - 48), 1, (p + 2)) := by
                  unfold mNum; rw [show p + 1 + 1 = p + 2 by omega, if_neg (by omega), if_pos (by omega)]; try exact pr2 (by omega) (pr2 rfl (by omega))
                have e2 : mNumber (I 0) (A 0) p (A 2) sg to lo hi = (1, (p + 2), (zup (A 2) to ((mB (I 0) (A 0) (p + 1)) - 48))) := by
                  unfold mNumber; rw [if_neg (by omega), eN]; dsimp only; exact pr2 (by first | (rw [if_pos (by omega)]; done) | (rw [if_neg (by omega)]; done)) rfl
                rw [e2]
                exact ⟨rfl, ⟨c70, c60, c61, c58, c62, c63, c64, c65, c66, c67, c68, c69⟩, (((g_Fr.rf.step f6 ⟨by omega, by omega⟩).step f41 ⟨by omega, by omega⟩).step f59 ⟨by omega, by omega⟩)⟩
          · refine g_bipush (v := iZ 10) (q := 59) dX9_number_57 (by decide) rfl ?_
            refine g_iload (q := 61) dX9_number_59 rfl rfl ?_
            refine z_imulc (c := (10 * (mB (I 0) (A 0) (p + 1)) - 480)) (q := 62) dX9_number_61 (by omega) rfl ?_
            refine g_aload_n (q := 63) dX9_number_62 rfl rfl ?_
            refine g_aload_n (q := 64) dX9_number_63 rfl rfl ?_
            refine g_get (q := 67) flX9_65 dX9_number_64 c40 rfl rfl ?_
            have hN73 : rM a (nup I 1 (p + 2)) A σ39 := ⟨c40, c42, c43, c44, c45, c46, c47, c48, c49, c50, c51, c52⟩
            refine g_callV (As := [.int (iZ (p + 2))]) (rest := [.int (iZ (10 * (mB (I 0) (A 0) (p + 1)) - 480))]) (q := 70) moX9_byteAt lkX9_number_68 dX9_number_67 rfl c40 (r_M_byteAt σ39 a _ _ hN73 (p + 2) (by omega) hL) rfl rfl (Nat.le_of_ble_eq_true rfl) (Nat.le_of_ble_eq_true rfl) (Nat.le_of_ble_eq_true rfl) rfl ?_
            rintro r1 s1 hp
            rw [hp.1, hp.2]
            show Go w mX9_number (0, 0) 70 [some (.ref a), some (.int (iZ sg)), some (.int (iZ to)), some (.int (iZ lo)), some (.int (iZ hi)), some (.int (iZ ((mB (I 0) (A 0) (p + 1)) - 48))), some (.int (iZ 1))] [.int (iZ (mB (I 0) (A 0) (p + 2))), .int (iZ (10 * (mB (I 0) (A 0) (p + 1)) - 480))] σ39 (fun r σ' => r = some (.int (iZ (mNumber (I 0) (A 0) p (A 2) sg to lo hi).1)) ∧ rM a (nup I 1 (mNumber (I 0) (A 0) p (A 2) sg to lo hi).2.1) (nup A 2 (mNumber (I 0) (A 0) p (A 2) sg to lo hi).2.2) σ' ∧ g_Fr (mR a) σ σ')
            have b74 := mB_b ht (k := (p + 2)) (by omega)
            refine z_iaddc (c := (10 * (mB (I 0) (A 0) (p + 1)) + (mB (I 0) (A 0) (p + 2)) - 480)) (q := 71) dX9_number_70 (by omega) rfl ?_
            refine g_bipush (v := iZ 48) (q := 73) dX9_number_71 (by decide) rfl ?_
            refine z_isubc (c := (10 * (mB (I 0) (A 0) (p + 1)) + (mB (I 0) (A 0) (p + 2)) - 528)) (q := 74) dX9_number_73 (by omega) rfl ?_
            refine g_istore (ml' := [some (.ref a), some (.int (iZ sg)), some (.int (iZ to)), some (.int (iZ lo)), some (.int (iZ hi)), some (.int (iZ (10 * (mB (I 0) (A 0) (p + 1)) + (mB (I 0) (A 0) (p + 2)) - 528))), some (.int (iZ 1))]) (q := 76) dX9_number_74 rfl (Nat.le_of_ble_eq_true rfl) rfl rfl ?_
            refine g_aload_n (q := 77) dX9_number_76 rfl rfl ?_
            refine g_dup (q := 78) dX9_number_77 rfl rfl ?_
            refine g_get (q := 81) flX9_65 dX9_number_78 c40 rfl rfl ?_
            refine z_iconst (q := 82) dX9_number_81 rfl ?_
            refine z_iaddc (c := (p + 3)) (q := 83) dX9_number_82 (by omega) rfl ?_
            refine z_put (fs' := [.int (iZ (I 0)), .ref (a + 1), .int (iZ (p + 3)), .ref (a + 2), .ref (a + 3), .ref (a + 4), .ref (a + 5), .int (iZ (I 2)), .ref (a + 6), .ref (a + 7), .ref (a + 8), .int (iZ (I 3)), .int (iZ (I 4)), .ref (a + 9), .ref (a + 10), .ref (a + 11)]) (q := 86) fpX9_65 dX9_number_83 c40 (Nat.le_of_ble_eq_true rfl) rfl rfl rfl rfl (fun σ75 c76 f77 => ?_)
            have c78 := (f77.2 (a + 1) (by omega)).trans c42
            have c79 := (f77.2 (a + 2) (by omega)).trans c43
            have c80 := (f77.2 (a + 3) (by omega)).trans c44
            have c81 := (f77.2 (a + 4) (by omega)).trans c45
            have c82 := (f77.2 (a + 5) (by omega)).trans c46
            have c83 := (f77.2 (a + 6) (by omega)).trans c47
            have c84 := (f77.2 (a + 7) (by omega)).trans c48
            have c85 := (f77.2 (a + 8) (by omega)).trans c49
            have c86 := (f77.2 (a + 9) (by omega)).trans c50
            have c87 := (f77.2 (a + 10) (by omega)).trans c51
            have c88 := (f77.2 (a + 11) (by omega)).trans c52
            refine z_iincc (c := 2) (ml' := [some (.ref a), some (.int (iZ sg)), some (.int (iZ to)), some (.int (iZ lo)), some (.int (iZ hi)), some (.int (iZ (10 * (mB (I 0) (A 0) (p + 1)) + (mB (I 0) (A 0) (p + 2)) - 528))), some (.int (iZ 2))]) (q := 89) dX9_number_86 rfl (by omega) rfl rfl rfl ?_
            refine g_goto (q := 30) dX9_number_89 rfl ?_
            refine g_iload (q := 32) dX9_number_30 rfl rfl ?_
            refine z_iconst (q := 33) dX9_number_32 rfl ?_
            refine z_icmp_ge (t := 92) (q := 36) dX9_number_33 rfl (by omega) rfl (fun pc89 => ?_) (fun pc89 => ?_)
            · refine g_aload_n (q := 93) dX9_number_92 rfl rfl ?_
              refine g_get (q := 96) flX9_16 dX9_number_93 c76 rfl rfl ?_
              refine g_iload_n (q := 97) dX9_number_96 rfl rfl ?_
              refine g_iload (q := 99) dX9_number_97 rfl rfl ?_
              refine z_iast (q := 100) dX9_number_99 c80 (by omega) rfl (fun σ90 c91 f92 => ?_)
              have c93 := (f92.2 (a + 1) (by omega)).trans c78
              have c94 := (f92.2 (a + 2) (by omega)).trans c79
              have c95 := (f92.2 (a + 4) (by omega)).trans c81
              have c96 := (f92.2 (a + 5) (by omega)).trans c82
              have c97 := (f92.2 (a + 6) (by omega)).trans c83
              have c98 := (f92.2 (a + 7) (by omega)).trans c84
              have c99 := (f92.2 (a + 8) (by omega)).trans c85
              have c100 := (f92.2 (a + 9) (by omega)).trans c86
              have c101 := (f92.2 (a + 10) (by omega)).trans c87
              have c102 := (f92.2 (a + 11) (by omega)).trans c88
              have c103 := (f92.2 a (by omega)).trans c76
              refine g_iload (q := 102) dX9_number_100 rfl rfl ?_
              refine z_if_le (t := 123) (q := 105) dX9_number_102 rfl (by omega) rfl (fun pc104 => ?_) (fun pc104 => ?_)
              · exfalso; omega
              · refine g_iload (q := 107) dX9_number_105 rfl rfl ?_
                refine z_i2l (q := 108) dX9_number_107 (by omega) rfl ?_
                refine g_iload_n (q := 109) dX9_number_108 rfl rfl ?_
                refine z_i2l (q := 110) dX9_number_109 (by omega) rfl ?_
                refine g_iload (q := 112) dX9_number_110 rfl rfl ?_
                refine z_i2l (q := 113) dX9_number_112 (by omega) rfl ?_
                refine g_callS (As := [.long (lZ (10 * (mB (I 0) (A 0) (p + 1)) + (mB (I 0) (A 0) (p + 2)) - 528)), .long (lZ lo), .long (lZ hi)]) (rest := []) (q := 116) moX9_in lkX9_number_58 dX9_number_113 (r_M_in σ90 (10 * (mB (I 0) (A 0) (p + 1)) + (mB (I 0) (A 0) (p + 2)) - 528) lo hi (by omega) (by omega) (by omega)) rfl rfl (Nat.le_of_ble_eq_true rfl) (Nat.le_of_ble_eq_true rfl) (Nat.le_of_ble_eq_true rfl) rfl ?_
                rintro r1 s1 hp
                rw [hp.1, hp.2]
                show Go w mX9_number (0, 0) 116 [some (.ref a), some (.int (iZ sg)), some (.int (iZ to)), some (.int (iZ lo)), some (.int (iZ hi)), some (.int (iZ (10 * (mB (I 0) (A 0) (p + 1)) + (mB (I 0) (A 0) (p + 2)) - 528))), some (.int (iZ 2))] [.int (bI (lo ≤ (10 * (mB (I 0) (A 0) (p + 1)) + (mB (I 0) (A 0) (p + 2)) - 528) ∧ (10 * (mB (I 0) (A 0) (p + 1)) + (mB (I 0) (A 0) (p + 2)) - 528) ≤ hi))] σ90 (fun r σ' => r = some (.int (iZ (mNumber (I 0) (A 0) p (A 2) sg to lo hi).1)) ∧ rM a (nup I 1 (mNumber (I 0) (A 0) p (A 2) sg to lo hi).2.1) (nup A 2 (mNumber (I 0) (A 0) p (A 2) sg to lo hi).2.2) σ' ∧ g_Fr (mR a) σ σ')
                refine z_ifB_eq (t := 123) (q := 119) dX9_number_116 rfl rfl (fun pc105 => ?_) (fun pc105 => ?_)
                · refine z_iconst (q := 124) dX9_number_123 rfl ?_
                  refine z_zret dX9_number_124 rfl rfl ?_
                  have eN : mNum (I 0) (A 0) (p + 1) = ((10 * (mB (I 0) (A 0) (p + 1)) + (mB (I 0) (A 0) (p + 2)) - 528), 2, (p + 3)) := by
                    unfold mNum; rw [show p + 1 + 1 = p + 2 by omega, show p + 1 + 2 = p + 3 by omega, if_neg (by omega), if_neg (by omega)]; try exact pr2 (by omega) (pr2 rfl (by omega))
                  have e2 : mNumber (I 0) (A 0) p (A 2) sg to lo hi = (0, (p + 3), (zup (A 2) to (10 * (mB (I 0) (A 0) (p + 1)) + (mB (I 0) (A 0) (p + 2)) - 528))) := by
                    unfold mNumber; rw [if_neg (by omega), eN]; dsimp only; exact pr2 (by first | (rw [if_pos (by omega)]; done) | (rw [if_neg (by omega)]; done)) rfl
                  rw [e2]
                  exact ⟨rfl, ⟨c103, c93, c94, c91, c95, c96, c97, c98, c99, c100, c101, c102⟩, ((((g_Fr.rf.step f6 ⟨by omega, by omega⟩).step f41 ⟨by omega, by omega⟩).step f77 ⟨by omega, by omega⟩).step f92 ⟨by omega, by omega⟩)⟩
                · refine z_iconst (q := 120) dX9_number_119 rfl ?_
                  refine g_goto (q := 124) dX9_number_120 rfl ?_
                  refine z_zret dX9_number_124 rfl rfl ?_
                  have eN : mNum (I 0) (A 0) (p + 1) = ((10 * (mB (I 0) (A 0) (p + 1)) + (mB (I 0) (A 0) (p + 2)) - 528), 2, (p + 3)) := by
                    unfold mNum; rw [show p + 1 + 1 = p + 2 by omega, show p + 1 + 2 = p + 3 by omega, if_neg (by omega), if_neg (by omega)]; try exact pr2 (by omega) (pr2 rfl (by omega))
                  have e2 : mNumber (I 0) (A 0) p (A 2) sg to lo hi = (1, (p + 3), (zup (A 2) to (10 * (mB (I 0) (A 0) (p + 1)) + (mB (I 0) (A 0) (p + 2)) - 528))) := by
                    unfold mNumber; rw [if_neg (by omega), eN]; dsimp only; exact pr2 (by first | (rw [if_pos (by omega)]; done) | (rw [if_neg (by omega)]; done)) rfl
                  rw [e2]
                  exact ⟨rfl, ⟨c103, c93, c94, c91, c95, c96, c97, c98, c99, c100, c101, c102⟩, ((((g_Fr.rf.step f6 ⟨by omega, by omega⟩).step f41 ⟨by omega, by omega⟩).step f77 ⟨by omega, by omega⟩).step f92 ⟨by omega, by omega⟩)⟩
            · exfalso; omega
  · refine z_iconst (q := 13) dX9_number_12 rfl ?_
    refine z_zret dX9_number_13 rfl rfl ?_
    unfold mNumber; rw [if_pos (by omega)]
    exact ⟨rfl, hM, g_Fr.rf⟩
