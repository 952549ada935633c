def pS (b : Nat) : Nat → Prop := fun k => b ≤ k ∧ k < b + 4
theorem rowB_mStrT (T : Int → Int) (s : Int) (S : Int → Int) (bs : 0 ≤ s ∧ s < 6) {y : Int} (hy : 0 ≤ y ∧ y < 12) : rowB (mStrT T s S) y = rowB S y := by
  refine rowB_congr (fun x x0 x1 => ?_)
  rw [mStrT_at T s S _ bs, if_neg (by omega), if_neg (by omega), if_neg (by omega), if_neg (by omega)]
theorem strR_hi {S : Int → Int} {x y w n j : Int} (hj : 144 ≤ j) : strR S x y w n j = S j := if_neg (by omega)
theorem l_punch (w : g_W) (Φ : g_Post) (σ0 : g_H0) (b j o : Nat) (hd : b + 3 < o ∧ o < j) (S : Int → Int) (w1 : ∀ c, 0 ≤ c → c < 144 → 0 ≤ S c ∧ S c ≤ 1) (W K : Int → Int) (s fr x y wd hg a1 a2 a3 a4 : Int) (bx : 0 ≤ x ∧ 0 ≤ wd ∧ x + wd ≤ 12) (by_ : 0 ≤ y ∧ 0 ≤ hg ∧ y + hg ≤ 12) (K0 : ∀ (σ : g_H0) (C : Int → Int), σ[b]? = some (.inr (5, [.ref (b + 1), .ref (b + 2), .ref (b + 3), .int (iZ a1), .int (iZ a2), .int (iZ a3), .int (iZ a4)])) → σ[b + 1]? = some (.inl (0, 12, .inl (zA C))) → σ[b + 2]? = some (.inl (0, 6, .inl (zA W))) → σ[b + 3]? = some (.inl (0, 2, .inl (zA K))) → σ[o]? = some (.inr (0, [.int (iZ x), .int (iZ y), .int (iZ wd), .int (iZ hg)])) → (∀ r, 0 ≤ r → r < 12 → C r = rowB (strR S x y wd hg) r) → g_Fr (pS b) σ0 σ → Go w mX5_punch (0, 0) 54 [some (.ref b), some (.ref j), some (.int (iZ s)), some (.ref o), some (.int (iZ fr)), none] [] σ Φ) : ∀ (n : Nat) (i : Int) (C : Int → Int) (σ : g_H0), 0 ≤ i → i + n = hg → σ[b]? = some (.inr (5, [.ref (b + 1), .ref (b + 2), .ref (b + 3), .int (iZ a1), .int (iZ a2), .int (iZ a3), .int (iZ a4)])) → σ[b + 1]? = some (.inl (0, 12, .inl (zA C))) → σ[b + 2]? = some (.inl (0, 6, .inl (zA W))) → σ[b + 3]? = some (.inl (0, 2, .inl (zA K))) → σ[o]? = some (.inr (0, [.int (iZ x), .int (iZ y), .int (iZ wd), .int (iZ hg)])) → (∀ r, 0 ≤ r → r < 12 → C r = rowB (strR S x y wd i) r) → g_Fr (pS b) σ0 σ → Go w mX5_punch (0, 0) 13 [some (.ref b), some (.ref j), some (.int (iZ s)), some (.ref o), some (.int (iZ fr)), some (.int (iZ (y + i)))] [] σ Φ := by
  intro n
  induction n with
  | zero =>
    intro i C σ i0 i1 p0 p1 p2 p3 p4 hCr hF
    refine g_iload (q := 15) dX5_punch_13 rfl rfl ?_
    refine g_aload_n (q := 16) dX5_punch_15 rfl rfl ?_
    refine g_get (q := 19) flX5_87 dX5_punch_16 p4 rfl rfl ?_
    refine g_aload_n (q := 20) dX5_punch_19 rfl rfl ?_
    refine g_get (q := 23) flX5_90 dX5_punch_20 p4 rfl rfl ?_
    refine z_iadd (q := 24) dX5_punch_23 rfl ?_
    refine z_icmp_ge (t := 54) (q := 27) dX5_punch_24 rfl (by omega) rfl (fun pc1 => ?_) (fun pc1 => ?_)
    · obtain rfl : i = hg := by omega
      refine Go.wk (ml' := [some (.ref b), some (.ref j), some (.int (iZ s)), some (.ref o), some (.int (iZ fr)), none]) ⟨Or.inr rfl, Or.inr rfl, Or.inr rfl, Or.inr rfl, Or.inr rfl, Or.inl rfl, trivial⟩ ?_
      exact K0 σ C p0 p1 p2 p3 p4 hCr hF
    · exfalso
      omega
  | succ n ih =>
    intro i C σ i0 i1 p0 p1 p2 p3 p4 hCr hF
    refine g_iload (q := 15) dX5_punch_13 rfl rfl ?_
    refine g_aload_n (q := 16) dX5_punch_15 rfl rfl ?_
    refine g_get (q := 19) flX5_87 dX5_punch_16 p4 rfl rfl ?_
    refine g_aload_n (q := 20) dX5_punch_19 rfl rfl ?_
    refine g_get (q := 23) flX5_90 dX5_punch_20 p4 rfl rfl ?_
    refine z_iadd (q := 24) dX5_punch_23 rfl ?_
    refine z_icmp_ge (t := 54) (q := 27) dX5_punch_24 rfl (by omega) rfl (fun pc1 => ?_) (fun pc1 => ?_)
    · exfalso
      omega
    · refine g_iload (q := 29) dX5_punch_27 rfl rfl ?_
      refine g_bipush (v := iZ 12) (q := 31) dX5_punch_29 (by decide) rfl ?_
      refine z_icmp_ge (t := 54) (q := 34) dX5_punch_31 rfl (by omega) rfl (fun pc2 => ?_) (fun pc2 => ?_)
      · exfalso
        omega
      · refine g_aload_n (q := 35) dX5_punch_34 rfl rfl ?_
        refine g_get (q := 38) flX5_9 dX5_punch_35 p0 rfl rfl ?_
        refine g_iload (q := 40) dX5_punch_38 rfl rfl ?_
        refine g_dup2 (q := 41) dX5_punch_40 rfl rfl rfl ?_
        refine z_iald (q := 42) dX5_punch_41 p1 (by omega) rfl ?_
        refine g_aload_n (q := 43) dX5_punch_42 rfl rfl ?_
        refine g_callV (As := []) (rest := [.int (iZ (C (y + i))), .int (iZ (y + i)), .ref (b + 1)]) (q := 46) moX0_rowBits lkX5_punch_93 dX5_punch_43 rfl p4 (r_rowBits σ o x y wd hg p4 (by omega)) rfl rfl (Nat.le_of_ble_eq_true rfl) (Nat.le_of_ble_eq_true rfl) (Nat.le_of_ble_eq_true rfl) rfl ?_
        rintro rQ sQ hpQ
        rw [hpQ.1, hpQ.2]
        show Go w mX5_punch (0, 0) 46 [some (.ref b), some (.ref j), some (.int (iZ s)), some (.ref o), some (.int (iZ fr)), some (.int (iZ (y + i)))] [.int (iZ (rb x wd)), .int (iZ (C (y + i))), .int (iZ (y + i)), .ref (b + 1)] σ Φ
        have hc1 := hCr (y + i) (by omega) (by omega)
        have hb1 := rowB_b (S := strR S x y wd i) (y := y + i) (fun z z0 z1 => by unfold strR; have := w1 (12 * (y + i) + z) (by omega) (by omega); split <;> omega)
        rw [← hc1] at hb1
        refine g_ior (q := 47) dX5_punch_46 rfl ?_
        rw [(bw_or (x := x) (w := wd) (c := C (y + i)) bx hb1).1]
        show Go w mX5_punch (0, 0) 47 [some (.ref b), some (.ref j), some (.int (iZ s)), some (.ref o), some (.int (iZ fr)), some (.int (iZ (y + i)))] [.int (iZ ((boM x wd (C (y + i)) : Nat) : Int)), .int (iZ (y + i)), .ref (b + 1)] σ Φ
        refine z_iast (q := 48) dX5_punch_47 p1 (by omega) rfl (fun σ3 c4 f5 => ?_)
        have c6 := (f5.2 b (by omega)).trans p0
        have c7 := (f5.2 (b + 2) (by omega)).trans p2
        have c8 := (f5.2 (b + 3) (by omega)).trans p3
        have c9 := (f5.2 o (by omega)).trans p4
        refine z_iincc (c := (y + i + 1)) (ml' := [some (.ref b), some (.ref j), some (.int (iZ s)), some (.ref o), some (.int (iZ fr)), some (.int (iZ (y + i + 1)))]) (q := 51) dX5_punch_48 rfl (by omega) rfl rfl rfl ?_
        refine g_goto (q := 13) dX5_punch_51 rfl ?_
        rw [Int.add_assoc y i 1]
        refine ih (i + 1) _ σ3 (by omega) (by omega) c6 c4 c7 c8 c9 (fun r r0 r1 => ?_) (hF.step f5 ⟨by omega, by omega⟩)
        rw [strR_row w1 bx ⟨r0, r1⟩ (by omega)]
        by_cases e : r = y + i
        · rw [if_pos e, e, zup_self, hCr (y + i) (by omega) (by omega)]
        · rw [if_neg e, zup_ne _ _ e, hCr r r0 r1]
theorem r_punch (σ : g_H0) (b j : Nat) (T S : Int → Int) (hS : rSt b T S σ) (hJ : rJob j T σ) (wT : wfT T) (wS : wfS T S) (s : Int) (bs : 0 ≤ s ∧ s < T 2) (o : Nat) (x y wd hg : Int) (hA : σ[o]? = some (.inr (0, [.int (iZ x), .int (iZ y), .int (iZ wd), .int (iZ hg)]))) (bx : 0 ≤ x ∧ 0 ≤ wd ∧ x + wd ≤ 12) (by_ : 0 ≤ y ∧ 0 ≤ hg ∧ y + hg ≤ 12) (hd : b + 3 < o ∧ o < j) : Ret mX5_punch [.ref b, .ref j, .int (iZ s), .ref o] σ (fun r σ' => r = some (.int (iZ (cUn S x y wd hg))) ∧ rSt b T (mStrT T s (strR S x y wd hg)) σ' ∧ g_Fr (pS b) σ σ') := by
  refine Ret.of moX5_punch.1 (Nat.le_of_ble_eq_true rfl) (fun w => ?_)
  obtain ⟨bT, t0, t1, t2, t3, t4, tt, th, tap, tcl, tc2⟩ := id wT
  obtain ⟨j0, j1, ⟨jf, j2, j2'⟩, ⟨jg, j3, j3'⟩, ⟨jC, j4, j4'⟩, j5, j6⟩ := id hJ
  obtain ⟨s0, C, W, K, s1, s2, s3, hC, hW, hK⟩ := id hS
  obtain ⟨w1, w2, w3, w4, w5, w6⟩ := id wS
  show Go w mX5_punch (0, 0) 0 [some (.ref b), some (.ref j), some (.int (iZ s)), some (.ref o), none, none] [] σ (fun r σ' => r = some (.int (iZ (cUn S x y wd hg))) ∧ rSt b T (mStrT T s (strR S x y wd hg)) σ' ∧ g_Fr (pS b) σ σ')
  refine g_aload_n (q := 1) dX5_punch_0 rfl rfl ?_
  refine g_aload_n (q := 2) dX5_punch_1 rfl rfl ?_
  refine g_callV (As := [.ref o]) (rest := []) (q := 5) moX5_uncutIn lkX5_punch_83 dX5_punch_2 rfl s0 (r_uncutIn σ b T S hS wT wS o x y wd hg hA bx by_) rfl rfl (Nat.le_of_ble_eq_true rfl) (Nat.le_of_ble_eq_true rfl) (Nat.le_of_ble_eq_true rfl) rfl ?_
  rintro rQ sQ hpQ
  rw [hpQ.1, hpQ.2]
  show Go w mX5_punch (0, 0) 5 [some (.ref b), some (.ref j), some (.int (iZ s)), some (.ref o), none, none] [.int (iZ (cUn S x y wd hg))] σ (fun r σ' => r = some (.int (iZ (cUn S x y wd hg))) ∧ rSt b T (mStrT T s (strR S x y wd hg)) σ' ∧ g_Fr (pS b) σ σ')
  refine g_istore (ml' := [some (.ref b), some (.ref j), some (.int (iZ s)), some (.ref o), some (.int (iZ (cUn S x y wd hg))), none]) (q := 7) dX5_punch_5 rfl (Nat.le_of_ble_eq_true rfl) rfl rfl ?_
  refine g_aload_n (q := 8) dX5_punch_7 rfl rfl ?_
  refine g_get (q := 11) flX5_87 dX5_punch_8 hA rfl rfl ?_
  refine g_istore (ml' := [some (.ref b), some (.ref j), some (.int (iZ s)), some (.ref o), some (.int (iZ (cUn S x y wd hg))), some (.int (iZ y))]) (q := 13) dX5_punch_11 rfl (Nat.le_of_ble_eq_true rfl) rfl rfl ?_
  have ly : y = y + 0 := by omega
  rw [show (iZ y) = iZ (y + 0) by rw [Int.add_zero]]
  refine l_punch w _ σ b j o hd S w1 W K s (cUn S x y wd hg) x y wd hg _ _ _ _ bx by_ (fun σ1 C1 q0 q1 q2 q3 q4 hC1 hF => ?_) hg.toNat 0 C σ (by omega) (by omega) s0 s1 s2 s3 hA (fun r r0 r1 => by rw [strR_0]; exact hC r r0 r1) g_Fr.rf
  have hJ1 : rJob j T σ1 := hJ.fr (fun k k0 k1 => hF.2 k (fun e => by have := e.1; have := e.2; omega))
  refine g_aload_n (q := 55) dX5_punch_54 rfl rfl ?_
  refine g_get (q := 58) flX5_15 dX5_punch_55 q0 rfl rfl ?_
  refine g_iload_n (q := 59) dX5_punch_58 rfl rfl ?_
  refine g_dup2 (q := 60) dX5_punch_59 rfl rfl rfl ?_
  refine z_iald (q := 61) dX5_punch_60 q2 (by omega) rfl ?_
  refine z_iconst (q := 62) dX5_punch_61 rfl ?_
  refine z_iadd (q := 63) dX5_punch_62 rfl ?_
  refine z_iast (q := 64) dX5_punch_63 q2 (by omega) rfl (fun σ1 c2 f3 => ?_)
  have c4 := (f3.2 b (by omega)).trans q0
  have c5 := (f3.2 (b + 1) (by omega)).trans q1
  have c6 := (f3.2 (b + 3) (by omega)).trans q3
  have c7 := (f3.2 j (by omega)).trans hJ1.1
  refine g_aload_n (q := 65) dX5_punch_64 rfl rfl ?_
  refine g_dup (q := 66) dX5_punch_65 rfl rfl ?_
  refine g_get (q := 69) flX5_40 dX5_punch_66 c4 rfl rfl ?_
  refine z_iconst (q := 70) dX5_punch_69 rfl ?_
  refine z_iadd (q := 71) dX5_punch_70 rfl ?_
  refine z_put (fs' := [.ref (b + 1), .ref (b + 2), .ref (b + 3), .int (iZ (S 150)), .int (iZ ((S 153) + 1)), .int (iZ (S 154)), .int (iZ (S 155))]) (q := 74) fpX5_40 dX5_punch_71 c4 (Nat.le_of_ble_eq_true rfl) rfl rfl rfl rfl (fun σ8 c9 f10 => ?_)
  have c11 := (f10.2 (b + 1) (by omega)).trans c5
  have c12 := (f10.2 (b + 3) (by omega)).trans c6
  have c13 := (f10.2 j (by omega)).trans c7
  have c14 := (f10.2 (b + 2) (by omega)).trans c2
  refine g_aload_n (q := 75) dX5_punch_74 rfl rfl ?_
  refine g_dup (q := 76) dX5_punch_75 rfl rfl ?_
  refine g_get (q := 79) flX5_43 dX5_punch_76 c9 rfl rfl ?_
  refine g_aload_n (q := 80) dX5_punch_79 rfl rfl ?_
  refine g_aload_n (q := 81) dX5_punch_80 rfl rfl ?_
  refine g_get (q := 84) flX5_36 dX5_punch_81 c9 rfl rfl ?_
  refine g_iload_n (q := 85) dX5_punch_84 rfl rfl ?_
  have hJ2 : rJob j T σ8 := hJ1.fr (fun k k0 k1 => (((f10.2 k (by omega)).trans (f3.2 k (by omega)))))
  refine g_callV (As := [.int (iZ (S 150)), .int (iZ s)]) (rest := [.int (iZ (S 154)), .ref b]) (q := 88) moX2_turnsBetween lkX5_punch_97 dX5_punch_85 rfl c13 (r_turnsBetween σ8 j T hJ2 wT (S 150) s (by omega) (by omega)) rfl rfl (Nat.le_of_ble_eq_true rfl) (Nat.le_of_ble_eq_true rfl) (Nat.le_of_ble_eq_true rfl) rfl ?_
  rintro rQ sQ hpQ
  rw [hpQ.1, hpQ.2]
  show Go w mX5_punch (0, 0) 88 [some (.ref b), some (.ref j), some (.int (iZ s)), some (.ref o), some (.int (iZ (cUn S x y wd hg))), none] [.int (iZ (mRing T (S 150) s)), .int (iZ (S 154)), .ref b] σ8 (fun r σ' => r = some (.int (iZ (cUn S x y wd hg))) ∧ rSt b T (mStrT T s (strR S x y wd hg)) σ' ∧ g_Fr (pS b) σ σ')
  refine z_iadd (q := 89) dX5_punch_88 rfl ?_
  refine z_put (fs' := [.ref (b + 1), .ref (b + 2), .ref (b + 3), .int (iZ (S 150)), .int (iZ ((S 153) + 1)), .int (iZ ((S 154) + (mRing T (S 150) s))), .int (iZ (S 155))]) (q := 92) fpX5_43 dX5_punch_89 c9 (Nat.le_of_ble_eq_true rfl) rfl rfl rfl rfl (fun σ15 c16 f17 => ?_)
  have c18 := (f17.2 (b + 1) (by omega)).trans c11
  have c19 := (f17.2 (b + 3) (by omega)).trans c12
  have c20 := (f17.2 j (by omega)).trans c13
  have c21 := (f17.2 (b + 2) (by omega)).trans c14
  refine g_aload_n (q := 93) dX5_punch_92 rfl rfl ?_
  refine g_iload_n (q := 94) dX5_punch_93 rfl rfl ?_
  refine z_put (fs' := [.ref (b + 1), .ref (b + 2), .ref (b + 3), .int (iZ s), .int (iZ ((S 153) + 1)), .int (iZ ((S 154) + (mRing T (S 150) s))), .int (iZ (S 155))]) (q := 97) fpX5_36 dX5_punch_94 c16 (Nat.le_of_ble_eq_true rfl) rfl rfl rfl rfl (fun σ22 c23 f24 => ?_)
  have c25 := (f24.2 (b + 1) (by omega)).trans c18
  have c26 := (f24.2 (b + 3) (by omega)).trans c19
  have c27 := (f24.2 j (by omega)).trans c20
  have c28 := (f24.2 (b + 2) (by omega)).trans c21
  refine g_iload (q := 99) dX5_punch_97 rfl rfl ?_
  refine z_iret dX5_punch_99 rfl ?_
  refine ⟨rfl, ⟨?_, C1, _, K, c25, c28, c26, fun r r0 r1 => ?_, fun k k0 k1 => ?_, fun c c0 c1 => ?_⟩, ((((hF.step f3 ⟨by omega, by omega⟩).step f10 ⟨by omega, by omega⟩).step f17 ⟨by omega, by omega⟩).step f24 ⟨by omega, by omega⟩)⟩
  · have q := c23
    rw [mStrT_at T s _ 150 (by omega), mStrT_at T s _ 153 (by omega), mStrT_at T s _ 154 (by omega), mStrT_at T s _ 155 (by omega), if_pos rfl, if_neg (by omega), if_neg (by omega), if_pos rfl, if_neg (by omega), if_pos rfl, if_neg (by omega), if_neg (by omega), if_neg (by omega), if_neg (by omega), strR_hi (by omega), strR_hi (by omega), strR_hi (by omega), strR_hi (by omega)]
    exact q
  · rw [rowB_mStrT T s _ (by omega) ⟨r0, r1⟩]; exact hC1 r r0 r1
  · rw [mStrT_at T s _ _ (by omega), if_neg (by omega), if_neg (by omega), if_neg (by omega), strR_hi (by omega), strR_hi (by omega)]
    by_cases e : k = s
    · subst e; rw [if_pos rfl, zup_self, hW k k0 k1]
    · rw [if_neg (by omega), zup_ne _ _ e, hW k k0 k1]
  · rw [mStrT_at T s _ _ (by omega), if_neg (by omega), if_neg (by omega), if_neg (by omega), if_neg (by omega), strR_hi (by omega)]; exact hK c c0 c1
theorem r_copyFrom (σ : g_H0) (b d : Nat) (hd : b + 4 ≤ d ∨ d + 4 ≤ b) (T S : Int → Int) (h0 : rS0 b σ) (hS : rSt d T S σ) (hT : T 4 ≤ 2) : Ret mX5_copyFrom [.ref b, .ref d] σ (fun r σ' => r = none ∧ rSt b T S σ' ∧ g_Fr (pS b) σ σ') := by
  refine Ret.of moX5_copyFrom.1 (Nat.le_of_ble_eq_true rfl) (fun w => ?_)
  obtain ⟨h1, h2, h3, h4, C0, W0, K0, b0, b1, b2, b3⟩ := id h0
  obtain ⟨s0, C, W, K, s1, s2, s3, hC, hW, hK⟩ := id hS
  show Go w mX5_copyFrom (0, 0) 0 [some (.ref b), some (.ref d)] [] σ (fun r σ' => r = none ∧ rSt b T S σ' ∧ g_Fr (pS b) σ σ')
  refine g_aload_n (q := 1) dX5_copyFrom_0 rfl rfl ?_
  refine g_get (q := 4) flX5_9 dX5_copyFrom_1 s0 rfl rfl ?_
  refine z_iconst (q := 5) dX5_copyFrom_4 rfl ?_
  refine g_aload_n (q := 6) dX5_copyFrom_5 rfl rfl ?_
  refine g_get (q := 9) flX5_9 dX5_copyFrom_6 b0 rfl rfl ?_
  refine z_iconst (q := 10) dX5_copyFrom_9 rfl ?_
  refine g_bipush (v := iZ 12) (q := 12) dX5_copyFrom_10 (by decide) rfl ?_
  refine z_copy (q := 15) laX5_30 dX5_copyFrom_12 s1 b1 (by omega) (Nat.le_of_ble_eq_true rfl) (Nat.le_of_ble_eq_true rfl) (Nat.le_of_ble_eq_true rfl) rfl (fun σ1 c2 f3 => ?_)
  have c4 := (f3.2 b (by omega)).trans b0
  have c5 := (f3.2 (b + 2) (by omega)).trans b2
  have c6 := (f3.2 (b + 3) (by omega)).trans b3
  have c7 := (f3.2 d (by omega)).trans s0
  have c8 := (f3.2 (d + 1) (by omega)).trans s1
  have c9 := (f3.2 (d + 2) (by omega)).trans s2
  have c10 := (f3.2 (d + 3) (by omega)).trans s3
  refine g_aload_n (q := 16) dX5_copyFrom_15 rfl rfl ?_
  refine g_get (q := 19) flX5_15 dX5_copyFrom_16 c7 rfl rfl ?_
  refine z_iconst (q := 20) dX5_copyFrom_19 rfl ?_
  refine g_aload_n (q := 21) dX5_copyFrom_20 rfl rfl ?_
  refine g_get (q := 24) flX5_15 dX5_copyFrom_21 c4 rfl rfl ?_
  refine z_iconst (q := 25) dX5_copyFrom_24 rfl ?_
  refine g_bipush (v := iZ 6) (q := 27) dX5_copyFrom_25 (by decide) rfl ?_
  refine z_copy (q := 30) laX5_30 dX5_copyFrom_27 c9 c5 (by omega) (Nat.le_of_ble_eq_true rfl) (Nat.le_of_ble_eq_true rfl) (Nat.le_of_ble_eq_true rfl) rfl (fun σ11 c12 f13 => ?_)
  have c14 := (f13.2 b (by omega)).trans c4
  have c15 := (f13.2 (b + 3) (by omega)).trans c6
  have c16 := (f13.2 d (by omega)).trans c7
  have c17 := (f13.2 (d + 1) (by omega)).trans c8
  have c18 := (f13.2 (d + 2) (by omega)).trans c9
  have c19 := (f13.2 (d + 3) (by omega)).trans c10
  have c20 := (f13.2 (b + 1) (by omega)).trans c2
  refine g_aload_n (q := 31) dX5_copyFrom_30 rfl rfl ?_
  refine g_get (q := 34) flX5_18 dX5_copyFrom_31 c16 rfl rfl ?_
  refine z_iconst (q := 35) dX5_copyFrom_34 rfl ?_
  refine g_aload_n (q := 36) dX5_copyFrom_35 rfl rfl ?_
  refine g_get (q := 39) flX5_18 dX5_copyFrom_36 c14 rfl rfl ?_
  refine z_iconst (q := 40) dX5_copyFrom_39 rfl ?_
  refine z_iconst (q := 41) dX5_copyFrom_40 rfl ?_
  refine z_copy (q := 44) laX5_30 dX5_copyFrom_41 c19 c15 (by omega) (Nat.le_of_ble_eq_true rfl) (Nat.le_of_ble_eq_true rfl) (Nat.le_of_ble_eq_true rfl) rfl (fun σ21 c22 f23 => ?_)
  have c24 := (f23.2 b (by omega)).trans c14
  have c25 := (f23.2 d (by omega)).trans c16
  have c26 := (f23.2 (d + 1) (by omega)).trans c17
  have c27 := (f23.2 (d + 2) (by omega)).trans c18
  have c28 := (f23.2 (d + 3) (by omega)).trans c19
  have c29 := (f23.2 (b + 1) (by omega)).trans c20
  have c30 := (f23.2 (b + 2) (by omega)).trans c12
  refine g_aload_n (q := 45) dX5_copyFrom_44 rfl rfl ?_
  refine g_aload_n (q := 46) dX5_copyFrom_45 rfl rfl ?_
  refine g_get (q := 49) flX5_36 dX5_copyFrom_46 c25 rfl rfl ?_
  refine z_put (fs' := [.ref (b + 1), .ref (b + 2), .ref (b + 3), .int (iZ (S 150)), .int (iZ h2), .int (iZ h3), .int (iZ h4)]) (q := 52) fpX5_36 dX5_copyFrom_49 c24 (Nat.le_of_ble_eq_true rfl) rfl rfl rfl rfl (fun σ31 c32 f33 => ?_)
  have c34 := (f33.2 d (by omega)).trans c25
  have c35 := (f33.2 (d + 1) (by omega)).trans c26
  have c36 := (f33.2 (d + 2) (by omega)).trans c27
  have c37 := (f33.2 (d + 3) (by omega)).trans c28
  have c38 := (f33.2 (b + 1) (by omega)).trans c29
  have c39 := (f33.2 (b + 2) (by omega)).trans c30
  have c40 := (f33.2 (b + 3) (by omega)).trans c22
  refine g_aload_n (q := 53) dX5_copyFrom_52 rfl rfl ?_
  refine g_aload_n (q := 54) dX5_copyFrom_53 rfl rfl ?_
  refine g_get (q := 57) flX5_40 dX5_copyFrom_54 c34 rfl rfl ?_
  refine z_put (fs' := [.ref (b + 1), .ref (b + 2), .ref (b + 3), .int (iZ (S 150)), .int (iZ (S 153)), .int (iZ h3), .int (iZ h4)]) (q := 60) fpX5_40 dX5_copyFrom_57 c32 (Nat.le_of_ble_eq_true rfl) rfl rfl rfl rfl (fun σ41 c42 f43 => ?_)
  have c44 := (f43.2 d (by omega)).trans c34
  have c45 := (f43.2 (d + 1) (by omega)).trans c35
  have c46 := (f43.2 (d + 2) (by omega)).trans c36
  have c47 := (f43.2 (d + 3) (by omega)).trans c37
  have c48 := (f43.2 (b + 1) (by omega)).trans c38
  have c49 := (f43.2 (b + 2) (by omega)).trans c39
  have c50 := (f43.2 (b + 3) (by omega)).trans c40
  refine g_aload_n (q := 61) dX5_copyFrom_60 rfl rfl ?_
  refine g_aload_n (q := 62) dX5_copyFrom_61 rfl rfl ?_
  refine g_get (q := 65) flX5_43 dX5_copyFrom_62 c44 rfl rfl ?_
  refine z_put (fs' := [.ref (b + 1), .ref (b + 2), .ref (b + 3), .int (iZ (S 150)), .int (iZ (S 153)), .int (iZ (S 154)), .int (iZ h4)]) (q := 68) fpX5_43 dX5_copyFrom_65 c42 (Nat.le_of_ble_eq_true rfl) rfl rfl rfl rfl (fun σ51 c52 f53 => ?_)
  have c54 := (f53.2 d (by omega)).trans c44
  have c55 := (f53.2 (d + 1) (by omega)).trans c45
  have c56 := (f53.2 (d + 2) (by omega)).trans c46
  have c57 := (f53.2 (d + 3) (by omega)).trans c47
  have c58 := (f53.2 (b + 1) (by omega)).trans c48
  have c59 := (f53.2 (b + 2) (by omega)).trans c49
  have c60 := (f53.2 (b + 3) (by omega)).trans c50
  refine g_aload_n (q := 69) dX5_copyFrom_68 rfl rfl ?_
  refine g_aload_n (q := 70) dX5_copyFrom_69 rfl rfl ?_
  refine g_get (q := 73) flX5_46 dX5_copyFrom_70 c54 rfl rfl ?_
  refine z_put (fs' := [.ref (b + 1), .ref (b + 2), .ref (b + 3), .int (iZ (S 150)), .int (iZ (S 153)), .int (iZ (S 154)), .int (iZ (S 155))]) (q := 76) fpX5_46 dX5_copyFrom_73 c52 (Nat.le_of_ble_eq_true rfl) rfl rfl rfl rfl (fun σ61 c62 f63 => ?_)
  have c64 := (f63.2 d (by omega)).trans c54
  have c65 := (f63.2 (d + 1) (by omega)).trans c55
  have c66 := (f63.2 (d + 2) (by omega)).trans c56
  have c67 := (f63.2 (d + 3) (by omega)).trans c57
  have c68 := (f63.2 (b + 1) (by omega)).trans c58
  have c69 := (f63.2 (b + 2) (by omega)).trans c59
  have c70 := (f63.2 (b + 3) (by omega)).trans c60
  refine z_vret dX5_copyFrom_76 rfl ?_
  refine ⟨rfl, ⟨c62, _, _, _, c68, c69, c70, fun r r0 r1 => ?_, fun k k0 k1 => ?_, fun c c0 c1 => ?_⟩, (((((((g_Fr.rf.step f3 ⟨by omega, by omega⟩).step f13 ⟨by omega, by omega⟩).step f23 ⟨by omega, by omega⟩).step f33 ⟨by omega, by omega⟩).step f43 ⟨by omega, by omega⟩).step f53 ⟨by omega, by omega⟩).step f63 ⟨by omega, by omega⟩)⟩
  · unfold zcp; rw [if_pos (by omega), show r + 0 = r by omega]; exact hC r r0 r1
  · unfold zcp; rw [if_pos (by omega), show k + 0 = k by omega]; exact hW k k0 k1
  · unfold zcp; rw [if_pos (by omega), show c + 0 = c by omega]; exact hK c c0 c1
theorem mAnew_0 (T S : Int → Int) {j : Int} (h : 0 ≤ j ∧ j < 156 ∧ j ≠ 151 ∧ j ≠ 152) : mAnew T S j = 0 := by
  unfold mAnew
  rw [zup_ne _ _ (by omega), zup_ne _ _ (by omega)]
  exact if_pos (by omega)
theorem mAnew_c (T S : Int → Int) {c : Int} (h : 0 ≤ c ∧ c < 2) : mAnew T S (c + 151) = T (c + 49) := by
  rcases (by omega : c = 0 ∨ c = 1) with rfl | rfl
  · unfold mAnew; rw [zup_ne _ _ (by omega)]; exact zup_self _ _ _
  · exact zup_self _ _ _
theorem rowL_z {f : Int → Int} : ∀ {n : Nat} {s : Int}, (∀ i, s ≤ i → i < s + n → f i = 0) → rowL f s n = 0
  | 0, s, _ => rfl
  | n + 1, s, h => by
    unfold rowL
    rw [h s (by omega) (by omega), rowL_z (fun i h0 h1 => h i (by omega) (by omega))]; rfl
theorem mAnew_row (T S : Int → Int) {r : Int} (r0 : 0 ≤ r) (r1 : r < 12) : rowB (mAnew T S) r = 0 := rowL_z (fun i i0 i1 => mAnew_0 T S (by omega))
theorem r_begin (σ : g_H0) (b j : Nat) (hd : b + 4 ≤ j) (T S : Int → Int) (h0 : rS0 b σ) (hJ : rJob j T σ) (hT : T 4 ≤ 2) : Ret mX5_begin [.ref b, .ref j] σ (fun r σ' => r = none ∧ rSt b T (mAnew T S) σ' ∧ g_Fr (pS b) σ σ') := by
  refine Ret.of moX5_begin.1 (Nat.le_of_ble_eq_true rfl) (fun w => ?_)
  obtain ⟨h1, h2, h3, h4, C0, W0, K0, b0, b1, b2, b3⟩ := id h0
  obtain ⟨j0, j1, ⟨jf, j2, j2'⟩, ⟨jg, j3, j3'⟩, ⟨jC, j4, j4'⟩, j5, j6⟩ := id hJ
  show Go w mX5_begin (0, 0) 0 [some (.ref b), some (.ref j)] [] σ (fun r σ' => r = none ∧ rSt b T (mAnew T S) σ' ∧ g_Fr (pS b) σ σ')
  refine g_aload_n (q := 1) dX5_begin_0 rfl rfl ?_
  refine g_get (q := 4) flX5_9 dX5_begin_1 b0 rfl rfl ?_
  refine z_iconst (q := 5) dX5_begin_4 rfl ?_
  refine g_callS (As := [.ref (b + 1), .int (iZ 0)]) (rest := []) (q := 8) moJ7_fill_53178 lkX5_begin_21 dX5_begin_5 (r_fill σ (b + 1) 12 12 0 C0 (by omega) (by decide) b1) rfl rfl (Nat.le_of_ble_eq_true rfl) (Nat.le_of_ble_eq_true rfl) (Nat.le_of_ble_eq_true rfl) rfl ?_
  rintro r1 σ1 ⟨rfl, c1, f1⟩
  have c2 := (f1.2 b (by omega)).trans b0
  have c3 := (f1.2 (b + 2) (by omega)).trans b2
  have c4 := (f1.2 (b + 3) (by omega)).trans b3
  have c5 := (f1.2 j (by omega)).trans j0
  have c6 := (f1.2 (j + 4) (by omega)).trans j4
  show Go w mX5_begin (0, 0) 8 [some (.ref b), some (.ref j)] [] σ1 (fun r σ' => r = none ∧ rSt b T (mAnew T S) σ' ∧ g_Fr (pS b) σ σ')
  refine g_aload_n (q := 9) dX5_begin_8 rfl rfl ?_
  refine g_get (q := 12) flX5_15 dX5_begin_9 c2 rfl rfl ?_
  refine z_iconst (q := 13) dX5_begin_12 rfl ?_
  refine g_callS (As := [.ref (b + 2), .int (iZ 0)]) (rest := []) (q := 16) moJ7_fill_53178 lkX5_begin_21 dX5_begin_13 (r_fill σ1 (b + 2) 6 6 0 W0 (by omega) (by decide) c3) rfl rfl (Nat.le_of_ble_eq_true rfl) (Nat.le_of_ble_eq_true rfl) (Nat.le_of_ble_eq_true rfl) rfl ?_
  rintro r7 σ7 ⟨rfl, c7, f7⟩
  have c8 := (f7.2 b (by omega)).trans c2
  have c9 := (f7.2 (b + 3) (by omega)).trans c4
  have c10 := (f7.2 j (by omega)).trans c5
  have c11 := (f7.2 (j + 4) (by omega)).trans c6
  have c12 := (f7.2 (b + 1) (by omega)).trans c1
  show Go w mX5_begin (0, 0) 16 [some (.ref b), some (.ref j)] [] σ7 (fun r σ' => r = none ∧ rSt b T (mAnew T S) σ' ∧ g_Fr (pS b) σ σ')
  refine g_aload_n (q := 17) dX5_begin_16 rfl rfl ?_
  refine g_get (q := 20) flX5_27 dX5_begin_17 c10 rfl rfl ?_
  refine z_iconst (q := 21) dX5_begin_20 rfl ?_
  refine g_aload_n (q := 22) dX5_begin_21 rfl rfl ?_
  refine g_get (q := 25) flX5_18 dX5_begin_22 c8 rfl rfl ?_
  refine z_iconst (q := 26) dX5_begin_25 rfl ?_
  refine z_iconst (q := 27) dX5_begin_26 rfl ?_
  refine z_copy (q := 30) laX5_30 dX5_begin_27 c11 c9 (by omega) (Nat.le_of_ble_eq_true rfl) (Nat.le_of_ble_eq_true rfl) (Nat.le_of_ble_eq_true rfl) rfl (fun σ13 c14 f15 => ?_)
  have c16 := (f15.2 b (by omega)).trans c8
  have c17 := (f15.2 j (by omega)).trans c10
  have c18 := (f15.2 (j + 4) (by omega)).trans c11
  have c19 := (f15.2 (b + 1) (by omega)).trans c12
  have c20 := (f15.2 (b + 2) (by omega)).trans c7
  refine g_aload_n (q := 31) dX5_begin_30 rfl rfl ?_
  refine z_iconst (q := 32) dX5_begin_31 rfl ?_
  refine z_put (fs' := [.ref (b + 1), .ref (b + 2), .ref (b + 3), .int (iZ 0), .int (iZ h2), .int (iZ h3), .int (iZ h4)]) (q := 35) fpX5_36 dX5_begin_32 c16 (Nat.le_of_ble_eq_true rfl) rfl rfl rfl rfl (fun σ21 c22 f23 => ?_)
  have c24 := (f23.2 j (by omega)).trans c17
  have c25 := (f23.2 (j + 4) (by omega)).trans c18
  have c26 := (f23.2 (b + 1) (by omega)).trans c19
  have c27 := (f23.2 (b + 2) (by omega)).trans c20
  have c28 := (f23.2 (b + 3) (by omega)).trans c14
  refine g_aload_n (q := 36) dX5_begin_35 rfl rfl ?_
  refine z_iconst (q := 37) dX5_begin_36 rfl ?_
  refine z_put (fs' := [.ref (b + 1), .ref (b + 2), .ref (b + 3), .int (iZ 0), .int (iZ 0), .int (iZ h3), .int (iZ h4)]) (q := 40) fpX5_40 dX5_begin_37 c22 (Nat.le_of_ble_eq_true rfl) rfl rfl rfl rfl (fun σ29 c30 f31 => ?_)
  have c32 := (f31.2 j (by omega)).trans c24
  have c33 := (f31.2 (j + 4) (by omega)).trans c25
  have c34 := (f31.2 (b + 1) (by omega)).trans c26
  have c35 := (f31.2 (b + 2) (by omega)).trans c27
  have c36 := (f31.2 (b + 3) (by omega)).trans c28
  refine g_aload_n (q := 41) dX5_begin_40 rfl rfl ?_
  refine z_iconst (q := 42) dX5_begin_41 rfl ?_
  refine z_put (fs' := [.ref (b + 1), .ref (b + 2), .ref (b + 3), .int (iZ 0), .int (iZ 0), .int (iZ 0), .int (iZ h4)]) (q := 45) fpX5_43 dX5_begin_42 c30 (Nat.le_of_ble_eq_true rfl) rfl rfl rfl rfl (fun σ37 c38 f39 => ?_)
  have c40 := (f39.2 j (by omega)).trans c32
  have c41 := (f39.2 (j + 4) (by omega)).trans c33
  have c42 := (f39.2 (b + 1) (by omega)).trans c34
  have c43 := (f39.2 (b + 2) (by omega)).trans c35
  have c44 := (f39.2 (b + 3) (by omega)).trans c36
  refine g_aload_n (q := 46) dX5_begin_45 rfl rfl ?_
  refine z_iconst (q := 47) dX5_begin_46 rfl ?_
  refine z_put (fs' := [.ref (b + 1), .ref (b + 2), .ref (b + 3), .int (iZ 0), .int (iZ 0), .int (iZ 0), .int (iZ 0)]) (q := 50) fpX5_46 dX5_begin_47 c38 (Nat.le_of_ble_eq_true rfl) rfl rfl rfl rfl (fun σ45 c46 f47 => ?_)
  have c48 := (f47.2 j (by omega)).trans c40
  have c49 := (f47.2 (j + 4) (by omega)).trans c41
  have c50 := (f47.2 (b + 1) (by omega)).trans c42
  have c51 := (f47.2 (b + 2) (by omega)).trans c43
  have c52 := (f47.2 (b + 3) (by omega)).trans c44
  refine z_vret dX5_begin_50 rfl ?_
  refine ⟨rfl, ⟨?_, _, _, _, c50, c51, c52, fun r r0 r1 => ?_, fun k k0 k1 => ?_, fun c c0 c1 => ?_⟩, (((((((g_Fr.rf.step f1 ⟨by omega, by omega⟩).step f7 ⟨by omega, by omega⟩).step f15 ⟨by omega, by omega⟩).step f23 ⟨by omega, by omega⟩).step f31 ⟨by omega, by omega⟩).step f39 ⟨by omega, by omega⟩).step f47 ⟨by omega, by omega⟩)⟩
  · have q := c46
    rw [mAnew_0 T S (j := 150) (by omega), mAnew_0 T S (j := 153) (by omega), mAnew_0 T S (j := 154) (by omega), mAnew_0 T S (j := 155) (by omega)]
    exact q
  · rw [mAnew_row T S r0 r1]; unfold zcp; rw [if_pos (by omega)]
  · rw [mAnew_0 T S (by omega)]; unfold zcp; rw [if_pos (by omega)]
  · unfold zcp; rw [if_pos (by omega), show c + 0 = c by omega, j4' c c0 c1, mAnew_c T S (by omega)]
