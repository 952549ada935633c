/-! the Reader -/
def rRn (a : Nat) (p : Int) (N : Int → Int) (σ : g_H0) : Prop := σ[a]? = some (.inr (4, [.ref (a + 1), .int (iZ p)])) ∧ σ[a + 1]? = some (.inl (0, 4, .inl (zA N)))
def pA (a : Nat) : Nat → Prop := fun k => a ≤ k ∧ k < a + 2
theorem rText.fr {a : Nat} {L : Int} {tx : Int → Int} {σ σ' : g_H0} (h : rText a L tx σ) (e : ∀ k, a ≤ k → k < a + 2 → σ'[k]? = σ[k]?) : rText a L tx σ' := by
  obtain ⟨h0, X, h1, h2⟩ := h
  exact ⟨(e _ (by omega) (by omega)).trans h0, X, (e _ (by omega) (by omega)).trans h1, h2⟩
def qWF (i : Nat) (L : Int) (t : Int → Int) (p : Int) : Nat → Int → Int
  | 0, _ => 1
  | n + 1, k => if mB L t (p + k) = sC i k then qWF i L t p n (k + 1) else 0
/-- numbers with commas between them and a semicolon behind -/
def qNumF (L : Int) (t : Int → Int) (m : Int) : Nat → Int → Int → (Int → Int) → Int × Int × (Int → Int)
  | 0, _, p, N => (1, p, N)
  | n + 1, i, p, N => if ¬ (48 ≤ mB L t p ∧ mB L t p ≤ 57) then (0, p, N) else if mB L t (nE L t p) ≠ (if i = m - 1 then 59 else 44) then (0, nE L t p, zup N i (nV L t p)) else qNumF L t m n (i + 1) (nE L t p + 1) (zup N i (nV L t p))
theorem OKP_q0 {L : Int} {t : Int → Int} {m i p : Int} {N : Int → Int} {P : Int → (Int → Int) → Prop} : OKP P (qNumF L t m 0 i p N) ↔ P p N := OKP_1
theorem OKP_qs {L : Int} {t : Int → Int} {m i p : Int} {N : Int → Int} {n : Nat} {P : Int → (Int → Int) → Prop} {sg : Int} (hs : (if i = m - 1 then 59 else 44) = sg) : OKP P (qNumF L t m (n + 1) i p N) ↔ (nF L t p ∧ mB L t (nE L t p) = sg) ∧ OKP P (qNumF L t m n (i + 1) (nE L t p + 1) (zup N i (nV L t p))) := by
  subst hs
  conv => lhs; unfold qNumF
  by_cases h1 : 48 ≤ mB L t p ∧ mB L t p ≤ 57
  · rw [if_neg (Classical.not_not.mpr h1)]
    by_cases h2 : mB L t (nE L t p) ≠ (if i = m - 1 then 59 else 44)
    · rw [if_pos h2, OKP_0]
      exact ⟨fun q => q.elim, fun q => h2 q.1.2⟩
    · rw [if_neg h2]
      exact ⟨fun q => ⟨⟨h1, Classical.not_not.mp h2⟩, q⟩, fun q => q.2⟩
  · rw [if_pos h1, OKP_0]
    exact ⟨fun q => q.elim, fun q => h1 q.1.1⟩
theorem qNumF_b (L : Int) (t : Int → Int) (m : Int) : ∀ (n : Nat) (i p : Int) (N : Int → Int), 0 ≤ (qNumF L t m n i p N).1 ∧ (qNumF L t m n i p N).1 ≤ 1
  | 0, i, p, N => by show (0 : Int) ≤ 1 ∧ (1 : Int) ≤ 1; omega
  | n + 1, i, p, N => by
    unfold qNumF
    by_cases h1 : ¬ (48 ≤ mB L t p ∧ mB L t p ≤ 57)
    · rw [if_pos h1]; show (0 : Int) ≤ 0 ∧ (0 : Int) ≤ 1; omega
    · rw [if_neg h1]
      by_cases h2 : mB L t (nE L t p) ≠ (if i = m - 1 then 59 else 44)
      · rw [if_pos h2]; show (0 : Int) ≤ 0 ∧ (0 : Int) ≤ 1; omega
      · rw [if_neg h2]; exact qNumF_b L t m n _ _ _
theorem l_takesWord (w : g_W) (σ : g_H0) (a t : Nat) (hd : t + 2 ≤ a) (p : Int) (bp : 0 ≤ p ∧ p < 10000) (N : Int → Int) (hR : rRn a p N σ) (L : Int) (tx : Int → Int) (hT : rText t L tx σ) (hL : 0 ≤ L ∧ L ≤ 200) (ht : zBt L tx) (i : Nat) (hi : i < 5) (x y : UInt32) (hx : x.toNat = 1 + i) (hy : y.toNat = 11 + i) : ∀ (n : Nat) (k : Int), 0 ≤ k → k + n = sL i → qWF i L tx p (sL i).toNat 0 = qWF i L tx p n k → Go w mX4_takesWord (0, 0) 2 [some (.ref a), some (.ref t), some (.float x), some (.int (iZ k))] [] σ (fun r σ' => (qWF i L tx p (sL i).toNat 0 = 1 ∧ r = some (.int (iZ 1)) ∧ rRn a (p + sL i) N σ' ∧ g_Fr (pA a) σ σ') ∨ (qWF i L tx p (sL i).toNat 0 = 0 ∧ r = some (.int (iZ 0)) ∧ σ' = σ)) := by
  intro n
  induction n with
  | zero =>
    intro k k0 k1 hm
    obtain ⟨n0, n1⟩ := id hR
    have bL := (sL_ok i hi).2
    refine g_iload_n (q := 3) dX4_takesWord_2 rfl rfl ?_
    refine g_aloadF_n (q := 4) dX4_takesWord_3 rfl rfl ?_
    refine g_callVS (As := []) (rest := [.int (iZ k)]) (q := 7) hi hx rfl moJ0_length_8abf5 lkX4_takesWord_64 dX4_takesWord_4 (r_s_length σ i hi x hx y hy) rfl rfl (Nat.le_of_ble_eq_true rfl) (Nat.le_of_ble_eq_true rfl) (Nat.le_of_ble_eq_true rfl) rfl ?_
    rintro r1 s1 hp
    rw [hp.1, hp.2]
    show Go w mX4_takesWord (0, 0) 7 [some (.ref a), some (.ref t), some (.float x), some (.int (iZ k))] [.int (iZ (sL i)), .int (iZ k)] σ (fun r σ' => (qWF i L tx p (sL i).toNat 0 = 1 ∧ r = some (.int (iZ 1)) ∧ rRn a (p + sL i) N σ' ∧ g_Fr (pA a) σ σ') ∨ (qWF i L tx p (sL i).toNat 0 = 0 ∧ r = some (.int (iZ 0)) ∧ σ' = σ))
    refine z_icmp_ge (t := 36) (q := 10) dX4_takesWord_7 rfl (by omega) rfl (fun pc1 => ?_) (fun pc1 => ?_)
    · refine g_aload_n (q := 37) dX4_takesWord_36 rfl rfl ?_
      refine g_dup (q := 38) dX4_takesWord_37 rfl rfl ?_
      refine g_get (q := 41) flX4_20 dX4_takesWord_38 n0 rfl rfl ?_
      refine g_aloadF_n (q := 42) dX4_takesWord_41 rfl rfl ?_
      refine g_callVS (As := []) (rest := [.int (iZ p), .ref a]) (q := 45) hi hx rfl moJ0_length_8abf5 lkX4_takesWord_64 dX4_takesWord_42 (r_s_length σ i hi x hx y hy) rfl rfl (Nat.le_of_ble_eq_true rfl) (Nat.le_of_ble_eq_true rfl) (Nat.le_of_ble_eq_true rfl) rfl ?_
      rintro r1 s1 hp
      rw [hp.1, hp.2]
      show Go w mX4_takesWord (0, 0) 45 [some (.ref a), some (.ref t), some (.float x), some (.int (iZ k))] [.int (iZ (sL i)), .int (iZ p), .ref a] σ (fun r σ' => (qWF i L tx p (sL i).toNat 0 = 1 ∧ r = some (.int (iZ 1)) ∧ rRn a (p + sL i) N σ' ∧ g_Fr (pA a) σ σ') ∨ (qWF i L tx p (sL i).toNat 0 = 0 ∧ r = some (.int (iZ 0)) ∧ σ' = σ))
      refine z_iadd (q := 46) dX4_takesWord_45 rfl ?_
      refine z_put (fs' := [.ref (a + 1), .int (iZ (p + (sL i)))]) (q := 49) fpX4_20 dX4_takesWord_46 n0 (Nat.le_of_ble_eq_true rfl) rfl rfl rfl rfl (fun σ2 c3 f4 => ?_)
      have c5 := (f4.2 (a + 1) (by omega)).trans n1
      have hT6 : rText t L tx σ2 := hT.fr (fun k k0 k1 => f4.2 k (by omega))
      refine z_iconst (q := 50) dX4_takesWord_49 rfl ?_
      refine z_zret dX4_takesWord_50 rfl rfl ?_
      exact Or.inl ⟨by rw [hm]; rfl, rfl, ⟨c3, c5⟩, (g_Fr.rf.tr (f4.wk (fun k e => ⟨by omega, by omega⟩)))⟩
    · exfalso
      omega
  | succ n ih =>
    intro k k0 k1 hm
    obtain ⟨n0, n1⟩ := id hR
    have bL := (sL_ok i hi).2
    refine g_iload_n (q := 3) dX4_takesWord_2 rfl rfl ?_
    refine g_aloadF_n (q := 4) dX4_takesWord_3 rfl rfl ?_
    refine g_callVS (As := []) (rest := [.int (iZ k)]) (q := 7) hi hx rfl moJ0_length_8abf5 lkX4_takesWord_64 dX4_takesWord_4 (r_s_length σ i hi x hx y hy) rfl rfl (Nat.le_of_ble_eq_true rfl) (Nat.le_of_ble_eq_true rfl) (Nat.le_of_ble_eq_true rfl) rfl ?_
    rintro r1 s1 hp
    rw [hp.1, hp.2]
    show Go w mX4_takesWord (0, 0) 7 [some (.ref a), some (.ref t), some (.float x), some (.int (iZ k))] [.int (iZ (sL i)), .int (iZ k)] σ (fun r σ' => (qWF i L tx p (sL i).toNat 0 = 1 ∧ r = some (.int (iZ 1)) ∧ rRn a (p + sL i) N σ' ∧ g_Fr (pA a) σ σ') ∨ (qWF i L tx p (sL i).toNat 0 = 0 ∧ r = some (.int (iZ 0)) ∧ σ' = σ))
    refine z_icmp_ge (t := 36) (q := 10) dX4_takesWord_7 rfl (by omega) rfl (fun pc1 => ?_) (fun pc1 => ?_)
    · exfalso
      omega
    · refine g_aload_n (q := 11) dX4_takesWord_10 rfl rfl ?_
      refine g_aload_n (q := 12) dX4_takesWord_11 rfl rfl ?_
      refine g_get (q := 15) flX4_20 dX4_takesWord_12 n0 rfl rfl ?_
      refine g_iload_n (q := 16) dX4_takesWord_15 rfl rfl ?_
      refine z_iadd (q := 17) dX4_takesWord_16 rfl ?_
      refine g_callV (As := [.int (iZ (p + k))]) (rest := []) (q := 20) moX6_letterAt lkX4_takesWord_69 dX4_takesWord_17 rfl hT.1 (r_letterAt σ t L tx hT hL ht (p + k) (by omega)) rfl rfl (Nat.le_of_ble_eq_true rfl) (Nat.le_of_ble_eq_true rfl) (Nat.le_of_ble_eq_true rfl) rfl ?_
      rintro rQ sQ hpQ
      rw [hpQ.1, hpQ.2]
      show Go w mX4_takesWord (0, 0) 20 [some (.ref a), some (.ref t), some (.float x), some (.int (iZ k))] [.int (iZ (mB L tx (p + k)))] σ (fun r σ' => (qWF i L tx p (sL i).toNat 0 = 1 ∧ r = some (.int (iZ 1)) ∧ rRn a (p + sL i) N σ' ∧ g_Fr (pA a) σ σ') ∨ (qWF i L tx p (sL i).toNat 0 = 0 ∧ r = some (.int (iZ 0)) ∧ σ' = σ))
      have b2 := mB_b ht (k := (p + k)) (by omega)
      refine g_aloadF_n (q := 21) dX4_takesWord_20 rfl rfl ?_
      refine g_iload_n (q := 22) dX4_takesWord_21 rfl rfl ?_
      refine g_callVS (As := [.int (iZ k)]) (rest := [.int (iZ (mB L tx (p + k)))]) (q := 25) hi hx rfl moJ0_charAt_5068e lkX4_takesWord_73 dX4_takesWord_22 (r_s_charAt σ i hi x hx y hy k (by omega)) rfl rfl (Nat.le_of_ble_eq_true rfl) (Nat.le_of_ble_eq_true rfl) (Nat.le_of_ble_eq_true rfl) rfl ?_
      rintro r1 s1 hp
      rw [hp.1, hp.2]
      show Go w mX4_takesWord (0, 0) 25 [some (.ref a), some (.ref t), some (.float x), some (.int (iZ k))] [.int (iZ (sC i k)), .int (iZ (mB L tx (p + k)))] σ (fun r σ' => (qWF i L tx p (sL i).toNat 0 = 1 ∧ r = some (.int (iZ 1)) ∧ rRn a (p + sL i) N σ' ∧ g_Fr (pA a) σ σ') ∨ (qWF i L tx p (sL i).toNat 0 = 0 ∧ r = some (.int (iZ 0)) ∧ σ' = σ))
      have bC := sC_b hi (k := k) (by omega)
      refine z_icmp_eq (t := 30) (q := 28) dX4_takesWord_25 rfl (by omega) rfl (fun pc3 => ?_) (fun pc3 => ?_)
      · refine z_iincc (c := (k + 1)) (ml' := [some (.ref a), some (.ref t), some (.float x), some (.int (iZ (k + 1)))]) (q := 33) dX4_takesWord_30 rfl (by omega) rfl rfl rfl ?_
        refine g_goto (q := 2) dX4_takesWord_33 rfl ?_
        exact ih (k + 1) (by omega) (by omega) (by rw [hm]; conv => lhs; unfold qWF; rw [if_pos (by omega)])
      · refine z_iconst (q := 29) dX4_takesWord_28 rfl ?_
        refine z_zret dX4_takesWord_29 rfl rfl ?_
        refine Or.inr ⟨?_, rfl, rfl⟩
        rw [hm]; unfold qWF; rw [if_neg (by omega)]
theorem r_takesWord (σ : g_H0) (a t : Nat) (hd : t + 2 ≤ a) (p : Int) (bp : 0 ≤ p ∧ p < 10000) (N : Int → Int) (hR : rRn a p N σ) (L : Int) (tx : Int → Int) (hT : rText t L tx σ) (hL : 0 ≤ L ∧ L ≤ 200) (ht : zBt L tx) (i : Nat) (hi : i < 5) (x y : UInt32) (hx : x.toNat = 1 + i) (hy : y.toNat = 11 + i) : Ret mX4_takesWord [.ref a, .ref t, .float x] σ (fun r σ' => (qWF i L tx p (sL i).toNat 0 = 1 ∧ r = some (.int (iZ 1)) ∧ rRn a (p + sL i) N σ' ∧ g_Fr (pA a) σ σ') ∨ (qWF i L tx p (sL i).toNat 0 = 0 ∧ r = some (.int (iZ 0)) ∧ σ' = σ)) := by
  refine Ret.of moX4_takesWord.1 (Nat.le_of_ble_eq_true rfl) (fun w => ?_)
  obtain ⟨n0, n1⟩ := id hR
  have bL := (sL_ok i hi).2
  show Go w mX4_takesWord (0, 0) 0 [some (.ref a), some (.ref t), some (.float x), none] [] σ (fun r σ' => (qWF i L tx p (sL i).toNat 0 = 1 ∧ r = some (.int (iZ 1)) ∧ rRn a (p + sL i) N σ' ∧ g_Fr (pA a) σ σ') ∨ (qWF i L tx p (sL i).toNat 0 = 0 ∧ r = some (.int (iZ 0)) ∧ σ' = σ))
  refine z_iconst (q := 1) dX4_takesWord_0 rfl ?_
  refine g_istore_n (ml' := [some (.ref a), some (.ref t), some (.float x), some (.int (iZ 0))]) (q := 2) dX4_takesWord_1 rfl (Nat.le_of_ble_eq_true rfl) rfl rfl ?_
  exact l_takesWord w σ a t hd p bp N hR L tx hT hL ht i hi x y hx hy (sL i).toNat 0 (by omega) (by omega) rfl
theorem r_takeNumber (σ : g_H0) (a t : Nat) (hd : t + 2 ≤ a) (p : Int) (bp : 0 ≤ p ∧ p < 10000) (N : Int → Int) (hR : rRn a p N σ) (L : Int) (tx : Int → Int) (hT : rText t L tx σ) (hL : 0 ≤ L ∧ L ≤ 200) (ht : zBt L tx) (hf : 48 ≤ mB L tx p ∧ mB L tx p ≤ 57) : Ret mX4_takeNumber [.ref a, .ref t] σ (fun r σ' => r = some (.int (iZ (nV L tx p))) ∧ rRn a (nE L tx p) N σ' ∧ g_Fr (pA a) σ σ') := by
  refine Ret.of moX4_takeNumber.1 (Nat.le_of_ble_eq_true rfl) (fun w => ?_)
  obtain ⟨n0, n1⟩ := id hR
  show Go w mX4_takeNumber (0, 0) 0 [some (.ref a), some (.ref t), none] [] σ (fun r σ' => r = some (.int (iZ (nV L tx p))) ∧ rRn a (nE L tx p) N σ' ∧ g_Fr (pA a) σ σ')
  refine g_aload_n (q := 1) dX4_takeNumber_0 rfl rfl ?_
  refine g_aload_n (q := 2) dX4_takeNumber_1 rfl rfl ?_
  refine g_get (q := 5) flX4_20 dX4_takeNumber_2 n0 rfl rfl ?_
  refine g_callV (As := [.int (iZ p)]) (rest := []) (q := 8) moX6_letterAt lkX4_takeNumber_69 dX4_takeNumber_5 rfl hT.1 (r_letterAt σ t L tx hT hL ht p (by omega)) rfl rfl (Nat.le_of_ble_eq_true rfl) (Nat.le_of_ble_eq_true rfl) (Nat.le_of_ble_eq_true rfl) rfl ?_
  rintro rQ sQ hpQ
  rw [hpQ.1, hpQ.2]
  show Go w mX4_takeNumber (0, 0) 8 [some (.ref a), some (.ref t), none] [.int (iZ (mB L tx p))] σ (fun r σ' => r = some (.int (iZ (nV L tx p))) ∧ rRn a (nE L tx p) N σ' ∧ g_Fr (pA a) σ σ')
  have b1 := mB_b ht (k := p) (by omega)
  refine g_bipush (v := iZ 48) (q := 10) dX4_takeNumber_8 (by decide) rfl ?_
  refine z_isub (q := 11) dX4_takeNumber_10 rfl ?_
  refine g_istore_n (ml' := [some (.ref a), some (.ref t), some (.int (iZ ((mB L tx p) - 48)))]) (q := 12) dX4_takeNumber_11 rfl (Nat.le_of_ble_eq_true rfl) rfl rfl ?_
  refine g_aload_n (q := 13) dX4_takeNumber_12 rfl rfl ?_
  refine g_dup (q := 14) dX4_takeNumber_13 rfl rfl ?_
  refine g_get (q := 17) flX4_20 dX4_takeNumber_14 n0 rfl rfl ?_
  refine z_iconst (q := 18) dX4_takeNumber_17 rfl ?_
  refine z_iadd (q := 19) dX4_takeNumber_18 rfl ?_
  refine z_put (fs' := [.ref (a + 1), .int (iZ (p + 1))]) (q := 22) fpX4_20 dX4_takeNumber_19 n0 (Nat.le_of_ble_eq_true rfl) rfl rfl rfl rfl (fun σ2 c3 f4 => ?_)
  have c5 := (f4.2 (a + 1) (by omega)).trans n1
  have hT6 : rText t L tx σ2 := hT.fr (fun k k0 k1 => f4.2 k (by omega))
  refine g_aload_n (q := 23) dX4_takeNumber_22 rfl rfl ?_
  refine g_aload_n (q := 24) dX4_takeNumber_23 rfl rfl ?_
  refine g_get (q := 27) flX4_20 dX4_takeNumber_24 c3 rfl rfl ?_
  refine g_callV (As := [.int (iZ (p + 1))]) (rest := []) (q := 30) moX6_letterAt lkX4_takeNumber_69 dX4_takeNumber_27 rfl hT6.1 (r_letterAt σ2 t L tx hT6 hL ht (p + 1) (by omega)) rfl rfl (Nat.le_of_ble_eq_true rfl) (Nat.le_of_ble_eq_true rfl) (Nat.le_of_ble_eq_true rfl) rfl ?_
  rintro rQ sQ hpQ
  rw [hpQ.1, hpQ.2]
  show Go w mX4_takeNumber (0, 0) 30 [some (.ref a), some (.ref t), some (.int (iZ ((mB L tx p) - 48)))] [.int (iZ (mB L tx (p + 1)))] σ2 (fun r σ' => r = some (.int (iZ (nV L tx p))) ∧ rRn a (nE L tx p) N σ' ∧ g_Fr (pA a) σ σ')
  have b7 := mB_b ht (k := (p + 1)) (by omega)
  refine g_callS (As := [.int (iZ (mB L tx (p + 1)))]) (rest := []) (q := 33) moX4_isFigure lkX4_takeNumber_76 dX4_takeNumber_30 (r_isFigure σ2 (mB L tx (p + 1)) (by omega)) rfl rfl (Nat.le_of_ble_eq_true rfl) (Nat.le_of_ble_eq_true rfl) (Nat.le_of_ble_eq_true rfl) rfl ?_
  rintro rQ sQ hpQ
  rw [hpQ.1, hpQ.2]
  show Go w mX4_takeNumber (0, 0) 33 [some (.ref a), some (.ref t), some (.int (iZ ((mB L tx p) - 48)))] [.int (bI (48 ≤ (mB L tx (p + 1)) ∧ (mB L tx (p + 1)) ≤ 57))] σ2 (fun r σ' => r = some (.int (iZ (nV L tx p))) ∧ rRn a (nE L tx p) N σ' ∧ g_Fr (pA a) σ σ')
  refine z_ifB_eq (t := 63) (q := 36) dX4_takeNumber_33 rfl rfl (fun pc8 => ?_) (fun pc8 => ?_)
  · refine g_iload_n (q := 64) dX4_takeNumber_63 rfl rfl ?_
    refine z_iret dX4_takeNumber_64 rfl ?_
    have e1 : nV L tx p = ((mB L tx p) - 48) := by unfold nV mNum; rw [if_neg (by omega), if_pos (by omega)]
    have e2 : nE L tx p = p + 1 := by unfold nE mNum; rw [if_neg (by omega), if_pos (by omega)]
    rw [e1, e2]
    exact ⟨rfl, ⟨c3, c5⟩, (g_Fr.rf.tr (f4.wk (fun k e => ⟨by omega, by omega⟩)))⟩
  · refine g_iload_n (q := 37) dX4_takeNumber_36 rfl rfl ?_
    refine g_bipush (v := iZ 10) (q := 39) dX4_takeNumber_37 (by decide) rfl ?_
    refine z_imulc (c := (10 * (mB L tx p) - 480)) (q := 40) dX4_takeNumber_39 (by omega) rfl ?_
    refine g_aload_n (q := 41) dX4_takeNumber_40 rfl rfl ?_
    refine g_aload_n (q := 42) dX4_takeNumber_41 rfl rfl ?_
    refine g_get (q := 45) flX4_20 dX4_takeNumber_42 c3 rfl rfl ?_
    refine g_callV (As := [.int (iZ (p + 1))]) (rest := [.int (iZ (10 * (mB L tx p) - 480))]) (q := 48) moX6_letterAt lkX4_takeNumber_69 dX4_takeNumber_45 rfl hT6.1 (r_letterAt σ2 t L tx hT6 hL ht (p + 1) (by omega)) rfl rfl (Nat.le_of_ble_eq_true rfl) (Nat.le_of_ble_eq_true rfl) (Nat.le_of_ble_eq_true rfl) rfl ?_
    rintro rQ sQ hpQ
    rw [hpQ.1, hpQ.2]
    show Go w mX4_takeNumber (0, 0) 48 [some (.ref a), some (.ref t), some (.int (iZ ((mB L tx p) - 48)))] [.int (iZ (mB L tx (p + 1))), .int (iZ (10 * (mB L tx p) - 480))] σ2 (fun r σ' => r = some (.int (iZ (nV L tx p))) ∧ rRn a (nE L tx p) N σ' ∧ g_Fr (pA a) σ σ')
    have b9 := mB_b ht (k := (p + 1)) (by omega)
    refine z_iaddc (c := (10 * (mB L tx p) + (mB L tx (p + 1)) - 480)) (q := 49) dX4_takeNumber_48 (by omega) rfl ?_
    refine g_bipush (v := iZ 48) (q := 51) dX4_takeNumber_49 (by decide) rfl ?_
    refine z_isubc (c := (10 * (mB L tx p) + (mB L tx (p + 1)) - 528)) (q := 52) dX4_takeNumber_51 (by omega) rfl ?_
    refine g_istore_n (ml' := [some (.ref a), some (.ref t), some (.int (iZ (10 * (mB L tx p) + (mB L tx (p + 1)) - 528)))]) (q := 53) dX4_takeNumber_52 rfl (Nat.le_of_ble_eq_true rfl) rfl rfl ?_
    refine g_aload_n (q := 54) dX4_takeNumber_53 rfl rfl ?_
    refine g_dup (q := 55) dX4_takeNumber_54 rfl rfl ?_
    refine g_get (q := 58) flX4_20 dX4_takeNumber_55 c3 rfl rfl ?_
    refine z_iconst (q := 59) dX4_takeNumber_58 rfl ?_
    refine z_iaddc (c := (p + 2)) (q := 60) dX4_takeNumber_59 (by omega) rfl ?_
    refine z_put (fs' := [.ref (a + 1), .int (iZ (p + 2))]) (q := 63) fpX4_20 dX4_takeNumber_60 c3 (Nat.le_of_ble_eq_true rfl) rfl rfl rfl rfl (fun σ10 c11 f12 => ?_)
    have c13 := (f12.2 (a + 1) (by omega)).trans c5
    have hT14 : rText t L tx σ10 := hT6.fr (fun k k0 k1 => f12.2 k (by omega))
    refine g_iload_n (q := 64) dX4_takeNumber_63 rfl rfl ?_
    refine z_iret dX4_takeNumber_64 rfl ?_
    have e1 : nV L tx p = (10 * (mB L tx p) + (mB L tx (p + 1)) - 528) := by unfold nV mNum; rw [if_neg (by omega), if_neg (by omega)]; dsimp only; omega
    have e2 : nE L tx p = p + 2 := by unfold nE mNum; rw [if_neg (by omega), if_neg (by omega)]
    rw [e1, e2]
    exact ⟨rfl, ⟨c11, c13⟩, ((g_Fr.rf.tr (f4.wk (fun k e => ⟨by omega, by omega⟩))).tr (f12.wk (fun k e => ⟨by omega, by omega⟩)))⟩
theorem l_takesNumbers (w : g_W) (σ0 : g_H0) (a t : Nat) (hd : t + 2 ≤ a) (L : Int) (tx : Int → Int) (hL : 0 ≤ L ∧ L ≤ 200) (ht : zBt L tx) (m p0 : Int) (N0 : Int → Int) (bm : 1 ≤ m ∧ m ≤ 4) : ∀ (n : Nat) (i p : Int) (N : Int → Int) (σ : g_H0), 0 ≤ i → i + n = m → (0 ≤ p ∧ p + 10 * n < 5000) → qNumF L tx m (m.toNat) 0 p0 N0 = qNumF L tx m n i p N → rRn a p N σ → rText t L tx σ → g_Fr (pA a) σ0 σ → Go w mX4_takesNumbers (0, 0) 2 [some (.ref a), some (.ref t), some (.int (iZ m)), some (.int (iZ i))] [] σ (fun r σ' => r = some (.int (iZ (qNumF L tx m (m.toNat) 0 p0 N0).1)) ∧ rRn a (qNumF L tx m (m.toNat) 0 p0 N0).2.1 (qNumF L tx m (m.toNat) 0 p0 N0).2.2 σ' ∧ g_Fr (pA a) σ0 σ') := by
  intro n
  induction n with
  | zero =>
    intro i p N σ i0 i1 bp hq hR hT hF
    obtain ⟨n0, n1⟩ := id hR
    refine g_iload_n (q := 3) dX4_takesNumbers_2 rfl rfl ?_
    refine g_iload_n (q := 4) dX4_takesNumbers_3 rfl rfl ?_
    refine z_icmp_ge (t := 82) (q := 7) dX4_takesNumbers_4 rfl (by omega) rfl (fun pc1 => ?_) (fun pc1 => ?_)
    · refine z_iconst (q := 83) dX4_takesNumbers_82 rfl ?_
      refine z_zret dX4_takesNumbers_83 rfl rfl ?_
      rw [hq]
      exact ⟨rfl, hR, hF⟩
    · exfalso
      omega
  | succ n ih =>
    intro i p N σ i0 i1 bp hq hR hT hF
    obtain ⟨n0, n1⟩ := id hR
    refine g_iload_n (q := 3) dX4_takesNumbers_2 rfl rfl ?_
    refine g_iload_n (q := 4) dX4_takesNumbers_3 rfl rfl ?_
    refine z_icmp_ge (t := 82) (q := 7) dX4_takesNumbers_4 rfl (by omega) rfl (fun pc1 => ?_) (fun pc1 => ?_)
    · exfalso
      omega
    · refine g_iload_n (q := 8) dX4_takesNumbers_7 rfl rfl ?_
      refine z_iconst (q := 9) dX4_takesNumbers_8 rfl ?_
      refine z_icmp_ge (t := 82) (q := 12) dX4_takesNumbers_9 rfl (by omega) rfl (fun pc2 => ?_) (fun pc2 => ?_)
      · exfalso
        omega
      · refine g_aload_n (q := 13) dX4_takesNumbers_12 rfl rfl ?_
        refine g_aload_n (q := 14) dX4_takesNumbers_13 rfl rfl ?_
        refine g_get (q := 17) flX4_20 dX4_takesNumbers_14 n0 rfl rfl ?_
        refine g_callV (As := [.int (iZ p)]) (rest := []) (q := 20) moX6_letterAt lkX4_takesNumbers_69 dX4_takesNumbers_17 rfl hT.1 (r_letterAt σ t L tx hT hL ht p (by omega)) rfl rfl (Nat.le_of_ble_eq_true rfl) (Nat.le_of_ble_eq_true rfl) (Nat.le_of_ble_eq_true rfl) rfl ?_
        rintro rQ sQ hpQ
        rw [hpQ.1, hpQ.2]
        show Go w mX4_takesNumbers (0, 0) 20 [some (.ref a), some (.ref t), some (.int (iZ m)), some (.int (iZ i))] [.int (iZ (mB L tx p))] σ (fun r σ' => r = some (.int (iZ (qNumF L tx m (m.toNat) 0 p0 N0).1)) ∧ rRn a (qNumF L tx m (m.toNat) 0 p0 N0).2.1 (qNumF L tx m (m.toNat) 0 p0 N0).2.2 σ' ∧ g_Fr (pA a) σ0 σ')
        have b3 := mB_b ht (k := p) (by omega)
        refine g_callS (As := [.int (iZ (mB L tx p))]) (rest := []) (q := 23) moX4_isFigure lkX4_takesNumbers_76 dX4_takesNumbers_20 (r_isFigure σ (mB L tx p) (by omega)) rfl rfl (Nat.le_of_ble_eq_true rfl) (Nat.le_of_ble_eq_true rfl) (Nat.le_of_ble_eq_true rfl) rfl ?_
        rintro rQ sQ hpQ
        rw [hpQ.1, hpQ.2]
        show Go w mX4_takesNumbers (0, 0) 23 [some (.ref a), some (.ref t), some (.int (iZ m)), some (.int (iZ i))] [.int (bI (48 ≤ (mB L tx p) ∧ (mB L tx p) ≤ 57))] σ (fun r σ' => r = some (.int (iZ (qNumF L tx m (m.toNat) 0 p0 N0).1)) ∧ rRn a (qNumF L tx m (m.toNat) 0 p0 N0).2.1 (qNumF L tx m (m.toNat) 0 p0 N0).2.2 σ' ∧ g_Fr (pA a) σ0 σ')
        refine z_ifB_ne (t := 28) (q := 26) dX4_takesNumbers_23 rfl rfl (fun pc4 => ?_) (fun pc4 => ?_)
        · refine g_aload_n (q := 29) dX4_takesNumbers_28 rfl rfl ?_
          refine g_get (q := 32) flX4_9 dX4_takesNumbers_29 n0 rfl rfl ?_
          refine g_iload_n (q := 33) dX4_takesNumbers_32 rfl rfl ?_
          refine g_aload_n (q := 34) dX4_takesNumbers_33 rfl rfl ?_
          refine g_aload_n (q := 35) dX4_takesNumbers_34 rfl rfl ?_
          refine g_callV (As := [.ref t]) (rest := [.int (iZ i), .ref (a + 1)]) (q := 38) moX4_takeNumber lkX4_takesNumbers_80 dX4_takesNumbers_35 rfl n0 (r_takeNumber σ a t hd p (by omega) N hR L tx hT hL ht (by omega)) rfl rfl (Nat.le_of_ble_eq_true rfl) (Nat.le_of_ble_eq_true rfl) (Nat.le_of_ble_eq_true rfl) rfl ?_
          rintro rn σn ⟨rfl, hRn, hFn⟩
          obtain ⟨n2, n3⟩ := id hRn
          have hTn : rText t L tx σn := hT.fr (fun k k0 k1 => hFn.2 k (fun e => by have := e.1; omega))
          have bV := nVE ht (p := p) (by omega) (show nF L tx p by unfold nF; omega)
          show Go w mX4_takesNumbers (0, 0) 38 [some (.ref a), some (.ref t), some (.int (iZ m)), some (.int (iZ i))] [.int (iZ (nV L tx p)), .int (iZ i), .ref (a + 1)] σn (fun r σ' => r = some (.int (iZ (qNumF L tx m (m.toNat) 0 p0 N0).1)) ∧ rRn a (qNumF L tx m (m.toNat) 0 p0 N0).2.1 (qNumF L tx m (m.toNat) 0 p0 N0).2.2 σ' ∧ g_Fr (pA a) σ0 σ')
          refine z_iast (q := 39) dX4_takesNumbers_38 n3 (by omega) rfl (fun σ5 c6 f7 => ?_)
          have c8 := (f7.2 a (by omega)).trans n2
          have hT9 : rText t L tx σ5 := hTn.fr (fun k k0 k1 => f7.2 k (by omega))
          refine g_aload_n (q := 40) dX4_takesNumbers_39 rfl rfl ?_
          refine g_aload_n (q := 41) dX4_takesNumbers_40 rfl rfl ?_
          refine g_get (q := 44) flX4_20 dX4_takesNumbers_41 c8 rfl rfl ?_
          refine g_callV (As := [.int (iZ (nE L tx p))]) (rest := []) (q := 47) moX6_letterAt lkX4_takesNumbers_69 dX4_takesNumbers_44 rfl hT9.1 (r_letterAt σ5 t L tx hT9 hL ht (nE L tx p) (by omega)) rfl rfl (Nat.le_of_ble_eq_true rfl) (Nat.le_of_ble_eq_true rfl) (Nat.le_of_ble_eq_true rfl) rfl ?_
          rintro rQ sQ hpQ
          rw [hpQ.1, hpQ.2]
          show Go w mX4_takesNumbers (0, 0) 47 [some (.ref a), some (.ref t), some (.int (iZ m)), some (.int (iZ i))] [.int (iZ (mB L tx (nE L tx p)))] σ5 (fun r σ' => r = some (.int (iZ (qNumF L tx m (m.toNat) 0 p0 N0).1)) ∧ rRn a (qNumF L tx m (m.toNat) 0 p0 N0).2.1 (qNumF L tx m (m.toNat) 0 p0 N0).2.2 σ' ∧ g_Fr (pA a) σ0 σ')
          have b10 := mB_b ht (k := (nE L tx p)) (by omega)
          refine g_iload_n (q := 48) dX4_takesNumbers_47 rfl rfl ?_
          refine g_iload_n (q := 49) dX4_takesNumbers_48 rfl rfl ?_
          refine z_iconst (q := 50) dX4_takesNumbers_49 rfl ?_
          refine z_isub (q := 51) dX4_takesNumbers_50 rfl ?_
          refine z_icmp_ne (t := 59) (q := 54) dX4_takesNumbers_51 rfl (by omega) rfl (fun pc11 => ?_) (fun pc11 => ?_)
          · refine g_bipush (v := iZ 44) (q := 61) dX4_takesNumbers_59 (by decide) rfl ?_
            refine z_icmp_eq (t := 66) (q := 64) dX4_takesNumbers_61 rfl (by omega) rfl (fun pc12 => ?_) (fun pc12 => ?_)
            · refine g_aload_n (q := 67) dX4_takesNumbers_66 rfl rfl ?_
              refine g_dup (q := 68) dX4_takesNumbers_67 rfl rfl ?_
              refine g_get (q := 71) flX4_20 dX4_takesNumbers_68 c8 rfl rfl ?_
              refine z_iconst (q := 72) dX4_takesNumbers_71 rfl ?_
              refine z_iadd (q := 73) dX4_takesNumbers_72 rfl ?_
              refine z_put (fs' := [.ref (a + 1), .int (iZ ((nE L tx p) + 1))]) (q := 76) fpX4_20 dX4_takesNumbers_73 c8 (Nat.le_of_ble_eq_true rfl) rfl rfl rfl rfl (fun σ13 c14 f15 => ?_)
              have c16 := (f15.2 (a + 1) (by omega)).trans c6
              have hT17 : rText t L tx σ13 := hT9.fr (fun k k0 k1 => f15.2 k (by omega))
              refine z_iincc (c := (i + 1)) (ml' := [some (.ref a), some (.ref t), some (.int (iZ m)), some (.int (iZ (i + 1)))]) (q := 79) dX4_takesNumbers_76 rfl (by omega) rfl rfl rfl ?_
              refine g_goto (q := 2) dX4_takesNumbers_79 rfl ?_
              refine ih (i + 1) (nE L tx p + 1) (zup N i (nV L tx p)) σ13 (by omega) (by omega) (by omega) ?_ ⟨c14, c16⟩ hT17 ((hF.tr hFn).tr ((g_Fr.rf.tr (f7.wk (fun k e => ⟨by omega, by omega⟩))).tr (f15.wk (fun k e => ⟨by omega, by omega⟩))))
              rw [hq]; conv => lhs; unfold qNumF
              rw [if_neg (by omega), if_neg]
              first | (rw [if_pos (by omega)]; omega) | (rw [if_neg (by omega)]; omega)
            · refine z_iconst (q := 65) dX4_takesNumbers_64 rfl ?_
              refine z_zret dX4_takesNumbers_65 rfl rfl ?_
              rw [hq]
              have e : qNumF L tx m (n + 1) i p N = (0, nE L tx p, zup N i (nV L tx p)) := by
                unfold qNumF; rw [if_neg (by omega), if_pos]
                first | (rw [if_pos (by omega)]; omega) | (rw [if_neg (by omega)]; omega)
              rw [e]; exact ⟨rfl, ⟨c8, c6⟩, (hF.tr hFn).tr (g_Fr.rf.tr (f7.wk (fun k e => ⟨by omega, by omega⟩)))⟩
          · refine g_bipush (v := iZ 59) (q := 56) dX4_takesNumbers_54 (by decide) rfl ?_
            refine g_goto (q := 61) dX4_takesNumbers_56 rfl ?_
            refine z_icmp_eq (t := 66) (q := 64) dX4_takesNumbers_61 rfl (by omega) rfl (fun pc18 => ?_) (fun pc18 => ?_)
            · refine g_aload_n (q := 67) dX4_takesNumbers_66 rfl rfl ?_
              refine g_dup (q := 68) dX4_takesNumbers_67 rfl rfl ?_
              refine g_get (q := 71) flX4_20 dX4_takesNumbers_68 c8 rfl rfl ?_
              refine z_iconst (q := 72) dX4_takesNumbers_71 rfl ?_
              refine z_iadd (q := 73) dX4_takesNumbers_72 rfl ?_
              refine z_put (fs' := [.ref (a + 1), .int (iZ ((nE L tx p) + 1))]) (q := 76) fpX4_20 dX4_takesNumbers_73 c8 (Nat.le_of_ble_eq_true rfl) rfl rfl rfl rfl (fun σ19 c20 f21 => ?_)
              have c22 := (f21.2 (a + 1) (by omega)).trans c6
              have hT23 : rText t L tx σ19 := hT9.fr (fun k k0 k1 => f21.2 k (by omega))
              refine z_iincc (c := (i + 1)) (ml' := [some (.ref a), some (.ref t), some (.int (iZ m)), some (.int (iZ (i + 1)))]) (q := 79) dX4_takesNumbers_76 rfl (by omega) rfl rfl rfl ?_
              refine g_goto (q := 2) dX4_takesNumbers_79 rfl ?_
              refine ih (i + 1) (nE L tx p + 1) (zup N i (nV L tx p)) σ19 (by omega) (by omega) (by omega) ?_ ⟨c20, c22⟩ hT23 ((hF.tr hFn).tr ((g_Fr.rf.tr (f7.wk (fun k e => ⟨by omega, by omega⟩))).tr (f21.wk (fun k e => ⟨by omega, by omega⟩))))
              rw [hq]; conv => lhs; unfold qNumF
              rw [if_neg (by omega), if_neg]
              first | (rw [if_pos (by omega)]; omega) | (rw [if_neg (by omega)]; omega)
            · refine z_iconst (q := 65) dX4_takesNumbers_64 rfl ?_
              refine z_zret dX4_takesNumbers_65 rfl rfl ?_
              rw [hq]
              have e : qNumF L tx m (n + 1) i p N = (0, nE L tx p, zup N i (nV L tx p)) := by
                unfold qNumF; rw [if_neg (by omega), if_pos]
                first | (rw [if_pos (by omega)]; omega) | (rw [if_neg (by omega)]; omega)
              rw [e]; exact ⟨rfl, ⟨c8, c6⟩, (hF.tr hFn).tr (g_Fr.rf.tr (f7.wk (fun k e => ⟨by omega, by omega⟩)))⟩
        · refine z_iconst (q := 27) dX4_takesNumbers_26 rfl ?_
          refine z_zret dX4_takesNumbers_27 rfl rfl ?_
          rw [hq]
          have e : qNumF L tx m (n + 1) i p N = (0, p, N) := by unfold qNumF; rw [if_pos (by omega)]
          rw [e]; exact ⟨rfl, hR, hF⟩
theorem r_takesNumbers (σ : g_H0) (a t : Nat) (hd : t + 2 ≤ a) (p : Int) (bp : 0 ≤ p ∧ p < 3000) (N : Int → Int) (hR : rRn a p N σ) (L : Int) (tx : Int → Int) (hT : rText t L tx σ) (hL : 0 ≤ L ∧ L ≤ 200) (ht : zBt L tx) (m : Int) (bm : 1 ≤ m ∧ m ≤ 4) : Ret mX4_takesNumbers [.ref a, .ref t, .int (iZ m)] σ (fun r σ' => r = some (.int (iZ (qNumF L tx m (m.toNat) 0 p N).1)) ∧ rRn a (qNumF L tx m (m.toNat) 0 p N).2.1 (qNumF L tx m (m.toNat) 0 p N).2.2 σ' ∧ g_Fr (pA a) σ σ') := by
  refine Ret.of moX4_takesNumbers.1 (Nat.le_of_ble_eq_true rfl) (fun w => ?_)
  obtain ⟨n0, n1⟩ := id hR
  show Go w mX4_takesNumbers (0, 0) 0 [some (.ref a), some (.ref t), some (.int (iZ m)), none] [] σ (fun r σ' => r = some (.int (iZ (qNumF L tx m (m.toNat) 0 p N).1)) ∧ rRn a (qNumF L tx m (m.toNat) 0 p N).2.1 (qNumF L tx m (m.toNat) 0 p N).2.2 σ' ∧ g_Fr (pA a) σ σ')
  refine z_iconst (q := 1) dX4_takesNumbers_0 rfl ?_
  refine g_istore_n (ml' := [some (.ref a), some (.ref t), some (.int (iZ m)), some (.int (iZ 0))]) (q := 2) dX4_takesNumbers_1 rfl (Nat.le_of_ble_eq_true rfl) rfl rfl ?_
  exact l_takesNumbers w σ a t hd L tx hL ht m p N bm m.toNat 0 p N σ (by omega) (by omega) (by omega) rfl hR hT g_Fr.rf
