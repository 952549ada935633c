/-! the law -/
theorem rM.fr {a : Nat} {I : Nat → Int} {A : Nat → Int → Int} {σ σ' : g_H0} (h : rM a I A σ) (e : ∀ k, a ≤ k → k < a + 12 → σ'[k]? = σ[k]?) : rM a I A σ' := by
  obtain ⟨m0, m1, m2, m3, m4, m5, m6, m7, m8, m9, m10, m11⟩ := h
  exact ⟨(e _ (by omega) (by omega)).trans m0, (e _ (by omega) (by omega)).trans m1, (e _ (by omega) (by omega)).trans m2, (e _ (by omega) (by omega)).trans m3, (e _ (by omega) (by omega)).trans m4, (e _ (by omega) (by omega)).trans m5, (e _ (by omega) (by omega)).trans m6, (e _ (by omega) (by omega)).trans m7, (e _ (by omega) (by omega)).trans m8, (e _ (by omega) (by omega)).trans m9, (e _ (by omega) (by omega)).trans m10, (e _ (by omega) (by omega)).trans m11⟩
theorem rM.pC {I : Nat → Int} {A : Nat → Int → Int} {σ σ' : g_H0} (h : rM 77 I A σ) (f : g_Fr pC σ σ') : rM 77 I A σ' := h.fr (fun k k0 k1 => f.2 k (fun e => by have e : k < 77 := e; omega))
theorem rC.mR {j d : Nat} {L : Int} {tx T S B : Int → Int} {n : Int} {σ σ' : g_H0} (h : rC j d L tx T S B n σ) (f : g_Fr (mR 77) σ σ') : rC j d L tx T S B n σ' := h.fr (fun k k0 => f.2 k (fun e => by have := e.1; omega))
def zx (w : g_W) (i : Int) : Int := (g_xs w i.toNat).toInt
theorem zx_b (w : g_W) (i : Int) : -2147483648 ≤ zx w i ∧ zx w i < 2147483648 := iZ_rng _
section LS
variable {w : g_W} {M : g_MD} {cs : Nat × Nat} {pc q : Nat} {ml : List (Option Value)} {st : List Value} {σ : g_H0} {Φ : g_Post}
theorem z_sld {i : Int} (hd : decode M.2.1 pc = .ok (.iaload, 1)) (h : 0 ≤ i ∧ i < (g_L w : Int) ∧ (g_L w : Int) < 100000) (hq : pc + 1 = q) (k : Go w M cs q ml (.int (iZ (zx w i)) :: st) σ Φ) : Go w M cs pc ml (.int (iZ i) :: .float 0 :: st) σ Φ := by
  refine g_sld hd (iZ_in h.1 h.2.1 (by omega)) hq ?_
  rw [iZ_clamp (by omega) (by omega)]
  have e : g_xs w i.toNat = iZ (zx w i) := (iZ_of _).symm
  rw [e]; exact k
theorem z_slen (hd : decode M.2.1 pc = .ok (.arraylength, 1)) (hq : pc + 1 = q) (k : Go w M cs q ml (.int (iZ (g_L w : Int)) :: st) σ Φ) : Go w M cs pc ml (.float 0 :: st) σ Φ := g_slen hd hq k
theorem z_iandX {x y : Int} (hd : decode M.2.1 pc = .ok (.iand, 1)) (hq : pc + 1 = q) (k : ∀ z : Int, (-2147483648 ≤ z ∧ z < 2147483648) → Go w M cs q ml (.int (iZ z) :: st) σ Φ) : Go w M cs pc ml (.int (iZ y) :: .int (iZ x) :: st) σ Φ := by
  refine g_iand hd hq ?_
  rw [← iZ_of (iZ x &&& iZ y)]
  exact k _ (iZ_rng _)
end LS
theorem l_law (w : g_W) (hw : g_L w ≤ 2560) : ∀ (m : Nat) (i L : Int) (tx T S B : Int → Int) (n : Int) (σ : g_H0), (0 ≤ i ∧ i ≤ 3000) → (g_L w : Int) - 5 < i + 5 * m → (∃ j d : Nat, rC j d L tx T S B n σ) → MC 77 L tx T S B n σ → wfT T → wfS T S → wfB T B n → (0 ≤ n ∧ n ≤ 6) → (0 ≤ L ∧ L ≤ 200) → zBt L tx → Go w mL_law (89, 2365) 18 [some (.float 0), some (.ref 0), some (.ref 77), some (.int (iZ i))] [] σ (fun r _ => r = some (.int (iZ 1))) := by
  intro m
  induction m with
  | zero =>
    intro i L tx T S B n σ i0 i1 hQ hM wT wS wB hn hL ht
    obtain ⟨j, d, hQ⟩ := hQ
    obtain ⟨I, A, hM, rfl, rfl, rfl, rfl, rfl, rfl⟩ := hM
    refine g_iload_n (q := 19) dL_law_18 rfl rfl ?_
    refine g_aloadF_n (q := 20) dL_law_19 rfl rfl ?_
    refine z_slen (q := 21) dL_law_20 rfl ?_
    refine z_iconst (q := 22) dL_law_21 rfl ?_
    refine z_isub (q := 23) dL_law_22 rfl ?_
    refine z_icmp_gt (t := 650) (q := 26) dL_law_23 rfl (by omega) rfl (fun pc1 => ?_) (fun pc1 => ?_)
    · refine z_iconst (q := 651) dL_law_650 rfl ?_
      refine g_zret dL_law_651 rfl rfl (Nat.le_of_ble_eq_true rfl) (Nat.le_of_ble_eq_true rfl) ?_
      rfl
    · exfalso
      omega
  | succ m ih =>
    intro i L tx T S B n σ i0 i1 hQ hM wT wS wB hn hL ht
    obtain ⟨j, d, hQ⟩ := hQ
    obtain ⟨I, A, hM, rfl, rfl, rfl, rfl, rfl, rfl⟩ := hM
    refine g_iload_n (q := 19) dL_law_18 rfl rfl ?_
    refine g_aloadF_n (q := 20) dL_law_19 rfl rfl ?_
    refine z_slen (q := 21) dL_law_20 rfl ?_
    refine z_iconst (q := 22) dL_law_21 rfl ?_
    refine z_isub (q := 23) dL_law_22 rfl ?_
    refine z_icmp_gt (t := 650) (q := 26) dL_law_23 rfl (by omega) rfl (fun pc1 => ?_) (fun pc1 => ?_)
    · refine z_iconst (q := 651) dL_law_650 rfl ?_
      refine g_zret dL_law_651 rfl rfl (Nat.le_of_ble_eq_true rfl) (Nat.le_of_ble_eq_true rfl) ?_
      rfl
    · refine g_aloadF_n (q := 27) dL_law_26 rfl rfl ?_
      refine g_iload_n (q := 28) dL_law_27 rfl rfl ?_
      refine z_sld (q := 29) dL_law_28 (by omega) rfl ?_
      refine g_bipush (v := iZ 31) (q := 31) dL_law_29 (by decide) rfl ?_
      refine z_iandX (q := 32) dL_law_31 rfl (fun z hz => ?_)
      refine z_table (ts := [120, 143, 156, 169, 182, 235, 288, 331, 364, 387, 400, 433, 466, 509, 552, 575, 598, 621]) (dt := 644) dL_law_32 (by omega) rfl rfl rfl ⟨fun pc2 => ?_, fun pc2 => ?_, fun pc2 => ?_, fun pc2 => ?_, fun pc2 => ?_, fun pc2 => ?_, fun pc2 => ?_, fun pc2 => ?_, fun pc2 => ?_, fun pc2 => ?_, fun pc2 => ?_, fun pc2 => ?_, fun pc2 => ?_, fun pc2 => ?_, fun pc2 => ?_, fun pc2 => ?_, fun pc2 => ?_, fun pc2 => ?_, trivial⟩ (fun pc2 => ?_)
      · refine g_aload_n (q := 121) dL_law_120 rfl rfl ?_
        refine g_aloadF_n (q := 122) dL_law_121 rfl rfl ?_
        refine g_iload_n (q := 123) dL_law_122 rfl rfl ?_
        refine z_iconst (q := 124) dL_law_123 rfl ?_
        refine z_iadd (q := 125) dL_law_124 rfl ?_
        refine z_sld (q := 126) dL_law_125 (by omega) rfl ?_
        refine g_callV (As := [.int (iZ (zx w (i + 1)))]) (rest := []) (q := 129) moX8_write lkL_law_13 dL_law_126 rfl hQ.2.1 (r_C_write σ j d (I 0) (A 0) (A 1) (A 3) (A 4) (I 2) hQ wT wS hL (zx w (i + 1)) (zx_b w _)) rfl rfl (Nat.le_of_ble_eq_true rfl) (Nat.le_of_ble_eq_true rfl) (Nat.le_of_ble_eq_true rfl) rfl ?_
        rintro r1 σ1 ⟨rfl, ⟨j1, d1, hQ1⟩, f1⟩
        have hM1 := hM.pC f1
        show Go w mL_law (89, 2365) 129 [some (.float 0), some (.ref 0), some (.ref 77), some (.int (iZ i))] [.int (iZ ((tWrite (I 0) (A 0) (zx w (i + 1))).1))] σ1 (fun r _ => r = some (.int (iZ 1)))
        refine g_aload_n (q := 130) dL_law_129 rfl rfl ?_
        refine g_aloadF_n (q := 131) dL_law_130 rfl rfl ?_
        refine g_iload_n (q := 132) dL_law_131 rfl rfl ?_
        refine z_iconst (q := 133) dL_law_132 rfl ?_
        refine z_iadd (q := 134) dL_law_133 rfl ?_
        refine z_sld (q := 135) dL_law_134 (by omega) rfl ?_
        refine g_callV (As := [.int (iZ (zx w (i + 1)))]) (rest := [.int (iZ ((tWrite (I 0) (A 0) (zx w (i + 1))).1))]) (q := 138) moX9_write lkL_law_17 dL_law_135 rfl hM1.1 (r_M_write σ1 77 I A hM1 (zx w (i + 1)) (zx_b w _) hL) rfl rfl (Nat.le_of_ble_eq_true rfl) (Nat.le_of_ble_eq_true rfl) (Nat.le_of_ble_eq_true rfl) rfl ?_
        rintro r2 σ2 ⟨rfl, hN, f2⟩
        have hQ2 := hQ1.mR f2
        show Go w mL_law (89, 2365) 138 [some (.float 0), some (.ref 0), some (.ref 77), some (.int (iZ i))] [.int (iZ ((tWrite (I 0) (A 0) (zx w (i + 1))).1)), .int (iZ ((tWrite (I 0) (A 0) (zx w (i + 1))).1))] σ2 (fun r _ => r = some (.int (iZ 1)))
        refine g_icmp_eq (t := 644) (q := 141) dL_law_138 rfl rfl (fun _ => ?_) (fun hne => absurd rfl hne)
        show Go w mL_law (89, 2365) 644 [some (.float 0), some (.ref 0), some (.ref 77), some (.int (iZ i))] [] σ2 (fun r _ => r = some (.int (iZ 1)))
        refine z_iincc (c := (i + 5)) (ml' := [some (.float 0), some (.ref 0), some (.ref 77), some (.int (iZ (i + 5)))]) (q := 647) dL_law_644 rfl (by omega) rfl rfl rfl ?_
        refine g_goto (q := 18) dL_law_647 rfl ?_
        exact ih (i + 5) ((tWrite (I 0) (A 0) (zx w (i + 1))).2.1) ((tWrite (I 0) (A 0) (zx w (i + 1))).2.2) (A 1) (A 3) (A 4) (I 2) σ2 (by omega) (by omega) ⟨_, _, hQ2⟩ hN wT wS wB hn (ok_write hL ht).1 (ok_write hL ht).2
      · refine g_aload_n (q := 144) dL_law_143 rfl rfl ?_
        refine g_callV (As := []) (rest := []) (q := 147) moX8_wipe lkL_law_18 dL_law_144 rfl hQ.2.1 (r_C_wipe σ j d (I 0) (A 0) (A 1) (A 3) (A 4) (I 2) hQ wT wS  ) rfl rfl (Nat.le_of_ble_eq_true rfl) (Nat.le_of_ble_eq_true rfl) (Nat.le_of_ble_eq_true rfl) rfl ?_
        rintro r1 σ1 ⟨rfl, ⟨j1, d1, hQ1⟩, f1⟩
        have hM1 := hM.pC f1
        show Go w mL_law (89, 2365) 147 [some (.float 0), some (.ref 0), some (.ref 77), some (.int (iZ i))] [.int (iZ (I 0))] σ1 (fun r _ => r = some (.int (iZ 1)))
        refine g_aload_n (q := 148) dL_law_147 rfl rfl ?_
        refine g_callV (As := []) (rest := [.int (iZ (I 0))]) (q := 151) moX9_wipe lkL_law_22 dL_law_148 rfl hM1.1 (r_M_wipe σ1 77 I A hM1 ) rfl rfl (Nat.le_of_ble_eq_true rfl) (Nat.le_of_ble_eq_true rfl) (Nat.le_of_ble_eq_true rfl) rfl ?_
        rintro r2 σ2 ⟨rfl, hN, f2⟩
        have hQ2 := hQ1.mR f2
        show Go w mL_law (89, 2365) 151 [some (.float 0), some (.ref 0), some (.ref 77), some (.int (iZ i))] [.int (iZ (I 0)), .int (iZ (I 0))] σ2 (fun r _ => r = some (.int (iZ 1)))
        refine g_icmp_eq (t := 644) (q := 154) dL_law_151 rfl rfl (fun _ => ?_) (fun hne => absurd rfl hne)
        show Go w mL_law (89, 2365) 644 [some (.float 0), some (.ref 0), some (.ref 77), some (.int (iZ i))] [] σ2 (fun r _ => r = some (.int (iZ 1)))
        refine z_iincc (c := (i + 5)) (ml' := [some (.float 0), some (.ref 0), some (.ref 77), some (.int (iZ (i + 5)))]) (q := 647) dL_law_644 rfl (by omega) rfl rfl rfl ?_
        refine g_goto (q := 18) dL_law_647 rfl ?_
        exact ih (i + 5) 0 (A 0) (A 1) (A 3) (A 4) (I 2) σ2 (by omega) (by omega) ⟨_, _, hQ2⟩ hN wT wS wB hn (by omega) (fun k k0 k1 => by omega)
      · refine g_aload_n (q := 157) dL_law_156 rfl rfl ?_
        refine g_callV (As := []) (rest := []) (q := 160) moX8_fault lkL_law_23 dL_law_157 rfl hQ.2.1 (r_C_fault σ j d (I 0) (A 0) (A 1) (A 3) (A 4) (I 2) hQ wT wS hL ht (A 2)) rfl rfl (Nat.le_of_ble_eq_true rfl) (Nat.le_of_ble_eq_true rfl) (Nat.le_of_ble_eq_true rfl) rfl ?_
        rintro r1 σ1 ⟨rfl, ⟨j1, d1, hQ1⟩, f1⟩
        have hM1 := hM.pC f1
        show Go w mL_law (89, 2365) 160 [some (.float 0), some (.ref 0), some (.ref 77), some (.int (iZ i))] [.int (iZ ((mFlt (I 0) (A 0) (A 2)).1))] σ1 (fun r _ => r = some (.int (iZ 1)))
        refine g_aload_n (q := 161) dL_law_160 rfl rfl ?_
        refine g_callV (As := []) (rest := [.int (iZ ((mFlt (I 0) (A 0) (A 2)).1))]) (q := 164) moX9_fault lkL_law_26 dL_law_161 rfl hM1.1 (r_M_fault σ1 77 I A hM1 hL ht) rfl rfl (Nat.le_of_ble_eq_true rfl) (Nat.le_of_ble_eq_true rfl) (Nat.le_of_ble_eq_true rfl) rfl ?_
        rintro r2 σ2 ⟨rfl, hN, f2⟩
        have hQ2 := hQ1.mR f2
        have hN : MC 77 (I 0) (A 0) (A 1) (A 3) (A 4) (I 2) σ2 := by obtain ⟨p', hN⟩ := hN; exact hN.mc
        show Go w mL_law (89, 2365) 164 [some (.float 0), some (.ref 0), some (.ref 77), some (.int (iZ i))] [.int (iZ ((mFlt (I 0) (A 0) (A 2)).1)), .int (iZ ((mFlt (I 0) (A 0) (A 2)).1))] σ2 (fun r _ => r = some (.int (iZ 1)))
        refine g_icmp_eq (t := 644) (q := 167) dL_law_164 rfl rfl (fun _ => ?_) (fun hne => absurd rfl hne)
        show Go w mL_law (89, 2365) 644 [some (.float 0), some (.ref 0), some (.ref 77), some (.int (iZ i))] [] σ2 (fun r _ => r = some (.int (iZ 1)))
        refine z_iincc (c := (i + 5)) (ml' := [some (.float 0), some (.ref 0), some (.ref 77), some (.int (iZ (i + 5)))]) (q := 647) dL_law_644 rfl (by omega) rfl rfl rfl ?_
        refine g_goto (q := 18) dL_law_647 rfl ?_
        exact ih (i + 5) (I 0) (A 0) (A 1) (A 3) (A 4) (I 2) σ2 (by omega) (by omega) ⟨_, _, hQ2⟩ hN wT wS wB hn hL ht
      · refine g_aload_n (q := 170) dL_law_169 rfl rfl ?_
        refine g_callV (As := []) (rest := []) (q := 173) moX8_lay lkL_law_27 dL_law_170 rfl hQ.2.1 (r_C_lay σ j d (I 0) (A 0) (A 1) (A 3) (A 4) (I 2) hQ  hL ht (A 2)) rfl rfl (Nat.le_of_ble_eq_true rfl) (Nat.le_of_ble_eq_true rfl) (Nat.le_of_ble_eq_true rfl) rfl ?_
        rintro r1 σ1 ⟨rfl, ⟨j1, d1, hQ1⟩, f1⟩
        have hM1 := hM.pC f1
        show Go w mL_law (89, 2365) 173 [some (.float 0), some (.ref 0), some (.ref 77), some (.int (iZ i))] [.int (iZ ((spLay (I 0) (A 0) (A 1) (A 3) (A 4) (I 2) (A 2)).1))] σ1 (fun r _ => r = some (.int (iZ 1)))
        refine g_aload_n (q := 174) dL_law_173 rfl rfl ?_
        refine g_callV (As := []) (rest := [.int (iZ ((spLay (I 0) (A 0) (A 1) (A 3) (A 4) (I 2) (A 2)).1))]) (q := 177) moX9_lay lkL_law_30 dL_law_174 rfl hM1.1 (r_M_lay σ1 77 I A hM1 hL ht) rfl rfl (Nat.le_of_ble_eq_true rfl) (Nat.le_of_ble_eq_true rfl) (Nat.le_of_ble_eq_true rfl) rfl ?_
        rintro r2 σ2 ⟨rfl, hN, f2⟩
        have hQ2 := hQ1.mR f2
        show Go w mL_law (89, 2365) 177 [some (.float 0), some (.ref 0), some (.ref 77), some (.int (iZ i))] [.int (iZ ((spLay (I 0) (A 0) (A 1) (A 3) (A 4) (I 2) (A 2)).1)), .int (iZ ((spLay (I 0) (A 0) (A 1) (A 3) (A 4) (I 2) (A 2)).1))] σ2 (fun r _ => r = some (.int (iZ 1)))
        refine g_icmp_eq (t := 644) (q := 180) dL_law_177 rfl rfl (fun _ => ?_) (fun hne => absurd rfl hne)
        show Go w mL_law (89, 2365) 644 [some (.float 0), some (.ref 0), some (.ref 77), some (.int (iZ i))] [] σ2 (fun r _ => r = some (.int (iZ 1)))
        refine z_iincc (c := (i + 5)) (ml' := [some (.float 0), some (.ref 0), some (.ref 77), some (.int (iZ (i + 5)))]) (q := 647) dL_law_644 rfl (by omega) rfl rfl rfl ?_
        refine g_goto (q := 18) dL_law_647 rfl ?_
        exact ih (i + 5) (I 0) (A 0) ((spLay (I 0) (A 0) (A 1) (A 3) (A 4) (I 2) (A 2)).2.1) ((spLay (I 0) (A 0) (A 1) (A 3) (A 4) (I 2) (A 2)).2.2.2.1) ((spLay (I 0) (A 0) (A 1) (A 3) (A 4) (I 2) (A 2)).2.2.2.2.1) ((spLay (I 0) (A 0) (A 1) (A 3) (A 4) (I 2) (A 2)).2.2.2.2.2) σ2 (by omega) (by omega) ⟨_, _, hQ2⟩ hN (ok_lay (R := A 2) ht wT wS wB hn).1 (ok_lay (R := A 2) ht wT wS wB hn).2.1 (ok_lay (R := A 2) ht wT wS wB hn).2.2.1 (ok_lay (R := A 2) ht wT wS wB hn).2.2.2 hL ht
      · refine g_aload_n (q := 183) dL_law_182 rfl rfl ?_
        refine g_aloadF_n (q := 184) dL_law_183 rfl rfl ?_
        refine g_iload_n (q := 185) dL_law_184 rfl rfl ?_
        refine z_iconst (q := 186) dL_law_185 rfl ?_
        refine z_iadd (q := 187) dL_law_186 rfl ?_
        refine z_sld (q := 188) dL_law_187 (by omega) rfl ?_
        refine g_aloadF_n (q := 189) dL_law_188 rfl rfl ?_
        refine g_iload_n (q := 190) dL_law_189 rfl rfl ?_
        refine z_iconst (q := 191) dL_law_190 rfl ?_
        refine z_iadd (q := 192) dL_law_191 rfl ?_
        refine z_sld (q := 193) dL_law_192 (by omega) rfl ?_
        refine g_aloadF_n (q := 194) dL_law_193 rfl rfl ?_
        refine g_iload_n (q := 195) dL_law_194 rfl rfl ?_
        refine z_iconst (q := 196) dL_law_195 rfl ?_
        refine z_iadd (q := 197) dL_law_196 rfl ?_
        refine z_sld (q := 198) dL_law_197 (by omega) rfl ?_
        refine g_aloadF_n (q := 199) dL_law_198 rfl rfl ?_
        refine g_iload_n (q := 200) dL_law_199 rfl rfl ?_
        refine z_iconst (q := 201) dL_law_200 rfl ?_
        refine z_iadd (q := 202) dL_law_201 rfl ?_
        refine z_sld (q := 203) dL_law_202 (by omega) rfl ?_
        refine g_callV (As := [.int (iZ (zx w (i + 1))), .int (iZ (zx w (i + 2))), .int (iZ (zx w (i + 3))), .int (iZ (zx w (i + 4)))]) (rest := []) (q := 206) moX8_hit lkL_law_31 dL_law_203 rfl hQ.2.1 (r_C_hit σ j d (I 0) (A 0) (A 1) (A 3) (A 4) (I 2) hQ wT wS (zx w (i + 1)) (zx w (i + 2)) (zx w (i + 3)) (zx w (i + 4)) (zx_b w _) (zx_b w _) (zx_b w _) (zx_b w _)) rfl rfl (Nat.le_of_ble_eq_true rfl) (Nat.le_of_ble_eq_true rfl) (Nat.le_of_ble_eq_true rfl) rfl ?_
        rintro r1 σ1 ⟨rfl, ⟨j1, d1, hQ1⟩, f1⟩
        have hM1 := hM.pC f1
        show Go w mL_law (89, 2365) 206 [some (.float 0), some (.ref 0), some (.ref 77), some (.int (iZ i))] [.int (iZ ((spHit (A 1) (A 3) (A 4) (I 2) (zx w (i + 1)) (zx w (i + 2)) (zx w (i + 3)) (zx w (i + 4))).1))] σ1 (fun r _ => r = some (.int (iZ 1)))
        refine g_aload_n (q := 207) dL_law_206 rfl rfl ?_
        refine g_aloadF_n (q := 208) dL_law_207 rfl rfl ?_
        refine g_iload_n (q := 209) dL_law_208 rfl rfl ?_
        refine z_iconst (q := 210) dL_law_209 rfl ?_
        refine z_iadd (q := 211) dL_law_210 rfl ?_
        refine z_sld (q := 212) dL_law_211 (by omega) rfl ?_
        refine g_aloadF_n (q := 213) dL_law_212 rfl rfl ?_
        refine g_iload_n (q := 214) dL_law_213 rfl rfl ?_
        refine z_iconst (q := 215) dL_law_214 rfl ?_
        refine z_iadd (q := 216) dL_law_215 rfl ?_
        refine z_sld (q := 217) dL_law_216 (by omega) rfl ?_
        refine g_aloadF_n (q := 218) dL_law_217 rfl rfl ?_
        refine g_iload_n (q := 219) dL_law_218 rfl rfl ?_
        refine z_iconst (q := 220) dL_law_219 rfl ?_
        refine z_iadd (q := 221) dL_law_220 rfl ?_
        refine z_sld (q := 222) dL_law_221 (by omega) rfl ?_
        refine g_aloadF_n (q := 223) dL_law_222 rfl rfl ?_
        refine g_iload_n (q := 224) dL_law_223 rfl rfl ?_
        refine z_iconst (q := 225) dL_law_224 rfl ?_
        refine z_iadd (q := 226) dL_law_225 rfl ?_
        refine z_sld (q := 227) dL_law_226 (by omega) rfl ?_
        refine g_callV (As := [.int (iZ (zx w (i + 1))), .int (iZ (zx w (i + 2))), .int (iZ (zx w (i + 3))), .int (iZ (zx w (i + 4)))]) (rest := [.int (iZ ((spHit (A 1) (A 3) (A 4) (I 2) (zx w (i + 1)) (zx w (i + 2)) (zx w (i + 3)) (zx w (i + 4))).1))]) (q := 230) moX9_hit lkL_law_35 dL_law_227 rfl hM1.1 (r_M_hit σ1 77 I A hM1 (zx w (i + 1)) (zx w (i + 2)) (zx w (i + 3)) (zx w (i + 4)) (zx_b w _) (zx_b w _) (zx_b w _) (zx_b w _) wT wS hn) rfl rfl (Nat.le_of_ble_eq_true rfl) (Nat.le_of_ble_eq_true rfl) (Nat.le_of_ble_eq_true rfl) rfl ?_
        rintro r2 σ2 ⟨rfl, hN, f2⟩
        have hQ2 := hQ1.mR f2
        show Go w mL_law (89, 2365) 230 [some (.float 0), some (.ref 0), some (.ref 77), some (.int (iZ i))] [.int (iZ ((spHit (A 1) (A 3) (A 4) (I 2) (zx w (i + 1)) (zx w (i + 2)) (zx w (i + 3)) (zx w (i + 4))).1)), .int (iZ ((spHit (A 1) (A 3) (A 4) (I 2) (zx w (i + 1)) (zx w (i + 2)) (zx w (i + 3)) (zx w (i + 4))).1))] σ2 (fun r _ => r = some (.int (iZ 1)))
        refine g_icmp_eq (t := 644) (q := 233) dL_law_230 rfl rfl (fun _ => ?_) (fun hne => absurd rfl hne)
        show Go w mL_law (89, 2365) 644 [some (.float 0), some (.ref 0), some (.ref 77), some (.int (iZ i))] [] σ2 (fun r _ => r = some (.int (iZ 1)))
        refine z_iincc (c := (i + 5)) (ml' := [some (.float 0), some (.ref 0), some (.ref 77), some (.int (iZ (i + 5)))]) (q := 647) dL_law_644 rfl (by omega) rfl rfl rfl ?_
        refine g_goto (q := 18) dL_law_647 rfl ?_
        exact ih (i + 5) (I 0) (A 0) (A 1) ((spHit (A 1) (A 3) (A 4) (I 2) (zx w (i + 1)) (zx w (i + 2)) (zx w (i + 3)) (zx w (i + 4))).2.1) ((spHit (A 1) (A 3) (A 4) (I 2) (zx w (i + 1)) (zx w (i + 2)) (zx w (i + 3)) (zx w (i + 4))).2.2.1) ((spHit (A 1) (A 3) (A 4) (I 2) (zx w (i + 1)) (zx w (i + 2)) (zx w (i + 3)) (zx w (i + 4))).2.2.2) σ2 (by omega) (by omega) ⟨_, _, hQ2⟩ hN wT (ok_hit wT wS wB hn (zx w (i + 1)) (zx w (i + 2)) (zx w (i + 3)) (zx w (i + 4))).1 (ok_hit wT wS wB hn (zx w (i + 1)) (zx w (i + 2)) (zx w (i + 3)) (zx w (i + 4))).2.1 (ok_hit wT wS wB hn (zx w (i + 1)) (zx w (i + 2)) (zx w (i + 3)) (zx w (i + 4))).2.2 hL ht
      · refine g_aload_n (q := 236) dL_law_235 rfl rfl ?_
        refine g_aloadF_n (q := 237) dL_law_236 rfl rfl ?_
        refine g_iload_n (q := 238) dL_law_237 rfl rfl ?_
        refine z_iconst (q := 239) dL_law_238 rfl ?_
        refine z_iadd (q := 240) dL_law_239 rfl ?_
        refine z_sld (q := 241) dL_law_240 (by omega) rfl ?_
        refine g_aloadF_n (q := 242) dL_law_241 rfl rfl ?_
        refine g_iload_n (q := 243) dL_law_242 rfl rfl ?_
        refine z_iconst (q := 244) dL_law_243 rfl ?_
        refine z_iadd (q := 245) dL_law_244 rfl ?_
        refine z_sld (q := 246) dL_law_245 (by omega) rfl ?_
        refine g_aloadF_n (q := 247) dL_law_246 rfl rfl ?_
        refine g_iload_n (q := 248) dL_law_247 rfl rfl ?_
        refine z_iconst (q := 249) dL_law_248 rfl ?_
        refine z_iadd (q := 250) dL_law_249 rfl ?_
        refine z_sld (q := 251) dL_law_250 (by omega) rfl ?_
        refine g_aloadF_n (q := 252) dL_law_251 rfl rfl ?_
        refine g_iload_n (q := 253) dL_law_252 rfl rfl ?_
        refine z_iconst (q := 254) dL_law_253 rfl ?_
        refine z_iadd (q := 255) dL_law_254 rfl ?_
        refine z_sld (q := 256) dL_law_255 (by omega) rfl ?_
        refine g_callV (As := [.int (iZ (zx w (i + 1))), .int (iZ (zx w (i + 2))), .int (iZ (zx w (i + 3))), .int (iZ (zx w (i + 4)))]) (rest := []) (q := 259) moX8_why lkL_law_36 dL_law_256 rfl hQ.2.1 (r_C_why σ j d (I 0) (A 0) (A 1) (A 3) (A 4) (I 2) hQ wT wS (zx w (i + 1)) (zx w (i + 2)) (zx w (i + 3)) (zx w (i + 4)) (zx_b w _) (zx_b w _) (zx_b w _) (zx_b w _)) rfl rfl (Nat.le_of_ble_eq_true rfl) (Nat.le_of_ble_eq_true rfl) (Nat.le_of_ble_eq_true rfl) rfl ?_
        rintro r1 σ1 ⟨rfl, ⟨j1, d1, hQ1⟩, f1⟩
        have hM1 := hM.pC f1
        show Go w mL_law (89, 2365) 259 [some (.float 0), some (.ref 0), some (.ref 77), some (.int (iZ i))] [.int (iZ (mWhyQ (A 1) (A 3) (zx w (i + 1)) (zx w (i + 2)) (zx w (i + 3)) (zx w (i + 4))))] σ1 (fun r _ => r = some (.int (iZ 1)))
        refine g_aload_n (q := 260) dL_law_259 rfl rfl ?_
        refine g_aloadF_n (q := 261) dL_law_260 rfl rfl ?_
        refine g_iload_n (q := 262) dL_law_261 rfl rfl ?_
        refine z_iconst (q := 263) dL_law_262 rfl ?_
        refine z_iadd (q := 264) dL_law_263 rfl ?_
        refine z_sld (q := 265) dL_law_264 (by omega) rfl ?_
        refine g_aloadF_n (q := 266) dL_law_265 rfl rfl ?_
        refine g_iload_n (q := 267) dL_law_266 rfl rfl ?_
        refine z_iconst (q := 268) dL_law_267 rfl ?_
        refine z_iadd (q := 269) dL_law_268 rfl ?_
        refine z_sld (q := 270) dL_law_269 (by omega) rfl ?_
        refine g_aloadF_n (q := 271) dL_law_270 rfl rfl ?_
        refine g_iload_n (q := 272) dL_law_271 rfl rfl ?_
        refine z_iconst (q := 273) dL_law_272 rfl ?_
        refine z_iadd (q := 274) dL_law_273 rfl ?_
        refine z_sld (q := 275) dL_law_274 (by omega) rfl ?_
        refine g_aloadF_n (q := 276) dL_law_275 rfl rfl ?_
        refine g_iload_n (q := 277) dL_law_276 rfl rfl ?_
        refine z_iconst (q := 278) dL_law_277 rfl ?_
        refine z_iadd (q := 279) dL_law_278 rfl ?_
        refine z_sld (q := 280) dL_law_279 (by omega) rfl ?_
        refine g_callV (As := [.int (iZ (zx w (i + 1))), .int (iZ (zx w (i + 2))), .int (iZ (zx w (i + 3))), .int (iZ (zx w (i + 4)))]) (rest := [.int (iZ (mWhyQ (A 1) (A 3) (zx w (i + 1)) (zx w (i + 2)) (zx w (i + 3)) (zx w (i + 4))))]) (q := 283) moX9_why lkL_law_39 dL_law_280 rfl hM1.1 (r_M_why σ1 77 I A hM1 (zx w (i + 1)) (zx w (i + 2)) (zx w (i + 3)) (zx w (i + 4)) (zx_b w _) (zx_b w _) (zx_b w _) (zx_b w _) wT wS) rfl rfl (Nat.le_of_ble_eq_true rfl) (Nat.le_of_ble_eq_true rfl) (Nat.le_of_ble_eq_true rfl) rfl ?_
        rintro r2 s2 hp
        rw [hp.1, hp.2]
        show Go w mL_law (89, 2365) 283 [some (.float 0), some (.ref 0), some (.ref 77), some (.int (iZ i))] [.int (iZ (mWhyQ (A 1) (A 3) (zx w (i + 1)) (zx w (i + 2)) (zx w (i + 3)) (zx w (i + 4)))), .int (iZ (mWhyQ (A 1) (A 3) (zx w (i + 1)) (zx w (i + 2)) (zx w (i + 3)) (zx w (i + 4))))] σ1 (fun r _ => r = some (.int (iZ 1)))
        refine g_icmp_eq (t := 644) (q := 286) dL_law_283 rfl rfl (fun _ => ?_) (fun hne => absurd rfl hne)
        show Go w mL_law (89, 2365) 644 [some (.float 0), some (.ref 0), some (.ref 77), some (.int (iZ i))] [] σ1 (fun r _ => r = some (.int (iZ 1)))
        refine z_iincc (c := (i + 5)) (ml' := [some (.float 0), some (.ref 0), some (.ref 77), some (.int (iZ (i + 5)))]) (q := 647) dL_law_644 rfl (by omega) rfl rfl rfl ?_
        refine g_goto (q := 18) dL_law_647 rfl ?_
        exact ih (i + 5) (I 0) (A 0) (A 1) (A 3) (A 4) (I 2) σ1 (by omega) (by omega) ⟨_, _, hQ1⟩ hM1.mc wT wS wB hn hL ht
      · refine g_aload_n (q := 289) dL_law_288 rfl rfl ?_
        refine g_aloadF_n (q := 290) dL_law_289 rfl rfl ?_
        refine g_iload_n (q := 291) dL_law_290 rfl rfl ?_
        refine z_iconst (q := 292) dL_law_291 rfl ?_
        refine z_iadd (q := 293) dL_law_292 rfl ?_
        refine z_sld (q := 294) dL_law_293 (by omega) rfl ?_
        refine g_aloadF_n (q := 295) dL_law_294 rfl rfl ?_
        refine g_iload_n (q := 296) dL_law_295 rfl rfl ?_
        refine z_iconst (q := 297) dL_law_296 rfl ?_
        refine z_iadd (q := 298) dL_law_297 rfl ?_
        refine z_sld (q := 299) dL_law_298 (by omega) rfl ?_
        refine g_aloadF_n (q := 300) dL_law_299 rfl rfl ?_
        refine g_iload_n (q := 301) dL_law_300 rfl rfl ?_
        refine z_iconst (q := 302) dL_law_301 rfl ?_
        refine z_iadd (q := 303) dL_law_302 rfl ?_
        refine z_sld (q := 304) dL_law_303 (by omega) rfl ?_
        refine g_callV (As := [.int (iZ (zx w (i + 1))), .int (iZ (zx w (i + 2))), .int (iZ (zx w (i + 3)))]) (rest := []) (q := 307) moX8_nibble lkL_law_40 dL_law_304 rfl hQ.2.1 (r_C_nibble σ j d (I 0) (A 0) (A 1) (A 3) (A 4) (I 2) hQ wT wS (zx w (i + 1)) (zx w (i + 2)) (zx w (i + 3)) (zx_b w _) (zx_b w _) (zx_b w _)) rfl rfl (Nat.le_of_ble_eq_true rfl) (Nat.le_of_ble_eq_true rfl) (Nat.le_of_ble_eq_true rfl) rfl ?_
        rintro r1 σ1 ⟨rfl, ⟨j1, d1, hQ1⟩, f1⟩
        have hM1 := hM.pC f1
        show Go w mL_law (89, 2365) 307 [some (.float 0), some (.ref 0), some (.ref 77), some (.int (iZ i))] [.int (iZ ((spNibble (A 1) (A 3) (A 4) (I 2) (zx w (i + 1)) (zx w (i + 2)) (zx w (i + 3))).1))] σ1 (fun r _ => r = some (.int (iZ 1)))
        refine g_aload_n (q := 308) dL_law_307 rfl rfl ?_
        refine g_aloadF_n (q := 309) dL_law_308 rfl rfl ?_
        refine g_iload_n (q := 310) dL_law_309 rfl rfl ?_
        refine z_iconst (q := 311) dL_law_310 rfl ?_
        refine z_iadd (q := 312) dL_law_311 rfl ?_
        refine z_sld (q := 313) dL_law_312 (by omega) rfl ?_
        refine g_aloadF_n (q := 314) dL_law_313 rfl rfl ?_
        refine g_iload_n (q := 315) dL_law_314 rfl rfl ?_
        refine z_iconst (q := 316) dL_law_315 rfl ?_
        refine z_iadd (q := 317) dL_law_316 rfl ?_
        refine z_sld (q := 318) dL_law_317 (by omega) rfl ?_
        refine g_aloadF_n (q := 319) dL_law_318 rfl rfl ?_
        refine g_iload_n (q := 320) dL_law_319 rfl rfl ?_
        refine z_iconst (q := 321) dL_law_320 rfl ?_
        refine z_iadd (q := 322) dL_law_321 rfl ?_
        refine z_sld (q := 323) dL_law_322 (by omega) rfl ?_
        refine g_callV (As := [.int (iZ (zx w (i + 1))), .int (iZ (zx w (i + 2))), .int (iZ (zx w (i + 3)))]) (rest := [.int (iZ ((spNibble (A 1) (A 3) (A 4) (I 2) (zx w (i + 1)) (zx w (i + 2)) (zx w (i + 3))).1))]) (q := 326) moX9_nibble lkL_law_44 dL_law_323 rfl hM1.1 (r_M_nibble σ1 77 I A hM1 (zx w (i + 1)) (zx w (i + 2)) (zx w (i + 3)) (zx_b w _) (zx_b w _) (zx_b w _) wT wS hn) rfl rfl (Nat.le_of_ble_eq_true rfl) (Nat.le_of_ble_eq_true rfl) (Nat.le_of_ble_eq_true rfl) rfl ?_
        rintro r2 σ2 ⟨rfl, hN, f2⟩
        have hQ2 := hQ1.mR f2
        show Go w mL_law (89, 2365) 326 [some (.float 0), some (.ref 0), some (.ref 77), some (.int (iZ i))] [.int (iZ ((spNibble (A 1) (A 3) (A 4) (I 2) (zx w (i + 1)) (zx w (i + 2)) (zx w (i + 3))).1)), .int (iZ ((spNibble (A 1) (A 3) (A 4) (I 2) (zx w (i + 1)) (zx w (i + 2)) (zx w (i + 3))).1))] σ2 (fun r _ => r = some (.int (iZ 1)))
        refine g_icmp_eq (t := 644) (q := 329) dL_law_326 rfl rfl (fun _ => ?_) (fun hne => absurd rfl hne)
        show Go w mL_law (89, 2365) 644 [some (.float 0), some (.ref 0), some (.ref 77), some (.int (iZ i))] [] σ2 (fun r _ => r = some (.int (iZ 1)))
        refine z_iincc (c := (i + 5)) (ml' := [some (.float 0), some (.ref 0), some (.ref 77), some (.int (iZ (i + 5)))]) (q := 647) dL_law_644 rfl (by omega) rfl rfl rfl ?_
        refine g_goto (q := 18) dL_law_647 rfl ?_
        exact ih (i + 5) (I 0) (A 0) (A 1) ((spNibble (A 1) (A 3) (A 4) (I 2) (zx w (i + 1)) (zx w (i + 2)) (zx w (i + 3))).2.1) ((spNibble (A 1) (A 3) (A 4) (I 2) (zx w (i + 1)) (zx w (i + 2)) (zx w (i + 3))).2.2.1) ((spNibble (A 1) (A 3) (A 4) (I 2) (zx w (i + 1)) (zx w (i + 2)) (zx w (i + 3))).2.2.2) σ2 (by omega) (by omega) ⟨_, _, hQ2⟩ hN wT (ok_nibble wT wS wB hn (zx w (i + 1)) (zx w (i + 2)) (zx w (i + 3))).1 (ok_nibble wT wS wB hn (zx w (i + 1)) (zx w (i + 2)) (zx w (i + 3))).2.1 (ok_nibble wT wS wB hn (zx w (i + 1)) (zx w (i + 2)) (zx w (i + 3))).2.2 hL ht
      · refine g_aload_n (q := 332) dL_law_331 rfl rfl ?_
        refine g_aloadF_n (q := 333) dL_law_332 rfl rfl ?_
        refine g_iload_n (q := 334) dL_law_333 rfl rfl ?_
        refine z_iconst (q := 335) dL_law_334 rfl ?_
        refine z_iadd (q := 336) dL_law_335 rfl ?_
        refine z_sld (q := 337) dL_law_336 (by omega) rfl ?_
        refine g_aloadF_n (q := 338) dL_law_337 rfl rfl ?_
        refine g_iload_n (q := 339) dL_law_338 rfl rfl ?_
        refine z_iconst (q := 340) dL_law_339 rfl ?_
        refine z_iadd (q := 341) dL_law_340 rfl ?_
        refine z_sld (q := 342) dL_law_341 (by omega) rfl ?_
        refine g_callV (As := [.int (iZ (zx w (i + 1))), .int (iZ (zx w (i + 2)))]) (rest := []) (q := 345) moX8_clamp lkL_law_45 dL_law_342 rfl hQ.2.1 (r_C_clamp σ j d (I 0) (A 0) (A 1) (A 3) (A 4) (I 2) hQ wT wS (zx w (i + 1)) (zx w (i + 2)) (zx_b w _) (zx_b w _)) rfl rfl (Nat.le_of_ble_eq_true rfl) (Nat.le_of_ble_eq_true rfl) (Nat.le_of_ble_eq_true rfl) rfl ?_
        rintro r1 σ1 ⟨rfl, ⟨j1, d1, hQ1⟩, f1⟩
        have hM1 := hM.pC f1
        show Go w mL_law (89, 2365) 345 [some (.float 0), some (.ref 0), some (.ref 77), some (.int (iZ i))] [.int (iZ ((spClamp (A 1) (A 3) (A 4) (I 2) (zx w (i + 1)) (zx w (i + 2))).1))] σ1 (fun r _ => r = some (.int (iZ 1)))
        refine g_aload_n (q := 346) dL_law_345 rfl rfl ?_
        refine g_aloadF_n (q := 347) dL_law_346 rfl rfl ?_
        refine g_iload_n (q := 348) dL_law_347 rfl rfl ?_
        refine z_iconst (q := 349) dL_law_348 rfl ?_
        refine z_iadd (q := 350) dL_law_349 rfl ?_
        refine z_sld (q := 351) dL_law_350 (by omega) rfl ?_
        refine g_aloadF_n (q := 352) dL_law_351 rfl rfl ?_
        refine g_iload_n (q := 353) dL_law_352 rfl rfl ?_
        refine z_iconst (q := 354) dL_law_353 rfl ?_
        refine z_iadd (q := 355) dL_law_354 rfl ?_
        refine z_sld (q := 356) dL_law_355 (by omega) rfl ?_
        refine g_callV (As := [.int (iZ (zx w (i + 1))), .int (iZ (zx w (i + 2)))]) (rest := [.int (iZ ((spClamp (A 1) (A 3) (A 4) (I 2) (zx w (i + 1)) (zx w (i + 2))).1))]) (q := 359) moX9_clamp lkL_law_49 dL_law_356 rfl hM1.1 (r_M_clamp σ1 77 I A hM1 (zx w (i + 1)) (zx w (i + 2)) (zx_b w _) (zx_b w _) wT wS hn) rfl rfl (Nat.le_of_ble_eq_true rfl) (Nat.le_of_ble_eq_true rfl) (Nat.le_of_ble_eq_true rfl) rfl ?_
        rintro r2 σ2 ⟨rfl, hN, f2⟩
        have hQ2 := hQ1.mR f2
        show Go w mL_law (89, 2365) 359 [some (.float 0), some (.ref 0), some (.ref 77), some (.int (iZ i))] [.int (iZ ((spClamp (A 1) (A 3) (A 4) (I 2) (zx w (i + 1)) (zx w (i + 2))).1)), .int (iZ ((spClamp (A 1) (A 3) (A 4) (I 2) (zx w (i + 1)) (zx w (i + 2))).1))] σ2 (fun r _ => r = some (.int (iZ 1)))
        refine g_icmp_eq (t := 644) (q := 362) dL_law_359 rfl rfl (fun _ => ?_) (fun hne => absurd rfl hne)
        show Go w mL_law (89, 2365) 644 [some (.float 0), some (.ref 0), some (.ref 77), some (.int (iZ i))] [] σ2 (fun r _ => r = some (.int (iZ 1)))
        refine z_iincc (c := (i + 5)) (ml' := [some (.float 0), some (.ref 0), some (.ref 77), some (.int (iZ (i + 5)))]) (q := 647) dL_law_644 rfl (by omega) rfl rfl rfl ?_
        refine g_goto (q := 18) dL_law_647 rfl ?_
        exact ih (i + 5) (I 0) (A 0) (A 1) ((spClamp (A 1) (A 3) (A 4) (I 2) (zx w (i + 1)) (zx w (i + 2))).2.1) ((spClamp (A 1) (A 3) (A 4) (I 2) (zx w (i + 1)) (zx w (i + 2))).2.2.1) ((spClamp (A 1) (A 3) (A 4) (I 2) (zx w (i + 1)) (zx w (i + 2))).2.2.2) σ2 (by omega) (by omega) ⟨_, _, hQ2⟩ hN wT (ok_clamp wT wS wB hn (zx w (i + 1)) (zx w (i + 2))).1 (ok_clamp wT wS wB hn (zx w (i + 1)) (zx w (i + 2))).2.1 (ok_clamp wT wS wB hn (zx w (i + 1)) (zx w (i + 2))).2.2 hL ht
      · refine g_aload_n (q := 365) dL_law_364 rfl rfl ?_
        refine g_aloadF_n (q := 366) dL_law_365 rfl rfl ?_
        refine g_iload_n (q := 367) dL_law_366 rfl rfl ?_
        refine z_iconst (q := 368) dL_law_367 rfl ?_
        refine z_iadd (q := 369) dL_law_368 rfl ?_
        refine z_sld (q := 370) dL_law_369 (by omega) rfl ?_
        refine g_callV (As := [.int (iZ (zx w (i + 1)))]) (rest := []) (q := 373) moX8_sharpen lkL_law_50 dL_law_370 rfl hQ.2.1 (r_C_sharpen σ j d (I 0) (A 0) (A 1) (A 3) (A 4) (I 2) hQ wT wS (zx w (i + 1)) (zx_b w _)) rfl rfl (Nat.le_of_ble_eq_true rfl) (Nat.le_of_ble_eq_true rfl) (Nat.le_of_ble_eq_true rfl) rfl ?_
        rintro r1 σ1 ⟨rfl, ⟨j1, d1, hQ1⟩, f1⟩
        have hM1 := hM.pC f1
        show Go w mL_law (89, 2365) 373 [some (.float 0), some (.ref 0), some (.ref 77), some (.int (iZ i))] [.int (iZ ((spSharpen (A 1) (A 3) (A 4) (I 2) (zx w (i + 1))).1))] σ1 (fun r _ => r = some (.int (iZ 1)))
        refine g_aload_n (q := 374) dL_law_373 rfl rfl ?_
        refine g_aloadF_n (q := 375) dL_law_374 rfl rfl ?_
        refine g_iload_n (q := 376) dL_law_375 rfl rfl ?_
        refine z_iconst (q := 377) dL_law_376 rfl ?_
        refine z_iadd (q := 378) dL_law_377 rfl ?_
        refine z_sld (q := 379) dL_law_378 (by omega) rfl ?_
        refine g_callV (As := [.int (iZ (zx w (i + 1)))]) (rest := [.int (iZ ((spSharpen (A 1) (A 3) (A 4) (I 2) (zx w (i + 1))).1))]) (q := 382) moX9_sharpen lkL_law_53 dL_law_379 rfl hM1.1 (r_M_sharpen σ1 77 I A hM1 (zx w (i + 1)) (zx_b w _) wT wS hn) rfl rfl (Nat.le_of_ble_eq_true rfl) (Nat.le_of_ble_eq_true rfl) (Nat.le_of_ble_eq_true rfl) rfl ?_
        rintro r2 σ2 ⟨rfl, hN, f2⟩
        have hQ2 := hQ1.mR f2
        show Go w mL_law (89, 2365) 382 [some (.float 0), some (.ref 0), some (.ref 77), some (.int (iZ i))] [.int (iZ ((spSharpen (A 1) (A 3) (A 4) (I 2) (zx w (i + 1))).1)), .int (iZ ((spSharpen (A 1) (A 3) (A 4) (I 2) (zx w (i + 1))).1))] σ2 (fun r _ => r = some (.int (iZ 1)))
        refine g_icmp_eq (t := 644) (q := 385) dL_law_382 rfl rfl (fun _ => ?_) (fun hne => absurd rfl hne)
        show Go w mL_law (89, 2365) 644 [some (.float 0), some (.ref 0), some (.ref 77), some (.int (iZ i))] [] σ2 (fun r _ => r = some (.int (iZ 1)))
        refine z_iincc (c := (i + 5)) (ml' := [some (.float 0), some (.ref 0), some (.ref 77), some (.int (iZ (i + 5)))]) (q := 647) dL_law_644 rfl (by omega) rfl rfl rfl ?_
        refine g_goto (q := 18) dL_law_647 rfl ?_
        exact ih (i + 5) (I 0) (A 0) (A 1) ((spSharpen (A 1) (A 3) (A 4) (I 2) (zx w (i + 1))).2.1) ((spSharpen (A 1) (A 3) (A 4) (I 2) (zx w (i + 1))).2.2.1) ((spSharpen (A 1) (A 3) (A 4) (I 2) (zx w (i + 1))).2.2.2) σ2 (by omega) (by omega) ⟨_, _, hQ2⟩ hN wT (ok_sharpen wT wS wB hn (zx w (i + 1))).1 (ok_sharpen wT wS wB hn (zx w (i + 1))).2.1 (ok_sharpen wT wS wB hn (zx w (i + 1))).2.2 hL ht
      · refine g_aload_n (q := 388) dL_law_387 rfl rfl ?_
        refine g_callV (As := []) (rest := []) (q := 391) moX8_undo lkL_law_54 dL_law_388 rfl hQ.2.1 (r_C_undo σ j d (I 0) (A 0) (A 1) (A 3) (A 4) (I 2) hQ wT wS  ) rfl rfl (Nat.le_of_ble_eq_true rfl) (Nat.le_of_ble_eq_true rfl) (Nat.le_of_ble_eq_true rfl) rfl ?_
        rintro r1 σ1 ⟨rfl, ⟨j1, d1, hQ1⟩, f1⟩
        have hM1 := hM.pC f1
        show Go w mL_law (89, 2365) 391 [some (.float 0), some (.ref 0), some (.ref 77), some (.int (iZ i))] [.int (iZ ((spUndo (A 3) (A 4) (I 2) ).1))] σ1 (fun r _ => r = some (.int (iZ 1)))
        refine g_aload_n (q := 392) dL_law_391 rfl rfl ?_
        refine g_callV (As := []) (rest := [.int (iZ ((spUndo (A 3) (A 4) (I 2) ).1))]) (q := 395) moX9_undo lkL_law_57 dL_law_392 rfl hM1.1 (r_M_undo2 σ1 77 I A hM1 hn) rfl rfl (Nat.le_of_ble_eq_true rfl) (Nat.le_of_ble_eq_true rfl) (Nat.le_of_ble_eq_true rfl) rfl ?_
        rintro r2 σ2 ⟨rfl, hN, f2⟩
        have hQ2 := hQ1.mR f2
        show Go w mL_law (89, 2365) 395 [some (.float 0), some (.ref 0), some (.ref 77), some (.int (iZ i))] [.int (iZ ((spUndo (A 3) (A 4) (I 2) ).1)), .int (iZ ((spUndo (A 3) (A 4) (I 2) ).1))] σ2 (fun r _ => r = some (.int (iZ 1)))
        refine g_icmp_eq (t := 644) (q := 398) dL_law_395 rfl rfl (fun _ => ?_) (fun hne => absurd rfl hne)
        show Go w mL_law (89, 2365) 644 [some (.float 0), some (.ref 0), some (.ref 77), some (.int (iZ i))] [] σ2 (fun r _ => r = some (.int (iZ 1)))
        refine z_iincc (c := (i + 5)) (ml' := [some (.float 0), some (.ref 0), some (.ref 77), some (.int (iZ (i + 5)))]) (q := 647) dL_law_644 rfl (by omega) rfl rfl rfl ?_
        refine g_goto (q := 18) dL_law_647 rfl ?_
        exact ih (i + 5) (I 0) (A 0) (A 1) ((spUndo (A 3) (A 4) (I 2) ).2.1) ((spUndo (A 3) (A 4) (I 2) ).2.2.1) ((spUndo (A 3) (A 4) (I 2) ).2.2.2) σ2 (by omega) (by omega) ⟨_, _, hQ2⟩ hN wT (ok_undo wT wS wB hn ).1 (ok_undo wT wS wB hn ).2.1 (ok_undo wT wS wB hn ).2.2 hL ht
      · refine g_aload_n (q := 401) dL_law_400 rfl rfl ?_
        refine g_aloadF_n (q := 402) dL_law_401 rfl rfl ?_
        refine g_iload_n (q := 403) dL_law_402 rfl rfl ?_
        refine z_iconst (q := 404) dL_law_403 rfl ?_
        refine z_iadd (q := 405) dL_law_404 rfl ?_
        refine z_sld (q := 406) dL_law_405 (by omega) rfl ?_
        refine g_aloadF_n (q := 407) dL_law_406 rfl rfl ?_
        refine g_iload_n (q := 408) dL_law_407 rfl rfl ?_
        refine z_iconst (q := 409) dL_law_408 rfl ?_
        refine z_iadd (q := 410) dL_law_409 rfl ?_
        refine z_sld (q := 411) dL_law_410 (by omega) rfl ?_
        refine g_callV (As := [.int (iZ (zx w (i + 1))), .int (iZ (zx w (i + 2)))]) (rest := []) (q := 414) moX8_station lkL_law_58 dL_law_411 rfl hQ.2.1 (r_C_station σ j d (I 0) (A 0) (A 1) (A 3) (A 4) (I 2) hQ wT wS (zx w (i + 1)) (zx w (i + 2)) (zx_b w _) (zx_b w _)) rfl rfl (Nat.le_of_ble_eq_true rfl) (Nat.le_of_ble_eq_true rfl) (Nat.le_of_ble_eq_true rfl) rfl ?_
        rintro r1 s1 hp
        rw [hp.1, hp.2]
        show Go w mL_law (89, 2365) 414 [some (.float 0), some (.ref 0), some (.ref 77), some (.int (iZ i))] [.int (iZ (spStation (A 1) (A 3) (zx w (i + 1)) (zx w (i + 2))))] σ (fun r _ => r = some (.int (iZ 1)))
        refine g_aload_n (q := 415) dL_law_414 rfl rfl ?_
        refine g_aloadF_n (q := 416) dL_law_415 rfl rfl ?_
        refine g_iload_n (q := 417) dL_law_416 rfl rfl ?_
        refine z_iconst (q := 418) dL_law_417 rfl ?_
        refine z_iadd (q := 419) dL_law_418 rfl ?_
        refine z_sld (q := 420) dL_law_419 (by omega) rfl ?_
        refine g_aloadF_n (q := 421) dL_law_420 rfl rfl ?_
        refine g_iload_n (q := 422) dL_law_421 rfl rfl ?_
        refine z_iconst (q := 423) dL_law_422 rfl ?_
        refine z_iadd (q := 424) dL_law_423 rfl ?_
        refine z_sld (q := 425) dL_law_424 (by omega) rfl ?_
        refine g_callV (As := [.int (iZ (zx w (i + 1))), .int (iZ (zx w (i + 2)))]) (rest := [.int (iZ (spStation (A 1) (A 3) (zx w (i + 1)) (zx w (i + 2))))]) (q := 428) moX9_station lkL_law_61 dL_law_425 rfl hM.1 (r_M_station σ 77 I A hM (zx w (i + 1)) (zx w (i + 2)) (zx_b w _) (zx_b w _) wT wS) rfl rfl (Nat.le_of_ble_eq_true rfl) (Nat.le_of_ble_eq_true rfl) (Nat.le_of_ble_eq_true rfl) rfl ?_
        rintro r2 s2 hp
        rw [hp.1, hp.2]
        show Go w mL_law (89, 2365) 428 [some (.float 0), some (.ref 0), some (.ref 77), some (.int (iZ i))] [.int (iZ (spStation (A 1) (A 3) (zx w (i + 1)) (zx w (i + 2)))), .int (iZ (spStation (A 1) (A 3) (zx w (i + 1)) (zx w (i + 2))))] σ (fun r _ => r = some (.int (iZ 1)))
        refine g_icmp_eq (t := 644) (q := 431) dL_law_428 rfl rfl (fun _ => ?_) (fun hne => absurd rfl hne)
        show Go w mL_law (89, 2365) 644 [some (.float 0), some (.ref 0), some (.ref 77), some (.int (iZ i))] [] σ (fun r _ => r = some (.int (iZ 1)))
        refine z_iincc (c := (i + 5)) (ml' := [some (.float 0), some (.ref 0), some (.ref 77), some (.int (iZ (i + 5)))]) (q := 647) dL_law_644 rfl (by omega) rfl rfl rfl ?_
        refine g_goto (q := 18) dL_law_647 rfl ?_
        exact ih (i + 5) (I 0) (A 0) (A 1) (A 3) (A 4) (I 2) σ (by omega) (by omega) ⟨_, _, hQ⟩ hM.mc wT wS wB hn hL ht
      · refine g_aload_n (q := 434) dL_law_433 rfl rfl ?_
        refine g_aloadF_n (q := 435) dL_law_434 rfl rfl ?_
        refine g_iload_n (q := 436) dL_law_435 rfl rfl ?_
        refine z_iconst (q := 437) dL_law_436 rfl ?_
        refine z_iadd (q := 438) dL_law_437 rfl ?_
        refine z_sld (q := 439) dL_law_438 (by omega) rfl ?_
        refine g_aloadF_n (q := 440) dL_law_439 rfl rfl ?_
        refine g_iload_n (q := 441) dL_law_440 rfl rfl ?_
        refine z_iconst (q := 442) dL_law_441 rfl ?_
        refine z_iadd (q := 443) dL_law_442 rfl ?_
        refine z_sld (q := 444) dL_law_443 (by omega) rfl ?_
        refine g_callV (As := [.int (iZ (zx w (i + 1))), .int (iZ (zx w (i + 2)))]) (rest := []) (q := 447) moX8_hole lkL_law_62 dL_law_444 rfl hQ.2.1 (r_C_hole σ j d (I 0) (A 0) (A 1) (A 3) (A 4) (I 2) hQ wT wS (zx w (i + 1)) (zx w (i + 2)) (zx_b w _) (zx_b w _)) rfl rfl (Nat.le_of_ble_eq_true rfl) (Nat.le_of_ble_eq_true rfl) (Nat.le_of_ble_eq_true rfl) rfl ?_
        rintro r1 s1 hp
        rw [hp.1, hp.2]
        show Go w mL_law (89, 2365) 447 [some (.float 0), some (.ref 0), some (.ref 77), some (.int (iZ i))] [.int (iZ (spHole (A 1) (A 3) (zx w (i + 1)) (zx w (i + 2))))] σ (fun r _ => r = some (.int (iZ 1)))
        refine g_aload_n (q := 448) dL_law_447 rfl rfl ?_
        refine g_aloadF_n (q := 449) dL_law_448 rfl rfl ?_
        refine g_iload_n (q := 450) dL_law_449 rfl rfl ?_
        refine z_iconst (q := 451) dL_law_450 rfl ?_
        refine z_iadd (q := 452) dL_law_451 rfl ?_
        refine z_sld (q := 453) dL_law_452 (by omega) rfl ?_
        refine g_aloadF_n (q := 454) dL_law_453 rfl rfl ?_
        refine g_iload_n (q := 455) dL_law_454 rfl rfl ?_
        refine z_iconst (q := 456) dL_law_455 rfl ?_
        refine z_iadd (q := 457) dL_law_456 rfl ?_
        refine z_sld (q := 458) dL_law_457 (by omega) rfl ?_
        refine g_callV (As := [.int (iZ (zx w (i + 1))), .int (iZ (zx w (i + 2)))]) (rest := [.int (iZ (spHole (A 1) (A 3) (zx w (i + 1)) (zx w (i + 2))))]) (q := 461) moX9_hole lkL_law_65 dL_law_458 rfl hM.1 (r_M_hole σ 77 I A hM (zx w (i + 1)) (zx w (i + 2)) (zx_b w _) (zx_b w _) wT wS) rfl rfl (Nat.le_of_ble_eq_true rfl) (Nat.le_of_ble_eq_true rfl) (Nat.le_of_ble_eq_true rfl) rfl ?_
        rintro r2 s2 hp
        rw [hp.1, hp.2]
        show Go w mL_law (89, 2365) 461 [some (.float 0), some (.ref 0), some (.ref 77), some (.int (iZ i))] [.int (iZ (spHole (A 1) (A 3) (zx w (i + 1)) (zx w (i + 2)))), .int (iZ (spHole (A 1) (A 3) (zx w (i + 1)) (zx w (i + 2))))] σ (fun r _ => r = some (.int (iZ 1)))
        refine g_icmp_eq (t := 644) (q := 464) dL_law_461 rfl rfl (fun _ => ?_) (fun hne => absurd rfl hne)
        show Go w mL_law (89, 2365) 644 [some (.float 0), some (.ref 0), some (.ref 77), some (.int (iZ i))] [] σ (fun r _ => r = some (.int (iZ 1)))
        refine z_iincc (c := (i + 5)) (ml' := [some (.float 0), some (.ref 0), some (.ref 77), some (.int (iZ (i + 5)))]) (q := 647) dL_law_644 rfl (by omega) rfl rfl rfl ?_
        refine g_goto (q := 18) dL_law_647 rfl ?_
        exact ih (i + 5) (I 0) (A 0) (A 1) (A 3) (A 4) (I 2) σ (by omega) (by omega) ⟨_, _, hQ⟩ hM.mc wT wS wB hn hL ht
      · refine g_aload_n (q := 467) dL_law_466 rfl rfl ?_
        refine g_aloadF_n (q := 468) dL_law_467 rfl rfl ?_
        refine g_iload_n (q := 469) dL_law_468 rfl rfl ?_
        refine z_iconst (q := 470) dL_law_469 rfl ?_
        refine z_iadd (q := 471) dL_law_470 rfl ?_
        refine z_sld (q := 472) dL_law_471 (by omega) rfl ?_
        refine g_aloadF_n (q := 473) dL_law_472 rfl rfl ?_
        refine g_iload_n (q := 474) dL_law_473 rfl rfl ?_
        refine z_iconst (q := 475) dL_law_474 rfl ?_
        refine z_iadd (q := 476) dL_law_475 rfl ?_
        refine z_sld (q := 477) dL_law_476 (by omega) rfl ?_
        refine g_aloadF_n (q := 478) dL_law_477 rfl rfl ?_
        refine g_iload_n (q := 479) dL_law_478 rfl rfl ?_
        refine z_iconst (q := 480) dL_law_479 rfl ?_
        refine z_iadd (q := 481) dL_law_480 rfl ?_
        refine z_sld (q := 482) dL_law_481 (by omega) rfl ?_
        refine g_callV (As := [.int (iZ (zx w (i + 1))), .int (iZ (zx w (i + 2))), .int (iZ (zx w (i + 3)))]) (rest := []) (q := 485) moX8_hits lkL_law_66 dL_law_482 rfl hQ.2.1 (r_C_hits σ j d (I 0) (A 0) (A 1) (A 3) (A 4) (I 2) hQ wT wS (zx w (i + 1)) (zx w (i + 2)) (zx w (i + 3)) (zx_b w _) (zx_b w _) (zx_b w _)) rfl rfl (Nat.le_of_ble_eq_true rfl) (Nat.le_of_ble_eq_true rfl) (Nat.le_of_ble_eq_true rfl) rfl ?_
        rintro r1 s1 hp
        rw [hp.1, hp.2]
        show Go w mL_law (89, 2365) 485 [some (.float 0), some (.ref 0), some (.ref 77), some (.int (iZ i))] [.int (iZ (spHits (A 1) (zx w (i + 1)) (zx w (i + 2)) (zx w (i + 3))))] σ (fun r _ => r = some (.int (iZ 1)))
        refine g_aload_n (q := 486) dL_law_485 rfl rfl ?_
        refine g_aloadF_n (q := 487) dL_law_486 rfl rfl ?_
        refine g_iload_n (q := 488) dL_law_487 rfl rfl ?_
        refine z_iconst (q := 489) dL_law_488 rfl ?_
        refine z_iadd (q := 490) dL_law_489 rfl ?_
        refine z_sld (q := 491) dL_law_490 (by omega) rfl ?_
        refine g_aloadF_n (q := 492) dL_law_491 rfl rfl ?_
        refine g_iload_n (q := 493) dL_law_492 rfl rfl ?_
        refine z_iconst (q := 494) dL_law_493 rfl ?_
        refine z_iadd (q := 495) dL_law_494 rfl ?_
        refine z_sld (q := 496) dL_law_495 (by omega) rfl ?_
        refine g_aloadF_n (q := 497) dL_law_496 rfl rfl ?_
        refine g_iload_n (q := 498) dL_law_497 rfl rfl ?_
        refine z_iconst (q := 499) dL_law_498 rfl ?_
        refine z_iadd (q := 500) dL_law_499 rfl ?_
        refine z_sld (q := 501) dL_law_500 (by omega) rfl ?_
        refine g_callV (As := [.int (iZ (zx w (i + 1))), .int (iZ (zx w (i + 2))), .int (iZ (zx w (i + 3)))]) (rest := [.int (iZ (spHits (A 1) (zx w (i + 1)) (zx w (i + 2)) (zx w (i + 3))))]) (q := 504) moX9_hits lkL_law_69 dL_law_501 rfl hM.1 (r_M_hits σ 77 I A hM (zx w (i + 1)) (zx w (i + 2)) (zx w (i + 3)) (zx_b w _) (zx_b w _) (zx_b w _) wT wS) rfl rfl (Nat.le_of_ble_eq_true rfl) (Nat.le_of_ble_eq_true rfl) (Nat.le_of_ble_eq_true rfl) rfl ?_
        rintro r2 s2 hp
        rw [hp.1, hp.2]
        show Go w mL_law (89, 2365) 504 [some (.float 0), some (.ref 0), some (.ref 77), some (.int (iZ i))] [.int (iZ (spHits (A 1) (zx w (i + 1)) (zx w (i + 2)) (zx w (i + 3)))), .int (iZ (spHits (A 1) (zx w (i + 1)) (zx w (i + 2)) (zx w (i + 3))))] σ (fun r _ => r = some (.int (iZ 1)))
        refine g_icmp_eq (t := 644) (q := 507) dL_law_504 rfl rfl (fun _ => ?_) (fun hne => absurd rfl hne)
        show Go w mL_law (89, 2365) 644 [some (.float 0), some (.ref 0), some (.ref 77), some (.int (iZ i))] [] σ (fun r _ => r = some (.int (iZ 1)))
        refine z_iincc (c := (i + 5)) (ml' := [some (.float 0), some (.ref 0), some (.ref 77), some (.int (iZ (i + 5)))]) (q := 647) dL_law_644 rfl (by omega) rfl rfl rfl ?_
        refine g_goto (q := 18) dL_law_647 rfl ?_
        exact ih (i + 5) (I 0) (A 0) (A 1) (A 3) (A 4) (I 2) σ (by omega) (by omega) ⟨_, _, hQ⟩ hM.mc wT wS wB hn hL ht
      · refine g_aload_n (q := 510) dL_law_509 rfl rfl ?_
        refine g_aloadF_n (q := 511) dL_law_510 rfl rfl ?_
        refine g_iload_n (q := 512) dL_law_511 rfl rfl ?_
        refine z_iconst (q := 513) dL_law_512 rfl ?_
        refine z_iadd (q := 514) dL_law_513 rfl ?_
        refine z_sld (q := 515) dL_law_514 (by omega) rfl ?_
        refine g_aloadF_n (q := 516) dL_law_515 rfl rfl ?_
        refine g_iload_n (q := 517) dL_law_516 rfl rfl ?_
        refine z_iconst (q := 518) dL_law_517 rfl ?_
        refine z_iadd (q := 519) dL_law_518 rfl ?_
        refine z_sld (q := 520) dL_law_519 (by omega) rfl ?_
        refine g_aloadF_n (q := 521) dL_law_520 rfl rfl ?_
        refine g_iload_n (q := 522) dL_law_521 rfl rfl ?_
        refine z_iconst (q := 523) dL_law_522 rfl ?_
        refine z_iadd (q := 524) dL_law_523 rfl ?_
        refine z_sld (q := 525) dL_law_524 (by omega) rfl ?_
        refine g_callV (As := [.int (iZ (zx w (i + 1))), .int (iZ (zx w (i + 2))), .int (iZ (zx w (i + 3)))]) (rest := []) (q := 528) moX8_cell lkL_law_70 dL_law_525 rfl hQ.2.1 (r_C_cell σ j d (I 0) (A 0) (A 1) (A 3) (A 4) (I 2) hQ wT wS (zx w (i + 1)) (zx w (i + 2)) (zx w (i + 3)) (zx_b w _) (zx_b w _) (zx_b w _)) rfl rfl (Nat.le_of_ble_eq_true rfl) (Nat.le_of_ble_eq_true rfl) (Nat.le_of_ble_eq_true rfl) rfl ?_
        rintro r1 s1 hp
        rw [hp.1, hp.2]
        show Go w mL_law (89, 2365) 528 [some (.float 0), some (.ref 0), some (.ref 77), some (.int (iZ i))] [.int (iZ (spCell (A 1) (A 3) (zx w (i + 1)) (zx w (i + 2)) (zx w (i + 3))))] σ (fun r _ => r = some (.int (iZ 1)))
        refine g_aload_n (q := 529) dL_law_528 rfl rfl ?_
        refine g_aloadF_n (q := 530) dL_law_529 rfl rfl ?_
        refine g_iload_n (q := 531) dL_law_530 rfl rfl ?_
        refine z_iconst (q := 532) dL_law_531 rfl ?_
        refine z_iadd (q := 533) dL_law_532 rfl ?_
        refine z_sld (q := 534) dL_law_533 (by omega) rfl ?_
        refine g_aloadF_n (q := 535) dL_law_534 rfl rfl ?_
        refine g_iload_n (q := 536) dL_law_535 rfl rfl ?_
        refine z_iconst (q := 537) dL_law_536 rfl ?_
        refine z_iadd (q := 538) dL_law_537 rfl ?_
        refine z_sld (q := 539) dL_law_538 (by omega) rfl ?_
        refine g_aloadF_n (q := 540) dL_law_539 rfl rfl ?_
        refine g_iload_n (q := 541) dL_law_540 rfl rfl ?_
        refine z_iconst (q := 542) dL_law_541 rfl ?_
        refine z_iadd (q := 543) dL_law_542 rfl ?_
        refine z_sld (q := 544) dL_law_543 (by omega) rfl ?_
        refine g_callV (As := [.int (iZ (zx w (i + 1))), .int (iZ (zx w (i + 2))), .int (iZ (zx w (i + 3)))]) (rest := [.int (iZ (spCell (A 1) (A 3) (zx w (i + 1)) (zx w (i + 2)) (zx w (i + 3))))]) (q := 547) moX9_cell lkL_law_73 dL_law_544 rfl hM.1 (r_M_cell σ 77 I A hM (zx w (i + 1)) (zx w (i + 2)) (zx w (i + 3)) (zx_b w _) (zx_b w _) (zx_b w _) wT wS) rfl rfl (Nat.le_of_ble_eq_true rfl) (Nat.le_of_ble_eq_true rfl) (Nat.le_of_ble_eq_true rfl) rfl ?_
        rintro r2 s2 hp
        rw [hp.1, hp.2]
        show Go w mL_law (89, 2365) 547 [some (.float 0), some (.ref 0), some (.ref 77), some (.int (iZ i))] [.int (iZ (spCell (A 1) (A 3) (zx w (i + 1)) (zx w (i + 2)) (zx w (i + 3)))), .int (iZ (spCell (A 1) (A 3) (zx w (i + 1)) (zx w (i + 2)) (zx w (i + 3))))] σ (fun r _ => r = some (.int (iZ 1)))
        refine g_icmp_eq (t := 644) (q := 550) dL_law_547 rfl rfl (fun _ => ?_) (fun hne => absurd rfl hne)
        show Go w mL_law (89, 2365) 644 [some (.float 0), some (.ref 0), some (.ref 77), some (.int (iZ i))] [] σ (fun r _ => r = some (.int (iZ 1)))
        refine z_iincc (c := (i + 5)) (ml' := [some (.float 0), some (.ref 0), some (.ref 77), some (.int (iZ (i + 5)))]) (q := 647) dL_law_644 rfl (by omega) rfl rfl rfl ?_
        refine g_goto (q := 18) dL_law_647 rfl ?_
        exact ih (i + 5) (I 0) (A 0) (A 1) (A 3) (A 4) (I 2) σ (by omega) (by omega) ⟨_, _, hQ⟩ hM.mc wT wS wB hn hL ht
      · refine g_aload_n (q := 553) dL_law_552 rfl rfl ?_
        refine g_aloadF_n (q := 554) dL_law_553 rfl rfl ?_
        refine g_iload_n (q := 555) dL_law_554 rfl rfl ?_
        refine z_iconst (q := 556) dL_law_555 rfl ?_
        refine z_iadd (q := 557) dL_law_556 rfl ?_
        refine z_sld (q := 558) dL_law_557 (by omega) rfl ?_
        refine g_callV (As := [.int (iZ (zx w (i + 1)))]) (rest := []) (q := 561) moX8_column lkL_law_74 dL_law_558 rfl hQ.2.1 (r_C_column σ j d (I 0) (A 0) (A 1) (A 3) (A 4) (I 2) hQ wT wS (zx w (i + 1)) (zx_b w _)) rfl rfl (Nat.le_of_ble_eq_true rfl) (Nat.le_of_ble_eq_true rfl) (Nat.le_of_ble_eq_true rfl) rfl ?_
        rintro r1 s1 hp
        rw [hp.1, hp.2]
        show Go w mL_law (89, 2365) 561 [some (.float 0), some (.ref 0), some (.ref 77), some (.int (iZ i))] [.int (iZ (spColumn (A 1) (A 3) (zx w (i + 1))))] σ (fun r _ => r = some (.int (iZ 1)))
        refine g_aload_n (q := 562) dL_law_561 rfl rfl ?_
        refine g_aloadF_n (q := 563) dL_law_562 rfl rfl ?_
        refine g_iload_n (q := 564) dL_law_563 rfl rfl ?_
        refine z_iconst (q := 565) dL_law_564 rfl ?_
        refine z_iadd (q := 566) dL_law_565 rfl ?_
        refine z_sld (q := 567) dL_law_566 (by omega) rfl ?_
        refine g_callV (As := [.int (iZ (zx w (i + 1)))]) (rest := [.int (iZ (spColumn (A 1) (A 3) (zx w (i + 1))))]) (q := 570) moX9_column lkL_law_77 dL_law_567 rfl hM.1 (r_M_column σ 77 I A hM (zx w (i + 1)) (zx_b w _) wT wS) rfl rfl (Nat.le_of_ble_eq_true rfl) (Nat.le_of_ble_eq_true rfl) (Nat.le_of_ble_eq_true rfl) rfl ?_
        rintro r2 s2 hp
        rw [hp.1, hp.2]
        show Go w mL_law (89, 2365) 570 [some (.float 0), some (.ref 0), some (.ref 77), some (.int (iZ i))] [.int (iZ (spColumn (A 1) (A 3) (zx w (i + 1)))), .int (iZ (spColumn (A 1) (A 3) (zx w (i + 1))))] σ (fun r _ => r = some (.int (iZ 1)))
        refine g_icmp_eq (t := 644) (q := 573) dL_law_570 rfl rfl (fun _ => ?_) (fun hne => absurd rfl hne)
        show Go w mL_law (89, 2365) 644 [some (.float 0), some (.ref 0), some (.ref 77), some (.int (iZ i))] [] σ (fun r _ => r = some (.int (iZ 1)))
        refine z_iincc (c := (i + 5)) (ml' := [some (.float 0), some (.ref 0), some (.ref 77), some (.int (iZ (i + 5)))]) (q := 647) dL_law_644 rfl (by omega) rfl rfl rfl ?_
        refine g_goto (q := 18) dL_law_647 rfl ?_
        exact ih (i + 5) (I 0) (A 0) (A 1) (A 3) (A 4) (I 2) σ (by omega) (by omega) ⟨_, _, hQ⟩ hM.mc wT wS wB hn hL ht
      · refine g_aload_n (q := 576) dL_law_575 rfl rfl ?_
        refine g_aloadF_n (q := 577) dL_law_576 rfl rfl ?_
        refine g_iload_n (q := 578) dL_law_577 rfl rfl ?_
        refine z_iconst (q := 579) dL_law_578 rfl ?_
        refine z_iadd (q := 580) dL_law_579 rfl ?_
        refine z_sld (q := 581) dL_law_580 (by omega) rfl ?_
        refine g_callV (As := [.int (iZ (zx w (i + 1)))]) (rest := []) (q := 584) moX8_plan lkL_law_78 dL_law_581 rfl hQ.2.1 (r_C_plan σ j d (I 0) (A 0) (A 1) (A 3) (A 4) (I 2) hQ wT wS (zx w (i + 1)) (zx_b w _)) rfl rfl (Nat.le_of_ble_eq_true rfl) (Nat.le_of_ble_eq_true rfl) (Nat.le_of_ble_eq_true rfl) rfl ?_
        rintro r1 σ1 ⟨rfl, ⟨j1, d1, hQ1⟩, f1⟩
        have hM1 := hM.pC f1
        show Go w mL_law (89, 2365) 584 [some (.float 0), some (.ref 0), some (.ref 77), some (.int (iZ i))] [.int (iZ (spPlan (A 1) (A 3) (zx w (i + 1))))] σ1 (fun r _ => r = some (.int (iZ 1)))
        refine g_aload_n (q := 585) dL_law_584 rfl rfl ?_
        refine g_aloadF_n (q := 586) dL_law_585 rfl rfl ?_
        refine g_iload_n (q := 587) dL_law_586 rfl rfl ?_
        refine z_iconst (q := 588) dL_law_587 rfl ?_
        refine z_iadd (q := 589) dL_law_588 rfl ?_
        refine z_sld (q := 590) dL_law_589 (by omega) rfl ?_
        refine g_callV (As := [.int (iZ (zx w (i + 1)))]) (rest := [.int (iZ (spPlan (A 1) (A 3) (zx w (i + 1))))]) (q := 593) moX9_plan lkL_law_81 dL_law_590 rfl hM1.1 (r_M_plan2 σ1 77 I A hM1 (zx w (i + 1)) (zx_b w _) wT wS) rfl rfl (Nat.le_of_ble_eq_true rfl) (Nat.le_of_ble_eq_true rfl) (Nat.le_of_ble_eq_true rfl) rfl ?_
        rintro r2 σ2 ⟨rfl, hN, f2⟩
        have hQ2 := hQ1.mR f2
        show Go w mL_law (89, 2365) 593 [some (.float 0), some (.ref 0), some (.ref 77), some (.int (iZ i))] [.int (iZ (spPlan (A 1) (A 3) (zx w (i + 1)))), .int (iZ (spPlan (A 1) (A 3) (zx w (i + 1))))] σ2 (fun r _ => r = some (.int (iZ 1)))
        refine g_icmp_eq (t := 644) (q := 596) dL_law_593 rfl rfl (fun _ => ?_) (fun hne => absurd rfl hne)
        show Go w mL_law (89, 2365) 644 [some (.float 0), some (.ref 0), some (.ref 77), some (.int (iZ i))] [] σ2 (fun r _ => r = some (.int (iZ 1)))
        refine z_iincc (c := (i + 5)) (ml' := [some (.float 0), some (.ref 0), some (.ref 77), some (.int (iZ (i + 5)))]) (q := 647) dL_law_644 rfl (by omega) rfl rfl rfl ?_
        refine g_goto (q := 18) dL_law_647 rfl ?_
        exact ih (i + 5) (I 0) (A 0) (A 1) (A 3) (A 4) (I 2) σ2 (by omega) (by omega) ⟨_, _, hQ2⟩ hN wT wS wB hn hL ht
      · refine g_aload_n (q := 599) dL_law_598 rfl rfl ?_
        refine g_aloadF_n (q := 600) dL_law_599 rfl rfl ?_
        refine g_iload_n (q := 601) dL_law_600 rfl rfl ?_
        refine z_iconst (q := 602) dL_law_601 rfl ?_
        refine z_iadd (q := 603) dL_law_602 rfl ?_
        refine z_sld (q := 604) dL_law_603 (by omega) rfl ?_
        refine g_callV (As := [.int (iZ (zx w (i + 1)))]) (rest := []) (q := 607) moX8_drawn lkL_law_82 dL_law_604 rfl hQ.2.1 (r_C_drawn σ j d (I 0) (A 0) (A 1) (A 3) (A 4) (I 2) hQ wT wS (zx w (i + 1)) (zx_b w _)) rfl rfl (Nat.le_of_ble_eq_true rfl) (Nat.le_of_ble_eq_true rfl) (Nat.le_of_ble_eq_true rfl) rfl ?_
        rintro r1 s1 hp
        rw [hp.1, hp.2]
        show Go w mL_law (89, 2365) 607 [some (.float 0), some (.ref 0), some (.ref 77), some (.int (iZ i))] [.int (iZ (spDrawn (A 1) (A 3) (zx w (i + 1))))] σ (fun r _ => r = some (.int (iZ 1)))
        refine g_aload_n (q := 608) dL_law_607 rfl rfl ?_
        refine g_aloadF_n (q := 609) dL_law_608 rfl rfl ?_
        refine g_iload_n (q := 610) dL_law_609 rfl rfl ?_
        refine z_iconst (q := 611) dL_law_610 rfl ?_
        refine z_iadd (q := 612) dL_law_611 rfl ?_
        refine z_sld (q := 613) dL_law_612 (by omega) rfl ?_
        refine g_callV (As := [.int (iZ (zx w (i + 1)))]) (rest := [.int (iZ (spDrawn (A 1) (A 3) (zx w (i + 1))))]) (q := 616) moX9_drawn lkL_law_85 dL_law_613 rfl hM.1 (r_M_drawn σ 77 I A hM (zx w (i + 1)) (zx_b w _) wT wS) rfl rfl (Nat.le_of_ble_eq_true rfl) (Nat.le_of_ble_eq_true rfl) (Nat.le_of_ble_eq_true rfl) rfl ?_
        rintro r2 s2 hp
        rw [hp.1, hp.2]
        show Go w mL_law (89, 2365) 616 [some (.float 0), some (.ref 0), some (.ref 77), some (.int (iZ i))] [.int (iZ (spDrawn (A 1) (A 3) (zx w (i + 1)))), .int (iZ (spDrawn (A 1) (A 3) (zx w (i + 1))))] σ (fun r _ => r = some (.int (iZ 1)))
        refine g_icmp_eq (t := 644) (q := 619) dL_law_616 rfl rfl (fun _ => ?_) (fun hne => absurd rfl hne)
        show Go w mL_law (89, 2365) 644 [some (.float 0), some (.ref 0), some (.ref 77), some (.int (iZ i))] [] σ (fun r _ => r = some (.int (iZ 1)))
        refine z_iincc (c := (i + 5)) (ml' := [some (.float 0), some (.ref 0), some (.ref 77), some (.int (iZ (i + 5)))]) (q := 647) dL_law_644 rfl (by omega) rfl rfl rfl ?_
        refine g_goto (q := 18) dL_law_647 rfl ?_
        exact ih (i + 5) (I 0) (A 0) (A 1) (A 3) (A 4) (I 2) σ (by omega) (by omega) ⟨_, _, hQ⟩ hM.mc wT wS wB hn hL ht
      · refine g_aload_n (q := 622) dL_law_621 rfl rfl ?_
        refine g_aloadF_n (q := 623) dL_law_622 rfl rfl ?_
        refine g_iload_n (q := 624) dL_law_623 rfl rfl ?_
        refine z_iconst (q := 625) dL_law_624 rfl ?_
        refine z_iadd (q := 626) dL_law_625 rfl ?_
        refine z_sld (q := 627) dL_law_626 (by omega) rfl ?_
        refine g_callV (As := [.int (iZ (zx w (i + 1)))]) (rest := []) (q := 630) moX8_count lkL_law_86 dL_law_627 rfl hQ.2.1 (r_C_count σ j d (I 0) (A 0) (A 1) (A 3) (A 4) (I 2) hQ wT wS (zx w (i + 1)) (zx_b w _)) rfl rfl (Nat.le_of_ble_eq_true rfl) (Nat.le_of_ble_eq_true rfl) (Nat.le_of_ble_eq_true rfl) rfl ?_
        rintro r1 s1 hp
        rw [hp.1, hp.2]
        show Go w mL_law (89, 2365) 630 [some (.float 0), some (.ref 0), some (.ref 77), some (.int (iZ i))] [.int (iZ (spCount (A 1) (A 3) (I 2) (I 0) (zx w (i + 1))))] σ (fun r _ => r = some (.int (iZ 1)))
        refine g_aload_n (q := 631) dL_law_630 rfl rfl ?_
        refine g_aloadF_n (q := 632) dL_law_631 rfl rfl ?_
        refine g_iload_n (q := 633) dL_law_632 rfl rfl ?_
        refine z_iconst (q := 634) dL_law_633 rfl ?_
        refine z_iadd (q := 635) dL_law_634 rfl ?_
        refine z_sld (q := 636) dL_law_635 (by omega) rfl ?_
        refine g_callV (As := [.int (iZ (zx w (i + 1)))]) (rest := [.int (iZ (spCount (A 1) (A 3) (I 2) (I 0) (zx w (i + 1))))]) (q := 639) moX9_count lkL_law_89 dL_law_636 rfl hM.1 (r_M_count σ 77 I A hM (zx w (i + 1)) (zx_b w _) wT wS) rfl rfl (Nat.le_of_ble_eq_true rfl) (Nat.le_of_ble_eq_true rfl) (Nat.le_of_ble_eq_true rfl) rfl ?_
        rintro r2 s2 hp
        rw [hp.1, hp.2]
        show Go w mL_law (89, 2365) 639 [some (.float 0), some (.ref 0), some (.ref 77), some (.int (iZ i))] [.int (iZ (spCount (A 1) (A 3) (I 2) (I 0) (zx w (i + 1)))), .int (iZ (spCount (A 1) (A 3) (I 2) (I 0) (zx w (i + 1))))] σ (fun r _ => r = some (.int (iZ 1)))
        refine g_icmp_eq (t := 644) (q := 642) dL_law_639 rfl rfl (fun _ => ?_) (fun hne => absurd rfl hne)
        show Go w mL_law (89, 2365) 644 [some (.float 0), some (.ref 0), some (.ref 77), some (.int (iZ i))] [] σ (fun r _ => r = some (.int (iZ 1)))
        refine z_iincc (c := (i + 5)) (ml' := [some (.float 0), some (.ref 0), some (.ref 77), some (.int (iZ (i + 5)))]) (q := 647) dL_law_644 rfl (by omega) rfl rfl rfl ?_
        refine g_goto (q := 18) dL_law_647 rfl ?_
        exact ih (i + 5) (I 0) (A 0) (A 1) (A 3) (A 4) (I 2) σ (by omega) (by omega) ⟨_, _, hQ⟩ hM.mc wT wS wB hn hL ht
      · refine z_iincc (c := (i + 5)) (ml' := [some (.float 0), some (.ref 0), some (.ref 77), some (.int (iZ (i + 5)))]) (q := 647) dL_law_644 rfl (by omega) rfl rfl rfl ?_
        refine g_goto (q := 18) dL_law_647 rfl ?_
        exact ih (i + 5) _ _ _ _ _ _ σ (by omega) (by omega) ⟨j, d, hQ⟩ hM.mc wT wS wB hn hL ht
theorem law_go (w : g_W) (hw : g_L w ≤ 2560) : Go w mL_law (0, 0) 0 [some (.float 0), none, none, none] [] [] (fun r _ => r = some (.int (iZ 1))) := by
  show Go w mL_law (0, 0) 0 [some (.float 0), none, none, none] [] [] (fun r _ => r = some (.int (iZ 1)))
  refine z_new (a := 0) (q := 3) nwL_7 dL_law_0 (Nat.le_of_ble_eq_true rfl) (Nat.le_of_ble_eq_true rfl) rfl rfl (fun σn0 ln0 cn0 gr0 => ?_)
  show Go w mL_law (1, 9) 3 [some (.float 0), none, none, none] [.ref 0] σn0 (fun r _ => r = some (.int (iZ 1)))
  refine g_dup (q := 4) dL_law_3 rfl rfl ?_
  refine g_callI (As := []) (rest := [.ref 0]) (q := 7) moX8_init rfl lkL_law_9 dL_law_4 (r_C_init σn0 ln0 cn0) rfl rfl (Nat.le_of_ble_eq_true rfl) (Nat.le_of_ble_eq_true rfl) (Nat.le_of_ble_eq_true rfl) rfl ?_
  rintro r1 σ1 ⟨rfl, ⟨j, d, hQ⟩, hl1⟩
  show Go w mL_law (77, 660) 7 [some (.float 0), none, none, none] [.ref 0] σ1 (fun r _ => r = some (.int (iZ 1)))
  refine g_astore_n (ml' := [some (.float 0), some (.ref 0), none, none]) (q := 8) dL_law_7 rfl (Nat.le_of_ble_eq_true rfl) rfl rfl ?_
  refine z_new (a := 77) (q := 11) nwL_10 dL_law_8 (Nat.le_of_ble_eq_true rfl) (Nat.le_of_ble_eq_true rfl) hl1 rfl (fun σn77 ln77 cn77 gr => ?_)
  show Go w mL_law (78, 676) 11 [some (.float 0), some (.ref 0), none, none] [.ref 77] σn77 (fun r _ => r = some (.int (iZ 1)))
  refine g_dup (q := 12) dL_law_11 rfl rfl ?_
  refine g_callI (As := []) (rest := [.ref 77]) (q := 15) moX9_init rfl lkL_law_12 dL_law_12 (r_M_init σn77 77 ln77 cn77) rfl rfl (Nat.le_of_ble_eq_true rfl) (Nat.le_of_ble_eq_true rfl) (Nat.le_of_ble_eq_true rfl) rfl ?_
  rintro r2 σ2 ⟨rfl, ⟨A, hM, e0, e1, e3, e4⟩, hl2, nf2⟩
  have hQ2 := hQ.fr (σ' := σ2) (fun k k0 => (nf2 k k0).trans (gr k (by rw [hl1]; omega)))
  show Go w mL_law (89, 2365) 15 [some (.float 0), some (.ref 0), none, none] [.ref 77] σ2 (fun r _ => r = some (.int (iZ 1)))
  refine g_astore_n (ml' := [some (.float 0), some (.ref 0), some (.ref 77), none]) (q := 16) dL_law_15 rfl (Nat.le_of_ble_eq_true rfl) rfl rfl ?_
  refine z_iconst (q := 17) dL_law_16 rfl ?_
  refine g_istore_n (ml' := [some (.float 0), some (.ref 0), some (.ref 77), some (.int (iZ 0))]) (q := 18) dL_law_17 rfl (Nat.le_of_ble_eq_true rfl) rfl rfl ?_
  exact l_law w hw 600 0 0 (fun _ => 0) mT0 (mAnew mT0 (fun _ => 0)) (fun _ => 0) 0 σ2 (by omega) (by omega) ⟨j, d, hQ2⟩ ⟨_, A, hM, rfl, rfl, e0, e1, e3, e4⟩ wfT_0 wfS_0 (fun i i0 i1 => by omega) (by omega) (by omega) (fun k k0 k1 => by omega)
