/-! the class as a whole -/
def rC (j d : Nat) (L : Int) (tx T S B : Int → Int) (n : Int) (σ : g_H0) : Prop :=
  (j = 45 ∧ d = 61 ∨ j = 61 ∧ d = 45) ∧ σ[0]? = some (.inr (8, [.ref 1, .ref 3, .ref 5, .ref 9, .ref 13, .ref 39, .ref 44, .ref j, .ref d])) ∧
  rText 1 L tx σ ∧ (∃ (p : Int) (N : Int → Int), rRn 3 p N σ) ∧ rSt 5 T S σ ∧ rS0 9 σ ∧ (∃ nx : Int, rHi 13 T B n nx σ) ∧
  (∃ (Fe Wy Tr Be : Int → Int) (th bh bt_ fo : Int), rPl 39 Fe Wy Tr Be th bh bt_ fo σ) ∧ (∃ x y wd hg : Int, σ[44]? = some (.inr (0, [.int (iZ x), .int (iZ y), .int (iZ wd), .int (iZ hg)]))) ∧ rJob j T σ ∧ ∃ R : Int → Int, rJob d R σ
def pC : Nat → Prop := fun k => k < 77
theorem rPl.fr {a : Nat} {Fe Wy Tr Be : Int → Int} {th bh bt_ fo : Int} {σ σ' : g_H0} (h : rPl a Fe Wy Tr Be th bh bt_ fo σ) (e : ∀ k, a ≤ k → k < a + 5 → σ'[k]? = σ[k]?) : rPl a Fe Wy Tr Be th bh bt_ fo σ' :=
  ⟨(e _ (by omega) (by omega)).trans h.1, (e _ (by omega) (by omega)).trans h.2.1, (e _ (by omega) (by omega)).trans h.2.2.1, (e _ (by omega) (by omega)).trans h.2.2.2.1, (e _ (by omega) (by omega)).trans h.2.2.2.2⟩
section RC
variable {j d : Nat} {L : Int} {tx T S B : Int → Int} {n : Int} {σ σ' : g_H0}
theorem rC.fr (h : rC j d L tx T S B n σ) (e : ∀ k, k < 77 → σ'[k]? = σ[k]?) : rC j d L tx T S B n σ' := by
  obtain ⟨hjd, c0, hT, ⟨rp, rN, hR⟩, hS, hS0, ⟨nx, hH⟩, ⟨Fe, Wy, Tr, Be, tH, pbh, pbt, pfo, hPl⟩, ⟨sx, sy, sw, sh, hA⟩, hJ, ⟨R0, hD⟩⟩ := h
  exact ⟨hjd, (e _ (by omega)).trans c0, hT.fr (fun k k0 k1 => e k (by omega)), ⟨rp, rN, hR.fr (fun k k0 k1 => e k (by omega))⟩, hS.fr (fun k k0 k1 => e k (by omega)), hS0.fr (fun k k0 k1 => e k (by omega)), ⟨nx, hH.fr (fun k k0 k1 => e k (by omega))⟩, ⟨Fe, Wy, Tr, Be, tH, pbh, pbt, pfo, hPl.fr (fun k k0 k1 => e k (by omega))⟩, ⟨sx, sy, sw, sh, (e _ (by omega)).trans hA⟩, hJ.fr (fun k k0 k1 => e k (by omega)), ⟨R0, hD.fr (fun k k0 k1 => e k (by omega))⟩⟩
theorem rC.st {x y wd hg : Int} (q : σ'[44]? = some (.inr (0, [.int (iZ x), .int (iZ y), .int (iZ wd), .int (iZ hg)]))) (h : rC j d L tx T S B n σ) (f : g_Fr (fun b => b = 44) σ σ') : rC j d L tx T S B n σ' := by
  obtain ⟨hjd, c0, hT, ⟨rp, rN, hR⟩, hS, hS0, ⟨nx, hH⟩, ⟨Fe, Wy, Tr, Be, tH, pbh, pbt, pfo, hPl⟩, ⟨sx, sy, sw, sh, hA⟩, hJ, ⟨R0, hD⟩⟩ := h
  have ne : ∀ k, ¬ (fun b => b = 44) k → σ'[k]? = σ[k]? := f.2
  exact ⟨hjd, (f.2 0 (by intro e; omega)).trans c0, hT.fr (fun k k0 k1 => f.2 k (by intro e; omega)), ⟨rp, rN, hR.fr (fun k k0 k1 => f.2 k (by intro e; omega))⟩, hS.fr (fun k k0 k1 => f.2 k (by intro e; omega)), hS0.fr (fun k k0 k1 => f.2 k (by intro e; omega)), ⟨nx, hH.fr (fun k k0 k1 => f.2 k (by intro e; omega))⟩, ⟨Fe, Wy, Tr, Be, tH, pbh, pbt, pfo, hPl.fr (fun k k0 k1 => f.2 k (by intro e; omega))⟩, ⟨x, y, wd, hg, q⟩, hJ.fr (fun k k0 k1 => f.2 k (by intro e; omega)), ⟨R0, hD.fr (fun k k0 k1 => f.2 k (by intro e; omega))⟩⟩
theorem rC.now {S' : Int → Int} (q : rSt 5 T S' σ') (h : rC j d L tx T S B n σ) (f : g_Fr (pS 5) σ σ') : rC j d L tx T S' B n σ' := by
  obtain ⟨hjd, c0, hT, ⟨rp, rN, hR⟩, hS, hS0, ⟨nx, hH⟩, ⟨Fe, Wy, Tr, Be, tH, pbh, pbt, pfo, hPl⟩, ⟨sx, sy, sw, sh, hA⟩, hJ, ⟨R0, hD⟩⟩ := h
  have ne : ∀ k, ¬ (pS 5) k → σ'[k]? = σ[k]? := f.2
  exact ⟨hjd, (f.2 0 (by intro e; have := e.1; have := e.2; omega)).trans c0, hT.fr (fun k k0 k1 => f.2 k (by intro e; have := e.1; have := e.2; omega)), ⟨rp, rN, hR.fr (fun k k0 k1 => f.2 k (by intro e; have := e.1; have := e.2; omega))⟩, q, hS0.fr (fun k k0 k1 => f.2 k (by intro e; have := e.1; have := e.2; omega)), ⟨nx, hH.fr (fun k k0 k1 => f.2 k (by intro e; have := e.1; have := e.2; omega))⟩, ⟨Fe, Wy, Tr, Be, tH, pbh, pbt, pfo, hPl.fr (fun k k0 k1 => f.2 k (by intro e; have := e.1; have := e.2; omega))⟩, ⟨sx, sy, sw, sh, (f.2 44 (by intro e; have := e.1; have := e.2; omega)).trans hA⟩, hJ.fr (fun k k0 k1 => f.2 k (by intro e; have := e.1; have := e.2; omega)), ⟨R0, hD.fr (fun k k0 k1 => f.2 k (by intro e; have := e.1; have := e.2; omega))⟩⟩
theorem rC.trial (q : rS0 9 σ') (h : rC j d L tx T S B n σ) (f : g_Fr (pS 9) σ σ') : rC j d L tx T S B n σ' := by
  obtain ⟨hjd, c0, hT, ⟨rp, rN, hR⟩, hS, hS0, ⟨nx, hH⟩, ⟨Fe, Wy, Tr, Be, tH, pbh, pbt, pfo, hPl⟩, ⟨sx, sy, sw, sh, hA⟩, hJ, ⟨R0, hD⟩⟩ := h
  have ne : ∀ k, ¬ (pS 9) k → σ'[k]? = σ[k]? := f.2
  exact ⟨hjd, (f.2 0 (by intro e; have := e.1; have := e.2; omega)).trans c0, hT.fr (fun k k0 k1 => f.2 k (by intro e; have := e.1; have := e.2; omega)), ⟨rp, rN, hR.fr (fun k k0 k1 => f.2 k (by intro e; have := e.1; have := e.2; omega))⟩, hS.fr (fun k k0 k1 => f.2 k (by intro e; have := e.1; have := e.2; omega)), q, ⟨nx, hH.fr (fun k k0 k1 => f.2 k (by intro e; have := e.1; have := e.2; omega))⟩, ⟨Fe, Wy, Tr, Be, tH, pbh, pbt, pfo, hPl.fr (fun k k0 k1 => f.2 k (by intro e; have := e.1; have := e.2; omega))⟩, ⟨sx, sy, sw, sh, (f.2 44 (by intro e; have := e.1; have := e.2; omega)).trans hA⟩, hJ.fr (fun k k0 k1 => f.2 k (by intro e; have := e.1; have := e.2; omega)), ⟨R0, hD.fr (fun k k0 k1 => f.2 k (by intro e; have := e.1; have := e.2; omega))⟩⟩
theorem rC.hist {B' : Int → Int} {n' : Int} (q : ∃ nx, rHi 13 T B' n' nx σ') (h : rC j d L tx T S B n σ) (f : g_Fr (pH 13) σ σ') : rC j d L tx T S B' n' σ' := by
  obtain ⟨hjd, c0, hT, ⟨rp, rN, hR⟩, hS, hS0, ⟨nx, hH⟩, ⟨Fe, Wy, Tr, Be, tH, pbh, pbt, pfo, hPl⟩, ⟨sx, sy, sw, sh, hA⟩, hJ, ⟨R0, hD⟩⟩ := h
  have ne : ∀ k, ¬ (pH 13) k → σ'[k]? = σ[k]? := f.2
  exact ⟨hjd, (f.2 0 (by intro e; have := e.1; have := e.2; omega)).trans c0, hT.fr (fun k k0 k1 => f.2 k (by intro e; have := e.1; have := e.2; omega)), ⟨rp, rN, hR.fr (fun k k0 k1 => f.2 k (by intro e; have := e.1; have := e.2; omega))⟩, hS.fr (fun k k0 k1 => f.2 k (by intro e; have := e.1; have := e.2; omega)), hS0.fr (fun k k0 k1 => f.2 k (by intro e; have := e.1; have := e.2; omega)), q, ⟨Fe, Wy, Tr, Be, tH, pbh, pbt, pfo, hPl.fr (fun k k0 k1 => f.2 k (by intro e; have := e.1; have := e.2; omega))⟩, ⟨sx, sy, sw, sh, (f.2 44 (by intro e; have := e.1; have := e.2; omega)).trans hA⟩, hJ.fr (fun k k0 k1 => f.2 k (by intro e; have := e.1; have := e.2; omega)), ⟨R0, hD.fr (fun k k0 k1 => f.2 k (by intro e; have := e.1; have := e.2; omega))⟩⟩
theorem rC.pl (q : ∃ (Fe Wy Tr Be : Int → Int) (th bh bt_ fo : Int), rPl 39 Fe Wy Tr Be th bh bt_ fo σ') (h : rC j d L tx T S B n σ) (f : g_Fr (pP 39) σ σ') : rC j d L tx T S B n σ' := by
  obtain ⟨hjd, c0, hT, ⟨rp, rN, hR⟩, hS, hS0, ⟨nx, hH⟩, ⟨Fe, Wy, Tr, Be, tH, pbh, pbt, pfo, hPl⟩, ⟨sx, sy, sw, sh, hA⟩, hJ, ⟨R0, hD⟩⟩ := h
  have ne : ∀ k, ¬ (pP 39) k → σ'[k]? = σ[k]? := f.2
  exact ⟨hjd, (f.2 0 (by intro e; have := e.1; have := e.2; omega)).trans c0, hT.fr (fun k k0 k1 => f.2 k (by intro e; have := e.1; have := e.2; omega)), ⟨rp, rN, hR.fr (fun k k0 k1 => f.2 k (by intro e; have := e.1; have := e.2; omega))⟩, hS.fr (fun k k0 k1 => f.2 k (by intro e; have := e.1; have := e.2; omega)), hS0.fr (fun k k0 k1 => f.2 k (by intro e; have := e.1; have := e.2; omega)), ⟨nx, hH.fr (fun k k0 k1 => f.2 k (by intro e; have := e.1; have := e.2; omega))⟩, q, ⟨sx, sy, sw, sh, (f.2 44 (by intro e; have := e.1; have := e.2; omega)).trans hA⟩, hJ.fr (fun k k0 k1 => f.2 k (by intro e; have := e.1; have := e.2; omega)), ⟨R0, hD.fr (fun k k0 k1 => f.2 k (by intro e; have := e.1; have := e.2; omega))⟩⟩
theorem rC.text {L' : Int} {tx' : Int → Int} (q : rText 1 L' tx' σ') (h : rC j d L tx T S B n σ) (f : g_Fr (fun b => b = 1 ∨ b = 1 + 1) σ σ') : rC j d L' tx' T S B n σ' := by
  obtain ⟨hjd, c0, hT, ⟨rp, rN, hR⟩, hS, hS0, ⟨nx, hH⟩, ⟨Fe, Wy, Tr, Be, tH, pbh, pbt, pfo, hPl⟩, ⟨sx, sy, sw, sh, hA⟩, hJ, ⟨R0, hD⟩⟩ := h
  have ne : ∀ k, ¬ (fun b => b = 1 ∨ b = 1 + 1) k → σ'[k]? = σ[k]? := f.2
  exact ⟨hjd, (f.2 0 (by intro e; omega)).trans c0, q, ⟨rp, rN, hR.fr (fun k k0 k1 => f.2 k (by intro e; omega))⟩, hS.fr (fun k k0 k1 => f.2 k (by intro e; omega)), hS0.fr (fun k k0 k1 => f.2 k (by intro e; omega)), ⟨nx, hH.fr (fun k k0 k1 => f.2 k (by intro e; omega))⟩, ⟨Fe, Wy, Tr, Be, tH, pbh, pbt, pfo, hPl.fr (fun k k0 k1 => f.2 k (by intro e; omega))⟩, ⟨sx, sy, sw, sh, (f.2 44 (by intro e; omega)).trans hA⟩, hJ.fr (fun k k0 k1 => f.2 k (by intro e; omega)), ⟨R0, hD.fr (fun k k0 k1 => f.2 k (by intro e; omega))⟩⟩
theorem rC.rd (q1 : ∃ (p : Int) (N : Int → Int), rRn 3 p N σ') (q2 : ∃ R : Int → Int, rJob d R σ') (h : rC j d L tx T S B n σ) (f : g_Fr (pAJ 3 d) σ σ') : rC j d L tx T S B n σ' := by
  obtain ⟨hjd, c0, hT, ⟨rp, rN, hR⟩, hS, hS0, ⟨nx, hH⟩, ⟨Fe, Wy, Tr, Be, tH, pbh, pbt, pfo, hPl⟩, ⟨sx, sy, sw, sh, hA⟩, hJ, ⟨R0, hD⟩⟩ := h
  have ne : ∀ k, ¬ (pAJ 3 d) k → σ'[k]? = σ[k]? := f.2
  exact ⟨hjd, (f.2 0 (by intro e; rcases e with e | e <;> (have := e.1; have := e.2; omega))).trans c0, hT.fr (fun k k0 k1 => f.2 k (by intro e; rcases e with e | e <;> (have := e.1; have := e.2; omega))), q1, hS.fr (fun k k0 k1 => f.2 k (by intro e; rcases e with e | e <;> (have := e.1; have := e.2; omega))), hS0.fr (fun k k0 k1 => f.2 k (by intro e; rcases e with e | e <;> (have := e.1; have := e.2; omega))), ⟨nx, hH.fr (fun k k0 k1 => f.2 k (by intro e; rcases e with e | e <;> (have := e.1; have := e.2; omega)))⟩, ⟨Fe, Wy, Tr, Be, tH, pbh, pbt, pfo, hPl.fr (fun k k0 k1 => f.2 k (by intro e; rcases e with e | e <;> (have := e.1; have := e.2; omega)))⟩, ⟨sx, sy, sw, sh, (f.2 44 (by intro e; rcases e with e | e <;> (have := e.1; have := e.2; omega))).trans hA⟩, hJ.fr (fun k k0 k1 => f.2 k (by intro e; rcases e with e | e <;> (have := e.1; have := e.2; omega))), q2⟩
end RC
theorem r_C_isStation (σ : g_H0) (j d : Nat) (L : Int) (tx T S B : Int → Int) (n : Int) (hQ : rC j d L tx T S B n σ) (wT : wfT T) (wS : wfS T S) (k : Int) (b_k : -2147483648 ≤ k ∧ k < 2147483648) : Ret mX8_isStation [.ref 0, .int (iZ k)] σ (fun r σ' => r = some (.int (bI (0 ≤ k ∧ k < T 2))) ∧ σ' = σ) := by
  refine Ret.of moX8_isStation.1 (Nat.le_of_ble_eq_true rfl) (fun w => ?_)
  obtain ⟨hjd, c0, hT, ⟨rp, rN, hR⟩, hS, hS0, ⟨nx, hH⟩, ⟨Fe, Wy, Tr, Be, tH, pbh, pbt, pfo, hPl⟩, ⟨sx, sy, sw, sh, hA⟩, hJ, ⟨R0, hD⟩⟩ := id hQ
  obtain ⟨bT, t0, t1, t2, t3, t4, tt, th, tap, tcl, tc2⟩ := id wT
  obtain ⟨j0, j1, ⟨jf, j2, j2'⟩, ⟨jg, j3, j3'⟩, ⟨jC, j4, j4'⟩, j5, j6⟩ := id hJ
  show Go w mX8_isStation (0, 0) 0 [some (.ref 0), some (.int (iZ k))] [] σ (fun r σ' => r = some (.int (bI (0 ≤ k ∧ k < T 2))) ∧ σ' = σ)
  refine g_iload_n (q := 1) dX8_isStation_0 rfl rfl ?_
  refine z_if_lt (t := 19) (q := 4) dX8_isStation_1 rfl (by omega) rfl (fun pc1 => ?_) (fun pc1 => ?_)
  · refine z_iconst (q := 20) dX8_isStation_19 rfl ?_
    refine z_zret dX8_isStation_20 rfl rfl ?_
    exact ⟨congrArg (fun v => some (Value.int v)) (bI_f (by omega)).symm, rfl⟩
  · refine g_iload_n (q := 5) dX8_isStation_4 rfl rfl ?_
    refine g_aload_n (q := 6) dX8_isStation_5 rfl rfl ?_
    refine g_get (q := 9) flX8_57 dX8_isStation_6 c0 rfl rfl ?_
    refine g_get (q := 12) flX8_94 dX8_isStation_9 j0 rfl rfl ?_
    refine z_icmp_ge (t := 19) (q := 15) dX8_isStation_12 rfl (by omega) rfl (fun pc2 => ?_) (fun pc2 => ?_)
    · refine z_iconst (q := 20) dX8_isStation_19 rfl ?_
      refine z_zret dX8_isStation_20 rfl rfl ?_
      exact ⟨congrArg (fun v => some (Value.int v)) (bI_f (by omega)).symm, rfl⟩
    · refine z_iconst (q := 16) dX8_isStation_15 rfl ?_
      refine g_goto (q := 20) dX8_isStation_16 rfl ?_
      refine z_zret dX8_isStation_20 rfl rfl ?_
      exact ⟨congrArg (fun v => some (Value.int v)) (bI_t (by omega)).symm, rfl⟩
theorem r_C_isHole (σ : g_H0) (j d : Nat) (L : Int) (tx T S B : Int → Int) (n : Int) (hQ : rC j d L tx T S B n σ) (wT : wfT T) (wS : wfS T S) (k : Int) (b_k : -2147483648 ≤ k ∧ k < 2147483648) : Ret mX8_isHole [.ref 0, .int (iZ k)] σ (fun r σ' => r = some (.int (bI (0 ≤ k ∧ k < T 3))) ∧ σ' = σ) := by
  refine Ret.of moX8_isHole.1 (Nat.le_of_ble_eq_true rfl) (fun w => ?_)
  obtain ⟨hjd, c0, hT, ⟨rp, rN, hR⟩, hS, hS0, ⟨nx, hH⟩, ⟨Fe, Wy, Tr, Be, tH, pbh, pbt, pfo, hPl⟩, ⟨sx, sy, sw, sh, hA⟩, hJ, ⟨R0, hD⟩⟩ := id hQ
  obtain ⟨bT, t0, t1, t2, t3, t4, tt, th, tap, tcl, tc2⟩ := id wT
  obtain ⟨j0, j1, ⟨jf, j2, j2'⟩, ⟨jg, j3, j3'⟩, ⟨jC, j4, j4'⟩, j5, j6⟩ := id hJ
  show Go w mX8_isHole (0, 0) 0 [some (.ref 0), some (.int (iZ k))] [] σ (fun r σ' => r = some (.int (bI (0 ≤ k ∧ k < T 3))) ∧ σ' = σ)
  refine g_iload_n (q := 1) dX8_isHole_0 rfl rfl ?_
  refine z_if_lt (t := 19) (q := 4) dX8_isHole_1 rfl (by omega) rfl (fun pc1 => ?_) (fun pc1 => ?_)
  · refine z_iconst (q := 20) dX8_isHole_19 rfl ?_
    refine z_zret dX8_isHole_20 rfl rfl ?_
    exact ⟨congrArg (fun v => some (Value.int v)) (bI_f (by omega)).symm, rfl⟩
  · refine g_iload_n (q := 5) dX8_isHole_4 rfl rfl ?_
    refine g_aload_n (q := 6) dX8_isHole_5 rfl rfl ?_
    refine g_get (q := 9) flX8_57 dX8_isHole_6 c0 rfl rfl ?_
    refine g_get (q := 12) flX8_256 dX8_isHole_9 j0 rfl rfl ?_
    refine z_icmp_ge (t := 19) (q := 15) dX8_isHole_12 rfl (by omega) rfl (fun pc2 => ?_) (fun pc2 => ?_)
    · refine z_iconst (q := 20) dX8_isHole_19 rfl ?_
      refine z_zret dX8_isHole_20 rfl rfl ?_
      exact ⟨congrArg (fun v => some (Value.int v)) (bI_f (by omega)).symm, rfl⟩
    · refine z_iconst (q := 16) dX8_isHole_15 rfl ?_
      refine g_goto (q := 20) dX8_isHole_16 rfl ?_
      refine z_zret dX8_isHole_20 rfl rfl ?_
      exact ⟨congrArg (fun v => some (Value.int v)) (bI_t (by omega)).symm, rfl⟩
theorem r_C_isClamp (σ : g_H0) (j d : Nat) (L : Int) (tx T S B : Int → Int) (n : Int) (hQ : rC j d L tx T S B n σ) (wT : wfT T) (wS : wfS T S) (k : Int) (b_k : -2147483648 ≤ k ∧ k < 2147483648) : Ret mX8_isClamp [.ref 0, .int (iZ k)] σ (fun r σ' => r = some (.int (bI (0 ≤ k ∧ k < T 4))) ∧ σ' = σ) := by
  refine Ret.of moX8_isClamp.1 (Nat.le_of_ble_eq_true rfl) (fun w => ?_)
  obtain ⟨hjd, c0, hT, ⟨rp, rN, hR⟩, hS, hS0, ⟨nx, hH⟩, ⟨Fe, Wy, Tr, Be, tH, pbh, pbt, pfo, hPl⟩, ⟨sx, sy, sw, sh, hA⟩, hJ, ⟨R0, hD⟩⟩ := id hQ
  obtain ⟨bT, t0, t1, t2, t3, t4, tt, th, tap, tcl, tc2⟩ := id wT
  obtain ⟨j0, j1, ⟨jf, j2, j2'⟩, ⟨jg, j3, j3'⟩, ⟨jC, j4, j4'⟩, j5, j6⟩ := id hJ
  show Go w mX8_isClamp (0, 0) 0 [some (.ref 0), some (.int (iZ k))] [] σ (fun r σ' => r = some (.int (bI (0 ≤ k ∧ k < T 4))) ∧ σ' = σ)
  refine g_iload_n (q := 1) dX8_isClamp_0 rfl rfl ?_
  refine z_if_lt (t := 19) (q := 4) dX8_isClamp_1 rfl (by omega) rfl (fun pc1 => ?_) (fun pc1 => ?_)
  · refine z_iconst (q := 20) dX8_isClamp_19 rfl ?_
    refine z_zret dX8_isClamp_20 rfl rfl ?_
    exact ⟨congrArg (fun v => some (Value.int v)) (bI_f (by omega)).symm, rfl⟩
  · refine g_iload_n (q := 5) dX8_isClamp_4 rfl rfl ?_
    refine g_aload_n (q := 6) dX8_isClamp_5 rfl rfl ?_
    refine g_get (q := 9) flX8_57 dX8_isClamp_6 c0 rfl rfl ?_
    refine g_get (q := 12) flX8_259 dX8_isClamp_9 j0 rfl rfl ?_
    refine z_icmp_ge (t := 19) (q := 15) dX8_isClamp_12 rfl (by omega) rfl (fun pc2 => ?_) (fun pc2 => ?_)
    · refine z_iconst (q := 20) dX8_isClamp_19 rfl ?_
      refine z_zret dX8_isClamp_20 rfl rfl ?_
      exact ⟨congrArg (fun v => some (Value.int v)) (bI_f (by omega)).symm, rfl⟩
    · refine z_iconst (q := 16) dX8_isClamp_15 rfl ?_
      refine g_goto (q := 20) dX8_isClamp_16 rfl ?_
      refine z_zret dX8_isClamp_20 rfl rfl ?_
      exact ⟨congrArg (fun v => some (Value.int v)) (bI_t (by omega)).symm, rfl⟩
theorem r_C_isHitTold (σ : g_H0) (j d : Nat) (L : Int) (tx T S B : Int → Int) (n : Int) (hQ : rC j d L tx T S B n σ) (wT : wfT T) (wS : wfS T S) (k x y t : Int) (b_k : -2147483648 ≤ k ∧ k < 2147483648) (b_x : -2147483648 ≤ x ∧ x < 2147483648) (b_y : -2147483648 ≤ y ∧ y < 2147483648) (b_t : -2147483648 ≤ t ∧ t < 2147483648) : Ret mX8_isHitTold [.ref 0, .int (iZ k), .int (iZ x), .int (iZ y), .int (iZ t)] σ (fun r σ' => r = some (.int (bI ((0 ≤ k ∧ k < T 2) ∧ (0 ≤ x ∧ x ≤ 99) ∧ (0 ≤ y ∧ y ≤ 99) ∧ (0 ≤ t ∧ t ≤ 1)))) ∧ σ' = σ) := by
  refine Ret.of moX8_isHitTold.1 (Nat.le_of_ble_eq_true rfl) (fun w => ?_)
  obtain ⟨hjd, c0, hT, ⟨rp, rN, hR⟩, hS, hS0, ⟨nx, hH⟩, ⟨Fe, Wy, Tr, Be, tH, pbh, pbt, pfo, hPl⟩, ⟨sx, sy, sw, sh, hA⟩, hJ, ⟨R0, hD⟩⟩ := id hQ
  obtain ⟨bT, t0, t1, t2, t3, t4, tt, th, tap, tcl, tc2⟩ := id wT
  obtain ⟨j0, j1, ⟨jf, j2, j2'⟩, ⟨jg, j3, j3'⟩, ⟨jC, j4, j4'⟩, j5, j6⟩ := id hJ
  obtain ⟨s0, C, W, K, s1, s2, s3, hC, hW, hK⟩ := id hS
  obtain ⟨w1, w2, w3, w4, w5, w6⟩ := id wS
  show Go w mX8_isHitTold (0, 0) 0 [some (.ref 0), some (.int (iZ k)), some (.int (iZ x)), some (.int (iZ y)), some (.int (iZ t))] [] σ (fun r σ' => r = some (.int (bI ((0 ≤ k ∧ k < T 2) ∧ (0 ≤ x ∧ x ≤ 99) ∧ (0 ≤ y ∧ y ≤ 99) ∧ (0 ≤ t ∧ t ≤ 1)))) ∧ σ' = σ)
  refine g_aload_n (q := 1) dX8_isHitTold_0 rfl rfl ?_
  refine g_iload_n (q := 2) dX8_isHitTold_1 rfl rfl ?_
  refine g_callV (As := [.int (iZ k)]) (rest := []) (q := 5) moX8_isStation lkX8_isHitTold_127 dX8_isHitTold_2 rfl c0 (r_C_isStation σ j d L tx T S B n hQ wT wS k (by omega)) rfl rfl (Nat.le_of_ble_eq_true rfl) (Nat.le_of_ble_eq_true rfl) (Nat.le_of_ble_eq_true rfl) rfl ?_
  rintro rQ sQ hpQ
  rw [hpQ.1, hpQ.2]
  show Go w mX8_isHitTold (0, 0) 5 [some (.ref 0), some (.int (iZ k)), some (.int (iZ x)), some (.int (iZ y)), some (.int (iZ t))] [.int (bI (0 ≤ k ∧ k < T 2))] σ (fun r σ' => r = some (.int (bI ((0 ≤ k ∧ k < T 2) ∧ (0 ≤ x ∧ x ≤ 99) ∧ (0 ≤ y ∧ y ≤ 99) ∧ (0 ≤ t ∧ t ≤ 1)))) ∧ σ' = σ)
  refine z_ifB_eq (t := 40) (q := 8) dX8_isHitTold_5 rfl rfl (fun pc1 => ?_) (fun pc1 => ?_)
  · refine z_iconst (q := 41) dX8_isHitTold_40 rfl ?_
    refine z_zret dX8_isHitTold_41 rfl rfl ?_
    exact ⟨congrArg (fun v => some (Value.int v)) (bI_f (by omega)).symm, rfl⟩
  · refine g_iload_n (q := 9) dX8_isHitTold_8 rfl rfl ?_
    refine z_iconst (q := 10) dX8_isHitTold_9 rfl ?_
    refine g_bipush (v := iZ 99) (q := 12) dX8_isHitTold_10 (by decide) rfl ?_
    refine g_callS (As := [.int (iZ x), .int (iZ 0), .int (iZ 99)]) (rest := []) (q := 15) moX8_isWithin lkX8_isHitTold_296 dX8_isHitTold_12 (r_isWithin σ x 0 99 (by omega) (by omega) (by omega)) rfl rfl (Nat.le_of_ble_eq_true rfl) (Nat.le_of_ble_eq_true rfl) (Nat.le_of_ble_eq_true rfl) rfl ?_
    rintro rQ sQ hpQ
    rw [hpQ.1, hpQ.2]
    show Go w mX8_isHitTold (0, 0) 15 [some (.ref 0), some (.int (iZ k)), some (.int (iZ x)), some (.int (iZ y)), some (.int (iZ t))] [.int (bI (0 ≤ x ∧ x ≤ 99))] σ (fun r σ' => r = some (.int (bI ((0 ≤ k ∧ k < T 2) ∧ (0 ≤ x ∧ x ≤ 99) ∧ (0 ≤ y ∧ y ≤ 99) ∧ (0 ≤ t ∧ t ≤ 1)))) ∧ σ' = σ)
    refine z_ifB_eq (t := 40) (q := 18) dX8_isHitTold_15 rfl rfl (fun pc2 => ?_) (fun pc2 => ?_)
    · refine z_iconst (q := 41) dX8_isHitTold_40 rfl ?_
      refine z_zret dX8_isHitTold_41 rfl rfl ?_
      exact ⟨congrArg (fun v => some (Value.int v)) (bI_f (by omega)).symm, rfl⟩
    · refine g_iload_n (q := 19) dX8_isHitTold_18 rfl rfl ?_
      refine z_iconst (q := 20) dX8_isHitTold_19 rfl ?_
      refine g_bipush (v := iZ 99) (q := 22) dX8_isHitTold_20 (by decide) rfl ?_
      refine g_callS (As := [.int (iZ y), .int (iZ 0), .int (iZ 99)]) (rest := []) (q := 25) moX8_isWithin lkX8_isHitTold_296 dX8_isHitTold_22 (r_isWithin σ y 0 99 (by omega) (by omega) (by omega)) rfl rfl (Nat.le_of_ble_eq_true rfl) (Nat.le_of_ble_eq_true rfl) (Nat.le_of_ble_eq_true rfl) rfl ?_
      rintro rQ sQ hpQ
      rw [hpQ.1, hpQ.2]
      show Go w mX8_isHitTold (0, 0) 25 [some (.ref 0), some (.int (iZ k)), some (.int (iZ x)), some (.int (iZ y)), some (.int (iZ t))] [.int (bI (0 ≤ y ∧ y ≤ 99))] σ (fun r σ' => r = some (.int (bI ((0 ≤ k ∧ k < T 2) ∧ (0 ≤ x ∧ x ≤ 99) ∧ (0 ≤ y ∧ y ≤ 99) ∧ (0 ≤ t ∧ t ≤ 1)))) ∧ σ' = σ)
      refine z_ifB_eq (t := 40) (q := 28) dX8_isHitTold_25 rfl rfl (fun pc3 => ?_) (fun pc3 => ?_)
      · refine z_iconst (q := 41) dX8_isHitTold_40 rfl ?_
        refine z_zret dX8_isHitTold_41 rfl rfl ?_
        exact ⟨congrArg (fun v => some (Value.int v)) (bI_f (by omega)).symm, rfl⟩
      · refine g_iload (q := 30) dX8_isHitTold_28 rfl rfl ?_
        refine g_callS (As := [.int (iZ t)]) (rest := []) (q := 33) moX8_isFlag lkX8_isHitTold_130 dX8_isHitTold_30 (r_isFlag σ t (by omega)) rfl rfl (Nat.le_of_ble_eq_true rfl) (Nat.le_of_ble_eq_true rfl) (Nat.le_of_ble_eq_true rfl) rfl ?_
        rintro rQ sQ hpQ
        rw [hpQ.1, hpQ.2]
        show Go w mX8_isHitTold (0, 0) 33 [some (.ref 0), some (.int (iZ k)), some (.int (iZ x)), some (.int (iZ y)), some (.int (iZ t))] [.int (bI (t = 0 ∨ t = 1))] σ (fun r σ' => r = some (.int (bI ((0 ≤ k ∧ k < T 2) ∧ (0 ≤ x ∧ x ≤ 99) ∧ (0 ≤ y ∧ y ≤ 99) ∧ (0 ≤ t ∧ t ≤ 1)))) ∧ σ' = σ)
        refine z_ifB_eq (t := 40) (q := 36) dX8_isHitTold_33 rfl rfl (fun pc4 => ?_) (fun pc4 => ?_)
        · refine z_iconst (q := 41) dX8_isHitTold_40 rfl ?_
          refine z_zret dX8_isHitTold_41 rfl rfl ?_
          exact ⟨congrArg (fun v => some (Value.int v)) (bI_f (by omega)).symm, rfl⟩
        · refine z_iconst (q := 37) dX8_isHitTold_36 rfl ?_
          refine g_goto (q := 41) dX8_isHitTold_37 rfl ?_
          refine z_zret dX8_isHitTold_41 rfl rfl ?_
          exact ⟨congrArg (fun v => some (Value.int v)) (bI_t (by omega)).symm, rfl⟩
theorem r_C_column (σ : g_H0) (j d : Nat) (L : Int) (tx T S B : Int → Int) (n : Int) (hQ : rC j d L tx T S B n σ) (wT : wfT T) (wS : wfS T S) (c : Int) (b_c : -2147483648 ≤ c ∧ c < 2147483648) : Ret mX8_column [.ref 0, .int (iZ c)] σ (fun r σ' => r = some (.int (iZ (spColumn T S c))) ∧ σ' = σ) := by
  refine Ret.of moX8_column.1 (Nat.le_of_ble_eq_true rfl) (fun w => ?_)
  obtain ⟨hjd, c0, hT, ⟨rp, rN, hR⟩, hS, hS0, ⟨nx, hH⟩, ⟨Fe, Wy, Tr, Be, tH, pbh, pbt, pfo, hPl⟩, ⟨sx, sy, sw, sh, hA⟩, hJ, ⟨R0, hD⟩⟩ := id hQ
  obtain ⟨bT, t0, t1, t2, t3, t4, tt, th, tap, tcl, tc2⟩ := id wT
  obtain ⟨j0, j1, ⟨jf, j2, j2'⟩, ⟨jg, j3, j3'⟩, ⟨jC, j4, j4'⟩, j5, j6⟩ := id hJ
  obtain ⟨s0, C, W, K, s1, s2, s3, hC, hW, hK⟩ := id hS
  obtain ⟨w1, w2, w3, w4, w5, w6⟩ := id wS
  show Go w mX8_column (0, 0) 0 [some (.ref 0), some (.int (iZ c))] [] σ (fun r σ' => r = some (.int (iZ (spColumn T S c))) ∧ σ' = σ)
  refine g_aload_n (q := 1) dX8_column_0 rfl rfl ?_
  refine g_iload_n (q := 2) dX8_column_1 rfl rfl ?_
  refine g_callV (As := [.int (iZ c)]) (rest := []) (q := 5) moX8_isClamp lkX8_column_148 dX8_column_2 rfl c0 (r_C_isClamp σ j d L tx T S B n hQ wT wS c (by omega)) rfl rfl (Nat.le_of_ble_eq_true rfl) (Nat.le_of_ble_eq_true rfl) (Nat.le_of_ble_eq_true rfl) rfl ?_
  rintro rQ sQ hpQ
  rw [hpQ.1, hpQ.2]
  show Go w mX8_column (0, 0) 5 [some (.ref 0), some (.int (iZ c))] [.int (bI (0 ≤ c ∧ c < T 4))] σ (fun r σ' => r = some (.int (iZ (spColumn T S c))) ∧ σ' = σ)
  refine z_ifB_eq (t := 20) (q := 8) dX8_column_5 rfl rfl (fun pc1 => ?_) (fun pc1 => ?_)
  · refine z_iconst (q := 21) dX8_column_20 rfl ?_
    refine z_iret dX8_column_21 rfl ?_
    refine ⟨congrArg (fun z => some (Value.int (iZ z))) ?_, rfl⟩
    unfold spColumn; repeat' split
    all_goals first | omega | (exfalso; omega) | (with_reducible rfl) | (exact congrArg T (by omega)) | (exact congrArg S (by omega))
  · refine g_aload_n (q := 9) dX8_column_8 rfl rfl ?_
    refine g_get (q := 12) flX8_26 dX8_column_9 c0 rfl rfl ?_
    refine g_get (q := 15) flX8_154 dX8_column_12 s0 rfl rfl ?_
    refine g_iload_n (q := 16) dX8_column_15 rfl rfl ?_
    refine z_iald (q := 17) dX8_column_16 s3 (by omega) rfl ?_
    rw [show K c = (S (c + 151)) from (hK c (by omega) (by omega))]
    have b2 : 0 ≤ S (c + 151) ∧ S (c + 151) ≤ 12 := w4 c (by omega) (by omega)
    refine g_goto (q := 21) dX8_column_17 rfl ?_
    refine z_iret dX8_column_21 rfl ?_
    refine ⟨congrArg (fun z => some (Value.int (iZ z))) ?_, rfl⟩
    unfold spColumn; repeat' split
    all_goals first | omega | (exfalso; omega) | (with_reducible rfl) | (exact congrArg T (by omega)) | (exact congrArg S (by omega))
theorem r_C_station (σ : g_H0) (j d : Nat) (L : Int) (tx T S B : Int → Int) (n : Int) (hQ : rC j d L tx T S B n σ) (wT : wfT T) (wS : wfS T S) (s q : Int) (b_s : -2147483648 ≤ s ∧ s < 2147483648) (b_q : -2147483648 ≤ q ∧ q < 2147483648) : Ret mX8_station [.ref 0, .int (iZ s), .int (iZ q)] σ (fun r σ' => r = some (.int (iZ (spStation T S s q))) ∧ σ' = σ) := by
  refine Ret.of moX8_station.1 (Nat.le_of_ble_eq_true rfl) (fun w => ?_)
  obtain ⟨hjd, c0, hT, ⟨rp, rN, hR⟩, hS, hS0, ⟨nx, hH⟩, ⟨Fe, Wy, Tr, Be, tH, pbh, pbt, pfo, hPl⟩, ⟨sx, sy, sw, sh, hA⟩, hJ, ⟨R0, hD⟩⟩ := id hQ
  obtain ⟨bT, t0, t1, t2, t3, t4, tt, th, tap, tcl, tc2⟩ := id wT
  obtain ⟨j0, j1, ⟨jf, j2, j2'⟩, ⟨jg, j3, j3'⟩, ⟨jC, j4, j4'⟩, j5, j6⟩ := id hJ
  obtain ⟨s0, C, W, K, s1, s2, s3, hC, hW, hK⟩ := id hS
  obtain ⟨w1, w2, w3, w4, w5, w6⟩ := id wS
  show Go w mX8_station (0, 0) 0 [some (.ref 0), some (.int (iZ s)), some (.int (iZ q)), none] [] σ (fun r σ' => r = some (.int (iZ (spStation T S s q))) ∧ σ' = σ)
  refine g_aload_n (q := 1) dX8_station_0 rfl rfl ?_
  refine g_iload_n (q := 2) dX8_station_1 rfl rfl ?_
  refine g_callV (As := [.int (iZ s)]) (rest := []) (q := 5) moX8_isStation lkX8_station_127 dX8_station_2 rfl c0 (r_C_isStation σ j d L tx T S B n hQ wT wS s (by omega)) rfl rfl (Nat.le_of_ble_eq_true rfl) (Nat.le_of_ble_eq_true rfl) (Nat.le_of_ble_eq_true rfl) rfl ?_
  rintro rQ sQ hpQ
  rw [hpQ.1, hpQ.2]
  show Go w mX8_station (0, 0) 5 [some (.ref 0), some (.int (iZ s)), some (.int (iZ q)), none] [.int (bI (0 ≤ s ∧ s < T 2))] σ (fun r σ' => r = some (.int (iZ (spStation T S s q))) ∧ σ' = σ)
  refine z_ifB_ne (t := 10) (q := 8) dX8_station_5 rfl rfl (fun pc1 => ?_) (fun pc1 => ?_)
  · refine g_aload_n (q := 11) dX8_station_10 rfl rfl ?_
    refine g_get (q := 14) flX8_57 dX8_station_11 c0 rfl rfl ?_
    refine g_get (q := 17) flX8_101 dX8_station_14 j0 rfl rfl ?_
    refine g_iload_n (q := 18) dX8_station_17 rfl rfl ?_
    obtain ⟨f2, e2, g2, k2⟩ := hJ.tool (s := s) (by omega) (by omega) (by omega)
    have k2 : σ[(j + 5 + s.toNat)]? = some (.inr (7, [.int (iZ (T (4 * s + 5))), .int (iZ (T (4 * s + 6))), .int (iZ (T (4 * s + 8))), .int (iZ (T (4 * s + 7)))])) := k2
    have q2 := tt s (by omega) (by omega)
    refine z_aald (b := (j + 5 + s.toNat)) (q := 19) dX8_station_18 rfl e2 (by omega) g2 rfl ?_
    refine g_astore_n (ml' := [some (.ref 0), some (.int (iZ s)), some (.int (iZ q)), some (.ref (j + 5 + s.toNat))]) (q := 20) dX8_station_19 rfl (Nat.le_of_ble_eq_true rfl) rfl rfl ?_
    refine g_iload_n (q := 21) dX8_station_20 rfl rfl ?_
    refine z_table (ts := [64, 69, 74, 82, 87, 97, 113]) (dt := 129) dX8_station_21 (by omega) rfl rfl rfl ⟨fun pc3 => ?_, fun pc3 => ?_, fun pc3 => ?_, fun pc3 => ?_, fun pc3 => ?_, fun pc3 => ?_, fun pc3 => ?_, trivial⟩ (fun pc3 => ?_)
    · refine g_aload_n (q := 65) dX8_station_64 rfl rfl ?_
      refine g_get (q := 68) flX8_175 dX8_station_65 k2 rfl rfl ?_
      refine z_iret dX8_station_68 rfl ?_
      refine ⟨congrArg (fun z => some (Value.int (iZ z))) ?_, rfl⟩
      unfold spStation; repeat' split
      all_goals first | omega | (exfalso; omega) | (with_reducible rfl) | (exact congrArg T (by omega)) | (exact congrArg S (by omega))
    · refine g_aload_n (q := 70) dX8_station_69 rfl rfl ?_
      refine g_get (q := 73) flX8_178 dX8_station_70 k2 rfl rfl ?_
      refine z_iret dX8_station_73 rfl ?_
      refine ⟨congrArg (fun z => some (Value.int (iZ z))) ?_, rfl⟩
      unfold spStation; repeat' split
      all_goals first | omega | (exfalso; omega) | (with_reducible rfl) | (exact congrArg T (by omega)) | (exact congrArg S (by omega))
    · refine g_aload_n (q := 75) dX8_station_74 rfl rfl ?_
      refine g_get (q := 78) flX8_181 dX8_station_75 k2 rfl rfl ?_
      refine g_callS (As := [.int (iZ (T (4 * s + 7)))]) (rest := []) (q := 81) moX8_asFlag lkX8_station_185 dX8_station_78 (r_asFlagZ σ (T (4 * s + 7)) (by omega)) rfl rfl (Nat.le_of_ble_eq_true rfl) (Nat.le_of_ble_eq_true rfl) (Nat.le_of_ble_eq_true rfl) rfl ?_
      rintro rQ sQ hpQ
      rw [hpQ.1, hpQ.2]
      show Go w mX8_station (0, 0) 81 [some (.ref 0), some (.int (iZ s)), some (.int (iZ q)), some (.ref (j + 5 + s.toNat))] [.int (iZ (T (4 * s + 7)))] σ (fun r σ' => r = some (.int (iZ (spStation T S s q))) ∧ σ' = σ)
      refine z_iret dX8_station_81 rfl ?_
      refine ⟨congrArg (fun z => some (Value.int (iZ z))) ?_, rfl⟩
      unfold spStation; repeat' split
      all_goals first | omega | (exfalso; omega) | (with_reducible rfl) | (exact congrArg T (by omega)) | (exact congrArg S (by omega))
    · refine g_aload_n (q := 83) dX8_station_82 rfl rfl ?_
      refine g_get (q := 86) flX8_189 dX8_station_83 k2 rfl rfl ?_
      refine z_iret dX8_station_86 rfl ?_
      refine ⟨congrArg (fun z => some (Value.int (iZ z))) ?_, rfl⟩
      unfold spStation; repeat' split
      all_goals first | omega | (exfalso; omega) | (with_reducible rfl) | (exact congrArg T (by omega)) | (exact congrArg S (by omega))
    · refine g_aload_n (q := 88) dX8_station_87 rfl rfl ?_
      refine g_get (q := 91) flX8_26 dX8_station_88 c0 rfl rfl ?_
      refine g_get (q := 94) flX8_165 dX8_station_91 s0 rfl rfl ?_
      refine g_iload_n (q := 95) dX8_station_94 rfl rfl ?_
      refine z_iald (q := 96) dX8_station_95 s2 (by omega) rfl ?_
      rw [show W s = (S (s + 144)) from (hW s (by omega) (by omega))]
      have b4 := w2 s (by omega) (by omega)
      refine z_iret dX8_station_96 rfl ?_
      refine ⟨congrArg (fun z => some (Value.int (iZ z))) ?_, rfl⟩
      unfold spStation; repeat' split
      all_goals first | omega | (exfalso; omega) | (with_reducible rfl) | (exact congrArg T (by omega)) | (exact congrArg S (by omega))
    · refine g_aload_n (q := 98) dX8_station_97 rfl rfl ?_
      refine g_get (q := 101) flX8_26 dX8_station_98 c0 rfl rfl ?_
      refine g_aload_n (q := 102) dX8_station_101 rfl rfl ?_
      refine g_get (q := 105) flX8_57 dX8_station_102 c0 rfl rfl ?_
      refine g_iload_n (q := 106) dX8_station_105 rfl rfl ?_
      refine g_callV (As := [.ref j, .int (iZ s)]) (rest := []) (q := 109) moX5_isDull lkX8_station_192 dX8_station_106 rfl s0 (r_isDull σ 5 j T S hS hJ wT wS s (by omega)) rfl rfl (Nat.le_of_ble_eq_true rfl) (Nat.le_of_ble_eq_true rfl) (Nat.le_of_ble_eq_true rfl) rfl ?_
      rintro rQ sQ hpQ
      rw [hpQ.1, hpQ.2]
      show Go w mX8_station (0, 0) 109 [some (.ref 0), some (.int (iZ s)), some (.int (iZ q)), some (.ref (j + 5 + s.toNat))] [.int (bI (T (4 * s + 8) ≤ S (s + 144)))] σ (fun r σ' => r = some (.int (iZ (spStation T S s q))) ∧ σ' = σ)
      refine g_callS (As := [.int (bI (T (4 * s + 8) ≤ S (s + 144)))]) (rest := []) (q := 112) moX8_asFlag lkX8_station_185 dX8_station_109 (r_asFlag σ (T (4 * s + 8) ≤ S (s + 144))) rfl rfl (Nat.le_of_ble_eq_true rfl) (Nat.le_of_ble_eq_true rfl) (Nat.le_of_ble_eq_true rfl) rfl ?_
      rintro rQ sQ hpQ
      rw [hpQ.1, hpQ.2]
      show Go w mX8_station (0, 0) 112 [some (.ref 0), some (.int (iZ s)), some (.int (iZ q)), some (.ref (j + 5 + s.toNat))] [.int (bI (T (4 * s + 8) ≤ S (s + 144)))] σ (fun r σ' => r = some (.int (iZ (spStation T S s q))) ∧ σ' = σ)
      refine z_iret dX8_station_112 rfl ?_
      refine ⟨congrArg (fun v => some (Value.int v)) ((bI_z _).trans (congrArg iZ ?_)), rfl⟩
      unfold spStation; repeat' split
      all_goals first | omega | (exfalso; omega) | (with_reducible rfl) | (exact congrArg T (by omega)) | (exact congrArg S (by omega))
    · refine g_aload_n (q := 114) dX8_station_113 rfl rfl ?_
      refine g_get (q := 117) flX8_57 dX8_station_114 c0 rfl rfl ?_
      refine g_aload_n (q := 118) dX8_station_117 rfl rfl ?_
      refine g_get (q := 121) flX8_26 dX8_station_118 c0 rfl rfl ?_
      refine g_get (q := 124) flX8_196 dX8_station_121 s0 rfl rfl ?_
      refine g_iload_n (q := 125) dX8_station_124 rfl rfl ?_
      refine g_callV (As := [.int (iZ (S 150)), .int (iZ s)]) (rest := []) (q := 128) moX2_turnsBetween lkX8_station_199 dX8_station_125 rfl j0 (r_turnsBetween σ j T hJ wT (S 150) s (by omega) (by omega)) rfl rfl (Nat.le_of_ble_eq_true rfl) (Nat.le_of_ble_eq_true rfl) (Nat.le_of_ble_eq_true rfl) rfl ?_
      rintro rQ sQ hpQ
      rw [hpQ.1, hpQ.2]
      show Go w mX8_station (0, 0) 128 [some (.ref 0), some (.int (iZ s)), some (.int (iZ q)), some (.ref (j + 5 + s.toNat))] [.int (iZ (mRing T (S 150) s))] σ (fun r σ' => r = some (.int (iZ (spStation T S s q))) ∧ σ' = σ)
      refine z_iret dX8_station_128 rfl ?_
      refine ⟨congrArg (fun z => some (Value.int (iZ z))) ?_, rfl⟩
      unfold spStation; repeat' split
      all_goals first | omega | (exfalso; omega) | (with_reducible rfl) | (exact congrArg T (by omega)) | (exact congrArg S (by omega))
    · refine z_iconst (q := 130) dX8_station_129 rfl ?_
      refine z_iret dX8_station_130 rfl ?_
      refine ⟨congrArg (fun z => some (Value.int (iZ z))) ?_, rfl⟩
      unfold spStation; repeat' split
      all_goals first | omega | (exfalso; omega) | (with_reducible rfl) | (exact congrArg T (by omega)) | (exact congrArg S (by omega))
  · refine z_iconst (q := 9) dX8_station_8 rfl ?_
    refine z_iret dX8_station_9 rfl ?_
    refine ⟨congrArg (fun z => some (Value.int (iZ z))) ?_, rfl⟩
    unfold spStation; repeat' split
    all_goals first | omega | (exfalso; omega) | (with_reducible rfl) | (exact congrArg T (by omega)) | (exact congrArg S (by omega))
theorem r_C_hole (σ : g_H0) (j d : Nat) (L : Int) (tx T S B : Int → Int) (n : Int) (hQ : rC j d L tx T S B n σ) (wT : wfT T) (wS : wfS T S) (h q : Int) (b_h : -2147483648 ≤ h ∧ h < 2147483648) (b_q : -2147483648 ≤ q ∧ q < 2147483648) : Ret mX8_hole [.ref 0, .int (iZ h), .int (iZ q)] σ (fun r σ' => r = some (.int (iZ (spHole T S h q))) ∧ σ' = σ) := by
  refine Ret.of moX8_hole.1 (Nat.le_of_ble_eq_true rfl) (fun w => ?_)
  obtain ⟨hjd, c0, hT, ⟨rp, rN, hR⟩, hS, hS0, ⟨nx, hH⟩, ⟨Fe, Wy, Tr, Be, tH, pbh, pbt, pfo, hPl⟩, ⟨sx, sy, sw, sh, hA⟩, hJ, ⟨R0, hD⟩⟩ := id hQ
  obtain ⟨bT, t0, t1, t2, t3, t4, tt, th, tap, tcl, tc2⟩ := id wT
  obtain ⟨j0, j1, ⟨jf, j2, j2'⟩, ⟨jg, j3, j3'⟩, ⟨jC, j4, j4'⟩, j5, j6⟩ := id hJ
  obtain ⟨s0, C, W, K, s1, s2, s3, hC, hW, hK⟩ := id hS
  obtain ⟨w1, w2, w3, w4, w5, w6⟩ := id wS
  show Go w mX8_hole (0, 0) 0 [some (.ref 0), some (.int (iZ h)), some (.int (iZ q)), none] [] σ (fun r σ' => r = some (.int (iZ (spHole T S h q))) ∧ σ' = σ)
  refine g_aload_n (q := 1) dX8_hole_0 rfl rfl ?_
  refine g_iload_n (q := 2) dX8_hole_1 rfl rfl ?_
  refine g_callV (As := [.int (iZ h)]) (rest := []) (q := 5) moX8_isHole lkX8_hole_123 dX8_hole_2 rfl c0 (r_C_isHole σ j d L tx T S B n hQ wT wS h (by omega)) rfl rfl (Nat.le_of_ble_eq_true rfl) (Nat.le_of_ble_eq_true rfl) (Nat.le_of_ble_eq_true rfl) rfl ?_
  rintro rQ sQ hpQ
  rw [hpQ.1, hpQ.2]
  show Go w mX8_hole (0, 0) 5 [some (.ref 0), some (.int (iZ h)), some (.int (iZ q)), none] [.int (bI (0 ≤ h ∧ h < T 3))] σ (fun r σ' => r = some (.int (iZ (spHole T S h q))) ∧ σ' = σ)
  refine z_ifB_ne (t := 10) (q := 8) dX8_hole_5 rfl rfl (fun pc1 => ?_) (fun pc1 => ?_)
  · refine g_aload_n (q := 11) dX8_hole_10 rfl rfl ?_
    refine g_get (q := 14) flX8_57 dX8_hole_11 c0 rfl rfl ?_
    refine g_get (q := 17) flX8_133 dX8_hole_14 j0 rfl rfl ?_
    refine g_iload_n (q := 18) dX8_hole_17 rfl rfl ?_
    obtain ⟨f2, e2, g2, k2⟩ := hJ.hole (s := h) (by omega) (by omega) (by omega)
    have k2 : σ[(j + 11 + h.toNat)]? = some (.inr (0, [.int (iZ (T (4 * h + 29))), .int (iZ (T (4 * h + 30))), .int (iZ (T (4 * h + 31))), .int (iZ (T (4 * h + 32)))])) := k2
    have q2 := th h (by omega) (by omega)
    refine z_aald (b := (j + 11 + h.toNat)) (q := 19) dX8_hole_18 rfl e2 (by omega) g2 rfl ?_
    refine g_astore_n (ml' := [some (.ref 0), some (.int (iZ h)), some (.int (iZ q)), some (.ref (j + 11 + h.toNat))]) (q := 20) dX8_hole_19 rfl (Nat.le_of_ble_eq_true rfl) rfl rfl ?_
    refine g_iload_n (q := 21) dX8_hole_20 rfl rfl ?_
    refine z_table (ts := [60, 65, 70, 75, 80, 89]) (dt := 101) dX8_hole_21 (by omega) rfl rfl rfl ⟨fun pc3 => ?_, fun pc3 => ?_, fun pc3 => ?_, fun pc3 => ?_, fun pc3 => ?_, fun pc3 => ?_, trivial⟩ (fun pc3 => ?_)
    · refine g_aload_n (q := 61) dX8_hole_60 rfl rfl ?_
      refine g_get (q := 64) flX8_203 dX8_hole_61 k2 rfl rfl ?_
      refine z_iret dX8_hole_64 rfl ?_
      have eo := mOpen_c (S := S) wT (h := h) (by omega)
      refine ⟨congrArg (fun z => some (Value.int (iZ z))) ?_, rfl⟩
      unfold spHole; rw [eo]
      repeat' split
      all_goals first | omega | (exfalso; omega) | (with_reducible rfl) | (exact congrArg T (by omega)) | (exact congrArg S (by omega))
    · refine g_aload_n (q := 66) dX8_hole_65 rfl rfl ?_
      refine g_get (q := 69) flX8_206 dX8_hole_66 k2 rfl rfl ?_
      refine z_iret dX8_hole_69 rfl ?_
      have eo := mOpen_c (S := S) wT (h := h) (by omega)
      refine ⟨congrArg (fun z => some (Value.int (iZ z))) ?_, rfl⟩
      unfold spHole; rw [eo]
      repeat' split
      all_goals first | omega | (exfalso; omega) | (with_reducible rfl) | (exact congrArg T (by omega)) | (exact congrArg S (by omega))
    · refine g_aload_n (q := 71) dX8_hole_70 rfl rfl ?_
      refine g_get (q := 74) flX8_209 dX8_hole_71 k2 rfl rfl ?_
      refine z_iret dX8_hole_74 rfl ?_
      have eo := mOpen_c (S := S) wT (h := h) (by omega)
      refine ⟨congrArg (fun z => some (Value.int (iZ z))) ?_, rfl⟩
      unfold spHole; rw [eo]
      repeat' split
      all_goals first | omega | (exfalso; omega) | (with_reducible rfl) | (exact congrArg T (by omega)) | (exact congrArg S (by omega))
    · refine g_aload_n (q := 76) dX8_hole_75 rfl rfl ?_
      refine g_get (q := 79) flX8_210 dX8_hole_76 k2 rfl rfl ?_
      refine z_iret dX8_hole_79 rfl ?_
      have eo := mOpen_c (S := S) wT (h := h) (by omega)
      refine ⟨congrArg (fun z => some (Value.int (iZ z))) ?_, rfl⟩
      unfold spHole; rw [eo]
      repeat' split
      all_goals first | omega | (exfalso; omega) | (with_reducible rfl) | (exact congrArg T (by omega)) | (exact congrArg S (by omega))
    · refine g_aload_n (q := 81) dX8_hole_80 rfl rfl ?_
      refine g_get (q := 84) flX8_26 dX8_hole_81 c0 rfl rfl ?_
      refine g_aload_n (q := 85) dX8_hole_84 rfl rfl ?_
      refine g_callV (As := [.ref (j + 11 + h.toNat)]) (rest := []) (q := 88) moX5_uncutIn lkX8_hole_211 dX8_hole_85 rfl s0 (r_uncutIn σ 5 T S hS wT wS (j + 11 + h.toNat) (T (4 * h + 29)) (T (4 * h + 30)) (T (4 * h + 31)) (T (4 * h + 32)) k2 (by omega) (by omega)) rfl rfl (Nat.le_of_ble_eq_true rfl) (Nat.le_of_ble_eq_true rfl) (Nat.le_of_ble_eq_true rfl) rfl ?_
      rintro rQ sQ hpQ
      rw [hpQ.1, hpQ.2]
      show Go w mX8_hole (0, 0) 88 [some (.ref 0), some (.int (iZ h)), some (.int (iZ q)), some (.ref (j + 11 + h.toNat))] [.int (iZ (cOpen T S h))] σ (fun r σ' => r = some (.int (iZ (spHole T S h q))) ∧ σ' = σ)
      refine z_iret dX8_hole_88 rfl ?_
      have eo := mOpen_c (S := S) wT (h := h) (by omega)
      refine ⟨congrArg (fun z => some (Value.int (iZ z))) ?_, rfl⟩
      unfold spHole; rw [eo]
      repeat' split
      all_goals first | omega | (exfalso; omega) | (with_reducible rfl) | (exact congrArg T (by omega)) | (exact congrArg S (by omega))
    · refine g_aload_n (q := 90) dX8_hole_89 rfl rfl ?_
      refine g_get (q := 93) flX8_26 dX8_hole_90 c0 rfl rfl ?_
      refine g_aload_n (q := 94) dX8_hole_93 rfl rfl ?_
      refine g_callV (As := [.ref (j + 11 + h.toNat)]) (rest := []) (q := 97) moX5_isCut lkX8_hole_137 dX8_hole_94 rfl s0 (r_isCut σ 5 T S hS wT wS (j + 11 + h.toNat) (T (4 * h + 29)) (T (4 * h + 30)) (T (4 * h + 31)) (T (4 * h + 32)) k2 (by omega) (by omega)) rfl rfl (Nat.le_of_ble_eq_true rfl) (Nat.le_of_ble_eq_true rfl) (Nat.le_of_ble_eq_true rfl) rfl ?_
      rintro rQ sQ hpQ
      rw [hpQ.1, hpQ.2]
      show Go w mX8_hole (0, 0) 97 [some (.ref 0), some (.int (iZ h)), some (.int (iZ q)), some (.ref (j + 11 + h.toNat))] [.int (bI (cOpen T S h = 0))] σ (fun r σ' => r = some (.int (iZ (spHole T S h q))) ∧ σ' = σ)
      refine g_callS (As := [.int (bI (cOpen T S h = 0))]) (rest := []) (q := 100) moX8_asFlag lkX8_hole_185 dX8_hole_97 (r_asFlag σ (cOpen T S h = 0)) rfl rfl (Nat.le_of_ble_eq_true rfl) (Nat.le_of_ble_eq_true rfl) (Nat.le_of_ble_eq_true rfl) rfl ?_
      rintro rQ sQ hpQ
      rw [hpQ.1, hpQ.2]
      show Go w mX8_hole (0, 0) 100 [some (.ref 0), some (.int (iZ h)), some (.int (iZ q)), some (.ref (j + 11 + h.toNat))] [.int (bI (cOpen T S h = 0))] σ (fun r σ' => r = some (.int (iZ (spHole T S h q))) ∧ σ' = σ)
      refine z_iret dX8_hole_100 rfl ?_
      have eo := mOpen_c (S := S) wT (h := h) (by omega)
      refine ⟨congrArg (fun v => some (Value.int v)) ((bI_z _).trans (congrArg iZ ?_)), rfl⟩
      unfold spHole; rw [eo]
      repeat' split
      all_goals first | omega | (exfalso; omega) | (with_reducible rfl) | (exact congrArg T (by omega)) | (exact congrArg S (by omega))
    · refine z_iconst (q := 102) dX8_hole_101 rfl ?_
      refine z_iret dX8_hole_102 rfl ?_
      have eo := mOpen_c (S := S) wT (h := h) (by omega)
      refine ⟨congrArg (fun z => some (Value.int (iZ z))) ?_, rfl⟩
      unfold spHole; rw [eo]
      repeat' split
      all_goals first | omega | (exfalso; omega) | (with_reducible rfl) | (exact congrArg T (by omega)) | (exact congrArg S (by omega))
  · refine z_iconst (q := 9) dX8_hole_8 rfl ?_
    refine z_iret dX8_hole_9 rfl ?_
    refine ⟨congrArg (fun z => some (Value.int (iZ z))) ?_, rfl⟩
    unfold spHole
    repeat' split
    all_goals first | omega | (exfalso; omega) | (with_reducible rfl) | (exact congrArg T (by omega)) | (exact congrArg S (by omega))
theorem cS_nib {T : Int → Int} (wT : wfT T) {h k t : Int} (hh : 0 ≤ h ∧ h < T 3) (hk : 0 ≤ k ∧ k < T 2) (ht : 0 ≤ t ∧ t ≤ 1) : (cS T h k t = 0 ∧ mNib T h k t = -4) ∨ (1 ≤ cS T h k t ∧ mNib T h k t = cS T h k t) := by
  have q1 := wT.2.2.2.2.2.2.1 k hk.1 hk.2
  have q2 := wT.2.2.2.2.2.2.2.1 h hh.1 hh.2
  have t0 := wT.2.1
  have t1 := wT.2.2.1
  have bw := wT.w hk.1 hk.2 t
  have bh := wT.h hk.1 hk.2 t
  have e1 : cW (T (4 * k + 5)) (T (4 * k + 6)) t = mWide T k t := rfl
  have e2 : cW (T (4 * k + 6)) (T (4 * k + 5)) t = mHigh T k t := rfl
  unfold cS cHf mNib
  rw [e1, e2]
  by_cases c : (t = 1 ∧ T (4 * k + 7) = 0) ∨ T (4 * h + 31) < mWide T k t ∨ T (4 * h + 32) < mHigh T k t
  · rw [if_pos c, if_neg (by omega)]; exact Or.inl ⟨rfl, rfl⟩
  · rw [if_neg c, if_pos (by omega)]
    right
    have z1 : cSt (T (4 * h + 31)) (mWide T k t) = (T (4 * h + 31) + mWide T k t - 1) / mWide T k t := by unfold cSt; rw [if_neg (by omega)]
    have z2 : cSt (T (4 * h + 32)) (mHigh T k t) = (T (4 * h + 32) + mHigh T k t - 1) / mHigh T k t := by unfold cSt; rw [if_neg (by omega)]
    rw [z1, z2]
    have := zmul144 (zparts (n := T (4 * h + 31)) (d := mWide T k t) bw.1 (by omega)) (zparts (n := T (4 * h + 32)) (d := mHigh T k t) bh.1 (by omega))
    exact ⟨by omega, rfl⟩
theorem r_C_hits (σ : g_H0) (j d : Nat) (L : Int) (tx T S B : Int → Int) (n : Int) (hQ : rC j d L tx T S B n σ) (wT : wfT T) (wS : wfS T S) (h k t : Int) (b_h : -2147483648 ≤ h ∧ h < 2147483648) (b_k : -2147483648 ≤ k ∧ k < 2147483648) (b_t : -2147483648 ≤ t ∧ t < 2147483648) : Ret mX8_hits [.ref 0, .int (iZ h), .int (iZ k), .int (iZ t)] σ (fun r σ' => r = some (.int (iZ (spHits T h k t))) ∧ σ' = σ) := by
  refine Ret.of moX8_hits.1 (Nat.le_of_ble_eq_true rfl) (fun w => ?_)
  obtain ⟨hjd, c0, hT, ⟨rp, rN, hR⟩, hS, hS0, ⟨nx, hH⟩, ⟨Fe, Wy, Tr, Be, tH, pbh, pbt, pfo, hPl⟩, ⟨sx, sy, sw, sh, hA⟩, hJ, ⟨R0, hD⟩⟩ := id hQ
  obtain ⟨bT, t0, t1, t2, t3, t4, tt, th, tap, tcl, tc2⟩ := id wT
  obtain ⟨j0, j1, ⟨jf, j2, j2'⟩, ⟨jg, j3, j3'⟩, ⟨jC, j4, j4'⟩, j5, j6⟩ := id hJ
  obtain ⟨s0, C, W, K, s1, s2, s3, hC, hW, hK⟩ := id hS
  obtain ⟨w1, w2, w3, w4, w5, w6⟩ := id wS
  show Go w mX8_hits (0, 0) 0 [some (.ref 0), some (.int (iZ h)), some (.int (iZ k)), some (.int (iZ t)), none] [] σ (fun r σ' => r = some (.int (iZ (spHits T h k t))) ∧ σ' = σ)
  refine g_aload_n (q := 1) dX8_hits_0 rfl rfl ?_
  refine g_iload_n (q := 2) dX8_hits_1 rfl rfl ?_
  refine g_callV (As := [.int (iZ h)]) (rest := []) (q := 5) moX8_isHole lkX8_hits_123 dX8_hits_2 rfl c0 (r_C_isHole σ j d L tx T S B n hQ wT wS h (by omega)) rfl rfl (Nat.le_of_ble_eq_true rfl) (Nat.le_of_ble_eq_true rfl) (Nat.le_of_ble_eq_true rfl) rfl ?_
  rintro rQ sQ hpQ
  rw [hpQ.1, hpQ.2]
  show Go w mX8_hits (0, 0) 5 [some (.ref 0), some (.int (iZ h)), some (.int (iZ k)), some (.int (iZ t)), none] [.int (bI (0 ≤ h ∧ h < T 3))] σ (fun r σ' => r = some (.int (iZ (spHits T h k t))) ∧ σ' = σ)
  refine z_ifB_eq (t := 23) (q := 8) dX8_hits_5 rfl rfl (fun pc1 => ?_) (fun pc1 => ?_)
  · refine z_iconst (q := 24) dX8_hits_23 rfl ?_
    refine z_iret dX8_hits_24 rfl ?_
    refine ⟨congrArg (fun z => some (Value.int (iZ z))) ?_, rfl⟩
    unfold spHits; repeat' split
    all_goals first | omega | (exfalso; omega) | (with_reducible rfl) | (exact congrArg T (by omega)) | (exact congrArg S (by omega))
  · refine g_aload_n (q := 9) dX8_hits_8 rfl rfl ?_
    refine g_iload_n (q := 10) dX8_hits_9 rfl rfl ?_
    refine g_callV (As := [.int (iZ k)]) (rest := []) (q := 13) moX8_isStation lkX8_hits_127 dX8_hits_10 rfl c0 (r_C_isStation σ j d L tx T S B n hQ wT wS k (by omega)) rfl rfl (Nat.le_of_ble_eq_true rfl) (Nat.le_of_ble_eq_true rfl) (Nat.le_of_ble_eq_true rfl) rfl ?_
    rintro rQ sQ hpQ
    rw [hpQ.1, hpQ.2]
    show Go w mX8_hits (0, 0) 13 [some (.ref 0), some (.int (iZ h)), some (.int (iZ k)), some (.int (iZ t)), none] [.int (bI (0 ≤ k ∧ k < T 2))] σ (fun r σ' => r = some (.int (iZ (spHits T h k t))) ∧ σ' = σ)
    refine z_ifB_eq (t := 23) (q := 16) dX8_hits_13 rfl rfl (fun pc2 => ?_) (fun pc2 => ?_)
    · refine z_iconst (q := 24) dX8_hits_23 rfl ?_
      refine z_iret dX8_hits_24 rfl ?_
      refine ⟨congrArg (fun z => some (Value.int (iZ z))) ?_, rfl⟩
      unfold spHits; repeat' split
      all_goals first | omega | (exfalso; omega) | (with_reducible rfl) | (exact congrArg T (by omega)) | (exact congrArg S (by omega))
    · refine g_iload_n (q := 17) dX8_hits_16 rfl rfl ?_
      refine g_callS (As := [.int (iZ t)]) (rest := []) (q := 20) moX8_isFlag lkX8_hits_130 dX8_hits_17 (r_isFlag σ t (by omega)) rfl rfl (Nat.le_of_ble_eq_true rfl) (Nat.le_of_ble_eq_true rfl) (Nat.le_of_ble_eq_true rfl) rfl ?_
      rintro rQ sQ hpQ
      rw [hpQ.1, hpQ.2]
      show Go w mX8_hits (0, 0) 20 [some (.ref 0), some (.int (iZ h)), some (.int (iZ k)), some (.int (iZ t)), none] [.int (bI (t = 0 ∨ t = 1))] σ (fun r σ' => r = some (.int (iZ (spHits T h k t))) ∧ σ' = σ)
      refine z_ifB_ne (t := 25) (q := 23) dX8_hits_20 rfl rfl (fun pc3 => ?_) (fun pc3 => ?_)
      · refine g_aload_n (q := 26) dX8_hits_25 rfl rfl ?_
        refine g_get (q := 29) flX8_57 dX8_hits_26 c0 rfl rfl ?_
        refine g_get (q := 32) flX8_101 dX8_hits_29 j0 rfl rfl ?_
        refine g_iload_n (q := 33) dX8_hits_32 rfl rfl ?_
        obtain ⟨f4, e4, g4, k4⟩ := hJ.tool (s := k) (by omega) (by omega) (by omega)
        have k4 : σ[(j + 5 + k.toNat)]? = some (.inr (7, [.int (iZ (T (4 * k + 5))), .int (iZ (T (4 * k + 6))), .int (iZ (T (4 * k + 8))), .int (iZ (T (4 * k + 7)))])) := k4
        have q4 := tt k (by omega) (by omega)
        refine z_aald (b := (j + 5 + k.toNat)) (q := 34) dX8_hits_33 rfl e4 (by omega) g4 rfl ?_
        refine g_aload_n (q := 35) dX8_hits_34 rfl rfl ?_
        refine g_get (q := 38) flX8_57 dX8_hits_35 c0 rfl rfl ?_
        refine g_get (q := 41) flX8_133 dX8_hits_38 j0 rfl rfl ?_
        refine g_iload_n (q := 42) dX8_hits_41 rfl rfl ?_
        obtain ⟨f5, e5, g5, k5⟩ := hJ.hole (s := h) (by omega) (by omega) (by omega)
        have k5 : σ[(j + 11 + h.toNat)]? = some (.inr (0, [.int (iZ (T (4 * h + 29))), .int (iZ (T (4 * h + 30))), .int (iZ (T (4 * h + 31))), .int (iZ (T (4 * h + 32)))])) := k5
        have q5 := th h (by omega) (by omega)
        refine z_aald (b := (j + 11 + h.toNat)) (q := 43) dX8_hits_42 rfl e5 (by omega) g5 rfl ?_
        have J6 : ∀ z7 : Int, z7 = t → Go w mX8_hits (0, 0) 53 [some (.ref 0), some (.int (iZ h)), some (.int (iZ k)), some (.int (iZ t)), none] [.int (iZ z7), .ref (j + 11 + h.toNat), .ref (j + 5 + k.toNat)] σ (fun r σ' => r = some (.int (iZ (spHits T h k t))) ∧ σ' = σ) := by
          intro z7 e8
          rw [e8]
          refine g_callV (As := [.ref (j + 11 + h.toNat), .int (iZ t)]) (rest := []) (q := 56) moX7_hitsFor lkX8_hits_215 dX8_hits_53 rfl k4 (r_hitsFor σ (j + 5 + k.toNat) (j + 11 + h.toNat) (T (4 * k + 5)) (T (4 * k + 6)) (T (4 * k + 8)) (T (4 * k + 7)) (T (4 * h + 29)) (T (4 * h + 30)) (T (4 * h + 31)) (T (4 * h + 32)) t k4 k5 (by omega) (by omega) (by omega) (by omega) (by omega) (by omega)) rfl rfl (Nat.le_of_ble_eq_true rfl) (Nat.le_of_ble_eq_true rfl) (Nat.le_of_ble_eq_true rfl) rfl ?_
          rintro rQ sQ hpQ
          rw [hpQ.1, hpQ.2]
          show Go w mX8_hits (0, 0) 56 [some (.ref 0), some (.int (iZ h)), some (.int (iZ k)), some (.int (iZ t)), none] [.int (iZ (cS T h k t))] σ (fun r σ' => r = some (.int (iZ (spHits T h k t))) ∧ σ' = σ)
          have b9 := cS_b wT (k := h) (s := k) (t := t) (by omega) (by omega)
          have b10 := cS_nib wT (h := h) (k := k) (t := t) (by omega) (by omega) (by omega)
          refine g_istore (ml' := [some (.ref 0), some (.int (iZ h)), some (.int (iZ k)), some (.int (iZ t)), some (.int (iZ (cS T h k t)))]) (q := 58) dX8_hits_56 rfl (Nat.le_of_ble_eq_true rfl) rfl rfl ?_
          refine g_iload (q := 60) dX8_hits_58 rfl rfl ?_
          refine z_if_ne (t := 68) (q := 63) dX8_hits_60 rfl (by omega) rfl (fun pc11 => ?_) (fun pc11 => ?_)
          · refine g_iload (q := 70) dX8_hits_68 rfl rfl ?_
            refine z_iret dX8_hits_70 rfl ?_
            refine ⟨congrArg (fun z => some (Value.int (iZ z))) ?_, rfl⟩
            unfold spHits; repeat' split
            all_goals first | omega | (exfalso; omega) | (with_reducible rfl) | (exact congrArg T (by omega)) | (exact congrArg S (by omega))
          · refine g_bipush (v := iZ (-4)) (q := 65) dX8_hits_63 (by decide) rfl ?_
            refine g_goto (q := 70) dX8_hits_65 rfl ?_
            refine z_iret dX8_hits_70 rfl ?_
            refine ⟨congrArg (fun z => some (Value.int (iZ z))) ?_, rfl⟩
            unfold spHits; repeat' split
            all_goals first | omega | (exfalso; omega) | (with_reducible rfl) | (exact congrArg T (by omega)) | (exact congrArg S (by omega))
        refine g_iload_n (q := 44) dX8_hits_43 rfl rfl ?_
        refine z_iconst (q := 45) dX8_hits_44 rfl ?_
        refine z_icmp_ne (t := 52) (q := 48) dX8_hits_45 rfl (by omega) rfl (fun pc12 => ?_) (fun pc12 => ?_)
        · refine z_iconst (q := 53) dX8_hits_52 rfl ?_
          exact J6 _ (by omega)
        · refine z_iconst (q := 49) dX8_hits_48 rfl ?_
          refine g_goto (q := 53) dX8_hits_49 rfl ?_
          exact J6 _ (by omega)
      · refine z_iconst (q := 24) dX8_hits_23 rfl ?_
        refine z_iret dX8_hits_24 rfl ?_
        refine ⟨congrArg (fun z => some (Value.int (iZ z))) ?_, rfl⟩
        unfold spHits; repeat' split
        all_goals first | omega | (exfalso; omega) | (with_reducible rfl) | (exact congrArg T (by omega)) | (exact congrArg S (by omega))
theorem r_C_cell (σ : g_H0) (j d : Nat) (L : Int) (tx T S B : Int → Int) (n : Int) (hQ : rC j d L tx T S B n σ) (wT : wfT T) (wS : wfS T S) (x y q : Int) (b_x : -2147483648 ≤ x ∧ x < 2147483648) (b_y : -2147483648 ≤ y ∧ y < 2147483648) (b_q : -2147483648 ≤ q ∧ q < 2147483648) : Ret mX8_cell [.ref 0, .int (iZ x), .int (iZ y), .int (iZ q)] σ (fun r σ' => r = some (.int (iZ (spCell T S x y q))) ∧ σ' = σ) := by
  refine Ret.of moX8_cell.1 (Nat.le_of_ble_eq_true rfl) (fun w => ?_)
  obtain ⟨hjd, c0, hT, ⟨rp, rN, hR⟩, hS, hS0, ⟨nx, hH⟩, ⟨Fe, Wy, Tr, Be, tH, pbh, pbt, pfo, hPl⟩, ⟨sx, sy, sw, sh, hA⟩, hJ, ⟨R0, hD⟩⟩ := id hQ
  obtain ⟨bT, t0, t1, t2, t3, t4, tt, th, tap, tcl, tc2⟩ := id wT
  obtain ⟨j0, j1, ⟨jf, j2, j2'⟩, ⟨jg, j3, j3'⟩, ⟨jC, j4, j4'⟩, j5, j6⟩ := id hJ
  obtain ⟨s0, C, W, K, s1, s2, s3, hC, hW, hK⟩ := id hS
  obtain ⟨w1, w2, w3, w4, w5, w6⟩ := id wS
  show Go w mX8_cell (0, 0) 0 [some (.ref 0), some (.int (iZ x)), some (.int (iZ y)), some (.int (iZ q))] [] σ (fun r σ' => r = some (.int (iZ (spCell T S x y q))) ∧ σ' = σ)
  refine g_aload_n (q := 1) dX8_cell_0 rfl rfl ?_
  refine g_get (q := 4) flX8_57 dX8_cell_1 c0 rfl rfl ?_
  refine g_get (q := 7) flX8_219 dX8_cell_4 j0 rfl rfl ?_
  refine g_iload_n (q := 8) dX8_cell_7 rfl rfl ?_
  refine g_iload_n (q := 9) dX8_cell_8 rfl rfl ?_
  refine g_callV (As := [.int (iZ x), .int (iZ y)]) (rest := []) (q := 12) moX0_has lkX8_cell_222 dX8_cell_9 rfl j1 (r_has σ (j + 1) 0 0 (T 0) (T 1) x y j1 (by omega) (by omega) (by omega) (by omega) (by omega) (by omega)) rfl rfl (Nat.le_of_ble_eq_true rfl) (Nat.le_of_ble_eq_true rfl) (Nat.le_of_ble_eq_true rfl) rfl ?_
  rintro rQ sQ hpQ
  rw [hpQ.1, hpQ.2]
  show Go w mX8_cell (0, 0) 12 [some (.ref 0), some (.int (iZ x)), some (.int (iZ y)), some (.int (iZ q))] [.int (bI (0 ≤ x ∧ x < 0 + (T 0) ∧ 0 ≤ y ∧ y < 0 + (T 1)))] σ (fun r σ' => r = some (.int (iZ (spCell T S x y q))) ∧ σ' = σ)
  refine z_ifB_ne (t := 17) (q := 15) dX8_cell_12 rfl rfl (fun pc1 => ?_) (fun pc1 => ?_)
  · refine g_iload_n (q := 18) dX8_cell_17 rfl rfl ?_
    refine z_table (ts := [44, 57, 67]) (dt := 81) dX8_cell_18 (by omega) rfl rfl rfl ⟨fun pc2 => ?_, fun pc2 => ?_, fun pc2 => ?_, trivial⟩ (fun pc2 => ?_)
    · refine g_aload_n (q := 45) dX8_cell_44 rfl rfl ?_
      refine g_get (q := 48) flX8_26 dX8_cell_45 c0 rfl rfl ?_
      refine g_iload_n (q := 49) dX8_cell_48 rfl rfl ?_
      refine g_iload_n (q := 50) dX8_cell_49 rfl rfl ?_
      refine g_callV (As := [.int (iZ x), .int (iZ y)]) (rest := []) (q := 53) moX5_isCellCut lkX8_cell_226 dX8_cell_50 rfl s0 (r_isCellCut σ 5 T S hS wT wS x y (by omega) (by omega)) rfl rfl (Nat.le_of_ble_eq_true rfl) (Nat.le_of_ble_eq_true rfl) (Nat.le_of_ble_eq_true rfl) rfl ?_
      rintro rQ sQ hpQ
      rw [hpQ.1, hpQ.2]
      show Go w mX8_cell (0, 0) 53 [some (.ref 0), some (.int (iZ x)), some (.int (iZ y)), some (.int (iZ q))] [.int (bI (S (12 * y + x) = 1))] σ (fun r σ' => r = some (.int (iZ (spCell T S x y q))) ∧ σ' = σ)
      have b3 := w1 (12 * y + x) (by omega) (by omega)
      refine g_callS (As := [.int (bI (S (12 * y + x) = 1))]) (rest := []) (q := 56) moX8_asFlag lkX8_cell_185 dX8_cell_53 (r_asFlag σ (S (12 * y + x) = 1)) rfl rfl (Nat.le_of_ble_eq_true rfl) (Nat.le_of_ble_eq_true rfl) (Nat.le_of_ble_eq_true rfl) rfl ?_
      rintro rQ sQ hpQ
      rw [hpQ.1, hpQ.2]
      show Go w mX8_cell (0, 0) 56 [some (.ref 0), some (.int (iZ x)), some (.int (iZ y)), some (.int (iZ q))] [.int (bI (S (12 * y + x) = 1))] σ (fun r σ' => r = some (.int (iZ (spCell T S x y q))) ∧ σ' = σ)
      refine z_iret dX8_cell_56 rfl ?_
      refine ⟨congrArg (fun v => some (Value.int v)) ((bI_z _).trans (congrArg iZ ?_)), rfl⟩
      unfold spCell; repeat' split
      all_goals first | omega | (exfalso; omega) | (with_reducible rfl) | (exact congrArg T (by omega)) | (exact congrArg S (by omega))
    · refine g_aload_n (q := 58) dX8_cell_57 rfl rfl ?_
      refine g_get (q := 61) flX8_57 dX8_cell_58 c0 rfl rfl ?_
      refine g_iload_n (q := 62) dX8_cell_61 rfl rfl ?_
      refine g_iload_n (q := 63) dX8_cell_62 rfl rfl ?_
      refine g_callV (As := [.int (iZ x), .int (iZ y)]) (rest := []) (q := 66) moX2_holeAt lkX8_cell_229 dX8_cell_63 rfl j0 (r_holeAt σ j T hJ wT x y (by omega) (by omega)) rfl rfl (Nat.le_of_ble_eq_true rfl) (Nat.le_of_ble_eq_true rfl) (Nat.le_of_ble_eq_true rfl) rfl ?_
      rintro rQ sQ hpQ
      rw [hpQ.1, hpQ.2]
      show Go w mX8_cell (0, 0) 66 [some (.ref 0), some (.int (iZ x)), some (.int (iZ y)), some (.int (iZ q))] [.int (iZ (mHole T x y))] σ (fun r σ' => r = some (.int (iZ (spCell T S x y q))) ∧ σ' = σ)
      have b4 := mHole_b T x y t3
      refine z_iret dX8_cell_66 rfl ?_
      refine ⟨congrArg (fun z => some (Value.int (iZ z))) ?_, rfl⟩
      unfold spCell; repeat' split
      all_goals first | omega | (exfalso; omega) | (with_reducible rfl) | (exact congrArg T (by omega)) | (exact congrArg S (by omega))
    · refine g_aload_n (q := 68) dX8_cell_67 rfl rfl ?_
      refine g_get (q := 71) flX8_26 dX8_cell_68 c0 rfl rfl ?_
      refine g_aload_n (q := 72) dX8_cell_71 rfl rfl ?_
      refine g_get (q := 75) flX8_57 dX8_cell_72 c0 rfl rfl ?_
      refine g_iload_n (q := 76) dX8_cell_75 rfl rfl ?_
      refine g_iload_n (q := 77) dX8_cell_76 rfl rfl ?_
      refine g_callV (As := [.ref j, .int (iZ x), .int (iZ y)]) (rest := []) (q := 80) moX5_clampAt lkX8_cell_232 dX8_cell_77 rfl s0 (r_clampAt σ 5 j T S hS hJ wT wS x y (by omega) (by omega)) rfl rfl (Nat.le_of_ble_eq_true rfl) (Nat.le_of_ble_eq_true rfl) (Nat.le_of_ble_eq_true rfl) rfl ?_
      rintro rQ sQ hpQ
      rw [hpQ.1, hpQ.2]
      show Go w mX8_cell (0, 0) 80 [some (.ref 0), some (.int (iZ x)), some (.int (iZ y)), some (.int (iZ q))] [.int (iZ (mClamp T S x y))] σ (fun r σ' => r = some (.int (iZ (spCell T S x y q))) ∧ σ' = σ)
      have b5 := mClamp_b T S x y t4
      refine z_iret dX8_cell_80 rfl ?_
      refine ⟨congrArg (fun z => some (Value.int (iZ z))) ?_, rfl⟩
      unfold spCell; repeat' split
      all_goals first | omega | (exfalso; omega) | (with_reducible rfl) | (exact congrArg T (by omega)) | (exact congrArg S (by omega))
    · refine z_iconst (q := 82) dX8_cell_81 rfl ?_
      refine z_iret dX8_cell_82 rfl ?_
      refine ⟨congrArg (fun z => some (Value.int (iZ z))) ?_, rfl⟩
      unfold spCell; repeat' split
      all_goals first | omega | (exfalso; omega) | (with_reducible rfl) | (exact congrArg T (by omega)) | (exact congrArg S (by omega))
  · refine z_iconst (q := 16) dX8_cell_15 rfl ?_
    refine z_iret dX8_cell_16 rfl ?_
    refine ⟨congrArg (fun z => some (Value.int (iZ z))) ?_, rfl⟩
    unfold spCell; repeat' split
    all_goals first | omega | (exfalso; omega) | (with_reducible rfl) | (exact congrArg T (by omega)) | (exact congrArg S (by omega))
def cSg (T S : Int → Int) (x y : Int) : Int := if mClamp T S x y ≠ -4 then 99 else if S (12 * y + x) = 1 then 111 else if mHole T x y ≠ -4 then 35 else 46
theorem r_C_signAt (σ : g_H0) (j d : Nat) (L : Int) (tx T S B : Int → Int) (n : Int) (hQ : rC j d L tx T S B n σ) (wT : wfT T) (wS : wfS T S) (x y : Int) (bx : 0 ≤ x ∧ x < T 0) (by_ : 0 ≤ y ∧ y < T 1) : Ret mX8_signAt [.ref 0, .int (iZ x), .int (iZ y)] σ (fun r σ' => r = some (.int (iZ (cSg T S x y))) ∧ σ' = σ) := by
  refine Ret.of moX8_signAt.1 (Nat.le_of_ble_eq_true rfl) (fun w => ?_)
  obtain ⟨hjd, c0, hT, ⟨rp, rN, hR⟩, hS, hS0, ⟨nx, hH⟩, ⟨Fe, Wy, Tr, Be, tH, pbh, pbt, pfo, hPl⟩, ⟨sx, sy, sw, sh, hA⟩, hJ, ⟨R0, hD⟩⟩ := id hQ
  obtain ⟨bT, t0, t1, t2, t3, t4, tt, th, tap, tcl, tc2⟩ := id wT
  obtain ⟨j0, j1, ⟨jf, j2, j2'⟩, ⟨jg, j3, j3'⟩, ⟨jC, j4, j4'⟩, j5, j6⟩ := id hJ
  obtain ⟨s0, C, W, K, s1, s2, s3, hC, hW, hK⟩ := id hS
  obtain ⟨w1, w2, w3, w4, w5, w6⟩ := id wS
  show Go w mX8_signAt (0, 0) 0 [some (.ref 0), some (.int (iZ x)), some (.int (iZ y))] [] σ (fun r σ' => r = some (.int (iZ (cSg T S x y))) ∧ σ' = σ)
  refine g_aload_n (q := 1) dX8_signAt_0 rfl rfl ?_
  refine g_get (q := 4) flX8_26 dX8_signAt_1 c0 rfl rfl ?_
  refine g_aload_n (q := 5) dX8_signAt_4 rfl rfl ?_
  refine g_get (q := 8) flX8_57 dX8_signAt_5 c0 rfl rfl ?_
  refine g_iload_n (q := 9) dX8_signAt_8 rfl rfl ?_
  refine g_iload_n (q := 10) dX8_signAt_9 rfl rfl ?_
  refine g_callV (As := [.ref j, .int (iZ x), .int (iZ y)]) (rest := []) (q := 13) moX5_clampAt lkX8_signAt_232 dX8_signAt_10 rfl s0 (r_clampAt σ 5 j T S hS hJ wT wS x y (by omega) (by omega)) rfl rfl (Nat.le_of_ble_eq_true rfl) (Nat.le_of_ble_eq_true rfl) (Nat.le_of_ble_eq_true rfl) rfl ?_
  rintro rQ sQ hpQ
  rw [hpQ.1, hpQ.2]
  show Go w mX8_signAt (0, 0) 13 [some (.ref 0), some (.int (iZ x)), some (.int (iZ y))] [.int (iZ (mClamp T S x y))] σ (fun r σ' => r = some (.int (iZ (cSg T S x y))) ∧ σ' = σ)
  have b1 := mClamp_b T S x y t4
  refine g_bipush (v := iZ (-4)) (q := 15) dX8_signAt_13 (by decide) rfl ?_
  refine z_icmp_eq (t := 21) (q := 18) dX8_signAt_15 rfl (by omega) rfl (fun pc2 => ?_) (fun pc2 => ?_)
  · refine g_aload_n (q := 22) dX8_signAt_21 rfl rfl ?_
    refine g_get (q := 25) flX8_26 dX8_signAt_22 c0 rfl rfl ?_
    refine g_iload_n (q := 26) dX8_signAt_25 rfl rfl ?_
    refine g_iload_n (q := 27) dX8_signAt_26 rfl rfl ?_
    refine g_callV (As := [.int (iZ x), .int (iZ y)]) (rest := []) (q := 30) moX5_isCellCut lkX8_signAt_226 dX8_signAt_27 rfl s0 (r_isCellCut σ 5 T S hS wT wS x y (by omega) (by omega)) rfl rfl (Nat.le_of_ble_eq_true rfl) (Nat.le_of_ble_eq_true rfl) (Nat.le_of_ble_eq_true rfl) rfl ?_
    rintro rQ sQ hpQ
    rw [hpQ.1, hpQ.2]
    show Go w mX8_signAt (0, 0) 30 [some (.ref 0), some (.int (iZ x)), some (.int (iZ y))] [.int (bI (S (12 * y + x) = 1))] σ (fun r σ' => r = some (.int (iZ (cSg T S x y))) ∧ σ' = σ)
    have b3 := w1 (12 * y + x) (by omega) (by omega)
    refine z_ifB_eq (t := 36) (q := 33) dX8_signAt_30 rfl rfl (fun pc4 => ?_) (fun pc4 => ?_)
    · refine g_aload_n (q := 37) dX8_signAt_36 rfl rfl ?_
      refine g_get (q := 40) flX8_57 dX8_signAt_37 c0 rfl rfl ?_
      refine g_iload_n (q := 41) dX8_signAt_40 rfl rfl ?_
      refine g_iload_n (q := 42) dX8_signAt_41 rfl rfl ?_
      refine g_callV (As := [.int (iZ x), .int (iZ y)]) (rest := []) (q := 45) moX2_holeAt lkX8_signAt_229 dX8_signAt_42 rfl j0 (r_holeAt σ j T hJ wT x y (by omega) (by omega)) rfl rfl (Nat.le_of_ble_eq_true rfl) (Nat.le_of_ble_eq_true rfl) (Nat.le_of_ble_eq_true rfl) rfl ?_
      rintro rQ sQ hpQ
      rw [hpQ.1, hpQ.2]
      show Go w mX8_signAt (0, 0) 45 [some (.ref 0), some (.int (iZ x)), some (.int (iZ y))] [.int (iZ (mHole T x y))] σ (fun r σ' => r = some (.int (iZ (cSg T S x y))) ∧ σ' = σ)
      have b5 := mHole_b T x y t3
      refine g_bipush (v := iZ (-4)) (q := 47) dX8_signAt_45 (by decide) rfl ?_
      refine z_icmp_eq (t := 55) (q := 50) dX8_signAt_47 rfl (by omega) rfl (fun pc6 => ?_) (fun pc6 => ?_)
      · refine g_bipush (v := iZ 46) (q := 57) dX8_signAt_55 (by decide) rfl ?_
        refine z_zret dX8_signAt_57 rfl (ch_ret (by omega)) ?_
        refine ⟨congrArg (fun z => some (Value.int (iZ z))) ?_, rfl⟩
        unfold cSg; repeat' split
        all_goals first | omega | (exfalso; omega) | (with_reducible rfl) | (exact congrArg T (by omega)) | (exact congrArg S (by omega))
      · refine g_bipush (v := iZ 35) (q := 52) dX8_signAt_50 (by decide) rfl ?_
        refine g_goto (q := 57) dX8_signAt_52 rfl ?_
        refine z_zret dX8_signAt_57 rfl (ch_ret (by omega)) ?_
        refine ⟨congrArg (fun z => some (Value.int (iZ z))) ?_, rfl⟩
        unfold cSg; repeat' split
        all_goals first | omega | (exfalso; omega) | (with_reducible rfl) | (exact congrArg T (by omega)) | (exact congrArg S (by omega))
    · refine g_bipush (v := iZ 111) (q := 35) dX8_signAt_33 (by decide) rfl ?_
      refine z_zret dX8_signAt_35 rfl (ch_ret (by omega)) ?_
      refine ⟨congrArg (fun z => some (Value.int (iZ z))) ?_, rfl⟩
      unfold cSg; repeat' split
      all_goals first | omega | (exfalso; omega) | (with_reducible rfl) | (exact congrArg T (by omega)) | (exact congrArg S (by omega))
  · refine g_bipush (v := iZ 99) (q := 20) dX8_signAt_18 (by decide) rfl ?_
    refine z_zret dX8_signAt_20 rfl (ch_ret (by omega)) ?_
    refine ⟨congrArg (fun z => some (Value.int (iZ z))) ?_, rfl⟩
    unfold cSg; repeat' split
    all_goals first | omega | (exfalso; omega) | (with_reducible rfl) | (exact congrArg T (by omega)) | (exact congrArg S (by omega))
theorem l_drawn (w : g_W) (σ : g_H0) (j d : Nat) (L : Int) (tx T S B : Int → Int) (n_ : Int) (hQ : rC j d L tx T S B n_ σ) (wT : wfT T) (wS : wfS T S) (k : Int) (b_k : -2147483648 ≤ k ∧ k < 2147483648) (k0 : 0 ≤ k) : ∀ (n : Nat) (l y : Int), 0 ≤ y → y + n = T 1 → (0 ≤ l ∧ l ≤ k) → k = (T 0 + 1) * y + l → Go w mX8_drawn (0, 0) 10 [some (.ref 0), some (.int (iZ k)), some (.int (iZ l)), some (.int (iZ y))] [] σ (fun r σ' => r = some (.int (iZ (spDrawn T S k))) ∧ σ' = σ) := by
  intro n
  induction n with
  | zero =>
    intro l y y0 y1 l0 hk
    obtain ⟨hjd, c0, hT, ⟨rp, rN, hR⟩, hS, hS0, ⟨nx, hH⟩, ⟨Fe, Wy, Tr, Be, tH, pbh, pbt, pfo, hPl⟩, ⟨sx, sy, sw, sh, hA⟩, hJ, ⟨R0, hD⟩⟩ := id hQ
    obtain ⟨bT, t0, t1, t2, t3, t4, tt, th, tap, tcl, tc2⟩ := id wT
    obtain ⟨j0, j1, ⟨jf, j2, j2'⟩, ⟨jg, j3, j3'⟩, ⟨jC, j4, j4'⟩, j5, j6⟩ := id hJ
    obtain ⟨s0, C, W, K, s1, s2, s3, hC, hW, hK⟩ := id hS
    obtain ⟨w1, w2, w3, w4, w5, w6⟩ := id wS
    refine g_iload_n (q := 11) dX8_drawn_10 rfl rfl ?_
    refine g_aload_n (q := 12) dX8_drawn_11 rfl rfl ?_
    refine g_get (q := 15) flX8_57 dX8_drawn_12 c0 rfl rfl ?_
    refine g_get (q := 18) flX8_219 dX8_drawn_15 j0 rfl rfl ?_
    refine g_get (q := 21) flX8_210 dX8_drawn_18 j1 rfl rfl ?_
    refine z_icmp_ge (t := 83) (q := 24) dX8_drawn_21 rfl (by omega) rfl (fun pc1 => ?_) (fun pc1 => ?_)
    · refine g_bipush (v := iZ (-4)) (q := 85) dX8_drawn_83 (by decide) rfl ?_
      refine z_iret dX8_drawn_85 rfl ?_
      refine ⟨congrArg (fun z => some (Value.int (iZ z))) ?_, rfl⟩
      have hq : T 1 ≤ k / (T 0 + 1) := by rw [Int.le_ediv_iff_mul_le (by omega), Int.mul_comm]; rw [show T 1 = y by omega]; omega
      unfold spDrawn; rw [if_neg (by omega), if_pos (by omega)]
    · exfalso
      omega
  | succ n ih =>
    intro l y y0 y1 l0 hk
    obtain ⟨hjd, c0, hT, ⟨rp, rN, hR⟩, hS, hS0, ⟨nx, hH⟩, ⟨Fe, Wy, Tr, Be, tH, pbh, pbt, pfo, hPl⟩, ⟨sx, sy, sw, sh, hA⟩, hJ, ⟨R0, hD⟩⟩ := id hQ
    obtain ⟨bT, t0, t1, t2, t3, t4, tt, th, tap, tcl, tc2⟩ := id wT
    obtain ⟨j0, j1, ⟨jf, j2, j2'⟩, ⟨jg, j3, j3'⟩, ⟨jC, j4, j4'⟩, j5, j6⟩ := id hJ
    obtain ⟨s0, C, W, K, s1, s2, s3, hC, hW, hK⟩ := id hS
    obtain ⟨w1, w2, w3, w4, w5, w6⟩ := id wS
    refine g_iload_n (q := 11) dX8_drawn_10 rfl rfl ?_
    refine g_aload_n (q := 12) dX8_drawn_11 rfl rfl ?_
    refine g_get (q := 15) flX8_57 dX8_drawn_12 c0 rfl rfl ?_
    refine g_get (q := 18) flX8_219 dX8_drawn_15 j0 rfl rfl ?_
    refine g_get (q := 21) flX8_210 dX8_drawn_18 j1 rfl rfl ?_
    refine z_icmp_ge (t := 83) (q := 24) dX8_drawn_21 rfl (by omega) rfl (fun pc1 => ?_) (fun pc1 => ?_)
    · exfalso
      omega
    · refine g_iload_n (q := 25) dX8_drawn_24 rfl rfl ?_
      refine g_aload_n (q := 26) dX8_drawn_25 rfl rfl ?_
      refine g_get (q := 29) flX8_57 dX8_drawn_26 c0 rfl rfl ?_
      refine g_get (q := 32) flX8_219 dX8_drawn_29 j0 rfl rfl ?_
      refine g_get (q := 35) flX8_209 dX8_drawn_32 j1 rfl rfl ?_
      refine z_icmp_ge (t := 45) (q := 38) dX8_drawn_35 rfl (by omega) rfl (fun pc2 => ?_) (fun pc2 => ?_)
      · refine g_iload_n (q := 46) dX8_drawn_45 rfl rfl ?_
        refine g_aload_n (q := 47) dX8_drawn_46 rfl rfl ?_
        refine g_get (q := 50) flX8_57 dX8_drawn_47 c0 rfl rfl ?_
        refine g_get (q := 53) flX8_219 dX8_drawn_50 j0 rfl rfl ?_
        refine g_get (q := 56) flX8_209 dX8_drawn_53 j1 rfl rfl ?_
        refine z_icmp_ne (t := 62) (q := 59) dX8_drawn_56 rfl (by omega) rfl (fun pc3 => ?_) (fun pc3 => ?_)
        · refine g_iload_n (q := 63) dX8_drawn_62 rfl rfl ?_
          refine g_aload_n (q := 64) dX8_drawn_63 rfl rfl ?_
          refine g_get (q := 67) flX8_57 dX8_drawn_64 c0 rfl rfl ?_
          refine g_get (q := 70) flX8_219 dX8_drawn_67 j0 rfl rfl ?_
          refine g_get (q := 73) flX8_209 dX8_drawn_70 j1 rfl rfl ?_
          refine z_iconst (q := 74) dX8_drawn_73 rfl ?_
          refine z_iadd (q := 75) dX8_drawn_74 rfl ?_
          refine z_isubc (c := (l - (T 0) - 1)) (q := 76) dX8_drawn_75 (by omega) rfl ?_
          refine g_istore_n (ml' := [some (.ref 0), some (.int (iZ k)), some (.int (iZ (l - (T 0) - 1))), some (.int (iZ y))]) (q := 77) dX8_drawn_76 rfl (Nat.le_of_ble_eq_true rfl) rfl rfl ?_
          refine z_iincc (c := (y + 1)) (ml' := [some (.ref 0), some (.int (iZ k)), some (.int (iZ (l - (T 0) - 1))), some (.int (iZ (y + 1)))]) (q := 80) dX8_drawn_77 rfl (by omega) rfl rfl rfl ?_
          refine g_goto (q := 10) dX8_drawn_80 rfl ?_
          refine ih (l - (T 0) - 1) (y + 1) (by omega) (by omega) (by omega) ?_
          rw [Int.mul_add, Int.mul_one]; omega
        · refine g_bipush (v := iZ 47) (q := 61) dX8_drawn_59 (by decide) rfl ?_
          refine z_iret dX8_drawn_61 rfl ?_
          refine ⟨congrArg (fun z => some (Value.int (iZ z))) ?_, rfl⟩
          have dm := div_mod_at (a := T 0 + 1) (r := y) (i := l) (by omega) (by omega)
          rw [← hk] at dm
          unfold spDrawn; rw [dm.1, dm.2, if_neg (by omega), if_neg (by omega)]
          rw [if_pos (by omega)]
      · refine g_aload_n (q := 39) dX8_drawn_38 rfl rfl ?_
        refine g_iload_n (q := 40) dX8_drawn_39 rfl rfl ?_
        refine g_iload_n (q := 41) dX8_drawn_40 rfl rfl ?_
        refine g_callV (As := [.int (iZ l), .int (iZ y)]) (rest := []) (q := 44) moX8_signAt lkX8_drawn_252 dX8_drawn_41 rfl c0 (r_C_signAt σ j d L tx T S B n_ hQ wT wS l y (by omega) (by omega)) rfl rfl (Nat.le_of_ble_eq_true rfl) (Nat.le_of_ble_eq_true rfl) (Nat.le_of_ble_eq_true rfl) rfl ?_
        rintro rQ sQ hpQ
        rw [hpQ.1, hpQ.2]
        show Go w mX8_drawn (0, 0) 44 [some (.ref 0), some (.int (iZ k)), some (.int (iZ l)), some (.int (iZ y))] [.int (iZ (cSg T S l y))] σ (fun r σ' => r = some (.int (iZ (spDrawn T S k))) ∧ σ' = σ)
        refine z_iret dX8_drawn_44 rfl ?_
        refine ⟨congrArg (fun z => some (Value.int (iZ z))) ?_, rfl⟩
        have dm := div_mod_at (a := T 0 + 1) (r := y) (i := l) (by omega) (by omega)
        rw [← hk] at dm
        unfold spDrawn; rw [dm.1, dm.2, if_neg (by omega), if_neg (by omega)]
        rw [if_neg (by omega)]; rfl
theorem r_C_drawn (σ : g_H0) (j d : Nat) (L : Int) (tx T S B : Int → Int) (n : Int) (hQ : rC j d L tx T S B n σ) (wT : wfT T) (wS : wfS T S) (k : Int) (b_k : -2147483648 ≤ k ∧ k < 2147483648) : Ret mX8_drawn [.ref 0, .int (iZ k)] σ (fun r σ' => r = some (.int (iZ (spDrawn T S k))) ∧ σ' = σ) := by
  refine Ret.of moX8_drawn.1 (Nat.le_of_ble_eq_true rfl) (fun w => ?_)
  obtain ⟨hjd, c0, hT, ⟨rp, rN, hR⟩, hS, hS0, ⟨nx, hH⟩, ⟨Fe, Wy, Tr, Be, tH, pbh, pbt, pfo, hPl⟩, ⟨sx, sy, sw, sh, hA⟩, hJ, ⟨R0, hD⟩⟩ := id hQ
  obtain ⟨bT, t0, t1, t2, t3, t4, tt, th, tap, tcl, tc2⟩ := id wT
  obtain ⟨j0, j1, ⟨jf, j2, j2'⟩, ⟨jg, j3, j3'⟩, ⟨jC, j4, j4'⟩, j5, j6⟩ := id hJ
  obtain ⟨s0, C, W, K, s1, s2, s3, hC, hW, hK⟩ := id hS
  obtain ⟨w1, w2, w3, w4, w5, w6⟩ := id wS
  show Go w mX8_drawn (0, 0) 0 [some (.ref 0), some (.int (iZ k)), none, none] [] σ (fun r σ' => r = some (.int (iZ (spDrawn T S k))) ∧ σ' = σ)
  refine g_iload_n (q := 1) dX8_drawn_0 rfl rfl ?_
  refine z_if_ge (t := 6) (q := 4) dX8_drawn_1 rfl (by omega) rfl (fun pc1 => ?_) (fun pc1 => ?_)
  · refine g_iload_n (q := 7) dX8_drawn_6 rfl rfl ?_
    refine g_istore_n (ml' := [some (.ref 0), some (.int (iZ k)), some (.int (iZ k)), none]) (q := 8) dX8_drawn_7 rfl (Nat.le_of_ble_eq_true rfl) rfl rfl ?_
    refine z_iconst (q := 9) dX8_drawn_8 rfl ?_
    refine g_istore_n (ml' := [some (.ref 0), some (.int (iZ k)), some (.int (iZ k)), some (.int (iZ 0))]) (q := 10) dX8_drawn_9 rfl (Nat.le_of_ble_eq_true rfl) rfl rfl ?_
    exact l_drawn w σ j d L tx T S B n hQ wT wS k b_k (by omega) (T 1).toNat k 0 (by omega) (by omega) (by omega) (by rw [Int.mul_zero]; omega)
  · refine z_iconst (q := 5) dX8_drawn_4 rfl ?_
    refine z_iret dX8_drawn_5 rfl ?_
    refine ⟨congrArg (fun z => some (Value.int (iZ z))) ?_, rfl⟩
    unfold spDrawn; rw [if_pos (by omega)]
theorem r_C_count (σ : g_H0) (j d : Nat) (L : Int) (tx T S B : Int → Int) (n : Int) (hQ : rC j d L tx T S B n σ) (wT : wfT T) (wS : wfS T S) (q : Int) (b_q : -2147483648 ≤ q ∧ q < 2147483648) : Ret mX8_count [.ref 0, .int (iZ q)] σ (fun r σ' => r = some (.int (iZ (spCount T S n L q))) ∧ σ' = σ) := by
  refine Ret.of moX8_count.1 (Nat.le_of_ble_eq_true rfl) (fun w => ?_)
  obtain ⟨hjd, c0, hT, ⟨rp, rN, hR⟩, hS, hS0, ⟨nx, hH⟩, ⟨Fe, Wy, Tr, Be, tH, pbh, pbt, pfo, hPl⟩, ⟨sx, sy, sw, sh, hA⟩, hJ, ⟨R0, hD⟩⟩ := id hQ
  obtain ⟨bT, t0, t1, t2, t3, t4, tt, th, tap, tcl, tc2⟩ := id wT
  obtain ⟨j0, j1, ⟨jf, j2, j2'⟩, ⟨jg, j3, j3'⟩, ⟨jC, j4, j4'⟩, j5, j6⟩ := id hJ
  obtain ⟨s0, C, W, K, s1, s2, s3, hC, hW, hK⟩ := id hS
  obtain ⟨w1, w2, w3, w4, w5, w6⟩ := id wS
  show Go w mX8_count (0, 0) 0 [some (.ref 0), some (.int (iZ q))] [] σ (fun r σ' => r = some (.int (iZ (spCount T S n L q))) ∧ σ' = σ)
  refine g_iload_n (q := 1) dX8_count_0 rfl rfl ?_
  refine z_table (ts := [68, 79, 90, 98, 106, 114, 122, 130, 138, 146, 158, 166, 174]) (dt := 182) dX8_count_1 (by omega) rfl rfl rfl ⟨fun pc1 => ?_, fun pc1 => ?_, fun pc1 => ?_, fun pc1 => ?_, fun pc1 => ?_, fun pc1 => ?_, fun pc1 => ?_, fun pc1 => ?_, fun pc1 => ?_, fun pc1 => ?_, fun pc1 => ?_, fun pc1 => ?_, fun pc1 => ?_, trivial⟩ (fun pc1 => ?_)
  · refine g_aload_n (q := 69) dX8_count_68 rfl rfl ?_
    refine g_get (q := 72) flX8_57 dX8_count_69 c0 rfl rfl ?_
    refine g_get (q := 75) flX8_219 dX8_count_72 j0 rfl rfl ?_
    refine g_get (q := 78) flX8_209 dX8_count_75 j1 rfl rfl ?_
    refine z_iret dX8_count_78 rfl ?_
    refine ⟨congrArg (fun z => some (Value.int (iZ z))) ?_, rfl⟩
    unfold spCount; repeat' split
    all_goals first | omega | (exfalso; omega) | (with_reducible rfl) | (exact congrArg T (by omega)) | (exact congrArg S (by omega))
  · refine g_aload_n (q := 80) dX8_count_79 rfl rfl ?_
    refine g_get (q := 83) flX8_57 dX8_count_80 c0 rfl rfl ?_
    refine g_get (q := 86) flX8_219 dX8_count_83 j0 rfl rfl ?_
    refine g_get (q := 89) flX8_210 dX8_count_86 j1 rfl rfl ?_
    refine z_iret dX8_count_89 rfl ?_
    refine ⟨congrArg (fun z => some (Value.int (iZ z))) ?_, rfl⟩
    unfold spCount; repeat' split
    all_goals first | omega | (exfalso; omega) | (with_reducible rfl) | (exact congrArg T (by omega)) | (exact congrArg S (by omega))
  · refine g_aload_n (q := 91) dX8_count_90 rfl rfl ?_
    refine g_get (q := 94) flX8_57 dX8_count_91 c0 rfl rfl ?_
    refine g_get (q := 97) flX8_94 dX8_count_94 j0 rfl rfl ?_
    refine z_iret dX8_count_97 rfl ?_
    refine ⟨congrArg (fun z => some (Value.int (iZ z))) ?_, rfl⟩
    unfold spCount; repeat' split
    all_goals first | omega | (exfalso; omega) | (with_reducible rfl) | (exact congrArg T (by omega)) | (exact congrArg S (by omega))
  · refine g_aload_n (q := 99) dX8_count_98 rfl rfl ?_
    refine g_get (q := 102) flX8_57 dX8_count_99 c0 rfl rfl ?_
    refine g_get (q := 105) flX8_256 dX8_count_102 j0 rfl rfl ?_
    refine z_iret dX8_count_105 rfl ?_
    refine ⟨congrArg (fun z => some (Value.int (iZ z))) ?_, rfl⟩
    unfold spCount; repeat' split
    all_goals first | omega | (exfalso; omega) | (with_reducible rfl) | (exact congrArg T (by omega)) | (exact congrArg S (by omega))
  · refine g_aload_n (q := 107) dX8_count_106 rfl rfl ?_
    refine g_get (q := 110) flX8_57 dX8_count_107 c0 rfl rfl ?_
    refine g_get (q := 113) flX8_259 dX8_count_110 j0 rfl rfl ?_
    refine z_iret dX8_count_113 rfl ?_
    refine ⟨congrArg (fun z => some (Value.int (iZ z))) ?_, rfl⟩
    unfold spCount; repeat' split
    all_goals first | omega | (exfalso; omega) | (with_reducible rfl) | (exact congrArg T (by omega)) | (exact congrArg S (by omega))
  · refine g_aload_n (q := 115) dX8_count_114 rfl rfl ?_
    refine g_get (q := 118) flX8_26 dX8_count_115 c0 rfl rfl ?_
    refine g_get (q := 121) flX8_262 dX8_count_118 s0 rfl rfl ?_
    refine z_iret dX8_count_121 rfl ?_
    refine ⟨congrArg (fun z => some (Value.int (iZ z))) ?_, rfl⟩
    unfold spCount; repeat' split
    all_goals first | omega | (exfalso; omega) | (with_reducible rfl) | (exact congrArg T (by omega)) | (exact congrArg S (by omega))
  · refine g_aload_n (q := 123) dX8_count_122 rfl rfl ?_
    refine g_get (q := 126) flX8_26 dX8_count_123 c0 rfl rfl ?_
    refine g_get (q := 129) flX8_265 dX8_count_126 s0 rfl rfl ?_
    refine z_iret dX8_count_129 rfl ?_
    refine ⟨congrArg (fun z => some (Value.int (iZ z))) ?_, rfl⟩
    unfold spCount; repeat' split
    all_goals first | omega | (exfalso; omega) | (with_reducible rfl) | (exact congrArg T (by omega)) | (exact congrArg S (by omega))
  · refine g_aload_n (q := 131) dX8_count_130 rfl rfl ?_
    refine g_get (q := 134) flX8_26 dX8_count_131 c0 rfl rfl ?_
    refine g_get (q := 137) flX8_162 dX8_count_134 s0 rfl rfl ?_
    refine z_iret dX8_count_137 rfl ?_
    refine ⟨congrArg (fun z => some (Value.int (iZ z))) ?_, rfl⟩
    unfold spCount; repeat' split
    all_goals first | omega | (exfalso; omega) | (with_reducible rfl) | (exact congrArg T (by omega)) | (exact congrArg S (by omega))
  · refine g_aload_n (q := 139) dX8_count_138 rfl rfl ?_
    refine g_get (q := 142) flX8_26 dX8_count_139 c0 rfl rfl ?_
    refine g_callV (As := []) (rest := []) (q := 145) moX5_cutCells lkX8_count_268 dX8_count_142 rfl s0 (r_cutCells σ 5 T S hS wT wS) rfl rfl (Nat.le_of_ble_eq_true rfl) (Nat.le_of_ble_eq_true rfl) (Nat.le_of_ble_eq_true rfl) rfl ?_
    rintro rQ sQ hpQ
    rw [hpQ.1, hpQ.2]
    show Go w mX8_count (0, 0) 145 [some (.ref 0), some (.int (iZ q))] [.int (iZ (cCutF S 12 0 0))] σ (fun r σ' => r = some (.int (iZ (spCount T S n L q))) ∧ σ' = σ)
    rw [cut_eq]
    show Go w mX8_count (0, 0) 145 [some (.ref 0), some (.int (iZ q))] [.int (iZ (mCutN S 144 0 0))] σ (fun r σ' => r = some (.int (iZ (spCount T S n L q))) ∧ σ' = σ)
    refine z_iret dX8_count_145 rfl ?_
    refine ⟨congrArg (fun z => some (Value.int (iZ z))) ?_, rfl⟩
    unfold spCount; repeat' split
    all_goals first | omega | (exfalso; omega) | (with_reducible rfl) | (exact congrArg T (by omega)) | (exact congrArg S (by omega))
  · refine g_aload_n (q := 147) dX8_count_146 rfl rfl ?_
    refine g_get (q := 150) flX8_26 dX8_count_147 c0 rfl rfl ?_
    refine g_aload_n (q := 151) dX8_count_150 rfl rfl ?_
    refine g_get (q := 154) flX8_57 dX8_count_151 c0 rfl rfl ?_
    refine g_callV (As := [.ref j]) (rest := []) (q := 157) moX5_holesDone lkX8_count_271 dX8_count_154 rfl s0 (r_holesDone σ 5 j T S hS hJ wT wS) rfl rfl (Nat.le_of_ble_eq_true rfl) (Nat.le_of_ble_eq_true rfl) (Nat.le_of_ble_eq_true rfl) rfl ?_
    rintro rQ sQ hpQ
    rw [hpQ.1, hpQ.2]
    show Go w mX8_count (0, 0) 157 [some (.ref 0), some (.int (iZ q))] [.int (iZ (cDoneF T S (T 3).toNat 0 0))] σ (fun r σ' => r = some (.int (iZ (spCount T S n L q))) ∧ σ' = σ)
    rw [done_eq wT (T 3).toNat 0 0 (by omega) (by omega)]
    show Go w mX8_count (0, 0) 157 [some (.ref 0), some (.int (iZ q))] [.int (iZ (mDoneN T S (T 3).toNat 0 0))] σ (fun r σ' => r = some (.int (iZ (spCount T S n L q))) ∧ σ' = σ)
    refine z_iret dX8_count_157 rfl ?_
    refine ⟨congrArg (fun z => some (Value.int (iZ z))) ?_, rfl⟩
    unfold spCount; repeat' split
    all_goals first | omega | (exfalso; omega) | (with_reducible rfl) | (exact congrArg T (by omega)) | (exact congrArg S (by omega))
  · refine g_aload_n (q := 159) dX8_count_158 rfl rfl ?_
    refine g_get (q := 162) flX8_26 dX8_count_159 c0 rfl rfl ?_
    refine g_get (q := 165) flX8_196 dX8_count_162 s0 rfl rfl ?_
    refine z_iret dX8_count_165 rfl ?_
    refine ⟨congrArg (fun z => some (Value.int (iZ z))) ?_, rfl⟩
    unfold spCount; repeat' split
    all_goals first | omega | (exfalso; omega) | (with_reducible rfl) | (exact congrArg T (by omega)) | (exact congrArg S (by omega))
  · refine g_aload_n (q := 167) dX8_count_166 rfl rfl ?_
    refine g_get (q := 170) flX8_36 dX8_count_167 c0 rfl rfl ?_
    refine g_get (q := 173) flX8_172 dX8_count_170 hH.1 rfl rfl ?_
    refine z_iret dX8_count_173 rfl ?_
    refine ⟨congrArg (fun z => some (Value.int (iZ z))) ?_, rfl⟩
    unfold spCount; repeat' split
    all_goals first | omega | (exfalso; omega) | (with_reducible rfl) | (exact congrArg T (by omega)) | (exact congrArg S (by omega))
  · refine g_aload_n (q := 175) dX8_count_174 rfl rfl ?_
    refine g_get (q := 178) flX8_10 dX8_count_175 c0 rfl rfl ?_
    refine g_get (q := 181) flX8_87 dX8_count_178 hT.1 rfl rfl ?_
    refine z_iret dX8_count_181 rfl ?_
    refine ⟨congrArg (fun z => some (Value.int (iZ z))) ?_, rfl⟩
    unfold spCount; repeat' split
    all_goals first | omega | (exfalso; omega) | (with_reducible rfl) | (exact congrArg T (by omega)) | (exact congrArg S (by omega))
  · refine z_iconst (q := 183) dX8_count_182 rfl ?_
    refine z_iret dX8_count_183 rfl ?_
    refine ⟨congrArg (fun z => some (Value.int (iZ z))) ?_, rfl⟩
    unfold spCount; repeat' split
    all_goals first | omega | (exfalso; omega) | (with_reducible rfl) | (exact congrArg T (by omega)) | (exact congrArg S (by omega))
