/-! what stays within its bounds -/
def cZ (R : Int → Int) : Prop := (0 ≤ R 49 ∧ R 49 ≤ 12) ∧ (0 ≤ R 50 ∧ R 50 ≤ 12)
theorem cZ_zup {R : Int → Int} {i v : Int} (h : cZ R) (hi : (i ≠ 49 ∧ i ≠ 50) ∨ (0 ≤ v ∧ v ≤ 12)) : cZ (zup R i v) := by
  obtain ⟨h1, h2⟩ := h
  refine ⟨?_, ?_⟩
  · by_cases e : (49 : Int) = i
    · rw [e, zup_self]; omega
    · rw [zup_ne _ _ e]; exact h1
  · by_cases e : (50 : Int) = i
    · rw [e, zup_self]; omega
    · rw [zup_ne _ _ e]; exact h2
theorem cZ_item {L : Int} {t : Int → Int} (ht : zBt L t) {p : Int} (hp : 0 ≤ p) {R : Int → Int} (h : pR R) (hc : cZ R) (hi : (mItem L t p R).1 ≠ 0) : cZ (mItem L t p R).2.2 := by
  have ok : OKP (fun e R' => e = (mItem L t p R).2.1 ∧ R' = (mItem L t p R).2.2) (mItem L t p R) := ⟨hi, rfl, rfl⟩
  have c0 := h.2.1
  have c2 := h.2.2.1
  have c3 := h.2.2.2.1
  have c4 := h.2.2.2.2.1
  by_cases h1 : wSheet L t p
  · rw [OKP_sheet h1] at ok
    obtain ⟨k0, k1, k2, k3, k4⟩ := ok
    rw [← k4]
    exact cZ_zup (cZ_zup hc (by omega)) (by omega)
  · by_cases h2 : wTool L t p
    · rw [OKP_tool h2 rfl rfl rfl rfl] at ok
      obtain ⟨⟨k0, k0'⟩, k1, k2, k3, k4, k5, k6⟩ := ok
      rw [← k6]
      repeat (first | exact hc | refine cZ_zup ?_ (by omega))
    · by_cases h3 : wHole L t p
      · rw [OKP_hole (by omega) h3 rfl rfl rfl rfl rfl] at ok
        obtain ⟨⟨k0, k0'⟩, k1, k2, k3, k4, kk, k5, k6⟩ := ok
        rw [← k6]
        repeat (first | exact hc | refine cZ_zup ?_ (by omega))
      · by_cases h4 : wClamp L t p
        · rw [OKP_clamp (by omega) h4 rfl] at ok
          obtain ⟨⟨k0, k0'⟩, k1, kk, k5, k6⟩ := ok
          have v1 := k1.2.2.1
          have v2 := k1.2.2.2
          rw [← k6]
          repeat (first | exact hc | refine cZ_zup ?_ (by omega))
        · rw [OKP_none h1 h2 h3 h4] at ok
          exact ok.elim
theorem mFl_cZ {L : Int} {t : Int → Int} (ht : zBt L t) : ∀ {n : Nat} {p : Int} {R : Int → Int}, 0 ≤ p → pR R → cZ R → (mFlF L t n p R).1 = -4 → cZ (mFlF L t n p R).2
  | 0, p, R, hp, h, hc, _ => hc
  | n + 1, p, R, hp, h, hc, e => by
    unfold mFlF at e ⊢
    by_cases h1 : L ≤ p
    · rw [if_pos h1]; exact hc
    · rw [if_neg h1] at e ⊢
      by_cases h2 : (mItem L t p R).1 = 0 ∨ mB L t (mItem L t p R).2.1 ≠ 59
      · rw [if_pos h2] at e; exfalso; have e : p = -4 := e; omega
      · rw [if_neg h2] at e ⊢
        have q := pR_item ht hp h (by omega)
        exact mFl_cZ ht (by omega) q.1 (cZ_item ht hp h hc (by omega)) e
theorem flt_pR {L : Int} {t R : Int → Int} (ht : zBt L t) (h : (mFlt L t R).1 = -4) : pR (mFlt L t R).2 := mFl_pR ht (by omega) (pR_0 _) h
theorem flt_cZ {L : Int} {t R : Int → Int} (ht : zBt L t) (h : (mFlt L t R).1 = -4) : cZ (mFlt L t R).2 := by
  refine mFl_cZ ht (by omega) (pR_0 _) ?_ h
  have e : ∀ k, 0 ≤ k → k < 51 → zcp R (fun _ => 0) 0 0 51 k = 0 := fun k k0 k1 => by unfold zcp; exact if_pos (by omega)
  unfold cZ
  rw [e 49 (by omega) (by omega), e 50 (by omega) (by omega)]
  omega
theorem wfT.of {T F : Int → Int} (hF : pR F) (h2 : F 2 ≠ 0) (hb : zBd T 1000) (e : ∀ k, 0 ≤ k → k < 51 → T k = F k) : wfT T := by
  obtain ⟨b, c0, c2, c3, c4, ct, ch, ca, cc, cd⟩ := hF
  have e0 := e 0 (by omega) (by omega)
  have e1 := e 1 (by omega) (by omega)
  have e2 := e 2 (by omega) (by omega)
  have e3 := e 3 (by omega) (by omega)
  have e4 := e 4 (by omega) (by omega)
  refine ⟨hb, by omega, by omega, by omega, by omega, by omega, fun k k0 k1 => ?_, fun k k0 k1 => ?_, fun k o o0 o1 k1 => ?_, fun k k0 k1 => ?_, fun k1 => ?_⟩
  · rw [e (4 * k + 5) (by omega) (by omega), e (4 * k + 6) (by omega) (by omega), e (4 * k + 7) (by omega) (by omega), e (4 * k + 8) (by omega) (by omega)]
    exact ct k k0 (by omega)
  · rw [e (4 * k + 29) (by omega) (by omega), e (4 * k + 30) (by omega) (by omega), e (4 * k + 31) (by omega) (by omega), e (4 * k + 32) (by omega) (by omega), e0, e1]
    exact ch k k0 (by omega)
  · rw [e (4 * k + 29) (by omega) (by omega), e (4 * k + 30) (by omega) (by omega), e (4 * k + 31) (by omega) (by omega), e (4 * k + 32) (by omega) (by omega), e (4 * o + 29) (by omega) (by omega), e (4 * o + 30) (by omega) (by omega), e (4 * o + 31) (by omega) (by omega), e (4 * o + 32) (by omega) (by omega)]
    exact ca k o o0 o1 (by omega)
  · rw [e (k + 49) (by omega) (by omega), e0]
    exact cc k k0 (by omega)
  · rw [e 49 (by omega) (by omega), e 50 (by omega) (by omega)]
    exact cd (by omega)
theorem wfS.anew {T S : Int → Int} (wT : wfT T) (hc : cZ T) : wfS T (mAnew T S) := by
  have z : ∀ k, 0 ≤ k → k < 156 → k ≠ 151 → k ≠ 152 → mAnew T S k = 0 := by
    intro k k0 k1 k2 k3
    unfold mAnew
    rw [zup_ne _ _ k3, zup_ne _ _ k2]
    unfold zcp
    rw [if_pos (by omega)]
  have z1 : mAnew T S 151 = T 49 := by unfold mAnew; rw [zup_ne _ _ (by omega), zup_self]
  have z2 : mAnew T S 152 = T 50 := by unfold mAnew; rw [zup_self]
  obtain ⟨-, -, -, t2, -, t4, -, -, -, tc, td⟩ := wT
  obtain ⟨h1, h2⟩ := hc
  refine ⟨fun c c0 c1 => by rw [z c c0 (by omega) (by omega) (by omega)]; omega, fun k k0 k1 => by rw [z (k + 144) (by omega) (by omega) (by omega) (by omega)]; omega, by rw [z 150 (by omega) (by omega) (by omega) (by omega)]; omega, fun c c0 c1 => ?_, fun c c0 c1 => ?_, fun h => by rw [z1, z2]; exact td h⟩
  · rcases (by omega : c = 0 ∨ c = 1) with rfl | rfl
    · rw [show (0 : Int) + 151 = 151 by rfl, z1]; exact h1
    · rw [show (1 : Int) + 151 = 152 by rfl, z2]; exact h2
  · have q := tc c c0 c1
    rcases (by omega : c = 0 ∨ c = 1) with rfl | rfl
    · rw [show (0 : Int) + 151 = 151 by rfl, z1]; exact q.2
    · rw [show (1 : Int) + 151 = 152 by rfl, z2]; exact q.2
theorem wfS.cong {T S S' : Int → Int} (h : wfS T S) (t4 : T 4 ≤ 2) (e : ∀ k, 0 ≤ k → k < 156 → S k = S' k) : wfS T S' := by
  obtain ⟨h1, h2, h3, h4, h5, h6⟩ := h
  have e0 := e 150 (by omega) (by omega)
  have e1 := e 151 (by omega) (by omega)
  have e2 := e 152 (by omega) (by omega)
  refine ⟨fun c c0 c1 => by rw [← e c c0 (by omega)]; exact h1 c c0 c1, fun k k0 k1 => by rw [← e (k + 144) (by omega) (by omega)]; exact h2 k k0 k1, by rw [← e0]; exact h3, fun c c0 c1 => by rw [← e (c + 151) (by omega) (by omega)]; exact h4 c c0 c1, fun c c0 c1 => by rw [← e (c + 151) (by omega) (by omega)]; exact h5 c c0 c1, fun h => by rw [← e1, ← e2]; exact h6 h⟩
def wfB (T B : Int → Int) (n : Int) : Prop := ∀ i, 0 ≤ i → i < n → wfS T (bk B i)
theorem wfB.note {T S B : Int → Int} {n : Int} (t4 : T 4 ≤ 2) (h : wfB T B n) (wS : wfS T S) (hn : 0 ≤ n ∧ n ≤ 6) : wfB T (mNoteB B S n) (mNoteN n) ∧ (0 ≤ mNoteN n ∧ mNoteN n ≤ 6) := by
  have nn : mNoteN n = if n = 6 then 6 else n + 1 := rfl
  refine ⟨fun i i0 i1 => ?_, by rw [nn]; split <;> omega⟩
  by_cases e : i = mNoteN n - 1
  · rw [e]
    exact wS.cong t4 (fun k k0 k1 => (noteB_new hn ⟨k0, k1⟩).symm)
  · have r : 0 ≤ n - 1 - (mNoteN n - 2 - i) ∧ n - 1 - (mNoteN n - 2 - i) < n := by
      by_cases g : n = 6
      · rw [if_pos g] at nn; omega
      · rw [if_neg g] at nn; omega
    refine (h _ r.1 r.2).cong t4 (fun k k0 k1 => ?_)
    have q := noteB_old (B := B) (S := S) (n := n) (i := mNoteN n - 2 - i) hn (by omega) ⟨k0, k1⟩
    rw [show mNoteN n - 1 - (mNoteN n - 2 - i + 1) = i by omega] at q
    exact q.symm
def okS (T : Int → Int) (sp : mSp) : Prop := wfS T sp.2.1 ∧ wfB T sp.2.2.1 sp.2.2.2 ∧ (0 ≤ sp.2.2.2 ∧ sp.2.2.2 ≤ 6)
section OK
variable {T S B : Int → Int} {n : Int}
theorem ok_note {v : Int} {S' : Int → Int} (t4 : T 4 ≤ 2) (wS : wfS T S) (wB : wfB T B n) (hn : 0 ≤ n ∧ n ≤ 6) (wS' : wfS T S') : okS T (v, S', mNoteB B S n, mNoteN n) := ⟨wS', (wB.note t4 wS hn).1, (wB.note t4 wS hn).2⟩
theorem ok_same {v : Int} (wS : wfS T S) (wB : wfB T B n) (hn : 0 ≤ n ∧ n ≤ 6) : okS T (v, S, B, n) := ⟨wS, wB, hn⟩
theorem ok_hit (wT : wfT T) (wS : wfS T S) (wB : wfB T B n) (hn : 0 ≤ n ∧ n ≤ 6) (k x y t : Int) : okS T (spHit T S B n k x y t) := by
  have t4 := wT.2.2.2.2.2.1.2
  unfold spHit
  by_cases c : mWhyQ T S k x y t = 0
  · rw [if_pos c]
    have c' := c
    unfold mWhyQ at c'
    split at c'
    · next g => exact ok_note t4 wS wB hn (wS.str wT g.1 c')
    · omega
  · rw [if_neg c]; exact ok_same wS wB hn
theorem ok_nibble (wT : wfT T) (wS : wfS T S) (wB : wfB T B n) (hn : 0 ≤ n ∧ n ≤ 6) (h k t : Int) : okS T (spNibble T S B n h k t) := by
  have t4 := wT.2.2.2.2.2.1.2
  unfold spNibble
  by_cases c : ¬ ((0 ≤ h ∧ h < T 3) ∧ (0 ≤ k ∧ k < T 2) ∧ (0 ≤ t ∧ t ≤ 1))
  · rw [if_pos c]; exact ok_same wS wB hn
  · rw [if_neg c]
    split
    · exact ok_same wS wB hn
    · split
      · exact ok_same wS wB hn
      · exact ok_note t4 wS wB hn (mNibF_wf wT (by omega) _ _ _ _ wS)
theorem ok_sharpen (wT : wfT T) (wS : wfS T S) (wB : wfB T B n) (hn : 0 ≤ n ∧ n ≤ 6) (k : Int) : okS T (spSharpen T S B n k) := by
  have t4 := wT.2.2.2.2.2.1.2
  have t2 := wT.2.2.2.1
  unfold spSharpen
  by_cases c : ¬ (0 ≤ k ∧ k < T 2)
  · rw [if_pos c]; exact ok_same wS wB hn
  · rw [if_neg c]
    split
    · exact ok_same wS wB hn
    · refine ok_note t4 wS wB hn ?_
      obtain ⟨h1, h2, h3, h4, h5, h6⟩ := wS
      refine ⟨fun c c0 c1 => by rw [zup_ne _ _ (by omega)]; exact h1 c c0 c1, fun q q0 q1 => ?_, by rw [zup_ne _ _ (by omega)]; exact h3, fun c c0 c1 => by rw [zup_ne _ _ (by omega)]; exact h4 c c0 c1, fun c c0 c1 => by rw [zup_ne _ _ (by omega)]; exact h5 c c0 c1, fun h => by rw [zup_ne _ _ (by omega), zup_ne _ _ (by omega)]; exact h6 h⟩
      by_cases e : q + 144 = k + 144
      · rw [e, zup_self]; omega
      · rw [zup_ne _ _ e]; exact h2 q q0 q1
theorem ok_clamp (wT : wfT T) (wS : wfS T S) (wB : wfB T B n) (hn : 0 ≤ n ∧ n ≤ 6) (c col : Int) : okS T (spClamp T S B n c col) := by
  have t4 := wT.2.2.2.2.2.1
  have t0 := wT.2.1
  unfold spClamp
  by_cases g : ¬ ((0 ≤ c ∧ c < T 4) ∧ (0 ≤ col ∧ col ≤ T 0 - 2))
  · rw [if_pos g]; exact ok_same wS wB hn
  · rw [if_neg g]
    by_cases g2 : S (c + 151) = col ∨ (T 4 = 2 ∧ (-1 ≤ col - S (-c + 152) ∧ col - S (-c + 152) ≤ 1))
    · rw [if_pos g2]; exact ok_same wS wB hn
    · rw [if_neg g2]
      refine ok_note t4.2 wS wB hn ?_
      obtain ⟨h1, h2, h3, h4, h5, h6⟩ := wS
      have ev : ∀ k, k ≠ 155 → k ≠ c + 151 → zup (zup S (c + 151) col) 155 (zup S (c + 151) col 155 + 1) k = S k := fun k k0 k1 => by rw [zup_ne _ _ k0, zup_ne _ _ k1]
      have es : zup (zup S (c + 151) col) 155 (zup S (c + 151) col 155 + 1) (c + 151) = col := by rw [zup_ne _ _ (by omega), zup_self]
      generalize zup (zup S (c + 151) col) 155 (zup S (c + 151) col 155 + 1) = Z at ev es ⊢
      refine ⟨fun q c0 c1 => by rw [ev q (by omega) (by omega)]; exact h1 q c0 c1, fun q q0 q1 => by rw [ev (q + 144) (by omega) (by omega)]; exact h2 q q0 q1, by rw [ev 150 (by omega) (by omega)]; exact h3, fun q c0 c1 => ?_, fun q c0 c1 => ?_, fun h => ?_⟩
      · by_cases e : q = c
        · rw [e, es]; omega
        · rw [ev (q + 151) (by omega) (by omega)]; exact h4 q c0 c1
      · by_cases e : q = c
        · rw [e, es]; omega
        · rw [ev (q + 151) (by omega) (by omega)]; exact h5 q c0 c1
      · rcases (by omega : c = 0 ∨ c = 1) with rfl | rfl
        · rw [show (0 : Int) + 151 = 151 by rfl] at es
          rw [show (-0 : Int) + 152 = 152 by rfl] at g2
          rw [es, ev 152 (by omega) (by omega)]
          omega
        · rw [show (1 : Int) + 151 = 152 by rfl] at es
          rw [show (-1 : Int) + 152 = 151 by rfl] at g2
          rw [es, ev 151 (by omega) (by omega)]
          omega
theorem ok_undo (wT : wfT T) (wS : wfS T S) (wB : wfB T B n) (hn : 0 ≤ n ∧ n ≤ 6) : okS T (spUndo S B n) := by
  have t4 := wT.2.2.2.2.2.1
  unfold spUndo
  by_cases g : n = 0
  · rw [if_pos g]; exact ok_same wS wB hn
  · rw [if_neg g]
    refine ⟨(wB (n - 1) (by omega) (by omega)).cong t4.2 (fun k k0 k1 => ?_), fun i i0 i1 => wB i i0 (by have i1 : i < n - 1 := i1; omega), by show 0 ≤ n - 1 ∧ n - 1 ≤ 6; omega⟩
    show bk B (n - 1) k = zcp S B 0 (156 * (n - 1)) 156 k
    unfold zcp bk
    rw [if_pos (by omega)]
    congr 1; omega
theorem ok_lay {L : Int} {tx R : Int → Int} (ht : zBt L tx) (wT : wfT T) (wS : wfS T S) (wB : wfB T B n) (hn : 0 ≤ n ∧ n ≤ 6) : wfT (spLay L tx T S B n R).2.1 ∧ okS (spLay L tx T S B n R).2.1 (spLay L tx T S B n R).2.2 := by
  unfold spLay
  by_cases g : (mFlt L tx R).1 = -4 ∧ (mFlt L tx R).2 2 ≠ 0
  · rw [if_pos g]
    have hF := flt_pR ht g.1
    have hc := flt_cZ ht g.1
    have e : ∀ k, 0 ≤ k → k < 51 → zcp T (mFlt L tx R).2 0 0 51 k = (mFlt L tx R).2 k := fun k k0 k1 => zcp_in _ _ ⟨k0, k1⟩
    have w := wfT.of hF g.2 (T := zcp T (mFlt L tx R).2 0 0 51) (fun k => by
      by_cases q : 0 ≤ k ∧ k < 51
      · rw [e k q.1 q.2]; have := hF.1 k q.1 q.2; omega
      · unfold zcp; rw [if_neg (by omega)]; exact wT.1 k) e
    have hc2 : cZ (zcp T (mFlt L tx R).2 0 0 51) := by
      unfold cZ
      rw [e 49 (by omega) (by omega), e 50 (by omega) (by omega)]; exact hc
    exact ⟨w, wfS.anew w hc2, fun i i0 i1 => by have i1 : i < 0 := i1; omega, by show (0 : Int) ≤ 0 ∧ (0 : Int) ≤ 6; omega⟩
  · rw [if_neg g]; exact ⟨wT, wS, wB, hn⟩
theorem ok_write {L c : Int} {tx : Int → Int} (hL : 0 ≤ L ∧ L ≤ 200) (ht : zBt L tx) : (0 ≤ (tWrite L tx c).2.1 ∧ (tWrite L tx c).2.1 ≤ 200) ∧ zBt (tWrite L tx c).2.1 (tWrite L tx c).2.2 := by
  unfold tWrite
  by_cases g : ¬ (32 ≤ c ∧ c ≤ 126)
  · rw [if_pos g]; exact ⟨hL, ht⟩
  · rw [if_neg g]
    by_cases g2 : L = 200
    · rw [if_pos g2]; exact ⟨hL, ht⟩
    · rw [if_neg g2]
      refine ⟨by show 0 ≤ L + 1 ∧ L + 1 ≤ 200; omega, fun k k0 k1 => ?_⟩
      have k1 : k < L + 1 := k1
      show 32 ≤ zup tx L c k ∧ zup tx L c k ≤ 126
      by_cases e : k = L
      · rw [e, zup_self]; omega
      · rw [zup_ne _ _ e]; exact ht k k0 (by omega)
end OK
/-! the start -/
theorem zBd_zup {T : Int → Int} {i x : Int} (h : zBd T 1000) (hx : -1000 ≤ x ∧ x ≤ 1000) : zBd (zup T i x) 1000 := by
  intro k
  by_cases e : k = i
  · rw [e, zup_self]; exact hx
  · rw [zup_ne _ _ e]; exact h k
theorem zBd_adds {T : Int → Int} {at_ m x y z v : Int} (h : zBd T 1000) (hx : (-1000 ≤ x ∧ x ≤ 1000) ∧ (-1000 ≤ y ∧ y ≤ 1000) ∧ (-1000 ≤ z ∧ z ≤ 1000) ∧ (-1000 ≤ v ∧ v ≤ 1000)) (hm : -1000 ≤ mAdds T at_ m x y z v m ∧ mAdds T at_ m x y z v m ≤ 1000) : zBd (mAdds T at_ m x y z v) 1000 := by
  unfold mAdds at hm ⊢
  rw [zup_self] at hm
  exact zBd_zup (zBd_zup (zBd_zup (zBd_zup (zBd_zup h hx.1) hx.2.1) hx.2.2.1) hx.2.2.2) hm
theorem zBd_T0 : zBd mT0 1000 := by
  have b0 : zBd mT0_0 1000 := zBd_zup (zBd_zup (fun k => by show -1000 ≤ (0 : Int) ∧ (0 : Int) ≤ 1000; omega) (by omega)) (by omega)
  have b1 : zBd mT0_1 1000 := zBd_adds b0 (by omega) (by decide +kernel)
  have b2 : zBd mT0_2 1000 := zBd_adds b1 (by omega) (by decide +kernel)
  have b3 : zBd mT0_3 1000 := zBd_adds b2 (by omega) (by decide +kernel)
  have b4 : zBd mT0_4 1000 := zBd_adds b3 (by omega) (by decide +kernel)
  have b5 : zBd mT0_5 1000 := zBd_adds b4 (by omega) (by decide +kernel)
  have b6 : zBd mT0_6 1000 := zBd_adds b5 (by omega) (by decide +kernel)
  have b7 : zBd mT0_7 1000 := zBd_adds b6 (by omega) (by decide +kernel)
  exact zBd_zup (zBd_zup (zBd_zup b7 (by omega)) (by omega)) (by omega)
theorem first_T2 : ∀ k, 0 ≤ k → k < 51 → mT0 k = (mFlt 121 tx0 (fun _ => 0)).2 k := by
  intro k k0 k1
  rw [← first_T k k0 k1, zcp_in _ _ ⟨k0, k1⟩]
theorem wfT_0 : wfT mT0 := wfT.of (flt_pR tx0_b first_c.1) first_c.2 zBd_T0 first_T2
theorem cZ_0 : cZ mT0 := by unfold cZ; decide +kernel
theorem wfS_0 : wfS mT0 (mAnew mT0 (fun _ => 0)) := wfS.anew wfT_0 cZ_0
