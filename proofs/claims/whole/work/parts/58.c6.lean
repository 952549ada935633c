/-! what is kept: six States in a ring -/
def bk (B : Int → Int) (i : Int) : Int → Int := fun k => B (156 * i + k)
def sl (nx i : Int) : Nat := ((nx + 5 - i) % 6).toNat
def rHi (h : Nat) (T B : Int → Int) (n nx : Int) (σ : g_H0) : Prop :=
  σ[h]? = some (.inr (1, [.ref (h + 1), .int (iZ nx), .int (iZ n)])) ∧ (∃ f : Nat → Option Nat, σ[h + 1]? = some (.inl (2, 6, .inr (.inr (.inr (.inr f))))) ∧ ∀ k, k < 6 → f k = some (h + 2 + 4 * k)) ∧
  ((0 ≤ n ∧ n ≤ 6) ∧ (0 ≤ nx ∧ nx < 6)) ∧ (∀ k : Nat, k < 6 → rS0 (h + 2 + 4 * k) σ) ∧ ∀ i, 0 ≤ i → i < n → rSt (h + 2 + 4 * sl nx i) T (bk B (n - 1 - i)) σ
def pH (h : Nat) : Nat → Prop := fun k => h ≤ k ∧ k < h + 26
theorem rHi.fr {h : Nat} {T B : Int → Int} {n nx : Int} {σ σ' : g_H0} (q : rHi h T B n nx σ) (e : ∀ k, h ≤ k → k < h + 26 → σ'[k]? = σ[k]?) : rHi h T B n nx σ' := by
  obtain ⟨q1, ⟨f, q2, q3⟩, q4, q5, q6⟩ := q
  refine ⟨(e _ (by omega) (by omega)).trans q1, ⟨f, (e _ (by omega) (by omega)).trans q2, q3⟩, q4, fun k hk => (q5 k hk).fr (fun j j0 j1 => e j (by omega) (by omega)), fun i i0 i1 => (q6 i i0 i1).fr (fun j j0 j1 => e j (by omega) ?_)⟩
  have : sl nx i < 6 := by unfold sl; omega
  omega
theorem noteB_new {B S : Int → Int} {n : Int} (hn : 0 ≤ n ∧ n ≤ 6) {j : Int} (hj : 0 ≤ j ∧ j < 156) : bk (mNoteB B S n) (mNoteN n - 1) j = S j := by
  unfold bk mNoteB mNoteN
  by_cases e : n = 6
  · rw [if_pos e, if_pos e]
    unfold zcp
    rw [if_pos (by omega)]; congr 1; omega
  · rw [if_neg e, if_neg e]
    unfold zcp
    rw [if_pos (by omega)]; congr 1; omega
theorem noteB_old {B S : Int → Int} {n i : Int} (hn : 0 ≤ n ∧ n ≤ 6) (hi : 0 ≤ i ∧ i + 1 < mNoteN n) {j : Int} (hj : 0 ≤ j ∧ j < 156) : bk (mNoteB B S n) (mNoteN n - 1 - (i + 1)) j = bk B (n - 1 - i) j := by
  unfold bk mNoteB
  unfold mNoteN at hi ⊢
  by_cases e : n = 6
  · rw [if_pos e] at hi ⊢
    rw [if_pos e]
    unfold zcp
    rw [if_neg (by omega), if_pos (by omega)]; congr 1; omega
  · rw [if_neg e] at hi ⊢
    rw [if_neg e]
    unfold zcp
    rw [if_neg (by omega)]; congr 1; omega
theorem r_forget (σ : g_H0) (h : Nat) (T T' B B' : Int → Int) (n nx : Int) (hH : rHi h T B n nx σ) : Ret mX1_forget [.ref h] σ (fun r σ' => r = none ∧ rHi h T' B' 0 nx σ' ∧ g_Fr (pH h) σ σ') := by
  refine Ret.of moX1_forget.1 (Nat.le_of_ble_eq_true rfl) (fun w => ?_)
  obtain ⟨q1, ⟨qf, q2, q3⟩, ⟨qn, qx⟩, q5, q6⟩ := id hH
  show Go w mX1_forget (0, 0) 0 [some (.ref h)] [] σ (fun r σ' => r = none ∧ rHi h T' B' 0 nx σ' ∧ g_Fr (pH h) σ σ')
  refine g_aload_n (q := 1) dX1_forget_0 rfl rfl ?_
  refine z_iconst (q := 2) dX1_forget_1 rfl ?_
  refine z_put (fs' := [.ref (h + 1), .int (iZ nx), .int (iZ 0)]) (q := 5) fpX1_18 dX1_forget_2 q1 (Nat.le_of_ble_eq_true rfl) rfl rfl rfl rfl (fun σ1 c2 f3 => ?_)
  have c4 := (f3.2 (h + 1) (by omega)).trans q2
  refine z_vret dX1_forget_5 rfl ?_
  refine ⟨rfl, ⟨c2, ⟨qf, c4, q3⟩, ⟨by omega, qx⟩, fun k hk => (q5 k hk).fr (fun j j0 j1 => f3.2 j (by omega)), fun i i0 i1 => by omega⟩, f3.wk (fun k e => ⟨by omega, by omega⟩)⟩
theorem r_keep (σ : g_H0) (h b : Nat) (hd : b + 4 ≤ h) (T B S : Int → Int) (n nx : Int) (hH : rHi h T B n nx σ) (hS : rSt b T S σ) (hT : T 4 ≤ 2) : Ret mX1_keep [.ref h, .ref b] σ (fun r σ' => r = none ∧ (∃ nx', rHi h T (mNoteB B S n) (mNoteN n) nx' σ') ∧ g_Fr (pH h) σ σ') := by
  refine Ret.of moX1_keep.1 (Nat.le_of_ble_eq_true rfl) (fun w => ?_)
  obtain ⟨q1, ⟨qf, q2, q3⟩, ⟨qn, qx⟩, q5, q6⟩ := id hH
  show Go w mX1_keep (0, 0) 0 [some (.ref h), some (.ref b)] [] σ (fun r σ' => r = none ∧ (∃ nx', rHi h T (mNoteB B S n) (mNoteN n) nx' σ') ∧ g_Fr (pH h) σ σ')
  refine g_aload_n (q := 1) dX1_keep_0 rfl rfl ?_
  refine g_get (q := 4) flX1_11 dX1_keep_1 q1 rfl rfl ?_
  refine g_aload_n (q := 5) dX1_keep_4 rfl rfl ?_
  refine g_get (q := 8) flX1_22 dX1_keep_5 q1 rfl rfl ?_
  refine z_aald (b := (h + 2 + 4 * (Int.toNat nx))) (q := 9) dX1_keep_8 rfl q2 (by omega) (q3 (Int.toNat nx) (by omega)) rfl ?_
  have hk : rS0 (h + 2 + 4 * (Int.toNat nx)) σ := q5 (Int.toNat nx) (by omega)
  refine g_aload_n (q := 10) dX1_keep_9 rfl rfl ?_
  refine g_callV (As := [.ref b]) (rest := []) (q := 13) moX5_copyFrom lkX1_keep_25 dX1_keep_10 rfl hk.choose_spec.choose_spec.choose_spec.choose_spec.choose_spec.choose_spec.choose_spec.1 (r_copyFrom σ (h + 2 + 4 * (Int.toNat nx)) b (by omega) T S hk hS hT) rfl rfl (Nat.le_of_ble_eq_true rfl) (Nat.le_of_ble_eq_true rfl) (Nat.le_of_ble_eq_true rfl) rfl ?_
  rintro rc σc ⟨rfl, hSc, hFc⟩
  have c2 := (hFc.2 h (fun e => by have := e.1; omega)).trans q1
  have c3 := (hFc.2 (h + 1) (fun e => by have := e.1; omega)).trans q2
  show Go w mX1_keep (0, 0) 13 [some (.ref h), some (.ref b)] [] σc (fun r σ' => r = none ∧ (∃ nx', rHi h T (mNoteB B S n) (mNoteN n) nx' σ') ∧ g_Fr (pH h) σ σ')
  refine g_aload_n (q := 14) dX1_keep_13 rfl rfl ?_
  refine g_aload_n (q := 15) dX1_keep_14 rfl rfl ?_
  refine g_get (q := 18) flX1_22 dX1_keep_15 c2 rfl rfl ?_
  refine z_iconst (q := 19) dX1_keep_18 rfl ?_
  refine z_iadd (q := 20) dX1_keep_19 rfl ?_
  refine g_bipush (v := iZ 6) (q := 22) dX1_keep_20 (by decide) rfl ?_
  refine z_icmp_ge (t := 34) (q := 25) dX1_keep_22 rfl (by omega) rfl (fun pc4 => ?_) (fun pc4 => ?_)
  · refine z_iconst (q := 35) dX1_keep_34 rfl ?_
    refine z_put (fs' := [.ref (h + 1), .int (iZ 0), .int (iZ n)]) (q := 38) fpX1_22 dX1_keep_35 c2 (Nat.le_of_ble_eq_true rfl) rfl rfl rfl rfl (fun σ5 c6 f7 => ?_)
    have c8 := (f7.2 (h + 1) (by omega)).trans c3
    refine g_aload_n (q := 39) dX1_keep_38 rfl rfl ?_
    refine g_aload_n (q := 40) dX1_keep_39 rfl rfl ?_
    refine g_get (q := 43) flX1_18 dX1_keep_40 c6 rfl rfl ?_
    refine z_iconst (q := 44) dX1_keep_43 rfl ?_
    refine z_iadd (q := 45) dX1_keep_44 rfl ?_
    refine g_bipush (v := iZ 6) (q := 47) dX1_keep_45 (by decide) rfl ?_
    refine z_min (q := 50) lkX1_keep_29.1 dX1_keep_47 (by omega) (Nat.le_of_ble_eq_true rfl) (Nat.le_of_ble_eq_true rfl) (Nat.le_of_ble_eq_true rfl) (Nat.le_of_ble_eq_true rfl) (Nat.le_of_ble_eq_true rfl) rfl ?_
    have b9 := zmin_c (n + 1) 6
    refine z_put (fs' := [.ref (h + 1), .int (iZ 0), .int (iZ (zmin (n + 1) 6))]) (q := 53) fpX1_18 dX1_keep_50 c6 (Nat.le_of_ble_eq_true rfl) rfl rfl rfl rfl (fun σ10 c11 f12 => ?_)
    have c13 := (f12.2 (h + 1) (by omega)).trans c8
    refine z_vret dX1_keep_53 rfl ?_
    have ext : ∀ k, k ≠ h → σ10[k]? = σc[k]? := fun k hk => ((f12.2 k hk).trans (f7.2 k hk))
    have en : mNoteN n = zmin (n + 1) 6 := by unfold mNoteN; split <;> omega
    rw [← en] at c11
    refine ⟨rfl, ⟨0, c11, ⟨qf, c13, q3⟩, ⟨by omega, by omega⟩, fun k hk2 => ?_, ?_⟩, (((hFc.wk (fun k e => ⟨by have := e.1; omega, by have := e.2; omega⟩)).tr (f7.wk (fun k e => ⟨by omega, by omega⟩))).tr (f12.wk (fun k e => ⟨by omega, by omega⟩)))⟩
    · by_cases e : k = nx.toNat
      · subst e; exact hSc.s0.fr (fun j j0 j1 => ext j (by omega))
      · exact (q5 k hk2).fr (fun j j0 j1 => (ext j (by omega)).trans (hFc.2 j (fun e2 => by have := e2.1; have := e2.2; omega)))
    · intro i i0 i1
      by_cases e : i = 0
      · subst e
        rw [show sl 0 0 = nx.toNat by unfold sl; omega]
        exact (hSc.fr (fun j j0 j1 => ext j (by omega))).congr hT (fun j j0 j1 => by rw [Int.sub_zero]; exact (noteB_new qn ⟨j0, j1⟩).symm)
      · have hb : mNoteN n ≤ n + 1 ∧ mNoteN n ≤ 6 := by unfold mNoteN; split <;> omega
        have hs : sl 0 i = sl nx (i - 1) := by unfold sl; omega
        have hs2 : sl nx (i - 1) < 6 ∧ sl nx (i - 1) ≠ nx.toNat := by unfold sl; omega
        rw [hs]
        refine ((q6 (i - 1) (by omega) (by omega)).fr (fun j j0 j1 => (ext j (by omega)).trans (hFc.2 j (fun e2 => by have := e2.1; have := e2.2; omega)))).congr hT (fun j j0 j1 => ?_)
        have q := noteB_old (B := B) (S := S) (n := n) (i := i - 1) qn (by omega) (j := j) ⟨j0, j1⟩
        rw [show i - 1 + 1 = i by omega] at q; exact q.symm
  · refine g_aload_n (q := 26) dX1_keep_25 rfl rfl ?_
    refine g_get (q := 29) flX1_22 dX1_keep_26 c2 rfl rfl ?_
    refine z_iconst (q := 30) dX1_keep_29 rfl ?_
    refine z_iadd (q := 31) dX1_keep_30 rfl ?_
    refine g_goto (q := 35) dX1_keep_31 rfl ?_
    refine z_put (fs' := [.ref (h + 1), .int (iZ (nx + 1)), .int (iZ n)]) (q := 38) fpX1_22 dX1_keep_35 c2 (Nat.le_of_ble_eq_true rfl) rfl rfl rfl rfl (fun σ14 c15 f16 => ?_)
    have c17 := (f16.2 (h + 1) (by omega)).trans c3
    refine g_aload_n (q := 39) dX1_keep_38 rfl rfl ?_
    refine g_aload_n (q := 40) dX1_keep_39 rfl rfl ?_
    refine g_get (q := 43) flX1_18 dX1_keep_40 c15 rfl rfl ?_
    refine z_iconst (q := 44) dX1_keep_43 rfl ?_
    refine z_iadd (q := 45) dX1_keep_44 rfl ?_
    refine g_bipush (v := iZ 6) (q := 47) dX1_keep_45 (by decide) rfl ?_
    refine z_min (q := 50) lkX1_keep_29.1 dX1_keep_47 (by omega) (Nat.le_of_ble_eq_true rfl) (Nat.le_of_ble_eq_true rfl) (Nat.le_of_ble_eq_true rfl) (Nat.le_of_ble_eq_true rfl) (Nat.le_of_ble_eq_true rfl) rfl ?_
    have b18 := zmin_c (n + 1) 6
    refine z_put (fs' := [.ref (h + 1), .int (iZ (nx + 1)), .int (iZ (zmin (n + 1) 6))]) (q := 53) fpX1_18 dX1_keep_50 c15 (Nat.le_of_ble_eq_true rfl) rfl rfl rfl rfl (fun σ19 c20 f21 => ?_)
    have c22 := (f21.2 (h + 1) (by omega)).trans c17
    refine z_vret dX1_keep_53 rfl ?_
    have ext : ∀ k, k ≠ h → σ19[k]? = σc[k]? := fun k hk => ((f21.2 k hk).trans (f16.2 k hk))
    have en : mNoteN n = zmin (n + 1) 6 := by unfold mNoteN; split <;> omega
    rw [← en] at c20
    refine ⟨rfl, ⟨(nx + 1), c20, ⟨qf, c22, q3⟩, ⟨by omega, by omega⟩, fun k hk2 => ?_, ?_⟩, (((hFc.wk (fun k e => ⟨by have := e.1; omega, by have := e.2; omega⟩)).tr (f16.wk (fun k e => ⟨by omega, by omega⟩))).tr (f21.wk (fun k e => ⟨by omega, by omega⟩)))⟩
    · by_cases e : k = nx.toNat
      · subst e; exact hSc.s0.fr (fun j j0 j1 => ext j (by omega))
      · exact (q5 k hk2).fr (fun j j0 j1 => (ext j (by omega)).trans (hFc.2 j (fun e2 => by have := e2.1; have := e2.2; omega)))
    · intro i i0 i1
      by_cases e : i = 0
      · subst e
        rw [show sl (nx + 1) 0 = nx.toNat by unfold sl; omega]
        exact (hSc.fr (fun j j0 j1 => ext j (by omega))).congr hT (fun j j0 j1 => by rw [Int.sub_zero]; exact (noteB_new qn ⟨j0, j1⟩).symm)
      · have hb : mNoteN n ≤ n + 1 ∧ mNoteN n ≤ 6 := by unfold mNoteN; split <;> omega
        have hs : sl (nx + 1) i = sl nx (i - 1) := by unfold sl; omega
        have hs2 : sl nx (i - 1) < 6 ∧ sl nx (i - 1) ≠ nx.toNat := by unfold sl; omega
        rw [hs]
        refine ((q6 (i - 1) (by omega) (by omega)).fr (fun j j0 j1 => (ext j (by omega)).trans (hFc.2 j (fun e2 => by have := e2.1; have := e2.2; omega)))).congr hT (fun j j0 j1 => ?_)
        have q := noteB_old (B := B) (S := S) (n := n) (i := i - 1) qn (by omega) (j := j) ⟨j0, j1⟩
        rw [show i - 1 + 1 = i by omega] at q; exact q.symm
theorem r_giveBack (σ : g_H0) (h b : Nat) (hd : b + 4 ≤ h) (T B : Int → Int) (n nx : Int) (hH : rHi h T B n nx σ) (h0 : rS0 b σ) (hT : T 4 ≤ 2) : Ret mX1_giveBack [.ref h, .ref b] σ (fun r σ' => (n = 0 ∧ r = some (.int (iZ 0)) ∧ σ' = σ) ∨ (0 < n ∧ r = some (.int (iZ 1)) ∧ (∃ nx', rHi h T B (n - 1) nx' σ') ∧ rSt b T (bk B (n - 1)) σ' ∧ g_Fr (fun k => pS b k ∨ pH h k) σ σ')) := by
  refine Ret.of moX1_giveBack.1 (Nat.le_of_ble_eq_true rfl) (fun w => ?_)
  obtain ⟨q1, ⟨qf, q2, q3⟩, ⟨qn, qx⟩, q5, q6⟩ := id hH
  show Go w mX1_giveBack (0, 0) 0 [some (.ref h), some (.ref b)] [] σ (fun r σ' => (n = 0 ∧ r = some (.int (iZ 0)) ∧ σ' = σ) ∨ (0 < n ∧ r = some (.int (iZ 1)) ∧ (∃ nx', rHi h T B (n - 1) nx' σ') ∧ rSt b T (bk B (n - 1)) σ' ∧ g_Fr (fun k => pS b k ∨ pH h k) σ σ'))
  refine g_aload_n (q := 1) dX1_giveBack_0 rfl rfl ?_
  refine g_get (q := 4) flX1_18 dX1_giveBack_1 q1 rfl rfl ?_
  refine z_if_ne (t := 9) (q := 7) dX1_giveBack_4 rfl (by omega) rfl (fun pc1 => ?_) (fun pc1 => ?_)
  · refine g_aload_n (q := 10) dX1_giveBack_9 rfl rfl ?_
    refine g_aload_n (q := 11) dX1_giveBack_10 rfl rfl ?_
    refine g_get (q := 14) flX1_22 dX1_giveBack_11 q1 rfl rfl ?_
    refine z_if_le (t := 26) (q := 17) dX1_giveBack_14 rfl (by omega) rfl (fun pc2 => ?_) (fun pc2 => ?_)
    · refine z_iconst (q := 27) dX1_giveBack_26 rfl ?_
      refine z_put (fs' := [.ref (h + 1), .int (iZ 5), .int (iZ n)]) (q := 30) fpX1_22 dX1_giveBack_27 q1 (Nat.le_of_ble_eq_true rfl) rfl rfl rfl rfl (fun σ3 c4 f5 => ?_)
      have c6 := (f5.2 (h + 1) (by omega)).trans q2
      refine g_aload_n (q := 31) dX1_giveBack_30 rfl rfl ?_
      refine g_dup (q := 32) dX1_giveBack_31 rfl rfl ?_
      refine g_get (q := 35) flX1_18 dX1_giveBack_32 c4 rfl rfl ?_
      refine z_iconst (q := 36) dX1_giveBack_35 rfl ?_
      refine z_isub (q := 37) dX1_giveBack_36 rfl ?_
      refine z_put (fs' := [.ref (h + 1), .int (iZ 5), .int (iZ (n - 1))]) (q := 40) fpX1_18 dX1_giveBack_37 c4 (Nat.le_of_ble_eq_true rfl) rfl rfl rfl rfl (fun σ7 c8 f9 => ?_)
      have c10 := (f9.2 (h + 1) (by omega)).trans c6
      refine g_aload_n (q := 41) dX1_giveBack_40 rfl rfl ?_
      refine g_aload_n (q := 42) dX1_giveBack_41 rfl rfl ?_
      refine g_get (q := 45) flX1_11 dX1_giveBack_42 c8 rfl rfl ?_
      refine g_aload_n (q := 46) dX1_giveBack_45 rfl rfl ?_
      refine g_get (q := 49) flX1_22 dX1_giveBack_46 c8 rfl rfl ?_
      refine z_aald (b := (h + 2 + 4 * (Int.toNat 5))) (q := 50) dX1_giveBack_49 rfl c10 (by omega) (q3 (Int.toNat 5) (by omega)) rfl ?_
      have hk : rS0 (h + 2 + 4 * (Int.toNat 5)) σ7 := (q5 (Int.toNat 5) (by omega)).fr (fun k k0 k1 => ((f9.2 k (by omega)).trans (f5.2 k (by omega))))
      have hsl : (Int.toNat 5) = sl nx 0 := by unfold sl; omega
      have hk2 : rSt (h + 2 + 4 * (Int.toNat 5)) T (bk B (n - 1 - 0)) σ7 := by rw [hsl]; exact (q6 0 (by omega) (by omega)).fr (fun k k0 k1 => ((f9.2 k (by omega)).trans (f5.2 k (by omega))))
      have h0b : rS0 b σ7 := h0.fr (fun k k0 k1 => ((f9.2 k (by omega)).trans (f5.2 k (by omega))))
      refine g_callV (As := [.ref (h + 2 + 4 * (Int.toNat 5))]) (rest := []) (q := 53) moX5_copyFrom lkX1_giveBack_25 dX1_giveBack_50 rfl h0b.choose_spec.choose_spec.choose_spec.choose_spec.choose_spec.choose_spec.choose_spec.1 (r_copyFrom σ7 b (h + 2 + 4 * (Int.toNat 5)) (by omega) T _ h0b hk2 hT) rfl rfl (Nat.le_of_ble_eq_true rfl) (Nat.le_of_ble_eq_true rfl) (Nat.le_of_ble_eq_true rfl) rfl ?_
      rintro rc σc ⟨rfl, hSc, hFc⟩
      have c12 := (hFc.2 h (fun e => by have := e.2; omega)).trans c8
      have c13 := (hFc.2 (h + 1) (fun e => by have := e.2; omega)).trans c10
      show Go w mX1_giveBack (0, 0) 53 [some (.ref h), some (.ref b)] [] σc (fun r σ' => (n = 0 ∧ r = some (.int (iZ 0)) ∧ σ' = σ) ∨ (0 < n ∧ r = some (.int (iZ 1)) ∧ (∃ nx', rHi h T B (n - 1) nx' σ') ∧ rSt b T (bk B (n - 1)) σ' ∧ g_Fr (fun k => pS b k ∨ pH h k) σ σ'))
      refine z_iconst (q := 54) dX1_giveBack_53 rfl ?_
      refine z_zret dX1_giveBack_54 rfl rfl ?_
      have ext : ∀ k, k ≠ h → ¬ pS b k → σc[k]? = σ[k]? := fun k hk hb => (hFc.2 k hb).trans ((f9.2 k hk).trans (f5.2 k hk))
      refine Or.inr ⟨by omega, rfl, ⟨5, c12, ⟨qf, c13, q3⟩, ⟨by omega, by omega⟩, fun k hk => (q5 k hk).fr (fun j j0 j1 => ext j (by omega) (fun e => by have := e.2; omega)), fun i i0 i1 => ?_⟩, ?_, (((g_Fr.rf.tr (f5.wk (fun k e => Or.inr ⟨by omega, by omega⟩))).tr (f9.wk (fun k e => Or.inr ⟨by omega, by omega⟩))).tr (hFc.wk (fun k e => Or.inl e)))⟩
      · have hs : sl 5 i = sl nx (i + 1) := by unfold sl; omega
        have hs2 : sl nx (i + 1) < 6 := by unfold sl; omega
        rw [hs, show n - 1 - 1 - i = n - 1 - (i + 1) by omega]
        exact (q6 (i + 1) (by omega) (by omega)).fr (fun j j0 j1 => ext j (by omega) (fun e => by have := e.2; omega))
      · rw [Int.sub_zero] at hSc; exact hSc
    · refine g_aload_n (q := 18) dX1_giveBack_17 rfl rfl ?_
      refine g_get (q := 21) flX1_22 dX1_giveBack_18 q1 rfl rfl ?_
      refine z_iconst (q := 22) dX1_giveBack_21 rfl ?_
      refine z_isub (q := 23) dX1_giveBack_22 rfl ?_
      refine g_goto (q := 27) dX1_giveBack_23 rfl ?_
      refine z_put (fs' := [.ref (h + 1), .int (iZ (nx - 1)), .int (iZ n)]) (q := 30) fpX1_22 dX1_giveBack_27 q1 (Nat.le_of_ble_eq_true rfl) rfl rfl rfl rfl (fun σ14 c15 f16 => ?_)
      have c17 := (f16.2 (h + 1) (by omega)).trans q2
      refine g_aload_n (q := 31) dX1_giveBack_30 rfl rfl ?_
      refine g_dup (q := 32) dX1_giveBack_31 rfl rfl ?_
      refine g_get (q := 35) flX1_18 dX1_giveBack_32 c15 rfl rfl ?_
      refine z_iconst (q := 36) dX1_giveBack_35 rfl ?_
      refine z_isub (q := 37) dX1_giveBack_36 rfl ?_
      refine z_put (fs' := [.ref (h + 1), .int (iZ (nx - 1)), .int (iZ (n - 1))]) (q := 40) fpX1_18 dX1_giveBack_37 c15 (Nat.le_of_ble_eq_true rfl) rfl rfl rfl rfl (fun σ18 c19 f20 => ?_)
      have c21 := (f20.2 (h + 1) (by omega)).trans c17
      refine g_aload_n (q := 41) dX1_giveBack_40 rfl rfl ?_
      refine g_aload_n (q := 42) dX1_giveBack_41 rfl rfl ?_
      refine g_get (q := 45) flX1_11 dX1_giveBack_42 c19 rfl rfl ?_
      refine g_aload_n (q := 46) dX1_giveBack_45 rfl rfl ?_
      refine g_get (q := 49) flX1_22 dX1_giveBack_46 c19 rfl rfl ?_
      refine z_aald (b := (h + 2 + 4 * (Int.toNat (nx - 1)))) (q := 50) dX1_giveBack_49 rfl c21 (by omega) (q3 (Int.toNat (nx - 1)) (by omega)) rfl ?_
      have hk : rS0 (h + 2 + 4 * (Int.toNat (nx - 1))) σ18 := (q5 (Int.toNat (nx - 1)) (by omega)).fr (fun k k0 k1 => ((f20.2 k (by omega)).trans (f16.2 k (by omega))))
      have hsl : (Int.toNat (nx - 1)) = sl nx 0 := by unfold sl; omega
      have hk2 : rSt (h + 2 + 4 * (Int.toNat (nx - 1))) T (bk B (n - 1 - 0)) σ18 := by rw [hsl]; exact (q6 0 (by omega) (by omega)).fr (fun k k0 k1 => ((f20.2 k (by omega)).trans (f16.2 k (by omega))))
      have h0b : rS0 b σ18 := h0.fr (fun k k0 k1 => ((f20.2 k (by omega)).trans (f16.2 k (by omega))))
      refine g_callV (As := [.ref (h + 2 + 4 * (Int.toNat (nx - 1)))]) (rest := []) (q := 53) moX5_copyFrom lkX1_giveBack_25 dX1_giveBack_50 rfl h0b.choose_spec.choose_spec.choose_spec.choose_spec.choose_spec.choose_spec.choose_spec.1 (r_copyFrom σ18 b (h + 2 + 4 * (Int.toNat (nx - 1))) (by omega) T _ h0b hk2 hT) rfl rfl (Nat.le_of_ble_eq_true rfl) (Nat.le_of_ble_eq_true rfl) (Nat.le_of_ble_eq_true rfl) rfl ?_
      rintro rc σc ⟨rfl, hSc, hFc⟩
      have c23 := (hFc.2 h (fun e => by have := e.2; omega)).trans c19
      have c24 := (hFc.2 (h + 1) (fun e => by have := e.2; omega)).trans c21
      show Go w mX1_giveBack (0, 0) 53 [some (.ref h), some (.ref b)] [] σc (fun r σ' => (n = 0 ∧ r = some (.int (iZ 0)) ∧ σ' = σ) ∨ (0 < n ∧ r = some (.int (iZ 1)) ∧ (∃ nx', rHi h T B (n - 1) nx' σ') ∧ rSt b T (bk B (n - 1)) σ' ∧ g_Fr (fun k => pS b k ∨ pH h k) σ σ'))
      refine z_iconst (q := 54) dX1_giveBack_53 rfl ?_
      refine z_zret dX1_giveBack_54 rfl rfl ?_
      have ext : ∀ k, k ≠ h → ¬ pS b k → σc[k]? = σ[k]? := fun k hk hb => (hFc.2 k hb).trans ((f20.2 k hk).trans (f16.2 k hk))
      refine Or.inr ⟨by omega, rfl, ⟨(nx - 1), c23, ⟨qf, c24, q3⟩, ⟨by omega, by omega⟩, fun k hk => (q5 k hk).fr (fun j j0 j1 => ext j (by omega) (fun e => by have := e.2; omega)), fun i i0 i1 => ?_⟩, ?_, (((g_Fr.rf.tr (f16.wk (fun k e => Or.inr ⟨by omega, by omega⟩))).tr (f20.wk (fun k e => Or.inr ⟨by omega, by omega⟩))).tr (hFc.wk (fun k e => Or.inl e)))⟩
      · have hs : sl (nx - 1) i = sl nx (i + 1) := by unfold sl; omega
        have hs2 : sl nx (i + 1) < 6 := by unfold sl; omega
        rw [hs, show n - 1 - 1 - i = n - 1 - (i + 1) by omega]
        exact (q6 (i + 1) (by omega) (by omega)).fr (fun j j0 j1 => ext j (by omega) (fun e => by have := e.2; omega))
      · rw [Int.sub_zero] at hSc; exact hSc
  · refine z_iconst (q := 8) dX1_giveBack_7 rfl ?_
    refine z_zret dX1_giveBack_8 rfl rfl ?_
    exact Or.inl ⟨by omega, rfl, rfl⟩
