/-! the state: within its bounds -/
def wfS (T S : Int → Int) : Prop := (∀ c, 0 ≤ c → c < 144 → 0 ≤ S c ∧ S c ≤ 1) ∧ (∀ k, 0 ≤ k → k < 6 → 0 ≤ S (k + 144) ∧ S (k + 144) ≤ 99) ∧ (0 ≤ S 150 ∧ S 150 < T 2) ∧ (∀ c, 0 ≤ c → c < 2 → 0 ≤ S (c + 151) ∧ S (c + 151) ≤ 12) ∧ (∀ c, 0 ≤ c → c < T 4 → S (c + 151) ≤ T 0 - 2) ∧ (T 4 = 2 → S 152 - S 151 > 1 ∨ S 151 - S 152 > 1)
theorem wfS.bs {T S : Int → Int} (hT : wfT T) (h : wfS T S) : zBs S := by
  obtain ⟨h1, h2, h3, h4, -⟩ := h
  have := hT.2.2.2.1
  intro k k0 k1
  rcases (by omega : k < 144 ∨ (144 ≤ k ∧ k < 150) ∨ k = 150 ∨ (151 ≤ k ∧ k < 153)) with h | h | h | h
  · have := h1 k k0 h; omega
  · have := h2 (k - 144) (by omega) (by omega)
    rw [show k - 144 + 144 = k by omega] at this; omega
  · subst h; omega
  · have := h4 (k - 151) (by omega) (by omega)
    rw [show k - 151 + 151 = k by omega] at this; omega
/-- what the reference holds that later calls show: letters, the TEXT, what is laid, the state, what is kept, how many -/
def MC (a : Nat) (len : Int) (tx T S B : Int → Int) (n : Int) (σ : g_H0) : Prop := ∃ (I : Nat → Int) (A : Nat → Int → Int), rM a I A σ ∧ I 0 = len ∧ I 2 = n ∧ A 0 = tx ∧ A 1 = T ∧ A 3 = S ∧ A 4 = B
theorem rM.mc {a : Nat} {I : Nat → Int} {A : Nat → Int → Int} {σ : g_H0} (h : rM a I A σ) : MC a (I 0) (A 0) (A 1) (A 3) (A 4) (I 2) σ := ⟨I, A, h, rfl, rfl, rfl, rfl, rfl, rfl⟩
def mWhyQ (T S : Int → Int) (k x y t : Int) : Int := if (0 ≤ k ∧ k < T 2) ∧ (0 ≤ x ∧ x ≤ 99) ∧ (0 ≤ y ∧ y ≤ 99) ∧ (0 ≤ t ∧ t ≤ 1) then mWhy T S k x y t else -1
theorem mWhy_0 {T S : Int → Int} {k x y t : Int} (h : mWhy T S k x y t = 0) : (0 ≤ x ∧ x + mWide T k t - 1 < T 0) ∧ (0 ≤ y ∧ y + mHigh T k t - 1 < T 1) := by
  unfold mWhy at h
  split at h
  · omega
  · split at h
    · omega
    · omega
theorem mStrS_hi {x y a b : Int} (hx : 0 ≤ x ∧ x + a - 1 < 12) (hy : 0 ≤ y ∧ y + b - 1 < 12) (ha : 1 ≤ a) : ∀ (n : Nat) (c : Int) (S : Int → Int) (j : Int), 0 ≤ c → c + n ≤ a * b → 144 ≤ j → mStrS x y a n c S j = S j
  | 0, c, S, j, _, _, _ => rfl
  | n + 1, c, S, j, h0, h1, hj => by
    have d := zdm (c := c) (a := a) (b := b) h0 (by omega) (by omega)
    unfold mStrS
    rw [mStrS_hi hx hy ha n (c + 1) _ j (by omega) (by omega) hj, zup_ne _ _ (by omega)]
/-- a call that may change the state: its answer, the state behind it, what is kept, how many -/
abbrev mSp : Type := Int × (Int → Int) × (Int → Int) × Int
def mPost (a : Nat) (I : Nat → Int) (A : Nat → Int → Int) (σ : g_H0) (sp : mSp) : g_Post := fun r σ' => r = some (.int (iZ sp.1)) ∧ MC a (I 0) (A 0) (A 1) sp.2.1 sp.2.2.1 sp.2.2.2 σ' ∧ g_Fr (mR a) σ σ'
theorem mPost.same {a : Nat} {I : Nat → Int} {A : Nat → Int → Int} {σ : g_H0} (h : rM a I A σ) (v : Int) : mPost a I A σ (v, A 3, A 4, I 2) (some (.int (iZ v))) σ := ⟨rfl, h.mc, g_Fr.rf⟩
def spHit (T S B : Int → Int) (n k x y t : Int) : mSp :=
  if mWhyQ T S k x y t = 0 then (mStrN x y (mWide T k t) (mWide T k t * mHigh T k t).toNat 0 S 0, mStr T S k x y t, mNoteB B S n, mNoteN n)
  else (if mWhyQ T S k x y t = -1 then -1 else -2, S, B, n)
def spSharpen (T S B : Int → Int) (n k : Int) : mSp :=
  if ¬ (0 ≤ k ∧ k < T 2) then (-1, S, B, n) else if S (k + 144) = 0 then (-2, S, B, n) else (S (k + 144), zup S (k + 144) 0, mNoteB B S n, mNoteN n)
def spClamp (T S B : Int → Int) (n c col : Int) : mSp :=
  if ¬ ((0 ≤ c ∧ c < T 4) ∧ (0 ≤ col ∧ col ≤ T 0 - 2)) then (-1, S, B, n)
  else if S (c + 151) = col ∨ (T 4 = 2 ∧ (-1 ≤ col - S (-c + 152) ∧ col - S (-c + 152) ≤ 1)) then (-2, S, B, n)
  else (S (c + 151), zup (zup S (c + 151) col) 155 (zup S (c + 151) col 155 + 1), mNoteB B S n, mNoteN n)
def spUndo (S B : Int → Int) (n : Int) : mSp := if n = 0 then (-2, S, B, n) else (n - 1, zcp S B 0 (156 * (n - 1)) 156, B, n - 1)
def spStation (T S : Int → Int) (k q : Int) : Int :=
  if ¬ ((0 ≤ k ∧ k < T 2) ∧ (0 ≤ q ∧ q ≤ 6)) then -1 else if q < 4 then T (4 * k + q + 5) else if q = 4 then S (k + 144) else if q = 5 then (if T (4 * k + 8) ≤ S (k + 144) then 1 else 0) else mRing T (S 150) k
def spHole (T S : Int → Int) (h q : Int) : Int :=
  if ¬ ((0 ≤ h ∧ h < T 3) ∧ (0 ≤ q ∧ q ≤ 5)) then -1 else if q < 4 then T (4 * h + q + 29) else if q = 4 then mOpen T S h else if mOpen T S h = 0 then 1 else 0
def spHits (T : Int → Int) (h k t : Int) : Int := if (0 ≤ h ∧ h < T 3) ∧ (0 ≤ k ∧ k < T 2) ∧ (0 ≤ t ∧ t ≤ 1) then mNib T h k t else -1
def spCell (T S : Int → Int) (x y q : Int) : Int :=
  if ¬ (((0 ≤ x ∧ x < T 0) ∧ (0 ≤ y ∧ y < T 1)) ∧ (0 ≤ q ∧ q ≤ 2)) then -1 else if q = 0 then S (12 * y + x) else if q = 1 then mHole T x y else mClamp T S x y
def spColumn (T S : Int → Int) (c : Int) : Int := if 0 ≤ c ∧ c < T 4 then S (c + 151) else -1
def spDrawn (T S : Int → Int) (k : Int) : Int :=
  if k < 0 then -1 else if k / (T 0 + 1) ≥ T 1 then -4 else if k % (T 0 + 1) = T 0 then 47 else if mClamp T S (k % (T 0 + 1)) (k / (T 0 + 1)) ≠ -4 then 99 else if S (12 * (k / (T 0 + 1)) + k % (T 0 + 1)) = 1 then 111 else if mHole T (k % (T 0 + 1)) (k / (T 0 + 1)) ≠ -4 then 35 else 46
def mCutN (S : Int → Int) : Nat → Int → Int → Int
  | 0, _, m => m
  | n + 1, c, m => mCutN S n (c + 1) (m + S c)
def mDoneN (T S : Int → Int) : Nat → Int → Int → Int
  | 0, _, m => m
  | n + 1, h, m => mDoneN T S n (h + 1) (m + (if mOpen T S h = 0 then 1 else 0))
def spCount (T S : Int → Int) (n len q : Int) : Int :=
  if q < 0 ∨ 12 < q then -1 else if q ≤ 4 then T q else if q ≤ 7 then S (q + 148) else if q = 8 then mCutN S 144 0 0 else if q = 9 then mDoneN T S (T 3).toNat 0 0 else if q = 10 then S 150 else if q = 11 then n else len
theorem r_M_why (σ : g_H0) (a : Nat) (I : Nat → Int) (A : Nat → Int → Int) (hM : rM a I A σ) (k x y t : Int) (b_k : -2147483648 ≤ k ∧ k < 2147483648) (b_x : -2147483648 ≤ x ∧ x < 2147483648) (b_y : -2147483648 ≤ y ∧ y < 2147483648) (b_t : -2147483648 ≤ t ∧ t < 2147483648) (hT : wfT (A 1)) (hS : wfS (A 1) (A 3)) : Ret mX9_why [.ref a, .int (iZ k), .int (iZ x), .int (iZ y), .int (iZ t)] σ (fun r σ' => r = some (.int (iZ (mWhyQ (A 1) (A 3) k x y t))) ∧ σ' = σ) := by
  refine Ret.of moX9_why.1 (Nat.le_of_ble_eq_true rfl) (fun w => ?_)
  obtain ⟨m0, m1, m2, m3, m4, m5, m6, m7, m8, m9, m10, m11⟩ := id hM
  have bT := hT.1
  have bS := hS.bs hT
  have q0 := hT.2.1
  have q1 := hT.2.2.1
  have q2 := hT.2.2.2.1
  have h3 := hT.2.2.2.2.1
  have h4 := hT.2.2.2.2.2.1
  have s150 := hS.2.2.1
  show Go w mX9_why (0, 0) 0 [some (.ref a), some (.int (iZ k)), some (.int (iZ x)), some (.int (iZ y)), some (.int (iZ t))] [] σ (fun r σ' => r = some (.int (iZ (mWhyQ (A 1) (A 3) k x y t))) ∧ σ' = σ)
  refine g_aload_n (q := 1) dX9_why_0 rfl rfl ?_
  refine g_iload_n (q := 2) dX9_why_1 rfl rfl ?_
  refine g_callV (As := [.int (iZ k)]) (rest := []) (q := 5) moX9_isStation lkX9_why_134 dX9_why_2 rfl m0 (r_M_isStation σ a I A hM k (by omega) bT) rfl rfl (Nat.le_of_ble_eq_true rfl) (Nat.le_of_ble_eq_true rfl) (Nat.le_of_ble_eq_true rfl) rfl ?_
  rintro r1 s1 hp
  rw [hp.1, hp.2]
  show Go w mX9_why (0, 0) 5 [some (.ref a), some (.int (iZ k)), some (.int (iZ x)), some (.int (iZ y)), some (.int (iZ t))] [.int (bI (0 ≤ k ∧ k < A 1 2))] σ (fun r σ' => r = some (.int (iZ (mWhyQ (A 1) (A 3) k x y t))) ∧ σ' = σ)
  refine z_ifB_eq (t := 55) (q := 8) dX9_why_5 rfl rfl (fun pc1 => ?_) (fun pc1 => ?_)
  · refine z_iconst (q := 56) dX9_why_55 rfl ?_
    refine z_iret dX9_why_56 rfl ?_
    exact ⟨congrArg (fun z => some (Value.int (iZ z))) (by unfold mWhyQ; (repeat (first | rw [if_pos (by omega)] | rw [if_neg (by omega)])); first | done | rfl | (congr 1; omega) | omega), rfl⟩
  · refine g_iload_n (q := 9) dX9_why_8 rfl rfl ?_
    refine z_i2l (q := 10) dX9_why_9 (by omega) rfl ?_
    refine g_lconst (v := lZ 0) (q := 11) dX9_why_10 (by decide) rfl ?_
    refine g_ldc2 (v := lZ 99) (q := 14) dX9_why_11 klX9_137 rfl ?_
    refine g_callS (As := [.long (lZ x), .long (lZ 0), .long (lZ 99)]) (rest := []) (q := 17) moX9_in lkX9_why_58 dX9_why_14 (r_M_in σ x 0 99 (by omega) (by omega) (by omega)) rfl rfl (Nat.le_of_ble_eq_true rfl) (Nat.le_of_ble_eq_true rfl) (Nat.le_of_ble_eq_true rfl) rfl ?_
    rintro r1 s1 hp
    rw [hp.1, hp.2]
    show Go w mX9_why (0, 0) 17 [some (.ref a), some (.int (iZ k)), some (.int (iZ x)), some (.int (iZ y)), some (.int (iZ t))] [.int (bI (0 ≤ x ∧ x ≤ 99))] σ (fun r σ' => r = some (.int (iZ (mWhyQ (A 1) (A 3) k x y t))) ∧ σ' = σ)
    refine z_ifB_eq (t := 55) (q := 20) dX9_why_17 rfl rfl (fun pc2 => ?_) (fun pc2 => ?_)
    · refine z_iconst (q := 56) dX9_why_55 rfl ?_
      refine z_iret dX9_why_56 rfl ?_
      exact ⟨congrArg (fun z => some (Value.int (iZ z))) (by unfold mWhyQ; (repeat (first | rw [if_pos (by omega)] | rw [if_neg (by omega)])); first | done | rfl | (congr 1; omega) | omega), rfl⟩
    · refine g_iload_n (q := 21) dX9_why_20 rfl rfl ?_
      refine z_i2l (q := 22) dX9_why_21 (by omega) rfl ?_
      refine g_lconst (v := lZ 0) (q := 23) dX9_why_22 (by decide) rfl ?_
      refine g_ldc2 (v := lZ 99) (q := 26) dX9_why_23 klX9_137 rfl ?_
      refine g_callS (As := [.long (lZ y), .long (lZ 0), .long (lZ 99)]) (rest := []) (q := 29) moX9_in lkX9_why_58 dX9_why_26 (r_M_in σ y 0 99 (by omega) (by omega) (by omega)) rfl rfl (Nat.le_of_ble_eq_true rfl) (Nat.le_of_ble_eq_true rfl) (Nat.le_of_ble_eq_true rfl) rfl ?_
      rintro r1 s1 hp
      rw [hp.1, hp.2]
      show Go w mX9_why (0, 0) 29 [some (.ref a), some (.int (iZ k)), some (.int (iZ x)), some (.int (iZ y)), some (.int (iZ t))] [.int (bI (0 ≤ y ∧ y ≤ 99))] σ (fun r σ' => r = some (.int (iZ (mWhyQ (A 1) (A 3) k x y t))) ∧ σ' = σ)
      refine z_ifB_eq (t := 55) (q := 32) dX9_why_29 rfl rfl (fun pc3 => ?_) (fun pc3 => ?_)
      · refine z_iconst (q := 56) dX9_why_55 rfl ?_
        refine z_iret dX9_why_56 rfl ?_
        exact ⟨congrArg (fun z => some (Value.int (iZ z))) (by unfold mWhyQ; (repeat (first | rw [if_pos (by omega)] | rw [if_neg (by omega)])); first | done | rfl | (congr 1; omega) | omega), rfl⟩
      · refine g_iload (q := 34) dX9_why_32 rfl rfl ?_
        refine z_i2l (q := 35) dX9_why_34 (by omega) rfl ?_
        refine g_lconst (v := lZ 0) (q := 36) dX9_why_35 (by decide) rfl ?_
        refine g_lconst (v := lZ 1) (q := 37) dX9_why_36 (by decide) rfl ?_
        refine g_callS (As := [.long (lZ t), .long (lZ 0), .long (lZ 1)]) (rest := []) (q := 40) moX9_in lkX9_why_58 dX9_why_37 (r_M_in σ t 0 1 (by omega) (by omega) (by omega)) rfl rfl (Nat.le_of_ble_eq_true rfl) (Nat.le_of_ble_eq_true rfl) (Nat.le_of_ble_eq_true rfl) rfl ?_
        rintro r1 s1 hp
        rw [hp.1, hp.2]
        show Go w mX9_why (0, 0) 40 [some (.ref a), some (.int (iZ k)), some (.int (iZ x)), some (.int (iZ y)), some (.int (iZ t))] [.int (bI (0 ≤ t ∧ t ≤ 1))] σ (fun r σ' => r = some (.int (iZ (mWhyQ (A 1) (A 3) k x y t))) ∧ σ' = σ)
        refine z_ifB_eq (t := 55) (q := 43) dX9_why_40 rfl rfl (fun pc4 => ?_) (fun pc4 => ?_)
        · refine z_iconst (q := 56) dX9_why_55 rfl ?_
          refine z_iret dX9_why_56 rfl ?_
          exact ⟨congrArg (fun z => some (Value.int (iZ z))) (by unfold mWhyQ; (repeat (first | rw [if_pos (by omega)] | rw [if_neg (by omega)])); first | done | rfl | (congr 1; omega) | omega), rfl⟩
        · refine g_aload_n (q := 44) dX9_why_43 rfl rfl ?_
          refine g_iload_n (q := 45) dX9_why_44 rfl rfl ?_
          refine g_iload_n (q := 46) dX9_why_45 rfl rfl ?_
          refine g_iload_n (q := 47) dX9_why_46 rfl rfl ?_
          refine g_iload (q := 49) dX9_why_47 rfl rfl ?_
          refine g_callV (As := [.int (iZ k), .int (iZ x), .int (iZ y), .int (iZ t)]) (rest := []) (q := 52) moX9_whyNot lkX9_why_139 dX9_why_49 rfl m0 (r_M_whyNot σ a I A hM k x y t (by omega) (by omega) (by omega) (by omega) bT bS h3 h4 (hT.w (by omega) (by omega) _) (hT.h (by omega) (by omega) _) (by omega)) rfl rfl (Nat.le_of_ble_eq_true rfl) (Nat.le_of_ble_eq_true rfl) (Nat.le_of_ble_eq_true rfl) rfl ?_
          rintro r1 s1 hp
          rw [hp.1, hp.2]
          show Go w mX9_why (0, 0) 52 [some (.ref a), some (.int (iZ k)), some (.int (iZ x)), some (.int (iZ y)), some (.int (iZ t))] [.int (iZ (mWhy (A 1) (A 3) k x y t))] σ (fun r σ' => r = some (.int (iZ (mWhyQ (A 1) (A 3) k x y t))) ∧ σ' = σ)
          have b5 := mWhy_b (A 1) (A 3) k x y t
          refine g_goto (q := 56) dX9_why_52 rfl ?_
          refine z_iret dX9_why_56 rfl ?_
          exact ⟨congrArg (fun z => some (Value.int (iZ z))) (by unfold mWhyQ; (repeat (first | rw [if_pos (by omega)] | rw [if_neg (by omega)])); first | done | rfl | (congr 1; omega) | omega), rfl⟩
theorem r_M_hits (σ : g_H0) (a : Nat) (I : Nat → Int) (A : Nat → Int → Int) (hM : rM a I A σ) (h k t : Int) (b_h : -2147483648 ≤ h ∧ h < 2147483648) (b_k : -2147483648 ≤ k ∧ k < 2147483648) (b_t : -2147483648 ≤ t ∧ t < 2147483648) (hT : wfT (A 1)) (hS : wfS (A 1) (A 3)) : Ret mX9_hits [.ref a, .int (iZ h), .int (iZ k), .int (iZ t)] σ (fun r σ' => r = some (.int (iZ (spHits (A 1) h k t))) ∧ σ' = σ) := by
  refine Ret.of moX9_hits.1 (Nat.le_of_ble_eq_true rfl) (fun w => ?_)
  obtain ⟨m0, m1, m2, m3, m4, m5, m6, m7, m8, m9, m10, m11⟩ := id hM
  have bT := hT.1
  have bS := hS.bs hT
  have q0 := hT.2.1
  have q1 := hT.2.2.1
  have q2 := hT.2.2.2.1
  have h3 := hT.2.2.2.2.1
  have h4 := hT.2.2.2.2.2.1
  have s150 := hS.2.2.1
  show Go w mX9_hits (0, 0) 0 [some (.ref a), some (.int (iZ h)), some (.int (iZ k)), some (.int (iZ t))] [] σ (fun r σ' => r = some (.int (iZ (spHits (A 1) h k t))) ∧ σ' = σ)
  refine g_aload_n (q := 1) dX9_hits_0 rfl rfl ?_
  refine g_iload_n (q := 2) dX9_hits_1 rfl rfl ?_
  refine g_callV (As := [.int (iZ h)]) (rest := []) (q := 5) moX9_isHole lkX9_hits_158 dX9_hits_2 rfl m0 (r_M_isHole σ a I A hM h (by omega) bT) rfl rfl (Nat.le_of_ble_eq_true rfl) (Nat.le_of_ble_eq_true rfl) (Nat.le_of_ble_eq_true rfl) rfl ?_
  rintro r1 s1 hp
  rw [hp.1, hp.2]
  show Go w mX9_hits (0, 0) 5 [some (.ref a), some (.int (iZ h)), some (.int (iZ k)), some (.int (iZ t))] [.int (bI (0 ≤ h ∧ h < A 1 3))] σ (fun r σ' => r = some (.int (iZ (spHits (A 1) h k t))) ∧ σ' = σ)
  refine z_ifB_eq (t := 36) (q := 8) dX9_hits_5 rfl rfl (fun pc1 => ?_) (fun pc1 => ?_)
  · refine z_iconst (q := 37) dX9_hits_36 rfl ?_
    refine z_iret dX9_hits_37 rfl ?_
    exact ⟨congrArg (fun z => some (Value.int (iZ z))) (by unfold spHits; (repeat (first | rw [if_pos (by omega)] | rw [if_neg (by omega)])); first | done | rfl | (congr 1; omega) | omega), rfl⟩
  · refine g_aload_n (q := 9) dX9_hits_8 rfl rfl ?_
    refine g_iload_n (q := 10) dX9_hits_9 rfl rfl ?_
    refine g_callV (As := [.int (iZ k)]) (rest := []) (q := 13) moX9_isStation lkX9_hits_134 dX9_hits_10 rfl m0 (r_M_isStation σ a I A hM k (by omega) bT) rfl rfl (Nat.le_of_ble_eq_true rfl) (Nat.le_of_ble_eq_true rfl) (Nat.le_of_ble_eq_true rfl) rfl ?_
    rintro r1 s1 hp
    rw [hp.1, hp.2]
    show Go w mX9_hits (0, 0) 13 [some (.ref a), some (.int (iZ h)), some (.int (iZ k)), some (.int (iZ t))] [.int (bI (0 ≤ k ∧ k < A 1 2))] σ (fun r σ' => r = some (.int (iZ (spHits (A 1) h k t))) ∧ σ' = σ)
    refine z_ifB_eq (t := 36) (q := 16) dX9_hits_13 rfl rfl (fun pc2 => ?_) (fun pc2 => ?_)
    · refine z_iconst (q := 37) dX9_hits_36 rfl ?_
      refine z_iret dX9_hits_37 rfl ?_
      exact ⟨congrArg (fun z => some (Value.int (iZ z))) (by unfold spHits; (repeat (first | rw [if_pos (by omega)] | rw [if_neg (by omega)])); first | done | rfl | (congr 1; omega) | omega), rfl⟩
    · refine g_iload_n (q := 17) dX9_hits_16 rfl rfl ?_
      refine z_i2l (q := 18) dX9_hits_17 (by omega) rfl ?_
      refine g_lconst (v := lZ 0) (q := 19) dX9_hits_18 (by decide) rfl ?_
      refine g_lconst (v := lZ 1) (q := 20) dX9_hits_19 (by decide) rfl ?_
      refine g_callS (As := [.long (lZ t), .long (lZ 0), .long (lZ 1)]) (rest := []) (q := 23) moX9_in lkX9_hits_58 dX9_hits_20 (r_M_in σ t 0 1 (by omega) (by omega) (by omega)) rfl rfl (Nat.le_of_ble_eq_true rfl) (Nat.le_of_ble_eq_true rfl) (Nat.le_of_ble_eq_true rfl) rfl ?_
      rintro r1 s1 hp
      rw [hp.1, hp.2]
      show Go w mX9_hits (0, 0) 23 [some (.ref a), some (.int (iZ h)), some (.int (iZ k)), some (.int (iZ t))] [.int (bI (0 ≤ t ∧ t ≤ 1))] σ (fun r σ' => r = some (.int (iZ (spHits (A 1) h k t))) ∧ σ' = σ)
      refine z_ifB_eq (t := 36) (q := 26) dX9_hits_23 rfl rfl (fun pc3 => ?_) (fun pc3 => ?_)
      · refine z_iconst (q := 37) dX9_hits_36 rfl ?_
        refine z_iret dX9_hits_37 rfl ?_
        exact ⟨congrArg (fun z => some (Value.int (iZ z))) (by unfold spHits; (repeat (first | rw [if_pos (by omega)] | rw [if_neg (by omega)])); first | done | rfl | (congr 1; omega) | omega), rfl⟩
      · refine g_aload_n (q := 27) dX9_hits_26 rfl rfl ?_
        refine g_iload_n (q := 28) dX9_hits_27 rfl rfl ?_
        refine g_iload_n (q := 29) dX9_hits_28 rfl rfl ?_
        refine g_iload_n (q := 30) dX9_hits_29 rfl rfl ?_
        have b4 := hT.2.2.2.2.2.2.2.1 h (by omega) (by omega)
        refine g_callV (As := [.int (iZ h), .int (iZ k), .int (iZ t)]) (rest := []) (q := 33) moX9_nibbles lkX9_hits_161 dX9_hits_30 rfl m0 (r_M_nibbles σ a I A hM h k t (by omega) (by omega) (by omega) bT (hT.w (by omega) (by omega) _) (hT.h (by omega) (by omega) _) (show 0 ≤ A 1 (4 * h + 31) ∧ A 1 (4 * h + 31) ≤ 12 by omega) (show 0 ≤ A 1 (4 * h + 32) ∧ A 1 (4 * h + 32) ≤ 12 by omega)) rfl rfl (Nat.le_of_ble_eq_true rfl) (Nat.le_of_ble_eq_true rfl) (Nat.le_of_ble_eq_true rfl) rfl ?_
        rintro r1 s1 hp
        rw [hp.1, hp.2]
        show Go w mX9_hits (0, 0) 33 [some (.ref a), some (.int (iZ h)), some (.int (iZ k)), some (.int (iZ t))] [.int (iZ (mNib (A 1) h k t))] σ (fun r σ' => r = some (.int (iZ (spHits (A 1) h k t))) ∧ σ' = σ)
        refine g_goto (q := 37) dX9_hits_33 rfl ?_
        refine z_iret dX9_hits_37 rfl ?_
        exact ⟨congrArg (fun z => some (Value.int (iZ z))) (by unfold spHits; (repeat (first | rw [if_pos (by omega)] | rw [if_neg (by omega)])); first | done | rfl | (congr 1; omega) | omega), rfl⟩
theorem r_M_column (σ : g_H0) (a : Nat) (I : Nat → Int) (A : Nat → Int → Int) (hM : rM a I A σ) (c : Int) (b_c : -2147483648 ≤ c ∧ c < 2147483648) (hT : wfT (A 1)) (hS : wfS (A 1) (A 3)) : Ret mX9_column [.ref a, .int (iZ c)] σ (fun r σ' => r = some (.int (iZ (spColumn (A 1) (A 3) c))) ∧ σ' = σ) := by
  refine Ret.of moX9_column.1 (Nat.le_of_ble_eq_true rfl) (fun w => ?_)
  obtain ⟨m0, m1, m2, m3, m4, m5, m6, m7, m8, m9, m10, m11⟩ := id hM
  have bT := hT.1
  have bS := hS.bs hT
  have q0 := hT.2.1
  have q1 := hT.2.2.1
  have q2 := hT.2.2.2.1
  have h3 := hT.2.2.2.2.1
  have h4 := hT.2.2.2.2.2.1
  have s150 := hS.2.2.1
  show Go w mX9_column (0, 0) 0 [some (.ref a), some (.int (iZ c))] [] σ (fun r σ' => r = some (.int (iZ (spColumn (A 1) (A 3) c))) ∧ σ' = σ)
  refine g_iload_n (q := 1) dX9_column_0 rfl rfl ?_
  refine z_i2l (q := 2) dX9_column_1 (by omega) rfl ?_
  refine g_lconst (v := lZ 0) (q := 3) dX9_column_2 (by decide) rfl ?_
  refine g_aload_n (q := 4) dX9_column_3 rfl rfl ?_
  refine g_get (q := 7) flX9_13 dX9_column_4 m0 rfl rfl ?_
  refine z_iconst (q := 8) dX9_column_7 rfl ?_
  refine z_iald (q := 9) dX9_column_8 m2 (by omega) rfl ?_
  have b1 := bT 4
  refine z_iconst (q := 10) dX9_column_9 rfl ?_
  refine z_isub (q := 11) dX9_column_10 rfl ?_
  refine z_i2l (q := 12) dX9_column_11 (by omega) rfl ?_
  refine g_callS (As := [.long (lZ c), .long (lZ 0), .long (lZ (((A 1) 4) - 1))]) (rest := []) (q := 15) moX9_in lkX9_column_58 dX9_column_12 (r_M_in σ c 0 (((A 1) 4) - 1) (by omega) (by omega) (by omega)) rfl rfl (Nat.le_of_ble_eq_true rfl) (Nat.le_of_ble_eq_true rfl) (Nat.le_of_ble_eq_true rfl) rfl ?_
  rintro r1 s1 hp
  rw [hp.1, hp.2]
  show Go w mX9_column (0, 0) 15 [some (.ref a), some (.int (iZ c))] [.int (bI (0 ≤ c ∧ c ≤ (((A 1) 4) - 1)))] σ (fun r σ' => r = some (.int (iZ (spColumn (A 1) (A 3) c))) ∧ σ' = σ)
  refine z_ifB_eq (t := 31) (q := 18) dX9_column_15 rfl rfl (fun pc2 => ?_) (fun pc2 => ?_)
  · refine z_iconst (q := 32) dX9_column_31 rfl ?_
    refine z_iret dX9_column_32 rfl ?_
    exact ⟨congrArg (fun z => some (Value.int (iZ z))) (by unfold spColumn; (repeat (first | rw [if_pos (by omega)] | rw [if_neg (by omega)])); first | done | rfl | (congr 1; omega) | omega), rfl⟩
  · refine g_aload_n (q := 19) dX9_column_18 rfl rfl ?_
    refine g_get (q := 22) flX9_19 dX9_column_19 m0 rfl rfl ?_
    refine g_sipush (v := iZ 151) (q := 25) dX9_column_22 (by decide) rfl ?_
    refine g_iload_n (q := 26) dX9_column_25 rfl rfl ?_
    refine z_iaddc (c := (c + 151)) (q := 27) dX9_column_26 (by omega) rfl ?_
    refine z_iald (q := 28) dX9_column_27 m4 (by omega) rfl ?_
    have b3 := bS (c + 151)
    refine g_goto (q := 32) dX9_column_28 rfl ?_
    refine z_iret dX9_column_32 rfl ?_
    exact ⟨congrArg (fun z => some (Value.int (iZ z))) (by unfold spColumn; (repeat (first | rw [if_pos (by omega)] | rw [if_neg (by omega)])); first | done | rfl | (congr 1; omega) | omega), rfl⟩
theorem r_M_cell (σ : g_H0) (a : Nat) (I : Nat → Int) (A : Nat → Int → Int) (hM : rM a I A σ) (x y q : Int) (b_x : -2147483648 ≤ x ∧ x < 2147483648) (b_y : -2147483648 ≤ y ∧ y < 2147483648) (b_q : -2147483648 ≤ q ∧ q < 2147483648) (hT : wfT (A 1)) (hS : wfS (A 1) (A 3)) : Ret mX9_cell [.ref a, .int (iZ x), .int (iZ y), .int (iZ q)] σ (fun r σ' => r = some (.int (iZ (spCell (A 1) (A 3) x y q))) ∧ σ' = σ) := by
  refine Ret.of moX9_cell.1 (Nat.le_of_ble_eq_true rfl) (fun w => ?_)
  obtain ⟨m0, m1, m2, m3, m4, m5, m6, m7, m8, m9, m10, m11⟩ := id hM
  have bT := hT.1
  have bS := hS.bs hT
  have q0 := hT.2.1
  have q1 := hT.2.2.1
  have q2 := hT.2.2.2.1
  have h3 := hT.2.2.2.2.1
  have h4 := hT.2.2.2.2.2.1
  have s150 := hS.2.2.1
  show Go w mX9_cell (0, 0) 0 [some (.ref a), some (.int (iZ x)), some (.int (iZ y)), some (.int (iZ q))] [] σ (fun r σ' => r = some (.int (iZ (spCell (A 1) (A 3) x y q))) ∧ σ' = σ)
  refine g_aload_n (q := 1) dX9_cell_0 rfl rfl ?_
  refine g_iload_n (q := 2) dX9_cell_1 rfl rfl ?_
  refine g_iload_n (q := 3) dX9_cell_2 rfl rfl ?_
  refine g_callV (As := [.int (iZ x), .int (iZ y)]) (rest := []) (q := 6) moX9_isCell lkX9_cell_121 dX9_cell_3 rfl m0 (r_M_isCell σ a I A hM x y (by omega) (by omega) bT) rfl rfl (Nat.le_of_ble_eq_true rfl) (Nat.le_of_ble_eq_true rfl) (Nat.le_of_ble_eq_true rfl) rfl ?_
  rintro r1 s1 hp
  rw [hp.1, hp.2]
  show Go w mX9_cell (0, 0) 6 [some (.ref a), some (.int (iZ x)), some (.int (iZ y)), some (.int (iZ q))] [.int (bI ((0 ≤ x ∧ x < A 1 0) ∧ (0 ≤ y ∧ y < A 1 1)))] σ (fun r σ' => r = some (.int (iZ (spCell (A 1) (A 3) x y q))) ∧ σ' = σ)
  refine z_ifB_eq (t := 21) (q := 9) dX9_cell_6 rfl rfl (fun pc1 => ?_) (fun pc1 => ?_)
  · refine z_iconst (q := 22) dX9_cell_21 rfl ?_
    refine z_iret dX9_cell_22 rfl ?_
    exact ⟨congrArg (fun z => some (Value.int (iZ z))) (by unfold spCell; (repeat (first | rw [if_pos (by omega)] | rw [if_neg (by omega)])); first | done | rfl | (congr 1; omega) | omega), rfl⟩
  · refine g_iload_n (q := 10) dX9_cell_9 rfl rfl ?_
    refine z_i2l (q := 11) dX9_cell_10 (by omega) rfl ?_
    refine g_lconst (v := lZ 0) (q := 12) dX9_cell_11 (by decide) rfl ?_
    refine g_ldc2 (v := lZ 2) (q := 15) dX9_cell_12 klX9_180 rfl ?_
    refine g_callS (As := [.long (lZ q), .long (lZ 0), .long (lZ 2)]) (rest := []) (q := 18) moX9_in lkX9_cell_58 dX9_cell_15 (r_M_in σ q 0 2 (by omega) (by omega) (by omega)) rfl rfl (Nat.le_of_ble_eq_true rfl) (Nat.le_of_ble_eq_true rfl) (Nat.le_of_ble_eq_true rfl) rfl ?_
    rintro r1 s1 hp
    rw [hp.1, hp.2]
    show Go w mX9_cell (0, 0) 18 [some (.ref a), some (.int (iZ x)), some (.int (iZ y)), some (.int (iZ q))] [.int (bI (0 ≤ q ∧ q ≤ 2))] σ (fun r σ' => r = some (.int (iZ (spCell (A 1) (A 3) x y q))) ∧ σ' = σ)
    refine z_ifB_ne (t := 23) (q := 21) dX9_cell_18 rfl rfl (fun pc2 => ?_) (fun pc2 => ?_)
    · refine g_iload_n (q := 24) dX9_cell_23 rfl rfl ?_
      refine z_if_ne (t := 41) (q := 27) dX9_cell_24 rfl (by omega) rfl (fun pc3 => ?_) (fun pc3 => ?_)
      · refine g_iload_n (q := 42) dX9_cell_41 rfl rfl ?_
        refine z_iconst (q := 43) dX9_cell_42 rfl ?_
        refine z_icmp_ne (t := 55) (q := 46) dX9_cell_43 rfl (by omega) rfl (fun pc4 => ?_) (fun pc4 => ?_)
        · refine g_aload_n (q := 56) dX9_cell_55 rfl rfl ?_
          refine g_iload_n (q := 57) dX9_cell_56 rfl rfl ?_
          refine g_iload_n (q := 58) dX9_cell_57 rfl rfl ?_
          refine g_callV (As := [.int (iZ x), .int (iZ y)]) (rest := []) (q := 61) moX9_clampAt lkX9_cell_127 dX9_cell_58 rfl m0 (r_M_clampAt σ a I A hM x y (by omega) (by omega) bT bS h4) rfl rfl (Nat.le_of_ble_eq_true rfl) (Nat.le_of_ble_eq_true rfl) (Nat.le_of_ble_eq_true rfl) rfl ?_
          rintro r1 s1 hp
          rw [hp.1, hp.2]
          show Go w mX9_cell (0, 0) 61 [some (.ref a), some (.int (iZ x)), some (.int (iZ y)), some (.int (iZ q))] [.int (iZ (mClamp (A 1) (A 3) x y))] σ (fun r σ' => r = some (.int (iZ (spCell (A 1) (A 3) x y q))) ∧ σ' = σ)
          have b5 := mClamp_b (A 1) (A 3) x y h4
          refine z_iret dX9_cell_61 rfl ?_
          exact ⟨congrArg (fun z => some (Value.int (iZ z))) (by unfold spCell; (repeat (first | rw [if_pos (by omega)] | rw [if_neg (by omega)])); first | done | rfl | (congr 1; omega) | omega), rfl⟩
        · refine g_aload_n (q := 47) dX9_cell_46 rfl rfl ?_
          refine g_iload_n (q := 48) dX9_cell_47 rfl rfl ?_
          refine g_iload_n (q := 49) dX9_cell_48 rfl rfl ?_
          refine g_callV (As := [.int (iZ x), .int (iZ y)]) (rest := []) (q := 52) moX9_holeAt lkX9_cell_124 dX9_cell_49 rfl m0 (r_M_holeAt σ a I A hM x y (by omega) (by omega) bT h3) rfl rfl (Nat.le_of_ble_eq_true rfl) (Nat.le_of_ble_eq_true rfl) (Nat.le_of_ble_eq_true rfl) rfl ?_
          rintro r1 s1 hp
          rw [hp.1, hp.2]
          show Go w mX9_cell (0, 0) 52 [some (.ref a), some (.int (iZ x)), some (.int (iZ y)), some (.int (iZ q))] [.int (iZ (mHole (A 1) x y))] σ (fun r σ' => r = some (.int (iZ (spCell (A 1) (A 3) x y q))) ∧ σ' = σ)
          have b6 := mHole_b (A 1) x y h3
          refine g_goto (q := 61) dX9_cell_52 rfl ?_
          refine z_iret dX9_cell_61 rfl ?_
          exact ⟨congrArg (fun z => some (Value.int (iZ z))) (by unfold spCell; (repeat (first | rw [if_pos (by omega)] | rw [if_neg (by omega)])); first | done | rfl | (congr 1; omega) | omega), rfl⟩
      · refine g_aload_n (q := 28) dX9_cell_27 rfl rfl ?_
        refine g_get (q := 31) flX9_19 dX9_cell_28 m0 rfl rfl ?_
        refine g_bipush (v := iZ 12) (q := 33) dX9_cell_31 (by decide) rfl ?_
        refine g_iload_n (q := 34) dX9_cell_33 rfl rfl ?_
        refine z_imul (q := 35) dX9_cell_34 rfl ?_
        refine g_iload_n (q := 36) dX9_cell_35 rfl rfl ?_
        refine z_iaddc (c := (12 * y + x)) (q := 37) dX9_cell_36 (by omega) rfl ?_
        refine z_iald (q := 38) dX9_cell_37 m4 (by omega) rfl ?_
        have b7 := bS (12 * y + x)
        refine g_goto (q := 61) dX9_cell_38 rfl ?_
        refine z_iret dX9_cell_61 rfl ?_
        exact ⟨congrArg (fun z => some (Value.int (iZ z))) (by unfold spCell; (repeat (first | rw [if_pos (by omega)] | rw [if_neg (by omega)])); first | done | rfl | (congr 1; omega) | omega), rfl⟩
    · refine z_iconst (q := 22) dX9_cell_21 rfl ?_
      refine z_iret dX9_cell_22 rfl ?_
      exact ⟨congrArg (fun z => some (Value.int (iZ z))) (by unfold spCell; (repeat (first | rw [if_pos (by omega)] | rw [if_neg (by omega)])); first | done | rfl | (congr 1; omega) | omega), rfl⟩
theorem r_M_hole (σ : g_H0) (a : Nat) (I : Nat → Int) (A : Nat → Int → Int) (hM : rM a I A σ) (h q : Int) (b_h : -2147483648 ≤ h ∧ h < 2147483648) (b_q : -2147483648 ≤ q ∧ q < 2147483648) (hT : wfT (A 1)) (hS : wfS (A 1) (A 3)) : Ret mX9_hole [.ref a, .int (iZ h), .int (iZ q)] σ (fun r σ' => r = some (.int (iZ (spHole (A 1) (A 3) h q))) ∧ σ' = σ) := by
  refine Ret.of moX9_hole.1 (Nat.le_of_ble_eq_true rfl) (fun w => ?_)
  obtain ⟨m0, m1, m2, m3, m4, m5, m6, m7, m8, m9, m10, m11⟩ := id hM
  have bT := hT.1
  have bS := hS.bs hT
  have q0 := hT.2.1
  have q1 := hT.2.2.1
  have q2 := hT.2.2.2.1
  have h3 := hT.2.2.2.2.1
  have h4 := hT.2.2.2.2.2.1
  have s150 := hS.2.2.1
  show Go w mX9_hole (0, 0) 0 [some (.ref a), some (.int (iZ h)), some (.int (iZ q))] [] σ (fun r σ' => r = some (.int (iZ (spHole (A 1) (A 3) h q))) ∧ σ' = σ)
  refine g_aload_n (q := 1) dX9_hole_0 rfl rfl ?_
  refine g_iload_n (q := 2) dX9_hole_1 rfl rfl ?_
  refine g_callV (As := [.int (iZ h)]) (rest := []) (q := 5) moX9_isHole lkX9_hole_158 dX9_hole_2 rfl m0 (r_M_isHole σ a I A hM h (by omega) bT) rfl rfl (Nat.le_of_ble_eq_true rfl) (Nat.le_of_ble_eq_true rfl) (Nat.le_of_ble_eq_true rfl) rfl ?_
  rintro r1 s1 hp
  rw [hp.1, hp.2]
  show Go w mX9_hole (0, 0) 5 [some (.ref a), some (.int (iZ h)), some (.int (iZ q))] [.int (bI (0 ≤ h ∧ h < A 1 3))] σ (fun r σ' => r = some (.int (iZ (spHole (A 1) (A 3) h q))) ∧ σ' = σ)
  refine z_ifB_eq (t := 20) (q := 8) dX9_hole_5 rfl rfl (fun pc1 => ?_) (fun pc1 => ?_)
  · refine z_iconst (q := 21) dX9_hole_20 rfl ?_
    refine z_iret dX9_hole_21 rfl ?_
    exact ⟨congrArg (fun z => some (Value.int (iZ z))) (by unfold spHole; (repeat (first | rw [if_pos (by omega)] | rw [if_neg (by omega)])); first | done | rfl | (congr 1; omega) | omega), rfl⟩
  · refine g_iload_n (q := 9) dX9_hole_8 rfl rfl ?_
    refine z_i2l (q := 10) dX9_hole_9 (by omega) rfl ?_
    refine g_lconst (v := lZ 0) (q := 11) dX9_hole_10 (by decide) rfl ?_
    refine g_ldc2 (v := lZ 5) (q := 14) dX9_hole_11 klX9_178 rfl ?_
    refine g_callS (As := [.long (lZ q), .long (lZ 0), .long (lZ 5)]) (rest := []) (q := 17) moX9_in lkX9_hole_58 dX9_hole_14 (r_M_in σ q 0 5 (by omega) (by omega) (by omega)) rfl rfl (Nat.le_of_ble_eq_true rfl) (Nat.le_of_ble_eq_true rfl) (Nat.le_of_ble_eq_true rfl) rfl ?_
    rintro r1 s1 hp
    rw [hp.1, hp.2]
    show Go w mX9_hole (0, 0) 17 [some (.ref a), some (.int (iZ h)), some (.int (iZ q))] [.int (bI (0 ≤ q ∧ q ≤ 5))] σ (fun r σ' => r = some (.int (iZ (spHole (A 1) (A 3) h q))) ∧ σ' = σ)
    refine z_ifB_ne (t := 22) (q := 20) dX9_hole_17 rfl rfl (fun pc2 => ?_) (fun pc2 => ?_)
    · refine g_iload_n (q := 23) dX9_hole_22 rfl rfl ?_
      refine z_iconst (q := 24) dX9_hole_23 rfl ?_
      refine z_icmp_ge (t := 43) (q := 27) dX9_hole_24 rfl (by omega) rfl (fun pc3 => ?_) (fun pc3 => ?_)
      · refine g_iload_n (q := 44) dX9_hole_43 rfl rfl ?_
        refine z_iconst (q := 45) dX9_hole_44 rfl ?_
        refine z_icmp_ne (t := 56) (q := 48) dX9_hole_45 rfl (by omega) rfl (fun pc4 => ?_) (fun pc4 => ?_)
        · refine g_aload_n (q := 57) dX9_hole_56 rfl rfl ?_
          refine g_iload_n (q := 58) dX9_hole_57 rfl rfl ?_
          refine g_callV (As := [.int (iZ h)]) (rest := []) (q := 61) moX9_open lkX9_hole_165 dX9_hole_58 rfl m0 (r_M_open σ a I A hM h (by omega) bT bS h3) rfl rfl (Nat.le_of_ble_eq_true rfl) (Nat.le_of_ble_eq_true rfl) (Nat.le_of_ble_eq_true rfl) rfl ?_
          rintro r1 s1 hp
          rw [hp.1, hp.2]
          show Go w mX9_hole (0, 0) 61 [some (.ref a), some (.int (iZ h)), some (.int (iZ q))] [.int (iZ (mOpen (A 1) (A 3) h))] σ (fun r σ' => r = some (.int (iZ (spHole (A 1) (A 3) h q))) ∧ σ' = σ)
          have b5 := mOpen_b (A 1) (A 3) h hS.1
          refine z_if_ne (t := 68) (q := 64) dX9_hole_61 rfl (by omega) rfl (fun pc6 => ?_) (fun pc6 => ?_)
          · refine z_iconst (q := 69) dX9_hole_68 rfl ?_
            refine z_iret dX9_hole_69 rfl ?_
            exact ⟨congrArg (fun z => some (Value.int (iZ z))) (by unfold spHole; (repeat (first | rw [if_pos (by omega)] | rw [if_neg (by omega)])); first | done | rfl | (congr 1; omega) | omega), rfl⟩
          · refine z_iconst (q := 65) dX9_hole_64 rfl ?_
            refine g_goto (q := 69) dX9_hole_65 rfl ?_
            refine z_iret dX9_hole_69 rfl ?_
            exact ⟨congrArg (fun z => some (Value.int (iZ z))) (by unfold spHole; (repeat (first | rw [if_pos (by omega)] | rw [if_neg (by omega)])); first | done | rfl | (congr 1; omega) | omega), rfl⟩
        · refine g_aload_n (q := 49) dX9_hole_48 rfl rfl ?_
          refine g_iload_n (q := 50) dX9_hole_49 rfl rfl ?_
          refine g_callV (As := [.int (iZ h)]) (rest := []) (q := 53) moX9_open lkX9_hole_165 dX9_hole_50 rfl m0 (r_M_open σ a I A hM h (by omega) bT bS h3) rfl rfl (Nat.le_of_ble_eq_true rfl) (Nat.le_of_ble_eq_true rfl) (Nat.le_of_ble_eq_true rfl) rfl ?_
          rintro r1 s1 hp
          rw [hp.1, hp.2]
          show Go w mX9_hole (0, 0) 53 [some (.ref a), some (.int (iZ h)), some (.int (iZ q))] [.int (iZ (mOpen (A 1) (A 3) h))] σ (fun r σ' => r = some (.int (iZ (spHole (A 1) (A 3) h q))) ∧ σ' = σ)
          have b7 := mOpen_b (A 1) (A 3) h hS.1
          refine g_goto (q := 69) dX9_hole_53 rfl ?_
          refine z_iret dX9_hole_69 rfl ?_
          exact ⟨congrArg (fun z => some (Value.int (iZ z))) (by unfold spHole; (repeat (first | rw [if_pos (by omega)] | rw [if_neg (by omega)])); first | done | rfl | (congr 1; omega) | omega), rfl⟩
      · refine g_aload_n (q := 28) dX9_hole_27 rfl rfl ?_
        refine g_get (q := 31) flX9_13 dX9_hole_28 m0 rfl rfl ?_
        refine g_bipush (v := iZ 29) (q := 33) dX9_hole_31 (by decide) rfl ?_
        refine z_iconst (q := 34) dX9_hole_33 rfl ?_
        refine g_iload_n (q := 35) dX9_hole_34 rfl rfl ?_
        refine z_imul (q := 36) dX9_hole_35 rfl ?_
        refine z_iaddc (c := (4 * h + 29)) (q := 37) dX9_hole_36 (by omega) rfl ?_
        refine g_iload_n (q := 38) dX9_hole_37 rfl rfl ?_
        refine z_iaddc (c := (4 * h + q + 29)) (q := 39) dX9_hole_38 (by omega) rfl ?_
        refine z_iald (q := 40) dX9_hole_39 m2 (by omega) rfl ?_
        have b8 := bT (4 * h + q + 29)
        refine g_goto (q := 69) dX9_hole_40 rfl ?_
        refine z_iret dX9_hole_69 rfl ?_
        exact ⟨congrArg (fun z => some (Value.int (iZ z))) (by unfold spHole; (repeat (first | rw [if_pos (by omega)] | rw [if_neg (by omega)])); first | done | rfl | (congr 1; omega) | omega), rfl⟩
    · refine z_iconst (q := 21) dX9_hole_20 rfl ?_
      refine z_iret dX9_hole_21 rfl ?_
      exact ⟨congrArg (fun z => some (Value.int (iZ z))) (by unfold spHole; (repeat (first | rw [if_pos (by omega)] | rw [if_neg (by omega)])); first | done | rfl | (congr 1; omega) | omega), rfl⟩
theorem r_M_station (σ : g_H0) (a : Nat) (I : Nat → Int) (A : Nat → Int → Int) (hM : rM a I A σ) (k q : Int) (b_k : -2147483648 ≤ k ∧ k < 2147483648) (b_q : -2147483648 ≤ q ∧ q < 2147483648) (hT : wfT (A 1)) (hS : wfS (A 1) (A 3)) : Ret mX9_station [.ref a, .int (iZ k), .int (iZ q)] σ (fun r σ' => r = some (.int (iZ (spStation (A 1) (A 3) k q))) ∧ σ' = σ) := by
  refine Ret.of moX9_station.1 (Nat.le_of_ble_eq_true rfl) (fun w => ?_)
  obtain ⟨m0, m1, m2, m3, m4, m5, m6, m7, m8, m9, m10, m11⟩ := id hM
  have bT := hT.1
  have bS := hS.bs hT
  have q0 := hT.2.1
  have q1 := hT.2.2.1
  have q2 := hT.2.2.2.1
  have h3 := hT.2.2.2.2.1
  have h4 := hT.2.2.2.2.2.1
  have s150 := hS.2.2.1
  show Go w mX9_station (0, 0) 0 [some (.ref a), some (.int (iZ k)), some (.int (iZ q))] [] σ (fun r σ' => r = some (.int (iZ (spStation (A 1) (A 3) k q))) ∧ σ' = σ)
  refine g_aload_n (q := 1) dX9_station_0 rfl rfl ?_
  refine g_iload_n (q := 2) dX9_station_1 rfl rfl ?_
  refine g_callV (As := [.int (iZ k)]) (rest := []) (q := 5) moX9_isStation lkX9_station_134 dX9_station_2 rfl m0 (r_M_isStation σ a I A hM k (by omega) bT) rfl rfl (Nat.le_of_ble_eq_true rfl) (Nat.le_of_ble_eq_true rfl) (Nat.le_of_ble_eq_true rfl) rfl ?_
  rintro r1 s1 hp
  rw [hp.1, hp.2]
  show Go w mX9_station (0, 0) 5 [some (.ref a), some (.int (iZ k)), some (.int (iZ q))] [.int (bI (0 ≤ k ∧ k < A 1 2))] σ (fun r σ' => r = some (.int (iZ (spStation (A 1) (A 3) k q))) ∧ σ' = σ)
  refine z_ifB_eq (t := 20) (q := 8) dX9_station_5 rfl rfl (fun pc1 => ?_) (fun pc1 => ?_)
  · refine z_iconst (q := 21) dX9_station_20 rfl ?_
    refine z_iret dX9_station_21 rfl ?_
    exact ⟨congrArg (fun z => some (Value.int (iZ z))) (by unfold spStation; (repeat (first | rw [if_pos (by omega)] | rw [if_neg (by omega)])); first | done | rfl | (congr 1; omega) | omega), rfl⟩
  · refine g_iload_n (q := 9) dX9_station_8 rfl rfl ?_
    refine z_i2l (q := 10) dX9_station_9 (by omega) rfl ?_
    refine g_lconst (v := lZ 0) (q := 11) dX9_station_10 (by decide) rfl ?_
    refine g_ldc2 (v := lZ 6) (q := 14) dX9_station_11 klX9_176 rfl ?_
    refine g_callS (As := [.long (lZ q), .long (lZ 0), .long (lZ 6)]) (rest := []) (q := 17) moX9_in lkX9_station_58 dX9_station_14 (r_M_in σ q 0 6 (by omega) (by omega) (by omega)) rfl rfl (Nat.le_of_ble_eq_true rfl) (Nat.le_of_ble_eq_true rfl) (Nat.le_of_ble_eq_true rfl) rfl ?_
    rintro r1 s1 hp
    rw [hp.1, hp.2]
    show Go w mX9_station (0, 0) 17 [some (.ref a), some (.int (iZ k)), some (.int (iZ q))] [.int (bI (0 ≤ q ∧ q ≤ 6))] σ (fun r σ' => r = some (.int (iZ (spStation (A 1) (A 3) k q))) ∧ σ' = σ)
    refine z_ifB_ne (t := 22) (q := 20) dX9_station_17 rfl rfl (fun pc2 => ?_) (fun pc2 => ?_)
    · refine g_iload_n (q := 23) dX9_station_22 rfl rfl ?_
      refine z_table (ts := [60, 60, 60, 60, 73, 84]) (dt := 98) dX9_station_23 (by omega) rfl rfl rfl ⟨fun pc3 => ?_, fun pc3 => ?_, fun pc3 => ?_, fun pc3 => ?_, fun pc3 => ?_, fun pc3 => ?_, trivial⟩ (fun pc3 => ?_)
      · refine g_aload_n (q := 61) dX9_station_60 rfl rfl ?_
        refine g_get (q := 64) flX9_13 dX9_station_61 m0 rfl rfl ?_
        refine z_iconst (q := 65) dX9_station_64 rfl ?_
        refine z_iconst (q := 66) dX9_station_65 rfl ?_
        refine g_iload_n (q := 67) dX9_station_66 rfl rfl ?_
        refine z_imul (q := 68) dX9_station_67 rfl ?_
        refine z_iaddc (c := (4 * k + 5)) (q := 69) dX9_station_68 (by omega) rfl ?_
        refine g_iload_n (q := 70) dX9_station_69 rfl rfl ?_
        refine z_iaddc (c := (4 * k + q + 5)) (q := 71) dX9_station_70 (by omega) rfl ?_
        refine z_iald (q := 72) dX9_station_71 m2 (by omega) rfl ?_
        have b4 := bT (4 * k + q + 5)
        refine z_iret dX9_station_72 rfl ?_
        exact ⟨congrArg (fun z => some (Value.int (iZ z))) (by unfold spStation; (repeat (first | rw [if_pos (by omega)] | rw [if_neg (by omega)])); first | done | rfl | (congr 1; omega) | omega), rfl⟩
      · refine g_aload_n (q := 61) dX9_station_60 rfl rfl ?_
        refine g_get (q := 64) flX9_13 dX9_station_61 m0 rfl rfl ?_
        refine z_iconst (q := 65) dX9_station_64 rfl ?_
        refine z_iconst (q := 66) dX9_station_65 rfl ?_
        refine g_iload_n (q := 67) dX9_station_66 rfl rfl ?_
        refine z_imul (q := 68) dX9_station_67 rfl ?_
        refine z_iaddc (c := (4 * k + 5)) (q := 69) dX9_station_68 (by omega) rfl ?_
        refine g_iload_n (q := 70) dX9_station_69 rfl rfl ?_
        refine z_iaddc (c := (4 * k + q + 5)) (q := 71) dX9_station_70 (by omega) rfl ?_
        refine z_iald (q := 72) dX9_station_71 m2 (by omega) rfl ?_
        have b5 := bT (4 * k + q + 5)
        refine z_iret dX9_station_72 rfl ?_
        exact ⟨congrArg (fun z => some (Value.int (iZ z))) (by unfold spStation; (repeat (first | rw [if_pos (by omega)] | rw [if_neg (by omega)])); first | done | rfl | (congr 1; omega) | omega), rfl⟩
      · refine g_aload_n (q := 61) dX9_station_60 rfl rfl ?_
        refine g_get (q := 64) flX9_13 dX9_station_61 m0 rfl rfl ?_
        refine z_iconst (q := 65) dX9_station_64 rfl ?_
        refine z_iconst (q := 66) dX9_station_65 rfl ?_
        refine g_iload_n (q := 67) dX9_station_66 rfl rfl ?_
        refine z_imul (q := 68) dX9_station_67 rfl ?_
        refine z_iaddc (c := (4 * k + 5)) (q := 69) dX9_station_68 (by omega) rfl ?_
        refine g_iload_n (q := 70) dX9_station_69 rfl rfl ?_
        refine z_iaddc (c := (4 * k + q + 5)) (q := 71) dX9_station_70 (by omega) rfl ?_
        refine z_iald (q := 72) dX9_station_71 m2 (by omega) rfl ?_
        have b6 := bT (4 * k + q + 5)
        refine z_iret dX9_station_72 rfl ?_
        exact ⟨congrArg (fun z => some (Value.int (iZ z))) (by unfold spStation; (repeat (first | rw [if_pos (by omega)] | rw [if_neg (by omega)])); first | done | rfl | (congr 1; omega) | omega), rfl⟩
      · refine g_aload_n (q := 61) dX9_station_60 rfl rfl ?_
        refine g_get (q := 64) flX9_13 dX9_station_61 m0 rfl rfl ?_
        refine z_iconst (q := 65) dX9_station_64 rfl ?_
        refine z_iconst (q := 66) dX9_station_65 rfl ?_
        refine g_iload_n (q := 67) dX9_station_66 rfl rfl ?_
        refine z_imul (q := 68) dX9_station_67 rfl ?_
        refine z_iaddc (c := (4 * k + 5)) (q := 69) dX9_station_68 (by omega) rfl ?_
        refine g_iload_n (q := 70) dX9_station_69 rfl rfl ?_
        refine z_iaddc (c := (4 * k + q + 5)) (q := 71) dX9_station_70 (by omega) rfl ?_
        refine z_iald (q := 72) dX9_station_71 m2 (by omega) rfl ?_
        have b7 := bT (4 * k + q + 5)
        refine z_iret dX9_station_72 rfl ?_
        exact ⟨congrArg (fun z => some (Value.int (iZ z))) (by unfold spStation; (repeat (first | rw [if_pos (by omega)] | rw [if_neg (by omega)])); first | done | rfl | (congr 1; omega) | omega), rfl⟩
      · refine g_aload_n (q := 74) dX9_station_73 rfl rfl ?_
        refine g_get (q := 77) flX9_19 dX9_station_74 m0 rfl rfl ?_
        refine g_sipush (v := iZ 144) (q := 80) dX9_station_77 (by decide) rfl ?_
        refine g_iload_n (q := 81) dX9_station_80 rfl rfl ?_
        refine z_iaddc (c := (k + 144)) (q := 82) dX9_station_81 (by omega) rfl ?_
        refine z_iald (q := 83) dX9_station_82 m4 (by omega) rfl ?_
        have b8 := bS (k + 144)
        refine z_iret dX9_station_83 rfl ?_
        exact ⟨congrArg (fun z => some (Value.int (iZ z))) (by unfold spStation; (repeat (first | rw [if_pos (by omega)] | rw [if_neg (by omega)])); first | done | rfl | (congr 1; omega) | omega), rfl⟩
      · refine g_aload_n (q := 85) dX9_station_84 rfl rfl ?_
        refine g_iload_n (q := 86) dX9_station_85 rfl rfl ?_
        refine g_callV (As := [.int (iZ k)]) (rest := []) (q := 89) moX9_isDull lkX9_station_130 dX9_station_86 rfl m0 (r_M_isDull σ a I A hM k (by omega) bT bS) rfl rfl (Nat.le_of_ble_eq_true rfl) (Nat.le_of_ble_eq_true rfl) (Nat.le_of_ble_eq_true rfl) rfl ?_
        rintro r1 s1 hp
        rw [hp.1, hp.2]
        show Go w mX9_station (0, 0) 89 [some (.ref a), some (.int (iZ k)), some (.int (iZ q))] [.int (bI (A 1 (4 * k + 8) ≤ (A 3) (k + 144)))] σ (fun r σ' => r = some (.int (iZ (spStation (A 1) (A 3) k q))) ∧ σ' = σ)
        refine z_ifB_eq (t := 96) (q := 92) dX9_station_89 rfl rfl (fun pc9 => ?_) (fun pc9 => ?_)
        · refine z_iconst (q := 97) dX9_station_96 rfl ?_
          refine z_iret dX9_station_97 rfl ?_
          exact ⟨congrArg (fun z => some (Value.int (iZ z))) (by unfold spStation; (repeat (first | rw [if_pos (by omega)] | rw [if_neg (by omega)])); first | done | rfl | (congr 1; omega) | omega), rfl⟩
        · refine z_iconst (q := 93) dX9_station_92 rfl ?_
          refine g_goto (q := 97) dX9_station_93 rfl ?_
          refine z_iret dX9_station_97 rfl ?_
          exact ⟨congrArg (fun z => some (Value.int (iZ z))) (by unfold spStation; (repeat (first | rw [if_pos (by omega)] | rw [if_neg (by omega)])); first | done | rfl | (congr 1; omega) | omega), rfl⟩
      · refine g_aload_n (q := 99) dX9_station_98 rfl rfl ?_
        refine g_aload_n (q := 100) dX9_station_99 rfl rfl ?_
        refine g_get (q := 103) flX9_19 dX9_station_100 m0 rfl rfl ?_
        refine g_sipush (v := iZ 150) (q := 106) dX9_station_103 (by decide) rfl ?_
        refine z_iald (q := 107) dX9_station_106 m4 (by omega) rfl ?_
        have b10 := bS 150
        refine g_iload_n (q := 108) dX9_station_107 rfl rfl ?_
        refine g_callV (As := [.int (iZ ((A 3) 150)), .int (iZ k)]) (rest := []) (q := 111) moX9_ring lkX9_station_143 dX9_station_108 rfl m0 (r_M_ring σ a I A hM ((A 3) 150) k (by omega) (by omega) bT) rfl rfl (Nat.le_of_ble_eq_true rfl) (Nat.le_of_ble_eq_true rfl) (Nat.le_of_ble_eq_true rfl) rfl ?_
        rintro r1 s1 hp
        rw [hp.1, hp.2]
        show Go w mX9_station (0, 0) 111 [some (.ref a), some (.int (iZ k)), some (.int (iZ q))] [.int (iZ (mRing (A 1) ((A 3) 150) k))] σ (fun r σ' => r = some (.int (iZ (spStation (A 1) (A 3) k q))) ∧ σ' = σ)
        refine z_iret dX9_station_111 rfl ?_
        exact ⟨congrArg (fun z => some (Value.int (iZ z))) (by unfold spStation; (repeat (first | rw [if_pos (by omega)] | rw [if_neg (by omega)])); first | done | rfl | (congr 1; omega) | omega), rfl⟩
    · refine z_iconst (q := 21) dX9_station_20 rfl ?_
      refine z_iret dX9_station_21 rfl ?_
      exact ⟨congrArg (fun z => some (Value.int (iZ z))) (by unfold spStation; (repeat (first | rw [if_pos (by omega)] | rw [if_neg (by omega)])); first | done | rfl | (congr 1; omega) | omega), rfl⟩
