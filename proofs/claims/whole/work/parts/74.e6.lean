/-! the way round the TURRET: the same -/
def ah (n here k : Int) : Int := if here ≤ k then k - here else k - here + n
theorem ah_mod {n here k : Int} (hn : 1 ≤ n ∧ n ≤ 6) (hh : 0 ≤ here ∧ here < n) (hk : 0 ≤ k ∧ k < n) : (k - here + n) % n = ah n here k := by
  unfold ah
  rcases (by omega : n = 1 ∨ n = 2 ∨ n = 3 ∨ n = 4 ∨ n = 5 ∨ n = 6) with rfl | rfl | rfl | rfl | rfl | rfl <;> (split <;> omega)
/-- the longest way back that is needed -/
def bkP (n here set on B : Int) : Prop := 0 ≤ B ∧ (B = 0 ∨ ∃ k, 0 ≤ k ∧ k < n ∧ bt set k = 1 ∧ on < ah n here k ∧ B = n - ah n here k) ∧ ∀ k, 0 ≤ k → k < n → bt set k = 1 → on < ah n here k → n - ah n here k ≤ B
theorem bkP.eq {n here set on B C : Int} (hb : bkP n here set on B) (hc : bkP n here set on C) : B = C := by
  obtain ⟨b0, b1, b2⟩ := hb
  obtain ⟨c0, c1, c2⟩ := hc
  have h1 : B ≤ C := by
    rcases b1 with e | ⟨k, k0, k1, k2, k3, k4⟩
    · omega
    · have := c2 k k0 k1 k2 k3; omega
  have h2 : C ≤ B := by
    rcases c1 with e | ⟨k, k0, k1, k2, k3, k4⟩
    · omega
    · have := b2 k k0 k1 k2 k3; omega
  omega
theorem mBackF_spec {n here set on : Int} (hn : 1 ≤ n ∧ n ≤ 6) (hh : 0 ≤ here ∧ here < n) : ∀ (m : Nat) (k b : Int), 0 ≤ k → k + m ≤ n → b ≤ mBackF n here set on m k b ∧ (mBackF n here set on m k b = b ∨ ∃ q, k ≤ q ∧ q < k + m ∧ bt set q = 1 ∧ on < ah n here q ∧ mBackF n here set on m k b = n - ah n here q) ∧ ∀ q, k ≤ q → q < k + m → bt set q = 1 → on < ah n here q → n - ah n here q ≤ mBackF n here set on m k b
  | 0, k, b, _, _ => ⟨Int.le_refl _, Or.inl rfl, fun q q0 q1 => by omega⟩
  | m + 1, k, b, k0, k1 => by
    unfold mBackF
    rw [ah_mod hn hh ⟨k0, by omega⟩]
    have eb : set / pw k % 2 = bt set k := rfl
    rw [eb]
    by_cases c : bt set k = 1 ∧ on < ah n here k ∧ b < n - ah n here k
    · rw [if_pos c]
      obtain ⟨i1, i2, i3⟩ := mBackF_spec hn hh (set := set) (on := on) m (k + 1) (n - ah n here k) (by omega) (by omega)
      refine ⟨by omega, ?_, fun q q0 q1 q2 q3 => ?_⟩
      · rcases i2 with e | ⟨q, q0, q1, q2, q3, q4⟩
        · exact Or.inr ⟨k, by omega, by omega, c.1, c.2.1, e⟩
        · exact Or.inr ⟨q, by omega, by omega, q2, q3, q4⟩
      · by_cases g : q = k
        · rw [g]; omega
        · exact i3 q (by omega) (by omega) q2 q3
    · rw [if_neg c]
      obtain ⟨i1, i2, i3⟩ := mBackF_spec hn hh (set := set) (on := on) m (k + 1) b (by omega) (by omega)
      refine ⟨i1, ?_, fun q q0 q1 q2 q3 => ?_⟩
      · rcases i2 with e | ⟨q, q0, q1, q2, q3, q4⟩
        · exact Or.inl e
        · exact Or.inr ⟨q, by omega, by omega, q2, q3, q4⟩
      · by_cases g : q = k
        · rw [g] at q2 q3 ⊢
          have : ¬ b < n - ah n here k := fun e => c ⟨q2, q3, e⟩
          omega
        · exact i3 q (by omega) (by omega) q2 q3
theorem mBack_P {n here set on : Int} (hn : 1 ≤ n ∧ n ≤ 6) (hh : 0 ≤ here ∧ here < n) : bkP n here set on (mBackF n here set on n.toNat 0 0) := by
  obtain ⟨i1, i2, i3⟩ := mBackF_spec hn hh (set := set) (on := on) n.toNat 0 0 (by omega) (by omega)
  refine ⟨i1, ?_, fun k k0 k1 => i3 k k0 (by omega)⟩
  rcases i2 with e | ⟨q, q0, q1, q2, q3, q4⟩
  · exact Or.inl e
  · exact Or.inr ⟨q, q0, by omega, q2, q3, q4⟩
theorem cDbF_P {n here set : Int} (hn : 1 ≤ n ∧ n ≤ 6) (hh : 0 ≤ here ∧ here < n) : ∀ (m : Nat) (s : Int), 0 ≤ s → s + m = n → bkP n here set (s - 1) (cDbF n here set m s)
  | 0, s, s0, s1 => by
    unfold cDbF
    refine ⟨by omega, Or.inl rfl, fun k k0 k1 k2 k3 => ?_⟩
    have : ah n here k < n := by unfold ah; split <;> omega
    omega
  | m + 1, s, s0, s1 => by
    have ih := cDbF_P hn hh (set := set) m (s + 1) (by omega) (by omega)
    have uq : ∀ k, 0 ≤ k → k < n → ah n here k = s → k = (if here + s < n then here + s else here + s - n) := by
      intro k k0 k1 e
      unfold ah at e
      split at e <;> split <;> omega
    have at_ : ah n here (if here + s < n then here + s else here + s - n) = s := by
      unfold ah
      split <;> split <;> omega
    have rg : 0 ≤ (if here + s < n then here + s else here + s - n) ∧ (if here + s < n then here + s else here + s - n) < n := by split <;> omega
    have b01 := bt_01 set (if here + s < n then here + s else here + s - n)
    unfold cDbF
    generalize (if here + s < n then here + s else here + s - n) = ks at uq at_ rg b01 ⊢
    by_cases c : bt set ks = 0
    · rw [if_pos c]
      obtain ⟨i0, i1, i2⟩ := ih
      refine ⟨i0, ?_, fun k k0 k1 k2 k3 => ?_⟩
      · rcases i1 with e | ⟨k, k0, k1, k2, k3, k4⟩
        · exact Or.inl e
        · exact Or.inr ⟨k, k0, k1, k2, by omega, k4⟩
      · by_cases g : ah n here k = s
        · have := uq k k0 k1 g
          rw [this, c] at k2; omega
        · exact i2 k k0 k1 k2 (by omega)
    · rw [if_neg c]
      exact ⟨by omega, Or.inr ⟨ks, rg.1, rg.2, by omega, by omega, by rw [at_]⟩, fun k k0 k1 k2 k3 => by omega⟩
theorem cDb_eq {n here set on : Int} (hn : 1 ≤ n ∧ n ≤ 6) (hh : 0 ≤ here ∧ here < n) (ho : 0 ≤ on ∧ on < n) : cDb n here set on = mBackF n here set on n.toNat 0 0 := by
  have h1 := cDbF_P hn hh (set := set) (n - (on + 1)).toNat (on + 1) (by omega) (by omega)
  rw [show on + 1 - 1 = on by omega] at h1
  exact h1.eq (mBack_P hn hh)
def wy (n here set on : Int) : Int := if on < mBackF n here set on n.toNat 0 0 then 2 * on + mBackF n here set on n.toNat 0 0 else on + 2 * mBackF n here set on n.toNat 0 0
theorem mRoundF_spec {n here set : Int} : ∀ (m : Nat) (on l : Int), mRoundF n here set m on l ≤ l ∧ (mRoundF n here set m on l = l ∨ ∃ q, on ≤ q ∧ q < on + m ∧ mRoundF n here set m on l = wy n here set q) ∧ ∀ q, on ≤ q → q < on + m → mRoundF n here set m on l ≤ wy n here set q
  | 0, on, l => ⟨Int.le_refl _, Or.inl rfl, fun q q0 q1 => by omega⟩
  | m + 1, on, l => by
    unfold mRoundF
    have ew : (if on < mBackF n here set on n.toNat 0 0 then 2 * on + mBackF n here set on n.toNat 0 0 else on + 2 * mBackF n here set on n.toNat 0 0) = wy n here set on := rfl
    rw [ew]
    obtain ⟨i1, i2, i3⟩ := mRoundF_spec (n := n) (here := here) (set := set) m (on + 1) (if wy n here set on < l then wy n here set on else l)
    by_cases c : wy n here set on < l
    · rw [if_pos c] at i1 i2 i3 ⊢
      refine ⟨by omega, ?_, fun q q0 q1 => ?_⟩
      · rcases i2 with e | ⟨q, q0, q1, q2⟩
        · exact Or.inr ⟨on, by omega, by omega, e⟩
        · exact Or.inr ⟨q, by omega, by omega, q2⟩
      · by_cases g : q = on
        · rw [g]; exact i1
        · exact i3 q (by omega) (by omega)
    · rw [if_neg c] at i1 i2 i3 ⊢
      refine ⟨i1, ?_, fun q q0 q1 => ?_⟩
      · rcases i2 with e | ⟨q, q0, q1, q2⟩
        · exact Or.inl e
        · exact Or.inr ⟨q, by omega, by omega, q2⟩
      · by_cases g : q = on
        · rw [g]; omega
        · exact i3 q (by omega) (by omega)
theorem cTtF_spec {n here set : Int} (hn : 1 ≤ n ∧ n ≤ 6) (hh : 0 ≤ here ∧ here < n) : ∀ (m : Nat) (on l : Int), 0 ≤ on → on + m ≤ n → cTtF n here set m on l ≤ l ∧ (cTtF n here set m on l = l ∨ ∃ q, on ≤ q ∧ q < on + m ∧ cTtF n here set m on l = wy n here set q) ∧ ∀ q, on ≤ q → q < on + m → cTtF n here set m on l ≤ wy n here set q
  | 0, on, l, _, _ => ⟨Int.le_refl _, Or.inl rfl, fun q q0 q1 => by omega⟩
  | m + 1, on, l, h0, h1 => by
    unfold cTtF
    have ew : on + cDb n here set on + zmin on (cDb n here set on) = wy n here set on := by
      rw [cDb_eq hn hh ⟨h0, by omega⟩]
      have z := zmin_c on (mBackF n here set on n.toNat 0 0)
      unfold wy
      split <;> omega
    rw [ew]
    have z := zmin_c l (wy n here set on)
    obtain ⟨i1, i2, i3⟩ := cTtF_spec hn hh (set := set) m (on + 1) (zmin l (wy n here set on)) (by omega) (by omega)
    refine ⟨by omega, ?_, fun q q0 q1 => ?_⟩
    · rcases i2 with e | ⟨q, q0, q1, q2⟩
      · by_cases c : wy n here set on < l
        · exact Or.inr ⟨on, by omega, by omega, by omega⟩
        · exact Or.inl (by omega)
      · exact Or.inr ⟨q, by omega, by omega, q2⟩
    · by_cases g : q = on
      · rw [g]; omega
      · exact i3 q (by omega) (by omega)
theorem wy_last {n here set : Int} (hn : 1 ≤ n ∧ n ≤ 6) (hh : 0 ≤ here ∧ here < n) : wy n here set (n - 1) = n - 1 := by
  obtain ⟨b0, b1, b2⟩ := mBack_P (set := set) (on := n - 1) hn hh
  have e : mBackF n here set (n - 1) n.toNat 0 0 = 0 := by
    rcases b1 with e | ⟨k, k0, k1, k2, k3, k4⟩
    · exact e
    · exfalso
      have : ah n here k < n := by unfold ah; split <;> omega
      omega
  unfold wy
  rw [e, if_neg (by omega)]; omega
theorem mRound_wy {n here set : Int} (hn : 1 ≤ n ∧ n ≤ 6) (hh : 0 ≤ here ∧ here < n) : (∃ q, 0 ≤ q ∧ q < n ∧ mRound n here set = wy n here set q) ∧ ∀ q, 0 ≤ q → q < n → mRound n here set ≤ wy n here set q := by
  obtain ⟨i1, i2, i3⟩ := mRoundF_spec (n := n) (here := here) (set := set) n.toNat 0 100
  have hl := wy_last (set := set) hn hh
  have h1 := i3 (n - 1) (by omega) (by omega)
  refine ⟨?_, fun q q0 q1 => i3 q q0 (by omega)⟩
  rcases i2 with e | ⟨q, q0, q1, q2⟩
  · omega
  · exact ⟨q, q0, by omega, q2⟩
theorem cTt_eq {n here set : Int} (hn : 1 ≤ n ∧ n ≤ 6) (hh : 0 ≤ here ∧ here < n) : cTt n here set = mRound n here set := by
  obtain ⟨⟨q, q0, q1, q2⟩, q3⟩ := mRound_wy (set := set) hn hh
  obtain ⟨i1, i2, i3⟩ := cTtF_spec hn hh (set := set) n.toNat 0 n (by omega) (by omega)
  have hl := wy_last (set := set) hn hh
  have h1 := i3 (n - 1) (by omega) (by omega)
  unfold cTt
  have ha := i3 q q0 (by omega)
  rcases i2 with e | ⟨p, p0, p1, p2⟩
  · omega
  · have := q3 p p0 (by omega)
    omega
theorem mRound_mono {n here s s' : Int} (hn : 1 ≤ n ∧ n ≤ 6) (hh : 0 ≤ here ∧ here < n) (h : ∀ k, 0 ≤ k → k < n → bt s' k = 1 → bt s k = 1) : mRound n here s' ≤ mRound n here s := by
  obtain ⟨⟨q, q0, q1, q2⟩, -⟩ := mRound_wy (set := s) hn hh
  obtain ⟨-, q3⟩ := mRound_wy (set := s') hn hh
  have := q3 q q0 q1
  rw [q2]
  refine Int.le_trans this ?_
  obtain ⟨b0, b1, b2⟩ := mBack_P (set := s) (on := q) hn hh
  obtain ⟨c0, c1, c2⟩ := mBack_P (set := s') (on := q) hn hh
  have le : mBackF n here s' q n.toNat 0 0 ≤ mBackF n here s q n.toNat 0 0 := by
    rcases c1 with e | ⟨k, k0, k1, k2, k3, k4⟩
    · omega
    · have := b2 k k0 k1 (h k k0 k1 k2) k3; omega
  unfold wy
  split <;> split <;> omega
/-! the best of the plans -/
def LE3 (x1 x2 x3 y1 y2 y3 : Int) : Prop := x1 < y1 ∨ (x1 = y1 ∧ (x2 < y2 ∨ (x2 = y2 ∧ x3 ≤ y3)))
theorem mDecF_W (O Ha : Int → Int) (n2 : Int) : ∀ (m : Nat) (h l s u y : Int) (W W' : Int → Int), (mDecF O Ha n2 m h l s u y W).2.1 = (mDecF O Ha n2 m h l s u y W').2.1
  | 0, h, l, s, u, y, W, W' => rfl
  | m + 1, h, l, s, u, y, W, W' => by unfold mDecF; exact mDecF_W O Ha n2 m _ _ _ _ _ _ _
def plS (O Ha : Int → Int) (n2 : Int) (H : Nat) (c : Int) : Int := (mDecF O Ha n2 H (H - 1) c 0 0 1 (fun _ => 0)).2.1
def plM (O Ha : Int → Int) (n2 : Int) (H : Nat) (c : Int) : Prop := ∀ h : Int, 0 ≤ h → h < H → O h = 1 → Ha (12 * h + dig O n2 H c h) ≠ -4
def plU (O Ha : Int → Int) (n2 : Int) (H : Nat) (c : Int) : Int := HF O Ha (dig O n2 H c) H
def RefI (O Ha R : Int → Int) (n2 : Int) (H : Nat) (c0 f bh bt_ : Int) (Bs : Int → Int) : Prop :=
  (f = 0 ∧ ∀ c, 0 ≤ c → c < c0 → ¬ plM O Ha n2 H c) ∨
  (f = 1 ∧ ∃ c, 0 ≤ c ∧ c < c0 ∧ plM O Ha n2 H c ∧ bh = plU O Ha n2 H c ∧ bt_ = R (plS O Ha n2 H c) ∧ (∀ h : Int, 0 ≤ h → h < H → Bs h = dig O n2 H c h) ∧ ∀ c', 0 ≤ c' → c' < c0 → plM O Ha n2 H c' → LE3 (plU O Ha n2 H c + R (plS O Ha n2 H c)) (R (plS O Ha n2 H c)) c (plU O Ha n2 H c' + R (plS O Ha n2 H c')) (R (plS O Ha n2 H c')) c')
theorem mPlF_I {T O Ha R : Int → Int} (hN : 1 ≤ T 2 ∧ T 2 ≤ 6) (hH : 0 ≤ T 3) : ∀ (n : Nat) (c f bh bt_ : Int) (Bs W : Int → Int), 0 ≤ c → RefI O Ha R (2 * T 2) (T 3).toNat c f bh bt_ Bs → RefI O Ha R (2 * T 2) (T 3).toNat (c + n) (mPlF T O Ha R n c f bh bt_ Bs W).1 (mPlF T O Ha R n c f bh bt_ Bs W).2.1 (mPlF T O Ha R n c f bh bt_ Bs W).2.2.1 (mPlF T O Ha R n c f bh bt_ Bs W).2.2.2.1
  | 0, c, f, bh, bt_, Bs, W, _, hI => by
    rw [show c + ((0 : Nat) : Int) = c by omega]; exact hI
  | n + 1, c, f, bh, bt_, Bs, W, hc0, hI => by
    unfold mPlF
    have e1 : T 3 - 1 = (((T 3).toNat : Nat) : Int) - 1 := by omega
    obtain ⟨⟨d0, d1⟩, d2, d3, d4⟩ := dec_spec (O := O) (Ha := Ha) hN rfl (T 3).toNat c 0 0 1 W (by omega) (by omega)
    have dS : (mDecF O Ha (2 * T 2) (T 3).toNat ((((T 3).toNat : Nat) : Int) - 1) c 0 0 1 W).2.1 = plS O Ha (2 * T 2) (T 3).toNat c := mDecF_W _ _ _ _ _ _ _ _ _ _ _
    rw [e1]
    generalize mDecF O Ha (2 * T 2) (T 3).toNat ((((T 3).toNat : Nat) : Int) - 1) c 0 0 1 W = D at d0 d1 d2 d3 d4 dS ⊢
    have dU : D.2.2.1 = plU O Ha (2 * T 2) (T 3).toNat c := by rw [d2, Int.zero_add]; rfl
    have dM : D.2.2.2.1 = 1 ↔ plM O Ha (2 * T 2) (T 3).toNat c := ⟨fun e => (d3.mp e).2, fun e => d3.mpr ⟨rfl, e⟩⟩
    rw [dS, dU]
    have ec : c + ((n + 1 : Nat) : Int) = c + 1 + n := by push_cast; omega
    rw [ec]
    by_cases b : D.2.2.2.1 = 1 ∧ (f = 0 ∨ plU O Ha (2 * T 2) (T 3).toNat c + R (plS O Ha (2 * T 2) (T 3).toNat c) < bh + bt_ ∨ (plU O Ha (2 * T 2) (T 3).toNat c + R (plS O Ha (2 * T 2) (T 3).toNat c) = bh + bt_ ∧ R (plS O Ha (2 * T 2) (T 3).toNat c) < bt_))
    · rw [if_pos b]
      refine mPlF_I hN hH n (c + 1) _ _ _ _ _ (by omega) (Or.inr ⟨rfl, c, hc0, by omega, dM.mp b.1, rfl, rfl, fun h h0 h1 => ?_, fun c' c0' c1' m' => ?_⟩)
      · unfold zcp
        rw [if_pos (by omega), Int.add_zero, d4 h, if_pos ⟨h0, h1⟩]
      · by_cases g : c' = c
        · rw [g]; unfold LE3; omega
        · rcases hI with ⟨_, hI⟩ | ⟨f1, k, k0, k1, k2, k3, k4, k5, k6⟩
          · exact absurd m' (hI c' c0' (by omega))
          · have := k6 c' c0' (by omega) m'
            unfold LE3 at this ⊢
            omega
    · rw [if_neg b]
      refine mPlF_I hN hH n (c + 1) _ _ _ _ _ (by omega) ?_
      rcases hI with ⟨f0, hI⟩ | ⟨f1, k, k0, k1, k2, k3, k4, k5, k6⟩
      · refine Or.inl ⟨f0, fun c' c0' c1' m' => ?_⟩
        by_cases g : c' = c
        · rw [g] at m'; exact b ⟨dM.mpr m', Or.inl f0⟩
        · exact hI c' c0' (by omega) m'
      · refine Or.inr ⟨f1, k, k0, by omega, k2, k3, k4, k5, fun c' c0' c1' m' => ?_⟩
        by_cases g : c' = c
        · rw [g] at m' ⊢
          have nb : ¬ (f = 0 ∨ plU O Ha (2 * T 2) (T 3).toNat c + R (plS O Ha (2 * T 2) (T 3).toNat c) < bh + bt_ ∨ (plU O Ha (2 * T 2) (T 3).toNat c + R (plS O Ha (2 * T 2) (T 3).toNat c) = bh + bt_ ∧ R (plS O Ha (2 * T 2) (T 3).toNat c) < bt_)) := fun e => b ⟨dM.mpr m', e⟩
          unfold LE3
          omega
        · exact k6 c' c0' (by omega) m'
