/-! THE PLAN: by numbers of plans and by sets of STATIONS, the same -/
def dig (O : Int → Int) (n2 : Int) : Nat → Int → Int → Int
  | 0, _, _ => 0
  | k + 1, c, h => if h = (k : Int) then (if O k = 1 then c % n2 else 0) else dig O n2 k (if O k = 1 then c / n2 else c) h
def EF (O : Int → Int) (n2 : Int) (a : Int → Int) : Nat → Int
  | 0 => 0
  | k + 1 => if O k = 1 then EF O n2 a k * n2 + a k else EF O n2 a k
def CF (O : Int → Int) (n2 : Int) : Nat → Int
  | 0 => 1
  | k + 1 => if O k = 1 then CF O n2 k * n2 else CF O n2 k
def HF (O Ha a : Int → Int) : Nat → Int
  | 0 => 0
  | k + 1 => HF O Ha a k + (if O k = 1 then Ha (12 * k + a k) else 0)
section PL
variable {O Ha : Int → Int} {n2 : Int}
theorem CF_pos (h2 : 1 ≤ n2) : ∀ k : Nat, 1 ≤ CF O n2 k
  | 0 => Int.le_refl _
  | k + 1 => by
    have := CF_pos h2 k
    unfold CF
    split
    · have := Int.mul_le_mul this h2 (by omega) (by omega); omega
    · exact this
theorem EF_b (h2 : 1 ≤ n2) {a : Int → Int} : ∀ k : Nat, (∀ h : Int, 0 ≤ h → h < k → O h = 1 → 0 ≤ a h ∧ a h < n2) → 0 ≤ EF O n2 a k ∧ EF O n2 a k < CF O n2 k
  | 0, _ => by unfold EF CF; omega
  | k + 1, ha => by
    have ih := EF_b h2 k (fun h h0 h1 => ha h h0 (by omega))
    unfold EF CF
    split
    · next e =>
      have d := ha k (by omega) (by omega) e
      have m1 : 0 ≤ EF O n2 a k * n2 := Int.mul_nonneg ih.1 (by omega)
      have m2 : EF O n2 a k * n2 ≤ (CF O n2 k - 1) * n2 := Int.mul_le_mul_of_nonneg_right (by omega) (by omega)
      rw [Int.sub_mul, Int.one_mul] at m2
      omega
    · exact ih
theorem dig_EF (h2 : 1 ≤ n2) {a : Int → Int} : ∀ k : Nat, (∀ h : Int, 0 ≤ h → h < k → O h = 1 → 0 ≤ a h ∧ a h < n2) → ∀ h : Int, 0 ≤ h → h < k → dig O n2 k (EF O n2 a k) h = if O h = 1 then a h else 0
  | 0, _, h, h0, h1 => by omega
  | k + 1, ha, h, h0, h1 => by
    have ih := dig_EF h2 k (fun h h0 h1 => ha h h0 (by omega))
    unfold dig
    by_cases e : h = k
    · subst e
      rw [if_pos rfl]
      by_cases o : O k = 1
      · rw [if_pos o, if_pos o]
        have d := ha k (by omega) (by omega) o
        unfold EF
        rw [if_pos o, Int.add_comm, Int.add_mul_emod_self_right, Int.emod_eq_of_lt d.1 d.2]
      · rw [if_neg o, if_neg o]
    · rw [if_neg e]
      by_cases o : O k = 1
      · rw [if_pos o]
        have d := ha k (by omega) (by omega) o
        have ee : EF O n2 a (k + 1) / n2 = EF O n2 a k := by
          show (if O k = 1 then EF O n2 a k * n2 + a k else EF O n2 a k) / n2 = _
          rw [if_pos o, Int.add_comm, Int.add_mul_ediv_right _ _ (by omega), Int.ediv_eq_zero_of_lt d.1 d.2, Int.zero_add]
        rw [ee]
        exact ih h h0 (by omega)
      · rw [if_neg o]
        have ee : EF O n2 a (k + 1) = EF O n2 a k := by
          show (if O k = 1 then EF O n2 a k * n2 + a k else EF O n2 a k) = _
          rw [if_neg o]
        rw [ee]
        exact ih h h0 (by omega)
theorem dig_b (h2 : 1 ≤ n2) : ∀ (k : Nat) (c h : Int), 0 ≤ dig O n2 k c h ∧ dig O n2 k c h < n2
  | 0, c, h => by unfold dig; omega
  | k + 1, c, h => by
    unfold dig
    split
    · split
      · exact ⟨Int.emod_nonneg _ (by omega), Int.emod_lt_of_pos _ (by omega)⟩
      · omega
    · exact dig_b h2 k _ h
theorem EF_congr {a b : Int → Int} : ∀ k : Nat, (∀ h : Int, 0 ≤ h → h < k → O h = 1 → a h = b h) → EF O n2 a k = EF O n2 b k
  | 0, _ => rfl
  | k + 1, h => by
    unfold EF
    rw [EF_congr k (fun h' h0 h1 => h h' h0 (by omega))]
    split
    · next e => rw [h k (by omega) (by omega) e]
    · rfl
theorem EF_dig (h2 : 1 ≤ n2) : ∀ (k : Nat) (c : Int), 0 ≤ c → c < CF O n2 k → EF O n2 (dig O n2 k c) k = c
  | 0, c, h0, h1 => by unfold CF at h1; unfold EF; omega
  | k + 1, c, h0, h1 => by
    have dk : dig O n2 (k + 1) c (k : Int) = if O k = 1 then c % n2 else 0 := if_pos rfl
    have dl : ∀ h : Int, 0 ≤ h → h < k → O h = 1 → dig O n2 (k + 1) c h = dig O n2 k (if O k = 1 then c / n2 else c) h := fun h h0 h1 _ => if_neg (by omega)
    unfold EF
    rw [EF_congr k dl, dk]
    by_cases o : O k = 1
    · rw [if_pos o, if_pos o, if_pos o]
      unfold CF at h1
      rw [if_pos o] at h1
      rw [EF_dig h2 k (c / n2) (Int.ediv_nonneg h0 (by omega)) (Int.ediv_lt_of_lt_mul (by omega) h1)]
      have := Int.emod_add_mul_ediv c n2
      rw [Int.mul_comm]; omega
    · rw [if_neg o, if_neg o]
      unfold CF at h1
      rw [if_neg o] at h1
      exact EF_dig h2 k c h0 h1
theorem EF_le (h2 : 1 ≤ n2) {a b : Int → Int} : ∀ k : Nat, (∀ h : Int, 0 ≤ h → h < k → O h = 1 → a h ≤ b h) → EF O n2 a k ≤ EF O n2 b k
  | 0, _ => Int.le_refl _
  | k + 1, h => by
    have ih := EF_le h2 k (fun h' h0 h1 => h h' h0 (by omega))
    unfold EF
    split
    · next e =>
      have := Int.mul_le_mul_of_nonneg_right ih (show 0 ≤ n2 by omega)
      have := h k (by omega) (by omega) e
      omega
    · exact ih
theorem EF_ext (h2 : 1 ≤ n2) {a b : Int → Int} (ha : ∀ h : Int, 0 ≤ h → O h = 1 → 0 ≤ a h ∧ a h < n2) (hb : ∀ h : Int, 0 ≤ h → O h = 1 → 0 ≤ b h ∧ b h < n2) {k : Nat} (e : EF O n2 a k < EF O n2 b k) : ∀ m : Nat, EF O n2 a (k + m) < EF O n2 b (k + m)
  | 0 => e
  | m + 1 => by
    have ih := EF_ext h2 ha hb e m
    show (if O ((k + m : Nat) : Int) = 1 then EF O n2 a (k + m) * n2 + a ((k + m : Nat) : Int) else EF O n2 a (k + m)) < (if O ((k + m : Nat) : Int) = 1 then EF O n2 b (k + m) * n2 + b ((k + m : Nat) : Int) else EF O n2 b (k + m))
    by_cases o : O ((k + m : Nat) : Int) = 1
    · rw [if_pos o, if_pos o]
      have d1 := ha ((k + m : Nat) : Int) (by omega) o
      have d2 := hb ((k + m : Nat) : Int) (by omega) o
      have m2 : EF O n2 a (k + m) * n2 ≤ (EF O n2 b (k + m) - 1) * n2 := Int.mul_le_mul_of_nonneg_right (by omega) (by omega)
      rw [Int.sub_mul, Int.one_mul] at m2
      omega
    · rw [if_neg o, if_neg o]; exact ih
theorem lex_EF (h2 : 1 ≤ n2) {a b : Int → Int} (ha : ∀ h : Int, 0 ≤ h → O h = 1 → 0 ≤ a h ∧ a h < n2) (hb : ∀ h : Int, 0 ≤ h → O h = 1 → 0 ≤ b h ∧ b h < n2) (hc : ∀ h : Int, 0 ≤ h → O h ≠ 1 → a h = b h) : ∀ (m k : Nat), EF O n2 a k = EF O n2 b k → (lexF a b m k = 1 ↔ EF O n2 a (k + m) < EF O n2 b (k + m))
  | 0, k, e => by
    show (0 : Int) = 1 ↔ EF O n2 a k < EF O n2 b k
    omega
  | m + 1, k, e => by
    have ha' := ha k (by omega)
    have hb' := hb k (by omega)
    have hc' := hc k (by omega)
    unfold lexF
    have nx : k + (m + 1) = k + 1 + m := by omega
    rw [nx]
    by_cases g : a k = b k
    · rw [if_pos g]
      have := lex_EF h2 ha hb hc m (k + 1) (by
        show (if O k = 1 then EF O n2 a k * n2 + a k else EF O n2 a k) = (if O k = 1 then EF O n2 b k * n2 + b k else EF O n2 b k)
        rw [e, g])
      have e1 : ((k + 1 : Nat) : Int) = (k : Int) + 1 := by push_cast; rfl
      rw [← e1]; exact this
    · rw [if_neg g]
      have o : O k = 1 := by
        apply Classical.byContradiction
        intro o; exact g (hc' o)
      have ea : EF O n2 a (k + 1) = EF O n2 a k * n2 + a k := if_pos o
      have eb : EF O n2 b (k + 1) = EF O n2 b k * n2 + b k := if_pos o
      by_cases l : a k < b k
      · rw [if_pos l]
        have := EF_ext h2 ha hb (k := k + 1) (by rw [ea, eb, e]; omega) m
        exact ⟨fun _ => this, fun _ => rfl⟩
      · rw [if_neg l]
        have := EF_ext h2 hb ha (k := k + 1) (by rw [ea, eb, e]; omega) m
        constructor
        · intro q; omega
        · intro q; omega
theorem HF_congr {a b : Int → Int} : ∀ k : Nat, (∀ h : Int, 0 ≤ h → h < k → O h = 1 → a h = b h) → HF O Ha a k = HF O Ha b k
  | 0, _ => rfl
  | k + 1, h => by
    unfold HF
    rw [HF_congr k (fun h' h0 h1 => h h' h0 (by omega))]
    by_cases o : O k = 1
    · rw [if_pos o, if_pos o, h k (by omega) (by omega) o]
    · rw [if_neg o, if_neg o]
theorem HF_le {a b : Int → Int} : ∀ k : Nat, (∀ h : Int, 0 ≤ h → h < k → O h = 1 → Ha (12 * h + a h) ≤ Ha (12 * h + b h)) → HF O Ha a k ≤ HF O Ha b k ∧ (HF O Ha a k = HF O Ha b k → ∀ h : Int, 0 ≤ h → h < k → O h = 1 → Ha (12 * h + a h) = Ha (12 * h + b h))
  | 0, _ => ⟨Int.le_refl _, fun _ h h0 h1 => by omega⟩
  | k + 1, hle => by
    have ih := HF_le k (fun h h0 h1 => hle h h0 (by omega))
    unfold HF
    by_cases o : O k = 1
    · have hk := hle k (by omega) (by omega) o
      rw [if_pos o, if_pos o]
      refine ⟨by omega, fun e h h0 h1 ho => ?_⟩
      by_cases g : h = k
      · rw [g]; omega
      · exact ih.2 (by omega) h h0 (by omega) ho
    · rw [if_neg o, if_neg o]
      refine ⟨by omega, fun e h h0 h1 ho => ?_⟩
      by_cases g : h = k
      · rw [g] at ho; exact absurd ho o
      · exact ih.2 (by omega) h h0 (by omega) ho
/-! a plan out of its number -/
theorem bt_bor {a b x : Int} (ha : 0 ≤ a) (hb : 0 ≤ b) (hx : 0 ≤ x) : bt (bor a b) x = 1 ↔ bt a x = 1 ∨ bt b x = 1 := by
  obtain ⟨m, rfl⟩ := Int.eq_ofNat_of_zero_le ha
  obtain ⟨n, rfl⟩ := Int.eq_ofNat_of_zero_le hb
  obtain ⟨k, rfl⟩ := Int.eq_ofNat_of_zero_le hx
  show bt ((m ||| n : Nat) : Int) (k : Int) = 1 ↔ _
  rw [bt_nat, bt_nat, bt_nat, Nat.testBit_or]
  cases m.testBit k <;> cases n.testBit k <;> decide
theorem bt_pw {b x : Int} (hb : 0 ≤ b) (hx : 0 ≤ x) : bt (pw b) x = 1 ↔ b = x := by
  obtain ⟨m, rfl⟩ := Int.eq_ofNat_of_zero_le hb
  obtain ⟨k, rfl⟩ := Int.eq_ofNat_of_zero_le hx
  rw [pw_of, bt_nat, Nat.testBit_two_pow]
  by_cases e : m = k
  · subst e; simp
  · rw [decide_eq_false e]
    constructor
    · intro q; exact absurd q (by decide)
    · intro q; exact absurd (by omega) e
theorem bt_zero {x : Int} (hx : 0 ≤ x) : bt 0 x ≠ 1 := by
  obtain ⟨k, rfl⟩ := Int.eq_ofNat_of_zero_le hx
  have := bt_nat 0 k
  rw [Nat.zero_testBit] at this
  intro e
  have h2 : bt ((0 : Nat) : Int) (k : Int) = 1 := e
  rw [this] at h2
  exact absurd h2 (by decide)
theorem dec_spec {N : Int} (hN : 1 ≤ N ∧ N ≤ 6) (hn2 : n2 = 2 * N) : ∀ (k : Nat) (c s u y : Int) (W : Int → Int), 0 ≤ s → (0 ≤ y ∧ y ≤ 1) →
    (0 ≤ (mDecF O Ha n2 k (k - 1) c s u y W).2.1 ∧ ∀ x, 0 ≤ x → (bt (mDecF O Ha n2 k (k - 1) c s u y W).2.1 x = 1 ↔ bt s x = 1 ∨ ∃ h : Int, 0 ≤ h ∧ h < k ∧ O h = 1 ∧ dig O n2 k c h / 2 = x)) ∧
    (mDecF O Ha n2 k (k - 1) c s u y W).2.2.1 = u + HF O Ha (dig O n2 k c) k ∧
    ((mDecF O Ha n2 k (k - 1) c s u y W).2.2.2.1 = 1 ↔ y = 1 ∧ ∀ h : Int, 0 ≤ h → h < k → O h = 1 → Ha (12 * h + dig O n2 k c h) ≠ -4) ∧
    (∀ x, (mDecF O Ha n2 k (k - 1) c s u y W).2.2.2.2 x = if 0 ≤ x ∧ x < k then dig O n2 k c x else W x)
  | 0, c, s, u, y, W, hs, hy => by
    unfold mDecF
    refine ⟨⟨hs, fun x x0 => ⟨fun e => Or.inl e, fun e => ?_⟩⟩, ?_, ⟨fun e => ⟨e, fun h h0 h1 => by omega⟩, fun e => e.1⟩, fun x => ?_⟩
    · rcases e with e | ⟨h, h0, h1, _⟩
      · exact e
      · omega
    · unfold HF; show u = u + 0; omega
    · rw [if_neg (by omega)]
  | k + 1, c, s, u, y, W, hs, hy => by
    have e1 : (((k + 1 : Nat) : Int) - 1) = (k : Int) := by push_cast; omega
    rw [e1]
    unfold mDecF
    have dk : dig O n2 (k + 1) c (k : Int) = if O k = 1 then c % n2 else 0 := if_pos rfl
    have dl : ∀ h : Int, h < k → dig O n2 (k + 1) c h = dig O n2 k (if O k = 1 then c / n2 else c) h := fun h h1 => if_neg (by omega)
    rw [← dk]
    have db := dig_b (O := O) (n2 := n2) (by omega) (k + 1) c (k : Int)
    have pd : 0 ≤ (if O k = 1 then pw (dig O n2 (k + 1) c (k : Int) / 2) else 0) := by
      split
      · have := pw_b5 (b := dig O n2 (k + 1) c (k : Int) / 2) (by omega); omega
      · omega
    have b0 : 0 ≤ bor s (if O k = 1 then pw (dig O n2 (k + 1) c (k : Int) / 2) else 0) := by unfold bor; omega
    have ih := dec_spec hN hn2 k (if O k = 1 then c / n2 else c) (bor s (if O k = 1 then pw (dig O n2 (k + 1) c (k : Int) / 2) else 0)) (u + (if O k = 1 then Ha (12 * k + dig O n2 (k + 1) c (k : Int)) else 0)) (if y = 1 ∧ (if O k = 1 then Ha (12 * k + dig O n2 (k + 1) c (k : Int)) else 0) ≠ -4 then 1 else 0) (zup W k (dig O n2 (k + 1) c (k : Int))) b0 (by split <;> omega)
    obtain ⟨⟨i0, i1⟩, i2, i3, i4⟩ := ih
    refine ⟨⟨i0, fun x x0 => ?_⟩, ?_, ?_, fun x => ?_⟩
    · rw [i1 x x0, bt_bor hs pd x0]
      constructor
      · rintro ((e | e) | ⟨h, h0, h1, ho, hx⟩)
        · exact Or.inl e
        · by_cases o : O k = 1
          · rw [if_pos o, bt_pw (by omega) x0] at e
            exact Or.inr ⟨k, by omega, by omega, o, e⟩
          · rw [if_neg o] at e; exact absurd e (bt_zero x0)
        · exact Or.inr ⟨h, h0, by omega, ho, by rw [dl h h1]; exact hx⟩
      · rintro (e | ⟨h, h0, h1, ho, hx⟩)
        · exact Or.inl (Or.inl e)
        · by_cases g : h = k
          · rw [g] at ho hx
            left; right
            rw [if_pos ho, bt_pw (by omega) x0]; exact hx
          · right
            exact ⟨h, h0, by omega, ho, by rw [← dl h (by omega)]; exact hx⟩
    · rw [i2]
      conv => rhs; unfold HF
      rw [HF_congr (a := dig O n2 (k + 1) c) (b := dig O n2 k (if O k = 1 then c / n2 else c)) k (fun h h0 h1 _ => dl h h1)]
      omega
    · rw [i3]
      constructor
      · rintro ⟨e, g⟩
        by_cases c1 : y = 1 ∧ (if O k = 1 then Ha (12 * k + dig O n2 (k + 1) c (k : Int)) else 0) ≠ -4
        · refine ⟨c1.1, fun h h0 h1 ho => ?_⟩
          by_cases q : h = k
          · have c2 := c1.2
            rw [q] at ho ⊢
            rw [if_pos ho] at c2; exact c2
          · rw [dl h (by omega)]; exact g h h0 (by omega) ho
        · rw [if_neg c1] at e; omega
      · rintro ⟨e, g⟩
        refine ⟨if_pos ⟨e, ?_⟩, fun h h0 h1 ho => by rw [← dl h h1]; exact g h h0 (by omega) ho⟩
        by_cases o : O k = 1
        · rw [if_pos o]; exact g k (by omega) (by omega) o
        · rw [if_neg o]; omega
    · rw [i4 x]
      by_cases g : x = k
      · rw [g, if_neg (by omega), if_pos (by omega), zup_self]
      · by_cases q : 0 ≤ x ∧ x < k
        · rw [if_pos q, if_pos (show 0 ≤ x ∧ x < ((k + 1 : Nat) : Int) by omega), dl x q.2]
        · rw [if_neg q, if_neg (by omega), zup_ne _ _ g]
end PL
