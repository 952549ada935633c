/-! what is laid: within its bounds -/
def wfT (T : Int → Int) : Prop := zBd T 1000 ∧ (3 ≤ T 0 ∧ T 0 ≤ 12) ∧ (3 ≤ T 1 ∧ T 1 ≤ 12) ∧ (1 ≤ T 2 ∧ T 2 ≤ 6) ∧ (0 ≤ T 3 ∧ T 3 ≤ 5) ∧ (0 ≤ T 4 ∧ T 4 ≤ 2) ∧
  (∀ k, 0 ≤ k → k < T 2 → (1 ≤ T (4 * k + 5) ∧ T (4 * k + 5) ≤ 6) ∧ (1 ≤ T (4 * k + 6) ∧ T (4 * k + 6) ≤ 6) ∧ (0 ≤ T (4 * k + 7) ∧ T (4 * k + 7) ≤ 1) ∧ (1 ≤ T (4 * k + 8) ∧ T (4 * k + 8) ≤ 99)) ∧
  (∀ h, 0 ≤ h → h < T 3 → 0 ≤ T (4 * h + 29) ∧ 0 ≤ T (4 * h + 30) ∧ 1 ≤ T (4 * h + 31) ∧ 1 ≤ T (4 * h + 32) ∧ T (4 * h + 29) + T (4 * h + 31) ≤ T 0 ∧ T (4 * h + 30) + T (4 * h + 32) ≤ T 1) ∧
  (∀ h o, 0 ≤ o → o < h → h < T 3 → T (4 * h + 29) + T (4 * h + 31) ≤ T (4 * o + 29) ∨ T (4 * o + 29) + T (4 * o + 31) ≤ T (4 * h + 29) ∨ T (4 * h + 30) + T (4 * h + 32) ≤ T (4 * o + 30) ∨ T (4 * o + 30) + T (4 * o + 32) ≤ T (4 * h + 30)) ∧
  (∀ c, 0 ≤ c → c < T 4 → 0 ≤ T (c + 49) ∧ T (c + 49) ≤ T 0 - 2) ∧ (T 4 = 2 → T 50 - T 49 > 1 ∨ T 49 - T 50 > 1)
theorem wfT.w {T : Int → Int} (h : wfT T) {k : Int} (h0 : 0 ≤ k) (h1 : k < T 2) (t : Int) : 1 ≤ mWide T k t ∧ mWide T k t ≤ 6 := by
  have := h.2.2.2.2.2.2.1 k h0 h1
  unfold mWide; omega
theorem wfT.h {T : Int → Int} (h : wfT T) {k : Int} (h0 : 0 ≤ k) (h1 : k < T 2) (t : Int) : 1 ≤ mHigh T k t ∧ mHigh T k t ≤ 6 := by
  have := h.2.2.2.2.2.2.1 k h0 h1
  unfold mHigh; omega
theorem mHole_b (T : Int → Int) (x y : Int) (h3 : 0 ≤ T 3 ∧ T 3 ≤ 5) : -4 ≤ mHole T x y ∧ mHole T x y < 5 := by
  unfold mHole
  rcases mHoleF_rng T x y (T 3).toNat 0 with e | e <;> omega
theorem mClamp_b (T S : Int → Int) (x y : Int) (h4 : 0 ≤ T 4 ∧ T 4 ≤ 2) : -4 ≤ mClamp T S x y ∧ mClamp T S x y < 2 := by
  unfold mClamp
  rcases mClampF_rng T S x y (T 4).toNat 0 with e | e <;> omega
theorem zdm {c a b : Int} (h0 : 0 ≤ c) (ha : 0 < a) (hb : c < a * b) : 0 ≤ c % a ∧ c % a < a ∧ 0 ≤ c / a ∧ c / a < b := by
  refine ⟨Int.emod_nonneg _ (by omega), Int.emod_lt_of_pos _ ha, Int.ediv_nonneg h0 (by omega), ?_⟩
  exact Int.ediv_lt_of_lt_mul ha (by rw [Int.mul_comm]; exact hb)
theorem zmul36 {a b : Int} (ha : 1 ≤ a ∧ a ≤ 6) (hb : 1 ≤ b ∧ b ≤ 6) : 1 ≤ a * b ∧ a * b ≤ 36 := by
  rcases (by omega : a = 1 ∨ a = 2 ∨ a = 3 ∨ a = 4 ∨ a = 5 ∨ a = 6) with rfl | rfl | rfl | rfl | rfl | rfl <;> omega
def mWhyF (T S : Int → Int) (k x y a : Int) : Nat → Int → Int → Int → Int → Int
  | 0, _, o, h, l => if o = 1 then 3 else if h = 1 then 4 else if l = 1 then 5 else if T (4 * k + 8) ≤ S (k + 144) then 6 else 0
  | n + 1, c, o, h, l => mWhyF T S k x y a n (c + 1) (if o = 1 ∨ mHole T (x + c % a) (y + c / a) = -4 ∨ mHole T (x + c % a) (y + c / a) ≠ mHole T x y then 1 else 0) (if h = 1 ∨ mClamp T S (x + c % a) (y + c / a) ≠ -4 then 1 else 0) (if l = 1 ∧ S (12 * y + 12 * (c / a) + x + c % a) = 1 then 1 else 0)
def mWhy (T S : Int → Int) (k x y t : Int) : Int :=
  if t = 1 ∧ T (4 * k + 7) = 0 then 1
  else if ¬ ((0 ≤ x ∧ x < T 0) ∧ (0 ≤ y ∧ y < T 1)) ∨ ¬ ((0 ≤ x + mWide T k t - 1 ∧ x + mWide T k t - 1 < T 0) ∧ (0 ≤ y + mHigh T k t - 1 ∧ y + mHigh T k t - 1 < T 1)) then 2
  else mWhyF T S k x y (mWide T k t) (mWide T k t * mHigh T k t).toNat 0 0 0 1
theorem mWhyF_b (T S : Int → Int) (k x y a : Int) : ∀ (n : Nat) (c o h l : Int), 0 ≤ mWhyF T S k x y a n c o h l ∧ mWhyF T S k x y a n c o h l ≤ 6
  | 0, c, o, h, l => by unfold mWhyF; omega
  | n + 1, c, o, h, l => by unfold mWhyF; exact mWhyF_b T S k x y a n _ _ _ _
theorem mWhy_b (T S : Int → Int) (k x y t : Int) : 0 ≤ mWhy T S k x y t ∧ mWhy T S k x y t ≤ 6 := by
  unfold mWhy
  split
  · omega
  · split
    · omega
    · exact mWhyF_b _ _ _ _ _ _ _ _ _ _ _
theorem l_M_whyNot (w : g_W) (σ : g_H0) (a : Nat) (I : Nat → Int) (A : Nat → Int → Int) (hM : rM a I A σ) (k x y t : Int) (bk : 0 ≤ k ∧ k < 6) (b_x : 0 ≤ x ∧ x < 1000) (b_y : 0 ≤ y ∧ y < 1000) (b_t : 0 ≤ t ∧ t ≤ 1) (bT : zBd (A 1) 1000) (bS : zBs (A 3)) (h3 : 0 ≤ A 1 3 ∧ A 1 3 ≤ 5) (h4 : 0 ≤ A 1 4 ∧ A 1 4 ≤ 2) (hw : 1 ≤ (mWide (A 1) k t) ∧ (mWide (A 1) k t) ≤ 6) (hh : 1 ≤ (mHigh (A 1) k t) ∧ (mHigh (A 1) k t) ≤ 6) (hW : A 1 0 ≤ 12 ∧ A 1 1 ≤ 12) (hcx : x + (mWide (A 1) k t) - 1 < 12) (hcy : y + (mHigh (A 1) k t) - 1 < 12) : ∀ (n : Nat) (c o h l : Int), 0 ≤ c → c + n = (mWide (A 1) k t) * (mHigh (A 1) k t) → (0 ≤ o ∧ o ≤ 1) → (0 ≤ h ∧ h ≤ 1) → (0 ≤ l ∧ l ≤ 1) → Go w mX9_whyNot (0, 0) 83 [some (.ref a), some (.int (iZ k)), some (.int (iZ x)), some (.int (iZ y)), some (.int (iZ t)), some (.int (iZ (mWide (A 1) k t))), some (.int (iZ (mHigh (A 1) k t))), some (.int (iZ o)), some (.int (iZ h)), some (.int (iZ l)), some (.int (iZ c)), none, none, none] [] σ (fun r σ' => r = some (.int (iZ (mWhyF (A 1) (A 3) k x y (mWide (A 1) k t) n c o h l))) ∧ σ' = σ) := by
  intro n
  induction n with
  | zero =>
    intro c o h l hc hcn ho hh_ hl
    obtain ⟨m0, m1, m2, m3, m4, m5, m6, m7, m8, m9, m10, m11⟩ := id hM
    have hab := zmul36 hw hh
    refine g_iload (q := 85) dX9_whyNot_83 rfl rfl ?_
    refine g_iload (q := 87) dX9_whyNot_85 rfl rfl ?_
    refine g_iload (q := 89) dX9_whyNot_87 rfl rfl ?_
    refine z_imul (q := 90) dX9_whyNot_89 rfl ?_
    refine z_icmp_ge (t := 211) (q := 93) dX9_whyNot_90 rfl (by omega) rfl (fun pc1 => ?_) (fun pc1 => ?_)
    · refine g_iload (q := 213) dX9_whyNot_211 rfl rfl ?_
      refine z_if_eq (t := 220) (q := 216) dX9_whyNot_213 rfl (by omega) rfl (fun pc2 => ?_) (fun pc2 => ?_)
      · refine g_iload (q := 222) dX9_whyNot_220 rfl rfl ?_
        refine z_if_eq (t := 229) (q := 225) dX9_whyNot_222 rfl (by omega) rfl (fun pc3 => ?_) (fun pc3 => ?_)
        · refine g_iload (q := 231) dX9_whyNot_229 rfl rfl ?_
          refine z_if_eq (t := 238) (q := 234) dX9_whyNot_231 rfl (by omega) rfl (fun pc4 => ?_) (fun pc4 => ?_)
          · refine g_aload_n (q := 239) dX9_whyNot_238 rfl rfl ?_
            refine g_iload_n (q := 240) dX9_whyNot_239 rfl rfl ?_
            refine g_callV (As := [.int (iZ k)]) (rest := []) (q := 243) moX9_isDull lkX9_whyNot_130 dX9_whyNot_240 rfl m0 (r_M_isDull σ a I A hM k (by omega) bT bS) rfl rfl (Nat.le_of_ble_eq_true rfl) (Nat.le_of_ble_eq_true rfl) (Nat.le_of_ble_eq_true rfl) rfl ?_
            rintro r1 s1 hp
            rw [hp.1, hp.2]
            show Go w mX9_whyNot (0, 0) 243 [some (.ref a), some (.int (iZ k)), some (.int (iZ x)), some (.int (iZ y)), some (.int (iZ t)), some (.int (iZ (mWide (A 1) k t))), some (.int (iZ (mHigh (A 1) k t))), some (.int (iZ o)), some (.int (iZ h)), some (.int (iZ l)), some (.int (iZ c)), none, none, none] [.int (bI (A 1 (4 * k + 8) ≤ (A 3) (k + 144)))] σ (fun r σ' => r = some (.int (iZ (mWhyF (A 1) (A 3) k x y (mWide (A 1) k t) 0 c o h l))) ∧ σ' = σ)
            refine z_ifB_eq (t := 251) (q := 246) dX9_whyNot_243 rfl rfl (fun pc5 => ?_) (fun pc5 => ?_)
            · refine z_iconst (q := 252) dX9_whyNot_251 rfl ?_
              refine z_iret dX9_whyNot_252 rfl ?_
              exact ⟨congrArg (fun z => some (Value.int (iZ z))) (by unfold mWhyF; omega), rfl⟩
            · refine g_bipush (v := iZ 6) (q := 248) dX9_whyNot_246 (by decide) rfl ?_
              refine g_goto (q := 252) dX9_whyNot_248 rfl ?_
              refine z_iret dX9_whyNot_252 rfl ?_
              exact ⟨congrArg (fun z => some (Value.int (iZ z))) (by unfold mWhyF; omega), rfl⟩
          · refine z_iconst (q := 235) dX9_whyNot_234 rfl ?_
            refine g_goto (q := 252) dX9_whyNot_235 rfl ?_
            refine z_iret dX9_whyNot_252 rfl ?_
            exact ⟨congrArg (fun z => some (Value.int (iZ z))) (by unfold mWhyF; omega), rfl⟩
        · refine z_iconst (q := 226) dX9_whyNot_225 rfl ?_
          refine g_goto (q := 252) dX9_whyNot_226 rfl ?_
          refine z_iret dX9_whyNot_252 rfl ?_
          exact ⟨congrArg (fun z => some (Value.int (iZ z))) (by unfold mWhyF; omega), rfl⟩
      · refine z_iconst (q := 217) dX9_whyNot_216 rfl ?_
        refine g_goto (q := 252) dX9_whyNot_217 rfl ?_
        refine z_iret dX9_whyNot_252 rfl ?_
        exact ⟨congrArg (fun z => some (Value.int (iZ z))) (by unfold mWhyF; omega), rfl⟩
    · exfalso
      omega
  | succ n ih =>
    intro c o h l hc hcn ho hh_ hl
    obtain ⟨m0, m1, m2, m3, m4, m5, m6, m7, m8, m9, m10, m11⟩ := id hM
    have hab := zmul36 hw hh
    refine g_iload (q := 85) dX9_whyNot_83 rfl rfl ?_
    refine g_iload (q := 87) dX9_whyNot_85 rfl rfl ?_
    refine g_iload (q := 89) dX9_whyNot_87 rfl rfl ?_
    refine z_imul (q := 90) dX9_whyNot_89 rfl ?_
    refine z_icmp_ge (t := 211) (q := 93) dX9_whyNot_90 rfl (by omega) rfl (fun pc1 => ?_) (fun pc1 => ?_)
    · exfalso
      omega
    · have dm := zdm (c := c) (a := (mWide (A 1) k t)) (b := (mHigh (A 1) k t)) (by omega) (by omega) (by omega)
      refine g_iload_n (q := 94) dX9_whyNot_93 rfl rfl ?_
      refine g_iload (q := 96) dX9_whyNot_94 rfl rfl ?_
      refine g_iload (q := 98) dX9_whyNot_96 rfl rfl ?_
      refine z_irem (q := 99) dX9_whyNot_98 (by omega) rfl ?_
      refine z_iadd (q := 100) dX9_whyNot_99 rfl ?_
      refine g_istore (ml' := [some (.ref a), some (.int (iZ k)), some (.int (iZ x)), some (.int (iZ y)), some (.int (iZ t)), some (.int (iZ (mWide (A 1) k t))), some (.int (iZ (mHigh (A 1) k t))), some (.int (iZ o)), some (.int (iZ h)), some (.int (iZ l)), some (.int (iZ c)), some (.int (iZ (x + (c % (mWide (A 1) k t))))), none, none]) (q := 102) dX9_whyNot_100 rfl (Nat.le_of_ble_eq_true rfl) rfl rfl ?_
      refine g_iload_n (q := 103) dX9_whyNot_102 rfl rfl ?_
      refine g_iload (q := 105) dX9_whyNot_103 rfl rfl ?_
      refine g_iload (q := 107) dX9_whyNot_105 rfl rfl ?_
      refine z_idiv (q := 108) dX9_whyNot_107 (by omega) rfl ?_
      refine z_iadd (q := 109) dX9_whyNot_108 rfl ?_
      refine g_istore (ml' := [some (.ref a), some (.int (iZ k)), some (.int (iZ x)), some (.int (iZ y)), some (.int (iZ t)), some (.int (iZ (mWide (A 1) k t))), some (.int (iZ (mHigh (A 1) k t))), some (.int (iZ o)), some (.int (iZ h)), some (.int (iZ l)), some (.int (iZ c)), some (.int (iZ (x + (c % (mWide (A 1) k t))))), some (.int (iZ (y + (c / (mWide (A 1) k t))))), none]) (q := 111) dX9_whyNot_109 rfl (Nat.le_of_ble_eq_true rfl) rfl rfl ?_
      refine g_aload_n (q := 112) dX9_whyNot_111 rfl rfl ?_
      refine g_iload (q := 114) dX9_whyNot_112 rfl rfl ?_
      refine g_iload (q := 116) dX9_whyNot_114 rfl rfl ?_
      refine g_callV (As := [.int (iZ (x + (c % (mWide (A 1) k t)))), .int (iZ (y + (c / (mWide (A 1) k t))))]) (rest := []) (q := 119) moX9_holeAt lkX9_whyNot_124 dX9_whyNot_116 rfl m0 (r_M_holeAt σ a I A hM (x + (c % (mWide (A 1) k t))) (y + (c / (mWide (A 1) k t))) (by omega) (by omega) bT h3) rfl rfl (Nat.le_of_ble_eq_true rfl) (Nat.le_of_ble_eq_true rfl) (Nat.le_of_ble_eq_true rfl) rfl ?_
      rintro r1 s1 hp
      rw [hp.1, hp.2]
      show Go w mX9_whyNot (0, 0) 119 [some (.ref a), some (.int (iZ k)), some (.int (iZ x)), some (.int (iZ y)), some (.int (iZ t)), some (.int (iZ (mWide (A 1) k t))), some (.int (iZ (mHigh (A 1) k t))), some (.int (iZ o)), some (.int (iZ h)), some (.int (iZ l)), some (.int (iZ c)), some (.int (iZ (x + (c % (mWide (A 1) k t))))), some (.int (iZ (y + (c / (mWide (A 1) k t))))), none] [.int (iZ (mHole (A 1) (x + (c % (mWide (A 1) k t))) (y + (c / (mWide (A 1) k t)))))] σ (fun r σ' => r = some (.int (iZ (mWhyF (A 1) (A 3) k x y (mWide (A 1) k t) (n + 1) c o h l))) ∧ σ' = σ)
      have b2 := mHole_b (A 1) (x + (c % (mWide (A 1) k t))) (y + (c / (mWide (A 1) k t))) h3
      refine g_istore (ml' := [some (.ref a), some (.int (iZ k)), some (.int (iZ x)), some (.int (iZ y)), some (.int (iZ t)), some (.int (iZ (mWide (A 1) k t))), some (.int (iZ (mHigh (A 1) k t))), some (.int (iZ o)), some (.int (iZ h)), some (.int (iZ l)), some (.int (iZ c)), some (.int (iZ (x + (c % (mWide (A 1) k t))))), some (.int (iZ (y + (c / (mWide (A 1) k t))))), some (.int (iZ (mHole (A 1) (x + (c % (mWide (A 1) k t))) (y + (c / (mWide (A 1) k t))))))]) (q := 121) dX9_whyNot_119 rfl (Nat.le_of_ble_eq_true rfl) rfl rfl ?_
      have J3 : ∀ z4 : Int, z4 = (if o = 1 ∨ (mHole (A 1) (x + (c % (mWide (A 1) k t))) (y + (c / (mWide (A 1) k t)))) = -4 ∨ (mHole (A 1) (x + (c % (mWide (A 1) k t))) (y + (c / (mWide (A 1) k t)))) ≠ mHole (A 1) x y then 1 else 0) → Go w mX9_whyNot (0, 0) 149 [some (.ref a), some (.int (iZ k)), some (.int (iZ x)), some (.int (iZ y)), some (.int (iZ t)), some (.int (iZ (mWide (A 1) k t))), some (.int (iZ (mHigh (A 1) k t))), some (.int (iZ o)), some (.int (iZ h)), some (.int (iZ l)), some (.int (iZ c)), some (.int (iZ (x + (c % (mWide (A 1) k t))))), some (.int (iZ (y + (c / (mWide (A 1) k t))))), some (.int (iZ (mHole (A 1) (x + (c % (mWide (A 1) k t))) (y + (c / (mWide (A 1) k t))))))] [.int (iZ z4)] σ (fun r σ' => r = some (.int (iZ (mWhyF (A 1) (A 3) k x y (mWide (A 1) k t) (n + 1) c o h l))) ∧ σ' = σ) := by
        intro z4 e5
        refine g_istore (ml' := [some (.ref a), some (.int (iZ k)), some (.int (iZ x)), some (.int (iZ y)), some (.int (iZ t)), some (.int (iZ (mWide (A 1) k t))), some (.int (iZ (mHigh (A 1) k t))), some (.int (iZ z4)), some (.int (iZ h)), some (.int (iZ l)), some (.int (iZ c)), some (.int (iZ (x + (c % (mWide (A 1) k t))))), some (.int (iZ (y + (c / (mWide (A 1) k t))))), some (.int (iZ (mHole (A 1) (x + (c % (mWide (A 1) k t))) (y + (c / (mWide (A 1) k t))))))]) (q := 151) dX9_whyNot_149 rfl (Nat.le_of_ble_eq_true rfl) rfl rfl ?_
        have J6 : ∀ z7 : Int, z7 = (if h = 1 ∨ mClamp (A 1) (A 3) (x + (c % (mWide (A 1) k t))) (y + (c / (mWide (A 1) k t))) ≠ -4 then 1 else 0) → Go w mX9_whyNot (0, 0) 174 [some (.ref a), some (.int (iZ k)), some (.int (iZ x)), some (.int (iZ y)), some (.int (iZ t)), some (.int (iZ (mWide (A 1) k t))), some (.int (iZ (mHigh (A 1) k t))), some (.int (iZ z4)), some (.int (iZ h)), some (.int (iZ l)), some (.int (iZ c)), some (.int (iZ (x + (c % (mWide (A 1) k t))))), some (.int (iZ (y + (c / (mWide (A 1) k t))))), some (.int (iZ (mHole (A 1) (x + (c % (mWide (A 1) k t))) (y + (c / (mWide (A 1) k t))))))] [.int (iZ z7)] σ (fun r σ' => r = some (.int (iZ (mWhyF (A 1) (A 3) k x y (mWide (A 1) k t) (n + 1) c o h l))) ∧ σ' = σ) := by
          intro z7 e8
          refine g_istore (ml' := [some (.ref a), some (.int (iZ k)), some (.int (iZ x)), some (.int (iZ y)), some (.int (iZ t)), some (.int (iZ (mWide (A 1) k t))), some (.int (iZ (mHigh (A 1) k t))), some (.int (iZ z4)), some (.int (iZ z7)), some (.int (iZ l)), some (.int (iZ c)), some (.int (iZ (x + (c % (mWide (A 1) k t))))), some (.int (iZ (y + (c / (mWide (A 1) k t))))), some (.int (iZ (mHole (A 1) (x + (c % (mWide (A 1) k t))) (y + (c / (mWide (A 1) k t))))))]) (q := 176) dX9_whyNot_174 rfl (Nat.le_of_ble_eq_true rfl) rfl rfl ?_
          have J9 : ∀ z10 : Int, z10 = (if l = 1 ∧ A 3 (12 * y + 12 * (c / (mWide (A 1) k t)) + x + (c % (mWide (A 1) k t))) = 1 then 1 else 0) → Go w mX9_whyNot (0, 0) 203 [some (.ref a), some (.int (iZ k)), some (.int (iZ x)), some (.int (iZ y)), some (.int (iZ t)), some (.int (iZ (mWide (A 1) k t))), some (.int (iZ (mHigh (A 1) k t))), some (.int (iZ z4)), some (.int (iZ z7)), some (.int (iZ l)), some (.int (iZ c)), some (.int (iZ (x + (c % (mWide (A 1) k t))))), some (.int (iZ (y + (c / (mWide (A 1) k t))))), some (.int (iZ (mHole (A 1) (x + (c % (mWide (A 1) k t))) (y + (c / (mWide (A 1) k t))))))] [.int (iZ z10)] σ (fun r σ' => r = some (.int (iZ (mWhyF (A 1) (A 3) k x y (mWide (A 1) k t) (n + 1) c o h l))) ∧ σ' = σ) := by
            intro z10 e11
            refine g_istore (ml' := [some (.ref a), some (.int (iZ k)), some (.int (iZ x)), some (.int (iZ y)), some (.int (iZ t)), some (.int (iZ (mWide (A 1) k t))), some (.int (iZ (mHigh (A 1) k t))), some (.int (iZ z4)), some (.int (iZ z7)), some (.int (iZ z10)), some (.int (iZ c)), some (.int (iZ (x + (c % (mWide (A 1) k t))))), some (.int (iZ (y + (c / (mWide (A 1) k t))))), some (.int (iZ (mHole (A 1) (x + (c % (mWide (A 1) k t))) (y + (c / (mWide (A 1) k t))))))]) (q := 205) dX9_whyNot_203 rfl (Nat.le_of_ble_eq_true rfl) rfl rfl ?_
            refine z_iincc (c := (c + 1)) (ml' := [some (.ref a), some (.int (iZ k)), some (.int (iZ x)), some (.int (iZ y)), some (.int (iZ t)), some (.int (iZ (mWide (A 1) k t))), some (.int (iZ (mHigh (A 1) k t))), some (.int (iZ z4)), some (.int (iZ z7)), some (.int (iZ z10)), some (.int (iZ (c + 1))), some (.int (iZ (x + (c % (mWide (A 1) k t))))), some (.int (iZ (y + (c / (mWide (A 1) k t))))), some (.int (iZ (mHole (A 1) (x + (c % (mWide (A 1) k t))) (y + (c / (mWide (A 1) k t))))))]) (q := 208) dX9_whyNot_205 rfl (by omega) rfl rfl rfl ?_
            refine g_goto (q := 83) dX9_whyNot_208 rfl ?_
            refine Go.wk (ml' := [some (.ref a), some (.int (iZ k)), some (.int (iZ x)), some (.int (iZ y)), some (.int (iZ t)), some (.int (iZ (mWide (A 1) k t))), some (.int (iZ (mHigh (A 1) k t))), some (.int (iZ z4)), some (.int (iZ z7)), some (.int (iZ z10)), some (.int (iZ (c + 1))), none, none, none]) ⟨Or.inr rfl, Or.inr rfl, Or.inr rfl, Or.inr rfl, Or.inr rfl, Or.inr rfl, Or.inr rfl, Or.inr rfl, Or.inr rfl, Or.inr rfl, Or.inr rfl, Or.inl rfl, Or.inl rfl, Or.inl rfl, trivial⟩ ?_
            refine (ih (c + 1) z4 z7 z10 (by omega) (by omega) (by omega) (by omega) (by omega)).mono (fun r σ1 hp => ⟨hp.1.trans ?_, hp.2⟩)
            subst_vars
            rfl
          refine g_iload (q := 178) dX9_whyNot_176 rfl rfl ?_
          refine z_if_eq (t := 202) (q := 181) dX9_whyNot_178 rfl (by omega) rfl (fun pc12 => ?_) (fun pc12 => ?_)
          · refine z_iconst (q := 203) dX9_whyNot_202 rfl ?_
            exact J9 _ (by omega)
          · refine g_aload_n (q := 182) dX9_whyNot_181 rfl rfl ?_
            refine g_get (q := 185) flX9_19 dX9_whyNot_182 m0 rfl rfl ?_
            refine g_bipush (v := iZ 12) (q := 187) dX9_whyNot_185 (by decide) rfl ?_
            refine g_iload (q := 189) dX9_whyNot_187 rfl rfl ?_
            refine z_imulc (c := (12 * y + 12 * (c / (mWide (A 1) k t)))) (q := 190) dX9_whyNot_189 (by omega) rfl ?_
            refine g_iload (q := 192) dX9_whyNot_190 rfl rfl ?_
            refine z_iaddc (c := (12 * y + 12 * (c / (mWide (A 1) k t)) + x + (c % (mWide (A 1) k t)))) (q := 193) dX9_whyNot_192 (by omega) rfl ?_
            refine z_iald (q := 194) dX9_whyNot_193 m4 (by omega) rfl ?_
            have b13 := bS (12 * y + 12 * (c / (mWide (A 1) k t)) + x + (c % (mWide (A 1) k t)))
            refine z_iconst (q := 195) dX9_whyNot_194 rfl ?_
            refine z_icmp_ne (t := 202) (q := 198) dX9_whyNot_195 rfl (by omega) rfl (fun pc14 => ?_) (fun pc14 => ?_)
            · refine z_iconst (q := 203) dX9_whyNot_202 rfl ?_
              exact J9 _ (by omega)
            · refine z_iconst (q := 199) dX9_whyNot_198 rfl ?_
              refine g_goto (q := 203) dX9_whyNot_199 rfl ?_
              exact J9 _ (by omega)
        refine g_iload (q := 153) dX9_whyNot_151 rfl rfl ?_
        refine z_if_ne (t := 169) (q := 156) dX9_whyNot_153 rfl (by omega) rfl (fun pc15 => ?_) (fun pc15 => ?_)
        · refine z_iconst (q := 170) dX9_whyNot_169 rfl ?_
          refine g_goto (q := 174) dX9_whyNot_170 rfl ?_
          exact J6 _ (by omega)
        · refine g_aload_n (q := 157) dX9_whyNot_156 rfl rfl ?_
          refine g_iload (q := 159) dX9_whyNot_157 rfl rfl ?_
          refine g_iload (q := 161) dX9_whyNot_159 rfl rfl ?_
          refine g_callV (As := [.int (iZ (x + (c % (mWide (A 1) k t)))), .int (iZ (y + (c / (mWide (A 1) k t))))]) (rest := []) (q := 164) moX9_clampAt lkX9_whyNot_127 dX9_whyNot_161 rfl m0 (r_M_clampAt σ a I A hM (x + (c % (mWide (A 1) k t))) (y + (c / (mWide (A 1) k t))) (by omega) (by omega) bT bS h4) rfl rfl (Nat.le_of_ble_eq_true rfl) (Nat.le_of_ble_eq_true rfl) (Nat.le_of_ble_eq_true rfl) rfl ?_
          rintro r1 s1 hp
          rw [hp.1, hp.2]
          show Go w mX9_whyNot (0, 0) 164 [some (.ref a), some (.int (iZ k)), some (.int (iZ x)), some (.int (iZ y)), some (.int (iZ t)), some (.int (iZ (mWide (A 1) k t))), some (.int (iZ (mHigh (A 1) k t))), some (.int (iZ z4)), some (.int (iZ h)), some (.int (iZ l)), some (.int (iZ c)), some (.int (iZ (x + (c % (mWide (A 1) k t))))), some (.int (iZ (y + (c / (mWide (A 1) k t))))), some (.int (iZ (mHole (A 1) (x + (c % (mWide (A 1) k t))) (y + (c / (mWide (A 1) k t))))))] [.int (iZ (mClamp (A 1) (A 3) (x + (c % (mWide (A 1) k t))) (y + (c / (mWide (A 1) k t)))))] σ (fun r σ' => r = some (.int (iZ (mWhyF (A 1) (A 3) k x y (mWide (A 1) k t) (n + 1) c o h l))) ∧ σ' = σ)
          have b16 := mClamp_b (A 1) (A 3) (x + (c % (mWide (A 1) k t))) (y + (c / (mWide (A 1) k t))) h4
          refine g_bipush (v := iZ (-4)) (q := 166) dX9_whyNot_164 (by decide) rfl ?_
          refine z_icmp_eq (t := 173) (q := 169) dX9_whyNot_166 rfl (by omega) rfl (fun pc17 => ?_) (fun pc17 => ?_)
          · refine z_iconst (q := 174) dX9_whyNot_173 rfl ?_
            exact J6 _ (by omega)
          · refine z_iconst (q := 170) dX9_whyNot_169 rfl ?_
            refine g_goto (q := 174) dX9_whyNot_170 rfl ?_
            exact J6 _ (by omega)
      refine g_iload (q := 123) dX9_whyNot_121 rfl rfl ?_
      refine z_if_ne (t := 144) (q := 126) dX9_whyNot_123 rfl (by omega) rfl (fun pc18 => ?_) (fun pc18 => ?_)
      · refine z_iconst (q := 145) dX9_whyNot_144 rfl ?_
        refine g_goto (q := 149) dX9_whyNot_145 rfl ?_
        exact J3 _ (by omega)
      · refine g_iload (q := 128) dX9_whyNot_126 rfl rfl ?_
        refine g_bipush (v := iZ (-4)) (q := 130) dX9_whyNot_128 (by decide) rfl ?_
        refine z_icmp_eq (t := 144) (q := 133) dX9_whyNot_130 rfl (by omega) rfl (fun pc19 => ?_) (fun pc19 => ?_)
        · refine z_iconst (q := 145) dX9_whyNot_144 rfl ?_
          refine g_goto (q := 149) dX9_whyNot_145 rfl ?_
          exact J3 _ (by omega)
        · refine g_iload (q := 135) dX9_whyNot_133 rfl rfl ?_
          refine g_aload_n (q := 136) dX9_whyNot_135 rfl rfl ?_
          refine g_iload_n (q := 137) dX9_whyNot_136 rfl rfl ?_
          refine g_iload_n (q := 138) dX9_whyNot_137 rfl rfl ?_
          refine g_callV (As := [.int (iZ x), .int (iZ y)]) (rest := [.int (iZ (mHole (A 1) (x + (c % (mWide (A 1) k t))) (y + (c / (mWide (A 1) k t)))))]) (q := 141) moX9_holeAt lkX9_whyNot_124 dX9_whyNot_138 rfl m0 (r_M_holeAt σ a I A hM x y (by omega) (by omega) bT h3) rfl rfl (Nat.le_of_ble_eq_true rfl) (Nat.le_of_ble_eq_true rfl) (Nat.le_of_ble_eq_true rfl) rfl ?_
          rintro r1 s1 hp
          rw [hp.1, hp.2]
          show Go w mX9_whyNot (0, 0) 141 [some (.ref a), some (.int (iZ k)), some (.int (iZ x)), some (.int (iZ y)), some (.int (iZ t)), some (.int (iZ (mWide (A 1) k t))), some (.int (iZ (mHigh (A 1) k t))), some (.int (iZ o)), some (.int (iZ h)), some (.int (iZ l)), some (.int (iZ c)), some (.int (iZ (x + (c % (mWide (A 1) k t))))), some (.int (iZ (y + (c / (mWide (A 1) k t))))), some (.int (iZ (mHole (A 1) (x + (c % (mWide (A 1) k t))) (y + (c / (mWide (A 1) k t))))))] [.int (iZ (mHole (A 1) x y)), .int (iZ (mHole (A 1) (x + (c % (mWide (A 1) k t))) (y + (c / (mWide (A 1) k t)))))] σ (fun r σ' => r = some (.int (iZ (mWhyF (A 1) (A 3) k x y (mWide (A 1) k t) (n + 1) c o h l))) ∧ σ' = σ)
          have b20 := mHole_b (A 1) x y h3
          refine z_icmp_eq (t := 148) (q := 144) dX9_whyNot_141 rfl (by omega) rfl (fun pc21 => ?_) (fun pc21 => ?_)
          · refine z_iconst (q := 149) dX9_whyNot_148 rfl ?_
            exact J3 _ (by omega)
          · refine z_iconst (q := 145) dX9_whyNot_144 rfl ?_
            refine g_goto (q := 149) dX9_whyNot_145 rfl ?_
            exact J3 _ (by omega)
theorem r_M_whyNot (σ : g_H0) (a : Nat) (I : Nat → Int) (A : Nat → Int → Int) (hM : rM a I A σ) (k x y t : Int) (bk : 0 ≤ k ∧ k < 6) (b_x : 0 ≤ x ∧ x < 1000) (b_y : 0 ≤ y ∧ y < 1000) (b_t : 0 ≤ t ∧ t ≤ 1) (bT : zBd (A 1) 1000) (bS : zBs (A 3)) (h3 : 0 ≤ A 1 3 ∧ A 1 3 ≤ 5) (h4 : 0 ≤ A 1 4 ∧ A 1 4 ≤ 2) (hw : 1 ≤ (mWide (A 1) k t) ∧ (mWide (A 1) k t) ≤ 6) (hh : 1 ≤ (mHigh (A 1) k t) ∧ (mHigh (A 1) k t) ≤ 6) (hW : A 1 0 ≤ 12 ∧ A 1 1 ≤ 12) : Ret mX9_whyNot [.ref a, .int (iZ k), .int (iZ x), .int (iZ y), .int (iZ t)] σ (fun r σ' => r = some (.int (iZ (mWhy (A 1) (A 3) k x y t))) ∧ σ' = σ) := by
  refine Ret.of moX9_whyNot.1 (Nat.le_of_ble_eq_true rfl) (fun w => ?_)
  obtain ⟨m0, m1, m2, m3, m4, m5, m6, m7, m8, m9, m10, m11⟩ := id hM
  show Go w mX9_whyNot (0, 0) 0 [some (.ref a), some (.int (iZ k)), some (.int (iZ x)), some (.int (iZ y)), some (.int (iZ t)), none, none, none, none, none, none, none, none, none] [] σ (fun r σ' => r = some (.int (iZ (mWhy (A 1) (A 3) k x y t))) ∧ σ' = σ)
  refine g_aload_n (q := 1) dX9_whyNot_0 rfl rfl ?_
  refine g_iload_n (q := 2) dX9_whyNot_1 rfl rfl ?_
  refine g_iload (q := 4) dX9_whyNot_2 rfl rfl ?_
  refine g_callV (As := [.int (iZ k), .int (iZ t)]) (rest := []) (q := 7) moX9_wide lkX9_whyNot_114 dX9_whyNot_4 rfl m0 (r_M_wide σ a I A hM k t (by omega) (by omega) bT) rfl rfl (Nat.le_of_ble_eq_true rfl) (Nat.le_of_ble_eq_true rfl) (Nat.le_of_ble_eq_true rfl) rfl ?_
  rintro r1 s1 hp
  rw [hp.1, hp.2]
  show Go w mX9_whyNot (0, 0) 7 [some (.ref a), some (.int (iZ k)), some (.int (iZ x)), some (.int (iZ y)), some (.int (iZ t)), none, none, none, none, none, none, none, none, none] [.int (iZ (mWide (A 1) k t))] σ (fun r σ' => r = some (.int (iZ (mWhy (A 1) (A 3) k x y t))) ∧ σ' = σ)
  refine g_istore (ml' := [some (.ref a), some (.int (iZ k)), some (.int (iZ x)), some (.int (iZ y)), some (.int (iZ t)), some (.int (iZ (mWide (A 1) k t))), none, none, none, none, none, none, none, none]) (q := 9) dX9_whyNot_7 rfl (Nat.le_of_ble_eq_true rfl) rfl rfl ?_
  refine g_aload_n (q := 10) dX9_whyNot_9 rfl rfl ?_
  refine g_iload_n (q := 11) dX9_whyNot_10 rfl rfl ?_
  refine g_iload (q := 13) dX9_whyNot_11 rfl rfl ?_
  refine g_callV (As := [.int (iZ k), .int (iZ t)]) (rest := []) (q := 16) moX9_high lkX9_whyNot_118 dX9_whyNot_13 rfl m0 (r_M_high σ a I A hM k t (by omega) (by omega) bT) rfl rfl (Nat.le_of_ble_eq_true rfl) (Nat.le_of_ble_eq_true rfl) (Nat.le_of_ble_eq_true rfl) rfl ?_
  rintro r1 s1 hp
  rw [hp.1, hp.2]
  show Go w mX9_whyNot (0, 0) 16 [some (.ref a), some (.int (iZ k)), some (.int (iZ x)), some (.int (iZ y)), some (.int (iZ t)), some (.int (iZ (mWide (A 1) k t))), none, none, none, none, none, none, none, none] [.int (iZ (mHigh (A 1) k t))] σ (fun r σ' => r = some (.int (iZ (mWhy (A 1) (A 3) k x y t))) ∧ σ' = σ)
  refine g_istore (ml' := [some (.ref a), some (.int (iZ k)), some (.int (iZ x)), some (.int (iZ y)), some (.int (iZ t)), some (.int (iZ (mWide (A 1) k t))), some (.int (iZ (mHigh (A 1) k t))), none, none, none, none, none, none, none]) (q := 18) dX9_whyNot_16 rfl (Nat.le_of_ble_eq_true rfl) rfl rfl ?_
  refine g_iload (q := 20) dX9_whyNot_18 rfl rfl ?_
  refine z_iconst (q := 21) dX9_whyNot_20 rfl ?_
  refine z_icmp_ne (t := 41) (q := 24) dX9_whyNot_21 rfl (by omega) rfl (fun pc1 => ?_) (fun pc1 => ?_)
  · refine g_aload_n (q := 42) dX9_whyNot_41 rfl rfl ?_
    refine g_iload_n (q := 43) dX9_whyNot_42 rfl rfl ?_
    refine g_iload_n (q := 44) dX9_whyNot_43 rfl rfl ?_
    refine g_callV (As := [.int (iZ x), .int (iZ y)]) (rest := []) (q := 47) moX9_isCell lkX9_whyNot_121 dX9_whyNot_44 rfl m0 (r_M_isCell σ a I A hM x y (by omega) (by omega) bT) rfl rfl (Nat.le_of_ble_eq_true rfl) (Nat.le_of_ble_eq_true rfl) (Nat.le_of_ble_eq_true rfl) rfl ?_
    rintro r1 s1 hp
    rw [hp.1, hp.2]
    show Go w mX9_whyNot (0, 0) 47 [some (.ref a), some (.int (iZ k)), some (.int (iZ x)), some (.int (iZ y)), some (.int (iZ t)), some (.int (iZ (mWide (A 1) k t))), some (.int (iZ (mHigh (A 1) k t))), none, none, none, none, none, none, none] [.int (bI ((0 ≤ x ∧ x < A 1 0) ∧ (0 ≤ y ∧ y < A 1 1)))] σ (fun r σ' => r = some (.int (iZ (mWhy (A 1) (A 3) k x y t))) ∧ σ' = σ)
    refine z_ifB_eq (t := 69) (q := 50) dX9_whyNot_47 rfl rfl (fun pc2 => ?_) (fun pc2 => ?_)
    · refine z_iconst (q := 70) dX9_whyNot_69 rfl ?_
      refine z_iret dX9_whyNot_70 rfl ?_
      exact ⟨congrArg (fun z => some (Value.int (iZ z))) (by unfold mWhy; first | (rw [if_pos (by omega)]; done) | (rw [if_neg (by omega), if_pos (by omega)]; done)), rfl⟩
    · refine g_aload_n (q := 51) dX9_whyNot_50 rfl rfl ?_
      refine g_iload_n (q := 52) dX9_whyNot_51 rfl rfl ?_
      refine g_iload (q := 54) dX9_whyNot_52 rfl rfl ?_
      refine z_iadd (q := 55) dX9_whyNot_54 rfl ?_
      refine z_iconst (q := 56) dX9_whyNot_55 rfl ?_
      refine z_isubc (c := (x + (mWide (A 1) k t) - 1)) (q := 57) dX9_whyNot_56 (by omega) rfl ?_
      refine g_iload_n (q := 58) dX9_whyNot_57 rfl rfl ?_
      refine g_iload (q := 60) dX9_whyNot_58 rfl rfl ?_
      refine z_iadd (q := 61) dX9_whyNot_60 rfl ?_
      refine z_iconst (q := 62) dX9_whyNot_61 rfl ?_
      refine z_isubc (c := (y + (mHigh (A 1) k t) - 1)) (q := 63) dX9_whyNot_62 (by omega) rfl ?_
      refine g_callV (As := [.int (iZ (x + (mWide (A 1) k t) - 1)), .int (iZ (y + (mHigh (A 1) k t) - 1))]) (rest := []) (q := 66) moX9_isCell lkX9_whyNot_121 dX9_whyNot_63 rfl m0 (r_M_isCell σ a I A hM (x + (mWide (A 1) k t) - 1) (y + (mHigh (A 1) k t) - 1) (by omega) (by omega) bT) rfl rfl (Nat.le_of_ble_eq_true rfl) (Nat.le_of_ble_eq_true rfl) (Nat.le_of_ble_eq_true rfl) rfl ?_
      rintro r1 s1 hp
      rw [hp.1, hp.2]
      show Go w mX9_whyNot (0, 0) 66 [some (.ref a), some (.int (iZ k)), some (.int (iZ x)), some (.int (iZ y)), some (.int (iZ t)), some (.int (iZ (mWide (A 1) k t))), some (.int (iZ (mHigh (A 1) k t))), none, none, none, none, none, none, none] [.int (bI ((0 ≤ (x + (mWide (A 1) k t) - 1) ∧ (x + (mWide (A 1) k t) - 1) < A 1 0) ∧ (0 ≤ (y + (mHigh (A 1) k t) - 1) ∧ (y + (mHigh (A 1) k t) - 1) < A 1 1)))] σ (fun r σ' => r = some (.int (iZ (mWhy (A 1) (A 3) k x y t))) ∧ σ' = σ)
      refine z_ifB_ne (t := 71) (q := 69) dX9_whyNot_66 rfl rfl (fun pc3 => ?_) (fun pc3 => ?_)
      · refine z_iconst (q := 72) dX9_whyNot_71 rfl ?_
        refine g_istore (ml' := [some (.ref a), some (.int (iZ k)), some (.int (iZ x)), some (.int (iZ y)), some (.int (iZ t)), some (.int (iZ (mWide (A 1) k t))), some (.int (iZ (mHigh (A 1) k t))), some (.int (iZ 0)), none, none, none, none, none, none]) (q := 74) dX9_whyNot_72 rfl (Nat.le_of_ble_eq_true rfl) rfl rfl ?_
        refine z_iconst (q := 75) dX9_whyNot_74 rfl ?_
        refine g_istore (ml' := [some (.ref a), some (.int (iZ k)), some (.int (iZ x)), some (.int (iZ y)), some (.int (iZ t)), some (.int (iZ (mWide (A 1) k t))), some (.int (iZ (mHigh (A 1) k t))), some (.int (iZ 0)), some (.int (iZ 0)), none, none, none, none, none]) (q := 77) dX9_whyNot_75 rfl (Nat.le_of_ble_eq_true rfl) rfl rfl ?_
        refine z_iconst (q := 78) dX9_whyNot_77 rfl ?_
        refine g_istore (ml' := [some (.ref a), some (.int (iZ k)), some (.int (iZ x)), some (.int (iZ y)), some (.int (iZ t)), some (.int (iZ (mWide (A 1) k t))), some (.int (iZ (mHigh (A 1) k t))), some (.int (iZ 0)), some (.int (iZ 0)), some (.int (iZ 1)), none, none, none, none]) (q := 80) dX9_whyNot_78 rfl (Nat.le_of_ble_eq_true rfl) rfl rfl ?_
        refine z_iconst (q := 81) dX9_whyNot_80 rfl ?_
        refine g_istore (ml' := [some (.ref a), some (.int (iZ k)), some (.int (iZ x)), some (.int (iZ y)), some (.int (iZ t)), some (.int (iZ (mWide (A 1) k t))), some (.int (iZ (mHigh (A 1) k t))), some (.int (iZ 0)), some (.int (iZ 0)), some (.int (iZ 1)), some (.int (iZ 0)), none, none, none]) (q := 83) dX9_whyNot_81 rfl (Nat.le_of_ble_eq_true rfl) rfl rfl ?_
        refine (l_M_whyNot w σ a I A hM k x y t bk b_x b_y b_t bT bS h3 h4 hw hh hW (by omega) (by omega) ((mWide (A 1) k t) * (mHigh (A 1) k t)).toNat 0 0 0 1 (by omega) (by have := zmul36 hw hh; omega) (by omega) (by omega) (by omega)).mono (fun r σ1 hp => ⟨hp.1.trans (congrArg (fun z => some (Value.int (iZ z))) (by unfold mWhy; rw [if_neg (by omega), if_neg (by omega)])), hp.2⟩)
      · refine z_iconst (q := 70) dX9_whyNot_69 rfl ?_
        refine z_iret dX9_whyNot_70 rfl ?_
        exact ⟨congrArg (fun z => some (Value.int (iZ z))) (by unfold mWhy; first | (rw [if_pos (by omega)]; done) | (rw [if_neg (by omega), if_pos (by omega)]; done)), rfl⟩
  · refine g_aload_n (q := 25) dX9_whyNot_24 rfl rfl ?_
    refine g_get (q := 28) flX9_13 dX9_whyNot_25 m0 rfl rfl ?_
    refine z_iconst (q := 29) dX9_whyNot_28 rfl ?_
    refine z_iconst (q := 30) dX9_whyNot_29 rfl ?_
    refine g_iload_n (q := 31) dX9_whyNot_30 rfl rfl ?_
    refine z_imul (q := 32) dX9_whyNot_31 rfl ?_
    refine z_iaddc (c := (4 * k + 5)) (q := 33) dX9_whyNot_32 (by omega) rfl ?_
    refine z_iconst (q := 34) dX9_whyNot_33 rfl ?_
    refine z_iaddc (c := (4 * k + 7)) (q := 35) dX9_whyNot_34 (by omega) rfl ?_
    refine z_iald (q := 36) dX9_whyNot_35 m2 (by omega) rfl ?_
    have b4 := bT (4 * k + 7)
    refine z_if_ne (t := 41) (q := 39) dX9_whyNot_36 rfl (by omega) rfl (fun pc5 => ?_) (fun pc5 => ?_)
    · refine g_aload_n (q := 42) dX9_whyNot_41 rfl rfl ?_
      refine g_iload_n (q := 43) dX9_whyNot_42 rfl rfl ?_
      refine g_iload_n (q := 44) dX9_whyNot_43 rfl rfl ?_
      refine g_callV (As := [.int (iZ x), .int (iZ y)]) (rest := []) (q := 47) moX9_isCell lkX9_whyNot_121 dX9_whyNot_44 rfl m0 (r_M_isCell σ a I A hM x y (by omega) (by omega) bT) rfl rfl (Nat.le_of_ble_eq_true rfl) (Nat.le_of_ble_eq_true rfl) (Nat.le_of_ble_eq_true rfl) rfl ?_
      rintro r1 s1 hp
      rw [hp.1, hp.2]
      show Go w mX9_whyNot (0, 0) 47 [some (.ref a), some (.int (iZ k)), some (.int (iZ x)), some (.int (iZ y)), some (.int (iZ t)), some (.int (iZ (mWide (A 1) k t))), some (.int (iZ (mHigh (A 1) k t))), none, none, none, none, none, none, none] [.int (bI ((0 ≤ x ∧ x < A 1 0) ∧ (0 ≤ y ∧ y < A 1 1)))] σ (fun r σ' => r = some (.int (iZ (mWhy (A 1) (A 3) k x y t))) ∧ σ' = σ)
      refine z_ifB_eq (t := 69) (q := 50) dX9_whyNot_47 rfl rfl (fun pc6 => ?_) (fun pc6 => ?_)
      · refine z_iconst (q := 70) dX9_whyNot_69 rfl ?_
        refine z_iret dX9_whyNot_70 rfl ?_
        exact ⟨congrArg (fun z => some (Value.int (iZ z))) (by unfold mWhy; first | (rw [if_pos (by omega)]; done) | (rw [if_neg (by omega), if_pos (by omega)]; done)), rfl⟩
      · refine g_aload_n (q := 51) dX9_whyNot_50 rfl rfl ?_
        refine g_iload_n (q := 52) dX9_whyNot_51 rfl rfl ?_
        refine g_iload (q := 54) dX9_whyNot_52 rfl rfl ?_
        refine z_iadd (q := 55) dX9_whyNot_54 rfl ?_
        refine z_iconst (q := 56) dX9_whyNot_55 rfl ?_
        refine z_isubc (c := (x + (mWide (A 1) k t) - 1)) (q := 57) dX9_whyNot_56 (by omega) rfl ?_
        refine g_iload_n (q := 58) dX9_whyNot_57 rfl rfl ?_
        refine g_iload (q := 60) dX9_whyNot_58 rfl rfl ?_
        refine z_iadd (q := 61) dX9_whyNot_60 rfl ?_
        refine z_iconst (q := 62) dX9_whyNot_61 rfl ?_
        refine z_isubc (c := (y + (mHigh (A 1) k t) - 1)) (q := 63) dX9_whyNot_62 (by omega) rfl ?_
        refine g_callV (As := [.int (iZ (x + (mWide (A 1) k t) - 1)), .int (iZ (y + (mHigh (A 1) k t) - 1))]) (rest := []) (q := 66) moX9_isCell lkX9_whyNot_121 dX9_whyNot_63 rfl m0 (r_M_isCell σ a I A hM (x + (mWide (A 1) k t) - 1) (y + (mHigh (A 1) k t) - 1) (by omega) (by omega) bT) rfl rfl (Nat.le_of_ble_eq_true rfl) (Nat.le_of_ble_eq_true rfl) (Nat.le_of_ble_eq_true rfl) rfl ?_
        rintro r1 s1 hp
        rw [hp.1, hp.2]
        show Go w mX9_whyNot (0, 0) 66 [some (.ref a), some (.int (iZ k)), some (.int (iZ x)), some (.int (iZ y)), some (.int (iZ t)), some (.int (iZ (mWide (A 1) k t))), some (.int (iZ (mHigh (A 1) k t))), none, none, none, none, none, none, none] [.int (bI ((0 ≤ (x + (mWide (A 1) k t) - 1) ∧ (x + (mWide (A 1) k t) - 1) < A 1 0) ∧ (0 ≤ (y + (mHigh (A 1) k t) - 1) ∧ (y + (mHigh (A 1) k t) - 1) < A 1 1)))] σ (fun r σ' => r = some (.int (iZ (mWhy (A 1) (A 3) k x y t))) ∧ σ' = σ)
        refine z_ifB_ne (t := 71) (q := 69) dX9_whyNot_66 rfl rfl (fun pc7 => ?_) (fun pc7 => ?_)
        · refine z_iconst (q := 72) dX9_whyNot_71 rfl ?_
          refine g_istore (ml' := [some (.ref a), some (.int (iZ k)), some (.int (iZ x)), some (.int (iZ y)), some (.int (iZ t)), some (.int (iZ (mWide (A 1) k t))), some (.int (iZ (mHigh (A 1) k t))), some (.int (iZ 0)), none, none, none, none, none, none]) (q := 74) dX9_whyNot_72 rfl (Nat.le_of_ble_eq_true rfl) rfl rfl ?_
          refine z_iconst (q := 75) dX9_whyNot_74 rfl ?_
          refine g_istore (ml' := [some (.ref a), some (.int (iZ k)), some (.int (iZ x)), some (.int (iZ y)), some (.int (iZ t)), some (.int (iZ (mWide (A 1) k t))), some (.int (iZ (mHigh (A 1) k t))), some (.int (iZ 0)), some (.int (iZ 0)), none, none, none, none, none]) (q := 77) dX9_whyNot_75 rfl (Nat.le_of_ble_eq_true rfl) rfl rfl ?_
          refine z_iconst (q := 78) dX9_whyNot_77 rfl ?_
          refine g_istore (ml' := [some (.ref a), some (.int (iZ k)), some (.int (iZ x)), some (.int (iZ y)), some (.int (iZ t)), some (.int (iZ (mWide (A 1) k t))), some (.int (iZ (mHigh (A 1) k t))), some (.int (iZ 0)), some (.int (iZ 0)), some (.int (iZ 1)), none, none, none, none]) (q := 80) dX9_whyNot_78 rfl (Nat.le_of_ble_eq_true rfl) rfl rfl ?_
          refine z_iconst (q := 81) dX9_whyNot_80 rfl ?_
          refine g_istore (ml' := [some (.ref a), some (.int (iZ k)), some (.int (iZ x)), some (.int (iZ y)), some (.int (iZ t)), some (.int (iZ (mWide (A 1) k t))), some (.int (iZ (mHigh (A 1) k t))), some (.int (iZ 0)), some (.int (iZ 0)), some (.int (iZ 1)), some (.int (iZ 0)), none, none, none]) (q := 83) dX9_whyNot_81 rfl (Nat.le_of_ble_eq_true rfl) rfl rfl ?_
          refine (l_M_whyNot w σ a I A hM k x y t bk b_x b_y b_t bT bS h3 h4 hw hh hW (by omega) (by omega) ((mWide (A 1) k t) * (mHigh (A 1) k t)).toNat 0 0 0 1 (by omega) (by have := zmul36 hw hh; omega) (by omega) (by omega) (by omega)).mono (fun r σ1 hp => ⟨hp.1.trans (congrArg (fun z => some (Value.int (iZ z))) (by unfold mWhy; rw [if_neg (by omega), if_neg (by omega)])), hp.2⟩)
        · refine z_iconst (q := 70) dX9_whyNot_69 rfl ?_
          refine z_iret dX9_whyNot_70 rfl ?_
          exact ⟨congrArg (fun z => some (Value.int (iZ z))) (by unfold mWhy; first | (rw [if_pos (by omega)]; done) | (rw [if_neg (by omega), if_pos (by omega)]; done)), rfl⟩
    · refine z_iconst (q := 40) dX9_whyNot_39 rfl ?_
      refine z_iret dX9_whyNot_40 rfl ?_
      exact ⟨congrArg (fun z => some (Value.int (iZ z))) (by unfold mWhy; first | (rw [if_pos (by omega)]; done) | (rw [if_neg (by omega), if_pos (by omega)]; done)), rfl⟩
