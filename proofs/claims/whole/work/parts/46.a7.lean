/-! an item that is told rightly -/
def nF (L : Int) (t : Int → Int) (p : Int) : Prop := 48 ≤ mB L t p ∧ mB L t p ≤ 57
def nV (L : Int) (t : Int → Int) (p : Int) : Int := (mNum L t p).1
def nE (L : Int) (t : Int → Int) (p : Int) : Int := (mNum L t p).2.2
def OKP (P : Int → (Int → Int) → Prop) (r : Int × Int × (Int → Int)) : Prop := r.1 ≠ 0 ∧ P r.2.1 r.2.2
theorem mNum_pos (L : Int) (t : Int → Int) (p : Int) : 0 < (mNum L t p).2.1 ↔ nF L t p := by
  unfold mNum nF
  by_cases h : ¬ (48 ≤ mB L t p ∧ mB L t p ≤ 57)
  · rw [if_pos h]; exact ⟨fun q => absurd q (by show ¬ (0 : Int) < 0; omega), fun q => absurd q h⟩
  · rw [if_neg h]
    refine ⟨fun _ => Classical.not_not.mp h, fun _ => ?_⟩
    split
    · show (0 : Int) < 1; omega
    · show (0 : Int) < 2; omega
theorem nVE {L : Int} {t : Int → Int} (h : zBt L t) {p : Int} (hp : 0 ≤ p) (hf : nF L t p) : (0 ≤ nV L t p ∧ nV L t p ≤ 99) ∧ (p + 1 ≤ nE L t p ∧ nE L t p ≤ p + 2) := by
  have b := mNum_b h hp
  refine ⟨b.1, ?_, b.2.2⟩
  unfold nE mNum
  unfold nF at hf
  rw [if_neg (Classical.not_not.mpr hf)]
  split
  · exact Int.le_refl _
  · show p + 1 ≤ p + 2; omega
theorem OKP_num {L : Int} {t : Int → Int} {P : Int → (Int → Int) → Prop} {p : Int} {R : Int → Int} {sg to lo hi : Int} {k : Int → (Int → Int) → Int × Int × (Int → Int)} : OKP P (mSeq1 (mNumber L t p R sg to lo hi) k) ↔ (mB L t p = sg ∧ nF L t (p + 1) ∧ lo ≤ nV L t (p + 1) ∧ nV L t (p + 1) ≤ hi) ∧ OKP P (k (nE L t (p + 1)) (zup R to (nV L t (p + 1)))) := by
  by_cases h1 : mB L t p ≠ sg
  · have e : mNumber L t p R sg to lo hi = (0, p, R) := by unfold mNumber; rw [if_pos h1]
    rw [e, mSeq1_f rfl]
    exact ⟨fun q => absurd rfl q.1, fun q => absurd q.1.1 h1⟩
  · by_cases h2 : 0 < (mNum L t (p + 1)).2.1 ∧ (lo ≤ (mNum L t (p + 1)).1 ∧ (mNum L t (p + 1)).1 ≤ hi)
    · have e : mNumber L t p R sg to lo hi = (1, nE L t (p + 1), zup R to (nV L t (p + 1))) := by unfold mNumber; rw [if_neg h1, if_pos h2]; rfl
      rw [e, mSeq1_t (by omega)]
      exact ⟨fun q => ⟨⟨Classical.not_not.mp h1, (mNum_pos _ _ _).mp h2.1, h2.2.1, h2.2.2⟩, q⟩, fun q => q.2⟩
    · have e : mNumber L t p R sg to lo hi = (0, nE L t (p + 1), zup R to (nV L t (p + 1))) := by unfold mNumber; rw [if_neg h1, if_neg h2]; rfl
      rw [e, mSeq1_f rfl]
      exact ⟨fun q => absurd rfl q.1, fun q => absurd ⟨(mNum_pos _ _ _).mpr q.1.2.1, q.1.2.2.1, q.1.2.2.2⟩ h2⟩
theorem OKP_1 {P : Int → (Int → Int) → Prop} {p : Int} {R : Int → Int} : OKP P (1, p, R) ↔ P p R := ⟨fun h => h.2, fun h => ⟨by show (1 : Int) ≠ 0; omega, h⟩⟩
theorem OKP_0 {P : Int → (Int → Int) → Prop} {p : Int} {R : Int → Int} : OKP P (0, p, R) ↔ False := ⟨fun h => h.1 rfl, fun h => h.elim⟩
abbrev wSheet (L : Int) (t : Int → Int) (p : Int) : Prop := mB L t p = 115 ∧ mB L t (p + 1) = 104 ∧ mB L t (p + 2) = 101 ∧ mB L t (p + 3) = 101 ∧ mB L t (p + 4) = 116
abbrev wTool (L : Int) (t : Int → Int) (p : Int) : Prop := mB L t p = 116 ∧ mB L t (p + 1) = 111 ∧ mB L t (p + 2) = 111 ∧ mB L t (p + 3) = 108
abbrev wHole (L : Int) (t : Int → Int) (p : Int) : Prop := mB L t p = 104 ∧ mB L t (p + 1) = 111 ∧ mB L t (p + 2) = 108 ∧ mB L t (p + 3) = 101
abbrev wClamp (L : Int) (t : Int → Int) (p : Int) : Prop := mB L t p = 99 ∧ mB L t (p + 1) = 108 ∧ mB L t (p + 2) = 97 ∧ mB L t (p + 3) = 109 ∧ mB L t (p + 4) = 112
theorem OKP_sheet {L : Int} {t : Int → Int} {P : Int → (Int → Int) → Prop} {p : Int} {R : Int → Int} (hw : wSheet L t p) : OKP P (mItem L t p R) ↔ R 0 = 0 ∧ (mB L t (p + 5) = 32 ∧ nF L t (p + 5 + 1) ∧ 3 ≤ nV L t (p + 5 + 1) ∧ nV L t (p + 5 + 1) ≤ 12) ∧ (mB L t (nE L t (p + 5 + 1)) = 44 ∧ nF L t (nE L t (p + 5 + 1) + 1) ∧ 3 ≤ nV L t (nE L t (p + 5 + 1) + 1) ∧ nV L t (nE L t (p + 5 + 1) + 1) ≤ 12) ∧ P (nE L t (nE L t (p + 5 + 1) + 1)) (zup (zup R 0 (nV L t (p + 5 + 1))) 1 (nV L t (nE L t (p + 5 + 1) + 1))) := by
  unfold mItem
  rw [if_pos hw]
  by_cases h0 : R 0 = 0
  · rw [if_neg (by omega), OKP_num, OKP_num, OKP_1]
    exact ⟨fun q => ⟨h0, q⟩, fun q => q.2⟩
  · rw [if_pos h0, OKP_0]
    exact ⟨fun q => q.elim, fun q => h0 q.1⟩
theorem wNe1 {L : Int} {t : Int → Int} {p : Int} (h : ¬ mB L t p = 115) : ¬ wSheet L t p := fun q => h q.1
theorem OKP_no0 {L : Int} {t : Int → Int} {P : Int → (Int → Int) → Prop} {p : Int} {R : Int → Int} (h1 : ¬ wSheet L t p) (h0 : R 0 = 0) : OKP P (mItem L t p R) ↔ False := by
  unfold mItem
  rw [if_neg h1, if_pos h0, OKP_0]
theorem OKP_none {L : Int} {t : Int → Int} {P : Int → (Int → Int) → Prop} {p : Int} {R : Int → Int} (h1 : ¬ wSheet L t p) (h2 : ¬ wTool L t p) (h3 : ¬ wHole L t p) (h4 : ¬ wClamp L t p) : OKP P (mItem L t p R) ↔ False := by
  by_cases h0 : R 0 = 0
  · exact OKP_no0 h1 h0
  · unfold mItem
    rw [if_neg h1, if_neg h0, if_neg h2, if_neg h3, if_neg h4, OKP_0]
theorem OKP_tool {L : Int} {t : Int → Int} {P : Int → (Int → Int) → Prop} {p : Int} {R : Int → Int} (hw : wTool L t p) {a b c d : Int} (ha : p + 4 + 1 = a) (hb : nE L t a + 1 = b) (hc : nE L t b + 1 = c) (hd : nE L t c + 1 = d) :
    OKP P (mItem L t p R) ↔ (R 0 ≠ 0 ∧ R 2 < 6) ∧ (mB L t (p + 4) = 32 ∧ nF L t a ∧ 1 ≤ nV L t a ∧ nV L t a ≤ 6) ∧ (mB L t (nE L t a) = 44 ∧ nF L t b ∧ 1 ≤ nV L t b ∧ nV L t b ≤ 6) ∧ (mB L t (nE L t b) = 44 ∧ nF L t c ∧ 0 ≤ nV L t c ∧ nV L t c ≤ 1) ∧ (mB L t (nE L t c) = 44 ∧ nF L t d ∧ 1 ≤ nV L t d ∧ nV L t d ≤ 99) ∧ P (nE L t d) (zup (zup (zup (zup (zup R 2 (R 2 + 1)) (4 * R 2 + 5) (nV L t a)) (4 * R 2 + 6) (nV L t b)) (4 * R 2 + 7) (nV L t c)) (4 * R 2 + 8) (nV L t d)) := by
  subst ha; subst hb; subst hc; subst hd
  have h1 : ¬ wSheet L t p := wNe1 (by have := hw.1; omega)
  by_cases h0 : R 0 = 0
  · rw [OKP_no0 h1 h0]
    exact ⟨fun q => q.elim, fun q => q.1.1 h0⟩
  · unfold mItem
    rw [if_neg h1, if_neg h0, if_pos hw]
    by_cases h2 : 7 ≤ R 2 + 1
    · rw [if_pos h2, OKP_0]
      exact ⟨fun q => q.elim, fun q => by have := q.1.2; omega⟩
    · rw [if_neg h2, OKP_num, OKP_num, OKP_num, OKP_num, OKP_1]
      exact ⟨fun q => ⟨⟨h0, by omega⟩, q⟩, fun q => q.2⟩
theorem OKP_hole {L : Int} {t : Int → Int} {P : Int → (Int → Int) → Prop} {p : Int} {R : Int → Int} (hR : 0 ≤ R 3) (hw : wHole L t p) {a b c d : Int} (ha : p + 4 + 1 = a) (hb : nE L t a + 1 = b) (hc : nE L t b + 1 = c) (hd : nE L t c + 1 = d) {R' : Int → Int} (hR' : R' = zup (zup (zup (zup (zup R 3 (R 3 + 1)) (4 * R 3 + 29) (nV L t a)) (4 * R 3 + 30) (nV L t b)) (4 * R 3 + 31) (nV L t c)) (4 * R 3 + 32) (nV L t d)) :
    OKP P (mItem L t p R) ↔ (R 0 ≠ 0 ∧ R 3 ≠ 5) ∧ (mB L t (p + 4) = 32 ∧ nF L t a ∧ 0 ≤ nV L t a ∧ nV L t a ≤ R 0 - 1) ∧ (mB L t (nE L t a) = 44 ∧ nF L t b ∧ 0 ≤ nV L t b ∧ nV L t b ≤ R 1 - 1) ∧ (mB L t (nE L t b) = 44 ∧ nF L t c ∧ 1 ≤ nV L t c ∧ nV L t c ≤ R 0 - nV L t a) ∧ (mB L t (nE L t c) = 44 ∧ nF L t d ∧ 1 ≤ nV L t d ∧ nV L t d ≤ R 1 - nV L t b) ∧ (mApF R' (R 3) (R 3).toNat 0 1 ≠ 0 ∧ P (nE L t d) R') := by
  subst ha; subst hb; subst hc; subst hd; subst hR'
  have h1 : ¬ wSheet L t p := wNe1 (by have := hw.1; omega)
  have h2 : ¬ wTool L t p := fun q => by have := hw.1; have := q.1; omega
  by_cases h0 : R 0 = 0
  · rw [OKP_no0 h1 h0]
    exact ⟨fun q => q.elim, fun q => q.1.1 h0⟩
  · unfold mItem
    rw [if_neg h1, if_neg h0, if_neg h2, if_pos hw]
    unfold mHoleI
    by_cases h2 : R 3 = 5
    · rw [if_pos h2, OKP_0]
      exact ⟨fun q => q.elim, fun q => q.1.2 h2⟩
    · rw [if_neg h2, OKP_num, OKP_num, OKP_num, OKP_num]
      rw [zup_ne (k := 0) (i := 3) _ _ (by omega), zup_ne (k := 1) (i := 4 * R 3 + 29) _ _ (by omega), zup_ne (k := 1) (i := 3) _ _ (by omega), zup_ne (k := 0) (i := 4 * R 3 + 30) _ _ (by omega), zup_ne (k := 0) (i := 4 * R 3 + 29) _ _ (by omega), zup_ne (k := 0) (i := 3) _ _ (by omega), zup_ne (k := 4 * R 3 + 29) (i := 4 * R 3 + 30) _ _ (by omega), zup_self, zup_ne (k := 1) (i := 4 * R 3 + 31) _ _ (by omega), zup_ne (k := 1) (i := 4 * R 3 + 30) _ _ (by omega), zup_ne (k := 1) (i := 4 * R 3 + 29) _ _ (by omega), zup_ne (k := 1) (i := 3) _ _ (by omega), zup_ne (k := 4 * R 3 + 30) (i := 4 * R 3 + 31) _ _ (by omega), zup_self]
      exact ⟨fun q => ⟨⟨h0, h2⟩, q⟩, fun q => q.2⟩
theorem OKP_clamp {L : Int} {t : Int → Int} {P : Int → (Int → Int) → Prop} {p : Int} {R : Int → Int} (hR : 0 ≤ R 4 ∧ R 4 ≤ 2) (hw : wClamp L t p) {a : Int} (ha : p + 5 + 1 = a) :
    OKP P (mItem L t p R) ↔ (R 0 ≠ 0 ∧ R 4 < 2) ∧ (mB L t (p + 5) = 32 ∧ nF L t a ∧ 0 ≤ nV L t a ∧ nV L t a ≤ R 0 - 2) ∧ ((R 4 = 0 ∨ 1 < nV L t a - R 49 ∨ 1 < R 49 - nV L t a) ∧ P (nE L t a) (zup (zup R 4 (R 4 + 1)) (R 4 + 49) (nV L t a))) := by
  subst ha
  have h1 : ¬ wSheet L t p := wNe1 (by have := hw.1; omega)
  have h2 : ¬ wTool L t p := fun q => by have := hw.1; have := q.1; omega
  have h3 : ¬ wHole L t p := fun q => by have := hw.1; have := q.1; omega
  by_cases h0 : R 0 = 0
  · rw [OKP_no0 h1 h0]
    exact ⟨fun q => q.elim, fun q => q.1.1 h0⟩
  · unfold mItem
    rw [if_neg h1, if_neg h0, if_neg h2, if_neg h3, if_pos hw]
    by_cases h2 : 3 ≤ R 4 + 1
    · rw [if_pos h2, OKP_0]
      exact ⟨fun q => q.elim, fun q => by have := q.1.2; omega⟩
    · rw [if_neg h2, OKP_num, zup_ne (k := 0) (i := 4) _ _ (by omega)]
      refine ⟨fun q => ⟨⟨h0, by omega⟩, q.1, ?_, q.2.2⟩, fun q => ⟨q.2.1, ?_, q.2.2.2⟩⟩
      · have q2 := q.2.1
        dsimp only at q2
        by_cases e0 : R 4 = 0
        · exact Or.inl e0
        · have e1 : R 4 = 1 := by omega
          by_cases q3 : R 4 = 0 ∨ 1 < zup (zup R 4 (R 4 + 1)) (R 4 + 49) (nV L t (p + 5 + 1)) 50 - zup (zup R 4 (R 4 + 1)) (R 4 + 49) (nV L t (p + 5 + 1)) 49 ∨ 1 < zup (zup R 4 (R 4 + 1)) (R 4 + 49) (nV L t (p + 5 + 1)) 49 - zup (zup R 4 (R 4 + 1)) (R 4 + 49) (nV L t (p + 5 + 1)) 50
          · have ea : zup (zup R 4 (R 4 + 1)) (R 4 + 49) (nV L t (p + 5 + 1)) 50 = nV L t (p + 5 + 1) := by rw [e1]; exact zup_self _ _ _
            have eb : zup (zup R 4 (R 4 + 1)) (R 4 + 49) (nV L t (p + 5 + 1)) 49 = R 49 := by rw [zup_ne _ _ (by omega), zup_ne _ _ (by omega)]
            rw [ea, eb] at q3; exact q3
          · rw [if_neg q3] at q2; exact absurd rfl q2
      · have q2 := q.2.2.1
        dsimp only
        rw [if_pos]
        · omega
        · by_cases e0 : R 4 = 0
          · exact Or.inl e0
          · have e1 : R 4 = 1 := by omega
            have ea : zup (zup R 4 (R 4 + 1)) (R 4 + 49) (nV L t (p + 5 + 1)) 50 = nV L t (p + 5 + 1) := by rw [e1]; exact zup_self _ _ _
            have eb : zup (zup R 4 (R 4 + 1)) (R 4 + 49) (nV L t (p + 5 + 1)) 49 = R 49 := by rw [zup_ne _ _ (by omega), zup_ne _ _ (by omega)]
            rw [ea, eb]; exact q2
/-- an item told rightly leaves what is read rightly so -/
theorem pR_item {L : Int} {t : Int → Int} (ht : zBt L t) {p : Int} (hp : 0 ≤ p) {R : Int → Int} (h : pR R) (hi : (mItem L t p R).1 ≠ 0) : pR (mItem L t p R).2.2 ∧ (p < (mItem L t p R).2.1 ∧ (mItem L t p R).2.1 ≤ p + 20) := by
  have ok : OKP (fun e R' => e = (mItem L t p R).2.1 ∧ R' = (mItem L t p R).2.2) (mItem L t p R) := ⟨hi, rfl, rfl⟩
  by_cases h1 : wSheet L t p
  · rw [OKP_sheet h1] at ok
    obtain ⟨k0, k1, k2, k3, k4⟩ := ok
    have b1 := nVE ht (by omega) k1.2.1
    have b2 := nVE ht (by omega) k2.2.1
    rw [← k3, ← k4]
    exact ⟨pR_sheet h k0 ⟨k1.2.2.1, k1.2.2.2⟩ ⟨k2.2.2.1, k2.2.2.2⟩, by omega⟩
  · by_cases h2 : wTool L t p
    · rw [OKP_tool h2 rfl rfl rfl rfl] at ok
      obtain ⟨⟨k0, k0'⟩, k1, k2, k3, k4, k5, k6⟩ := ok
      have b1 := nVE ht (by omega) k1.2.1
      have b2 := nVE ht (by omega) k2.2.1
      have b3 := nVE ht (by omega) k3.2.1
      have b4 := nVE ht (by omega) k4.2.1
      rw [← k5, ← k6, show 4 * R 2 + 6 = 4 * R 2 + 5 + 1 by omega, show 4 * R 2 + 7 = 4 * R 2 + 5 + 2 by omega, show 4 * R 2 + 8 = 4 * R 2 + 5 + 3 by omega]
      exact ⟨pR_tool h k0 k0' ⟨k1.2.2.1, k1.2.2.2⟩ ⟨k2.2.2.1, k2.2.2.2⟩ ⟨k3.2.2.1, k3.2.2.2⟩ ⟨k4.2.2.1, k4.2.2.2⟩, by omega⟩
    · by_cases h3 : wHole L t p
      · have c3 := h.2.2.2.1
        rw [OKP_hole (by omega) h3 rfl rfl rfl rfl rfl] at ok
        obtain ⟨⟨k0, k0'⟩, k1, k2, k3, k4, kk, k5, k6⟩ := ok
        have b1 := nVE ht (by omega) k1.2.1
        have b2 := nVE ht (by omega) k2.2.1
        have b3 := nVE ht (by omega) k3.2.1
        have b4 := nVE ht (by omega) k4.2.1
        rw [← k5, ← k6]
        rw [show 4 * R 3 + 30 = 4 * R 3 + 29 + 1 by omega, show 4 * R 3 + 31 = 4 * R 3 + 29 + 2 by omega, show 4 * R 3 + 32 = 4 * R 3 + 29 + 3 by omega] at kk ⊢
        exact ⟨pR_hole h k0 (by omega) ⟨k1.2.2.1, k1.2.2.2⟩ ⟨k2.2.2.1, k2.2.2.2⟩ ⟨k3.2.2.1, k3.2.2.2⟩ ⟨k4.2.2.1, k4.2.2.2⟩ (fun o o0 o1 => mApF_t kk o o0 (by omega)), by omega⟩
      · by_cases h4 : wClamp L t p
        · have c4 := h.2.2.2.2.1
          rw [OKP_clamp (by omega) h4 rfl] at ok
          obtain ⟨⟨k0, k0'⟩, k1, kk, k5, k6⟩ := ok
          have b1 := nVE ht (by omega) k1.2.1
          rw [← k5, ← k6]
          exact ⟨pR_clamp h k0 (by omega) ⟨k1.2.2.1, k1.2.2.2⟩ kk, by omega⟩
        · rw [OKP_none h1 h2 h3 h4] at ok
          exact ok.elim
