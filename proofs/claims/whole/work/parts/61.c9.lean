theorem qWF_iff {i : Nat} {L : Int} {t : Int → Int} {p : Int} : ∀ {n : Nat} {k : Int}, qWF i L t p n k = 1 ↔ ∀ j, k ≤ j → j < k + n → mB L t (p + j) = sC i j
  | 0, k => ⟨fun _ j j0 j1 => by omega, fun _ => rfl⟩
  | n + 1, k => by
    unfold qWF
    by_cases h : mB L t (p + k) = sC i k
    · rw [if_pos h, qWF_iff (n := n) (k := k + 1)]
      refine ⟨fun q j j0 j1 => ?_, fun q j j0 j1 => q j (by omega) (by omega)⟩
      by_cases e : j = k
      · rw [e]; exact h
      · exact q j (by omega) (by omega)
    · rw [if_neg h]
      exact ⟨fun q => by omega, fun q => absurd (q k (by omega) (by omega)) h⟩
theorem qWF_b (i : Nat) (L : Int) (t : Int → Int) (p : Int) : ∀ (n : Nat) (k : Int), 0 ≤ qWF i L t p n k ∧ qWF i L t p n k ≤ 1
  | 0, k => by show (0 : Int) ≤ 1 ∧ (1 : Int) ≤ 1; omega
  | n + 1, k => by
    unfold qWF
    split
    · exact qWF_b i L t p n (k + 1)
    · omega
theorem qW_wSheet {L : Int} {t : Int → Int} {p : Int} : qWF 1 L t p (sL 1).toNat 0 = 1 ↔ wSheet L t p ∧ mB L t (p + 5) = 32 := by
  have e : (sL 1).toNat = 6 := by decide +kernel
  rw [e, qWF_iff]
  constructor
  · intro h
    have h0 : mB L t (p + 0) = 115 := h 0 (by omega) (by omega)
    have h1 : mB L t (p + 1) = 104 := h 1 (by omega) (by omega)
    have h2 : mB L t (p + 2) = 101 := h 2 (by omega) (by omega)
    have h3 : mB L t (p + 3) = 101 := h 3 (by omega) (by omega)
    have h4 : mB L t (p + 4) = 116 := h 4 (by omega) (by omega)
    have h5 : mB L t (p + 5) = 32 := h 5 (by omega) (by omega)
    rw [Int.add_zero] at h0
    exact ⟨⟨h0, h1, h2, h3, h4⟩, h5⟩
  · rintro ⟨⟨h0, h1, h2, h3, h4⟩, h5⟩ j j0 j1
    rcases (by omega : j = 0 ∨ j = 1 ∨ j = 2 ∨ j = 3 ∨ j = 4 ∨ j = 5) with rfl | rfl | rfl | rfl | rfl | rfl
    · rw [Int.add_zero]; exact h0
    · exact h1
    · exact h2
    · exact h3
    · exact h4
    · exact h5
theorem qW_wTool {L : Int} {t : Int → Int} {p : Int} : qWF 2 L t p (sL 2).toNat 0 = 1 ↔ wTool L t p ∧ mB L t (p + 4) = 32 := by
  have e : (sL 2).toNat = 5 := by decide +kernel
  rw [e, qWF_iff]
  constructor
  · intro h
    have h0 : mB L t (p + 0) = 116 := h 0 (by omega) (by omega)
    have h1 : mB L t (p + 1) = 111 := h 1 (by omega) (by omega)
    have h2 : mB L t (p + 2) = 111 := h 2 (by omega) (by omega)
    have h3 : mB L t (p + 3) = 108 := h 3 (by omega) (by omega)
    have h4 : mB L t (p + 4) = 32 := h 4 (by omega) (by omega)
    rw [Int.add_zero] at h0
    exact ⟨⟨h0, h1, h2, h3⟩, h4⟩
  · rintro ⟨⟨h0, h1, h2, h3⟩, h4⟩ j j0 j1
    rcases (by omega : j = 0 ∨ j = 1 ∨ j = 2 ∨ j = 3 ∨ j = 4) with rfl | rfl | rfl | rfl | rfl
    · rw [Int.add_zero]; exact h0
    · exact h1
    · exact h2
    · exact h3
    · exact h4
theorem qW_wHole {L : Int} {t : Int → Int} {p : Int} : qWF 3 L t p (sL 3).toNat 0 = 1 ↔ wHole L t p ∧ mB L t (p + 4) = 32 := by
  have e : (sL 3).toNat = 5 := by decide +kernel
  rw [e, qWF_iff]
  constructor
  · intro h
    have h0 : mB L t (p + 0) = 104 := h 0 (by omega) (by omega)
    have h1 : mB L t (p + 1) = 111 := h 1 (by omega) (by omega)
    have h2 : mB L t (p + 2) = 108 := h 2 (by omega) (by omega)
    have h3 : mB L t (p + 3) = 101 := h 3 (by omega) (by omega)
    have h4 : mB L t (p + 4) = 32 := h 4 (by omega) (by omega)
    rw [Int.add_zero] at h0
    exact ⟨⟨h0, h1, h2, h3⟩, h4⟩
  · rintro ⟨⟨h0, h1, h2, h3⟩, h4⟩ j j0 j1
    rcases (by omega : j = 0 ∨ j = 1 ∨ j = 2 ∨ j = 3 ∨ j = 4) with rfl | rfl | rfl | rfl | rfl
    · rw [Int.add_zero]; exact h0
    · exact h1
    · exact h2
    · exact h3
    · exact h4
theorem qW_wClamp {L : Int} {t : Int → Int} {p : Int} : qWF 4 L t p (sL 4).toNat 0 = 1 ↔ wClamp L t p ∧ mB L t (p + 5) = 32 := by
  have e : (sL 4).toNat = 6 := by decide +kernel
  rw [e, qWF_iff]
  constructor
  · intro h
    have h0 : mB L t (p + 0) = 99 := h 0 (by omega) (by omega)
    have h1 : mB L t (p + 1) = 108 := h 1 (by omega) (by omega)
    have h2 : mB L t (p + 2) = 97 := h 2 (by omega) (by omega)
    have h3 : mB L t (p + 3) = 109 := h 3 (by omega) (by omega)
    have h4 : mB L t (p + 4) = 112 := h 4 (by omega) (by omega)
    have h5 : mB L t (p + 5) = 32 := h 5 (by omega) (by omega)
    rw [Int.add_zero] at h0
    exact ⟨⟨h0, h1, h2, h3, h4⟩, h5⟩
  · rintro ⟨⟨h0, h1, h2, h3, h4⟩, h5⟩ j j0 j1
    rcases (by omega : j = 0 ∨ j = 1 ∨ j = 2 ∨ j = 3 ∨ j = 4 ∨ j = 5) with rfl | rfl | rfl | rfl | rfl | rfl
    · rw [Int.add_zero]; exact h0
    · exact h1
    · exact h2
    · exact h3
    · exact h4
    · exact h5
/-- an item that is told rightly, with its end -/
def itOK (L : Int) (t : Int → Int) (p : Int) (R : Int → Int) : Prop := (mItem L t p R).1 ≠ 0 ∧ mB L t (mItem L t p R).2.1 = 59
theorem itOK.p {L : Int} {t : Int → Int} {p : Int} {R : Int → Int} (h : itOK L t p R) : OKP (fun e R' => mB L t e = 59 ∧ e = (mItem L t p R).2.1 ∧ R' = (mItem L t p R).2.2) (mItem L t p R) := ⟨h.1, h.2, rfl, rfl⟩
theorem itOK.of {L : Int} {t : Int → Int} {p : Int} {R : Int → Int} (h : OKP (fun e _ => mB L t e = 59) (mItem L t p R)) : itOK L t p R := ⟨h.1, h.2⟩
theorem itOK.w {L : Int} {t : Int → Int} {p : Int} {R : Int → Int} (hR : pR R) (h : itOK L t p R) : (wSheet L t p ∧ mB L t (p + 5) = 32) ∨ (wTool L t p ∧ mB L t (p + 4) = 32) ∨ (wHole L t p ∧ mB L t (p + 4) = 32) ∨ (wClamp L t p ∧ mB L t (p + 5) = 32) := by
  have ok := h.p
  by_cases h1 : wSheet L t p
  · rw [OKP_sheet h1] at ok
    exact Or.inl ⟨h1, ok.2.1.1⟩
  · by_cases h2 : wTool L t p
    · rw [OKP_tool h2 rfl rfl rfl rfl] at ok
      exact Or.inr (Or.inl ⟨h2, ok.2.1.1⟩)
    · by_cases h3 : wHole L t p
      · rw [OKP_hole (by have := hR.2.2.2.1; omega) h3 rfl rfl rfl rfl rfl] at ok
        exact Or.inr (Or.inr (Or.inl ⟨h3, ok.2.1.1⟩))
      · by_cases h4 : wClamp L t p
        · rw [OKP_clamp (by have := hR.2.2.2.2.1; omega) h4 rfl] at ok
          exact Or.inr (Or.inr (Or.inr ⟨h4, ok.2.1.1⟩))
        · rw [OKP_none h1 h2 h3 h4] at ok
          exact ok.elim
theorem qN2 {L : Int} {t : Int → Int} {s : Int} {N : Int → Int} {P : Int → (Int → Int) → Prop} {b : Int} (hb : nE L t s + 1 = b) : OKP P (qNumF L t 2 2 0 s N) ↔ (nF L t s ∧ mB L t (nE L t s) = 44) ∧ (nF L t b ∧ mB L t (nE L t b) = 59) ∧ P (nE L t b + 1) (zup (zup N 0 (nV L t s)) 1 (nV L t b)) := by
  subst hb
  rw [OKP_qs (sg := 44) (by decide), OKP_qs (sg := 59) (by decide), OKP_q0]; rfl
theorem qN1 {L : Int} {t : Int → Int} {s : Int} {N : Int → Int} {P : Int → (Int → Int) → Prop} : OKP P (qNumF L t 1 1 0 s N) ↔ (nF L t s ∧ mB L t (nE L t s) = 59) ∧ P (nE L t s + 1) (zup N 0 (nV L t s)) := by
  rw [OKP_qs (sg := 59) (by decide), OKP_q0]
theorem qN4 {L : Int} {t : Int → Int} {s : Int} {N : Int → Int} {P : Int → (Int → Int) → Prop} {b c d : Int} (hb : nE L t s + 1 = b) (hc : nE L t b + 1 = c) (hd : nE L t c + 1 = d) : OKP P (qNumF L t 4 4 0 s N) ↔ (nF L t s ∧ mB L t (nE L t s) = 44) ∧ (nF L t b ∧ mB L t (nE L t b) = 44) ∧ (nF L t c ∧ mB L t (nE L t c) = 44) ∧ (nF L t d ∧ mB L t (nE L t d) = 59) ∧ P (nE L t d + 1) (zup (zup (zup (zup N 0 (nV L t s)) 1 (nV L t b)) 2 (nV L t c)) 3 (nV L t d)) := by
  subst hb; subst hc; subst hd
  rw [OKP_qs (sg := 44) (by decide), OKP_qs (sg := 44) (by decide), OKP_qs (sg := 44) (by decide), OKP_qs (sg := 59) (by decide), OKP_q0]; rfl
theorem nz4 {N : Int → Int} {a b c d : Int} : zup (zup (zup (zup N 0 a) 1 b) 2 c) 3 d 0 = a ∧ zup (zup (zup (zup N 0 a) 1 b) 2 c) 3 d 1 = b ∧ zup (zup (zup (zup N 0 a) 1 b) 2 c) 3 d 2 = c ∧ zup (zup (zup (zup N 0 a) 1 b) 2 c) 3 d 3 = d := ⟨rfl, rfl, rfl, rfl⟩
theorem OKP.self {r : Int × Int × (Int → Int)} (h : r.1 ≠ 0) : OKP (fun e N => r.2.1 = e ∧ r.2.2 = N) r := ⟨h, rfl, rfl⟩
theorem it_sheet {L : Int} {t : Int → Int} {p : Int} {R : Int → Int} {N : Int → Int} (hw : wSheet L t p) (hs : mB L t (p + 5) = 32) {q : Int × Int × (Int → Int)} (hq : qNumF L t 2 2 0 (p + 5 + 1) N = q) :
    (itOK L t p R → q.1 ≠ 0 ∧ (R 0 = 0 ∧ (3 ≤ q.2.2 0 ∧ q.2.2 0 ≤ 12) ∧ (3 ≤ q.2.2 1 ∧ q.2.2 1 ≤ 12))) ∧ (q.1 ≠ 0 → (R 0 = 0 ∧ (3 ≤ q.2.2 0 ∧ q.2.2 0 ≤ 12) ∧ (3 ≤ q.2.2 1 ∧ q.2.2 1 ≤ 12)) → itOK L t p R ∧ q.2.1 = (mItem L t p R).2.1 + 1 ∧ zup (zup R 0 (q.2.2 0)) 1 (q.2.2 1) = (mItem L t p R).2.2) := by
  subst hq
  constructor
  · intro h
    have ok := h.p
    rw [OKP_sheet hw] at ok
    obtain ⟨k0, k1, k2, k3, k4, k5⟩ := ok
    have q := (qN2 (L := L) (t := t) (s := p + 5 + 1) (N := N) (P := fun e N' => N' 0 = nV L t (p + 5 + 1) ∧ N' 1 = nV L t (nE L t (p + 5 + 1) + 1)) rfl).mpr ⟨⟨k1.2.1, k2.1⟩, ⟨k2.2.1, k3⟩, rfl, rfl⟩
    refine ⟨q.1, k0, ?_, ?_⟩
    · rw [q.2.1]; exact k1.2.2
    · rw [q.2.2]; exact k2.2.2
  · intro q0 q1
    have q := (qN2 rfl).mp (OKP.self q0)
    obtain ⟨k1, k2, k3, k4⟩ := q
    rw [k4] at q1
    rw [k3, k4]
    have ok := (OKP_sheet (L := L) (t := t) (p := p) (R := R) (P := fun e R' => mB L t e = 59 ∧ e = nE L t (nE L t (p + 5 + 1) + 1) ∧ R' = zup (zup R 0 (nV L t (p + 5 + 1))) 1 (nV L t (nE L t (p + 5 + 1) + 1))) hw).mpr ⟨q1.1, ⟨hs, k1.1, q1.2.1⟩, ⟨k1.2, k2.1, q1.2.2⟩, k2.2, rfl, rfl⟩
    exact ⟨⟨ok.1, ok.2.1⟩, by rw [ok.2.2.1], ok.2.2.2.symm⟩
theorem it_tool {L : Int} {t : Int → Int} {p : Int} {R : Int → Int} {N : Int → Int} (hw : wTool L t p) (hs : mB L t (p + 4) = 32) {q : Int × Int × (Int → Int)} (hq : qNumF L t 4 4 0 (p + 4 + 1) N = q) :
    (itOK L t p R → q.1 ≠ 0 ∧ ((R 0 ≠ 0 ∧ R 2 < 6) ∧ (1 ≤ q.2.2 0 ∧ q.2.2 0 ≤ 6) ∧ (1 ≤ q.2.2 1 ∧ q.2.2 1 ≤ 6) ∧ (0 ≤ q.2.2 2 ∧ q.2.2 2 ≤ 1) ∧ (1 ≤ q.2.2 3 ∧ q.2.2 3 ≤ 99))) ∧ (q.1 ≠ 0 → ((R 0 ≠ 0 ∧ R 2 < 6) ∧ (1 ≤ q.2.2 0 ∧ q.2.2 0 ≤ 6) ∧ (1 ≤ q.2.2 1 ∧ q.2.2 1 ≤ 6) ∧ (0 ≤ q.2.2 2 ∧ q.2.2 2 ≤ 1) ∧ (1 ≤ q.2.2 3 ∧ q.2.2 3 ≤ 99)) → itOK L t p R ∧ q.2.1 = (mItem L t p R).2.1 + 1 ∧ zup (zup (zup (zup (zup R 2 (R 2 + 1)) (4 * R 2 + 5) (q.2.2 0)) (4 * R 2 + 6) (q.2.2 1)) (4 * R 2 + 7) (q.2.2 2)) (4 * R 2 + 8) (q.2.2 3) = (mItem L t p R).2.2) := by
  subst hq
  constructor
  · intro h
    have ok := h.p
    rw [OKP_tool hw rfl rfl rfl rfl] at ok
    obtain ⟨k0, k1, k2, k3, k4, k5, k6, k7⟩ := ok
    have q := (qN4 (L := L) (t := t) (s := p + 4 + 1) (N := N) (P := fun e N' => N' 0 = nV L t (p + 4 + 1) ∧ N' 1 = nV L t (nE L t (p + 4 + 1) + 1) ∧ N' 2 = nV L t (nE L t (nE L t (p + 4 + 1) + 1) + 1) ∧ N' 3 = nV L t (nE L t (nE L t (nE L t (p + 4 + 1) + 1) + 1) + 1)) rfl rfl rfl).mpr ⟨⟨k1.2.1, k2.1⟩, ⟨k2.2.1, k3.1⟩, ⟨k3.2.1, k4.1⟩, ⟨k4.2.1, k5⟩, nz4⟩
    refine ⟨q.1, k0, ?_, ?_, ?_, ?_⟩
    · rw [q.2.1]; exact k1.2.2
    · rw [q.2.2.1]; exact k2.2.2
    · rw [q.2.2.2.1]; exact k3.2.2
    · rw [q.2.2.2.2]; exact k4.2.2
  · intro q0 q1
    have q := (qN4 rfl rfl rfl).mp (OKP.self q0)
    obtain ⟨k1, k2, k3, k4, k5, k6⟩ := q
    rw [k6] at q1
    rw [k5, k6]
    have ok := (OKP_tool (L := L) (t := t) (p := p) (R := R) (P := fun e R' => mB L t e = 59 ∧ nE L t (nE L t (nE L t (nE L t (p + 4 + 1) + 1) + 1) + 1) = e ∧ _ = R') hw rfl rfl rfl rfl).mpr ⟨q1.1, ⟨hs, k1.1, q1.2.1⟩, ⟨k1.2, k2.1, q1.2.2.1⟩, ⟨k2.2, k3.1, q1.2.2.2.1⟩, ⟨k3.2, k4.1, q1.2.2.2.2⟩, k4.2, rfl, rfl⟩
    exact ⟨⟨ok.1, ok.2.1⟩, by rw [ok.2.2.1], ok.2.2.2⟩
theorem mApF_of {R : Int → Int} {h : Int} : ∀ {n : Nat} {o l : Int}, l ≠ 0 → (∀ q, o ≤ q → q < o + n → mAp R h q = 1) → mApF R h n o l ≠ 0
  | 0, o, l, hl, _ => hl
  | n + 1, o, l, hl, hq => by
    unfold mApF
    rw [if_neg hl]
    exact mApF_of (by rw [hq o (by omega) (by omega)]; omega) (fun q q0 q1 => hq q (by omega) (by omega))
theorem cMeetF_0 {R : Int → Int} {u v y z : Int} : ∀ {n : Nat} {k : Int}, cMeetF R u v y z n k = 0 ↔ ∀ q, k ≤ q → q < k + n → ¬ (u < R (4 * q + 29) + R (4 * q + 31) ∧ R (4 * q + 29) < u + y ∧ v < R (4 * q + 30) + R (4 * q + 32) ∧ R (4 * q + 30) < v + z)
  | 0, k => ⟨fun _ q q0 q1 => by omega, fun _ => rfl⟩
  | n + 1, k => by
    unfold cMeetF
    by_cases h : u < R (4 * k + 29) + R (4 * k + 31) ∧ R (4 * k + 29) < u + y ∧ v < R (4 * k + 30) + R (4 * k + 32) ∧ R (4 * k + 30) < v + z
    · rw [if_pos h]
      exact ⟨fun q => by omega, fun q => absurd h (q k (by omega) (by omega))⟩
    · rw [if_neg h, cMeetF_0 (n := n) (k := k + 1)]
      refine ⟨fun q j j0 j1 => ?_, fun q j j0 j1 => q j (by omega) (by omega)⟩
      by_cases e : j = k
      · rw [e]; exact h
      · exact q j (by omega) (by omega)
theorem ap_meet {R R' : Int → Int} {u v y z : Int} (hR : 0 ≤ R 3 ∧ R 3 ≤ 5) (hR' : R' = zup (zup (zup (zup (zup R 3 (R 3 + 1)) (4 * R 3 + 29) u) (4 * R 3 + 30) v) (4 * R 3 + 31) y) (4 * R 3 + 32) z) : mApF R' (R 3) (R 3).toNat 0 1 ≠ 0 ↔ cMeetF R u v y z (R 3).toNat 0 = 0 := by
  obtain ⟨R2, e, e2, ea, eb, ec, ed, out⟩ := zup5 R (n := 3) (i := 4 * R 3 + 29) (x := R 3 + 1) (a := u) (b := v) (c := y) (d := z) (by omega)
  rw [show 4 * R 3 + 30 = 4 * R 3 + 29 + 1 by omega, show 4 * R 3 + 31 = 4 * R 3 + 29 + 2 by omega, show 4 * R 3 + 32 = 4 * R 3 + 29 + 3 by omega, ← e] at hR'
  subst hR'
  have key : ∀ q, 0 ≤ q → q < R 3 → (mAp R' (R 3) q = 1 ↔ ¬ (u < R (4 * q + 29) + R (4 * q + 31) ∧ R (4 * q + 29) < u + y ∧ v < R (4 * q + 30) + R (4 * q + 32) ∧ R (4 * q + 30) < v + z)) := by
    intro q q0 q1
    unfold mAp
    rw [show 4 * R 3 + 30 = 4 * R 3 + 29 + 1 by omega, show 4 * R 3 + 31 = 4 * R 3 + 29 + 2 by omega, show 4 * R 3 + 32 = 4 * R 3 + 29 + 3 by omega, ea, eb, ec, ed, out (4 * q + 29) (by omega) (by omega), out (4 * q + 30) (by omega) (by omega), out (4 * q + 31) (by omega) (by omega), out (4 * q + 32) (by omega) (by omega)]
    by_cases g : u + y ≤ R (4 * q + 29) ∨ R (4 * q + 29) + R (4 * q + 31) ≤ u ∨ v + z ≤ R (4 * q + 30) ∨ R (4 * q + 30) + R (4 * q + 32) ≤ v
    · rw [if_pos g]; omega
    · rw [if_neg g]; omega
  rw [cMeetF_0]
  constructor
  · intro h q q0 q1
    exact (key q q0 (by omega)).mp (mApF_t h q q0 q1)
  · intro h
    exact mApF_of (by omega) (fun q q0 q1 => (key q q0 (by omega)).mpr (h q q0 q1))
theorem it_hole {L : Int} {t : Int → Int} (ht : zBt L t) {p : Int} (hp : 0 ≤ p) {R : Int → Int} (hR : pR R) {N : Int → Int} (hw : wHole L t p) (hs : mB L t (p + 4) = 32) {q : Int × Int × (Int → Int)} (hq : qNumF L t 4 4 0 (p + 4 + 1) N = q) :
    (itOK L t p R → q.1 ≠ 0 ∧ ((R 0 ≠ 0 ∧ R 3 < 5) ∧ (1 ≤ q.2.2 2 ∧ 1 ≤ q.2.2 3) ∧ (q.2.2 0 + q.2.2 2 ≤ R 0 ∧ q.2.2 1 + q.2.2 3 ≤ R 1) ∧ cMeetF R (q.2.2 0) (q.2.2 1) (q.2.2 2) (q.2.2 3) (R 3).toNat 0 = 0)) ∧ (q.1 ≠ 0 → ((R 0 ≠ 0 ∧ R 3 < 5) ∧ (1 ≤ q.2.2 2 ∧ 1 ≤ q.2.2 3) ∧ (q.2.2 0 + q.2.2 2 ≤ R 0 ∧ q.2.2 1 + q.2.2 3 ≤ R 1) ∧ cMeetF R (q.2.2 0) (q.2.2 1) (q.2.2 2) (q.2.2 3) (R 3).toNat 0 = 0) → itOK L t p R ∧ q.2.1 = (mItem L t p R).2.1 + 1 ∧ zup (zup (zup (zup (zup R 3 (R 3 + 1)) (4 * R 3 + 29) (q.2.2 0)) (4 * R 3 + 30) (q.2.2 1)) (4 * R 3 + 31) (q.2.2 2)) (4 * R 3 + 32) (q.2.2 3) = (mItem L t p R).2.2) := by
  subst hq
  have c3 := hR.2.2.2.1
  constructor
  · intro h
    have ok := h.p
    rw [OKP_hole (by omega) hw rfl rfl rfl rfl rfl] at ok
    obtain ⟨k0, k1, k2, k3, k4, kk, k5, k6, k7⟩ := ok
    have q := (qN4 (L := L) (t := t) (s := p + 4 + 1) (N := N) (P := fun e N' => N' 0 = nV L t (p + 4 + 1) ∧ N' 1 = nV L t (nE L t (p + 4 + 1) + 1) ∧ N' 2 = nV L t (nE L t (nE L t (p + 4 + 1) + 1) + 1) ∧ N' 3 = nV L t (nE L t (nE L t (nE L t (p + 4 + 1) + 1) + 1) + 1)) rfl rfl rfl).mpr ⟨⟨k1.2.1, k2.1⟩, ⟨k2.2.1, k3.1⟩, ⟨k3.2.1, k4.1⟩, ⟨k4.2.1, k5⟩, nz4⟩
    refine ⟨q.1, ⟨k0.1, by omega⟩, ?_⟩
    rw [q.2.1, q.2.2.1, q.2.2.2.1, q.2.2.2.2]
    exact ⟨by omega, by omega, (ap_meet c3 rfl).mp kk⟩
  · intro q0 q1
    have q := (qN4 rfl rfl rfl).mp (OKP.self q0)
    obtain ⟨k1, k2, k3, k4, k5, k6⟩ := q
    rw [k6] at q1
    rw [k5, k6]
    have b1 := nVE ht (by omega) k1.1
    have b2 := nVE ht (by omega) k2.1
    have b3 := nVE ht (by omega) k3.1
    have b4 := nVE ht (by omega) k4.1
    obtain ⟨g1, g2, g3, g4⟩ := q1
    simp only [nz4.1, nz4.2.1, nz4.2.2.1, nz4.2.2.2] at g2 g3 g4 ⊢
    have ok := (OKP_hole (L := L) (t := t) (p := p) (R := R) (P := fun e R' => mB L t e = 59 ∧ nE L t (nE L t (nE L t (nE L t (p + 4 + 1) + 1) + 1) + 1) = e ∧ _ = R') (by omega) hw rfl rfl rfl rfl rfl).mpr ⟨⟨g1.1, by omega⟩, ⟨hs, k1.1, by omega, by omega⟩, ⟨k1.2, k2.1, by omega, by omega⟩, ⟨k2.2, k3.1, by omega, by omega⟩, ⟨k3.2, k4.1, by omega, by omega⟩, (ap_meet c3 rfl).mpr g4, k4.2, rfl, rfl⟩
    exact ⟨⟨ok.1, ok.2.1⟩, by rw [ok.2.2.1], ok.2.2.2⟩
theorem it_clamp {L : Int} {t : Int → Int} {p : Int} {R : Int → Int} (hR : pR R) {N : Int → Int} (hw : wClamp L t p) (hs : mB L t (p + 5) = 32) {q : Int × Int × (Int → Int)} (hq : qNumF L t 1 1 0 (p + 5 + 1) N = q) :
    (itOK L t p R → q.1 ≠ 0 ∧ ((R 0 ≠ 0 ∧ R 4 < 2) ∧ (0 ≤ q.2.2 0 ∧ q.2.2 0 ≤ R 0 - 2) ∧ (R 4 = 0 ∨ 1 < q.2.2 0 - R 49 ∨ 1 < R 49 - q.2.2 0))) ∧ (q.1 ≠ 0 → ((R 0 ≠ 0 ∧ R 4 < 2) ∧ (0 ≤ q.2.2 0 ∧ q.2.2 0 ≤ R 0 - 2) ∧ (R 4 = 0 ∨ 1 < q.2.2 0 - R 49 ∨ 1 < R 49 - q.2.2 0)) → itOK L t p R ∧ q.2.1 = (mItem L t p R).2.1 + 1 ∧ zup (zup R 4 (R 4 + 1)) (R 4 + 49) (q.2.2 0) = (mItem L t p R).2.2) := by
  subst hq
  have c4 := hR.2.2.2.2.1
  constructor
  · intro h
    have ok := h.p
    rw [OKP_clamp (by omega) hw rfl] at ok
    obtain ⟨k0, k1, kk, k5, k6, k7⟩ := ok
    have q := (qN1 (L := L) (t := t) (s := p + 5 + 1) (N := N) (P := fun e N' => N' 0 = nV L t (p + 5 + 1))).mpr ⟨⟨k1.2.1, k5⟩, rfl⟩
    refine ⟨q.1, k0, ?_⟩
    rw [q.2]
    exact ⟨k1.2.2, kk⟩
  · intro q0 q1
    have q := qN1.mp (OKP.self q0)
    obtain ⟨k1, k5, k6⟩ := q
    rw [k6] at q1
    rw [k5, k6]
    have ok := (OKP_clamp (L := L) (t := t) (p := p) (R := R) (P := fun e R' => mB L t e = 59 ∧ nE L t (p + 5 + 1) = e ∧ _ = R') (by omega) hw rfl).mpr ⟨q1.1, ⟨hs, k1.1, q1.2.1⟩, q1.2.2, k1.2, rfl, rfl⟩
    exact ⟨⟨ok.1, ok.2.1⟩, by rw [ok.2.2.1], ok.2.2.2⟩
