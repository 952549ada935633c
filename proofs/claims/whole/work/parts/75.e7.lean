/-! the class's way for a HOLE out of a set: the first of the fewest HITS -/
def pnb (T : Int → Int) (k v : Int) : Int := mNib T k (v / 2) (v % 2)
theorem few_way {T : Int → Int} (wT : wfT T) {k s : Int} (hk : 0 ≤ k ∧ k < T 3) (hs : 0 ≤ s ∧ s < T 2) : (cFew T k s = 0 ∧ pnb T k (2 * s) = -4 ∧ pnb T k (2 * s + 1) = -4) ∨ (1 ≤ cFew T k s ∧ (cWay T k s = 2 * s ∨ cWay T k s = 2 * s + 1) ∧ cFew T k s = pnb T k (cWay T k s) ∧ (pnb T k (2 * s) ≠ -4 → cFew T k s < pnb T k (2 * s) ∨ (cFew T k s = pnb T k (2 * s) ∧ cWay T k s ≤ 2 * s)) ∧ (pnb T k (2 * s + 1) ≠ -4 → cFew T k s < pnb T k (2 * s + 1) ∨ (cFew T k s = pnb T k (2 * s + 1) ∧ cWay T k s ≤ 2 * s + 1))) := by
  have n0 := cS_nib wT hk hs (t := 0) (by omega)
  have n1 := cS_nib wT hk hs (t := 1) (by omega)
  have e0 : pnb T k (2 * s) = mNib T k s 0 := by
    unfold pnb; rw [show 2 * s / 2 = s by omega, show 2 * s % 2 = 0 by omega]
  have e1 : pnb T k (2 * s + 1) = mNib T k s 1 := by
    unfold pnb; rw [show (2 * s + 1) / 2 = s by omega, show (2 * s + 1) % 2 = 1 by omega]
  rw [← e0] at n0
  rw [← e1] at n1
  by_cases c : cS T k s 1 ≠ 0 ∧ (cS T k s 0 = 0 ∨ cS T k s 1 < cS T k s 0)
  · have f1 : cFew T k s = cS T k s 1 := if_pos c
    have f2 : cWay T k s = 2 * s + 1 := if_pos c
    rw [f1, f2]
    right
    exact ⟨by omega, Or.inr rfl, by omega, fun _ => by omega, fun _ => by omega⟩
  · have f1 : cFew T k s = cS T k s 0 := if_neg c
    have f2 : cWay T k s = 2 * s := if_neg c
    rw [f1, f2]
    by_cases z : cS T k s 0 = 0
    · left; exact ⟨z, by omega, by omega⟩
    · right; exact ⟨by omega, Or.inl rfl, by omega, fun _ => by omega, fun _ => by omega⟩
def tfI (T : Int → Int) (mask k s : Int) (r : Int × Int) : Prop :=
  (r.1 = 0 ∧ ∀ v, 0 ≤ v → v < 2 * s → bt mask (v / 2) = 1 → pnb T k v = -4) ∨
  (r.1 = pnb T k r.2 ∧ (0 ≤ r.2 ∧ r.2 < 2 * s) ∧ bt mask (r.2 / 2) = 1 ∧ 1 ≤ r.1 ∧ ∀ v, 0 ≤ v → v < 2 * s → bt mask (v / 2) = 1 → pnb T k v ≠ -4 → r.1 < pnb T k v ∨ (r.1 = pnb T k v ∧ r.2 ≤ v))
theorem tfI_step {T : Int → Int} (wT : wfT T) {mask k s : Int} {r : Int × Int} (hk : 0 ≤ k ∧ k < T 3) (hs : 0 ≤ s ∧ s < T 2) (h : tfI T mask k s r) : tfI T mask k (s + 1) (if bt mask s ≠ 0 ∧ cFew T k s ≠ 0 ∧ (r.1 = 0 ∨ cFew T k s < r.1) then (cFew T k s, cWay T k s) else r) := by
  have F := few_way wT hk hs
  have b01 := bt_01 mask s
  generalize cFew T k s = c at F ⊢
  generalize cWay T k s = w at F ⊢
  have sp : ∀ v : Int, v < 2 * (s + 1) → v < 2 * s ∨ (v = 2 * s ∧ v / 2 = s) ∨ (v = 2 * s + 1 ∧ v / 2 = s) := by intro v hv; omega
  by_cases q : bt mask s ≠ 0 ∧ c ≠ 0 ∧ (r.1 = 0 ∨ c < r.1)
  · rw [if_pos q]
    rcases F with ⟨F, -⟩ | ⟨f1, f2, f3, f4, f5⟩
    · exact absurd F q.2.1
    · right
      have w2 : w / 2 = s := by omega
      refine ⟨f3, by show 0 ≤ w ∧ w < 2 * (s + 1); omega, by show bt mask (w / 2) = 1; rw [w2]; omega, f1, fun v v0 v1 vb vn => ?_⟩
      show c < pnb T k v ∨ (c = pnb T k v ∧ w ≤ v)
      rcases sp v v1 with e | ⟨e, -⟩ | ⟨e, -⟩
      · rcases h with ⟨h1, h2⟩ | ⟨h1, h2, h3, h4, h5⟩
        · exact absurd (h2 v v0 e vb) vn
        · have := h5 v v0 e vb vn
          omega
      · rw [e] at vn ⊢; exact f4 vn
      · rw [e] at vn ⊢; exact f5 vn
  · rw [if_neg q]
    rcases h with ⟨h1, h2⟩ | ⟨h1, h2, h3, h4, h5⟩
    · left
      refine ⟨h1, fun v v0 v1 vb => ?_⟩
      have c0 : bt mask s = 1 → c = 0 := by
        intro e
        apply Classical.byContradiction
        intro g; exact q ⟨by omega, g, Or.inl h1⟩
      rcases sp v v1 with e | ⟨e, g⟩ | ⟨e, g⟩
      · exact h2 v v0 e vb
      · rw [g] at vb
        rcases F with ⟨F, f2, f3⟩ | ⟨f1, -⟩
        · rw [e]; exact f2
        · have := c0 vb; omega
      · rw [g] at vb
        rcases F with ⟨F, f2, f3⟩ | ⟨f1, -⟩
        · rw [e]; exact f3
        · have := c0 vb; omega
    · right
      refine ⟨h1, by omega, h3, h4, fun v v0 v1 vb vn => ?_⟩
      have c0 : bt mask s = 1 → c = 0 ∨ r.1 ≤ c := by
        intro e
        apply Classical.byContradiction
        intro g; exact q ⟨by omega, by omega, Or.inr (by omega)⟩
      rcases sp v v1 with e | ⟨e, g⟩ | ⟨e, g⟩
      · exact h5 v v0 e vb vn
      · rw [g] at vb
        rcases F with ⟨F, f2, f3⟩ | ⟨f1, -, -, f4, -⟩
        · rw [e] at vn; exact absurd f2 vn
        · rw [e] at vn ⊢
          have := c0 vb
          have := f4 vn
          omega
      · rw [g] at vb
        rcases F with ⟨F, f2, f3⟩ | ⟨f1, -, -, -, f5⟩
        · rw [e] at vn; exact absurd f3 vn
        · rw [e] at vn ⊢
          have := c0 vb
          have := f5 vn
          omega
theorem tfF_I {T : Int → Int} (wT : wfT T) {Fe Wy : Int → Int} {mask k : Int} (hk : 0 ≤ k ∧ k < T 3) (hF : ∀ s, 0 ≤ s → s < T 2 → Fe (6 * k + s) = cFew T k s ∧ Wy (6 * k + s) = cWay T k s) : ∀ (m : Nat) (s : Int) (r : Int × Int), 0 ≤ s → s + m = T 2 → tfI T mask k s r → tfI T mask k (T 2) (tfF Fe Wy k mask m s r)
  | 0, s, r, s0, s1, h => by
    unfold tfF
    rw [show T 2 = s by omega]; exact h
  | m + 1, s, r, s0, s1, h => by
    unfold tfF
    rw [(hF s s0 (by omega)).1, (hF s s0 (by omega)).2]
    exact tfF_I wT hk hF m (s + 1) _ (by omega) (by omega) (tfI_step wT hk ⟨s0, by omega⟩ h)
theorem tfQ_I {T : Int → Int} (wT : wfT T) {Fe Wy : Int → Int} {mask k : Int} (hk : 0 ≤ k ∧ k < T 3) (hF : ∀ s, 0 ≤ s → s < T 2 → Fe (6 * k + s) = cFew T k s ∧ Wy (6 * k + s) = cWay T k s) : tfI T mask k (T 2) (tfQ Fe Wy (T 2) k mask) := by
  have t2 := wT.2.2.2.1
  exact tfF_I wT hk hF _ 0 _ (by omega) (by omega) (Or.inl ⟨rfl, fun v v0 v1 => by omega⟩)
/-! a set of STATIONS tried -/
def wyM (T Fe Wy : Int → Int) (mask : Int) : Int → Int := fun h => (tfQ Fe Wy (T 2) h mask).2
def vdM (T S Fe Wy : Int → Int) (mask : Int) : Prop := ∀ h, 0 ≤ h → h < T 3 → cOpen T S h ≠ 0 → (tfQ Fe Wy (T 2) h mask).1 ≠ 0
/-- what both sides are told of: what is open, HITS by each way, the class's rows -/
def plH (T S O Ha Fe Wy : Int → Int) : Prop := (∀ h, 0 ≤ h → h < T 3 → (O h = 1 ↔ cOpen T S h ≠ 0)) ∧ (∀ h v, 0 ≤ h → h < T 3 → 0 ≤ v → v < 2 * T 2 → Ha (12 * h + v) = pnb T h v) ∧ (∀ k s, 0 ≤ k → k < T 3 → 0 ≤ s → s < T 2 → Fe (6 * k + s) = cFew T k s ∧ Wy (6 * k + s) = cWay T k s)
section PH
variable {T S O Ha Fe Wy : Int → Int}
theorem ts_spec (wT : wfT T) (P : plH T S O Ha Fe Wy) {mask : Int} : ∀ (m : Nat) (k th : Int) (Tr : Int → Int), 0 ≤ k → k + m = T 3 → (th = HF O Ha (wyM T Fe Wy mask) k.toNat) →
    ((tsF T S Fe Wy mask m k th Tr).1 ≠ 0 ↔ ∀ h, k ≤ h → h < T 3 → cOpen T S h ≠ 0 → (tfQ Fe Wy (T 2) h mask).1 ≠ 0) ∧
    ((tsF T S Fe Wy mask m k th Tr).1 ≠ 0 → (tsF T S Fe Wy mask m k th Tr).2.1 = HF O Ha (wyM T Fe Wy mask) (T 3).toNat ∧ ∀ x, (tsF T S Fe Wy mask m k th Tr).2.2 x = if k ≤ x ∧ x < T 3 then (if cOpen T S x = 0 then -4 else wyM T Fe Wy mask x) else Tr x)
  | 0, k, th, Tr, k0, k1, ht => by
    unfold tsF
    refine ⟨⟨fun _ h h0 h1 => by omega, fun _ => by show (1 : Int) ≠ 0; omega⟩, fun _ => ⟨by show th = _; rw [ht, show T 3 = k by omega], fun x => by rw [if_neg (by omega)]⟩⟩
  | m + 1, k, th, Tr, k0, k1, ht => by
    have kn : ((k.toNat : Nat) : Int) = k := by omega
    have ks : (k + 1).toNat = k.toNat + 1 := by omega
    have oh := P.1 k k0 (by omega)
    have hs : HF O Ha (wyM T Fe Wy mask) (k + 1).toNat = HF O Ha (wyM T Fe Wy mask) k.toNat + (if O k = 1 then Ha (12 * k + wyM T Fe Wy mask k) else 0) := by
      rw [ks]
      show HF O Ha (wyM T Fe Wy mask) k.toNat + (if O ((k.toNat : Nat) : Int) = 1 then Ha (12 * ((k.toNat : Nat) : Int) + wyM T Fe Wy mask ((k.toNat : Nat) : Int)) else 0) = _
      rw [kn]
    unfold tsF
    by_cases c : cOpen T S k = 0
    · rw [if_pos c]
      have i := ts_spec wT P (mask := mask) m (k + 1) th (zup Tr k (-4)) (by omega) (by omega) (by rw [hs, if_neg (fun e => oh.mp e c), Int.add_zero]; exact ht)
      refine ⟨⟨fun e h h0 h1 h2 => ?_, fun e => i.1.mpr (fun h h0 h1 h2 => e h (by omega) h1 h2)⟩, fun e => ⟨(i.2 e).1, fun x => ?_⟩⟩
      · by_cases g : h = k
        · rw [g] at h2; exact absurd c h2
        · exact i.1.mp e h (by omega) h1 h2
      · rw [(i.2 e).2 x]
        by_cases g : x = k
        · rw [g, if_neg (by omega), if_pos (show k ≤ k ∧ k < T 3 by omega), if_pos c, zup_self]
        · rw [zup_ne _ _ g]
          by_cases g2 : k + 1 ≤ x ∧ x < T 3
          · rw [if_pos g2, if_pos (show k ≤ x ∧ x < T 3 by omega)]
          · rw [if_neg g2, if_neg (by omega)]
    · rw [if_neg c]
      by_cases z : (tfQ Fe Wy (T 2) k mask).1 = 0
      · rw [if_pos z]
        exact ⟨⟨fun e => absurd rfl e, fun e => absurd z (e k (by omega) (by omega) c)⟩, fun e => absurd rfl e⟩
      · rw [if_neg z]
        have tI := tfQ_I wT (mask := mask) ⟨k0, by omega⟩ (fun s s0 s1 => P.2.2 k s k0 (by omega) s0 s1)
        have hv : Ha (12 * k + wyM T Fe Wy mask k) = (tfQ Fe Wy (T 2) k mask).1 := by
          rcases tI with ⟨h1, -⟩ | ⟨h1, h2, -⟩
          · exact absurd h1 z
          · rw [P.2.1 k (wyM T Fe Wy mask k) k0 (by omega) h2.1 h2.2]; exact h1.symm
        have i := ts_spec wT P (mask := mask) m (k + 1) (th + (tfQ Fe Wy (T 2) k mask).1) (zup (zup Tr k (-4)) k (tfQ Fe Wy (T 2) k mask).2) (by omega) (by omega) (by rw [hs, if_pos (oh.mpr c), hv, ht])
        refine ⟨⟨fun e h h0 h1 h2 => ?_, fun e => i.1.mpr (fun h h0 h1 h2 => e h (by omega) h1 h2)⟩, fun e => ⟨(i.2 e).1, fun x => ?_⟩⟩
        · by_cases g : h = k
          · rw [g]; exact z
          · exact i.1.mp e h (by omega) h1 h2
        · rw [(i.2 e).2 x]
          by_cases g : x = k
          · rw [g, if_neg (by omega), if_pos (show k ≤ k ∧ k < T 3 by omega), if_neg c, zup_self]; rfl
          · rw [zup_ne _ _ g, zup_ne _ _ g]
            by_cases g2 : k + 1 ≤ x ∧ x < T 3
            · rw [if_pos g2, if_pos (show k ≤ x ∧ x < T 3 by omega)]
            · rw [if_neg g2, if_neg (by omega)]
theorem lexF_congr {A B a b : Int → Int} : ∀ (m : Nat) (k : Int), (∀ h, k ≤ h → h < k + m → (A h = B h ↔ a h = b h) ∧ (A h < B h ↔ a h < b h)) → lexF A B m k = lexF a b m k
  | 0, k, _ => rfl
  | m + 1, k, h => by
    have h0 := h k (by omega) (by omega)
    have ih := lexF_congr m (k + 1) (fun x x0 x1 => h x (by omega) (by omega))
    unfold lexF
    rw [ih]
    by_cases e : A k = B k
    · rw [if_pos e, if_pos (h0.1.mp e)]
    · rw [if_neg e, if_neg (fun g => e (h0.1.mpr g))]
      by_cases l : A k < B k
      · rw [if_pos l, if_pos (h0.2.mp l)]
      · rw [if_neg l, if_neg (fun g => l (h0.2.mpr g))]
/-- bounds of the ways taken -/
theorem wyM_b (wT : wfT T) (P : plH T S O Ha Fe Wy) {mask : Int} (v : vdM T S Fe Wy mask) {h : Int} (h0 : 0 ≤ h ∧ h < T 3) (ho : O h = 1) : (0 ≤ wyM T Fe Wy mask h ∧ wyM T Fe Wy mask h < 2 * T 2) ∧ bt mask (wyM T Fe Wy mask h / 2) = 1 ∧ 1 ≤ pnb T h (wyM T Fe Wy mask h) ∧ ∀ v, 0 ≤ v → v < 2 * T 2 → bt mask (v / 2) = 1 → pnb T h v ≠ -4 → pnb T h (wyM T Fe Wy mask h) < pnb T h v ∨ (pnb T h (wyM T Fe Wy mask h) = pnb T h v ∧ wyM T Fe Wy mask h ≤ v) := by
  have tI := tfQ_I wT (mask := mask) h0 (fun s s0 s1 => P.2.2 h s h0.1 h0.2 s0 s1)
  rcases tI with ⟨h1, -⟩ | ⟨h1, h2, h3, h4, h5⟩
  · exact absurd h1 (v h h0.1 h0.2 ((P.1 h h0.1 h0.2).mp ho))
  · have h1 : (tfQ Fe Wy (T 2) h mask).1 = pnb T h (wyM T Fe Wy mask h) := h1
    rw [h1] at h4 h5
    exact ⟨h2, h3, h4, h5⟩
theorem lex_wy (wT : wfT T) (P : plH T S O Ha Fe Wy) {c m : Int} (vc : vdM T S Fe Wy c) (vm : vdM T S Fe Wy m) {Tr Be : Int → Int} (hT : ∀ h, 0 ≤ h → h < T 3 → Tr h = if cOpen T S h = 0 then -4 else wyM T Fe Wy c h) (hB : ∀ h, 0 ≤ h → h < T 3 → Be h = if cOpen T S h = 0 then -4 else wyM T Fe Wy m h) : lexF Tr Be (T 3).toNat 0 = 1 ↔ EF O (2 * T 2) (wyM T Fe Wy c) (T 3).toNat < EF O (2 * T 2) (wyM T Fe Wy m) (T 3).toNat := by
  have t2 := wT.2.2.2.1
  have bd : ∀ q, vdM T S Fe Wy q → ∀ h : Int, 0 ≤ h → O h = 1 → 0 ≤ (fun h => if O h = 1 ∧ 0 ≤ h ∧ h < T 3 then wyM T Fe Wy q h else 0) h ∧ (fun h => if O h = 1 ∧ 0 ≤ h ∧ h < T 3 then wyM T Fe Wy q h else 0) h < 2 * T 2 := by
    intro q vq h h0 ho
    show 0 ≤ (if O h = 1 ∧ 0 ≤ h ∧ h < T 3 then wyM T Fe Wy q h else 0) ∧ (if O h = 1 ∧ 0 ≤ h ∧ h < T 3 then wyM T Fe Wy q h else 0) < 2 * T 2
    by_cases g : O h = 1 ∧ 0 ≤ h ∧ h < T 3
    · rw [if_pos g]; exact (wyM_b wT P vq g.2 ho).1
    · rw [if_neg g]; omega
  have L := lex_EF (O := O) (n2 := 2 * T 2) (by omega) (bd c vc) (bd m vm) (fun h h0 ho => by
    show (if O h = 1 ∧ 0 ≤ h ∧ h < T 3 then wyM T Fe Wy c h else 0) = (if O h = 1 ∧ 0 ≤ h ∧ h < T 3 then wyM T Fe Wy m h else 0)
    rw [if_neg (fun g => ho g.1), if_neg (fun g => ho g.1)]) (T 3).toNat 0 rfl
  rw [Nat.zero_add] at L
  have e : ∀ q, EF O (2 * T 2) (fun h => if O h = 1 ∧ 0 ≤ h ∧ h < T 3 then wyM T Fe Wy q h else 0) (T 3).toNat = EF O (2 * T 2) (wyM T Fe Wy q) (T 3).toNat := fun q => EF_congr _ (fun h h0 h1 ho => if_pos ⟨ho, h0, by omega⟩)
  rw [e c, e m] at L
  rw [← L]
  rw [lexF_congr (T 3).toNat 0 (fun h h0 h1 => ?_)]
  · rfl
  · have x := hT h h0 (by omega)
    have y := hB h h0 (by omega)
    have oh := P.1 h h0 (by omega)
    show (Tr h = Be h ↔ (if O h = 1 ∧ 0 ≤ h ∧ h < T 3 then wyM T Fe Wy c h else 0) = (if O h = 1 ∧ 0 ≤ h ∧ h < T 3 then wyM T Fe Wy m h else 0)) ∧ (Tr h < Be h ↔ (if O h = 1 ∧ 0 ≤ h ∧ h < T 3 then wyM T Fe Wy c h else 0) < (if O h = 1 ∧ 0 ≤ h ∧ h < T 3 then wyM T Fe Wy m h else 0))
    by_cases g : cOpen T S h = 0
    · rw [if_pos g] at x y
      rw [x, y, if_neg (fun q => oh.mp q.1 g), if_neg (fun q => oh.mp q.1 g)]
      exact ⟨⟨fun _ => rfl, fun _ => rfl⟩, by omega⟩
    · rw [if_neg g] at x y
      rw [x, y, if_pos ⟨oh.mpr g, h0, by omega⟩, if_pos ⟨oh.mpr g, h0, by omega⟩]
      exact ⟨Iff.rfl, Iff.rfl⟩
def ClsI (T S O Ha Fe Wy : Int → Int) (m0 f bh bt_ : Int) (Be : Int → Int) : Prop :=
  (f = 0 ∧ ∀ m, 0 ≤ m → m < m0 → ¬ vdM T S Fe Wy m) ∨
  (f = 1 ∧ ∃ m, 0 ≤ m ∧ m < m0 ∧ vdM T S Fe Wy m ∧ bh = HF O Ha (wyM T Fe Wy m) (T 3).toNat ∧ bt_ = cTt (T 2) (S 150) m ∧ (∀ h, 0 ≤ h → h < T 3 → Be h = if cOpen T S h = 0 then -4 else wyM T Fe Wy m h) ∧ ∀ m', 0 ≤ m' → m' < m0 → vdM T S Fe Wy m' → LE3 (HF O Ha (wyM T Fe Wy m) (T 3).toNat + cTt (T 2) (S 150) m) (cTt (T 2) (S 150) m) (EF O (2 * T 2) (wyM T Fe Wy m) (T 3).toNat) (HF O Ha (wyM T Fe Wy m') (T 3).toNat + cTt (T 2) (S 150) m') (cTt (T 2) (S 150) m') (EF O (2 * T 2) (wyM T Fe Wy m') (T 3).toNat))
theorem wkF_I (wT : wfT T) (P : plH T S O Ha Fe Wy) : ∀ (n : Nat) (c f bh bt_ : Int) (Be Tr : Int → Int), 0 ≤ c → ClsI T S O Ha Fe Wy c f bh bt_ Be → ClsI T S O Ha Fe Wy (c + n) (wkF T S Fe Wy n c f bh bt_ Be Tr).1 (wkF T S Fe Wy n c f bh bt_ Be Tr).2.1 (wkF T S Fe Wy n c f bh bt_ Be Tr).2.2.1 (wkF T S Fe Wy n c f bh bt_ Be Tr).2.2.2
  | 0, c, f, bh, bt_, Be, Tr, _, hI => by
    rw [show c + ((0 : Nat) : Int) = c by omega]; exact hI
  | n + 1, c, f, bh, bt_, Be, Tr, hc0, hI => by
    have t3 := wT.2.2.2.2.1
    have ec : c + ((n + 1 : Nat) : Int) = c + 1 + n := by push_cast; omega
    rw [ec]
    obtain ⟨s1, s2⟩ := ts_spec wT P (mask := c) (T 3).toNat 0 0 Tr (by omega) (by omega) rfl
    have sV : (tsQ T S Fe Wy c Tr).1 ≠ 0 ↔ vdM T S Fe Wy c := s1
    have s2 : (tsQ T S Fe Wy c Tr).1 ≠ 0 → (tsQ T S Fe Wy c Tr).2.1 = HF O Ha (wyM T Fe Wy c) (T 3).toNat ∧ ∀ x, (tsQ T S Fe Wy c Tr).2.2 x = if 0 ≤ x ∧ x < T 3 then (if cOpen T S x = 0 then -4 else wyM T Fe Wy c x) else Tr x := s2
    unfold wkF
    generalize tsQ T S Fe Wy c Tr = Q at sV s2 ⊢
    have ext0 : ¬ vdM T S Fe Wy c → ClsI T S O Ha Fe Wy (c + 1) f bh bt_ Be := by
      intro nv
      rcases hI with ⟨f0, hI⟩ | ⟨f1, k, k0, k1, k2, k3, k4, k5, k6⟩
      · refine Or.inl ⟨f0, fun m m0 m1 => ?_⟩
        by_cases g : m = c
        · rw [g]; exact nv
        · exact hI m m0 (by omega)
      · refine Or.inr ⟨f1, k, k0, by omega, k2, k3, k4, k5, fun m m0 m1 m2 => ?_⟩
        by_cases g : m = c
        · rw [g] at m2; exact absurd m2 nv
        · exact k6 m m0 (by omega) m2
    by_cases z : Q.1 = 0
    · rw [if_pos z]
      exact wkF_I wT P n (c + 1) _ _ _ _ _ (by omega) (ext0 (fun e => sV.mpr e z))
    · rw [if_neg z]
      have vc := sV.mp z
      obtain ⟨u1, u2⟩ := s2 z
      rw [u1]
      have hTr : ∀ h, 0 ≤ h → h < T 3 → Q.2.2 h = if cOpen T S h = 0 then -4 else wyM T Fe Wy c h := fun h h0 h1 => by rw [u2 h, if_pos ⟨h0, h1⟩]
      have hcp : ∀ h, 0 ≤ h → h < T 3 → zcp Be Q.2.2 0 0 5 h = if cOpen T S h = 0 then -4 else wyM T Fe Wy c h := fun h h0 h1 => by
        unfold zcp
        rw [if_pos (by omega), Int.add_zero]; exact hTr h h0 h1
      by_cases b : f = 0 ∨ btrQ (T 3) (HF O Ha (wyM T Fe Wy c) (T 3).toNat) (cTt (T 2) (S 150) c) bh bt_ Q.2.2 Be ≠ 0
      · rw [if_pos b]
        refine wkF_I wT P n (c + 1) _ _ _ _ _ (by omega) (Or.inr ⟨rfl, c, hc0, by omega, vc, rfl, rfl, hcp, fun m m0 m1 m2 => ?_⟩)
        by_cases g : m = c
        · rw [g]; unfold LE3; omega
        · rcases hI with ⟨_, hI⟩ | ⟨f1, k, k0, k1, k2, k3, k4, k5, k6⟩
          · exact absurd m2 (hI m m0 (by omega))
          · have kk := k6 m m0 (by omega) m2
            have b := b.resolve_left (by omega)
            have lx := lex_wy wT P vc k2 hTr k5
            have l01 := lexF_b Q.2.2 Be (T 3).toNat 0
            unfold btrQ at b
            rw [k3, k4] at b
            unfold LE3 at kk ⊢
            split at b
            · split at b
              · omega
              · exact absurd rfl b
            · split at b
              · split at b
                · omega
                · exact absurd rfl b
              · have := lx.mp (by omega)
                omega
      · rw [if_neg b]
        refine wkF_I wT P n (c + 1) _ _ _ _ _ (by omega) ?_
        rcases hI with ⟨f0, hI⟩ | ⟨f1, k, k0, k1, k2, k3, k4, k5, k6⟩
        · exact absurd (Or.inl f0) b
        · refine Or.inr ⟨f1, k, k0, by omega, k2, k3, k4, k5, fun m m0 m1 m2 => ?_⟩
          by_cases g : m = c
          · rw [g]
            have nb : ¬ btrQ (T 3) (HF O Ha (wyM T Fe Wy c) (T 3).toNat) (cTt (T 2) (S 150) c) bh bt_ Q.2.2 Be ≠ 0 := fun e => b (Or.inr e)
            have lx := lex_wy wT P vc k2 hTr k5
            unfold btrQ at nb
            rw [k3, k4] at nb
            unfold LE3
            split at nb
            · split at nb
              · exact absurd (by omega) nb
              · omega
            · split at nb
              · split at nb
                · exact absurd (by omega) nb
                · omega
              · have : ¬ lexF Q.2.2 Be (T 3).toNat 0 = 1 := fun e => nb (by omega)
                have : ¬ EF O (2 * T 2) (wyM T Fe Wy c) (T 3).toNat < EF O (2 * T 2) (wyM T Fe Wy k) (T 3).toNat := fun e => this (lx.mpr e)
                omega
          · exact k6 m m0 (by omega) m2
end PH
