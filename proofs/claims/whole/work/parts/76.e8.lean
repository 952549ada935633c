/-! THE PLAN: by numbers of plans and by sets of STATIONS, one answer -/
section PF
variable {T S O Ha Fe Wy R : Int → Int}
theorem CF_cod (P1 : ∀ h, 0 ≤ h → h < T 3 → (O h = 1 ↔ 0 < mOpen T S h)) : ∀ (m : Nat) (h p : Int), 0 ≤ h → h + m = T 3 → p = CF O (2 * T 2) h.toNat → mCodF T S m h p = CF O (2 * T 2) (T 3).toNat
  | 0, h, p, h0, h1, hp => by unfold mCodF; rw [hp, show T 3 = h by omega]
  | m + 1, h, p, h0, h1, hp => by
    unfold mCodF
    refine CF_cod P1 m (h + 1) _ (by omega) (by omega) ?_
    have kn : ((h.toNat : Nat) : Int) = h := by omega
    rw [show (h + 1).toNat = h.toNat + 1 by omega, hp]
    show _ = if O ((h.toNat : Nat) : Int) = 1 then CF O (2 * T 2) h.toNat * (2 * T 2) else CF O (2 * T 2) h.toNat
    rw [kn]
    by_cases g : 0 < mOpen T S h
    · rw [if_pos g, if_pos ((P1 h h0 (by omega)).mpr g)]
    · rw [if_neg g, if_neg (fun e => g ((P1 h h0 (by omega)).mp e)), Int.mul_one]
theorem plS_spec (wT : wfT T) (bHa : ∀ h v, 0 ≤ h → h < T 3 → 0 ≤ v → v < 2 * T 2 → -1000 ≤ Ha (12 * h + v) ∧ Ha (12 * h + v) ≤ 1000) {c : Int} (c0 : 0 ≤ c) : (0 ≤ plS O Ha (2 * T 2) (T 3).toNat c ∧ plS O Ha (2 * T 2) (T 3).toNat c < pw (T 2)) ∧ ∀ x, 0 ≤ x → (bt (plS O Ha (2 * T 2) (T 3).toNat c) x = 1 ↔ ∃ h : Int, 0 ≤ h ∧ h < T 3 ∧ O h = 1 ∧ dig O (2 * T 2) (T 3).toNat c h / 2 = x) := by
  have t2 := wT.2.2.2.1
  have t3 := wT.2.2.2.2.1
  have pb := pw_b (b := T 2) (by omega)
  obtain ⟨⟨d0, d1⟩, -, -, -⟩ := dec_spec (O := O) (Ha := Ha) t2 rfl (T 3).toNat c 0 0 1 (fun _ => 0) (by omega) (by omega)
  have b := (mDecF_b (O := O) (Ha := Ha) t2 bHa (T 3).toNat ((((T 3).toNat : Nat) : Int) - 1) c 0 0 1 (fun _ => 0) (by omega) (by omega) c0 (by omega) (by omega)).1
  refine ⟨b, fun x x0 => ?_⟩
  rw [show bt (plS O Ha (2 * T 2) (T 3).toNat c) x = 1 ↔ _ from d1 x x0]
  constructor
  · rintro (e | ⟨h, h0, h1, h2, h3⟩)
    · exact absurd e (bt_zero x0)
    · exact ⟨h, h0, by omega, h2, h3⟩
  · rintro ⟨h, h0, h1, h2, h3⟩
    exact Or.inr ⟨h, h0, by omega, h2, h3⟩
theorem cls_ref (wT : wfT T) (hh : 0 ≤ S 150 ∧ S 150 < T 2) (P : plH T S O Ha Fe Wy) (bHa : ∀ h v, 0 ≤ h → h < T 3 → 0 ≤ v → v < 2 * T 2 → -1000 ≤ Ha (12 * h + v) ∧ Ha (12 * h + v) ≤ 1000) (hR : ∀ k, 0 ≤ k → k < pw (T 2) → R k = mRound (T 2) (S 150) k) {m : Int} (v : vdM T S Fe Wy m) :
    (0 ≤ EF O (2 * T 2) (wyM T Fe Wy m) (T 3).toNat ∧ EF O (2 * T 2) (wyM T Fe Wy m) (T 3).toNat < CF O (2 * T 2) (T 3).toNat) ∧ plM O Ha (2 * T 2) (T 3).toNat (EF O (2 * T 2) (wyM T Fe Wy m) (T 3).toNat) ∧ plU O Ha (2 * T 2) (T 3).toNat (EF O (2 * T 2) (wyM T Fe Wy m) (T 3).toNat) = HF O Ha (wyM T Fe Wy m) (T 3).toNat ∧ (∀ h, 0 ≤ h → h < T 3 → O h = 1 → dig O (2 * T 2) (T 3).toNat (EF O (2 * T 2) (wyM T Fe Wy m) (T 3).toNat) h = wyM T Fe Wy m h) ∧ R (plS O Ha (2 * T 2) (T 3).toNat (EF O (2 * T 2) (wyM T Fe Wy m) (T 3).toNat)) ≤ cTt (T 2) (S 150) m := by
  have t2 := wT.2.2.2.1
  have t3 := wT.2.2.2.2.1
  have wb : ∀ h : Int, 0 ≤ h → h < ((T 3).toNat : Nat) → O h = 1 → _ := fun h h0 h1 ho => wyM_b wT P v ⟨h0, by omega⟩ ho
  have eb := EF_b (O := O) (n2 := 2 * T 2) (by omega) (a := wyM T Fe Wy m) (T 3).toNat (fun h h0 h1 ho => (wb h h0 h1 ho).1)
  have dg : ∀ h, 0 ≤ h → h < T 3 → O h = 1 → dig O (2 * T 2) (T 3).toNat (EF O (2 * T 2) (wyM T Fe Wy m) (T 3).toNat) h = wyM T Fe Wy m h := fun h h0 h1 ho => by
    rw [dig_EF (by omega) (T 3).toNat (fun h h0 h1 ho => (wb h h0 h1 ho).1) h h0 (by omega), if_pos ho]
  refine ⟨eb, fun h h0 h1 ho => ?_, HF_congr _ (fun h h0 h1 ho => dg h h0 (by omega) ho), dg, ?_⟩
  · have w := wb h h0 h1 ho
    rw [dg h h0 (by omega) ho, P.2.1 h _ h0 (by omega) w.1.1 w.1.2]
    omega
  · obtain ⟨⟨p0, p1⟩, p2⟩ := plS_spec (O := O) wT bHa eb.1
    rw [hR _ p0 p1, cTt_eq t2 hh]
    refine mRound_mono t2 hh (fun k k0 k1 kb => ?_)
    obtain ⟨h, h0, h1, h2, h3⟩ := (p2 k k0).mp kb
    rw [dg h h0 h1 h2] at h3
    have w := wb h h0 (by omega) h2
    rw [← h3]; exact w.2.1
theorem ref_cls (wT : wfT T) (hh : 0 ≤ S 150 ∧ S 150 < T 2) (P : plH T S O Ha Fe Wy) (bHa : ∀ h v, 0 ≤ h → h < T 3 → 0 ≤ v → v < 2 * T 2 → -1000 ≤ Ha (12 * h + v) ∧ Ha (12 * h + v) ≤ 1000) (hR : ∀ k, 0 ≤ k → k < pw (T 2) → R k = mRound (T 2) (S 150) k) {c : Int} (c0 : 0 ≤ c) (c1 : c < CF O (2 * T 2) (T 3).toNat) (hM : plM O Ha (2 * T 2) (T 3).toNat c) :
    (0 ≤ plS O Ha (2 * T 2) (T 3).toNat c ∧ plS O Ha (2 * T 2) (T 3).toNat c < pw (T 2)) ∧ vdM T S Fe Wy (plS O Ha (2 * T 2) (T 3).toNat c) ∧ LE3 (HF O Ha (wyM T Fe Wy (plS O Ha (2 * T 2) (T 3).toNat c)) (T 3).toNat + cTt (T 2) (S 150) (plS O Ha (2 * T 2) (T 3).toNat c)) (cTt (T 2) (S 150) (plS O Ha (2 * T 2) (T 3).toNat c)) (EF O (2 * T 2) (wyM T Fe Wy (plS O Ha (2 * T 2) (T 3).toNat c)) (T 3).toNat) (plU O Ha (2 * T 2) (T 3).toNat c + R (plS O Ha (2 * T 2) (T 3).toNat c)) (R (plS O Ha (2 * T 2) (T 3).toNat c)) c := by
  have t2 := wT.2.2.2.1
  have t3 := wT.2.2.2.2.1
  obtain ⟨pb, p2⟩ := plS_spec (O := O) wT bHa c0
  rw [hR _ pb.1 pb.2, cTt_eq t2 hh]
  generalize plS O Ha (2 * T 2) (T 3).toNat c = m at pb p2 ⊢
  have db : ∀ h, 0 ≤ dig O (2 * T 2) (T 3).toNat c h ∧ dig O (2 * T 2) (T 3).toNat c h < 2 * T 2 := fun h => dig_b (by omega) _ _ _
  have dn : ∀ h, 0 ≤ h → h < T 3 → O h = 1 → bt m (dig O (2 * T 2) (T 3).toNat c h / 2) = 1 ∧ pnb T h (dig O (2 * T 2) (T 3).toNat c h) ≠ -4 := by
    intro h h0 h1 ho
    have b := db h
    refine ⟨(p2 _ (by omega)).mpr ⟨h, h0, h1, ho, rfl⟩, ?_⟩
    rw [← P.2.1 h _ h0 h1 b.1 b.2]
    exact hM h h0 (by omega) ho
  have v : vdM T S Fe Wy m := by
    intro h h0 h1 ho
    have oh := (P.1 h h0 h1).mpr ho
    have tI := tfQ_I wT (mask := m) ⟨h0, h1⟩ (fun s s0 s1 => P.2.2 h s h0 h1 s0 s1)
    rcases tI with ⟨-, h2⟩ | ⟨-, -, -, h4, -⟩
    · exact absurd (h2 _ (db h).1 (db h).2 (dn h h0 h1 oh).1) (dn h h0 h1 oh).2
    · omega
  have wb : ∀ h : Int, 0 ≤ h → h < T 3 → O h = 1 → _ := fun h h0 h1 ho => wyM_b wT P v ⟨h0, h1⟩ ho
  refine ⟨pb, v, ?_⟩
  have cmp : ∀ h : Int, 0 ≤ h → h < ((T 3).toNat : Nat) → O h = 1 → Ha (12 * h + wyM T Fe Wy m h) < Ha (12 * h + dig O (2 * T 2) (T 3).toNat c h) ∨ (Ha (12 * h + wyM T Fe Wy m h) = Ha (12 * h + dig O (2 * T 2) (T 3).toNat c h) ∧ wyM T Fe Wy m h ≤ dig O (2 * T 2) (T 3).toNat c h) := by
    intro h h0 h1 ho
    have w := wb h h0 (by omega) ho
    have b := db h
    have d := dn h h0 (by omega) ho
    rw [P.2.1 h _ h0 (by omega) w.1.1 w.1.2, P.2.1 h _ h0 (by omega) b.1 b.2]
    exact w.2.2.2 _ b.1 b.2 d.1 d.2
  obtain ⟨l1, l2⟩ := HF_le (O := O) (Ha := Ha) (a := wyM T Fe Wy m) (b := dig O (2 * T 2) (T 3).toNat c) (T 3).toNat (fun h h0 h1 ho => by
    have := cmp h h0 h1 ho; omega)
  have l1 : HF O Ha (wyM T Fe Wy m) (T 3).toNat ≤ plU O Ha (2 * T 2) (T 3).toNat c := l1
  by_cases g : HF O Ha (wyM T Fe Wy m) (T 3).toNat = plU O Ha (2 * T 2) (T 3).toNat c
  · have ee := l2 g
    have le := EF_le (O := O) (n2 := 2 * T 2) (by omega) (a := wyM T Fe Wy m) (b := dig O (2 * T 2) (T 3).toNat c) (T 3).toNat (fun h h0 h1 ho => by
      have a1 := cmp h h0 h1 ho
      have a2 := ee h h0 h1 ho
      omega)
    rw [EF_dig (by omega) (T 3).toNat c c0 c1] at le
    unfold LE3
    omega
  · unfold LE3
    omega
theorem plan_best (wT : wfT T) (hh : 0 ≤ S 150 ∧ S 150 < T 2) (P : plH T S O Ha Fe Wy) (bHa : ∀ h v, 0 ≤ h → h < T 3 → 0 ≤ v → v < 2 * T 2 → -1000 ≤ Ha (12 * h + v) ∧ Ha (12 * h + v) ≤ 1000) (hR : ∀ k, 0 ≤ k → k < pw (T 2) → R k = mRound (T 2) (S 150) k) {f bh b1 f' bh' b1' : Int} {Bs Be : Int → Int} (A : RefI O Ha R (2 * T 2) (T 3).toNat (CF O (2 * T 2) (T 3).toNat) f bh b1 Bs) (B : ClsI T S O Ha Fe Wy (pw (T 2)) f' bh' b1' Be) :
    f = f' ∧ (f' ≠ 0 → bh = bh' ∧ b1 = b1' ∧ ∀ h, 0 ≤ h → h < T 3 → Be h = if cOpen T S h = 0 then -4 else Bs h) := by
  have t3 := wT.2.2.2.2.1
  rcases A with ⟨f0, hA⟩ | ⟨f1, c, c0, c1, c2, c3, c4, c5, c6⟩
  · rcases B with ⟨g0, hB⟩ | ⟨g1, m, m0, m1, m2, m3, m4, m5, m6⟩
    · exact ⟨f0.trans g0.symm, fun e => absurd g0 e⟩
    · have k := cls_ref wT hh P bHa hR m2
      exact absurd k.2.1 (hA _ k.1.1 k.1.2)
  · have r := ref_cls wT hh P bHa hR c0 c1 c2
    rcases B with ⟨g0, hB⟩ | ⟨g1, m, m0, m1, m2, m3, m4, m5, m6⟩
    · exact absurd r.2.1 (hB _ r.1.1 r.1.2)
    · have k := cls_ref wT hh P bHa hR m2
      have x1 := m6 _ r.1.1 r.1.2 r.2.1
      have x2 := r.2.2
      have x3 := c6 _ k.1.1 k.1.2 k.2.1
      rw [k.2.2.1] at x3
      have x4 := k.2.2.2.2
      unfold LE3 at x1 x2 x3
      have e : c = EF O (2 * T 2) (wyM T Fe Wy m) (T 3).toNat := by omega
      refine ⟨f1.trans g1.symm, fun _ => ⟨by omega, by omega, fun h h0 h1 => ?_⟩⟩
      rw [m5 h h0 h1]
      by_cases g : cOpen T S h = 0
      · rw [if_pos g, if_pos g]
      · rw [if_neg g, if_neg g, c5 h h0 (by omega), e, k.2.2.2.1 h h0 h1 ((P.1 h h0 h1).mpr g)]
end PF
/-- what plan of the class answers, Q: what the Planner has found -/
def cPlanA (T : Int → Int) (Q : Int × Int × Int × (Int → Int)) (h : Int) : Int :=
  if h ≠ -1 ∧ h ≠ -2 ∧ ¬ (0 ≤ h ∧ h < T 3) then -1 else if Q.1 = 0 then -4 else if h = -1 then Q.2.1 else if h = -2 then Q.2.2.1 else Q.2.2.2 h
theorem plan_eq {T S : Int → Int} (wT : wfT T) (wS : wfS T S) (Fe Wy Be Tr : Int → Int) (bh bt_ : Int) (O0 H0 R0 B0 W0 : Int → Int) (i3 i4 h : Int) : cPlanA T (cPlanQ T S Fe Wy Be Tr bh bt_) h = mPlanA T (mPlF T (mLkO T S (T 3).toNat 0 O0 H0).1 (mLkO T S (T 3).toNat 0 O0 H0).2 (mTurF (T 2) (S 150) (pw (T 2)).toNat 0 R0) (mCodF T S (T 3).toNat 0 1).toNat 0 0 i3 i4 B0 W0) (mLkO T S (T 3).toNat 0 O0 H0).1 h := by
  have t2 := wT.2.2.2.1
  have t3 := wT.2.2.2.2.1
  have s150 := wS.2.2.1
  have pb := pw_b (b := T 2) (by omega)
  have pO : ∀ h, 0 ≤ h → h < T 3 → ((mLkO T S (T 3).toNat 0 O0 H0).1 h = 1 ↔ 0 < mOpen T S h) := by
    intro h h0 h1
    rw [mLkO_O, if_pos (by omega)]
    by_cases g : 0 < mOpen T S h
    · rw [if_pos g]; exact ⟨fun _ => g, fun _ => rfl⟩
    · rw [if_neg g]; exact ⟨fun e => by omega, fun e => absurd e g⟩
  have pH : ∀ h v, 0 ≤ h → h < T 3 → 0 ≤ v → v < 2 * T 2 → (mLkO T S (T 3).toNat 0 O0 H0).2 (12 * h + v) = pnb T h v := by
    intro h v h0 h1 v0 v1
    rw [mLkO_H T S t2 _ _ _ _ _ _ v0 v1, if_pos (by omega)]; rfl
  have P : plH T S (mLkO T S (T 3).toNat 0 O0 H0).1 (mLkO T S (T 3).toNat 0 O0 H0).2 (wFe T Fe Wy) (wWy T Fe Wy) := by
    refine ⟨fun h h0 h1 => ?_, pH, fun k s k0 k1 s0 s1 => wFe_at wT Fe Wy ⟨k0, k1⟩ ⟨s0, s1⟩⟩
    rw [pO h h0 h1, mOpen_c wT ⟨h0, h1⟩]
    have := mOpen_b T S h wS.1
    rw [mOpen_c wT ⟨h0, h1⟩] at this
    omega
  have bHa : ∀ h v, 0 ≤ h → h < T 3 → 0 ≤ v → v < 2 * T 2 → -1000 ≤ (mLkO T S (T 3).toNat 0 O0 H0).2 (12 * h + v) ∧ (mLkO T S (T 3).toNat 0 O0 H0).2 (12 * h + v) ≤ 1000 := by
    intro h v h0 h1 v0 v1
    rw [pH h v h0 h1 v0 v1]
    have a1 := cS_nib wT (h := h) (k := v / 2) (t := v % 2) ⟨h0, h1⟩ (by omega) (by omega)
    have a2 := cS_b wT (k := h) (s := v / 2) (t := v % 2) ⟨h0, h1⟩ (by omega)
    unfold pnb
    omega
  have hR : ∀ k, 0 ≤ k → k < pw (T 2) → mTurF (T 2) (S 150) (pw (T 2)).toNat 0 R0 k = mRound (T 2) (S 150) k := by
    intro k k0 k1
    rw [mTurF_at, if_pos (by omega)]
  have cc := CF_cod pO (T 3).toNat 0 1 (by omega) (by omega) rfl
  generalize (mLkO T S (T 3).toNat 0 O0 H0).1 = O at pO P cc ⊢
  generalize (mLkO T S (T 3).toNat 0 O0 H0).2 = Ha at pH P bHa ⊢
  generalize mTurF (T 2) (S 150) (pw (T 2)).toNat 0 R0 = R at hR ⊢
  have A := mPlF_I (T := T) (O := O) (Ha := Ha) (R := R) t2 t3.1 (mCodF T S (T 3).toNat 0 1).toNat 0 0 i3 i4 B0 W0 (by omega) (Or.inl ⟨rfl, fun c c0 c1 => by omega⟩)
  have B := wkF_I wT P (pw (T 2)).toNat 0 0 bh bt_ Be Tr (by omega) (Or.inl ⟨rfl, fun c c0 c1 => by omega⟩)
  have cp := CF_pos (O := O) (n2 := 2 * T 2) (by omega) (T 3).toNat
  rw [show (0 : Int) + (((mCodF T S (T 3).toNat 0 1).toNat : Nat) : Int) = CF O (2 * T 2) (T 3).toNat by omega] at A
  rw [show (0 : Int) + (((pw (T 2)).toNat : Nat) : Int) = pw (T 2) by omega] at B
  obtain ⟨e1, e2⟩ := plan_best wT s150 P bHa hR A B
  unfold cPlanA mPlanA
  show (if h ≠ -1 ∧ h ≠ -2 ∧ ¬ (0 ≤ h ∧ h < T 3) then -1 else if (wkF T S (wFe T Fe Wy) (wWy T Fe Wy) (pw (T 2)).toNat 0 0 bh bt_ Be Tr).1 = 0 then -4 else if h = -1 then (wkF T S (wFe T Fe Wy) (wWy T Fe Wy) (pw (T 2)).toNat 0 0 bh bt_ Be Tr).2.1 else if h = -2 then (wkF T S (wFe T Fe Wy) (wWy T Fe Wy) (pw (T 2)).toNat 0 0 bh bt_ Be Tr).2.2.1 else (wkF T S (wFe T Fe Wy) (wWy T Fe Wy) (pw (T 2)).toNat 0 0 bh bt_ Be Tr).2.2.2 h) = _
  generalize wkF T S (wFe T Fe Wy) (wWy T Fe Wy) (pw (T 2)).toNat 0 0 bh bt_ Be Tr = Q at e1 e2 ⊢
  generalize mPlF T O Ha R (mCodF T S (T 3).toNat 0 1).toNat 0 0 i3 i4 B0 W0 = F at e1 e2 ⊢
  by_cases g : h ≠ -1 ∧ h ≠ -2 ∧ ¬ (0 ≤ h ∧ h < T 3)
  · rw [if_pos g, if_pos (show ¬ (-2 ≤ h ∧ h ≤ T 3 - 1) by omega)]
  · rw [if_neg g, if_neg (show ¬ ¬ (-2 ≤ h ∧ h ≤ T 3 - 1) by omega), e1]
    by_cases z : Q.1 = 0
    · rw [if_pos z, if_pos z]
    · rw [if_neg z, if_neg z]
      obtain ⟨x1, x2, x3⟩ := e2 z
      by_cases h1 : h = -1
      · rw [if_pos h1, if_pos h1, x1]
      · rw [if_neg h1, if_neg h1]
        by_cases h2 : h = -2
        · rw [if_pos h2, if_pos h2, x2]
        · rw [if_neg h2, if_neg h2, x3 h (by omega) (by omega)]
          have oh := P.1 h (by omega) (by omega)
          by_cases g2 : cOpen T S h = 0
          · rw [if_pos g2, if_neg (fun e => oh.mp e g2)]
          · rw [if_neg g2, if_pos (oh.mpr g2)]
