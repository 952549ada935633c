/-! the Planner -/
def rPl (a : Nat) (Fe Wy Tr Be : Int → Int) (th bh bt_ fo : Int) (σ : g_H0) : Prop := σ[a]? = some (.inr (3, [.ref (a + 1), .ref (a + 2), .ref (a + 3), .int (iZ th), .ref (a + 4), .int (iZ bh), .int (iZ bt_), .int (iZ fo)])) ∧ σ[a + 1]? = some (.inl (0, 30, .inl (zA Fe))) ∧ σ[a + 2]? = some (.inl (0, 30, .inl (zA Wy))) ∧ σ[a + 3]? = some (.inl (0, 5, .inl (zA Tr))) ∧ σ[a + 4]? = some (.inl (0, 5, .inl (zA Be)))
def pP (a : Nat) : Nat → Prop := fun k => a ≤ k ∧ k < a + 5
theorem zup_zup {α : Type} (t : Int → α) (i : Int) (x y : α) : zup (zup t i x) i y = zup t i y := by
  funext k
  unfold zup
  split <;> rfl
theorem zup_id {α : Type} (t : Int → α) (i : Int) : zup t i (t i) = t := by
  funext k
  unfold zup
  split
  · next h => rw [h]
  · rfl
/-- the way round the TURRET -/
def cDbF (n here mask : Int) : Nat → Int → Int
  | 0, _ => 0
  | m + 1, s => if bt mask (if here + s < n then here + s else here + s - n) = 0 then cDbF n here mask m (s + 1) else n - s
theorem cDbF_b {n here mask : Int} : ∀ (m : Nat) (s : Int), 0 ≤ s → s + m ≤ n → 0 ≤ cDbF n here mask m s ∧ cDbF n here mask m s ≤ n
  | 0, s, _, _ => by unfold cDbF; omega
  | m + 1, s, h0, h1 => by
    have := cDbF_b (n := n) (here := here) (mask := mask) m (s + 1) (by omega) (by omega)
    unfold cDbF
    split <;> omega
def cDb (n here mask up : Int) : Int := cDbF n here mask (n - (up + 1)).toNat (up + 1)
def cTtF (n here mask : Int) : Nat → Int → Int → Int
  | 0, _, f => f
  | m + 1, up, f => cTtF n here mask m (up + 1) (zmin f (up + cDb n here mask up + zmin up (cDb n here mask up)))
def cTt (n here mask : Int) : Int := cTtF n here mask n.toNat 0 n
theorem l_down (w : g_W) (σ : g_H0) (j : Nat) (T : Int → Int) (hJ : rJob j T σ) (wT : wfT T) (here mask up : Int) (bh : 0 ≤ here ∧ here < T 2) (bm : 0 ≤ mask ∧ mask < 64) (bu : 0 ≤ up ∧ up < T 2) : ∀ (n : Nat) (s : Int), 0 ≤ s → s + n = T 2 → Go w mX2_downBeyond (0, 0) 5 [some (.ref j), some (.int (iZ here)), some (.int (iZ mask)), some (.int (iZ up)), some (.int (iZ s)), none] [] σ (fun r σ' => r = some (.int (iZ (cDbF (T 2) here mask n s))) ∧ σ' = σ) := by
  intro n
  induction n with
  | zero =>
    intro s h0 h1
    obtain ⟨bT, t0, t1, t2, t3, t4, tt, th, tap, tcl, tc2⟩ := id wT
    obtain ⟨j0, j1, ⟨jf, j2, j2'⟩, ⟨jg, j3, j3'⟩, ⟨jC, j4, j4'⟩, j5, j6⟩ := id hJ
    refine g_iload (q := 7) dX2_downBeyond_5 rfl rfl ?_
    refine g_aload_n (q := 8) dX2_downBeyond_7 rfl rfl ?_
    refine g_get (q := 11) flX2_37 dX2_downBeyond_8 j0 rfl rfl ?_
    refine z_icmp_ge (t := 66) (q := 14) dX2_downBeyond_11 rfl (by omega) rfl (fun pc1 => ?_) (fun pc1 => ?_)
    · refine z_iconst (q := 67) dX2_downBeyond_66 rfl ?_
      refine z_iret dX2_downBeyond_67 rfl ?_
      exact ⟨rfl, rfl⟩
    · exfalso
      omega
  | succ n ih =>
    intro s h0 h1
    obtain ⟨bT, t0, t1, t2, t3, t4, tt, th, tap, tcl, tc2⟩ := id wT
    obtain ⟨j0, j1, ⟨jf, j2, j2'⟩, ⟨jg, j3, j3'⟩, ⟨jC, j4, j4'⟩, j5, j6⟩ := id hJ
    refine g_iload (q := 7) dX2_downBeyond_5 rfl rfl ?_
    refine g_aload_n (q := 8) dX2_downBeyond_7 rfl rfl ?_
    refine g_get (q := 11) flX2_37 dX2_downBeyond_8 j0 rfl rfl ?_
    refine z_icmp_ge (t := 66) (q := 14) dX2_downBeyond_11 rfl (by omega) rfl (fun pc1 => ?_) (fun pc1 => ?_)
    · exfalso
      omega
    · refine g_iload_n (q := 15) dX2_downBeyond_14 rfl rfl ?_
      refine g_iload (q := 17) dX2_downBeyond_15 rfl rfl ?_
      refine z_iadd (q := 18) dX2_downBeyond_17 rfl ?_
      refine g_aload_n (q := 19) dX2_downBeyond_18 rfl rfl ?_
      refine g_get (q := 22) flX2_37 dX2_downBeyond_19 j0 rfl rfl ?_
      refine z_icmp_ge (t := 32) (q := 25) dX2_downBeyond_22 rfl (by omega) rfl (fun pc2 => ?_) (fun pc2 => ?_)
      · refine g_iload_n (q := 33) dX2_downBeyond_32 rfl rfl ?_
        refine g_iload (q := 35) dX2_downBeyond_33 rfl rfl ?_
        refine z_iadd (q := 36) dX2_downBeyond_35 rfl ?_
        refine g_aload_n (q := 37) dX2_downBeyond_36 rfl rfl ?_
        refine g_get (q := 40) flX2_37 dX2_downBeyond_37 j0 rfl rfl ?_
        refine z_isubc (c := (here + s - (T 2))) (q := 41) dX2_downBeyond_40 (by omega) rfl ?_
        refine g_istore (ml' := [some (.ref j), some (.int (iZ here)), some (.int (iZ mask)), some (.int (iZ up)), some (.int (iZ s)), some (.int (iZ (here + s - (T 2))))]) (q := 43) dX2_downBeyond_41 rfl (Nat.le_of_ble_eq_true rfl) rfl rfl ?_
        refine g_iload_n (q := 44) dX2_downBeyond_43 rfl rfl ?_
        refine z_iconst (q := 45) dX2_downBeyond_44 rfl ?_
        refine g_iload (q := 47) dX2_downBeyond_45 rfl rfl ?_
        refine g_ishl (q := 48) dX2_downBeyond_47 rfl ?_
        have hc3 := bw_cell (c := mask) (x := (here + s - (T 2))) (by omega) (by omega)
        have b4 := bt_01 mask (here + s - (T 2))
        refine g_iand (q := 49) dX2_downBeyond_48 rfl ?_
        rw [show iZ mask &&& (iZ 1 <<< (iZ (here + s - (T 2)) &&& 31)) = iZ (bt mask (here + s - (T 2)) * pw (here + s - (T 2))) from hc3.1]
        refine z_if_eq (t := 60) (q := 52) dX2_downBeyond_49 rfl (by omega) rfl (fun pc5 => ?_) (fun pc5 => ?_)
        · refine z_iincc (c := (s + 1)) (ml' := [some (.ref j), some (.int (iZ here)), some (.int (iZ mask)), some (.int (iZ up)), some (.int (iZ (s + 1))), some (.int (iZ (here + s - (T 2))))]) (q := 63) dX2_downBeyond_60 rfl (by omega) rfl rfl rfl ?_
          refine g_goto (q := 5) dX2_downBeyond_63 rfl ?_
          refine Go.wk (ml' := [some (.ref j), some (.int (iZ here)), some (.int (iZ mask)), some (.int (iZ up)), some (.int (iZ (s + 1))), none]) ⟨Or.inr rfl, Or.inr rfl, Or.inr rfl, Or.inr rfl, Or.inr rfl, Or.inl rfl, trivial⟩ ?_
          refine (ih (s + 1) (by omega) (by omega)).mono (fun r σ1 hp => ⟨hp.1.trans (congrArg (fun z => some (Value.int (iZ z))) ?_), hp.2⟩)
          conv => rhs; unfold cDbF
          first | rw [if_pos (show here + s < T 2 by omega), if_pos (by omega)] | rw [if_neg (show ¬ here + s < T 2 by omega), if_pos (by omega)]
        · refine g_aload_n (q := 53) dX2_downBeyond_52 rfl rfl ?_
          refine g_get (q := 56) flX2_37 dX2_downBeyond_53 j0 rfl rfl ?_
          refine g_iload (q := 58) dX2_downBeyond_56 rfl rfl ?_
          refine z_isub (q := 59) dX2_downBeyond_58 rfl ?_
          refine z_iret dX2_downBeyond_59 rfl ?_
          refine ⟨congrArg (fun z => some (Value.int (iZ z))) ?_, rfl⟩
          unfold cDbF
          first | rw [if_pos (show here + s < T 2 by omega), if_neg (by omega)] | rw [if_neg (show ¬ here + s < T 2 by omega), if_neg (by omega)]
      · refine g_iload_n (q := 26) dX2_downBeyond_25 rfl rfl ?_
        refine g_iload (q := 28) dX2_downBeyond_26 rfl rfl ?_
        refine z_iadd (q := 29) dX2_downBeyond_28 rfl ?_
        refine g_goto (q := 41) dX2_downBeyond_29 rfl ?_
        refine g_istore (ml' := [some (.ref j), some (.int (iZ here)), some (.int (iZ mask)), some (.int (iZ up)), some (.int (iZ s)), some (.int (iZ (here + s)))]) (q := 43) dX2_downBeyond_41 rfl (Nat.le_of_ble_eq_true rfl) rfl rfl ?_
        refine g_iload_n (q := 44) dX2_downBeyond_43 rfl rfl ?_
        refine z_iconst (q := 45) dX2_downBeyond_44 rfl ?_
        refine g_iload (q := 47) dX2_downBeyond_45 rfl rfl ?_
        refine g_ishl (q := 48) dX2_downBeyond_47 rfl ?_
        have hc6 := bw_cell (c := mask) (x := (here + s)) (by omega) (by omega)
        have b7 := bt_01 mask (here + s)
        refine g_iand (q := 49) dX2_downBeyond_48 rfl ?_
        rw [show iZ mask &&& (iZ 1 <<< (iZ (here + s) &&& 31)) = iZ (bt mask (here + s) * pw (here + s)) from hc6.1]
        refine z_if_eq (t := 60) (q := 52) dX2_downBeyond_49 rfl (by omega) rfl (fun pc8 => ?_) (fun pc8 => ?_)
        · refine z_iincc (c := (s + 1)) (ml' := [some (.ref j), some (.int (iZ here)), some (.int (iZ mask)), some (.int (iZ up)), some (.int (iZ (s + 1))), some (.int (iZ (here + s)))]) (q := 63) dX2_downBeyond_60 rfl (by omega) rfl rfl rfl ?_
          refine g_goto (q := 5) dX2_downBeyond_63 rfl ?_
          refine Go.wk (ml' := [some (.ref j), some (.int (iZ here)), some (.int (iZ mask)), some (.int (iZ up)), some (.int (iZ (s + 1))), none]) ⟨Or.inr rfl, Or.inr rfl, Or.inr rfl, Or.inr rfl, Or.inr rfl, Or.inl rfl, trivial⟩ ?_
          refine (ih (s + 1) (by omega) (by omega)).mono (fun r σ1 hp => ⟨hp.1.trans (congrArg (fun z => some (Value.int (iZ z))) ?_), hp.2⟩)
          conv => rhs; unfold cDbF
          first | rw [if_pos (show here + s < T 2 by omega), if_pos (by omega)] | rw [if_neg (show ¬ here + s < T 2 by omega), if_pos (by omega)]
        · refine g_aload_n (q := 53) dX2_downBeyond_52 rfl rfl ?_
          refine g_get (q := 56) flX2_37 dX2_downBeyond_53 j0 rfl rfl ?_
          refine g_iload (q := 58) dX2_downBeyond_56 rfl rfl ?_
          refine z_isub (q := 59) dX2_downBeyond_58 rfl ?_
          refine z_iret dX2_downBeyond_59 rfl ?_
          refine ⟨congrArg (fun z => some (Value.int (iZ z))) ?_, rfl⟩
          unfold cDbF
          first | rw [if_pos (show here + s < T 2 by omega), if_neg (by omega)] | rw [if_neg (show ¬ here + s < T 2 by omega), if_neg (by omega)]
theorem r_down (σ : g_H0) (j : Nat) (T : Int → Int) (hJ : rJob j T σ) (wT : wfT T) (here mask up : Int) (bh : 0 ≤ here ∧ here < T 2) (bm : 0 ≤ mask ∧ mask < 64) (bu : 0 ≤ up ∧ up < T 2) : Ret mX2_downBeyond [.ref j, .int (iZ here), .int (iZ mask), .int (iZ up)] σ (fun r σ' => r = some (.int (iZ (cDb (T 2) here mask up))) ∧ σ' = σ) := by
  refine Ret.of moX2_downBeyond.1 (Nat.le_of_ble_eq_true rfl) (fun w => ?_)
  obtain ⟨bT, t0, t1, t2, t3, t4, tt, th, tap, tcl, tc2⟩ := id wT
  show Go w mX2_downBeyond (0, 0) 0 [some (.ref j), some (.int (iZ here)), some (.int (iZ mask)), some (.int (iZ up)), none, none] [] σ (fun r σ' => r = some (.int (iZ (cDb (T 2) here mask up))) ∧ σ' = σ)
  refine g_iload_n (q := 1) dX2_downBeyond_0 rfl rfl ?_
  refine z_iconst (q := 2) dX2_downBeyond_1 rfl ?_
  refine z_iadd (q := 3) dX2_downBeyond_2 rfl ?_
  refine g_istore (ml' := [some (.ref j), some (.int (iZ here)), some (.int (iZ mask)), some (.int (iZ up)), some (.int (iZ (up + 1))), none]) (q := 5) dX2_downBeyond_3 rfl (Nat.le_of_ble_eq_true rfl) rfl rfl ?_
  exact l_down w σ j T hJ wT here mask up bh bm bu (T 2 - (up + 1)).toNat (up + 1) (by omega) (by omega)
theorem l_tt (w : g_W) (σ : g_H0) (j : Nat) (T : Int → Int) (hJ : rJob j T σ) (wT : wfT T) (here mask : Int) (bh : 0 ≤ here ∧ here < T 2) (bm : 0 ≤ mask ∧ mask < 64) : ∀ (n : Nat) (up f : Int), 0 ≤ up → up + n = T 2 → (0 ≤ f ∧ f ≤ 6) → Go w mX2_turnsThrough (0, 0) 8 [some (.ref j), some (.int (iZ here)), some (.int (iZ mask)), some (.int (iZ f)), some (.int (iZ up)), none] [] σ (fun r σ' => r = some (.int (iZ (cTtF (T 2) here mask n up f))) ∧ σ' = σ) := by
  intro n
  induction n with
  | zero =>
    intro up f h0 h1 hf
    obtain ⟨bT, t0, t1, t2, t3, t4, tt, th, tap, tcl, tc2⟩ := id wT
    obtain ⟨j0, j1, ⟨jf, j2, j2'⟩, ⟨jg, j3, j3'⟩, ⟨jC, j4, j4'⟩, j5, j6⟩ := id hJ
    refine g_iload (q := 10) dX2_turnsThrough_8 rfl rfl ?_
    refine g_aload_n (q := 11) dX2_turnsThrough_10 rfl rfl ?_
    refine g_get (q := 14) flX2_37 dX2_turnsThrough_11 j0 rfl rfl ?_
    refine z_icmp_ge (t := 51) (q := 17) dX2_turnsThrough_14 rfl (by omega) rfl (fun pc1 => ?_) (fun pc1 => ?_)
    · refine g_iload_n (q := 52) dX2_turnsThrough_51 rfl rfl ?_
      refine z_iret dX2_turnsThrough_52 rfl ?_
      exact ⟨rfl, rfl⟩
    · exfalso
      omega
  | succ n ih =>
    intro up f h0 h1 hf
    obtain ⟨bT, t0, t1, t2, t3, t4, tt, th, tap, tcl, tc2⟩ := id wT
    obtain ⟨j0, j1, ⟨jf, j2, j2'⟩, ⟨jg, j3, j3'⟩, ⟨jC, j4, j4'⟩, j5, j6⟩ := id hJ
    refine g_iload (q := 10) dX2_turnsThrough_8 rfl rfl ?_
    refine g_aload_n (q := 11) dX2_turnsThrough_10 rfl rfl ?_
    refine g_get (q := 14) flX2_37 dX2_turnsThrough_11 j0 rfl rfl ?_
    refine z_icmp_ge (t := 51) (q := 17) dX2_turnsThrough_14 rfl (by omega) rfl (fun pc1 => ?_) (fun pc1 => ?_)
    · exfalso
      omega
    · refine g_aload_n (q := 18) dX2_turnsThrough_17 rfl rfl ?_
      refine g_iload_n (q := 19) dX2_turnsThrough_18 rfl rfl ?_
      refine g_iload_n (q := 20) dX2_turnsThrough_19 rfl rfl ?_
      refine g_iload (q := 22) dX2_turnsThrough_20 rfl rfl ?_
      refine g_callV (As := [.int (iZ here), .int (iZ mask), .int (iZ up)]) (rest := []) (q := 25) moX2_downBeyond lkX2_turnsThrough_100 dX2_turnsThrough_22 rfl j0 (r_down σ j T hJ wT here mask up bh bm (by omega)) rfl rfl (Nat.le_of_ble_eq_true rfl) (Nat.le_of_ble_eq_true rfl) (Nat.le_of_ble_eq_true rfl) rfl ?_
      rintro rQ sQ hpQ
      rw [hpQ.1, hpQ.2]
      show Go w mX2_turnsThrough (0, 0) 25 [some (.ref j), some (.int (iZ here)), some (.int (iZ mask)), some (.int (iZ f)), some (.int (iZ up)), none] [.int (iZ (cDb (T 2) here mask up))] σ (fun r σ' => r = some (.int (iZ (cTtF (T 2) here mask (n + 1) up f))) ∧ σ' = σ)
      have b2 := cDbF_b (n := T 2) (here := here) (mask := mask) (T 2 - (up + 1)).toNat (up + 1) (by omega) (by omega)
      obtain ⟨dd, hdd⟩ : ∃ x, x = cDb (T 2) here mask up := ⟨_, rfl⟩
      have bdd : 0 ≤ dd ∧ dd ≤ T 2 := by rw [hdd]; unfold cDb; omega
      rw [← hdd]
      show Go w mX2_turnsThrough (0, 0) 25 [some (.ref j), some (.int (iZ here)), some (.int (iZ mask)), some (.int (iZ f)), some (.int (iZ up)), none] [.int (iZ dd)] σ (fun r σ' => r = some (.int (iZ (cTtF (T 2) here mask (n + 1) up f))) ∧ σ' = σ)
      refine g_istore (ml' := [some (.ref j), some (.int (iZ here)), some (.int (iZ mask)), some (.int (iZ f)), some (.int (iZ up)), some (.int (iZ dd))]) (q := 27) dX2_turnsThrough_25 rfl (Nat.le_of_ble_eq_true rfl) rfl rfl ?_
      refine g_iload_n (q := 28) dX2_turnsThrough_27 rfl rfl ?_
      refine g_iload (q := 30) dX2_turnsThrough_28 rfl rfl ?_
      refine g_iload (q := 32) dX2_turnsThrough_30 rfl rfl ?_
      refine z_iadd (q := 33) dX2_turnsThrough_32 rfl ?_
      refine g_iload (q := 35) dX2_turnsThrough_33 rfl rfl ?_
      refine g_iload (q := 37) dX2_turnsThrough_35 rfl rfl ?_
      refine z_min (q := 40) lkX2_turnsThrough_96.1 dX2_turnsThrough_37 (by omega) (Nat.le_of_ble_eq_true rfl) (Nat.le_of_ble_eq_true rfl) (Nat.le_of_ble_eq_true rfl) (Nat.le_of_ble_eq_true rfl) (Nat.le_of_ble_eq_true rfl) rfl ?_
      have b3 := zmin_c up dd
      refine z_iaddc (c := (up + dd + (zmin up dd))) (q := 41) dX2_turnsThrough_40 (by omega) rfl ?_
      refine z_min (q := 44) lkX2_turnsThrough_96.1 dX2_turnsThrough_41 (by omega) (Nat.le_of_ble_eq_true rfl) (Nat.le_of_ble_eq_true rfl) (Nat.le_of_ble_eq_true rfl) (Nat.le_of_ble_eq_true rfl) (Nat.le_of_ble_eq_true rfl) rfl ?_
      have b4 := zmin_c f (up + dd + (zmin up dd))
      refine g_istore_n (ml' := [some (.ref j), some (.int (iZ here)), some (.int (iZ mask)), some (.int (iZ (zmin f (up + dd + (zmin up dd))))), some (.int (iZ up)), some (.int (iZ dd))]) (q := 45) dX2_turnsThrough_44 rfl (Nat.le_of_ble_eq_true rfl) rfl rfl ?_
      refine z_iincc (c := (up + 1)) (ml' := [some (.ref j), some (.int (iZ here)), some (.int (iZ mask)), some (.int (iZ (zmin f (up + dd + (zmin up dd))))), some (.int (iZ (up + 1))), some (.int (iZ dd))]) (q := 48) dX2_turnsThrough_45 rfl (by omega) rfl rfl rfl ?_
      refine g_goto (q := 8) dX2_turnsThrough_48 rfl ?_
      refine Go.wk (ml' := [some (.ref j), some (.int (iZ here)), some (.int (iZ mask)), some (.int (iZ (zmin f (up + dd + (zmin up dd))))), some (.int (iZ (up + 1))), none]) ⟨Or.inr rfl, Or.inr rfl, Or.inr rfl, Or.inr rfl, Or.inr rfl, Or.inl rfl, trivial⟩ ?_
      refine (ih (up + 1) (zmin f (up + dd + (zmin up dd))) (by omega) (by omega) (by omega)).mono (fun r σ1 hp => ⟨hp.1.trans (congrArg (fun z => some (Value.int (iZ z))) ?_), hp.2⟩)
      conv => rhs; unfold cTtF; rw [← hdd]
theorem r_turnsThrough (σ : g_H0) (j : Nat) (T : Int → Int) (hJ : rJob j T σ) (wT : wfT T) (here mask : Int) (bh : 0 ≤ here ∧ here < T 2) (bm : 0 ≤ mask ∧ mask < 64) : Ret mX2_turnsThrough [.ref j, .int (iZ here), .int (iZ mask)] σ (fun r σ' => r = some (.int (iZ (cTt (T 2) here mask))) ∧ σ' = σ) := by
  refine Ret.of moX2_turnsThrough.1 (Nat.le_of_ble_eq_true rfl) (fun w => ?_)
  obtain ⟨bT, t0, t1, t2, t3, t4, tt, th, tap, tcl, tc2⟩ := id wT
  obtain ⟨j0, j1, ⟨jf, j2, j2'⟩, ⟨jg, j3, j3'⟩, ⟨jC, j4, j4'⟩, j5, j6⟩ := id hJ
  show Go w mX2_turnsThrough (0, 0) 0 [some (.ref j), some (.int (iZ here)), some (.int (iZ mask)), none, none, none] [] σ (fun r σ' => r = some (.int (iZ (cTt (T 2) here mask))) ∧ σ' = σ)
  refine g_aload_n (q := 1) dX2_turnsThrough_0 rfl rfl ?_
  refine g_get (q := 4) flX2_37 dX2_turnsThrough_1 j0 rfl rfl ?_
  refine g_istore_n (ml' := [some (.ref j), some (.int (iZ here)), some (.int (iZ mask)), some (.int (iZ (T 2))), none, none]) (q := 5) dX2_turnsThrough_4 rfl (Nat.le_of_ble_eq_true rfl) rfl rfl ?_
  refine z_iconst (q := 6) dX2_turnsThrough_5 rfl ?_
  refine g_istore (ml' := [some (.ref j), some (.int (iZ here)), some (.int (iZ mask)), some (.int (iZ (T 2))), some (.int (iZ 0)), none]) (q := 8) dX2_turnsThrough_6 rfl (Nat.le_of_ble_eq_true rfl) rfl rfl ?_
  exact l_tt w σ j T hJ wT here mask bh bm (T 2).toNat 0 (T 2) (by omega) (by omega) (by omega)
def tfF (Fe Wy : Int → Int) (k mask : Int) : Nat → Int → Int × Int → Int × Int
  | 0, _, r => r
  | m + 1, s, r => tfF Fe Wy k mask m (s + 1) (if bt mask s ≠ 0 ∧ Fe (6 * k + s) ≠ 0 ∧ (r.1 = 0 ∨ Fe (6 * k + s) < r.1) then (Fe (6 * k + s), Wy (6 * k + s)) else r)
def tfQ (Fe Wy : Int → Int) (n k mask : Int) : Int × Int := tfF Fe Wy k mask n.toNat 0 (0, -4)
theorem l_tff (w : g_W) (σ0 : g_H0) (a : Nat) (Fe Wy Tr Be : Int → Int) (tH bh bt_ fo n k mask : Int) (bn : 1 ≤ n ∧ n ≤ 6) (bk : 0 ≤ k ∧ k < 5) (bm : 0 ≤ mask ∧ mask < 64) (bF : ∀ s, 0 ≤ s → s < n → 0 ≤ Fe (6 * k + s) ∧ Fe (6 * k + s) ≤ 1000) (R : Int × Int) : ∀ (m : Nat) (s h v : Int) (σ : g_H0), 0 ≤ s → s + m = n → (0 ≤ h ∧ h ≤ 1000) → tfF Fe Wy k mask m s (h, v) = R → rPl a Fe Wy (zup Tr k v) Be tH bh bt_ fo σ → g_Fr (pP a) σ0 σ → Go w mX3_takeFirstFewest (0, 0) 6 [some (.ref a), some (.int (iZ k)), some (.int (iZ n)), some (.int (iZ mask)), some (.int (iZ h)), some (.int (iZ s)), none] [] σ (fun r σ' => r = some (.int (iZ R.1)) ∧ rPl a Fe Wy (zup Tr k R.2) Be tH bh bt_ fo σ' ∧ g_Fr (pP a) σ0 σ') := by
  intro m
  induction m with
  | zero =>
    intro s h v σ s0 s1 bh_ hR hPl hF
    obtain ⟨p0, p1, p2, p3, p4⟩ := id hPl
    refine g_iload (q := 8) dX3_takeFirstFewest_6 rfl rfl ?_
    refine g_iload_n (q := 9) dX3_takeFirstFewest_8 rfl rfl ?_
    refine z_icmp_ge (t := 80) (q := 12) dX3_takeFirstFewest_9 rfl (by omega) rfl (fun pc1 => ?_) (fun pc1 => ?_)
    · refine g_iload (q := 82) dX3_takeFirstFewest_80 rfl rfl ?_
      refine z_iret dX3_takeFirstFewest_82 rfl ?_
      rw [← hR]
      exact ⟨rfl, hPl, hF⟩
    · exfalso
      omega
  | succ m ih =>
    intro s h v σ s0 s1 bh_ hR hPl hF
    obtain ⟨p0, p1, p2, p3, p4⟩ := id hPl
    refine g_iload (q := 8) dX3_takeFirstFewest_6 rfl rfl ?_
    refine g_iload_n (q := 9) dX3_takeFirstFewest_8 rfl rfl ?_
    refine z_icmp_ge (t := 80) (q := 12) dX3_takeFirstFewest_9 rfl (by omega) rfl (fun pc1 => ?_) (fun pc1 => ?_)
    · exfalso
      omega
    · refine g_aload_n (q := 13) dX3_takeFirstFewest_12 rfl rfl ?_
      refine g_get (q := 16) flX3_9 dX3_takeFirstFewest_13 p0 rfl rfl ?_
      refine g_iload_n (q := 17) dX3_takeFirstFewest_16 rfl rfl ?_
      refine g_bipush (v := iZ 6) (q := 19) dX3_takeFirstFewest_17 (by decide) rfl ?_
      refine z_imulc (c := (6 * k)) (q := 20) dX3_takeFirstFewest_19 (by omega) rfl ?_
      refine g_iload (q := 22) dX3_takeFirstFewest_20 rfl rfl ?_
      refine z_iaddc (c := (6 * k + s)) (q := 23) dX3_takeFirstFewest_22 (by omega) rfl ?_
      refine z_iald (q := 24) dX3_takeFirstFewest_23 p1 (by omega) rfl ?_
      have bFs := bF s (by omega) (by omega)
      refine g_istore (ml' := [some (.ref a), some (.int (iZ k)), some (.int (iZ n)), some (.int (iZ mask)), some (.int (iZ h)), some (.int (iZ s)), some (.int (iZ (Fe (6 * k + s))))]) (q := 26) dX3_takeFirstFewest_24 rfl (Nat.le_of_ble_eq_true rfl) rfl rfl ?_
      refine g_iload_n (q := 27) dX3_takeFirstFewest_26 rfl rfl ?_
      refine z_iconst (q := 28) dX3_takeFirstFewest_27 rfl ?_
      refine g_iload (q := 30) dX3_takeFirstFewest_28 rfl rfl ?_
      refine g_ishl (q := 31) dX3_takeFirstFewest_30 rfl ?_
      have hc2 := bw_cell (c := mask) (x := s) (by omega) (by omega)
      have b3 := bt_01 mask s
      refine g_iand (q := 32) dX3_takeFirstFewest_31 rfl ?_
      rw [show iZ mask &&& (iZ 1 <<< (iZ s &&& 31)) = iZ (bt mask s * pw s) from hc2.1]
      refine z_if_eq (t := 74) (q := 35) dX3_takeFirstFewest_32 rfl (by omega) rfl (fun pc4 => ?_) (fun pc4 => ?_)
      · refine z_iincc (c := (s + 1)) (ml' := [some (.ref a), some (.int (iZ k)), some (.int (iZ n)), some (.int (iZ mask)), some (.int (iZ h)), some (.int (iZ (s + 1))), some (.int (iZ (Fe (6 * k + s))))]) (q := 77) dX3_takeFirstFewest_74 rfl (by omega) rfl rfl rfl ?_
        refine g_goto (q := 6) dX3_takeFirstFewest_77 rfl ?_
        refine Go.wk (ml' := [some (.ref a), some (.int (iZ k)), some (.int (iZ n)), some (.int (iZ mask)), some (.int (iZ h)), some (.int (iZ (s + 1))), none]) ⟨Or.inr rfl, Or.inr rfl, Or.inr rfl, Or.inr rfl, Or.inr rfl, Or.inr rfl, Or.inl rfl, trivial⟩ ?_
        refine ih (s + 1) h v σ (by omega) (by omega) (by omega) ?_ hPl hF
        rw [← hR]; conv => rhs; unfold tfF
        rw [if_neg (by intro q; obtain ⟨q1, q2, q3⟩ := q; dsimp only at q3; omega)]
      · refine g_iload (q := 37) dX3_takeFirstFewest_35 rfl rfl ?_
        refine z_if_eq (t := 74) (q := 40) dX3_takeFirstFewest_37 rfl (by omega) rfl (fun pc5 => ?_) (fun pc5 => ?_)
        · refine z_iincc (c := (s + 1)) (ml' := [some (.ref a), some (.int (iZ k)), some (.int (iZ n)), some (.int (iZ mask)), some (.int (iZ h)), some (.int (iZ (s + 1))), some (.int (iZ (Fe (6 * k + s))))]) (q := 77) dX3_takeFirstFewest_74 rfl (by omega) rfl rfl rfl ?_
          refine g_goto (q := 6) dX3_takeFirstFewest_77 rfl ?_
          refine Go.wk (ml' := [some (.ref a), some (.int (iZ k)), some (.int (iZ n)), some (.int (iZ mask)), some (.int (iZ h)), some (.int (iZ (s + 1))), none]) ⟨Or.inr rfl, Or.inr rfl, Or.inr rfl, Or.inr rfl, Or.inr rfl, Or.inr rfl, Or.inl rfl, trivial⟩ ?_
          refine ih (s + 1) h v σ (by omega) (by omega) (by omega) ?_ hPl hF
          rw [← hR]; conv => rhs; unfold tfF
          rw [if_neg (by intro q; obtain ⟨q1, q2, q3⟩ := q; dsimp only at q3; omega)]
        · refine g_iload (q := 42) dX3_takeFirstFewest_40 rfl rfl ?_
          refine z_if_eq (t := 52) (q := 45) dX3_takeFirstFewest_42 rfl (by omega) rfl (fun pc6 => ?_) (fun pc6 => ?_)
          · refine g_iload (q := 54) dX3_takeFirstFewest_52 rfl rfl ?_
            refine g_istore (ml' := [some (.ref a), some (.int (iZ k)), some (.int (iZ n)), some (.int (iZ mask)), some (.int (iZ (Fe (6 * k + s)))), some (.int (iZ s)), some (.int (iZ (Fe (6 * k + s))))]) (q := 56) dX3_takeFirstFewest_54 rfl (Nat.le_of_ble_eq_true rfl) rfl rfl ?_
            refine g_aload_n (q := 57) dX3_takeFirstFewest_56 rfl rfl ?_
            refine g_get (q := 60) flX3_18 dX3_takeFirstFewest_57 p0 rfl rfl ?_
            refine g_iload_n (q := 61) dX3_takeFirstFewest_60 rfl rfl ?_
            refine g_aload_n (q := 62) dX3_takeFirstFewest_61 rfl rfl ?_
            refine g_get (q := 65) flX3_15 dX3_takeFirstFewest_62 p0 rfl rfl ?_
            refine g_iload_n (q := 66) dX3_takeFirstFewest_65 rfl rfl ?_
            refine g_bipush (v := iZ 6) (q := 68) dX3_takeFirstFewest_66 (by decide) rfl ?_
            refine z_imulc (c := (6 * k)) (q := 69) dX3_takeFirstFewest_68 (by omega) rfl ?_
            refine g_iload (q := 71) dX3_takeFirstFewest_69 rfl rfl ?_
            refine z_iaddc (c := (6 * k + s)) (q := 72) dX3_takeFirstFewest_71 (by omega) rfl ?_
            refine z_iald (q := 73) dX3_takeFirstFewest_72 p2 (by omega) rfl ?_
            refine z_iast (q := 74) dX3_takeFirstFewest_73 p3 (by omega) rfl (fun σ7 c8 f9 => ?_)
            have c10 := (f9.2 a (by omega)).trans p0
            have c11 := (f9.2 (a + 1) (by omega)).trans p1
            have c12 := (f9.2 (a + 2) (by omega)).trans p2
            have c13 := (f9.2 (a + 4) (by omega)).trans p4
            refine z_iincc (c := (s + 1)) (ml' := [some (.ref a), some (.int (iZ k)), some (.int (iZ n)), some (.int (iZ mask)), some (.int (iZ (Fe (6 * k + s)))), some (.int (iZ (s + 1))), some (.int (iZ (Fe (6 * k + s))))]) (q := 77) dX3_takeFirstFewest_74 rfl (by omega) rfl rfl rfl ?_
            refine g_goto (q := 6) dX3_takeFirstFewest_77 rfl ?_
            refine Go.wk (ml' := [some (.ref a), some (.int (iZ k)), some (.int (iZ n)), some (.int (iZ mask)), some (.int (iZ (Fe (6 * k + s)))), some (.int (iZ (s + 1))), none]) ⟨Or.inr rfl, Or.inr rfl, Or.inr rfl, Or.inr rfl, Or.inr rfl, Or.inr rfl, Or.inl rfl, trivial⟩ ?_
            refine ih (s + 1) (Fe (6 * k + s)) (Wy (6 * k + s)) σ7 (by omega) (by omega) (by omega) ?_ (by have q := (⟨c10, c11, c12, c8, c13⟩ : rPl a Fe Wy (zup (zup Tr k v) k (Wy (6 * k + s))) Be tH bh bt_ fo σ7); rw [zup_zup] at q; exact q) (hF.tr (f9.wk (fun k e => ⟨by omega, by omega⟩)))
            rw [← hR]; conv => rhs; unfold tfF
            rw [if_pos (by refine ⟨?_, ?_, ?_⟩ <;> (try dsimp only) <;> omega)]
          · refine g_iload (q := 47) dX3_takeFirstFewest_45 rfl rfl ?_
            refine g_iload (q := 49) dX3_takeFirstFewest_47 rfl rfl ?_
            refine z_icmp_ge (t := 74) (q := 52) dX3_takeFirstFewest_49 rfl (by omega) rfl (fun pc14 => ?_) (fun pc14 => ?_)
            · refine z_iincc (c := (s + 1)) (ml' := [some (.ref a), some (.int (iZ k)), some (.int (iZ n)), some (.int (iZ mask)), some (.int (iZ h)), some (.int (iZ (s + 1))), some (.int (iZ (Fe (6 * k + s))))]) (q := 77) dX3_takeFirstFewest_74 rfl (by omega) rfl rfl rfl ?_
              refine g_goto (q := 6) dX3_takeFirstFewest_77 rfl ?_
              refine Go.wk (ml' := [some (.ref a), some (.int (iZ k)), some (.int (iZ n)), some (.int (iZ mask)), some (.int (iZ h)), some (.int (iZ (s + 1))), none]) ⟨Or.inr rfl, Or.inr rfl, Or.inr rfl, Or.inr rfl, Or.inr rfl, Or.inr rfl, Or.inl rfl, trivial⟩ ?_
              refine ih (s + 1) h v σ (by omega) (by omega) (by omega) ?_ hPl hF
              rw [← hR]; conv => rhs; unfold tfF
              rw [if_neg (by intro q; obtain ⟨q1, q2, q3⟩ := q; dsimp only at q3; omega)]
            · refine g_iload (q := 54) dX3_takeFirstFewest_52 rfl rfl ?_
              refine g_istore (ml' := [some (.ref a), some (.int (iZ k)), some (.int (iZ n)), some (.int (iZ mask)), some (.int (iZ (Fe (6 * k + s)))), some (.int (iZ s)), some (.int (iZ (Fe (6 * k + s))))]) (q := 56) dX3_takeFirstFewest_54 rfl (Nat.le_of_ble_eq_true rfl) rfl rfl ?_
              refine g_aload_n (q := 57) dX3_takeFirstFewest_56 rfl rfl ?_
              refine g_get (q := 60) flX3_18 dX3_takeFirstFewest_57 p0 rfl rfl ?_
              refine g_iload_n (q := 61) dX3_takeFirstFewest_60 rfl rfl ?_
              refine g_aload_n (q := 62) dX3_takeFirstFewest_61 rfl rfl ?_
              refine g_get (q := 65) flX3_15 dX3_takeFirstFewest_62 p0 rfl rfl ?_
              refine g_iload_n (q := 66) dX3_takeFirstFewest_65 rfl rfl ?_
              refine g_bipush (v := iZ 6) (q := 68) dX3_takeFirstFewest_66 (by decide) rfl ?_
              refine z_imulc (c := (6 * k)) (q := 69) dX3_takeFirstFewest_68 (by omega) rfl ?_
              refine g_iload (q := 71) dX3_takeFirstFewest_69 rfl rfl ?_
              refine z_iaddc (c := (6 * k + s)) (q := 72) dX3_takeFirstFewest_71 (by omega) rfl ?_
              refine z_iald (q := 73) dX3_takeFirstFewest_72 p2 (by omega) rfl ?_
              refine z_iast (q := 74) dX3_takeFirstFewest_73 p3 (by omega) rfl (fun σ15 c16 f17 => ?_)
              have c18 := (f17.2 a (by omega)).trans p0
              have c19 := (f17.2 (a + 1) (by omega)).trans p1
              have c20 := (f17.2 (a + 2) (by omega)).trans p2
              have c21 := (f17.2 (a + 4) (by omega)).trans p4
              refine z_iincc (c := (s + 1)) (ml' := [some (.ref a), some (.int (iZ k)), some (.int (iZ n)), some (.int (iZ mask)), some (.int (iZ (Fe (6 * k + s)))), some (.int (iZ (s + 1))), some (.int (iZ (Fe (6 * k + s))))]) (q := 77) dX3_takeFirstFewest_74 rfl (by omega) rfl rfl rfl ?_
              refine g_goto (q := 6) dX3_takeFirstFewest_77 rfl ?_
              refine Go.wk (ml' := [some (.ref a), some (.int (iZ k)), some (.int (iZ n)), some (.int (iZ mask)), some (.int (iZ (Fe (6 * k + s)))), some (.int (iZ (s + 1))), none]) ⟨Or.inr rfl, Or.inr rfl, Or.inr rfl, Or.inr rfl, Or.inr rfl, Or.inr rfl, Or.inl rfl, trivial⟩ ?_
              refine ih (s + 1) (Fe (6 * k + s)) (Wy (6 * k + s)) σ15 (by omega) (by omega) (by omega) ?_ (by have q := (⟨c18, c19, c20, c16, c21⟩ : rPl a Fe Wy (zup (zup Tr k v) k (Wy (6 * k + s))) Be tH bh bt_ fo σ15); rw [zup_zup] at q; exact q) (hF.tr (f17.wk (fun k e => ⟨by omega, by omega⟩)))
              rw [← hR]; conv => rhs; unfold tfF
              rw [if_pos (by refine ⟨?_, ?_, ?_⟩ <;> (try dsimp only) <;> omega)]
theorem r_tff (σ : g_H0) (a : Nat) (Fe Wy Tr Be : Int → Int) (tH bh bt_ fo n k mask : Int) (bn : 1 ≤ n ∧ n ≤ 6) (bk : 0 ≤ k ∧ k < 5) (bm : 0 ≤ mask ∧ mask < 64) (bF : ∀ s, 0 ≤ s → s < n → 0 ≤ Fe (6 * k + s) ∧ Fe (6 * k + s) ≤ 1000) (hPl : rPl a Fe Wy Tr Be tH bh bt_ fo σ) (h4 : Tr k = -4) : Ret mX3_takeFirstFewest [.ref a, .int (iZ k), .int (iZ n), .int (iZ mask)] σ (fun r σ' => r = some (.int (iZ (tfQ Fe Wy n k mask).1)) ∧ rPl a Fe Wy (zup Tr k (tfQ Fe Wy n k mask).2) Be tH bh bt_ fo σ' ∧ g_Fr (pP a) σ σ') := by
  refine Ret.of moX3_takeFirstFewest.1 (Nat.le_of_ble_eq_true rfl) (fun w => ?_)
  obtain ⟨p0, p1, p2, p3, p4⟩ := id hPl
  show Go w mX3_takeFirstFewest (0, 0) 0 [some (.ref a), some (.int (iZ k)), some (.int (iZ n)), some (.int (iZ mask)), none, none, none] [] σ (fun r σ' => r = some (.int (iZ (tfQ Fe Wy n k mask).1)) ∧ rPl a Fe Wy (zup Tr k (tfQ Fe Wy n k mask).2) Be tH bh bt_ fo σ' ∧ g_Fr (pP a) σ σ')
  refine z_iconst (q := 1) dX3_takeFirstFewest_0 rfl ?_
  refine g_istore (ml' := [some (.ref a), some (.int (iZ k)), some (.int (iZ n)), some (.int (iZ mask)), some (.int (iZ 0)), none, none]) (q := 3) dX3_takeFirstFewest_1 rfl (Nat.le_of_ble_eq_true rfl) rfl rfl ?_
  refine z_iconst (q := 4) dX3_takeFirstFewest_3 rfl ?_
  refine g_istore (ml' := [some (.ref a), some (.int (iZ k)), some (.int (iZ n)), some (.int (iZ mask)), some (.int (iZ 0)), some (.int (iZ 0)), none]) (q := 6) dX3_takeFirstFewest_4 rfl (Nat.le_of_ble_eq_true rfl) rfl rfl ?_
  exact l_tff w σ a Fe Wy Tr Be tH bh bt_ fo n k mask bn bk bm bF _ n.toNat 0 0 (-4) σ (by omega) (by omega) (by omega) rfl (by rw [← h4, zup_id]; exact hPl) g_Fr.rf
theorem tfF_b {Fe Wy : Int → Int} {k mask n : Int} (bF : ∀ s, 0 ≤ s → s < n → 0 ≤ Fe (6 * k + s) ∧ Fe (6 * k + s) ≤ 1000) : ∀ (m : Nat) (s : Int) (r : Int × Int), 0 ≤ s → s + m ≤ n → (0 ≤ r.1 ∧ r.1 ≤ 1000) → 0 ≤ (tfF Fe Wy k mask m s r).1 ∧ (tfF Fe Wy k mask m s r).1 ≤ 1000
  | 0, s, r, _, _, h => h
  | m + 1, s, r, h0, h1, h => by
    unfold tfF
    refine tfF_b bF m (s + 1) _ (by omega) (by omega) ?_
    split
    · exact bF s h0 (by omega)
    · exact h
theorem tfQ_b {Fe Wy : Int → Int} {k mask n : Int} (hn : 0 ≤ n) (bF : ∀ s, 0 ≤ s → s < n → 0 ≤ Fe (6 * k + s) ∧ Fe (6 * k + s) ≤ 1000) : 0 ≤ (tfQ Fe Wy n k mask).1 ∧ (tfQ Fe Wy n k mask).1 ≤ 1000 := tfF_b bF _ _ _ (by omega) (by omega) (by show (0 : Int) ≤ 0 ∧ (0 : Int) ≤ 1000; omega)
/-- the HOLES from k on, by the STATIONS of the mask -/
def tsF (T S Fe Wy : Int → Int) (mask : Int) : Nat → Int → Int → (Int → Int) → Int × Int × (Int → Int)
  | 0, _, th, Tr => (1, th, Tr)
  | m + 1, k, th, Tr => if cOpen T S k = 0 then tsF T S Fe Wy mask m (k + 1) th (zup Tr k (-4)) else if (tfQ Fe Wy (T 2) k mask).1 = 0 then (0, th, zup (zup Tr k (-4)) k (tfQ Fe Wy (T 2) k mask).2) else tsF T S Fe Wy mask m (k + 1) (th + (tfQ Fe Wy (T 2) k mask).1) (zup (zup Tr k (-4)) k (tfQ Fe Wy (T 2) k mask).2)
def tsQ (T S Fe Wy : Int → Int) (mask : Int) (Tr : Int → Int) : Int × Int × (Int → Int) := tsF T S Fe Wy mask (T 3).toNat 0 0 Tr
theorem l_ts (w : g_W) (σ0 : g_H0) (a b j : Nat) (hd : b + 4 ≤ a) (hd2 : a + 5 ≤ j) (T S : Int → Int) (wT : wfT T) (wS : wfS T S) (Fe Wy Be : Int → Int) (bh bt_ fo mask : Int) (bm : 0 ≤ mask ∧ mask < 64) (bF : ∀ k s, 0 ≤ k → k < T 3 → 0 ≤ s → s < T 2 → 0 ≤ Fe (6 * k + s) ∧ Fe (6 * k + s) ≤ 1000) (Q : Int × Int × (Int → Int)) : ∀ (m : Nat) (k tH : Int) (Tr : Int → Int) (σ : g_H0), 0 ≤ k → k + m = T 3 → tsF T S Fe Wy mask m k tH Tr = Q → rPl a Fe Wy Tr Be tH bh bt_ fo σ → rJob j T σ → rSt b T S σ → g_Fr (pP a) σ0 σ → Go w mX3_triesSet (0, 0) 8 [some (.ref a), some (.ref j), some (.ref b), some (.int (iZ mask)), some (.int (iZ k)), none] [] σ (fun r σ' => r = some (.int (iZ Q.1)) ∧ rPl a Fe Wy Q.2.2 Be Q.2.1 bh bt_ fo σ' ∧ g_Fr (pP a) σ0 σ') := by
  intro m
  induction m with
  | zero =>
    intro k tH Tr σ k0 k1 hQ hPl hJ hS hF
    obtain ⟨p0, p1, p2, p3, p4⟩ := id hPl
    obtain ⟨bT, t0, t1, t2, t3, t4, tt, th, tap, tcl, tc2⟩ := id wT
    obtain ⟨j0, j1, ⟨jf, j2, j2'⟩, ⟨jg, j3, j3'⟩, ⟨jC, j4, j4'⟩, j5, j6⟩ := id hJ
    refine g_iload (q := 10) dX3_triesSet_8 rfl rfl ?_
    refine g_aload_n (q := 11) dX3_triesSet_10 rfl rfl ?_
    refine g_get (q := 14) flX3_51 dX3_triesSet_11 j0 rfl rfl ?_
    refine z_icmp_ge (t := 80) (q := 17) dX3_triesSet_14 rfl (by omega) rfl (fun pc1 => ?_) (fun pc1 => ?_)
    · refine z_iconst (q := 81) dX3_triesSet_80 rfl ?_
      refine z_zret dX3_triesSet_81 rfl rfl ?_
      rw [← hQ]
      exact ⟨rfl, hPl, hF⟩
    · exfalso
      omega
  | succ m ih =>
    intro k tH Tr σ k0 k1 hQ hPl hJ hS hF
    obtain ⟨p0, p1, p2, p3, p4⟩ := id hPl
    obtain ⟨bT, t0, t1, t2, t3, t4, tt, th, tap, tcl, tc2⟩ := id wT
    obtain ⟨j0, j1, ⟨jf, j2, j2'⟩, ⟨jg, j3, j3'⟩, ⟨jC, j4, j4'⟩, j5, j6⟩ := id hJ
    refine g_iload (q := 10) dX3_triesSet_8 rfl rfl ?_
    refine g_aload_n (q := 11) dX3_triesSet_10 rfl rfl ?_
    refine g_get (q := 14) flX3_51 dX3_triesSet_11 j0 rfl rfl ?_
    refine z_icmp_ge (t := 80) (q := 17) dX3_triesSet_14 rfl (by omega) rfl (fun pc1 => ?_) (fun pc1 => ?_)
    · exfalso
      omega
    · refine g_aload_n (q := 18) dX3_triesSet_17 rfl rfl ?_
      refine g_get (q := 21) flX3_18 dX3_triesSet_18 p0 rfl rfl ?_
      refine g_iload (q := 23) dX3_triesSet_21 rfl rfl ?_
      refine g_bipush (v := iZ (-4)) (q := 25) dX3_triesSet_23 (by decide) rfl ?_
      refine z_iast (q := 26) dX3_triesSet_25 p3 (by omega) rfl (fun σ2 c3 f4 => ?_)
      have c5 := (f4.2 a (by omega)).trans p0
      have c6 := (f4.2 (a + 1) (by omega)).trans p1
      have c7 := (f4.2 (a + 2) (by omega)).trans p2
      have c8 := (f4.2 (a + 4) (by omega)).trans p4
      have c9 := (f4.2 j (by omega)).trans j0
      have c10 := (f4.2 (j + 3) (by omega)).trans j3
      have hJ11 : rJob j T σ2 := hJ.fr (fun k k0 k1 => f4.2 k (by omega))
      have hS12 : rSt b T S σ2 := hS.fr (fun k k0 k1 => f4.2 k (by omega))
      refine g_aload_n (q := 27) dX3_triesSet_26 rfl rfl ?_
      refine g_aload_n (q := 28) dX3_triesSet_27 rfl rfl ?_
      refine g_get (q := 31) flX3_66 dX3_triesSet_28 c9 rfl rfl ?_
      refine g_iload (q := 33) dX3_triesSet_31 rfl rfl ?_
      obtain ⟨f13, e13, g13, k13⟩ := hJ11.hole (s := k) (by omega) (by omega) (by omega)
      have k13 : σ2[(j + 11 + k.toNat)]? = some (.inr (0, [.int (iZ (T (4 * k + 29))), .int (iZ (T (4 * k + 30))), .int (iZ (T (4 * k + 31))), .int (iZ (T (4 * k + 32)))])) := k13
      have q13 := th k (by omega) (by omega)
      refine z_aald (b := (j + 11 + k.toNat)) (q := 34) dX3_triesSet_33 rfl e13 (by omega) g13 rfl ?_
      refine g_callV (As := [.ref (j + 11 + k.toNat)]) (rest := []) (q := 37) moX5_isCut lkX3_triesSet_83 dX3_triesSet_34 rfl hS12.1 (r_isCut σ2 b T S hS12 wT wS (j + 11 + k.toNat) (T (4 * k + 29)) (T (4 * k + 30)) (T (4 * k + 31)) (T (4 * k + 32)) k13 (by omega) (by omega)) rfl rfl (Nat.le_of_ble_eq_true rfl) (Nat.le_of_ble_eq_true rfl) (Nat.le_of_ble_eq_true rfl) rfl ?_
      rintro rQ sQ hpQ
      rw [hpQ.1, hpQ.2]
      show Go w mX3_triesSet (0, 0) 37 [some (.ref a), some (.ref j), some (.ref b), some (.int (iZ mask)), some (.int (iZ k)), none] [.int (bI (cUn S (T (4 * k + 29)) (T (4 * k + 30)) (T (4 * k + 31)) (T (4 * k + 32)) = 0))] σ2 (fun r σ' => r = some (.int (iZ Q.1)) ∧ rPl a Fe Wy Q.2.2 Be Q.2.1 bh bt_ fo σ' ∧ g_Fr (pP a) σ0 σ')
      refine z_ifB_eq (t := 43) (q := 40) dX3_triesSet_37 rfl rfl (fun pc14 => ?_) (fun pc14 => ?_)
      · refine g_aload_n (q := 44) dX3_triesSet_43 rfl rfl ?_
        refine g_iload (q := 46) dX3_triesSet_44 rfl rfl ?_
        refine g_aload_n (q := 47) dX3_triesSet_46 rfl rfl ?_
        refine g_get (q := 50) flX3_32 dX3_triesSet_47 c9 rfl rfl ?_
        refine g_iload_n (q := 51) dX3_triesSet_50 rfl rfl ?_
        have hPk : rPl a Fe Wy (zup Tr k (-4)) Be tH bh bt_ fo σ2 := ⟨c5, c6, c7, c3, c8⟩
        have bq := tfQ_b (Wy := Wy) (mask := mask) (n := T 2) (k := k) (by omega) (fun s s0 s1 => bF k s (by omega) (by omega) s0 s1)
        refine g_callV (As := [.int (iZ k), .int (iZ (T 2)), .int (iZ mask)]) (rest := []) (q := 54) moX3_takeFirstFewest lkX3_triesSet_87 dX3_triesSet_51 rfl c5 (r_tff σ2 a Fe Wy (zup Tr k (-4)) Be tH bh bt_ fo (T 2) k mask (by omega) (by omega) bm (fun s s0 s1 => bF k s (by omega) (by omega) s0 s1) hPk (zup_self _ _ _)) rfl rfl (Nat.le_of_ble_eq_true rfl) (Nat.le_of_ble_eq_true rfl) (Nat.le_of_ble_eq_true rfl) rfl ?_
        rintro rt σt ⟨hrt, hPt, hFt⟩
        subst hrt
        obtain ⟨t_0, t_1, t_2, t_3, t_4⟩ := id hPt
        have hJ15 : rJob j T σt := hJ11.fr (fun k k0 k1 => hFt.2 k (fun e => by have := e.1; have := e.2; omega))
        have hS16 : rSt b T S σt := hS12.fr (fun k k0 k1 => hFt.2 k (fun e => by have := e.1; have := e.2; omega))
        show Go w mX3_triesSet (0, 0) 54 [some (.ref a), some (.ref j), some (.ref b), some (.int (iZ mask)), some (.int (iZ k)), none] [.int (iZ ((tfQ Fe Wy (T 2) k mask).1))] σt (fun r σ' => r = some (.int (iZ Q.1)) ∧ rPl a Fe Wy Q.2.2 Be Q.2.1 bh bt_ fo σ' ∧ g_Fr (pP a) σ0 σ')
        refine g_istore (ml' := [some (.ref a), some (.ref j), some (.ref b), some (.int (iZ mask)), some (.int (iZ k)), some (.int (iZ ((tfQ Fe Wy (T 2) k mask).1)))]) (q := 56) dX3_triesSet_54 rfl (Nat.le_of_ble_eq_true rfl) rfl rfl ?_
        refine g_iload (q := 58) dX3_triesSet_56 rfl rfl ?_
        refine z_if_ne (t := 63) (q := 61) dX3_triesSet_58 rfl (by omega) rfl (fun pc17 => ?_) (fun pc17 => ?_)
        · refine g_aload_n (q := 64) dX3_triesSet_63 rfl rfl ?_
          refine g_dup (q := 65) dX3_triesSet_64 rfl rfl ?_
          refine g_get (q := 68) flX3_80 dX3_triesSet_65 t_0 rfl rfl ?_
          refine g_iload (q := 70) dX3_triesSet_68 rfl rfl ?_
          refine z_iadd (q := 71) dX3_triesSet_70 rfl ?_
          refine z_put (fs' := [.ref (a + 1), .ref (a + 2), .ref (a + 3), .int (iZ (tH + (tfQ Fe Wy (T 2) k mask).1)), .ref (a + 4), .int (iZ bh), .int (iZ bt_), .int (iZ fo)]) (q := 74) fpX3_80 dX3_triesSet_71 t_0 (Nat.le_of_ble_eq_true rfl) rfl rfl rfl rfl (fun σ18 c19 f20 => ?_)
          have c21 := (f20.2 (a + 1) (by omega)).trans t_1
          have c22 := (f20.2 (a + 2) (by omega)).trans t_2
          have c23 := (f20.2 (a + 3) (by omega)).trans t_3
          have c24 := (f20.2 (a + 4) (by omega)).trans t_4
          have c25 := (f20.2 j (by omega)).trans hJ15.1
          have hJ26 : rJob j T σ18 := hJ15.fr (fun k k0 k1 => f20.2 k (by omega))
          have hS27 : rSt b T S σ18 := hS16.fr (fun k k0 k1 => f20.2 k (by omega))
          refine z_iincc (c := (k + 1)) (ml' := [some (.ref a), some (.ref j), some (.ref b), some (.int (iZ mask)), some (.int (iZ (k + 1))), some (.int (iZ ((tfQ Fe Wy (T 2) k mask).1)))]) (q := 77) dX3_triesSet_74 rfl (by omega) rfl rfl rfl ?_
          refine g_goto (q := 8) dX3_triesSet_77 rfl ?_
          refine Go.wk (ml' := [some (.ref a), some (.ref j), some (.ref b), some (.int (iZ mask)), some (.int (iZ (k + 1))), none]) ⟨Or.inr rfl, Or.inr rfl, Or.inr rfl, Or.inr rfl, Or.inr rfl, Or.inl rfl, trivial⟩ ?_
          refine ih (k + 1) (tH + (tfQ Fe Wy (T 2) k mask).1) (zup (zup Tr k (-4)) k (tfQ Fe Wy (T 2) k mask).2) σ18 (by omega) (by omega) ?_ ⟨c19, c21, c22, c23, c24⟩ hJ26 hS27 (((hF.tr (f4.wk (fun k e => ⟨by omega, by omega⟩))).tr hFt).tr (f20.wk (fun k e => ⟨by omega, by omega⟩)))
          rw [← hQ]; conv => rhs; unfold tsF cOpen
          rw [if_neg (by omega), if_neg (by omega)]
        · refine z_iconst (q := 62) dX3_triesSet_61 rfl ?_
          refine z_zret dX3_triesSet_62 rfl rfl ?_
          rw [← hQ]
          have e : tsF T S Fe Wy mask (m + 1) k tH Tr = (0, tH, zup (zup Tr k (-4)) k (tfQ Fe Wy (T 2) k mask).2) := by unfold tsF cOpen; rw [if_neg (by omega), if_pos (by omega)]
          rw [e]; exact ⟨rfl, ⟨t_0, t_1, t_2, t_3, t_4⟩, ((hF.tr (f4.wk (fun k e => ⟨by omega, by omega⟩))).tr hFt)⟩
      · refine g_goto (q := 74) dX3_triesSet_40 rfl ?_
        refine z_iincc (c := (k + 1)) (ml' := [some (.ref a), some (.ref j), some (.ref b), some (.int (iZ mask)), some (.int (iZ (k + 1))), none]) (q := 77) dX3_triesSet_74 rfl (by omega) rfl rfl rfl ?_
        refine g_goto (q := 8) dX3_triesSet_77 rfl ?_
        refine ih (k + 1) tH (zup Tr k (-4)) σ2 (by omega) (by omega) ?_ ⟨c5, c6, c7, c3, c8⟩ hJ11 hS12 (hF.tr (f4.wk (fun k e => ⟨by omega, by omega⟩)))
        rw [← hQ]; conv => rhs; unfold tsF cOpen
        rw [if_pos (by omega)]
theorem r_triesSet (σ : g_H0) (a b j : Nat) (hd : b + 4 ≤ a) (hd2 : a + 5 ≤ j) (T S : Int → Int) (wT : wfT T) (wS : wfS T S) (Fe Wy Be : Int → Int) (bh bt_ fo mask : Int) (bm : 0 ≤ mask ∧ mask < 64) (bF : ∀ k s, 0 ≤ k → k < T 3 → 0 ≤ s → s < T 2 → 0 ≤ Fe (6 * k + s) ∧ Fe (6 * k + s) ≤ 1000) (Tr : Int → Int) (tH : Int) (hPl : rPl a Fe Wy Tr Be tH bh bt_ fo σ) (hJ : rJob j T σ) (hS : rSt b T S σ) : Ret mX3_triesSet [.ref a, .ref j, .ref b, .int (iZ mask)] σ (fun r σ' => r = some (.int (iZ (tsQ T S Fe Wy mask Tr).1)) ∧ rPl a Fe Wy (tsQ T S Fe Wy mask Tr).2.2 Be (tsQ T S Fe Wy mask Tr).2.1 bh bt_ fo σ' ∧ g_Fr (pP a) σ σ') := by
  refine Ret.of moX3_triesSet.1 (Nat.le_of_ble_eq_true rfl) (fun w => ?_)
  obtain ⟨p0, p1, p2, p3, p4⟩ := id hPl
  obtain ⟨bT, t0, t1, t2, t3, t4, tt, th, tap, tcl, tc2⟩ := id wT
  show Go w mX3_triesSet (0, 0) 0 [some (.ref a), some (.ref j), some (.ref b), some (.int (iZ mask)), none, none] [] σ (fun r σ' => r = some (.int (iZ (tsQ T S Fe Wy mask Tr).1)) ∧ rPl a Fe Wy (tsQ T S Fe Wy mask Tr).2.2 Be (tsQ T S Fe Wy mask Tr).2.1 bh bt_ fo σ' ∧ g_Fr (pP a) σ σ')
  refine g_aload_n (q := 1) dX3_triesSet_0 rfl rfl ?_
  refine z_iconst (q := 2) dX3_triesSet_1 rfl ?_
  refine z_put (fs' := [.ref (a + 1), .ref (a + 2), .ref (a + 3), .int (iZ 0), .ref (a + 4), .int (iZ bh), .int (iZ bt_), .int (iZ fo)]) (q := 5) fpX3_80 dX3_triesSet_2 p0 (Nat.le_of_ble_eq_true rfl) rfl rfl rfl rfl (fun σ1 c2 f3 => ?_)
  have c4 := (f3.2 (a + 1) (by omega)).trans p1
  have c5 := (f3.2 (a + 2) (by omega)).trans p2
  have c6 := (f3.2 (a + 3) (by omega)).trans p3
  have c7 := (f3.2 (a + 4) (by omega)).trans p4
  have hJ8 : rJob j T σ1 := hJ.fr (fun k k0 k1 => f3.2 k (by omega))
  have hS9 : rSt b T S σ1 := hS.fr (fun k k0 k1 => f3.2 k (by omega))
  refine z_iconst (q := 6) dX3_triesSet_5 rfl ?_
  refine g_istore (ml' := [some (.ref a), some (.ref j), some (.ref b), some (.int (iZ mask)), some (.int (iZ 0)), none]) (q := 8) dX3_triesSet_6 rfl (Nat.le_of_ble_eq_true rfl) rfl rfl ?_
  exact l_ts w σ a b j hd hd2 T S wT wS Fe Wy Be bh bt_ fo mask bm bF _ (T 3).toNat 0 0 Tr σ1 (by omega) (by omega) rfl ⟨c2, c4, c5, c6, c7⟩ hJ8 hS9 (g_Fr.rf.tr (f3.wk (fun k e => ⟨by omega, by omega⟩)))
