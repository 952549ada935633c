theorem wkF_01 (T S Fe Wy : Int → Int) : ∀ (n : Nat) (c f bh bt_ : Int) (Be Tr : Int → Int), 0 ≤ f ∧ f ≤ 1 → 0 ≤ (wkF T S Fe Wy n c f bh bt_ Be Tr).1 ∧ (wkF T S Fe Wy n c f bh bt_ Be Tr).1 ≤ 1
  | 0, c, f, bh, bt_, Be, Tr, h => h
  | n + 1, c, f, bh, bt_, Be, Tr, h => by
    unfold wkF
    split
    · exact wkF_01 T S Fe Wy n _ _ _ _ _ _ h
    · split
      · exact wkF_01 T S Fe Wy n _ _ _ _ _ _ (by omega)
      · exact wkF_01 T S Fe Wy n _ _ _ _ _ _ h
/-- what plan answers -/
def spPlan (T S : Int → Int) (h : Int) : Int := cPlanA T (cPlanQ T S (fun _ => 0) (fun _ => 0) (fun _ => 0) (fun _ => 0) 0 0) h
theorem spPlan_c {T S : Int → Int} (wT : wfT T) (wS : wfS T S) (Fe Wy Be Tr : Int → Int) (bh bt_ h : Int) : cPlanA T (cPlanQ T S Fe Wy Be Tr bh bt_) h = spPlan T S h :=
  (plan_eq wT wS Fe Wy Be Tr bh bt_ (fun _ => 0) (fun _ => 0) (fun _ => 0) (fun _ => 0) (fun _ => 0) 0 0 h).trans (plan_eq wT wS _ _ _ _ _ _ (fun _ => 0) (fun _ => 0) (fun _ => 0) (fun _ => 0) (fun _ => 0) 0 0 h).symm
theorem r_C_plan (σ : g_H0) (j d : Nat) (L : Int) (tx T S B : Int → Int) (n : Int) (hQ : rC j d L tx T S B n σ) (wT : wfT T) (wS : wfS T S) (h : Int) (b_h : -2147483648 ≤ h ∧ h < 2147483648) : Ret mX8_plan [.ref 0, .int (iZ h)] σ (cPost σ (spPlan T S h) L tx T S B n) := by
  refine Ret.of moX8_plan.1 (Nat.le_of_ble_eq_true rfl) (fun w => ?_)
  obtain ⟨hjd, c0, hT, ⟨rp, rN, hR⟩, hS, hS0, ⟨nx, hH⟩, ⟨Fe, Wy, Tr, Be, tH, pbh, pbt, pfo, hPl⟩, ⟨sx, sy, sw, sh, hA⟩, hJ, ⟨R0, hD⟩⟩ := id hQ
  obtain ⟨bT, t0, t1, t2, t3, t4, tt, th, tap, tcl, tc2⟩ := id wT
  obtain ⟨j0, j1, ⟨jf, j2, j2'⟩, ⟨jg, j3, j3'⟩, ⟨jC, j4, j4'⟩, j5, j6⟩ := id hJ
  obtain ⟨s0, C, W, K, s1, s2, s3, hC, hW, hK⟩ := id hS
  obtain ⟨w1, w2, w3, w4, w5, w6⟩ := id wS
  show Go w mX8_plan (0, 0) 0 [some (.ref 0), some (.int (iZ h))] [] σ (cPost σ (spPlan T S h) L tx T S B n)
  refine g_iload_n (q := 1) dX8_plan_0 rfl rfl ?_
  refine z_iconst (q := 2) dX8_plan_1 rfl ?_
  refine z_icmp_eq (t := 21) (q := 5) dX8_plan_2 rfl (by omega) rfl (fun pc1 => ?_) (fun pc1 => ?_)
  · refine g_aload_n (q := 22) dX8_plan_21 rfl rfl ?_
    refine g_get (q := 25) flX8_43 dX8_plan_22 c0 rfl rfl ?_
    refine g_aload_n (q := 26) dX8_plan_25 rfl rfl ?_
    refine g_get (q := 29) flX8_57 dX8_plan_26 c0 rfl rfl ?_
    refine g_aload_n (q := 30) dX8_plan_29 rfl rfl ?_
    refine g_get (q := 33) flX8_26 dX8_plan_30 c0 rfl rfl ?_
    refine g_callV (As := [.ref j, .ref 5]) (rest := []) (q := 36) moX3_work lkX8_plan_236 dX8_plan_33 rfl hPl.1 (r_work σ 39 5 j (by omega) (by omega) T S wT wS Fe Wy Tr Be tH pbh pbt pfo hPl hJ hS) rfl rfl (Nat.le_of_ble_eq_true rfl) (Nat.le_of_ble_eq_true rfl) (Nat.le_of_ble_eq_true rfl) rfl ?_
    rintro rw σ1 ⟨rfl, ⟨Fe2, Wy2, Tr2, tH2, hP1⟩, f1⟩
    have hQ1 := rC.pl ⟨_, _, _, _, _, _, _, _, hP1⟩ hQ f1
    have c01 := (f1.2 0 (fun e => by have := e.1; omega)).trans c0
    have q01 := wkF_01 T S (wFe T Fe Wy) (wWy T Fe Wy) (pw (T 2)).toNat 0 0 pbh pbt Be Tr (by omega)
    replace q01 : 0 ≤ (cPlanQ T S Fe Wy Be Tr pbh pbt).1 ∧ (cPlanQ T S Fe Wy Be Tr pbh pbt).1 ≤ 1 := q01
    show Go w mX8_plan (0, 0) 36 [some (.ref 0), some (.int (iZ h))] [] σ1 (cPost σ (spPlan T S h) L tx T S B n)
    refine g_aload_n (q := 37) dX8_plan_36 rfl rfl ?_
    refine g_get (q := 40) flX8_43 dX8_plan_37 c01 rfl rfl ?_
    refine g_get (q := 43) flX8_240 dX8_plan_40 hP1.1 rfl rfl ?_
    refine z_if_ne (t := 49) (q := 46) dX8_plan_43 rfl (by omega) rfl (fun pc2 => ?_) (fun pc2 => ?_)
    · refine g_iload_n (q := 50) dX8_plan_49 rfl rfl ?_
      refine z_iconst (q := 51) dX8_plan_50 rfl ?_
      refine z_icmp_ne (t := 62) (q := 54) dX8_plan_51 rfl (by omega) rfl (fun pc3 => ?_) (fun pc3 => ?_)
      · refine g_iload_n (q := 63) dX8_plan_62 rfl rfl ?_
        refine g_bipush (v := iZ (-2)) (q := 65) dX8_plan_63 (by decide) rfl ?_
        refine z_icmp_ne (t := 76) (q := 68) dX8_plan_65 rfl (by omega) rfl (fun pc4 => ?_) (fun pc4 => ?_)
        · refine g_aload_n (q := 77) dX8_plan_76 rfl rfl ?_
          refine g_get (q := 80) flX8_43 dX8_plan_77 c01 rfl rfl ?_
          refine g_get (q := 83) flX8_249 dX8_plan_80 hP1.1 rfl rfl ?_
          refine g_iload_n (q := 84) dX8_plan_83 rfl rfl ?_
          refine z_iald (q := 85) dX8_plan_84 hP1.2.2.2.2 (by omega) rfl ?_
          refine z_iret dX8_plan_85 rfl ?_
          have pq := spPlan_c wT wS Fe Wy Be Tr pbh pbt h
          refine ⟨congrArg (fun z => some (Value.int (iZ z))) (Eq.trans ?_ pq), ⟨j, d, hQ1⟩, (g_Fr.rf.tr (f1.wk (fun k e => show k < 77 by have := e.1; have := e.2; omega)))⟩
          unfold cPlanA; repeat' split
          all_goals first | rfl | omega | (exfalso; omega)
        · refine g_aload_n (q := 69) dX8_plan_68 rfl rfl ?_
          refine g_get (q := 72) flX8_43 dX8_plan_69 c01 rfl rfl ?_
          refine g_get (q := 75) flX8_246 dX8_plan_72 hP1.1 rfl rfl ?_
          refine z_iret dX8_plan_75 rfl ?_
          have pq := spPlan_c wT wS Fe Wy Be Tr pbh pbt h
          refine ⟨congrArg (fun z => some (Value.int (iZ z))) (Eq.trans ?_ pq), ⟨j, d, hQ1⟩, (g_Fr.rf.tr (f1.wk (fun k e => show k < 77 by have := e.1; have := e.2; omega)))⟩
          unfold cPlanA; repeat' split
          all_goals first | rfl | omega | (exfalso; omega)
      · refine g_aload_n (q := 55) dX8_plan_54 rfl rfl ?_
        refine g_get (q := 58) flX8_43 dX8_plan_55 c01 rfl rfl ?_
        refine g_get (q := 61) flX8_243 dX8_plan_58 hP1.1 rfl rfl ?_
        refine z_iret dX8_plan_61 rfl ?_
        have pq := spPlan_c wT wS Fe Wy Be Tr pbh pbt h
        refine ⟨congrArg (fun z => some (Value.int (iZ z))) (Eq.trans ?_ pq), ⟨j, d, hQ1⟩, (g_Fr.rf.tr (f1.wk (fun k e => show k < 77 by have := e.1; have := e.2; omega)))⟩
        unfold cPlanA; repeat' split
        all_goals first | rfl | omega | (exfalso; omega)
    · refine g_bipush (v := iZ (-4)) (q := 48) dX8_plan_46 (by decide) rfl ?_
      refine z_iret dX8_plan_48 rfl ?_
      have pq := spPlan_c wT wS Fe Wy Be Tr pbh pbt h
      refine ⟨congrArg (fun z => some (Value.int (iZ z))) (Eq.trans ?_ pq), ⟨j, d, hQ1⟩, (g_Fr.rf.tr (f1.wk (fun k e => show k < 77 by have := e.1; have := e.2; omega)))⟩
      unfold cPlanA; repeat' split
      all_goals first | rfl | omega | (exfalso; omega)
  · refine g_iload_n (q := 6) dX8_plan_5 rfl rfl ?_
    refine g_bipush (v := iZ (-2)) (q := 8) dX8_plan_6 (by decide) rfl ?_
    refine z_icmp_eq (t := 21) (q := 11) dX8_plan_8 rfl (by omega) rfl (fun pc5 => ?_) (fun pc5 => ?_)
    · refine g_aload_n (q := 22) dX8_plan_21 rfl rfl ?_
      refine g_get (q := 25) flX8_43 dX8_plan_22 c0 rfl rfl ?_
      refine g_aload_n (q := 26) dX8_plan_25 rfl rfl ?_
      refine g_get (q := 29) flX8_57 dX8_plan_26 c0 rfl rfl ?_
      refine g_aload_n (q := 30) dX8_plan_29 rfl rfl ?_
      refine g_get (q := 33) flX8_26 dX8_plan_30 c0 rfl rfl ?_
      refine g_callV (As := [.ref j, .ref 5]) (rest := []) (q := 36) moX3_work lkX8_plan_236 dX8_plan_33 rfl hPl.1 (r_work σ 39 5 j (by omega) (by omega) T S wT wS Fe Wy Tr Be tH pbh pbt pfo hPl hJ hS) rfl rfl (Nat.le_of_ble_eq_true rfl) (Nat.le_of_ble_eq_true rfl) (Nat.le_of_ble_eq_true rfl) rfl ?_
      rintro rw σ1 ⟨rfl, ⟨Fe2, Wy2, Tr2, tH2, hP1⟩, f1⟩
      have hQ1 := rC.pl ⟨_, _, _, _, _, _, _, _, hP1⟩ hQ f1
      have c01 := (f1.2 0 (fun e => by have := e.1; omega)).trans c0
      have q01 := wkF_01 T S (wFe T Fe Wy) (wWy T Fe Wy) (pw (T 2)).toNat 0 0 pbh pbt Be Tr (by omega)
      replace q01 : 0 ≤ (cPlanQ T S Fe Wy Be Tr pbh pbt).1 ∧ (cPlanQ T S Fe Wy Be Tr pbh pbt).1 ≤ 1 := q01
      show Go w mX8_plan (0, 0) 36 [some (.ref 0), some (.int (iZ h))] [] σ1 (cPost σ (spPlan T S h) L tx T S B n)
      refine g_aload_n (q := 37) dX8_plan_36 rfl rfl ?_
      refine g_get (q := 40) flX8_43 dX8_plan_37 c01 rfl rfl ?_
      refine g_get (q := 43) flX8_240 dX8_plan_40 hP1.1 rfl rfl ?_
      refine z_if_ne (t := 49) (q := 46) dX8_plan_43 rfl (by omega) rfl (fun pc6 => ?_) (fun pc6 => ?_)
      · refine g_iload_n (q := 50) dX8_plan_49 rfl rfl ?_
        refine z_iconst (q := 51) dX8_plan_50 rfl ?_
        refine z_icmp_ne (t := 62) (q := 54) dX8_plan_51 rfl (by omega) rfl (fun pc7 => ?_) (fun pc7 => ?_)
        · refine g_iload_n (q := 63) dX8_plan_62 rfl rfl ?_
          refine g_bipush (v := iZ (-2)) (q := 65) dX8_plan_63 (by decide) rfl ?_
          refine z_icmp_ne (t := 76) (q := 68) dX8_plan_65 rfl (by omega) rfl (fun pc8 => ?_) (fun pc8 => ?_)
          · refine g_aload_n (q := 77) dX8_plan_76 rfl rfl ?_
            refine g_get (q := 80) flX8_43 dX8_plan_77 c01 rfl rfl ?_
            refine g_get (q := 83) flX8_249 dX8_plan_80 hP1.1 rfl rfl ?_
            refine g_iload_n (q := 84) dX8_plan_83 rfl rfl ?_
            refine z_iald (q := 85) dX8_plan_84 hP1.2.2.2.2 (by omega) rfl ?_
            refine z_iret dX8_plan_85 rfl ?_
            have pq := spPlan_c wT wS Fe Wy Be Tr pbh pbt h
            refine ⟨congrArg (fun z => some (Value.int (iZ z))) (Eq.trans ?_ pq), ⟨j, d, hQ1⟩, (g_Fr.rf.tr (f1.wk (fun k e => show k < 77 by have := e.1; have := e.2; omega)))⟩
            unfold cPlanA; repeat' split
            all_goals first | rfl | omega | (exfalso; omega)
          · refine g_aload_n (q := 69) dX8_plan_68 rfl rfl ?_
            refine g_get (q := 72) flX8_43 dX8_plan_69 c01 rfl rfl ?_
            refine g_get (q := 75) flX8_246 dX8_plan_72 hP1.1 rfl rfl ?_
            refine z_iret dX8_plan_75 rfl ?_
            have pq := spPlan_c wT wS Fe Wy Be Tr pbh pbt h
            refine ⟨congrArg (fun z => some (Value.int (iZ z))) (Eq.trans ?_ pq), ⟨j, d, hQ1⟩, (g_Fr.rf.tr (f1.wk (fun k e => show k < 77 by have := e.1; have := e.2; omega)))⟩
            unfold cPlanA; repeat' split
            all_goals first | rfl | omega | (exfalso; omega)
        · refine g_aload_n (q := 55) dX8_plan_54 rfl rfl ?_
          refine g_get (q := 58) flX8_43 dX8_plan_55 c01 rfl rfl ?_
          refine g_get (q := 61) flX8_243 dX8_plan_58 hP1.1 rfl rfl ?_
          refine z_iret dX8_plan_61 rfl ?_
          have pq := spPlan_c wT wS Fe Wy Be Tr pbh pbt h
          refine ⟨congrArg (fun z => some (Value.int (iZ z))) (Eq.trans ?_ pq), ⟨j, d, hQ1⟩, (g_Fr.rf.tr (f1.wk (fun k e => show k < 77 by have := e.1; have := e.2; omega)))⟩
          unfold cPlanA; repeat' split
          all_goals first | rfl | omega | (exfalso; omega)
      · refine g_bipush (v := iZ (-4)) (q := 48) dX8_plan_46 (by decide) rfl ?_
        refine z_iret dX8_plan_48 rfl ?_
        have pq := spPlan_c wT wS Fe Wy Be Tr pbh pbt h
        refine ⟨congrArg (fun z => some (Value.int (iZ z))) (Eq.trans ?_ pq), ⟨j, d, hQ1⟩, (g_Fr.rf.tr (f1.wk (fun k e => show k < 77 by have := e.1; have := e.2; omega)))⟩
        unfold cPlanA; repeat' split
        all_goals first | rfl | omega | (exfalso; omega)
    · refine g_aload_n (q := 12) dX8_plan_11 rfl rfl ?_
      refine g_iload_n (q := 13) dX8_plan_12 rfl rfl ?_
      refine g_callV (As := [.int (iZ h)]) (rest := []) (q := 16) moX8_isHole lkX8_plan_123 dX8_plan_13 rfl c0 (r_C_isHole σ j d L tx T S B n hQ wT wS h (by omega)) rfl rfl (Nat.le_of_ble_eq_true rfl) (Nat.le_of_ble_eq_true rfl) (Nat.le_of_ble_eq_true rfl) rfl ?_
      rintro rQ sQ hpQ
      rw [hpQ.1, hpQ.2]
      show Go w mX8_plan (0, 0) 16 [some (.ref 0), some (.int (iZ h))] [.int (bI (0 ≤ h ∧ h < T 3))] σ (cPost σ (spPlan T S h) L tx T S B n)
      refine z_ifB_ne (t := 21) (q := 19) dX8_plan_16 rfl rfl (fun pc9 => ?_) (fun pc9 => ?_)
      · refine g_aload_n (q := 22) dX8_plan_21 rfl rfl ?_
        refine g_get (q := 25) flX8_43 dX8_plan_22 c0 rfl rfl ?_
        refine g_aload_n (q := 26) dX8_plan_25 rfl rfl ?_
        refine g_get (q := 29) flX8_57 dX8_plan_26 c0 rfl rfl ?_
        refine g_aload_n (q := 30) dX8_plan_29 rfl rfl ?_
        refine g_get (q := 33) flX8_26 dX8_plan_30 c0 rfl rfl ?_
        refine g_callV (As := [.ref j, .ref 5]) (rest := []) (q := 36) moX3_work lkX8_plan_236 dX8_plan_33 rfl hPl.1 (r_work σ 39 5 j (by omega) (by omega) T S wT wS Fe Wy Tr Be tH pbh pbt pfo hPl hJ hS) rfl rfl (Nat.le_of_ble_eq_true rfl) (Nat.le_of_ble_eq_true rfl) (Nat.le_of_ble_eq_true rfl) rfl ?_
        rintro rw σ1 ⟨rfl, ⟨Fe2, Wy2, Tr2, tH2, hP1⟩, f1⟩
        have hQ1 := rC.pl ⟨_, _, _, _, _, _, _, _, hP1⟩ hQ f1
        have c01 := (f1.2 0 (fun e => by have := e.1; omega)).trans c0
        have q01 := wkF_01 T S (wFe T Fe Wy) (wWy T Fe Wy) (pw (T 2)).toNat 0 0 pbh pbt Be Tr (by omega)
        replace q01 : 0 ≤ (cPlanQ T S Fe Wy Be Tr pbh pbt).1 ∧ (cPlanQ T S Fe Wy Be Tr pbh pbt).1 ≤ 1 := q01
        show Go w mX8_plan (0, 0) 36 [some (.ref 0), some (.int (iZ h))] [] σ1 (cPost σ (spPlan T S h) L tx T S B n)
        refine g_aload_n (q := 37) dX8_plan_36 rfl rfl ?_
        refine g_get (q := 40) flX8_43 dX8_plan_37 c01 rfl rfl ?_
        refine g_get (q := 43) flX8_240 dX8_plan_40 hP1.1 rfl rfl ?_
        refine z_if_ne (t := 49) (q := 46) dX8_plan_43 rfl (by omega) rfl (fun pc10 => ?_) (fun pc10 => ?_)
        · refine g_iload_n (q := 50) dX8_plan_49 rfl rfl ?_
          refine z_iconst (q := 51) dX8_plan_50 rfl ?_
          refine z_icmp_ne (t := 62) (q := 54) dX8_plan_51 rfl (by omega) rfl (fun pc11 => ?_) (fun pc11 => ?_)
          · refine g_iload_n (q := 63) dX8_plan_62 rfl rfl ?_
            refine g_bipush (v := iZ (-2)) (q := 65) dX8_plan_63 (by decide) rfl ?_
            refine z_icmp_ne (t := 76) (q := 68) dX8_plan_65 rfl (by omega) rfl (fun pc12 => ?_) (fun pc12 => ?_)
            · refine g_aload_n (q := 77) dX8_plan_76 rfl rfl ?_
              refine g_get (q := 80) flX8_43 dX8_plan_77 c01 rfl rfl ?_
              refine g_get (q := 83) flX8_249 dX8_plan_80 hP1.1 rfl rfl ?_
              refine g_iload_n (q := 84) dX8_plan_83 rfl rfl ?_
              refine z_iald (q := 85) dX8_plan_84 hP1.2.2.2.2 (by omega) rfl ?_
              refine z_iret dX8_plan_85 rfl ?_
              have pq := spPlan_c wT wS Fe Wy Be Tr pbh pbt h
              refine ⟨congrArg (fun z => some (Value.int (iZ z))) (Eq.trans ?_ pq), ⟨j, d, hQ1⟩, (g_Fr.rf.tr (f1.wk (fun k e => show k < 77 by have := e.1; have := e.2; omega)))⟩
              unfold cPlanA; repeat' split
              all_goals first | rfl | omega | (exfalso; omega)
            · refine g_aload_n (q := 69) dX8_plan_68 rfl rfl ?_
              refine g_get (q := 72) flX8_43 dX8_plan_69 c01 rfl rfl ?_
              refine g_get (q := 75) flX8_246 dX8_plan_72 hP1.1 rfl rfl ?_
              refine z_iret dX8_plan_75 rfl ?_
              have pq := spPlan_c wT wS Fe Wy Be Tr pbh pbt h
              refine ⟨congrArg (fun z => some (Value.int (iZ z))) (Eq.trans ?_ pq), ⟨j, d, hQ1⟩, (g_Fr.rf.tr (f1.wk (fun k e => show k < 77 by have := e.1; have := e.2; omega)))⟩
              unfold cPlanA; repeat' split
              all_goals first | rfl | omega | (exfalso; omega)
          · refine g_aload_n (q := 55) dX8_plan_54 rfl rfl ?_
            refine g_get (q := 58) flX8_43 dX8_plan_55 c01 rfl rfl ?_
            refine g_get (q := 61) flX8_243 dX8_plan_58 hP1.1 rfl rfl ?_
            refine z_iret dX8_plan_61 rfl ?_
            have pq := spPlan_c wT wS Fe Wy Be Tr pbh pbt h
            refine ⟨congrArg (fun z => some (Value.int (iZ z))) (Eq.trans ?_ pq), ⟨j, d, hQ1⟩, (g_Fr.rf.tr (f1.wk (fun k e => show k < 77 by have := e.1; have := e.2; omega)))⟩
            unfold cPlanA; repeat' split
            all_goals first | rfl | omega | (exfalso; omega)
        · refine g_bipush (v := iZ (-4)) (q := 48) dX8_plan_46 (by decide) rfl ?_
          refine z_iret dX8_plan_48 rfl ?_
          have pq := spPlan_c wT wS Fe Wy Be Tr pbh pbt h
          refine ⟨congrArg (fun z => some (Value.int (iZ z))) (Eq.trans ?_ pq), ⟨j, d, hQ1⟩, (g_Fr.rf.tr (f1.wk (fun k e => show k < 77 by have := e.1; have := e.2; omega)))⟩
          unfold cPlanA; repeat' split
          all_goals first | rfl | omega | (exfalso; omega)
      · refine z_iconst (q := 20) dX8_plan_19 rfl ?_
        refine z_iret dX8_plan_20 rfl ?_
        have pq := spPlan_c wT wS Fe Wy Be Tr pbh pbt h
        refine ⟨congrArg (fun z => some (Value.int (iZ z))) (Eq.trans ?_ pq), ⟨j, d, hQ⟩, g_Fr.rf⟩
        unfold cPlanA; repeat' split
        all_goals first | rfl | omega | (exfalso; omega)
theorem r_M_plan2 (σ : g_H0) (a : Nat) (I : Nat → Int) (A : Nat → Int → Int) (hM : rM a I A σ) (h : Int) (b_h : -2147483648 ≤ h ∧ h < 2147483648) (hT : wfT (A 1)) (hS : wfS (A 1) (A 3)) : Ret mX9_plan [.ref a, .int (iZ h)] σ (fun r σ' => r = some (.int (iZ (spPlan (A 1) (A 3) h))) ∧ MC a (I 0) (A 0) (A 1) (A 3) (A 4) (I 2) σ' ∧ g_Fr (mR a) σ σ') := by
  refine (r_M_plan σ a I A hM h b_h hT hS).mono (fun r σ' hp => ⟨?_, hp.2⟩)
  rw [hp.1]
  exact congrArg (fun z => some (Value.int (iZ z))) (plan_eq hT hS (fun _ => 0) (fun _ => 0) (fun _ => 0) (fun _ => 0) 0 0 _ _ _ _ _ _ _ h).symm
