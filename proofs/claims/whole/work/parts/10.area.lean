/-! Area -/
def rArea (a : Nat) (x y wd hg : Int) (σ : g_H0) : Prop := σ[a]? = some (.inr (0, [.int (iZ x), .int (iZ y), .int (iZ wd), .int (iZ hg)]))

theorem r_Area_has (σ : g_H0) (a : Nat) (x y wd hg cx cy : Int) (h0 : rArea a x y wd hg σ) (bx : 0 ≤ x ∧ x < 1000) (by_ : 0 ≤ y ∧ y < 1000) (bw : 0 ≤ wd ∧ wd < 1000) (bh : 0 ≤ hg ∧ hg < 1000) (bcx : -2147483648 ≤ cx ∧ cx < 2147483648) (bcy : -2147483648 ≤ cy ∧ cy < 2147483648) : Ret mX0_has [.ref a, .int (iZ cx), .int (iZ cy)] σ (fun r σ' => r = some (.int (bI (x ≤ cx ∧ cx < x + wd ∧ y ≤ cy ∧ cy < y + hg))) ∧ σ' = σ) := by
  refine Ret.of moX0_has.1 (Nat.le_of_ble_eq_true rfl) (fun w => ?_)
  show Go w mX0_has (0, 0) 0 [some (.ref a), some (.int (iZ cx)), some (.int (iZ cy))] [] σ _
  refine g_iload_n (q := 1) dX0_has_0 rfl rfl ?_
  refine g_aload_n (q := 2) dX0_has_1 rfl rfl ?_
  refine g_get (q := 5) flX0_7 dX0_has_2 h0 rfl rfl ?_
  refine z_icmp_lt (t := 46) (q := 8) dX0_has_5 rfl (by omega) rfl (fun h1 => ?_) (fun h1 => ?_)
  · refine z_iconst (q := 47) dX0_has_46 rfl ?_
    refine z_zret dX0_has_47 rfl rfl ?_
    exact ⟨congrArg (fun v => some (Value.int v)) (bI_f (by omega)).symm, rfl⟩
  · refine g_iload_n (q := 9) dX0_has_8 rfl rfl ?_
    refine g_aload_n (q := 10) dX0_has_9 rfl rfl ?_
    refine g_get (q := 13) flX0_7 dX0_has_10 h0 rfl rfl ?_
    refine g_aload_n (q := 14) dX0_has_13 rfl rfl ?_
    refine g_get (q := 17) flX0_16 dX0_has_14 h0 rfl rfl ?_
    refine z_iadd (q := 18) dX0_has_17 rfl ?_
    refine z_icmp_ge (t := 46) (q := 21) dX0_has_18 rfl (by omega) rfl (fun h2 => ?_) (fun h2 => ?_)
    · refine z_iconst (q := 47) dX0_has_46 rfl ?_
      refine z_zret dX0_has_47 rfl rfl ?_
      exact ⟨congrArg (fun v => some (Value.int v)) (bI_f (by omega)).symm, rfl⟩
    · refine g_iload_n (q := 22) dX0_has_21 rfl rfl ?_
      refine g_aload_n (q := 23) dX0_has_22 rfl rfl ?_
      refine g_get (q := 26) flX0_13 dX0_has_23 h0 rfl rfl ?_
      refine z_icmp_lt (t := 46) (q := 29) dX0_has_26 rfl (by omega) rfl (fun h3 => ?_) (fun h3 => ?_)
      · refine z_iconst (q := 47) dX0_has_46 rfl ?_
        refine z_zret dX0_has_47 rfl rfl ?_
        exact ⟨congrArg (fun v => some (Value.int v)) (bI_f (by omega)).symm, rfl⟩
      · refine g_iload_n (q := 30) dX0_has_29 rfl rfl ?_
        refine g_aload_n (q := 31) dX0_has_30 rfl rfl ?_
        refine g_get (q := 34) flX0_13 dX0_has_31 h0 rfl rfl ?_
        refine g_aload_n (q := 35) dX0_has_34 rfl rfl ?_
        refine g_get (q := 38) flX0_19 dX0_has_35 h0 rfl rfl ?_
        refine z_iadd (q := 39) dX0_has_38 rfl ?_
        refine z_icmp_ge (t := 46) (q := 42) dX0_has_39 rfl (by omega) rfl (fun h4 => ?_) (fun h4 => ?_)
        · refine z_iconst (q := 47) dX0_has_46 rfl ?_
          refine z_zret dX0_has_47 rfl rfl ?_
          exact ⟨congrArg (fun v => some (Value.int v)) (bI_f (by omega)).symm, rfl⟩
        · refine z_iconst (q := 43) dX0_has_42 rfl ?_
          refine g_goto (q := 47) dX0_has_43 rfl ?_
          refine z_zret dX0_has_47 rfl rfl ?_
          exact ⟨congrArg (fun v => some (Value.int v)) (bI_t (by omega)).symm, rfl⟩
