theorem ch_nar0 : ∀ n : Nat, n < 128 → vp_nar .char (iZ (n : Int)) = iZ (n : Int) ∧ ((iZ (n : Int)).toUInt32 % 65536).toInt32 = iZ (n : Int) ∧ iZ (n : Int) &&& iZ 255 = iZ (n : Int) := by decide +kernel
theorem ch_nar {z : Int} (h : 0 ≤ z ∧ z < 128) : vp_nar .char (iZ z) = iZ z ∧ ((iZ z).toUInt32 % 65536).toInt32 = iZ z ∧ iZ z &&& iZ 255 = iZ z := by
  obtain ⟨n, rfl⟩ := Int.eq_ofNat_of_zero_le h.1
  exact ch_nar0 n (by omega)
theorem ch_ret {z : Int} (h : 0 ≤ z ∧ z < 128) : narrow .char (.int (iZ z)) = .int (iZ z) := congrArg Value.int (ch_nar h).1
/-- the letters of the String constants -/
def sL (i : Nat) : Int := (g_sLen.getD i 0 : Nat)
def sC (i : Nat) (k : Int) : Int := ((g_sByt.getD i []).getD k.toNat 0).toInt
theorem sL_ok : ∀ i : Nat, i < 5 → Int32.ofNat (g_sLen.getD i 0) = iZ (sL i) ∧ 0 ≤ sL i ∧ sL i ≤ 200 := by decide +kernel
theorem sC_b0 : ∀ i : Nat, i < 5 → ∀ k : Nat, k < g_sLen.getD i 0 → 32 ≤ sC i (k : Int) ∧ sC i (k : Int) < 127 := by decide +kernel
theorem sC_b {i : Nat} (hi : i < 5) {k : Int} (h : 0 ≤ k ∧ k < sL i) : 32 ≤ sC i k ∧ sC i k < 127 := by
  obtain ⟨n, rfl⟩ := Int.eq_ofNat_of_zero_le h.1
  exact sC_b0 i hi n (by have := h.2; unfold sL at this; omega)
theorem sC_z (i : Nat) {k : Int} (hk : 0 ≤ k ∧ k < 2147483648) : (g_sByt.getD i []).getD (iZ k).toNatClampNeg 0 = iZ (sC i k) := by
  rw [iZ_clamp (by omega) (by omega)]
  exact (iZ_of _).symm
theorem sL_in {i : Nat} {k : Int} (hi : i < 5) (h : 0 ≤ k ∧ k < sL i) : vp_in (iZ k) (g_sLen.getD i 0) := by
  have := (sL_ok i hi).2
  refine iZ_in h.1 h.2 ?_
  unfold sL at this; omega
theorem fs_val : Cond.fieldLink RJ0 9 "java/lang/String" "value" "[B" ∈ gTb := g_tb 963 (by decide +kernel) (by decide +kernel)
theorem fs_cod : Cond.fieldLink RJ0 15 "java/lang/String" "coder" "B" ∈ gTb := g_tb 964 (by decide +kernel) (by decide +kernel)
theorem fs_cs : Cond.fieldLink RJ0 38 "java/lang/String" "COMPACT_STRINGS" "Z" ∈ gTb := g_tb 260 (by decide +kernel) (by decide +kernel)
theorem fs_sf : Cond.fieldLink RJ0 1053 "jdk/internal/util/Preconditions" "SIOOBE_FORMATTER" "Ljava/util/function/BiFunction;" ∈ gTb := g_tb 276 (by decide +kernel) (by decide +kernel)
theorem sL_shr : ∀ i : Nat, i < 5 → iZ (sL i) >>> (iZ 0 &&& 31) = iZ (sL i) := by decide +kernel
theorem r_s_isLatin1 (σ : g_H0) (i : Nat) (hi : i < 5) (x : UInt32) (hx : x.toNat = 1 + i) : Ret mJ0_isLatin1_aae02 [.float x] σ (fun r σ' => r = some (.int (iZ 1)) ∧ σ' = σ) := by
  refine Ret.of moJ0_isLatin1_aae02.1 (Nat.le_of_ble_eq_true rfl) (fun w => ?_)
  show Go w mJ0_isLatin1_aae02 (0, 0) 0 [some (.float x)] [] σ (fun r σ' => r = some (.int (iZ 1)) ∧ σ' = σ)
  refine g_getCS (q := 3) fs_cs dJ0_isLatin1_aae02_0 rfl ?_
  show Go w mJ0_isLatin1_aae02 (0, 0) 3 [some (.float x)] [.int (iZ 1)] σ (fun r σ' => r = some (.int (iZ 1)) ∧ σ' = σ)
  refine z_if_eq (t := 17) (q := 6) dJ0_isLatin1_aae02_3 rfl (by omega) rfl (fun pc1 => ?_) (fun pc1 => ?_)
  · exfalso; omega
  · refine g_aloadF_n (q := 7) dJ0_isLatin1_aae02_6 rfl rfl ?_
    refine g_getCod (q := 10) hi hx fs_cod dJ0_isLatin1_aae02_7 rfl ?_
    show Go w mJ0_isLatin1_aae02 (0, 0) 10 [some (.float x)] [.int (iZ 0)] σ (fun r σ' => r = some (.int (iZ 1)) ∧ σ' = σ)
    refine z_if_ne (t := 17) (q := 13) dJ0_isLatin1_aae02_10 rfl (by omega) rfl (fun pc2 => ?_) (fun pc2 => ?_)
    · exfalso; omega
    · refine z_iconst (q := 14) dJ0_isLatin1_aae02_13 rfl ?_
      refine g_goto (q := 18) dJ0_isLatin1_aae02_14 rfl ?_
      refine z_zret dJ0_isLatin1_aae02_18 rfl rfl ?_
      exact ⟨rfl, rfl⟩
theorem r_s_coder (σ : g_H0) (i : Nat) (hi : i < 5) (x : UInt32) (hx : x.toNat = 1 + i) : Ret mJ0_coder_7d493 [.float x] σ (fun r σ' => r = some (.int (iZ 0)) ∧ σ' = σ) := by
  refine Ret.of moJ0_coder_7d493.1 (Nat.le_of_ble_eq_true rfl) (fun w => ?_)
  show Go w mJ0_coder_7d493 (0, 0) 0 [some (.float x)] [] σ (fun r σ' => r = some (.int (iZ 0)) ∧ σ' = σ)
  refine g_getCS (q := 3) fs_cs dJ0_coder_7d493_0 rfl ?_
  show Go w mJ0_coder_7d493 (0, 0) 3 [some (.float x)] [.int (iZ 1)] σ (fun r σ' => r = some (.int (iZ 0)) ∧ σ' = σ)
  refine z_if_eq (t := 13) (q := 6) dJ0_coder_7d493_3 rfl (by omega) rfl (fun pc1 => ?_) (fun pc1 => ?_)
  · exfalso; omega
  · refine g_aloadF_n (q := 7) dJ0_coder_7d493_6 rfl rfl ?_
    refine g_getCod (q := 10) hi hx fs_cod dJ0_coder_7d493_7 rfl ?_
    show Go w mJ0_coder_7d493 (0, 0) 10 [some (.float x)] [.int (iZ 0)] σ (fun r σ' => r = some (.int (iZ 0)) ∧ σ' = σ)
    refine g_goto (q := 14) dJ0_coder_7d493_10 rfl ?_
    refine z_zret dJ0_coder_7d493_14 rfl rfl ?_
    exact ⟨rfl, rfl⟩
theorem r_s_pci_null (σ : g_H0) (k n : Int) (j : UInt32) (h : 0 ≤ k ∧ k < n ∧ n < 1000) : Ret mJ3_checkIndex_8e157 [.int (iZ k), .int (iZ n), .null] σ (fun r σ' => r = some (.int (iZ k)) ∧ σ' = σ) := by
  refine Ret.of moJ3_checkIndex_8e157.1 (Nat.le_of_ble_eq_true rfl) (fun w => ?_)
  show Go w mJ3_checkIndex_8e157 (0, 0) 0 [some (.int (iZ k)), some (.int (iZ n)), some (.null)] [] σ (fun r σ' => r = some (.int (iZ k)) ∧ σ' = σ)
  refine g_iload_n (q := 1) dJ3_checkIndex_8e157_0 rfl rfl ?_
  refine z_if_lt (t := 9) (q := 4) dJ3_checkIndex_8e157_1 rfl (by omega) rfl (fun pc1 => ?_) (fun pc1 => ?_)
  · exfalso
    omega
  · refine g_iload_n (q := 5) dJ3_checkIndex_8e157_4 rfl rfl ?_
    refine g_iload_n (q := 6) dJ3_checkIndex_8e157_5 rfl rfl ?_
    refine z_icmp_lt (t := 16) (q := 9) dJ3_checkIndex_8e157_6 rfl (by omega) rfl (fun pc2 => ?_) (fun pc2 => ?_)
    · refine g_iload_n (q := 17) dJ3_checkIndex_8e157_16 rfl rfl ?_
      refine z_iret dJ3_checkIndex_8e157_17 rfl ?_
      exact ⟨rfl, rfl⟩
    · exfalso
      omega
theorem r_s_pci_float (σ : g_H0) (k n : Int) (j : UInt32) (h : 0 ≤ k ∧ k < n ∧ n < 1000) : Ret mJ3_checkIndex_8e157 [.int (iZ k), .int (iZ n), .float j] σ (fun r σ' => r = some (.int (iZ k)) ∧ σ' = σ) := by
  refine Ret.of moJ3_checkIndex_8e157.1 (Nat.le_of_ble_eq_true rfl) (fun w => ?_)
  show Go w mJ3_checkIndex_8e157 (0, 0) 0 [some (.int (iZ k)), some (.int (iZ n)), some (.float j)] [] σ (fun r σ' => r = some (.int (iZ k)) ∧ σ' = σ)
  refine g_iload_n (q := 1) dJ3_checkIndex_8e157_0 rfl rfl ?_
  refine z_if_lt (t := 9) (q := 4) dJ3_checkIndex_8e157_1 rfl (by omega) rfl (fun pc1 => ?_) (fun pc1 => ?_)
  · exfalso
    omega
  · refine g_iload_n (q := 5) dJ3_checkIndex_8e157_4 rfl rfl ?_
    refine g_iload_n (q := 6) dJ3_checkIndex_8e157_5 rfl rfl ?_
    refine z_icmp_lt (t := 16) (q := 9) dJ3_checkIndex_8e157_6 rfl (by omega) rfl (fun pc2 => ?_) (fun pc2 => ?_)
    · refine g_iload_n (q := 17) dJ3_checkIndex_8e157_16 rfl rfl ?_
      refine z_iret dJ3_checkIndex_8e157_17 rfl ?_
      exact ⟨rfl, rfl⟩
    · exfalso
      omega
theorem r_s_ci (σ : g_H0) (k n : Int) (h : 0 ≤ k ∧ k < n ∧ n < 1000) : Ret mJ0_checkIndex_df160 [.int (iZ k), .int (iZ n)] σ (fun r σ' => r = none ∧ σ' = σ) := by
  refine Ret.of moJ0_checkIndex_df160.1 (Nat.le_of_ble_eq_true rfl) (fun w => ?_)
  show Go w mJ0_checkIndex_df160 (0, 0) 0 [some (.int (iZ k)), some (.int (iZ n))] [] σ (fun r σ' => r = none ∧ σ' = σ)
  refine g_iload_n (q := 1) dJ0_checkIndex_df160_0 rfl rfl ?_
  refine g_iload_n (q := 2) dJ0_checkIndex_df160_1 rfl rfl ?_
  refine g_getSF (q := 5) fs_sf dJ0_checkIndex_df160_2 rfl (fun v hv => ?_)
  rcases hv with rfl | ⟨j, rfl⟩
  · refine g_callS (As := [.int (iZ k), .int (iZ n), .null]) (rest := []) (q := 8) moJ3_checkIndex_8e157 lkJ0_checkIndex_df160_1059 dJ0_checkIndex_df160_5 (r_s_pci_null σ k n 0 (by omega)) rfl rfl (Nat.le_of_ble_eq_true rfl) (Nat.le_of_ble_eq_true rfl) (Nat.le_of_ble_eq_true rfl) rfl ?_
    rintro r1 s1 hp
    rw [hp.1, hp.2]
    show Go w mJ0_checkIndex_df160 (0, 0) 8 [some (.int (iZ k)), some (.int (iZ n))] [.int (iZ k)] σ (fun r σ' => r = none ∧ σ' = σ)
    refine g_pop (q := 9) dJ0_checkIndex_df160_8 rfl rfl ?_
    refine z_vret dJ0_checkIndex_df160_9 rfl ?_
    exact ⟨rfl, rfl⟩
  · refine g_callS (As := [.int (iZ k), .int (iZ n), .float j]) (rest := []) (q := 8) moJ3_checkIndex_8e157 lkJ0_checkIndex_df160_1059 dJ0_checkIndex_df160_5 (r_s_pci_float σ k n j (by omega)) rfl rfl (Nat.le_of_ble_eq_true rfl) (Nat.le_of_ble_eq_true rfl) (Nat.le_of_ble_eq_true rfl) rfl ?_
    rintro r1 s1 hp
    rw [hp.1, hp.2]
    show Go w mJ0_checkIndex_df160 (0, 0) 8 [some (.int (iZ k)), some (.int (iZ n))] [.int (iZ k)] σ (fun r σ' => r = none ∧ σ' = σ)
    refine g_pop (q := 9) dJ0_checkIndex_df160_8 rfl rfl ?_
    refine z_vret dJ0_checkIndex_df160_9 rfl ?_
    exact ⟨rfl, rfl⟩
theorem r_s_cL (σ : g_H0) (i : Nat) (hi : i < 5) (x : UInt32) (hx : x.toNat = 1 + i) (y : UInt32) (hy : y.toNat = 11 + i) (k : Int) (bk : 0 ≤ k ∧ k < sL i) : Ret mJ1_charAt_3b067 [.float y, .int (iZ k)] σ (fun r σ' => r = some (.int (iZ (sC i k))) ∧ σ' = σ) := by
  refine Ret.of moJ1_charAt_3b067.1 (Nat.le_of_ble_eq_true rfl) (fun w => ?_)
  have bL := (sL_ok i hi).2
  have bC := sC_b hi bk
  show Go w mJ1_charAt_3b067 (0, 0) 0 [some (.float y), some (.int (iZ k))] [] σ (fun r σ' => r = some (.int (iZ (sC i k))) ∧ σ' = σ)
  refine g_iload_n (q := 1) dJ1_charAt_3b067_0 rfl rfl ?_
  refine g_aloadF_n (q := 2) dJ1_charAt_3b067_1 rfl rfl ?_
  refine g_blen (q := 3) hi hy (sL_ok i hi).1 dJ1_charAt_3b067_2 rfl ?_
  refine g_callS (As := [.int (iZ k), .int (iZ (sL i))]) (rest := []) (q := 6) moJ0_checkIndex_df160 lkJ1_charAt_3b067_9 dJ1_charAt_3b067_3 (r_s_ci σ k (sL i) (by omega)) rfl rfl (Nat.le_of_ble_eq_true rfl) (Nat.le_of_ble_eq_true rfl) (Nat.le_of_ble_eq_true rfl) rfl ?_
  rintro r1 s1 hp
  rw [hp.1, hp.2]
  show Go w mJ1_charAt_3b067 (0, 0) 6 [some (.float y), some (.int (iZ k))] [] σ (fun r σ' => r = some (.int (iZ (sC i k))) ∧ σ' = σ)
  refine g_aloadF_n (q := 7) dJ1_charAt_3b067_6 rfl rfl ?_
  refine g_iload_n (q := 8) dJ1_charAt_3b067_7 rfl rfl ?_
  refine g_bald (q := 9) hi hy (sL_in hi (by omega)) (sC_z i (by omega)) dJ1_charAt_3b067_8 rfl ?_
  refine g_sipush (v := iZ 255) (q := 12) dJ1_charAt_3b067_9 (by decide) rfl ?_
  refine g_iand (q := 13) dJ1_charAt_3b067_12 rfl ?_
  rw [(ch_nar (z := (sC i k)) (by omega)).2.2]
  refine g_i2c (q := 14) dJ1_charAt_3b067_13 (ch_nar (z := (sC i k)) (by omega)).2.1 rfl ?_
  refine z_zret dJ1_charAt_3b067_14 rfl (ch_ret (z := (sC i k)) (by omega)) ?_
  exact ⟨rfl, rfl⟩
theorem r_s_charAt (σ : g_H0) (i : Nat) (hi : i < 5) (x : UInt32) (hx : x.toNat = 1 + i) (y : UInt32) (hy : y.toNat = 11 + i) (k : Int) (bk : 0 ≤ k ∧ k < sL i) : Ret mJ0_charAt_5068e [.float x, .int (iZ k)] σ (fun r σ' => r = some (.int (iZ (sC i k))) ∧ σ' = σ) := by
  refine Ret.of moJ0_charAt_5068e.1 (Nat.le_of_ble_eq_true rfl) (fun w => ?_)
  have bC := sC_b hi bk
  show Go w mJ0_charAt_5068e (0, 0) 0 [some (.float x), some (.int (iZ k))] [] σ (fun r σ' => r = some (.int (iZ (sC i k))) ∧ σ' = σ)
  refine g_aloadF_n (q := 1) dJ0_charAt_5068e_0 rfl rfl ?_
  refine g_callVS (As := []) (rest := []) (q := 4) hi hx rfl moJ0_isLatin1_aae02 lkJ0_charAt_5068e_492 dJ0_charAt_5068e_1 (r_s_isLatin1 σ i hi x hx) rfl rfl (Nat.le_of_ble_eq_true rfl) (Nat.le_of_ble_eq_true rfl) (Nat.le_of_ble_eq_true rfl) rfl ?_
  rintro r1 s1 hp
  rw [hp.1, hp.2]
  show Go w mJ0_charAt_5068e (0, 0) 4 [some (.float x), some (.int (iZ k))] [.int (iZ 1)] σ (fun r σ' => r = some (.int (iZ (sC i k))) ∧ σ' = σ)
  refine z_if_eq (t := 16) (q := 7) dJ0_charAt_5068e_4 rfl (by omega) rfl (fun pc1 => ?_) (fun pc1 => ?_)
  · exfalso; omega
  · refine g_aloadF_n (q := 8) dJ0_charAt_5068e_7 rfl rfl ?_
    refine g_getVal (q := 11) hi hx hy fs_val dJ0_charAt_5068e_8 rfl ?_
    show Go w mJ0_charAt_5068e (0, 0) 11 [some (.float x), some (.int (iZ k))] [.float y] σ (fun r σ' => r = some (.int (iZ (sC i k))) ∧ σ' = σ)
    refine g_iload_n (q := 12) dJ0_charAt_5068e_11 rfl rfl ?_
    refine g_callS (As := [.float y, .int (iZ k)]) (rest := []) (q := 15) moJ1_charAt_3b067 lkJ0_charAt_5068e_495 dJ0_charAt_5068e_12 (r_s_cL σ i hi x hx y hy k bk) rfl rfl (Nat.le_of_ble_eq_true rfl) (Nat.le_of_ble_eq_true rfl) (Nat.le_of_ble_eq_true rfl) rfl ?_
    rintro r1 s1 hp
    rw [hp.1, hp.2]
    show Go w mJ0_charAt_5068e (0, 0) 15 [some (.float x), some (.int (iZ k))] [.int (iZ (sC i k))] σ (fun r σ' => r = some (.int (iZ (sC i k))) ∧ σ' = σ)
    refine z_zret dJ0_charAt_5068e_15 rfl (ch_ret (z := (sC i k)) (by omega)) ?_
    exact ⟨rfl, rfl⟩
theorem r_s_length (σ : g_H0) (i : Nat) (hi : i < 5) (x : UInt32) (hx : x.toNat = 1 + i) (y : UInt32) (hy : y.toNat = 11 + i) : Ret mJ0_length_8abf5 [.float x] σ (fun r σ' => r = some (.int (iZ (sL i))) ∧ σ' = σ) := by
  refine Ret.of moJ0_length_8abf5.1 (Nat.le_of_ble_eq_true rfl) (fun w => ?_)
  show Go w mJ0_length_8abf5 (0, 0) 0 [some (.float x)] [] σ (fun r σ' => r = some (.int (iZ (sL i))) ∧ σ' = σ)
  refine g_aloadF_n (q := 1) dJ0_length_8abf5_0 rfl rfl ?_
  refine g_getVal (q := 4) hi hx hy fs_val dJ0_length_8abf5_1 rfl ?_
  show Go w mJ0_length_8abf5 (0, 0) 4 [some (.float x)] [.float y] σ (fun r σ' => r = some (.int (iZ (sL i))) ∧ σ' = σ)
  refine g_blen (q := 5) hi hy (sL_ok i hi).1 dJ0_length_8abf5_4 rfl ?_
  refine g_aloadF_n (q := 6) dJ0_length_8abf5_5 rfl rfl ?_
  refine g_callVS (As := []) (rest := [.int (iZ (sL i))]) (q := 9) hi hx rfl moJ0_coder_7d493 lkJ0_length_8abf5_335 dJ0_length_8abf5_6 (r_s_coder σ i hi x hx) rfl rfl (Nat.le_of_ble_eq_true rfl) (Nat.le_of_ble_eq_true rfl) (Nat.le_of_ble_eq_true rfl) rfl ?_
  rintro r1 s1 hp
  rw [hp.1, hp.2]
  show Go w mJ0_length_8abf5 (0, 0) 9 [some (.float x)] [.int (iZ 0), .int (iZ (sL i))] σ (fun r σ' => r = some (.int (iZ (sL i))) ∧ σ' = σ)
  refine g_ishr (q := 10) dJ0_length_8abf5_9 rfl ?_
  rw [show iZ (sL i) >>> (iZ 0 &&& 31) = iZ (sL i) from sL_shr i hi]
  refine z_iret dJ0_length_8abf5_10 rfl ?_
  exact ⟨rfl, rfl⟩
theorem l_fill (w : g_W) (σ0 : g_H0) (a N : Nat) (n x : Int) (t : Int → Int) (hn : n = N ∧ n < 10000) : ∀ (m : Nat) (i : Int) (σ : g_H0), 0 ≤ i → i + m = n → σ[a]? = some (.inl (0, N, .inl (zA (zcp t (fun _ => x) 0 0 i)))) → g_Fr (fun b => b = a) σ0 σ → Go w mJ7_fill_53178 (0, 0) 5 [some (.ref a), some (.int (iZ x)), some (.int (iZ i)), some (.int (iZ n))] [] σ (fun r σ' => r = none ∧ σ'[a]? = some (.inl (0, N, .inl (zA (zcp t (fun _ => x) 0 0 n)))) ∧ g_Fr (fun b => b = a) σ0 σ') := by
  intro m
  induction m with
  | zero =>
    intro i σ h0 h1 c0 hF
    refine g_iload_n (q := 6) dJ7_fill_53178_5 rfl rfl ?_
    refine g_iload_n (q := 7) dJ7_fill_53178_6 rfl rfl ?_
    refine z_icmp_ge (t := 20) (q := 10) dJ7_fill_53178_7 rfl (by omega) rfl (fun pc1 => ?_) (fun pc1 => ?_)
    · refine z_vret dJ7_fill_53178_20 rfl ?_
      obtain rfl : i = n := by omega
      exact ⟨rfl, c0, hF⟩
    · exfalso
      omega
  | succ m ih =>
    intro i σ h0 h1 c0 hF
    refine g_iload_n (q := 6) dJ7_fill_53178_5 rfl rfl ?_
    refine g_iload_n (q := 7) dJ7_fill_53178_6 rfl rfl ?_
    refine z_icmp_ge (t := 20) (q := 10) dJ7_fill_53178_7 rfl (by omega) rfl (fun pc1 => ?_) (fun pc1 => ?_)
    · exfalso
      omega
    · refine g_aload_n (q := 11) dJ7_fill_53178_10 rfl rfl ?_
      refine g_iload_n (q := 12) dJ7_fill_53178_11 rfl rfl ?_
      refine g_iload_n (q := 13) dJ7_fill_53178_12 rfl rfl ?_
      refine z_iast (q := 14) dJ7_fill_53178_13 c0 (by omega) rfl (fun σ2 c3 f4 => ?_)
      refine z_iincc (c := (i + 1)) (ml' := [some (.ref a), some (.int (iZ x)), some (.int (iZ (i + 1))), some (.int (iZ n))]) (q := 17) dJ7_fill_53178_14 rfl (by omega) rfl rfl rfl ?_
      refine g_goto (q := 5) dJ7_fill_53178_17 rfl ?_
      exact ih (i + 1) σ2 (by omega) (by omega) (by rw [← zcp_step (i := i) (j := i) (v := x) (by omega) (by omega) rfl]; exact c3) (hF.tr f4)
theorem r_fill (σ : g_H0) (a N : Nat) (n x : Int) (t : Int → Int) (hn : n = N ∧ n < 10000) (hv : Int32.ofNat N = iZ n) (c0 : σ[a]? = some (.inl (0, N, .inl (zA t)))) : Ret mJ7_fill_53178 [.ref a, .int (iZ x)] σ (fun r σ' => r = none ∧ σ'[a]? = some (.inl (0, N, .inl (zA (zcp t (fun _ => x) 0 0 n)))) ∧ g_Fr (fun b => b = a) σ σ') := by
  refine Ret.of moJ7_fill_53178.1 (Nat.le_of_ble_eq_true rfl) (fun w => ?_)
  show Go w mJ7_fill_53178 (0, 0) 0 [some (.ref a), some (.int (iZ x)), none, none] [] σ (fun r σ' => r = none ∧ σ'[a]? = some (.inl (0, N, .inl (zA (zcp t (fun _ => x) 0 0 n)))) ∧ g_Fr (fun b => b = a) σ σ')
  refine z_iconst (q := 1) dJ7_fill_53178_0 rfl ?_
  refine g_istore_n (ml' := [some (.ref a), some (.int (iZ x)), some (.int (iZ 0)), none]) (q := 2) dJ7_fill_53178_1 rfl (Nat.le_of_ble_eq_true rfl) rfl rfl ?_
  refine g_aload_n (q := 3) dJ7_fill_53178_2 rfl rfl ?_
  refine g_alen (t := 0) (v := iZ n) (q := 4) dJ7_fill_53178_3 rfl c0 hv rfl ?_
  refine g_istore_n (ml' := [some (.ref a), some (.int (iZ x)), some (.int (iZ 0)), some (.int (iZ n))]) (q := 5) dJ7_fill_53178_4 rfl (Nat.le_of_ble_eq_true rfl) rfl rfl ?_
  exact l_fill w σ a N n x t hn N 0 σ (by omega) (by omega) (by rw [zcp_0]; exact c0) g_Fr.rf
