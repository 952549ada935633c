/-! the start -/
theorem g_start {s : State} {b L : Nat} {xs : Nat → Int32} (hts : ∀ w ∈ lw_tbl, w.before #[Value.ref b] s = true) (hX : va_X b L xs s s.heap) (hbl : b < s.heap.size) (hgv : (Jvm.Cond.and given_1 narrow_1).before #[Value.ref b] s = true) : ∃ w : g_W, g_ba w = s.heap.size ∧ g_ro w 0 = b ∧ g_L w = L ∧ va_K (g_D w) vwCl (g_tys w) s ∧ g_RO w s := by
  have hgt : ∀ y ∈ gTb, y.before #[Value.ref b] s = true := fun y hy => hts y (List.mem_filter.mp hy).1
  have htb : ∀ y ∈ tables_1, y.before #[Value.ref b] s = true := fun y hy => hts y (List.mem_append_right _ hy)
  obtain ⟨c0, i0, k0⟩ := u_known (C := RX0) (T := TX0) (N := 4) (n := 4) hgt g_in0 (hgt (.instantiable RX0 4) (g_tb 148 (by decide +kernel) (by decide +kernel)))
  obtain ⟨c1, i1, k1⟩ := u_known (C := RX1) (T := TX1) (N := 3) (n := 3) hgt g_in1 (hgt (.instantiable RX1 3) (g_tb 93 (by decide +kernel) (by decide +kernel)))
  obtain ⟨c2, i2, k2⟩ := u_known (C := RX2) (T := TX2) (N := 7) (n := 7) hgt g_in2 (hgt (.instantiable RX2 7) (g_tb 176 (by decide +kernel) (by decide +kernel)))
  obtain ⟨c3, i3, k3⟩ := u_known (C := RX3) (T := TX3) (N := 8) (n := 8) hgt g_in3 (hgt (.instantiable RX3 8) (g_tb 113 (by decide +kernel) (by decide +kernel)))
  obtain ⟨c4, i4, k4⟩ := u_known (C := RX4) (T := TX4) (N := 2) (n := 2) hgt g_in4 (hgt (.instantiable RX4 2) (g_tb 44 (by decide +kernel) (by decide +kernel)))
  obtain ⟨c5, i5, k5⟩ := u_known (C := RX5) (T := TX5) (N := 7) (n := 7) hgt g_in5 (hgt (.instantiable RX5 7) (g_tb 58 (by decide +kernel) (by decide +kernel)))
  obtain ⟨c6, i6, k6⟩ := u_known (C := RX6) (T := TX6) (N := 2) (n := 2) hgt g_in6 (hgt (.instantiable RX6 2) (g_tb 28 (by decide +kernel) (by decide +kernel)))
  obtain ⟨c7, i7, k7⟩ := u_known (C := RX7) (T := TX7) (N := 4) (n := 4) hgt g_in7 (hgt (.instantiable RX7 4) (g_tb 186 (by decide +kernel) (by decide +kernel)))
  obtain ⟨c8, i8, k8⟩ := u_known (C := RX8) (T := TX8) (N := 9) (n := 9) hgt g_in8 (hgt (.instantiable RX8 9) (g_tb 20 (by decide +kernel) (by decide +kernel)))
  obtain ⟨c9, i9, k9⟩ := u_known (C := RX9) (T := TX9) (N := 16) (n := 16) hgt g_in9 (hgt (.instantiable RX9 16) (g_tb 699 (by decide +kernel) (by decide +kernel)))
  obtain ⟨a0, ka0, co0, fa0, ha0, kk0⟩ := Cond.arrayClass_spec (hgt (.arrayClass .int) ac_I)
  obtain ⟨a1, ka1, co1, fa1, ha1, kk1⟩ := Cond.arrayClass_spec (hgt (.arrayClass .char) ac_C)
  obtain ⟨co2, a2, ka2, fc2, -, ha2, kk2, fa2⟩ := Cond.arrayOver_spec (htb (.arrayOver (.object RX5)) anX1_9.2)
  obtain ⟨co3, a3, ka3, fc3, -, ha3, kk3, fa3⟩ := Cond.arrayOver_spec (htb (.arrayOver (.object RX7)) anX2_18.2)
  obtain ⟨co4, a4, ka4, fc4, -, ha4, kk4, fa4⟩ := Cond.arrayOver_spec (htb (.arrayOver (.object RX0)) anX2_9.2)
  have hs := flat_of_before _ hgv
  have hA : ∀ q : Nat, q < s.heap.size → ¬ (fun q : Nat => s.heap.size ≤ q) q := fun q h => Nat.not_le.mpr h
  obtain ⟨adK, adV, hvS, hev⟩ := vk_Sof (args := #[Value.ref b]) (s := s) (N := 5) (tm := sTm) (len := g_sLen) (byt := g_sByt) (A := fun q : Nat => s.heap.size ≤ q) st_n (fun i hi => hs _ (st_ex i hi)) (fun i hi => hs _ (st_co i hi)) (fun i hi => hs _ (st_ar i hi)) (fun i hi => hs _ (st_le i hi)) (fun i hi j hj => hs _ (st_el i hi j hj)) (fun i j hi hj hij => (st_ne i hi j hj hij).imp (hs _) (hs _)) hA
  have z1 := va_Zof (A := fun q : Nat => s.heap.size ≤ q) (htb (.laysStatic "java/lang/String" "COMPACT_STRINGS" "Z") (List.mem_of_getElem? (i := 261) (by decide +kernel))) (htb (.initialized "java/lang/String") (List.mem_of_getElem? (i := 10) (by decide +kernel))) (va_eqi (hs (.eq (.static "java/lang/String" "COMPACT_STRINGS" "Z") (.int 1)) (by decide +kernel))) hA
  have z2 := va_Zqof (A := fun q : Nat => s.heap.size ≤ q) (htb (.laysStatic "jdk/internal/util/Preconditions" "SIOOBE_FORMATTER" "Ljava/util/function/BiFunction;") (List.mem_of_getElem? (i := 277) (by decide +kernel))) (htb (.initialized "jdk/internal/util/Preconditions") (List.mem_of_getElem? (i := 12) (by decide +kernel))) (hs (.isRef (.static "jdk/internal/util/Preconditions" "SIOOBE_FORMATTER" "Ljava/util/function/BiFunction;")) (by decide +kernel)) hA
  have z3 : ∃ (sv : Value) (t : Nat), (sv = .null ∨ sv = .float 20) ∧ va_Z "jdk/internal/util/Preconditions" "SIOOBE_FORMATTER" "Ljava/util/function/BiFunction;" (match sv with | .float _ => .ref t | v => v) (fun q : Nat => s.heap.size ≤ q) s s.heap := by
    rcases z2 with h | ⟨t, h⟩
    · exact ⟨.null, 0, Or.inl rfl, h⟩
    · exact ⟨.float 20, t, Or.inr rfl, h⟩
  obtain ⟨sv, t, hsv, z3⟩ := z3
  obtain ⟨ro, ro0, roK, roV, roT⟩ : ∃ ro : Nat → Nat, ro 0 = b ∧ (∀ i, i < 5 → ro (1 + i) = adK i) ∧ (∀ i, i < 5 → ro (11 + i) = adV i) ∧ ro 20 = t := by
    refine ⟨fun k => if k = 0 then b else if k < 11 then adK (k - 1) else if k < 20 then adV (k - 11) else t, rfl, fun i hi => ?_, fun i hi => ?_, rfl⟩
    · show (if 1 + i = 0 then b else if 1 + i < 11 then adK (1 + i - 1) else if 1 + i < 20 then adV (1 + i - 11) else t) = adK i
      rw [if_neg (by omega), if_pos (by omega), show 1 + i - 1 = i by omega]
    · show (if 11 + i = 0 then b else if 11 + i < 11 then adK (11 + i - 1) else if 11 + i < 20 then adV (11 + i - 11) else t) = adV i
      rw [if_neg (by omega), if_neg (by omega), if_pos (by omega), show 11 + i - 11 = i by omega]
  refine ⟨(s.heap.size, ro, (fun k => [c0, c1, c2, c3, c4, c5, c6, c7, c8, c9].getD k c0, fun k => [i0, i1, i2, i3, i4, i5, i6, i7, i8, i9].getD k i0), fun k => [a0, a1, a2, a3, a4].getD k a0, L, xs, sv), rfl, ro0, rfl, ⟨?_, ?_⟩, ?_⟩
  · intro k q hq
    match k, hq with
    | 0, hq => cases hq; exact k0
    | 1, hq => cases hq; exact k1
    | 2, hq => cases hq; exact k2
    | 3, hq => cases hq; exact k3
    | 4, hq => cases hq; exact k4
    | 5, hq => cases hq; exact k5
    | 6, hq => cases hq; exact k6
    | 7, hq => cases hq; exact k7
    | 8, hq => cases hq; exact k8
    | 9, hq => cases hq; exact k9
    | k + 10, hq => simp at hq
  · intro k q hq
    match k, hq with
    | 0, hq => cases hq; exact ⟨fun N z => ⟨(fun k h => by cases h), ka0, ha0, co0, kk0⟩, fa0⟩
    | 1, hq => cases hq; exact ⟨fun N z => ⟨(fun k h => by cases h), ka1, ha1, co1, kk1⟩, fa1⟩
    | 2, hq => cases hq; exact ⟨fun N z => ⟨(fun k h => by cases h), ka2, ha2, co2, kk2⟩, ka2, co2, ha2, kk2, fc2, fa2⟩
    | 3, hq => cases hq; exact ⟨fun N z => ⟨(fun k h => by cases h), ka3, ha3, co3, kk3⟩, ka3, co3, ha3, kk3, fc3, fa3⟩
    | 4, hq => cases hq; exact ⟨fun N z => ⟨(fun k h => by cases h), ka4, ha4, co4, kk4⟩, ka4, co4, ha4, kk4, fc4, fa4⟩
    | k + 5, hq => simp [g_tys] at hq
  · refine ⟨⟨?_, ?_⟩, ⟨⟨fun i hi => ?_, fun i j hi hj e => ?_⟩, fun i hi => ?_, z1, ?_, ?_⟩, fun a i x h hm => va_Nw.of rfl (htb _ hm), fun C hm => va_AO.of (htb _ hm)⟩
    · show va_X (ro 0) L xs s s.heap
      rw [ro0]; exact hX
    · show ro 0 < s.heap.size
      rw [ro0]; exact hbl
    · show va_O "java/lang/String" (ro (1 + i)) _ s s.heap ∧ va_OF "java/lang/String" "coder" "B" (.int 0) (ro (1 + i)) _ s s.heap ∧ va_OF "java/lang/String" "value" "[B" (.ref (ro (11 + i))) (ro (1 + i)) _ s s.heap ∧ va_T .byte (ro (11 + i)) (g_sLen.getD i 0) (fun j => .int ((g_sByt.getD i []).getD j 0)) _ s s.heap
      rw [roK i hi, roV i hi]; exact hvS.1 i hi
    · have e : ro (1 + i) = ro (1 + j) := e
      rw [roK i hi, roK j hj] at e; exact hvS.2 i j hi hj e
    · show vk_R (g_sOwn i) (g_sIdx i) (g_sTx i) (ro (1 + i)) s
      rw [roK i hi]; exact vk_R.of (htb _ (st_rf i hi)) (hev i hi)
    · rcases hsv with rfl | rfl
      · exact z3
      · show va_Z _ _ _ (.ref (ro 20)) _ s s.heap
        rw [roT]; exact z3
    · rcases hsv with rfl | rfl
      · exact Or.inl rfl
      · exact Or.inr ⟨20, rfl⟩
