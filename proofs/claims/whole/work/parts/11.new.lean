theorem obX0_1 : Cond.methodLink RX0 1 objectInit ∈ gTb := g_tb 152 (by decide +kernel) (by decide +kernel)
theorem anX1_9 : Cond.classLink RX1 9 RX5 ∈ gTb ∧ Cond.arrayOver (.object RX5) ∈ tables_1 := ⟨g_tb 98 (by decide +kernel) (by decide +kernel), List.mem_of_getElem? (i := 99) (by decide +kernel)⟩
theorem nwX1_9 : g_NW RX1 9 5 7 [.null, .null, .null, .int (iZ 0), .int (iZ 0), .int (iZ 0), .int (iZ 0)] := ⟨RX5, TX5, tyX5, rfl, g_in5, tyX5_ok, g_tb 98 (by decide +kernel) (by decide +kernel), g_tb 58 (by decide +kernel) (by decide +kernel), g_tb 4 (by decide +kernel) (by decide +kernel), by decide +kernel, fun _ => rfl⟩
theorem obX1_3 : Cond.methodLink RX1 3 objectInit ∈ gTb := g_tb 97 (by decide +kernel) (by decide +kernel)
theorem nwX2_9 : g_NW RX2 9 0 4 [.int (iZ 0), .int (iZ 0), .int (iZ 0), .int (iZ 0)] := ⟨RX0, TX0, tyX0, rfl, g_in0, tyX0_ok, g_tb 181 (by decide +kernel) (by decide +kernel), g_tb 148 (by decide +kernel) (by decide +kernel), g_tb 7 (by decide +kernel) (by decide +kernel), by decide +kernel, fun _ => rfl⟩
theorem anX2_18 : Cond.classLink RX2 18 RX7 ∈ gTb ∧ Cond.arrayOver (.object RX7) ∈ tables_1 := ⟨g_tb 183 (by decide +kernel) (by decide +kernel), List.mem_of_getElem? (i := 184) (by decide +kernel)⟩
theorem anX2_9 : Cond.classLink RX2 9 RX0 ∈ gTb ∧ Cond.arrayOver (.object RX0) ∈ tables_1 := ⟨g_tb 181 (by decide +kernel) (by decide +kernel), List.mem_of_getElem? (i := 185) (by decide +kernel)⟩
theorem nwX2_18 : g_NW RX2 18 7 4 [.int (iZ 0), .int (iZ 0), .int (iZ 0), .int (iZ 0)] := ⟨RX7, TX7, tyX7, rfl, g_in7, tyX7_ok, g_tb 183 (by decide +kernel) (by decide +kernel), g_tb 186 (by decide +kernel) (by decide +kernel), g_tb 9 (by decide +kernel) (by decide +kernel), by decide +kernel, fun _ => rfl⟩
theorem obX2_3 : Cond.methodLink RX2 3 objectInit ∈ gTb := g_tb 180 (by decide +kernel) (by decide +kernel)
theorem obX3_3 : Cond.methodLink RX3 3 objectInit ∈ gTb := g_tb 117 (by decide +kernel) (by decide +kernel)
theorem obX4_3 : Cond.methodLink RX4 3 objectInit ∈ gTb := g_tb 48 (by decide +kernel) (by decide +kernel)
theorem obX5_3 : Cond.methodLink RX5 3 objectInit ∈ gTb := g_tb 62 (by decide +kernel) (by decide +kernel)
theorem obX6_3 : Cond.methodLink RX6 3 objectInit ∈ gTb := g_tb 32 (by decide +kernel) (by decide +kernel)
theorem obX7_1 : Cond.methodLink RX7 1 objectInit ∈ gTb := g_tb 190 (by decide +kernel) (by decide +kernel)
theorem nwX8_7 : g_NW RX8 7 6 2 [.null, .int (iZ 0)] := ⟨RX6, TX6, tyX6, rfl, g_in6, tyX6_ok, g_tb 27 (by decide +kernel) (by decide +kernel), g_tb 28 (by decide +kernel) (by decide +kernel), g_tb 2 (by decide +kernel) (by decide +kernel), by decide +kernel, fun _ => rfl⟩
theorem nwX8_16 : g_NW RX8 16 4 2 [.null, .int (iZ 0)] := ⟨RX4, TX4, tyX4, rfl, g_in4, tyX4_ok, g_tb 43 (by decide +kernel) (by decide +kernel), g_tb 44 (by decide +kernel) (by decide +kernel), g_tb 3 (by decide +kernel) (by decide +kernel), by decide +kernel, fun _ => rfl⟩
theorem nwX8_23 : g_NW RX8 23 5 7 [.null, .null, .null, .int (iZ 0), .int (iZ 0), .int (iZ 0), .int (iZ 0)] := ⟨RX5, TX5, tyX5, rfl, g_in5, tyX5_ok, g_tb 57 (by decide +kernel) (by decide +kernel), g_tb 58 (by decide +kernel) (by decide +kernel), g_tb 4 (by decide +kernel) (by decide +kernel), by decide +kernel, fun _ => rfl⟩
theorem nwX8_33 : g_NW RX8 33 1 3 [.null, .int (iZ 0), .int (iZ 0)] := ⟨RX1, TX1, tyX1, rfl, g_in1, tyX1_ok, g_tb 92 (by decide +kernel) (by decide +kernel), g_tb 93 (by decide +kernel) (by decide +kernel), g_tb 5 (by decide +kernel) (by decide +kernel), by decide +kernel, fun _ => rfl⟩
theorem nwX8_40 : g_NW RX8 40 3 8 [.null, .null, .null, .int (iZ 0), .null, .int (iZ 0), .int (iZ 0), .int (iZ 0)] := ⟨RX3, TX3, tyX3, rfl, g_in3, tyX3_ok, g_tb 112 (by decide +kernel) (by decide +kernel), g_tb 113 (by decide +kernel) (by decide +kernel), g_tb 6 (by decide +kernel) (by decide +kernel), by decide +kernel, fun _ => rfl⟩
theorem nwX8_47 : g_NW RX8 47 0 4 [.int (iZ 0), .int (iZ 0), .int (iZ 0), .int (iZ 0)] := ⟨RX0, TX0, tyX0, rfl, g_in0, tyX0_ok, g_tb 147 (by decide +kernel) (by decide +kernel), g_tb 148 (by decide +kernel) (by decide +kernel), g_tb 7 (by decide +kernel) (by decide +kernel), by decide +kernel, fun _ => rfl⟩
theorem nwX8_54 : g_NW RX8 54 2 7 [.null, .null, .null, .null, .int (iZ 0), .int (iZ 0), .int (iZ 0)] := ⟨RX2, TX2, tyX2, rfl, g_in2, tyX2_ok, g_tb 175 (by decide +kernel) (by decide +kernel), g_tb 176 (by decide +kernel) (by decide +kernel), g_tb 8 (by decide +kernel) (by decide +kernel), by decide +kernel, fun _ => rfl⟩
theorem obX8_1 : Cond.methodLink RX8 1 objectInit ∈ gTb := g_tb 24 (by decide +kernel) (by decide +kernel)
theorem obX9_1 : Cond.methodLink RX9 1 objectInit ∈ gTb := g_tb 703 (by decide +kernel) (by decide +kernel)
theorem nwL_7 : g_NW RL 7 8 9 [.null, .null, .null, .null, .null, .null, .null, .null, .null] := ⟨RX8, TX8, tyX8, rfl, g_in8, tyX8_ok, g_tb 19 (by decide +kernel) (by decide +kernel), g_tb 20 (by decide +kernel) (by decide +kernel), g_tb 1 (by decide +kernel) (by decide +kernel), by decide +kernel, fun _ => rfl⟩
theorem nwL_10 : g_NW RL 10 9 16 [.int (iZ 0), .null, .int (iZ 0), .null, .null, .null, .null, .int (iZ 0), .null, .null, .null, .int (iZ 0), .int (iZ 0), .null, .null, .null] := ⟨RX9, TX9, tyX9, rfl, g_in9, tyX9_ok, g_tb 698 (by decide +kernel) (by decide +kernel), g_tb 699 (by decide +kernel) (by decide +kernel), g_tb 16 (by decide +kernel) (by decide +kernel), by decide +kernel, fun _ => rfl⟩
theorem ob_i : Cond.instanceMethod objectInit ∈ gTb := g_tb 25 (by decide +kernel) (by decide +kernel)
theorem ob_c : Cond.code objectInit ⟨#[0xb1]⟩ 1 none ∈ gTb := g_tb 26 (by decide +kernel) (by decide +kernel)
theorem ac_I : Cond.arrayClass .int ∈ gTb := g_tb 56 (by decide +kernel) (by decide +kernel)
theorem ac_C : Cond.arrayClass .char ∈ gTb := g_tb 42 (by decide +kernel) (by decide +kernel)
/-- the heap has grown -/
def g_Gr (σ σ' : g_H0) : Prop := ∀ k, k < σ.length → σ'[k]? = σ[k]?
theorem g_Gr.at {σ σ' : g_H0} (h : g_Gr σ σ') {k : Nat} {e : va_E} (he : σ[k]? = some e) : σ'[k]? = some e := (h k (List.getElem?_eq_some_iff.mp he).1).trans he
/-- all below a is as it was -/
def g_Nf (a : Nat) (σ σ' : g_H0) : Prop := ∀ k, k < a → σ'[k]? = σ[k]?
theorem g_Nf.rf {a : Nat} {σ : g_H0} : g_Nf a σ σ := fun _ _ => rfl
theorem g_Nf.put {a x : Nat} {σ σ1 σ2 : g_H0} (h : g_Nf a σ σ1) (f : g_Fr (fun b => b = x) σ1 σ2) (hx : a ≤ x) : g_Nf a σ σ2 := fun k hk => (f.2 k (fun e : k = x => by omega)).trans (h k hk)
theorem g_Nf.fr {a : Nat} {P : Nat → Prop} {σ σ1 σ2 : g_H0} (h : g_Nf a σ σ1) (f : g_Fr P σ1 σ2) (hx : ∀ k, P k → a ≤ k) : g_Nf a σ σ2 := fun k hk => (f.2 k (fun e => by have := hx k e; omega)).trans (h k hk)
theorem g_Nf.al {a : Nat} {σ σ1 σ2 : g_H0} (h : g_Nf a σ σ1) (f : g_Gr σ1 σ2) (hx : a ≤ σ1.length) : g_Nf a σ σ2 := fun k hk => (f k (by omega)).trans (h k hk)
theorem g_Nf.tr {a b : Nat} {σ σ1 σ2 : g_H0} (h : g_Nf a σ σ1) (f : g_Nf b σ1 σ2) (hx : a ≤ b) : g_Nf a σ σ2 := fun k hk => (f k (by omega)).trans (h k hk)
section GN
variable {w : g_W} {M M' : g_MD} {cs : Nat × Nat} {pc q : Nat} {ml : List (Option Value)} {st : List Value} {σ σ' : g_H0} {Φ Φ' : g_Post}
theorem g_push (σ : g_H0) (e : va_E) {a : Nat} (ha : σ.length = a) : (σ ++ [e]).length = a + 1 ∧ (σ ++ [e])[a]? = some e ∧ g_Gr σ (σ ++ [e]) := by
  subst ha
  refine ⟨by simp, by simp, fun k hk => List.getElem?_append_left hk⟩
theorem z_new {idx ci n a : Nat} {fs : List Value} (hw : g_NW M.1.cls idx ci n fs) (hd : decode M.2.1 pc = .ok (.new idx, 3)) (hcells : cs.1 + 1 ≤ (g_rm M).cells) (hslots : cs.2 + n ≤ (g_rm M).slots) (ha : σ.length = a) (hq : pc + 3 = q) (k : ∀ σ' : g_H0, σ'.length = a + 1 → σ'[a]? = some (.inr (ci, fs)) → g_Gr σ σ' → Go w M (cs.1 + 1, cs.2 + n) q ml (.ref a :: st) σ' Φ) : Go w M cs pc ml st σ Φ :=
  g_new hw hd hcells hslots ha rfl hq (k _ (g_push σ _ ha).1 (g_push σ _ ha).2.1 (g_push σ _ ha).2.2)
theorem z_newI {a : Nat} {N : Nat} {n : Int} (hd : decode M.2.1 pc = .ok (.newarray .int, 2)) (hn0 : 0 ≤ n ∧ n < 100000) (hN : n.toNat = N) (hcells : cs.1 + 1 ≤ (g_rm M).cells) (hslots : cs.2 + N ≤ (g_rm M).slots) (ha : σ.length = a) (hq : pc + 2 = q) (k : ∀ σ' : g_H0, σ'.length = a + 1 → σ'[a]? = some (.inl (0, N, .inl (zA (fun _ => 0)))) → g_Gr σ σ' → Go w M (cs.1 + 1, cs.2 + N) q ml (.ref a :: st) σ' Φ) : Go w M cs pc ml (.int (iZ n) :: st) σ Φ :=
  g_newI hd ac_I (by rw [iZ_0, iZ_lt (by omega)]; omega) (by rw [iZ_clamp (by omega) (by omega)]; exact hN) (by omega) hcells hslots ha rfl hq (k _ (g_push σ _ ha).1 (g_push σ _ ha).2.1 (g_push σ _ ha).2.2)
theorem z_newC {a : Nat} {N : Nat} {n : Int} (hd : decode M.2.1 pc = .ok (.newarray .char, 2)) (hn0 : 0 ≤ n ∧ n < 100000) (hN : n.toNat = N) (hcells : cs.1 + 1 ≤ (g_rm M).cells) (hslots : cs.2 + N ≤ (g_rm M).slots) (ha : σ.length = a) (hq : pc + 2 = q) (k : ∀ σ' : g_H0, σ'.length = a + 1 → σ'[a]? = some (.inl (1, N, .inl (zA (fun _ => 0)))) → g_Gr σ σ' → Go w M (cs.1 + 1, cs.2 + N) q ml (.ref a :: st) σ' Φ) : Go w M cs pc ml (.int (iZ n) :: st) σ Φ :=
  g_newC hd ac_C (by rw [iZ_0, iZ_lt (by omega)]; omega) (by rw [iZ_clamp (by omega) (by omega)]; exact hN) (by omega) hcells hslots ha rfl hq (k _ (g_push σ _ ha).1 (g_push σ _ ha).2.1 (g_push σ _ ha).2.2)
theorem z_newA {a idx t : Nat} {Cn : String} {N : Nat} {n : Int} (hd : decode M.2.1 pc = .ok (.anewarray idx, 3)) (ht : (g_tys w)[t]? = some (g_ca w t, .object Cn)) (hcl : Cond.classLink M.1.cls idx Cn ∈ gTb ∧ Cond.arrayOver (.object Cn) ∈ tables_1) (hn0 : 0 ≤ n ∧ n < 100000) (hN : n.toNat = N) (hcells : cs.1 + 1 ≤ (g_rm M).cells) (hslots : cs.2 + N ≤ (g_rm M).slots) (ha : σ.length = a) (hq : pc + 3 = q) (k : ∀ σ' : g_H0, σ'.length = a + 1 → σ'[a]? = some (.inl (t, N, .inr (.inr (.inr (.inr (fun _ => none)))))) → g_Gr σ σ' → Go w M (cs.1 + 1, cs.2 + N) q ml (.ref a :: st) σ' Φ) : Go w M cs pc ml (.int (iZ n) :: st) σ Φ :=
  g_newA hd ht hcl.1 hcl.2 (by rw [iZ_0, iZ_lt (by omega)]; omega) (by rw [iZ_clamp (by omega) (by omega)]; exact hN) (by omega) hcells hslots ha rfl hq (k _ (g_push σ _ ha).1 (g_push σ _ ha).2.1 (g_push σ _ ha).2.2)
theorem z_aast {a n t b ci : Nat} {r : vw_C} {f : Nat → Option Nat} {vs : List Value} {i : Int} (hd : decode M.2.1 pc = .ok (.aastore, 1)) (hc : vwCl[ci]? = some r) (ht : (g_tys w)[t]? = some (g_ca w t, .object r.1)) (hσ : σ[a]? = some (.inl (t, n, .inr (.inr (.inr (.inr f)))))) (hb : σ[b]? = some (.inr (ci, vs))) (h : 0 ≤ i ∧ i < n ∧ n < 2147483648) (hq : pc + 1 = q) (k : ∀ σ' : g_H0, σ'[a]? = some (.inl (t, n, .inr (.inr (.inr (.inr (va_up f i.toNat (some b))))))) → g_Fr (fun b => b = a) σ σ' → Go w M cs q ml st σ' Φ) : Go w M cs pc ml (.ref b :: .int (iZ i) :: .ref a :: st) σ Φ := by
  refine g_aast hd hc ht hσ hb (iZ_in h.1 h.2.1 h.2.2) rfl hq ?_
  rw [iZ_clamp (by omega) (by omega)]
  exact k _ (List.getElem?_set_self (List.getElem?_eq_some_iff.mp hσ).1) (g_Fr.set rfl)
end GN
