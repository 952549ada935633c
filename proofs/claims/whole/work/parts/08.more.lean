section GM
variable {w : g_W} {M M' : g_MD} {cs : Nat × Nat} {pc q : Nat} {ml : List (Option Value)} {st : List Value} {σ σ' : g_H0} {Φ Φ' : g_Post}
/-! System.arraycopy of ints -/
def g_AC : Prop := Cond.native arraycopyName ∈ gTb ∧ Cond.static arraycopyName ∈ gTb ∧ Cond.initialized "java/lang/System" ∈ gTb
theorem g_copy {idx a b n0 n1 : Nat} {f g : Nat → Int32} {sp dp n : Int32} (hl : Cond.methodLink M.1.cls idx arraycopyName ∈ gTb) (hw : g_AC) (hd : decode M.2.1 pc = .ok (.invokestatic idx, 3)) (hσ0 : σ[a]? = some (.inl (0, n0, .inl f))) (hσ1 : σ[b]? = some (.inl (0, n1, .inl g)))
    (h1 : ¬ sp < 0) (h2 : ¬ dp < 0) (h3 : ¬ n < 0) (h4 : sp.toNatClampNeg + n.toNatClampNeg ≤ n0) (h5 : dp.toNatClampNeg + n.toNatClampNeg ≤ n1) (hfr : 1 ≤ (g_rm M).frames) (hlo : (st.map Value.category).sum ≤ 8) (hlo2 : 26 ≤ (g_rm M).locals)
    (hs : σ.set b (.inl (0, n1, .inl (va_cpy f g sp.toNatClampNeg dp.toNatClampNeg n.toNatClampNeg))) = σ') (hq : pc + 3 = q) (k : Go w M cs q ml st σ' Φ) : Go w M cs pc ml (.int n :: .int dp :: .ref b :: .int sp :: .ref a :: st) σ Φ := by
  subst hq; subst hs
  intro p l e s m args below meth c C H locs ls hH hS hn hL
  have hts := C.2.2.2.2.1
  have hK := C.2.2.2.2.2.2.2.2.1
  have nn : ∀ z : Int32, ¬ z < 0 → z.toInt = (z.toNatClampNeg : Int) := by
    intro z hz
    have hz0 : (0 : Int) ≤ z.toInt := by
      have := Int32.not_lt.mp hz
      simpa using Int32.le_iff_toInt_le.mp this
    show z.toInt = ((z.toInt.toNat : Nat) : Int)
    omega
  have hc0 : H[g_ba w + a]? = some (vp_cell (g_ca w 0) (n0, .inl f)) := hH.2 a _ (g_S_at hσ0)
  have hc1 : H[g_ba w + b]? = some (vp_cell (g_ca w 0) (n1, .inl g)) := hH.2 b _ (g_S_at hσ1)
  intro T hT X
  obtain ⟨-, k0, hk0, cm0, hkk0⟩ := (hK.2 0 _ rfl).1 n0 (fun j => .int (f j))
  obtain ⟨-, k1, hk1, cm1, hkk1⟩ := (hK.2 0 _ rfl).1 n1 (fun j => .int (g j))
  obtain ⟨vm', X', step⟩ := X.arraycopy C.1 C.2.2.2.2.2.1 (hts _ hl) (hts _ hw.1) (hts _ hw.2.1) (hts _ hw.2.2) (src := g_ba w + a) (dst := g_ba w + b) (cs := vp_cell (g_ca w 0) (n0, .inl f)) (cd := vp_cell (g_ca w 0) (n1, .inl g)) (srcPos := sp) (destPos := dp) (n := n) (by rw [hT]; exact hc0) (by rw [hT]; exact hc1)
    (fun _ h => by cases h) (fun _ h => by cases h) (fun h => by cases h) (fun h => by cases h) hk0 hk1 hkk0 hkk1 (by simp [refKind]) h1 h2 h3
    (by rw [nn sp h1, nn n h3]; show ¬ _ > ((arrV _ n0 (fun j => .int (f j))).slots.size : Int); rw [arrV_size]; omega)
    (by rw [nn dp h2, nn n h3]; show ¬ _ > ((arrV _ n1 (fun j => .int (g j))).slots.size : Int); rw [arrV_size]; omega)
    (fun vm₁ _ i hi => by
      have e : (vp_cell (g_ca w 0) (n0, .inl f)).slots.getD (sp.toNatClampNeg + i) .null = .int (f (sp.toNatClampNeg + i)) := by
        show (arrV _ n0 (fun j => .int (f j))).slots.getD _ _ = _
        rw [Array.getD_eq_getD_getElem?, arrV_read _ _ (by omega)]
        rfl
      refine ⟨?_, ?_⟩
      · rw [e]; rfl
      · rw [e]
        exact trivial)
    (g := F0 m pc ls (.int n :: .int dp :: .ref (g_ba w + b) :: .int sp :: .ref (g_ba w + a) :: st.map (g_V w))) rfl (by rw [C.2.2.2.1, ← hn]; exact hL.1) (rest := st.map (g_V w)) rfl (by rw [C.2.1]; exact hd) hfr (by
      show 2 * 0 + _ + (nativeFrameWords "java/lang/System" "arraycopy" 5 + 11) ≤ _
      have h := g_cat (w := w) hlo
      have h7 : nativeFrameWords "java/lang/System" "arraycopy" 5 = 7 := by decide +kernel
      rw [h7]; omega)
  have e1 : copied (vp_cell (g_ca w 0) (n0, .inl f)) (vp_cell (g_ca w 0) (n1, .inl g)) sp dp n = vp_cell (g_ca w 0) (n1, .inl (va_cpy f g sp.toNatClampNeg dp.toNatClampNeg n.toNatClampNeg)) := va_copied (fun z => .int z) _ _ f g h4
  rw [e1] at X' step
  have hl' : g_ba w + b < H.size := (Array.getElem?_eq_some_iff.mp hc1).1
  have hheap : ((T.setVm vm').setCell (g_ba w + b) (vp_cell (g_ca w 0) (n1, .inl (va_cpy f g sp.toNatClampNeg dp.toNatClampNeg n.toNatClampNeg)))).heap = H.setIfInBounds (g_ba w + b) (vp_cell (g_ca w 0) (n1, .inl (va_cpy f g sp.toNatClampNeg dp.toNatClampNeg n.toNatClampNeg))) := by rw [← hT]; rfl
  have oq : ∀ q : Nat, q ≠ g_ba w + b → (H.setIfInBounds (g_ba w + b) (vp_cell (g_ca w 0) (n1, .inl (va_cpy f g sp.toNatClampNeg dp.toNatClampNeg n.toNatClampNeg))))[q]? = H[q]? := fun q hq => by simp [Array.getElem?_setIfInBounds, Ne.symm hq]
  obtain ⟨t, a1, b1⟩ := k p l e s m args below meth c C _ _ ls (hH.set hσ1 (by simp) (show (H.setIfInBounds (g_ba w + b) _)[_]? = some _ by simp [Array.getElem?_setIfInBounds, hl']) oq) ⟨by simp; exact hS.1, fun q g1 g2 => by
      rw [oq q (fun e => g2 (by rw [e]; exact Nat.le_add_right _ _))]
      exact hS.2.1 q g1 g2, fun q hq => by
      rcases List.mem_append.mp hq with h | h
      · exact hS.2.2 q h
      · obtain ⟨z, -, hz⟩ := List.mem_map.mp h
        rw [← hz]
        exact Nat.le_add_right _ _⟩ hn hL _ hheap X'
  exact ⟨t, step t a1, b1⟩
/-! String constants -/
theorem g_getVal {i : Nat} {x y : UInt32} (hi : i < 5) (hx : x.toNat = 1 + i) (hy : y.toNat = 11 + i) (hlk : Cond.fieldLink M.1.cls 9 "java/lang/String" "value" "[B" ∈ gTb) (hd : decode M.2.1 pc = .ok (.getfield 9, 3)) (hq : pc + 3 = q) (k : Go w M cs q ml (.float y :: st) σ Φ) : Go w M cs pc ml (.float x :: st) σ Φ := by
  subst hq
  intro p l e s m args below meth c C H locs ls hH hS hn hL
  obtain ⟨-, ⟨h3, -⟩, -⟩ := C.2.2.2.2.2.2.2.2.2.1
  have hk := k p l e s m args below meth c C H locs ls hH hS hn hL
  simp only [List.map_cons, g_V, hx, hy] at hk ⊢
  exact vk_getf C.1 C.2.1 (h3.1 i hi).2.2.1 hS C.2.2.2.2.2.1 (C.2.2.2.2.1 _ hlk) (fun _ h => h) hd hk
theorem g_getCod {i : Nat} {x : UInt32} (hi : i < 5) (hx : x.toNat = 1 + i) (hlk : Cond.fieldLink M.1.cls 15 "java/lang/String" "coder" "B" ∈ gTb) (hd : decode M.2.1 pc = .ok (.getfield 15, 3)) (hq : pc + 3 = q) (k : Go w M cs q ml (.int 0 :: st) σ Φ) : Go w M cs pc ml (.float x :: st) σ Φ := by
  subst hq
  intro p l e s m args below meth c C H locs ls hH hS hn hL
  obtain ⟨-, ⟨h3, -⟩, -⟩ := C.2.2.2.2.2.2.2.2.2.1
  have hk := k p l e s m args below meth c C H locs ls hH hS hn hL
  simp only [List.map_cons, g_V, hx] at hk ⊢
  exact vk_getf C.1 C.2.1 (h3.1 i hi).2.1 hS C.2.2.2.2.2.1 (C.2.2.2.2.1 _ hlk) (fun _ h => h) hd hk
theorem g_blen {i : Nat} {y : UInt32} {v : Int32} (hi : i < 5) (hy : y.toNat = 11 + i) (hv : Int32.ofNat (g_sLen.getD i 0) = v) (hd : decode M.2.1 pc = .ok (.arraylength, 1)) (hq : pc + 1 = q) (k : Go w M cs q ml (.int v :: st) σ Φ) : Go w M cs pc ml (.float y :: st) σ Φ := by
  subst hq
  intro p l e s m args below meth c C H locs ls hH hS hn hL
  obtain ⟨-, ⟨h3, -⟩, -⟩ := C.2.2.2.2.2.2.2.2.2.1
  have hk := k p l e s m args below meth c C H locs ls hH hS hn hL
  simp only [List.map_cons, g_V, hy] at hk ⊢
  exact va_tlen C.1 C.2.1 (h3.1 i hi).2.2.2 hS hv hd hk
theorem g_bald {i : Nat} {y : UInt32} {j v : Int32} (hi : i < 5) (hy : y.toNat = 11 + i) (hin : vp_in j (g_sLen.getD i 0)) (hv : (g_sByt.getD i []).getD j.toNatClampNeg 0 = v) (hd : decode M.2.1 pc = .ok (.baload, 1)) (hq : pc + 1 = q) (k : Go w M cs q ml (.int v :: st) σ Φ) : Go w M cs pc ml (.int j :: .float y :: st) σ Φ := by
  subst hq
  intro p l e s m args below meth c C H locs ls hH hS hn hL
  obtain ⟨-, ⟨h3, -⟩, -⟩ := C.2.2.2.2.2.2.2.2.2.1
  have hk := k p l e s m args below meth c C H locs ls hH hS hn hL
  simp only [List.map_cons, g_V, hy] at hk ⊢
  exact va_tb C.1 C.2.1 (h3.1 i hi).2.2.2 hS hin (v := .int v) (by rw [← hv]) hd hk
theorem g_getCS (hlk : Cond.fieldLink M.1.cls 38 "java/lang/String" "COMPACT_STRINGS" "Z" ∈ gTb) (hd : decode M.2.1 pc = .ok (.getstatic 38, 3)) (hq : pc + 3 = q) (k : Go w M cs q ml (.int 1 :: st) σ Φ) : Go w M cs pc ml st σ Φ := by
  subst hq
  intro p l e s m args below meth c C H locs ls hH hS hn hL
  obtain ⟨-, ⟨-, -, h5, -⟩, -⟩ := C.2.2.2.2.2.2.2.2.2.1
  exact va_gets C.1 C.2.1 h5 hS C.2.2.2.2.2.1 (C.2.2.2.2.1 _ hlk) (fun _ h => h) hd (k p l e s m args below meth c C H locs ls hH hS hn hL)
theorem g_getSF (hlk : Cond.fieldLink M.1.cls 1053 "jdk/internal/util/Preconditions" "SIOOBE_FORMATTER" "Ljava/util/function/BiFunction;" ∈ gTb) (hd : decode M.2.1 pc = .ok (.getstatic 1053, 3)) (hq : pc + 3 = q) (k : ∀ v : Value, (v = .null ∨ ∃ j : UInt32, v = .float j) → Go w M cs q ml (v :: st) σ Φ) : Go w M cs pc ml st σ Φ := by
  subst hq
  intro p l e s m args below meth c C H locs ls hH hS hn hL
  obtain ⟨-, ⟨-, -, -, h6, h7⟩, -⟩ := C.2.2.2.2.2.2.2.2.2.1
  exact va_gets C.1 C.2.1 h6 hS C.2.2.2.2.2.1 (C.2.2.2.2.1 _ hlk) (fun _ h => h) hd (k _ h7 p l e s m args below meth c C H locs ls hH hS hn hL)
theorem g_callVS {idx i : Nat} {x : UInt32} {As rest : List Value} (hi : i < 5) (hx : x.toNat = 1 + i) (hcl : M'.1.cls = "java/lang/String") (hm : g_MI M') (hlk : g_LK M M' idx) (hd : decode M.2.1 pc = .ok (.invokevirtual idx, 3)) (hr : Ret M' (.float x :: As) σ Φ') (hst : st = As.reverse ++ .float x :: rest) (hnA : As.length = M'.2.2.2.2.1) (hcat : (rest.map Value.category).sum ≤ 8) (hcells : cs.1 + (g_rm M').cells ≤ (g_rm M).cells) (hslots : cs.2 + (g_rm M').slots ≤ (g_rm M).slots) (hq : pc + 3 = q)
    (k : ∀ r σ1, Φ' r σ1 → Go w M (cs.1 + (g_rm M').cells, cs.2 + (g_rm M').slots) q ml (r.toList ++ rest) σ1 Φ) : Go w M cs pc ml st σ Φ := by
  subst hq; subst hst
  intro p l e s m args below meth c C H locs ls hH hS hn hL
  have hts := C.2.2.2.2.1
  obtain ⟨-, ⟨h3, -⟩, -⟩ := C.2.2.2.2.2.2.2.2.2.1
  have cb := callB_of (R := g_rm M) (s := s) (args := args) (own := M.1.cls) (index := idx) (rm := g_rm M') M'.2.2.2.2.1 hts (g_goodM hm.1) rfl rfl rfl (hts _ hm.1.2.1) (hts _ hlk.1) ⟨hm.1.2.2.2.1.1, hm.1.2.2.2.1.2, hm.1.2.2.2.2⟩ ⟨hlk.2.1, hlk.2.2⟩
  have hst : ((As.reverse ++ .float x :: rest).map (g_V w)) = (As.map (g_V w)).reverse ++ .ref (g_ro w (1 + i)) :: rest.map (g_V w) := by simp [g_V, hx]
  have hpre := g_pre (as := .float x :: As) C hH hS
  have has : (Value.float x :: As).map (g_V w) = .ref (g_ro w (1 + i)) :: As.map (g_V w) := by simp [g_V, hx]
  rw [has] at hpre
  refine g_run (mc := (g_rm M').cells) (ms := (g_rm M').slots) (va_runV (As := As.map (g_V w)) (b := g_ro w (1 + i)) (C := M'.1.cls) ⟨C.1, C.2.1, C.2.2.2.1, C.2.2.2.2.2.1, hts⟩ (hr w l) ⟨cb, hts _ hm.2.1, hts _ hm.2.2⟩ ⟨g_blind, by rw [hcl]; exact (vk_recv (adK := fun i => g_ro w (1 + i)) h3 hi hS), hpre⟩ rfl (by rw [List.length_map]; exact hnA) (by rw [hL.1]; exact hn) hst (lv_room (g_cat hcat)) hd ⟨hcells, hslots⟩) hS (fun r σ1 H1 locs1 h1 h2 h3 => ?_)
  exact k r σ1 h1 p l e s m args below meth c C H1 locs1 ls h2 h3 hn hL
end GM
