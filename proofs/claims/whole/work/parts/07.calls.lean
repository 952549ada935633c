section GC
variable {w : g_W} {M M' : g_MD} {cs : Nat × Nat} {pc q : Nat} {ml : List (Option Value)} {st : List Value} {σ σ' : g_H0} {Φ Φ' : g_Post}
/-! what is new -/
theorem g_H.push {e : va_E} {H H1 : Heap} (h : g_H w σ H) (z : H1.size = H.size + 1) (he : va_at (g_D w) vwCl (g_ba w + σ.length, g_E w e) H1) (o1 : ∀ q : Nat, q < H.size → H1[q]? = H[q]?) : g_H w (σ ++ [e]) H1 := by
  refine ⟨by rw [z, h.1, List.length_append]; simp; omega, ?_⟩
  rw [g_S_push]
  refine (h.2.kept (fun k x hx => o1 x.1 ((h.2 k x hx).lt))).app (fun k x hx => ?_)
  have hz : k < 1 := (List.getElem?_eq_some_iff.mp hx).1
  rw [show k = 0 by omega] at hx
  cases hx
  exact he
theorem g_S0.push {A : Nat → Prop} {H0 H H1 : Heap} {locs : List Loc} (hS : va_S A H0 H locs) (z : H1.size = H.size + 1) (o1 : ∀ q : Nat, q < H.size → H1[q]? = H[q]?) : va_S A H0 H1 locs :=
  ⟨Nat.le_trans hS.1 (by omega), fun x h1 h2 => (o1 x (Nat.lt_of_lt_of_le h1 hS.1)).trans (hS.2.1 x h1 h2), hS.2.2⟩
/-- a class that is made: its number, how many fields, what they are at first -/
def g_NW (own : String) (idx ci n : Nat) (fs : List Value) : Prop := ∃ (Cn : String) (F : u_T) (ty : Nat → FieldType), vwCl[ci]? = some (Cn, F, n) ∧ (∀ x ∈ u_ws Cn F n, x ∈ gTb) ∧ (∀ k, k < n → parseFieldDescriptor (F k).2.2.1 = some (ty k)) ∧ Cond.classLink own idx Cn ∈ gTb ∧ Cond.instantiable Cn n ∈ gTb ∧ Cond.initialized Cn ∈ gTb ∧ (∀ j, j < n → defaultValue (ty j) = vp_V fs j) ∧ ∀ w : g_W, fs.map (g_V w) = fs
theorem g_new {idx ci n a : Nat} {fs : List Value} (hw : g_NW M.1.cls idx ci n fs) (hd : decode M.2.1 pc = .ok (.new idx, 3)) (hcells : cs.1 + 1 ≤ (g_rm M).cells) (hslots : cs.2 + n ≤ (g_rm M).slots) (ha : σ.length = a) (hs : σ ++ [.inr (ci, fs)] = σ') (hq : pc + 3 = q) (k : Go w M (cs.1 + 1, cs.2 + n) q ml (.ref a :: st) σ' Φ) : Go w M cs pc ml st σ Φ := by
  subst hq; subst hs; subst ha
  intro p l e s m args below meth c C H locs ls hH hS hn hL
  obtain ⟨Cn, F, ty, hc, hin, hty, h1, h2, h3, h4, h5⟩ := hw
  have hts := C.2.2.2.2.1
  have hKn := C.2.2.2.2.2.2.2.2.1.1 ci _ hc
  refine W.newcK C.1 C.2.1 C.2.2.2.2.2.1 (hts _ h1) (hts _ h2) (hts _ h3) rfl hd hcells hslots hKn.2.1 hH.1 fun H1 kC hkC e1 z1 o1 => ?_
  rw [← hH.1] at z1 o1
  refine k p l e s m args below meth c C H1 locs ls (hH.push z1 ⟨_, hc, ?_⟩ o1) (g_S0.push hS z1 o1) hn hL
  show t_OB _ _ _ _ _ (vp_V (fs.map (g_V w)))
  rw [h5 w]
  exact (u_born ty hts hin hKn hkC e1 hty).to h4
theorem g_newI {a N : Nat} {n : Int32} (hd : decode M.2.1 pc = .ok (.newarray .int, 2)) (hcl : Cond.arrayClass .int ∈ gTb) (hn0 : ¬ n < 0) (hN : n.toNatClampNeg = N) (hby : N * 4 ≤ 536870912) (hcells : cs.1 + 1 ≤ (g_rm M).cells) (hslots : cs.2 + N ≤ (g_rm M).slots) (ha : σ.length = a) (hs : σ ++ [.inl (0, N, .inl (fun _ => 0))] = σ') (hq : pc + 2 = q) (k : Go w M (cs.1 + 1, cs.2 + N) q ml (.ref a :: st) σ' Φ) : Go w M cs pc ml (.int n :: st) σ Φ := by
  subst hq; subst hs; subst ha
  intro p l e s m args below meth c C H locs ls hH hS hn hL
  have hts := C.2.2.2.2.1
  refine va_newaK (atype := .int) C.1 C.2.1 (hts _ hcl) rfl hd rfl hn0 hN hby hcells hslots hH.1 fun H1 cA e1 z1 o1 _ hf => ?_
  have hca : g_ca w 0 = cA := Option.some.inj (((C.2.2.2.2.2.2.2.2.1.2 0 _ rfl).2).symm.trans hf)
  rw [← hH.1] at z1 o1
  refine k p l e s m args below meth c C H1 locs ls (hH.push z1 ?_ o1) (g_S0.push hS z1 o1) hn hL
  show H1[_]? = some (vp_cell (g_ca w 0) _)
  rw [hca, e1]; rfl
theorem g_newC {a N : Nat} {n : Int32} (hd : decode M.2.1 pc = .ok (.newarray .char, 2)) (hcl : Cond.arrayClass .char ∈ gTb) (hn0 : ¬ n < 0) (hN : n.toNatClampNeg = N) (hby : N * 2 ≤ 536870912) (hcells : cs.1 + 1 ≤ (g_rm M).cells) (hslots : cs.2 + N ≤ (g_rm M).slots) (ha : σ.length = a) (hs : σ ++ [.inl (1, N, .inl (fun _ => 0))] = σ') (hq : pc + 2 = q) (k : Go w M (cs.1 + 1, cs.2 + N) q ml (.ref a :: st) σ' Φ) : Go w M cs pc ml (.int n :: st) σ Φ := by
  subst hq; subst hs; subst ha
  intro p l e s m args below meth c C H locs ls hH hS hn hL
  have hts := C.2.2.2.2.1
  refine va_newaK (atype := .char) C.1 C.2.1 (hts _ hcl) rfl hd rfl hn0 hN hby hcells hslots hH.1 fun H1 cA e1 z1 o1 _ hf => ?_
  have hca : g_ca w 1 = cA := Option.some.inj (((C.2.2.2.2.2.2.2.2.1.2 1 _ rfl).2).symm.trans hf)
  rw [← hH.1] at z1 o1
  refine k p l e s m args below meth c C H1 locs ls (hH.push z1 ?_ o1) (g_S0.push hS z1 o1) hn hL
  show H1[_]? = some (vp_cell (g_ca w 1) _)
  rw [hca, e1]; rfl
theorem g_newA {a N idx t : Nat} {Cn : String} {n : Int32} (hd : decode M.2.1 pc = .ok (.anewarray idx, 3)) (ht : (g_tys w)[t]? = some (g_ca w t, .object Cn)) (hcl : Cond.classLink M.1.cls idx Cn ∈ gTb) (hov : Cond.arrayOver (.object Cn) ∈ tables_1) (hn0 : ¬ n < 0) (hN : n.toNatClampNeg = N) (hby : N * 4 ≤ 536870912) (hcells : cs.1 + 1 ≤ (g_rm M).cells) (hslots : cs.2 + N ≤ (g_rm M).slots) (ha : σ.length = a) (hs : σ ++ [.inl (t, N, .inr (.inr (.inr (.inr (fun _ => none)))))] = σ') (hq : pc + 3 = q) (k : Go w M (cs.1 + 1, cs.2 + N) q ml (.ref a :: st) σ' Φ) : Go w M cs pc ml (.int n :: st) σ Φ := by
  subst hq; subst hs; subst ha; subst hN
  intro p l e s m args below meth c C H locs ls hH hS hn hL
  have hts := C.2.2.2.2.1
  refine W.anew C.1 C.2.1 C.2.2.2.2.2.1 (hts _ hcl) (va_AO.use (C.2.2.2.2.2.2.2.2.2.1.2.2.2 Cn hov)) rfl hd rfl hn0 hby hcells hslots fun cA kA comp f1 f2 f3 f4 => ?_
  obtain ⟨kA', comp', -, -, -, f5⟩ := (C.2.2.2.2.2.2.2.2.1.2 t _ ht).2
  have hca : g_ca w t = cA := Option.some.inj (f5.symm.trans f1)
  generalize hH1 : H.push ({ cls := cA, slots := Array.replicate n.toNatClampNeg .null, vm := .none } : Cell) = H1
  have z1 : H1.size = H.size + 1 := by rw [← hH1, Array.size_push]
  have e1 : H1[H.size]? = some (arrV cA n.toNatClampNeg (fun _ => .null)) := by rw [← hH1, Array.getElem?_push_size, ← arrV_new]
  have o1 : ∀ q : Nat, q < H.size → H1[q]? = H[q]? := fun q hq => by rw [← hH1, Array.getElem?_push, if_neg (Nat.ne_of_lt hq)]
  have hk := k p l e s m args below meth c C H1 locs ls (hH.push z1 (by
    show H1[_]? = some (vp_cell (g_ca w t) _)
    rw [hca, ← hH.1, e1]; rfl) o1) (g_S0.push hS z1 o1) hn hL
  rw [List.map_cons, g_V, ← hH.1] at hk
  exact hk
/-! calls -/
theorem g_good : GoodIn gTb gTb := fun x hx => ⟨hx, good_of_word (List.mem_filter.mp hx).2⟩
theorem g_goodM (hm : g_MO M') : GoodIn gTb (g_ws M') := fun x hx => by
  rcases List.mem_cons.mp hx with rfl | h
  · exact g_good _ hm.1
  · exact g_good _ h
theorem g_blind {as : List Value} : FrameBlind (g_Pc w as σ) := fun a U g mk ⟨q1, q2, q3, q4⟩ => ⟨q1, q2, va_K.moved (u := U) (U := U.calling g mk a) (Vm.Alike.refl U.vm) q3, g_RO.same (s := U) q4 rfl rfl⟩
theorem g_pre {p : Program} {s : State} {m : MethodId} {args : Array Value} {meth : Method} {c : Code} {H : Heap} {locs : List Loc} {as : List Value} (C : g_Cx w M p s m args meth c) (hH : g_H w σ H) (hS : va_S (g_A w) s.heap H locs) : ∀ U : State, U.heap = H → s.WarmedH U.vm → g_Pc w as σ (as.map (g_V w)).toArray U :=
  fun U hU hW => ⟨rfl, by rw [hU]; exact hH, va_K.moved hW.alike C.2.2.2.2.2.2.2.2.1, g_RO.moved C.2.2.2.2.2.2.2.2.2.1 hW (by rw [hU]; exact hS.2.1) C.2.2.2.2.2.2.2.2.2.2⟩
theorem g_run {p : Program} {l : Launch} {e : Env} {s : State} {m : MethodId} {args : Array Value} {below : List Frame} {meth : Method} {c : Code} {H : Heap} {locs : List Loc} {ls : Array Slot} {Q : State → Prop} {R : Room} {cells slots mc ms : Nat} {st0 : List Value} {rest : List Value} {a : Array Value}
    (hr : va_Run p l e R s m args below meth c H locs cells slots mc ms (F0 m pc ls st0) (rest.map (g_V w)) (g_Q w Φ' a) (g_A w)) (hS : va_S (g_A w) s.heap H locs)
    (kk : ∀ (r : Option Value) (σ1 : g_H0) (H1 : Heap) (locs1 : List Loc), Φ' r σ1 → g_H w σ1 H1 → va_S (g_A w) s.heap H1 locs1 → W p l e R s m args below meth c H1 locs1 (cells + mc) (slots + ms) Q (F0 m (pc + 3) ls ((r.toList ++ rest).map (g_V w)))) : W p l e R s m args below meth c H locs cells slots Q (F0 m pc ls st0) := by
  intro T hT X
  obtain ⟨v, st₀, t, T', L, h0, X', hL, e1, e2, ⟨⟨r, σ1, q1, q2, q3⟩, hz, hk⟩, st⟩ := hr T hT X
  have hv : v = r.map (g_V w) := by cases q2; rfl
  rw [h0] at hz hk
  obtain ⟨t2, a1, b1⟩ := kk r σ1 T'.heap (locs ++ L) q1 (by rw [e1]; exact q3)
    ⟨Nat.le_trans hS.1 (by rw [e1]; exact hz), fun q h1 h2 => by rw [e1, hk q (Nat.lt_of_lt_of_le h1 hS.1) h2]; exact hS.2.1 q h1 h2, fun q hq => by
      rcases List.mem_append.mp hq with h | h
      · exact hS.2.2 q h
      · exact hL q h⟩ T' rfl X'
  have hs : (r.toList ++ rest).map (g_V w) = v.toList ++ rest.map (g_V w) := by rw [hv]; cases r <;> rfl
  rw [hs] at a1
  exact ⟨t2, st t2 a1, b1⟩
theorem g_cat {rest : List Value} (h : (rest.map Value.category).sum ≤ 8) : ((rest.map (g_V w)).map fun v => v.category).sum ≤ 8 := by
  have : (rest.map (g_V w)).map (fun v => v.category) = rest.map Value.category := by
    rw [List.map_map]
    exact List.map_congr_left (fun v _ => g_V_cat w v)
  rw [this]; exact h
theorem g_callV {idx ci : Nat} {F : u_T} {n b : Nat} {fs As rest : List Value} (hm : g_MI M') (hlk : g_LK M M' idx) (hd : decode M.2.1 pc = .ok (.invokevirtual idx, 3)) (hci : vwCl[ci]? = some (M'.1.cls, F, n)) (hb : σ[b]? = some (.inr (ci, fs))) (hr : Ret M' (.ref b :: As) σ Φ') (hst : st = As.reverse ++ .ref b :: rest) (hnA : As.length = M'.2.2.2.2.1) (hcat : (rest.map Value.category).sum ≤ 8) (hcells : cs.1 + (g_rm M').cells ≤ (g_rm M).cells) (hslots : cs.2 + (g_rm M').slots ≤ (g_rm M).slots) (hq : pc + 3 = q)
    (k : ∀ r σ1, Φ' r σ1 → Go w M (cs.1 + (g_rm M').cells, cs.2 + (g_rm M').slots) q ml (r.toList ++ rest) σ1 Φ) : Go w M cs pc ml st σ Φ := by
  subst hq; subst hst
  intro p l e s m args below meth c C H locs ls hH hS hn hL
  have hts := C.2.2.2.2.1
  have cb := callB_of (R := g_rm M) (s := s) (args := args) (own := M.1.cls) (index := idx) (rm := g_rm M') M'.2.2.2.2.1 hts (g_goodM hm.1) rfl rfl rfl (hts _ hm.1.2.1) (hts _ hlk.1) ⟨hm.1.2.2.2.1.1, hm.1.2.2.2.1.2, hm.1.2.2.2.2⟩ ⟨hlk.2.1, hlk.2.2⟩
  have hst : ((As.reverse ++ .ref b :: rest).map (g_V w)) = (As.map (g_V w)).reverse ++ .ref (g_ba w + b) :: rest.map (g_V w) := by simp [g_V]
  refine g_run (mc := (g_rm M').cells) (ms := (g_rm M').slots) (va_runV (As := As.map (g_V w)) (b := g_ba w + b) (C := M'.1.cls) ⟨C.1, C.2.1, C.2.2.2.1, C.2.2.2.2.2.1, hts⟩ (hr w l) ⟨cb, hts _ hm.2.1, hts _ hm.2.2⟩ ⟨g_blind, va_recv C.2.2.2.2.2.2.2.2.1 hH.2 hci (g_S_at hb), g_pre C hH hS⟩ rfl (by rw [List.length_map]; exact hnA) (by rw [hL.1]; exact hn) hst (lv_room (g_cat hcat)) hd ⟨hcells, hslots⟩) hS (fun r σ1 H1 locs1 h1 h2 h3 => ?_)
  exact k r σ1 h1 p l e s m args below meth c C H1 locs1 ls h2 h3 hn hL
theorem g_callS {idx : Nat} {As rest : List Value} (hm : g_MS M') (hlk : g_LK M M' idx) (hd : decode M.2.1 pc = .ok (.invokestatic idx, 3)) (hr : Ret M' As σ Φ') (hst : st = As.reverse ++ rest) (hnA : As.length = M'.2.2.2.2.1) (hcat : (rest.map Value.category).sum ≤ 8) (hcells : cs.1 + (g_rm M').cells ≤ (g_rm M).cells) (hslots : cs.2 + (g_rm M').slots ≤ (g_rm M).slots) (hq : pc + 3 = q)
    (k : ∀ r σ1, Φ' r σ1 → Go w M (cs.1 + (g_rm M').cells, cs.2 + (g_rm M').slots) q ml (r.toList ++ rest) σ1 Φ) : Go w M cs pc ml st σ Φ := by
  subst hq; subst hst
  intro p l e s m args below meth c C H locs ls hH hS hn hL
  have hts := C.2.2.2.2.1
  have cb := callB_of (R := g_rm M) (s := s) (args := args) (own := M.1.cls) (index := idx) (rm := g_rm M') M'.2.2.2.2.1 hts (g_goodM hm.1) rfl rfl rfl (hts _ hm.1.2.1) (hts _ hlk.1) ⟨hm.1.2.2.2.1.1, hm.1.2.2.2.1.2, hm.1.2.2.2.2⟩ ⟨hlk.2.1, hlk.2.2⟩
  have hst : ((As.reverse ++ rest).map (g_V w)) = (As.map (g_V w)).reverse ++ rest.map (g_V w) := by simp
  refine g_run (mc := (g_rm M').cells) (ms := (g_rm M').slots) (va_runS (As := As.map (g_V w)) ⟨C.1, C.2.1, C.2.2.2.1, C.2.2.2.2.2.1, hts⟩ (hr w l) ⟨cb, hts _ hm.2⟩ ⟨g_blind, g_pre C hH hS⟩ rfl (by rw [List.length_map]; exact hnA) (by rw [hL.1]; exact hn) hst (lv_room (g_cat hcat)) hd ⟨hcells, hslots⟩) hS (fun r σ1 H1 locs1 h1 h2 h3 => ?_)
  exact k r σ1 h1 p l e s m args below meth c C H1 locs1 ls h2 h3 hn hL
theorem g_CN {s : State} {args : Array Value} {idx : Nat} (hts : ∀ x ∈ gTb, x.before args s = true) (hm : g_MO M') (host : String) (hl : va_Nw (.methodLinkNest M.1.cls idx M'.1 host) s) (h1 : M'.2.2.2.2.2.1 + 1 ≤ M.2.2.2.2.2.1) (h2 : 8 + (M'.2.2.1 + 11) + M'.2.2.2.2.2.2.1 ≤ M.2.2.2.2.2.2.1) : va_CN (g_rm M) s args M.1.cls idx M'.1 host M'.2.1 M'.2.2.1 M'.2.2.2.1 (g_ws M') (g_rm M') (g_rm M').cells (g_rm M').slots M'.2.2.2.2.1 := by
  refine ⟨⟨rfl, rfl, h1, h2, pay_in hts (g_goodM hm), List.mem_cons_self⟩, hts _ hm.1, hts _ hm.2.1, hm.2.2.2.1, fun sig h => ?_, va_Nw.use rfl hl⟩
  have h3 := hm.2.2.2.2
  rw [h] at h3
  exact (Option.some.inj h3).symm
theorem g_callSN {idx : Nat} {As rest : List Value} (hm : g_MS M') (hlk : g_LN M M' idx) (hd : decode M.2.1 pc = .ok (.invokestatic idx, 3)) (hr : Ret M' As σ Φ') (hst : st = As.reverse ++ rest) (hnA : As.length = M'.2.2.2.2.1) (hcat : (rest.map Value.category).sum ≤ 8) (hcells : cs.1 + (g_rm M').cells ≤ (g_rm M).cells) (hslots : cs.2 + (g_rm M').slots ≤ (g_rm M).slots) (hq : pc + 3 = q)
    (k : ∀ r σ1, Φ' r σ1 → Go w M (cs.1 + (g_rm M').cells, cs.2 + (g_rm M').slots) q ml (r.toList ++ rest) σ1 Φ) : Go w M cs pc ml st σ Φ := by
  subst hq; subst hst
  intro p l e s m args below meth c C H locs ls hH hS hn hL
  have hts := C.2.2.2.2.1
  obtain ⟨⟨host, hl⟩, h1, h2⟩ := hlk
  have hst : ((As.reverse ++ rest).map (g_V w)) = (As.map (g_V w)).reverse ++ rest.map (g_V w) := by simp
  refine g_run (mc := (g_rm M').cells) (ms := (g_rm M').slots) (va_runSN (As := As.map (g_V w)) ⟨C.1, C.2.1, C.2.2.2.1, C.2.2.2.2.2.1, hts⟩ (hr w l) ⟨g_CN hts hm.1 host (C.2.2.2.2.2.2.2.2.2.1.2.2.1 _ _ _ _ hl) h1 h2, hts _ hm.2, trivial⟩ ⟨g_blind, g_pre C hH hS⟩ rfl (by rw [List.length_map]; exact hnA) (by rw [hL.1]; exact hn) hst (lv_room (g_cat hcat)) hd ⟨hcells, hslots⟩) hS (fun r σ1 H1 locs1 h1 h2 h3 => ?_)
  exact k r σ1 h1 p l e s m args below meth c C H1 locs1 ls h2 h3 hn hL
theorem g_callI {idx b : Nat} {As rest : List Value} (hm : g_MN M') (hv : M'.2.2.2.1 = none) (hlk : g_LK M M' idx) (hd : decode M.2.1 pc = .ok (.invokespecial idx, 3)) (hr : Ret M' (.ref b :: As) σ Φ') (hst : st = As.reverse ++ .ref b :: rest) (hnA : As.length = M'.2.2.2.2.1) (hcat : (rest.map Value.category).sum ≤ 8) (hcells : cs.1 + (g_rm M').cells ≤ (g_rm M).cells) (hslots : cs.2 + (g_rm M').slots ≤ (g_rm M).slots) (hq : pc + 3 = q)
    (k : ∀ r σ1, Φ' r σ1 → Go w M (cs.1 + (g_rm M').cells, cs.2 + (g_rm M').slots) q ml (r.toList ++ rest) σ1 Φ) : Go w M cs pc ml st σ Φ := by
  subst hq; subst hst
  intro p l e s m args below meth c C H locs ls hH hS hn hL
  have hts := C.2.2.2.2.1
  have cb := callB_of (R := g_rm M) (s := s) (args := args) (own := M.1.cls) (index := idx) (rm := g_rm M') M'.2.2.2.2.1 hts (g_goodM hm.1) rfl rfl rfl (hts _ hm.1.2.1) (hts _ hlk.1) ⟨hm.1.2.2.2.1.1, hm.1.2.2.2.1.2, hm.1.2.2.2.2⟩ ⟨hlk.2.1, hlk.2.2⟩
  rw [hv] at cb
  have hst : ((As.reverse ++ .ref b :: rest).map (g_V w)) = (As.map (g_V w)).reverse ++ .ref (g_ba w + b) :: rest.map (g_V w) := by simp [g_V]
  refine g_run (mc := (g_rm M').cells) (ms := (g_rm M').slots) (va_runI (As := As.map (g_V w)) (b := g_ba w + b) ⟨C.1, C.2.1, C.2.2.2.1, C.2.2.2.2.2.1, hts⟩ (hr w l) ⟨cb, hm.2.2, hts _ hm.2.1⟩ ⟨g_blind, g_pre C hH hS⟩ rfl (by rw [List.length_map]; exact hnA) (by rw [hL.1]; exact hn) hst (lv_room (g_cat hcat)) hd ⟨hcells, hslots⟩) hS (fun r σ1 H1 locs1 h1 h2 h3 => ?_)
  exact k r σ1 h1 p l e s m args below meth c C H1 locs1 ls h2 h3 hn hL
theorem g_callIN {idx b : Nat} {As rest : List Value} (hm : g_MN M') (hv : M'.2.2.2.1 = none) (hlk : g_LN M M' idx) (hd : decode M.2.1 pc = .ok (.invokespecial idx, 3)) (hr : Ret M' (.ref b :: As) σ Φ') (hst : st = As.reverse ++ .ref b :: rest) (hnA : As.length = M'.2.2.2.2.1) (hcat : (rest.map Value.category).sum ≤ 8) (hcells : cs.1 + (g_rm M').cells ≤ (g_rm M).cells) (hslots : cs.2 + (g_rm M').slots ≤ (g_rm M).slots) (hq : pc + 3 = q)
    (k : ∀ r σ1, Φ' r σ1 → Go w M (cs.1 + (g_rm M').cells, cs.2 + (g_rm M').slots) q ml (r.toList ++ rest) σ1 Φ) : Go w M cs pc ml st σ Φ := by
  subst hq; subst hst
  intro p l e s m args below meth c C H locs ls hH hS hn hL
  have hts := C.2.2.2.2.1
  obtain ⟨⟨host, hl⟩, h1, h2⟩ := hlk
  have cb := g_CN (M := M) hts hm.1 host (C.2.2.2.2.2.2.2.2.2.1.2.2.1 _ _ _ _ hl) h1 h2
  rw [hv] at cb
  have hst : ((As.reverse ++ .ref b :: rest).map (g_V w)) = (As.map (g_V w)).reverse ++ .ref (g_ba w + b) :: rest.map (g_V w) := by simp [g_V]
  refine g_run (mc := (g_rm M').cells) (ms := (g_rm M').slots) (va_runIN (As := As.map (g_V w)) (b := g_ba w + b) ⟨C.1, C.2.1, C.2.2.2.1, C.2.2.2.2.2.1, hts⟩ (hr w l) ⟨cb, hm.2.2, hts _ hm.2.1⟩ ⟨g_blind, g_pre C hH hS⟩ rfl (by rw [List.length_map]; exact hnA) (by rw [hL.1]; exact hn) hst (lv_room (g_cat hcat)) hd ⟨hcells, hslots⟩) hS (fun r σ1 H1 locs1 h1 h2 h3 => ?_)
  exact k r σ1 h1 p l e s m args below meth c C H1 locs1 ls h2 h3 hn hL
theorem g_objInit {idx a : Nat} (hl : Cond.methodLink M.1.cls idx objectInit ∈ gTb) (hi : Cond.instanceMethod objectInit ∈ gTb) (hc : Cond.code objectInit ⟨#[0xb1]⟩ 1 none ∈ gTb) (hd : decode M.2.1 pc = .ok (.invokespecial idx, 3)) (hfr : 1 ≤ (g_rm M).frames) (hlo : 12 ≤ (g_rm M).locals) (hst : st = []) (hq : pc + 3 = q) (k : Go w M cs q ml [] σ Φ) : Go w M cs pc ml (.ref a :: st) σ Φ := by
  subst hq; subst hst
  intro p l e s m args below meth c C H locs ls hH hS hn hL
  have hts := C.2.2.2.2.1
  exact W.objInit C.1 C.2.1 C.2.2.2.2.2.1 (hts _ hl) (hts _ hi) (hts _ hc) rfl (by rw [C.2.2.2.1, ← hn]; exact hL.1) rfl hd hfr hlo (k p l e s m args below meth c C H locs ls hH hS hn hL)
/-! answers -/
theorem g_vret (hd : decode M.2.1 pc = .ok (.return_, 1)) (hr : M.2.2.2.1 = none) (hc : cs.1 ≤ (g_rm M).cells) (hs : cs.2 ≤ (g_rm M).slots) (h : Φ none σ) : Go w M cs pc ml [] σ Φ := by
  intro p l e s m args below meth c C H locs ls hH hS hn hL
  refine W.widen (k := (g_rm M).cells) (n := (g_rm M).slots) hc hs ?_
  exact W.vret C.1 C.2.1 (C.2.2.1.trans hr) (fun t ht hW => ⟨⟨none, σ, h, rfl, by rw [ht]; exact hH⟩, hS.F ht⟩) hS.2.2 hd C.2.2.2.2.2.2.1
theorem g_iret {v : Int32} (hd : decode M.2.1 pc = .ok (.ireturn, 1)) (hr : M.2.2.2.1 = some .int) (hc : cs.1 ≤ (g_rm M).cells) (hs : cs.2 ≤ (g_rm M).slots) (h : Φ (some (.int v)) σ) : Go w M cs pc ml [.int v] σ Φ := by
  intro p l e s m args below meth c C H locs ls hH hS hn hL
  refine W.widen (k := (g_rm M).cells) (n := (g_rm M).slots) hc hs ?_
  exact W.iret C.1 C.2.1 (C.2.2.1.trans hr) (fun t ht hW => ⟨⟨some (.int v), σ, h, rfl, by rw [ht]; exact hH⟩, hS.F ht⟩) hS.2.2 hd C.2.2.2.2.2.2.1
theorem g_zret {v : Int32} {ty : FieldType} (hd : decode M.2.1 pc = .ok (.ireturn, 1)) (hr : M.2.2.2.1 = some ty) (hnar : narrow ty (.int v) = .int v) (hc : cs.1 ≤ (g_rm M).cells) (hs : cs.2 ≤ (g_rm M).slots) (h : Φ (some (.int v)) σ) : Go w M cs pc ml [.int v] σ Φ := by
  intro p l e s m args below meth c C H locs ls hH hS hn hL
  refine W.widen (k := (g_rm M).cells) (n := (g_rm M).slots) hc hs ?_
  exact W.zret C.1 C.2.1 (C.2.2.1.trans hr) hnar (fun t ht hW => ⟨⟨some (.int v), σ, h, rfl, by rw [ht]; exact hH⟩, hS.F ht⟩) hS.2.2 hd C.2.2.2.2.2.2.1
theorem g_lret {v : Int64} (hd : decode M.2.1 pc = .ok (.lreturn, 1)) (hr : M.2.2.2.1 = some .long) (hc : cs.1 ≤ (g_rm M).cells) (hs : cs.2 ≤ (g_rm M).slots) (h : Φ (some (.long v)) σ) : Go w M cs pc ml [.long v] σ Φ := by
  intro p l e s m args below meth c C H locs ls hH hS hn hL
  refine W.widen (k := (g_rm M).cells) (n := (g_rm M).slots) hc hs ?_
  exact W.lret C.1 C.2.1 (C.2.2.1.trans hr) (fun t ht hW => ⟨⟨some (.long v), σ, h, rfl, by rw [ht]; exact hH⟩, hS.F ht⟩) hS.2.2 hd C.2.2.2.2.2.2.1
/-! Math, arraycopy, the script -/
theorem g_min {idx : Nat} {x y : Int32} (hl : Cond.methodLink M.1.cls idx Lib.Math.min.name ∈ gTb) (hw : Cond.static Lib.Math.min.name ∈ gTb ∧ Cond.initialized "java/lang/Math" ∈ gTb ∧ Cond.code Lib.Math.min.name Lib.Math.min.code 2 (some .int) ∈ gTb) (hd : decode M.2.1 pc = .ok (.invokestatic idx, 3)) (hfr : 1 ≤ (g_rm M).frames) (hlo : (st.map Value.category).sum ≤ 8) (hlo2 : 21 ≤ (g_rm M).locals) (hc : cs.1 ≤ (g_rm M).cells) (hs : cs.2 ≤ (g_rm M).slots) (hq : pc + 3 = q) (k : Go w M cs q ml (.int (if y < x then y else x) :: st) σ Φ) : Go w M cs pc ml (.int y :: .int x :: st) σ Φ := by
  subst hq
  intro p l e s m args below meth c C H locs ls hH hS hn hL
  have hts := C.2.2.2.2.1
  exact va_mmin C.1 C.2.1 (by rw [C.2.2.2.1, ← hn]; exact hL.1.symm) C.2.2.2.2.2.1 (hts _ hl) (hts _ hw.1) (hts _ hw.2.1) (hts _ hw.2.2) hfr (by have := g_cat (w := w) hlo; omega) hc hs hd (k p l e s m args below meth c C H locs ls hH hS hn hL)
theorem g_abs {idx : Nat} {x : Int32} (hl : Cond.methodLink M.1.cls idx Lib.Math.abs.name ∈ gTb) (hw : Cond.static Lib.Math.abs.name ∈ gTb ∧ Cond.initialized "java/lang/Math" ∈ gTb ∧ Cond.code Lib.Math.abs.name Lib.Math.abs.code 1 (some .int) ∈ gTb) (hd : decode M.2.1 pc = .ok (.invokestatic idx, 3)) (hfr : 1 ≤ (g_rm M).frames) (hlo : (st.map Value.category).sum ≤ 8) (hlo2 : 21 ≤ (g_rm M).locals) (hc : cs.1 ≤ (g_rm M).cells) (hs : cs.2 ≤ (g_rm M).slots) (hq : pc + 3 = q) (k : Go w M cs q ml (.int (if 0 ≤ x then x else 0 - x) :: st) σ Φ) : Go w M cs pc ml (.int x :: st) σ Φ := by
  subst hq
  intro p l e s m args below meth c C H locs ls hH hS hn hL
  have hts := C.2.2.2.2.1
  exact va_mabs C.1 C.2.1 (by rw [C.2.2.2.1, ← hn]; exact hL.1.symm) C.2.2.2.2.2.1 (hts _ hl) (hts _ hw.1) (hts _ hw.2.1) (hts _ hw.2.2) hfr (by have := g_cat (w := w) hlo; omega) hc hs hd (k p l e s m args below meth c C H locs ls hH hS hn hL)
theorem g_sld {i : Int32} (hd : decode M.2.1 pc = .ok (.iaload, 1)) (hin : vp_in i (g_L w)) (hq : pc + 1 = q) (k : Go w M cs q ml (.int (g_xs w i.toNatClampNeg) :: st) σ Φ) : Go w M cs pc ml (.int i :: .float 0 :: st) σ Φ := by
  subst hq
  intro p l e s m args below meth c C H locs ls hH hS hn hL
  obtain ⟨⟨h1, h2⟩, -⟩ := C.2.2.2.2.2.2.2.2.2.1
  exact va_sld C.1 C.2.1 h1 (Nat.lt_of_lt_of_le h2 C.2.2.2.2.2.2.2.2.2.2) (Nat.not_le.mpr h2) hS hin hd (k p l e s m args below meth c C H locs ls hH hS hn hL)
theorem g_slen (hd : decode M.2.1 pc = .ok (.arraylength, 1)) (hq : pc + 1 = q) (k : Go w M cs q ml (.int (Int32.ofNat (g_L w)) :: st) σ Φ) : Go w M cs pc ml (.float 0 :: st) σ Φ := by
  subst hq
  intro p l e s m args below meth c C H locs ls hH hS hn hL
  obtain ⟨⟨h1, h2⟩, -⟩ := C.2.2.2.2.2.2.2.2.2.1
  exact va_slen C.1 C.2.1 h1 (Nat.lt_of_lt_of_le h2 C.2.2.2.2.2.2.2.2.2.2) (Nat.not_le.mpr h2) hS hd (k p l e s m args below meth c C H locs ls hH hS hn hL)
end GC
