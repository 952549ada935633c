/-! A small world over the machine: the heap of the law's own objects as a list (a cell's number is its place; real address = base + place),
    read-only cells (the script, String constants) as .float numbers. 'Go': from here the method comes to its end with 'Φ answer heap'. -/
abbrev g_W : Type := Nat × (Nat → Nat) × va_G × (Nat → ClassId) × Nat × (Nat → Int32) × Value
def g_ba (w : g_W) : Nat := w.1
def g_ro (w : g_W) : Nat → Nat := w.2.1
def g_D (w : g_W) : va_G := w.2.2.1
def g_ca (w : g_W) : Nat → ClassId := w.2.2.2.1
def g_L (w : g_W) : Nat := w.2.2.2.2.1
def g_xs (w : g_W) : Nat → Int32 := w.2.2.2.2.2.1
def g_sv (w : g_W) : Value := w.2.2.2.2.2.2
def g_V (w : g_W) : Value → Value
  | .ref k => .ref (g_ba w + k)
  | .float j => .ref (g_ro w j.toNat)
  | v => v
theorem g_V_cat (w : g_W) (v : Value) : (g_V w v).category = v.category := by cases v <;> rfl
def g_E (w : g_W) : va_E → va_E
  | .inl (t, n, .inl f) => .inl (g_ca w t, n, .inl f)
  | .inl (t, n, .inr (.inr (.inr (.inr f)))) => .inl (g_ca w t, n, .inr (.inr (.inr (.inr (fun j => (f j).map (fun k => g_ba w + k))))))
  | .inl (t, n, .inr (.inl f)) => .inl (g_ca w t, n, .inr (.inl f))
  | .inl (t, n, .inr (.inr (.inl f))) => .inl (g_ca w t, n, .inr (.inr (.inl f)))
  | .inl (t, n, .inr (.inr (.inr (.inl f)))) => .inl (g_ca w t, n, .inr (.inr (.inr (.inl f))))
  | .inr (ci, fs) => .inr (ci, fs.map (g_V w))
abbrev g_H0 : Type := List va_E
def g_S (w : g_W) (σ : g_H0) : va_W := σ.mapIdx (fun i e => (g_ba w + i, g_E w e))
theorem g_S_get (w : g_W) (σ : g_H0) (k : Nat) : (g_S w σ)[k]? = (σ[k]?).map (fun e => (g_ba w + k, g_E w e)) := by
  simp [g_S]
theorem g_S_at {w : g_W} {σ : g_H0} {k : Nat} {e : va_E} (h : σ[k]? = some e) : (g_S w σ)[k]? = some (g_ba w + k, g_E w e) := by
  rw [g_S_get, h]; rfl
theorem g_S_set (w : g_W) (σ : g_H0) (k : Nat) (e : va_E) : g_S w (σ.set k e) = (g_S w σ).set k (g_ba w + k, g_E w e) := by
  apply List.ext_getElem?
  intro i
  rw [g_S_get]
  by_cases h : k = i
  · subst h
    by_cases hl : k < σ.length
    · rw [List.getElem?_set_self hl, List.getElem?_set_self (by simpa [g_S] using hl)]; rfl
    · rw [List.getElem?_eq_none (by simpa using Nat.not_lt.mp hl), List.getElem?_eq_none (by simpa [g_S] using Nat.not_lt.mp hl)]; rfl
  · rw [List.getElem?_set_ne h, List.getElem?_set_ne h, g_S_get]
theorem g_S_push (w : g_W) (σ : g_H0) (e : va_E) : g_S w (σ ++ [e]) = g_S w σ ++ [(g_ba w + σ.length, g_E w e)] := by
  simp [g_S]
def g_A (w : g_W) : Nat → Prop := fun q => g_ba w ≤ q
theorem g_S_D (w : g_W) (σ : g_H0) : va_D (g_A w) (g_S w σ) := by
  refine ⟨fun i j p q hi hj hpq => ?_, fun k q hk => ?_⟩
  · rw [g_S_get] at hi hj
    obtain ⟨e1, -, rfl⟩ := Option.map_eq_some_iff.mp hi
    obtain ⟨e2, -, rfl⟩ := Option.map_eq_some_iff.mp hj
    have : g_ba w + i = g_ba w + j := hpq
    omega
  · rw [g_S_get] at hk
    obtain ⟨e1, -, rfl⟩ := Option.map_eq_some_iff.mp hk
    exact Nat.le_add_right _ _
def g_tys (w : g_W) : List (ClassId × FieldType) := [(g_ca w 0, .int), (g_ca w 1, .char), (g_ca w 2, .object RX5), (g_ca w 3, .object RX7), (g_ca w 4, .object RX0)]
/-- the String constants: where each stands, its text -/
def g_sOwn (i : Nat) : String := if i = 0 then RX8 else RX4
def g_sIdx (i : Nat) : Nat := match i with
  | 0 => 64
  | 1 => 33
  | 2 => 47
  | 3 => 53
  | _ => 58
def g_sTx (i : Nat) : String := match i with
  | 0 => "sheet 10,8;tool 2,2,0,40;tool 3,1,1,12;tool 1,1,0,99;hole 1,1,4,2;hole 6,1,3,3;hole 2,5,1,3;hole 6,6,3,1;clamp 0;clamp 7;"
  | 1 => "sheet "
  | 2 => "tool "
  | 3 => "hole "
  | _ => "clamp "
def g_sB (i : Nat) : List Int32 := (g_sTx i).toList.map (fun c => Int32.ofNat c.toNat)
def g_sLen : List Nat := (List.range 5).map (fun i => (g_sB i).length)
def g_sByt : List (List Int32) := (List.range 5).map g_sB
def g_Str (w : g_W) (U : State) : Prop :=
  vk_S 5 g_sLen g_sByt (fun i => g_ro w (1 + i)) (fun i => g_ro w (11 + i)) (g_A w) U U.heap ∧
  (∀ i, i < 5 → vk_R (g_sOwn i) (g_sIdx i) (g_sTx i) (g_ro w (1 + i)) U) ∧
  va_Z "java/lang/String" "COMPACT_STRINGS" "Z" (.int 1) (g_A w) U U.heap ∧
  va_Z "jdk/internal/util/Preconditions" "SIOOBE_FORMATTER" "Ljava/util/function/BiFunction;" (g_V w (g_sv w)) (g_A w) U U.heap ∧ (g_sv w = .null ∨ ∃ j : UInt32, g_sv w = .float j)
def g_Nest (U : State) : Prop := (∀ (a : String) (i : Nat) (x : MethodName) (h : String), Cond.methodLinkNest a i x h ∈ tables_1 → va_Nw (.methodLinkNest a i x h) U) ∧ ∀ C : String, Cond.arrayOver (.object C) ∈ tables_1 → va_AO C U
def g_RO (w : g_W) (U : State) : Prop := (va_X (g_ro w 0) (g_L w) (g_xs w) U U.heap ∧ g_ro w 0 < g_ba w) ∧ g_Str w U ∧ g_Nest U
theorem g_RO.moved {w : g_W} {s U : State} (h : g_RO w s) (hW : s.WarmedH U.vm) (hk : ∀ q : Nat, q < s.heap.size → ¬ g_A w q → U.heap[q]? = s.heap[q]?) (hb : g_ba w ≤ s.heap.size) : g_RO w U := by
  obtain ⟨⟨h1, h2⟩, ⟨h3, h4, h5, h6, h9⟩, h7, h8⟩ := h
  have al := hW.alike
  exact ⟨⟨(h1.kept (hk _ (Nat.lt_of_lt_of_le h2 hb) (Nat.not_le.mpr h2))).moved al, h2⟩, ⟨(h3.kept hk).moved al, fun i hi => (h4 i hi).warm hW, (h5.kept hk).moved al, (h6.kept hk).moved al, h9⟩, fun a i x h hm => (h7 a i x h hm).warmM hW, fun C hm => (h8 C hm).moved al⟩
theorem g_RO.same {w : g_W} {s U : State} (h : g_RO w s) (hv : U.vm = s.vm) (hh : U.heap = s.heap) : g_RO w U := by
  obtain ⟨⟨h1, h2⟩, ⟨h3, h4, h5, h6, h9⟩, h7, h8⟩ := h
  have al : s.vm.Alike U.vm := by rw [hv]; exact Vm.Alike.refl _
  exact ⟨⟨by rw [hh]; exact h1.moved al, h2⟩, ⟨by rw [hh]; exact h3.moved al, fun i hi => (h4 i hi).same hv, by rw [hh]; exact h5.moved al, by rw [hh]; exact h6.moved al, h9⟩, fun a i x h hm => (h7 a i x h hm).same rfl hv.symm, fun C hm => (h8 C hm).moved al⟩
/-- the heap holds the list -/
def g_H (w : g_W) (σ : g_H0) (H : Heap) : Prop := H.size = g_ba w + σ.length ∧ va_P (g_D w) vwCl (g_S w σ) H
def g_rm (M : g_MD) : Room := { frames := M.2.2.2.2.2.1, cells := M.2.2.2.2.2.2.2.1, slots := M.2.2.2.2.2.2.2.2, locals := M.2.2.2.2.2.2.1 }
def g_ws (M : g_MD) : List Cond := .code M.1 M.2.1 M.2.2.1 M.2.2.2.1 :: gTb
abbrev g_Post : Type := Option Value → g_H0 → Prop
def g_Q (w : g_W) (Φ : g_Post) : Array Value → State → Outcome → State → Prop := fun _ st oc t => (∃ (r : Option Value) (σ' : g_H0), Φ r σ' ∧ oc = .returned (r.map (g_V w)) ∧ g_H w σ' t.heap) ∧ va_F (g_A w) st t
def g_Pc (w : g_W) (as : List Value) (σ : g_H0) : Array Value → State → Prop := va_Pc (as.map (g_V w)) (fun U => g_H w σ U.heap ∧ va_K (g_D w) vwCl (g_tys w) U ∧ g_RO w U)
/-- the method's contract, in the small world -/
def Ret (M : g_MD) (as : List Value) (σ : g_H0) (Φ : g_Post) : Prop :=
  ∀ (w : g_W) (l : Launch), Met l M.1 (g_ws M) (g_rm M) (g_Pc w as σ) (g_Q w Φ) (g_rm M).cells (g_rm M).slots (g_A w)
def g_LR (w : g_W) (ml : List (Option Value)) (ls : Array Slot) : Prop := ls.size = ml.length ∧ lv_wf ls ∧ ∀ (i : Nat) (v : Value), ml[i]? = some (some v) → ls[i]? = some (.val (g_V w v))
def g_Cx (w : g_W) (M : g_MD) (p : Program) (s : State) (m : MethodId) (args : Array Value) (meth : Method) (c : Code) : Prop :=
  p.tables.exec = Jvm.exec ∧ c.code = M.2.1 ∧ meth.sig.returnType = M.2.2.2.1 ∧ c.maxLocals = M.2.2.1 ∧ (∀ x ∈ gTb, x.before args s = true) ∧ s.vm.findClass M.1.cls = some m.cls ∧ meth.locks = false ∧ meth.name = M.1.name ∧ va_K (g_D w) vwCl (g_tys w) s ∧ g_RO w s ∧ g_ba w ≤ s.heap.size
def Go (w : g_W) (M : g_MD) (cs : Nat × Nat) (pc : Nat) (ml : List (Option Value)) (st : List Value) (σ : g_H0) (Φ : g_Post) : Prop :=
  ∀ (p : Program) (l : Launch) (e : Env) (s : State) (m : MethodId) (args : Array Value) (below : List Frame) (meth : Method) (c : Code), g_Cx w M p s m args meth c →
    ∀ (H : Heap) (locs : List Loc) (ls : Array Slot), g_H w σ H → va_S (g_A w) s.heap H locs → ml.length = M.2.2.1 → g_LR w ml ls →
      W p l e (g_rm M) s m args below meth c H locs cs.1 cs.2 (MQ below (g_Q w Φ) args s (g_rm M).cells (g_rm M).slots (g_A w)) (F0 m pc ls (st.map (g_V w)))
theorem Go.mono {w : g_W} {M : g_MD} {cs : Nat × Nat} {pc : Nat} {ml : List (Option Value)} {st : List Value} {σ : g_H0} {Φ Ψ : g_Post} (h : Go w M cs pc ml st σ Φ) (hi : ∀ r σ', Φ r σ' → Ψ r σ') : Go w M cs pc ml st σ Ψ := by
  intro p l e s m args below meth c C H locs ls hH hS hn hL T hT X
  obtain ⟨t, h1, o, h2, h3, ⟨⟨r, σ', q1, q2, q3⟩, q4⟩, h5⟩ := h p l e s m args below meth c C H locs ls hH hS hn hL T hT X
  exact ⟨t, h1, o, h2, h3, ⟨⟨r, σ', hi r σ' q1, q2, q3⟩, q4⟩, h5⟩
theorem Met.post {l : Launch} {y : MethodName} {ws : List Cond} {rm : Room} {Pc : Array Value → State → Prop} {Qc Qd : Array Value → State → Outcome → State → Prop} {mc ms : Nat} {free : Addr → Prop} (h : Met l y ws rm Pc Qc mc ms free) (hi : ∀ a s o t, Qc a s o t → Qd a s o t) : Met l y ws rm Pc Qd mc ms free := by
  intro p e ha hc hk s m args below hf happ hP hT
  obtain ⟨k, o, h1, h2, h3, h4, h5⟩ := h p e ha hc hk s m args below hf happ hP hT
  exact ⟨k, o, h1, h2, h3, hi _ _ _ _ h4, h5⟩
theorem Ret.mono {M : g_MD} {as : List Value} {σ : g_H0} {Φ Ψ : g_Post} (h : Ret M as σ Φ) (hi : ∀ r σ', Φ r σ' → Ψ r σ') : Ret M as σ Ψ :=
  fun w l => Met.post (h w l) (fun _ _ _ _ ⟨⟨r, σ', q1, q2, q3⟩, q4⟩ => ⟨⟨r, σ', hi r σ' q1, q2, q3⟩, q4⟩)
/-! the locals at a method's start -/
def g_ml0 : List Value → List (Option Value)
  | [] => []
  | v :: vs => if v.category = 2 then some v :: none :: g_ml0 vs else some v :: g_ml0 vs
def g_ml (as : List Value) (n : Nat) : List (Option Value) := g_ml0 as ++ List.replicate (n - (g_ml0 as).length) none
theorem g_ml0_args (w : g_W) : ∀ (as : List Value) (o i : Nat) (v : Value), (g_ml0 as)[i]? = some (some v) → (o + i, g_V w v) ∈ lv_args o (as.map (g_V w))
  | [], o, i, v, h => by simp [g_ml0] at h
  | a :: as, o, i, v, h => by
    by_cases hc : a.category = 2
    · simp only [g_ml0, hc, if_true] at h
      simp only [List.map_cons, lv_args, g_V_cat, hc, if_true]
      match i, h with
      | 0, h => simp at h; subst h; exact List.mem_cons.mpr (Or.inl rfl)
      | 1, h => simp at h
      | i + 2, h =>
        have h' : (g_ml0 as)[i]? = some (some v) := by simpa using h
        have := g_ml0_args w as (o + 2) i v h'
        rw [show o + (i + 2) = o + 2 + i by omega]
        exact List.mem_cons_of_mem _ this
    · simp only [g_ml0, hc, if_false] at h
      simp only [List.map_cons, lv_args, g_V_cat, hc, if_false]
      match i, h with
      | 0, h => simp at h; subst h; exact List.mem_cons.mpr (Or.inl rfl)
      | i + 1, h =>
        have h' : (g_ml0 as)[i]? = some (some v) := by simpa using h
        have := g_ml0_args w as (o + 1) i v h'
        rw [show o + (i + 1) = o + 1 + i by omega]
        exact List.mem_cons_of_mem _ this
theorem g_ml0_len (w : g_W) : ∀ as : List Value, (lg_sl (as.map (g_V w))).length = (g_ml0 as).length
  | [] => rfl
  | a :: as => by
    have ih := g_ml0_len w as
    simp only [lg_sl, List.map_cons, List.flatMap_cons, List.length_append] at ih ⊢
    rw [ih]
    by_cases hc : a.category = 2
    · simp [g_ml0, g_V_cat, hc]; omega
    · simp [g_ml0, g_V_cat, hc]; omega
/-- a contract out of a walk from the method's entry -/
theorem Ret.of {M : g_MD} {as : List Value} {σ : g_H0} {Φ : g_Post} (hm : g_MO M) (hn : (g_ml0 as).length ≤ M.2.2.1) (h : ∀ w : g_W, Go w M (0, 0) 0 (g_ml as M.2.2.1) [] σ Φ) : Ret M as σ Φ := by
  intro w l
  refine Met.ofW (cc := M.2.1) (maxL := M.2.2.1) (ret := M.2.2.2.1) hm.2.2.1 rfl ?_
  intro p e s m args below meth c s₁ B hml hv
  obtain ⟨rfl, hH, hK, hR⟩ := hv
  have hts := atoms_spec (ws := g_ws M) B.pre
  have hl := lv_entry (as.map (g_V w)) (n := M.2.2.1) (by rw [g_ml0_len]; exact hn)
  rw [lg_entry_eq]
  generalize (lg_sl (as.map (g_V w)) ++ List.replicate (M.2.2.1 - (lg_sl (as.map (g_V w))).length) Slot.unset).toArray = ls at hl ⊢
  have hlen : (g_ml as M.2.2.1).length = M.2.2.1 := by simp [g_ml]; omega
  refine h w p l e s m _ below meth c ⟨B.exec, B.bytes, B.returns, hml, fun x hx => hts x (List.mem_cons_of_mem _ hx), findClass_of_methodNamed B.named, B.notSynchronized, (name_of_methodNamed B.named B.method).1, hK, hR, ?_⟩ s.heap [] ls hH va_S.rf hlen ⟨?_, hl.2.1, ?_⟩
  · have := hH.1; omega
  · rw [hl.1, hlen]
  · intro i v hi
    refine hl.2.2 (i, g_V w v) ?_
    have hi0 : (g_ml0 as)[i]? = some (some v) := by
      unfold g_ml at hi
      by_cases hlt : i < (g_ml0 as).length
      · rwa [List.getElem?_append_left hlt] at hi
      · rw [List.getElem?_append_right (Nat.not_lt.mp hlt)] at hi
        have := List.eq_of_mem_replicate (List.mem_of_getElem? hi)
        cases this
    have := g_ml0_args w as 0 i v hi0
    rwa [Nat.zero_add] at this
/-! storing into the locals -/
def g_lp (w : g_W) (ml : List (Option Value)) : List (Nat × Value) := (List.range ml.length).filterMap (fun i => (ml[i]?.join).map (fun v => (i, g_V w v)))
theorem g_lp_mem {w : g_W} {ml : List (Option Value)} {i : Nat} {u : Value} : (i, u) ∈ g_lp w ml ↔ ∃ v, ml[i]? = some (some v) ∧ u = g_V w v := by
  unfold g_lp
  rw [List.mem_filterMap]
  constructor
  · rintro ⟨j, -, hj⟩
    obtain ⟨v, h1, h2⟩ := Option.map_eq_some_iff.mp hj
    cases h2
    exact ⟨v, by cases hm : ml[i]? with
      | none => rw [hm] at h1; cases h1
      | some o => rw [hm] at h1; simp at h1; rw [h1], rfl⟩
  · rintro ⟨v, h1, rfl⟩
    exact ⟨i, List.mem_range.mpr (List.getElem?_eq_some_iff.mp h1).1, by rw [h1]; rfl⟩
theorem g_LR.has {w : g_W} {ml : List (Option Value)} {ls : Array Slot} (h : g_LR w ml ls) : lv_has ls ml.length (g_lp w ml) := by
  refine ⟨h.1, h.2.1, fun q hq => ?_⟩
  obtain ⟨i, u⟩ := q
  obtain ⟨v, h1, rfl⟩ := g_lp_mem.mp hq
  exact h.2.2 i v h1
def g_nl (ml : List (Option Value)) (k : Nat) : Bool := match k with
  | 0 => true
  | k + 1 => match ml[k]? with
    | some (some v) => v.category == 1
    | _ => true
theorem g_nl_use {ml : List (Option Value)} {k i : Nat} {v : Value} (h : g_nl ml k = true) (hi : i + 1 = k) (hv : ml[i]? = some (some v)) : v.category = 1 := by
  subst hi
  simp only [g_nl, hv] at h
  simpa using h
theorem g_LR.put {w : g_W} {ml : List (Option Value)} {ls' : Array Slot} {k : Nat} {v : Value} (hn : g_nl ml k = true) (hk : k < ml.length) (h : lv_has ls' ml.length ((k, g_V w v) :: (g_lp w ml).filter (fun q => !(q.1 == k) && !(q.1 + 1 == k && q.2.category == 2)))) : g_LR w (ml.set k (some v)) ls' := by
  refine ⟨by rw [h.1]; simp, h.2.1, fun i u hi => ?_⟩
  by_cases he : k = i
  · subst he
    rw [List.getElem?_set_self hk] at hi
    cases hi
    exact h.2.2 (k, g_V w v) List.mem_cons_self
  · rw [List.getElem?_set_ne he] at hi
    refine h.2.2 (i, g_V w u) (List.mem_cons_of_mem _ (List.mem_filter.mpr ⟨g_lp_mem.mpr ⟨u, hi, rfl⟩, ?_⟩))
    have h1 : ¬ i = k := fun q => he q.symm
    by_cases h2 : i + 1 = k
    · have := g_nl_use hn h2 hi
      simp [h1, h2, g_V_cat, this]
    · simp [h1, h2]
