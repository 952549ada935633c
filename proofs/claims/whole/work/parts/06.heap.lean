/-! the heap: fields, arrays, new, calls, answers -/
section GH
variable {w : g_W} {M : g_MD} {cs : Nat × Nat} {pc q : Nat} {ml : List (Option Value)} {st : List Value} {σ σ' : g_H0} {Φ : g_Post}
theorem g_get {ci k' idx a : Nat} {fs : List Value} {v : Value} (hf : g_FL M.1.cls idx ci k') (hd : decode M.2.1 pc = .ok (.getfield idx, 3)) (hσ : σ[a]? = some (.inr (ci, fs))) (hv : fs[k']? = some v) (hq : pc + 3 = q) (k : Go w M cs q ml (v :: st) σ Φ) : Go w M cs pc ml (.ref a :: st) σ Φ := by
  subst hq
  intro p l e s m args below meth c C H locs ls hH hS hn hL
  obtain ⟨C', F, n, h1, h2, h3, h4⟩ := hf
  exact va_get (C := C') (T := F) (N := n) (fs := fs.map (g_V w)) (v := g_V w v) C.1 C.2.1 C.2.2.2.2.1 h4 C.2.2.2.2.2.1 C.2.2.2.2.2.2.2.2.1 hH.2 a (g_S_at hσ) h1 k' h2 (C.2.2.2.2.1 _ h3) (fun _ h => h) (by rw [List.getElem?_map, hv]; rfl) hd (k p l e s m args below meth c C H locs ls hH hS hn hL)
theorem g_H.set {k : Nat} {e e0 : va_E} {H H1 : Heap} (h : g_H w σ H) (hk : σ[k]? = some e0) (z : H1.size = H.size) (he : va_at (g_D w) vwCl (g_ba w + k, g_E w e) H1) (oq : ∀ q : Nat, q ≠ g_ba w + k → H1[q]? = H[q]?) : g_H w (σ.set k e) H1 := by
  refine ⟨by rw [z, h.1, List.length_set], ?_⟩
  rw [g_S_set]
  exact h.2.set (g_S_D w σ) (g_S_at hk) he oq
theorem g_put {ci k' idx a : Nat} {fs : List Value} {v : Value} {ty : FieldType} (hf : g_FP M.1.cls idx ci k' ty false) (hd : decode M.2.1 pc = .ok (.putfield idx, 3)) (hσ : σ[a]? = some (.inr (ci, fs))) (hl : k' < fs.length) (hnar : narrow ty (g_V w v) = g_V w v) (hfit : fits ty (g_V w v) = true) (hs : σ.set a (.inr (ci, fs.set k' v)) = σ') (hq : pc + 3 = q) (k : Go w M cs q ml st σ' Φ) : Go w M cs pc ml (v :: .ref a :: st) σ Φ := by
  subst hq; subst hs
  intro p l e s m args below meth c C H locs ls hH hS hn hL
  obtain ⟨C', F, n, ty0, hc, hk, hlk, hin, hty, hnm, hfin, hpd, -⟩ := hf
  have hts := C.2.2.2.2.1
  have hK := C.2.2.2.2.2.2.2.2.1
  have he := g_S_at (w := w) hσ
  have hap := va_apart (own := M.1.cls) hts hin ty0 hty hnm hK hc
  obtain ⟨r, h1, cell, q1, q2, q3, q4⟩ := hH.2 a _ he
  have hr : r = (C', F, n) := Option.some.inj (h1.symm.trans hc)
  subst hr
  obtain ⟨hSl, hfc, kC, hkC, hkind⟩ := hK.1 ci _ hc
  obtain ⟨cf, kf, fi, f, hi, hsl⟩ := hSl k' hk
  have hlay := hts _ (hin _ (u_in_lay hk))
  unfold u_lay at hlay
  rw [if_neg (by rw [hfin]; decide)] at hlay
  have hst := (u_facts hfc hkC (u_lays hts hin hk) hi).1
  have h6 := u_store hfc hkC hkind hlay hi hpd hnar hfit
  refine W.putK C.1 C.2.1 (f := f) ⟨C.2.2.2.2.2.1, hts _ hlk, ⟨_, _, _, hi⟩, hst⟩ (by rw [q2]; exact h6) q1 q3 (by rw [hsl]; exact k2_hasslot (q4 k' hk)) rfl rfl hd fun H' e1 e2 e3 => ?_
  rw [hsl] at e1
  refine k p l e s m args below meth c C H' _ ls (hH.set hσ e2 ⟨_, hc, ?_⟩ e3) (hS.put e2 e3 (Nat.le_add_right _ _)) hn hL
  have hfs : (fs.set k' v).map (g_V w) = (fs.map (g_V w)).set k' (g_V w v) := by rw [List.map_set]
  show t_OB _ _ _ _ _ (vp_V ((fs.set k' v).map (g_V w)))
  rw [hfs]
  exact t_OB.to (V := updV (vp_V (fs.map (g_V w))) k' (g_V w v)) ⟨_, e1, q2, q3, t_set q4 hap hk (g_V w v)⟩ (fun j _ => vp_updV_set (by rw [List.length_map]; exact hl) (g_V w v) j)
theorem g_putF {ci k' idx a : Nat} {fs : List Value} {v : Value} {ty : FieldType} (hf : g_FP M.1.cls idx ci k' ty true) (hnm0 : M.1.name = "<init>") (hd : decode M.2.1 pc = .ok (.putfield idx, 3)) (hσ : σ[a]? = some (.inr (ci, fs))) (hl : k' < fs.length) (hnar : narrow ty (g_V w v) = g_V w v) (hfit : fits ty (g_V w v) = true) (hs : σ.set a (.inr (ci, fs.set k' v)) = σ') (hq : pc + 3 = q) (k : Go w M cs q ml st σ' Φ) : Go w M cs pc ml (v :: .ref a :: st) σ Φ := by
  subst hq; subst hs
  intro p l e s m args below meth c C H locs ls hH hS hn hL
  obtain ⟨C', F, n, ty0, hc, hk, hlk, hin, hty, hnm, hfin, hpd, hdecl⟩ := hf
  have hts := C.2.2.2.2.1
  have hK := C.2.2.2.2.2.2.2.2.1
  have hown := C.2.2.2.2.2.1
  have he := g_S_at (w := w) hσ
  have hap := va_apart (own := M.1.cls) hts hin ty0 hty hnm hK hc
  obtain ⟨r, h1, cell, q1, q2, q3, q4⟩ := hH.2 a _ he
  have hr : r = (C', F, n) := Option.some.inj (h1.symm.trans hc)
  subst hr
  obtain ⟨hSl, hfc, kC, hkC, hkind⟩ := hK.1 ci _ hc
  obtain ⟨cf, kf, fi, f, hi, hsl⟩ := hSl k' hk
  have hlay := hts _ (hin _ (u_in_lay hk))
  unfold u_lay at hlay
  rw [if_pos hfin] at hlay
  have hst := (u_facts hfc hkC (u_lays hts hin hk) hi).1
  have hcf : m.cls = cf := by
    obtain ⟨_, _, c', _, _, _, -, -, hf', -, -, -, hown2, -⟩ := Cond.laysFinal_spec hlay
    have e1 : c' = cf := by have := hi.symm.trans hf'; simp at this; exact this.1.symm
    rw [hdecl rfl] at hown2
    rw [← e1]; exact Option.some.inj (hown.symm.trans hown2)
  have h6 := u_fits hfc hkC hkind (Or.inr hlay) hi hpd hnar hfit
  refine W.putFinK C.1 C.2.1 hown (hts _ hlk) hi hst hcf (C.2.2.2.2.2.2.2.1.trans hnm0) (by rw [q2]; exact h6) q1 q3 (by rw [hsl]; exact k2_hasslot (q4 k' hk)) rfl rfl hd fun H' e1 e2 e3 => ?_
  rw [hsl] at e1
  refine k p l e s m args below meth c C H' _ ls (hH.set hσ e2 ⟨_, hc, ?_⟩ e3) (hS.put e2 e3 (Nat.le_add_right _ _)) hn hL
  have hfs : (fs.set k' v).map (g_V w) = (fs.map (g_V w)).set k' (g_V w v) := by rw [List.map_set]
  show t_OB _ _ _ _ _ (vp_V ((fs.set k' v).map (g_V w)))
  rw [hfs]
  exact t_OB.to (V := updV (vp_V (fs.map (g_V w))) k' (g_V w v)) ⟨_, e1, q2, q3, t_set q4 hap hk (g_V w v)⟩ (fun j _ => vp_updV_set (by rw [List.length_map]; exact hl) (g_V w v) j)
/-! arrays -/
theorem g_iald {a n : Nat} {f : Nat → Int32} {i : Int32} (hd : decode M.2.1 pc = .ok (.iaload, 1)) (hσ : σ[a]? = some (.inl (0, n, .inl f))) (hin : vp_in i n) (hq : pc + 1 = q) (k : Go w M cs q ml (.int (f i.toNatClampNeg) :: st) σ Φ) : Go w M cs pc ml (.int i :: .ref a :: st) σ Φ := by
  subst hq
  intro p l e s m args below meth c C H locs ls hH hS hn hL
  exact va_iald C.1 C.2.1 C.2.2.2.2.2.2.2.2.1 hH.2 a 0 (g_S_at hσ) rfl hin hd (k p l e s m args below meth c C H locs ls hH hS hn hL)
theorem g_cald {a n : Nat} {f : Nat → Int32} {i : Int32} (hd : decode M.2.1 pc = .ok (.caload, 1)) (hσ : σ[a]? = some (.inl (1, n, .inl f))) (hin : vp_in i n) (hq : pc + 1 = q) (k : Go w M cs q ml (.int (f i.toNatClampNeg) :: st) σ Φ) : Go w M cs pc ml (.int i :: .ref a :: st) σ Φ := by
  subst hq
  intro p l e s m args below meth c C H locs ls hH hS hn hL
  exact va_cald C.1 C.2.1 C.2.2.2.2.2.2.2.2.1 hH.2 a 1 (g_S_at hσ) rfl hin hd (k p l e s m args below meth c C H locs ls hH hS hn hL)
def g_rv : Option Nat → Value
  | none => .null
  | some a => .ref a
theorem g_rv_V (o : Option Nat) : g_V w (g_rv o) = va_rf (o.map (fun k => g_ba w + k)) := by cases o <;> rfl
theorem g_aald {a n t : Nat} {Cn : String} {f : Nat → Option Nat} {i : Int32} (hd : decode M.2.1 pc = .ok (.aaload, 1)) (ht : (g_tys w)[t]? = some (g_ca w t, .object Cn)) (hσ : σ[a]? = some (.inl (t, n, .inr (.inr (.inr (.inr f)))))) (hin : vp_in i n) (hq : pc + 1 = q) (k : Go w M cs q ml (g_rv (f i.toNatClampNeg) :: st) σ Φ) : Go w M cs pc ml (.int i :: .ref a :: st) σ Φ := by
  subst hq
  intro p l e s m args below meth c C H locs ls hH hS hn hL
  have hk := k p l e s m args below meth c C H locs ls hH hS hn hL
  rw [List.map_cons, g_rv_V] at hk
  exact va_aldq C.1 C.2.1 C.2.2.2.2.2.2.2.2.1 hH.2 a t (g_S_at hσ) ht hin hd hk
theorem g_iast {a n : Nat} {f : Nat → Int32} {i x : Int32} (hd : decode M.2.1 pc = .ok (.iastore, 1)) (hσ : σ[a]? = some (.inl (0, n, .inl f))) (hin : vp_in i n) (hs : σ.set a (.inl (0, n, .inl (upd f i.toNatClampNeg x))) = σ') (hq : pc + 1 = q) (k : Go w M cs q ml st σ' Φ) : Go w M cs pc ml (.int x :: .int i :: .ref a :: st) σ Φ := by
  subst hq; subst hs
  intro p l e s m args below meth c C H locs ls hH hS hn hL
  have hP := hH.2 a _ (g_S_at hσ)
  refine W.iast C.1 C.2.1 hP ((C.2.2.2.2.2.2.2.2.1.2 0 _ rfl).1 n (fun j => .int (f j))) (fun q => by cases q) (by show ¬ (i < 0 ∨ (arrV _ _ _).slots.size ≤ _); rw [arrV_size]; exact hin) rfl rfl hd fun H1 e1 z oq => ?_
  refine k p l e s m args below meth c C H1 _ ls (hH.set hσ z ?_ oq) (hS.put z oq (Nat.le_add_right _ _)) hn hL
  show H1[g_ba w + a]? = some (vp_cell _ _)
  rw [e1, vp_cell_i, vp_cell_i, arrV_store]
  congr 2
  funext j
  by_cases hj : j = i.toNatClampNeg
  · subst hj
    simp [updV, upd]
  · simp [updV, upd, hj]
theorem g_cast {a n : Nat} {f : Nat → Int32} {i x : Int32} (hd : decode M.2.1 pc = .ok (.castore, 1)) (hσ : σ[a]? = some (.inl (1, n, .inl f))) (hin : vp_in i n) (hs : σ.set a (.inl (1, n, .inl (upd f i.toNatClampNeg (vp_nar .char x)))) = σ') (hq : pc + 1 = q) (k : Go w M cs q ml st σ' Φ) : Go w M cs pc ml (.int x :: .int i :: .ref a :: st) σ Φ := by
  subst hq; subst hs
  intro p l e s m args below meth c C H locs ls hH hS hn hL
  have hP := hH.2 a _ (g_S_at hσ)
  refine W.cast C.1 C.2.1 hP ((C.2.2.2.2.2.2.2.2.1.2 1 _ rfl).1 n (fun j => .int (f j))) (fun q => by cases q) (by show ¬ (i < 0 ∨ (arrV _ _ _).slots.size ≤ _); rw [arrV_size]; exact hin) rfl rfl hd fun H1 e1 z oq => ?_
  refine k p l e s m args below meth c C H1 _ ls (hH.set hσ z ?_ oq) (hS.put z oq (Nat.le_add_right _ _)) hn hL
  show H1[g_ba w + a]? = some (vp_cell _ _)
  rw [e1, vp_cell_i, vp_cell_i, arrV_store]
  congr 2
  funext j
  by_cases hj : j = i.toNatClampNeg
  · subst hj
    simp [updV, upd, vp_nar]
    try rfl
  · simp [updV, upd, hj]
theorem g_aast {a n t b ci : Nat} {r : vw_C} {f : Nat → Option Nat} {vs : List Value} {i : Int32} (hd : decode M.2.1 pc = .ok (.aastore, 1)) (hc : vwCl[ci]? = some r) (ht : (g_tys w)[t]? = some (g_ca w t, .object r.1)) (hσ : σ[a]? = some (.inl (t, n, .inr (.inr (.inr (.inr f)))))) (hb : σ[b]? = some (.inr (ci, vs))) (hin : vp_in i n) (hs : σ.set a (.inl (t, n, .inr (.inr (.inr (.inr (va_up f i.toNatClampNeg (some b))))))) = σ') (hq : pc + 1 = q) (k : Go w M cs q ml st σ' Φ) : Go w M cs pc ml (.ref b :: .int i :: .ref a :: st) σ Φ := by
  subst hq; subst hs
  intro p l e s m args below meth c C H locs ls hH hS hn hL
  have hK := C.2.2.2.2.2.2.2.2.1
  have hlt : i.toNatClampNeg < n := Nat.not_le.mp fun q => hin (Or.inr q)
  have h0 : ¬ i < 0 := fun q => hin (Or.inl q)
  obtain ⟨r', hr', cellV, g1, g2, g3, -⟩ := hH.2 b _ (g_S_at hb)
  have hcls := (hK.1 ci r hc).2
  obtain ⟨kA, comp, k1, k2, k3, -⟩ := (hK.2 t _ ht).2
  have hcomp : comp = (g_D w).1 ci := Option.some.inj (k3.symm.trans hcls.1)
  subst hcomp
  obtain ⟨kC, hkC, -⟩ := hcls.2
  refine W.aast C.1 C.2.1 (hH.2 a _ (g_S_at hσ)) (fun q h => by cases h) (fun h => by cases h) k1 k2 rfl hkC ⟨h0, by show _ < (arrV _ _ _).slots.size; rw [arrV_size]; exact hlt⟩ g1 (fun q h => by rw [g3] at h; cases h) (by rw [g2]; exact hkC) (by rw [g2]; exact va_assign hcls) rfl rfl hd fun H1 e1 z oq => ?_
  refine k p l e s m args below meth c C H1 _ ls (hH.set hσ z ?_ oq) (hS.put z oq (Nat.le_add_right _ _)) hn hL
  show H1[g_ba w + a]? = some (vp_cell _ _)
  rw [e1, vp_cell_q, vp_cell_q, arrV_store]
  congr 2
  funext j
  by_cases hj : j = i.toNatClampNeg
  · subst hj
    simp [updV, va_up, va_rf]
  · simp [updV, va_up, hj]
theorem g_alen {a n t : Nat} {f : Nat → Int32} {v : Int32} {ty : FieldType} (hd : decode M.2.1 pc = .ok (.arraylength, 1)) (ht : (g_tys w)[t]? = some (g_ca w t, ty)) (hσ : σ[a]? = some (.inl (t, n, .inl f))) (hv : Int32.ofNat n = v) (hq : pc + 1 = q) (k : Go w M cs q ml (.int v :: st) σ Φ) : Go w M cs pc ml (.ref a :: st) σ Φ := by
  subst hq
  intro p l e s m args below meth c C H locs ls hH hS hn hL
  exact va_alen C.1 C.2.1 C.2.2.2.2.2.2.2.2.1 hH.2 a t (g_S_at hσ) ht hv hd (k p l e s m args below meth c C H locs ls hH hS hn hL)
end GH
