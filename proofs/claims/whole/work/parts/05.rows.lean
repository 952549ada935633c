theorem g_iconst {w : g_W} {M : g_MD} {cs : Nat × Nat} {pc : Nat} {q : Nat} {ml : List (Option Value)} {st : List Value} {σ : g_H0} {Φ : g_Post} {n : Int} {v : Int32} (hd : decode M.2.1 pc = .ok (.iconst n, 1)) (hv : Int32.ofInt n = v) (hq : pc + 1 = q) (k : Go w M cs q ml (.int v :: st) σ Φ) : Go w M cs pc ml (st) σ Φ := by
  subst hq
  intro p l e s m args below meth c C H locs ls hH hS hn hL
  exact lv_iconst C.1 C.2.1 hd hv (k p l e s m args below meth c C H locs ls hH hS hn hL)
theorem g_bipush {w : g_W} {M : g_MD} {cs : Nat × Nat} {pc : Nat} {q : Nat} {ml : List (Option Value)} {st : List Value} {σ : g_H0} {Φ : g_Post} {n : Int} {v : Int32} (hd : decode M.2.1 pc = .ok (.bipush n, 2)) (hv : (Int8.ofInt n).toInt32 = v) (hq : pc + 2 = q) (k : Go w M cs q ml (.int v :: st) σ Φ) : Go w M cs pc ml (st) σ Φ := by
  subst hq
  intro p l e s m args below meth c C H locs ls hH hS hn hL
  exact lv_bipush C.1 C.2.1 hd hv (k p l e s m args below meth c C H locs ls hH hS hn hL)
theorem g_sipush {w : g_W} {M : g_MD} {cs : Nat × Nat} {pc : Nat} {q : Nat} {ml : List (Option Value)} {st : List Value} {σ : g_H0} {Φ : g_Post} {n : Int} {v : Int32} (hd : decode M.2.1 pc = .ok (.sipush n, 3)) (hv : (Int16.ofInt n).toInt32 = v) (hq : pc + 3 = q) (k : Go w M cs q ml (.int v :: st) σ Φ) : Go w M cs pc ml (st) σ Φ := by
  subst hq
  intro p l e s m args below meth c C H locs ls hH hS hn hL
  exact lv_sipush C.1 C.2.1 hd hv (k p l e s m args below meth c C H locs ls hH hS hn hL)
theorem g_lconst {w : g_W} {M : g_MD} {cs : Nat × Nat} {pc : Nat} {q : Nat} {ml : List (Option Value)} {st : List Value} {σ : g_H0} {Φ : g_Post} {n : Fin 2} {v : Int64} (hd : decode M.2.1 pc = .ok (.lconst n, 1)) (hv : Int64.ofNat (n : Nat) = v) (hq : pc + 1 = q) (k : Go w M cs q ml (.long v :: st) σ Φ) : Go w M cs pc ml (st) σ Φ := by
  subst hq
  intro p l e s m args below meth c C H locs ls hH hS hn hL
  exact lv_lconst C.1 C.2.1 hd hv (k p l e s m args below meth c C H locs ls hH hS hn hL)
theorem g_iload_n {w : g_W} {M : g_MD} {cs : Nat × Nat} {pc : Nat} {q : Nat} {ml : List (Option Value)} {st : List Value} {σ : g_H0} {Φ : g_Post} {i : Fin 4} {x : Int32} (hd : decode M.2.1 pc = .ok (.iload_n i, 1)) (hl : ml[(i : Nat)]? = some (some (.int x))) (hq : pc + 1 = q) (k : Go w M cs q ml (.int x :: st) σ Φ) : Go w M cs pc ml (st) σ Φ := by
  subst hq
  intro p l e s m args below meth c C H locs ls hH hS hn hL
  exact lv_iload_n C.1 C.2.1 hd rfl (hL.2.2 _ _ hl) (k p l e s m args below meth c C H locs ls hH hS hn hL)
theorem g_iload {w : g_W} {M : g_MD} {cs : Nat × Nat} {pc : Nat} {q : Nat} {ml : List (Option Value)} {st : List Value} {σ : g_H0} {Φ : g_Post} {i : Nat} {x : Int32} (hd : decode M.2.1 pc = .ok (.iload i, 2)) (hl : ml[i]? = some (some (.int x))) (hq : pc + 2 = q) (k : Go w M cs q ml (.int x :: st) σ Φ) : Go w M cs pc ml (st) σ Φ := by
  subst hq
  intro p l e s m args below meth c C H locs ls hH hS hn hL
  exact lv_iload C.1 C.2.1 hd (hL.2.2 _ _ hl) (k p l e s m args below meth c C H locs ls hH hS hn hL)
theorem g_lload_n {w : g_W} {M : g_MD} {cs : Nat × Nat} {pc : Nat} {q : Nat} {ml : List (Option Value)} {st : List Value} {σ : g_H0} {Φ : g_Post} {i : Fin 4} {x : Int64} (hd : decode M.2.1 pc = .ok (.lload_n i, 1)) (hl : ml[(i : Nat)]? = some (some (.long x))) (hq : pc + 1 = q) (k : Go w M cs q ml (.long x :: st) σ Φ) : Go w M cs pc ml (st) σ Φ := by
  subst hq
  intro p l e s m args below meth c C H locs ls hH hS hn hL
  exact lv_lload_n C.1 C.2.1 hd rfl (hL.2.2 _ _ hl) (k p l e s m args below meth c C H locs ls hH hS hn hL)
theorem g_lload {w : g_W} {M : g_MD} {cs : Nat × Nat} {pc : Nat} {q : Nat} {ml : List (Option Value)} {st : List Value} {σ : g_H0} {Φ : g_Post} {i : Nat} {x : Int64} (hd : decode M.2.1 pc = .ok (.lload i, 2)) (hl : ml[i]? = some (some (.long x))) (hq : pc + 2 = q) (k : Go w M cs q ml (.long x :: st) σ Φ) : Go w M cs pc ml (st) σ Φ := by
  subst hq
  intro p l e s m args below meth c C H locs ls hH hS hn hL
  exact lv_lload C.1 C.2.1 hd (hL.2.2 _ _ hl) (k p l e s m args below meth c C H locs ls hH hS hn hL)
theorem g_aload_n {w : g_W} {M : g_MD} {cs : Nat × Nat} {pc : Nat} {q : Nat} {ml : List (Option Value)} {st : List Value} {σ : g_H0} {Φ : g_Post} {i : Fin 4} {x : Nat} (hd : decode M.2.1 pc = .ok (.aload_n i, 1)) (hl : ml[(i : Nat)]? = some (some (.ref x))) (hq : pc + 1 = q) (k : Go w M cs q ml (.ref x :: st) σ Φ) : Go w M cs pc ml (st) σ Φ := by
  subst hq
  intro p l e s m args below meth c C H locs ls hH hS hn hL
  exact lv_aload_n C.1 C.2.1 hd rfl (hL.2.2 _ _ hl) (k p l e s m args below meth c C H locs ls hH hS hn hL)
theorem g_aload {w : g_W} {M : g_MD} {cs : Nat × Nat} {pc : Nat} {q : Nat} {ml : List (Option Value)} {st : List Value} {σ : g_H0} {Φ : g_Post} {i : Nat} {x : Nat} (hd : decode M.2.1 pc = .ok (.aload i, 2)) (hl : ml[i]? = some (some (.ref x))) (hq : pc + 2 = q) (k : Go w M cs q ml (.ref x :: st) σ Φ) : Go w M cs pc ml (st) σ Φ := by
  subst hq
  intro p l e s m args below meth c C H locs ls hH hS hn hL
  exact lv_aload C.1 C.2.1 hd (hL.2.2 _ _ hl) (k p l e s m args below meth c C H locs ls hH hS hn hL)
theorem g_aloadF_n {w : g_W} {M : g_MD} {cs : Nat × Nat} {pc : Nat} {q : Nat} {ml : List (Option Value)} {st : List Value} {σ : g_H0} {Φ : g_Post} {i : Fin 4} {x : UInt32} (hd : decode M.2.1 pc = .ok (.aload_n i, 1)) (hl : ml[(i : Nat)]? = some (some (.float x))) (hq : pc + 1 = q) (k : Go w M cs q ml (.float x :: st) σ Φ) : Go w M cs pc ml (st) σ Φ := by
  subst hq
  intro p l e s m args below meth c C H locs ls hH hS hn hL
  exact lv_aload_n C.1 C.2.1 hd rfl (hL.2.2 _ _ hl) (k p l e s m args below meth c C H locs ls hH hS hn hL)
theorem g_aloadF {w : g_W} {M : g_MD} {cs : Nat × Nat} {pc : Nat} {q : Nat} {ml : List (Option Value)} {st : List Value} {σ : g_H0} {Φ : g_Post} {i : Nat} {x : UInt32} (hd : decode M.2.1 pc = .ok (.aload i, 2)) (hl : ml[i]? = some (some (.float x))) (hq : pc + 2 = q) (k : Go w M cs q ml (.float x :: st) σ Φ) : Go w M cs pc ml (st) σ Φ := by
  subst hq
  intro p l e s m args below meth c C H locs ls hH hS hn hL
  exact lv_aload C.1 C.2.1 hd (hL.2.2 _ _ hl) (k p l e s m args below meth c C H locs ls hH hS hn hL)
theorem g_istore_n {w : g_W} {M : g_MD} {cs : Nat × Nat} {pc : Nat} {q : Nat} {ml : List (Option Value)} {st : List Value} {σ : g_H0} {Φ : g_Post} {i : Fin 4} {x : Int32} {ml' : List (Option Value)} (hd : decode M.2.1 pc = .ok (.istore_n i, 1)) (hm : ml.set (i : Nat) (some (.int x)) = ml') (hi : (i : Nat) < ml.length) (hnl : g_nl ml (i : Nat) = true) (hq : pc + 1 = q) (k : Go w M cs q ml' st σ Φ) : Go w M cs pc ml (.int x :: st) σ Φ := by
  subst hq
  subst hm
  intro p l e s m args below meth c C H locs ls hH hS hn hL
  refine lv_istore_n C.1 C.2.1 hd rfl hL.has hi rfl (fun ls' hl' => ?_)
  exact k p l e s m args below meth c C H locs ls' hH hS (by rw [List.length_set]; exact hn) (g_LR.put (v := .int x) hnl hi hl')
theorem g_istore {w : g_W} {M : g_MD} {cs : Nat × Nat} {pc : Nat} {q : Nat} {ml : List (Option Value)} {st : List Value} {σ : g_H0} {Φ : g_Post} {i : Nat} {x : Int32} {ml' : List (Option Value)} (hd : decode M.2.1 pc = .ok (.istore i, 2)) (hm : ml.set i (some (.int x)) = ml') (hi : i < ml.length) (hnl : g_nl ml i = true) (hq : pc + 2 = q) (k : Go w M cs q ml' st σ Φ) : Go w M cs pc ml (.int x :: st) σ Φ := by
  subst hq
  subst hm
  intro p l e s m args below meth c C H locs ls hH hS hn hL
  refine lv_istore C.1 C.2.1 hd hL.has hi rfl (fun ls' hl' => ?_)
  exact k p l e s m args below meth c C H locs ls' hH hS (by rw [List.length_set]; exact hn) (g_LR.put (v := .int x) hnl hi hl')
theorem g_astore_n {w : g_W} {M : g_MD} {cs : Nat × Nat} {pc : Nat} {q : Nat} {ml : List (Option Value)} {st : List Value} {σ : g_H0} {Φ : g_Post} {i : Fin 4} {x : Nat} {ml' : List (Option Value)} (hd : decode M.2.1 pc = .ok (.astore_n i, 1)) (hm : ml.set (i : Nat) (some (.ref x)) = ml') (hi : (i : Nat) < ml.length) (hnl : g_nl ml (i : Nat) = true) (hq : pc + 1 = q) (k : Go w M cs q ml' st σ Φ) : Go w M cs pc ml (.ref x :: st) σ Φ := by
  subst hq
  subst hm
  intro p l e s m args below meth c C H locs ls hH hS hn hL
  refine lv_astore_n C.1 C.2.1 hd rfl hL.has hi rfl (fun ls' hl' => ?_)
  exact k p l e s m args below meth c C H locs ls' hH hS (by rw [List.length_set]; exact hn) (g_LR.put (v := .ref x) hnl hi hl')
theorem g_astore {w : g_W} {M : g_MD} {cs : Nat × Nat} {pc : Nat} {q : Nat} {ml : List (Option Value)} {st : List Value} {σ : g_H0} {Φ : g_Post} {i : Nat} {x : Nat} {ml' : List (Option Value)} (hd : decode M.2.1 pc = .ok (.astore i, 2)) (hm : ml.set i (some (.ref x)) = ml') (hi : i < ml.length) (hnl : g_nl ml i = true) (hq : pc + 2 = q) (k : Go w M cs q ml' st σ Φ) : Go w M cs pc ml (.ref x :: st) σ Φ := by
  subst hq
  subst hm
  intro p l e s m args below meth c C H locs ls hH hS hn hL
  refine lv_astore C.1 C.2.1 hd hL.has hi rfl (fun ls' hl' => ?_)
  exact k p l e s m args below meth c C H locs ls' hH hS (by rw [List.length_set]; exact hn) (g_LR.put (v := .ref x) hnl hi hl')
theorem g_iinc {w : g_W} {M : g_MD} {cs : Nat × Nat} {pc : Nat} {q : Nat} {ml : List (Option Value)} {st : List Value} {σ : g_H0} {Φ : g_Post} {i : Nat} {n : Int} {x v : Int32} {ml' : List (Option Value)} (hd : decode M.2.1 pc = .ok (.iinc i n, 3)) (hl : ml[i]? = some (some (.int x))) (hv : x + Int32.ofInt n = v) (hm : ml.set i (some (.int v)) = ml') (hnl : g_nl ml i = true) (hq : pc + 3 = q) (k : Go w M cs q ml' st σ Φ) : Go w M cs pc ml st σ Φ := by
  subst hq
  subst hm
  intro p l e s m args below meth c C H locs ls hH hS hn hL
  have hi : i < ml.length := (List.getElem?_eq_some_iff.mp hl).1
  have h0 := hL.has
  have h1 : lv_has ls ml.length ((i, .int x) :: g_lp w ml) := ⟨h0.1, h0.2.1, fun q hq => by
    rcases List.mem_cons.mp hq with rfl | hq
    · exact hL.2.2 i _ hl
    · exact h0.2.2 q hq⟩
  refine lv_iinc (k := 0) C.1 C.2.1 hd h1 rfl hv hi rfl (fun ls' hl' => ?_)
  refine k p l e s m args below meth c C H locs ls' hH hS (by rw [List.length_set]; exact hn) (g_LR.put (v := .int v) hnl hi ?_)
  simpa [g_V] using hl'
theorem g_iadd {w : g_W} {M : g_MD} {cs : Nat × Nat} {pc : Nat} {q : Nat} {ml : List (Option Value)} {st : List Value} {σ : g_H0} {Φ : g_Post} {x y : Int32} (hd : decode M.2.1 pc = .ok (.iadd, 1))  (hq : pc + 1 = q) (k : Go w M cs q ml (.int (x + y) :: st) σ Φ) : Go w M cs pc ml (.int y :: .int x :: st) σ Φ := by
  subst hq
  intro p l e s m args below meth c C H locs ls hH hS hn hL
  exact lv_iadd C.1 C.2.1 hd  (k p l e s m args below meth c C H locs ls hH hS hn hL)
theorem g_isub {w : g_W} {M : g_MD} {cs : Nat × Nat} {pc : Nat} {q : Nat} {ml : List (Option Value)} {st : List Value} {σ : g_H0} {Φ : g_Post} {x y : Int32} (hd : decode M.2.1 pc = .ok (.isub, 1))  (hq : pc + 1 = q) (k : Go w M cs q ml (.int (x - y) :: st) σ Φ) : Go w M cs pc ml (.int y :: .int x :: st) σ Φ := by
  subst hq
  intro p l e s m args below meth c C H locs ls hH hS hn hL
  exact lv_isub C.1 C.2.1 hd  (k p l e s m args below meth c C H locs ls hH hS hn hL)
theorem g_imul {w : g_W} {M : g_MD} {cs : Nat × Nat} {pc : Nat} {q : Nat} {ml : List (Option Value)} {st : List Value} {σ : g_H0} {Φ : g_Post} {x y : Int32} (hd : decode M.2.1 pc = .ok (.imul, 1))  (hq : pc + 1 = q) (k : Go w M cs q ml (.int (x * y) :: st) σ Φ) : Go w M cs pc ml (.int y :: .int x :: st) σ Φ := by
  subst hq
  intro p l e s m args below meth c C H locs ls hH hS hn hL
  exact lv_imul C.1 C.2.1 hd  (k p l e s m args below meth c C H locs ls hH hS hn hL)
theorem g_iand {w : g_W} {M : g_MD} {cs : Nat × Nat} {pc : Nat} {q : Nat} {ml : List (Option Value)} {st : List Value} {σ : g_H0} {Φ : g_Post} {x y : Int32} (hd : decode M.2.1 pc = .ok (.iand, 1))  (hq : pc + 1 = q) (k : Go w M cs q ml (.int (x &&& y) :: st) σ Φ) : Go w M cs pc ml (.int y :: .int x :: st) σ Φ := by
  subst hq
  intro p l e s m args below meth c C H locs ls hH hS hn hL
  exact lv_iand C.1 C.2.1 hd  (k p l e s m args below meth c C H locs ls hH hS hn hL)
theorem g_ior {w : g_W} {M : g_MD} {cs : Nat × Nat} {pc : Nat} {q : Nat} {ml : List (Option Value)} {st : List Value} {σ : g_H0} {Φ : g_Post} {x y : Int32} (hd : decode M.2.1 pc = .ok (.ior, 1))  (hq : pc + 1 = q) (k : Go w M cs q ml (.int (x ||| y) :: st) σ Φ) : Go w M cs pc ml (.int y :: .int x :: st) σ Φ := by
  subst hq
  intro p l e s m args below meth c C H locs ls hH hS hn hL
  exact lv_ior C.1 C.2.1 hd  (k p l e s m args below meth c C H locs ls hH hS hn hL)
theorem g_ixor {w : g_W} {M : g_MD} {cs : Nat × Nat} {pc : Nat} {q : Nat} {ml : List (Option Value)} {st : List Value} {σ : g_H0} {Φ : g_Post} {x y : Int32} (hd : decode M.2.1 pc = .ok (.ixor, 1))  (hq : pc + 1 = q) (k : Go w M cs q ml (.int (x ^^^ y) :: st) σ Φ) : Go w M cs pc ml (.int y :: .int x :: st) σ Φ := by
  subst hq
  intro p l e s m args below meth c C H locs ls hH hS hn hL
  exact lv_ixor C.1 C.2.1 hd  (k p l e s m args below meth c C H locs ls hH hS hn hL)
theorem g_ishl {w : g_W} {M : g_MD} {cs : Nat × Nat} {pc : Nat} {q : Nat} {ml : List (Option Value)} {st : List Value} {σ : g_H0} {Φ : g_Post} {x y : Int32} (hd : decode M.2.1 pc = .ok (.ishl, 1))  (hq : pc + 1 = q) (k : Go w M cs q ml (.int (x <<< (y &&& 31)) :: st) σ Φ) : Go w M cs pc ml (.int y :: .int x :: st) σ Φ := by
  subst hq
  intro p l e s m args below meth c C H locs ls hH hS hn hL
  exact lv_ishl C.1 C.2.1 hd  (k p l e s m args below meth c C H locs ls hH hS hn hL)
theorem g_ishr {w : g_W} {M : g_MD} {cs : Nat × Nat} {pc : Nat} {q : Nat} {ml : List (Option Value)} {st : List Value} {σ : g_H0} {Φ : g_Post} {x y : Int32} (hd : decode M.2.1 pc = .ok (.ishr, 1))  (hq : pc + 1 = q) (k : Go w M cs q ml (.int (x >>> (y &&& 31)) :: st) σ Φ) : Go w M cs pc ml (.int y :: .int x :: st) σ Φ := by
  subst hq
  intro p l e s m args below meth c C H locs ls hH hS hn hL
  exact lv_ishr C.1 C.2.1 hd  (k p l e s m args below meth c C H locs ls hH hS hn hL)
theorem g_idiv {w : g_W} {M : g_MD} {cs : Nat × Nat} {pc : Nat} {q : Nat} {ml : List (Option Value)} {st : List Value} {σ : g_H0} {Φ : g_Post} {x y : Int32} (hd : decode M.2.1 pc = .ok (.idiv, 1)) (hne : ¬ y = 0) (hq : pc + 1 = q) (k : Go w M cs q ml (.int (x / y) :: st) σ Φ) : Go w M cs pc ml (.int y :: .int x :: st) σ Φ := by
  subst hq
  intro p l e s m args below meth c C H locs ls hH hS hn hL
  exact lv_idiv C.1 C.2.1 hd hne (k p l e s m args below meth c C H locs ls hH hS hn hL)
theorem g_irem {w : g_W} {M : g_MD} {cs : Nat × Nat} {pc : Nat} {q : Nat} {ml : List (Option Value)} {st : List Value} {σ : g_H0} {Φ : g_Post} {x y : Int32} (hd : decode M.2.1 pc = .ok (.irem, 1)) (hne : ¬ y = 0) (hq : pc + 1 = q) (k : Go w M cs q ml (.int (x - x / y * y) :: st) σ Φ) : Go w M cs pc ml (.int y :: .int x :: st) σ Φ := by
  subst hq
  intro p l e s m args below meth c C H locs ls hH hS hn hL
  exact lv_irem C.1 C.2.1 hd hne (k p l e s m args below meth c C H locs ls hH hS hn hL)
theorem g_ineg {w : g_W} {M : g_MD} {cs : Nat × Nat} {pc : Nat} {q : Nat} {ml : List (Option Value)} {st : List Value} {σ : g_H0} {Φ : g_Post} {x : Int32} (hd : decode M.2.1 pc = .ok (.ineg, 1))  (hq : pc + 1 = q) (k : Go w M cs q ml (.int (-x) :: st) σ Φ) : Go w M cs pc ml (.int x :: st) σ Φ := by
  subst hq
  intro p l e s m args below meth c C H locs ls hH hS hn hL
  exact lv_ineg C.1 C.2.1 hd  (k p l e s m args below meth c C H locs ls hH hS hn hL)
theorem g_ladd {w : g_W} {M : g_MD} {cs : Nat × Nat} {pc : Nat} {q : Nat} {ml : List (Option Value)} {st : List Value} {σ : g_H0} {Φ : g_Post} {x y : Int64} (hd : decode M.2.1 pc = .ok (.ladd, 1))  (hq : pc + 1 = q) (k : Go w M cs q ml (.long (x + y) :: st) σ Φ) : Go w M cs pc ml (.long y :: .long x :: st) σ Φ := by
  subst hq
  intro p l e s m args below meth c C H locs ls hH hS hn hL
  exact lv_ladd C.1 C.2.1 hd  (k p l e s m args below meth c C H locs ls hH hS hn hL)
theorem g_lsub {w : g_W} {M : g_MD} {cs : Nat × Nat} {pc : Nat} {q : Nat} {ml : List (Option Value)} {st : List Value} {σ : g_H0} {Φ : g_Post} {x y : Int64} (hd : decode M.2.1 pc = .ok (.lsub, 1))  (hq : pc + 1 = q) (k : Go w M cs q ml (.long (x - y) :: st) σ Φ) : Go w M cs pc ml (.long y :: .long x :: st) σ Φ := by
  subst hq
  intro p l e s m args below meth c C H locs ls hH hS hn hL
  exact lv_lsub C.1 C.2.1 hd  (k p l e s m args below meth c C H locs ls hH hS hn hL)
theorem g_lmul {w : g_W} {M : g_MD} {cs : Nat × Nat} {pc : Nat} {q : Nat} {ml : List (Option Value)} {st : List Value} {σ : g_H0} {Φ : g_Post} {x y : Int64} (hd : decode M.2.1 pc = .ok (.lmul, 1))  (hq : pc + 1 = q) (k : Go w M cs q ml (.long (x * y) :: st) σ Φ) : Go w M cs pc ml (.long y :: .long x :: st) σ Φ := by
  subst hq
  intro p l e s m args below meth c C H locs ls hH hS hn hL
  exact lv_lmul C.1 C.2.1 hd  (k p l e s m args below meth c C H locs ls hH hS hn hL)
theorem g_land {w : g_W} {M : g_MD} {cs : Nat × Nat} {pc : Nat} {q : Nat} {ml : List (Option Value)} {st : List Value} {σ : g_H0} {Φ : g_Post} {x y : Int64} (hd : decode M.2.1 pc = .ok (.land, 1))  (hq : pc + 1 = q) (k : Go w M cs q ml (.long (x &&& y) :: st) σ Φ) : Go w M cs pc ml (.long y :: .long x :: st) σ Φ := by
  subst hq
  intro p l e s m args below meth c C H locs ls hH hS hn hL
  exact lv_land C.1 C.2.1 hd  (k p l e s m args below meth c C H locs ls hH hS hn hL)
theorem g_lshr {w : g_W} {M : g_MD} {cs : Nat × Nat} {pc : Nat} {q : Nat} {ml : List (Option Value)} {st : List Value} {σ : g_H0} {Φ : g_Post} {x : Int64} {y : Int32} (hd : decode M.2.1 pc = .ok (.lshr, 1))  (hq : pc + 1 = q) (k : Go w M cs q ml (.long (x >>> (y.toInt64 &&& 63)) :: st) σ Φ) : Go w M cs pc ml (.int y :: .long x :: st) σ Φ := by
  subst hq
  intro p l e s m args below meth c C H locs ls hH hS hn hL
  exact lv_lshr C.1 C.2.1 hd rfl (k p l e s m args below meth c C H locs ls hH hS hn hL)
theorem g_iushr {w : g_W} {M : g_MD} {cs : Nat × Nat} {pc : Nat} {q : Nat} {ml : List (Option Value)} {st : List Value} {σ : g_H0} {Φ : g_Post} {x y : Int32} (hd : decode M.2.1 pc = .ok (.iushr, 1))  (hq : pc + 1 = q) (k : Go w M cs q ml (.int (x.toUInt32 >>> (y.toUInt32 &&& Int32.toUInt32 31)).toInt32 :: st) σ Φ) : Go w M cs pc ml (.int y :: .int x :: st) σ Φ := by
  subst hq
  intro p l e s m args below meth c C H locs ls hH hS hn hL
  exact lv_iushr C.1 C.2.1 hd rfl (k p l e s m args below meth c C H locs ls hH hS hn hL)
theorem g_i2l {w : g_W} {M : g_MD} {cs : Nat × Nat} {pc : Nat} {q : Nat} {ml : List (Option Value)} {st : List Value} {σ : g_H0} {Φ : g_Post} {x : Int32} (hd : decode M.2.1 pc = .ok (.i2l, 1))  (hq : pc + 1 = q) (k : Go w M cs q ml (.long x.toInt64 :: st) σ Φ) : Go w M cs pc ml (.int x :: st) σ Φ := by
  subst hq
  intro p l e s m args below meth c C H locs ls hH hS hn hL
  exact lv_i2l C.1 C.2.1 hd rfl (k p l e s m args below meth c C H locs ls hH hS hn hL)
theorem g_i2c {w : g_W} {M : g_MD} {cs : Nat × Nat} {pc : Nat} {q : Nat} {ml : List (Option Value)} {st : List Value} {σ : g_H0} {Φ : g_Post} {x v : Int32} (hd : decode M.2.1 pc = .ok (.i2c, 1)) (hv : (x.toUInt32 % 65536).toInt32 = v) (hq : pc + 1 = q) (k : Go w M cs q ml (.int v :: st) σ Φ) : Go w M cs pc ml (.int x :: st) σ Φ := by
  subst hq
  intro p l e s m args below meth c C H locs ls hH hS hn hL
  exact lv_i2c C.1 C.2.1 hd hv (k p l e s m args below meth c C H locs ls hH hS hn hL)
theorem g_lcmp {w : g_W} {M : g_MD} {cs : Nat × Nat} {pc : Nat} {q : Nat} {ml : List (Option Value)} {st : List Value} {σ : g_H0} {Φ : g_Post} {x y : Int64} (hd : decode M.2.1 pc = .ok (.lcmp, 1)) (hq : pc + 1 = q) (k : Go w M cs q ml (.int (lg_cmp x y) :: st) σ Φ) : Go w M cs pc ml (.long y :: .long x :: st) σ Φ := by
  subst hq
  intro p l e s m args below meth c C H locs ls hH hS hn hL
  exact W.lcmp C.1 C.2.1 hd (k p l e s m args below meth c C H locs ls hH hS hn hL)
theorem g_dup {w : g_W} {M : g_MD} {cs : Nat × Nat} {pc : Nat} {q : Nat} {ml : List (Option Value)} {st : List Value} {σ : g_H0} {Φ : g_Post} {v : Value} (hd : decode M.2.1 pc = .ok (.dup, 1)) (hv : v.category = 1) (hq : pc + 1 = q) (k : Go w M cs q ml (v :: v :: st) σ Φ) : Go w M cs pc ml (v :: st) σ Φ := by
  subst hq
  intro p l e s m args below meth c C H locs ls hH hS hn hL
  exact lv_dup C.1 C.2.1 hd ((g_V_cat w v).trans hv) (k p l e s m args below meth c C H locs ls hH hS hn hL)
theorem g_pop {w : g_W} {M : g_MD} {cs : Nat × Nat} {pc : Nat} {q : Nat} {ml : List (Option Value)} {st : List Value} {σ : g_H0} {Φ : g_Post} {v : Value} (hd : decode M.2.1 pc = .ok (.pop, 1)) (hv : v.category = 1) (hq : pc + 1 = q) (k : Go w M cs q ml (st) σ Φ) : Go w M cs pc ml (v :: st) σ Φ := by
  subst hq
  intro p l e s m args below meth c C H locs ls hH hS hn hL
  exact lv_pop C.1 C.2.1 hd ((g_V_cat w v).trans hv) (k p l e s m args below meth c C H locs ls hH hS hn hL)
theorem g_dup2 {w : g_W} {M : g_MD} {cs : Nat × Nat} {pc : Nat} {q : Nat} {ml : List (Option Value)} {st : List Value} {σ : g_H0} {Φ : g_Post} {v u : Value} (hd : decode M.2.1 pc = .ok (.dup2, 1)) (hv : v.category = 1) (hu : u.category = 1) (hq : pc + 1 = q) (k : Go w M cs q ml (v :: u :: v :: u :: st) σ Φ) : Go w M cs pc ml (v :: u :: st) σ Φ := by
  subst hq
  intro p l e s m args below meth c C H locs ls hH hS hn hL
  exact lv_dup2_11 C.1 C.2.1 hd ((g_V_cat w v).trans hv) ((g_V_cat w u).trans hu) (k p l e s m args below meth c C H locs ls hH hS hn hL)
theorem g_if_eq {w : g_W} {M : g_MD} {cs : Nat × Nat} {pc : Nat} {q : Nat} {ml : List (Option Value)} {st : List Value} {σ : g_H0} {Φ : g_Post} {x : Int32} {t : Nat} {off : Int} (hd : decode M.2.1 pc = .ok (.ifCond .eq off, 3)) (ht : (pc : Int) + off = (t : Int)) (hq : pc + 3 = q) (kt : x = 0 → Go w M cs t ml st σ Φ) (kf : ¬ x = 0 → Go w M cs q ml st σ Φ) : Go w M cs pc ml (.int x :: st) σ Φ := by
  subst hq
  intro p l e s m args below meth c C H locs ls hH hS hn hL
  exact lv_if_eq C.1 C.2.1 hd ht (fun h => kt h p l e s m args below meth c C H locs ls hH hS hn hL) (fun h => kf h p l e s m args below meth c C H locs ls hH hS hn hL)
theorem g_icmp_eq {w : g_W} {M : g_MD} {cs : Nat × Nat} {pc : Nat} {q : Nat} {ml : List (Option Value)} {st : List Value} {σ : g_H0} {Φ : g_Post} {x y : Int32} {t : Nat} {off : Int} (hd : decode M.2.1 pc = .ok (.if_icmp .eq off, 3)) (ht : (pc : Int) + off = (t : Int)) (hq : pc + 3 = q) (kt : x = y → Go w M cs t ml st σ Φ) (kf : ¬ x = y → Go w M cs q ml st σ Φ) : Go w M cs pc ml (.int y :: .int x :: st) σ Φ := by
  subst hq
  intro p l e s m args below meth c C H locs ls hH hS hn hL
  exact lv_icmp_eq C.1 C.2.1 hd ht (fun h => kt h p l e s m args below meth c C H locs ls hH hS hn hL) (fun h => kf h p l e s m args below meth c C H locs ls hH hS hn hL)
theorem g_if_ne {w : g_W} {M : g_MD} {cs : Nat × Nat} {pc : Nat} {q : Nat} {ml : List (Option Value)} {st : List Value} {σ : g_H0} {Φ : g_Post} {x : Int32} {t : Nat} {off : Int} (hd : decode M.2.1 pc = .ok (.ifCond .ne off, 3)) (ht : (pc : Int) + off = (t : Int)) (hq : pc + 3 = q) (kt : ¬ x = 0 → Go w M cs t ml st σ Φ) (kf : x = 0 → Go w M cs q ml st σ Φ) : Go w M cs pc ml (.int x :: st) σ Φ := by
  subst hq
  intro p l e s m args below meth c C H locs ls hH hS hn hL
  exact lv_if_ne C.1 C.2.1 hd ht (fun h => kt h p l e s m args below meth c C H locs ls hH hS hn hL) (fun h => kf h p l e s m args below meth c C H locs ls hH hS hn hL)
theorem g_icmp_ne {w : g_W} {M : g_MD} {cs : Nat × Nat} {pc : Nat} {q : Nat} {ml : List (Option Value)} {st : List Value} {σ : g_H0} {Φ : g_Post} {x y : Int32} {t : Nat} {off : Int} (hd : decode M.2.1 pc = .ok (.if_icmp .ne off, 3)) (ht : (pc : Int) + off = (t : Int)) (hq : pc + 3 = q) (kt : ¬ x = y → Go w M cs t ml st σ Φ) (kf : x = y → Go w M cs q ml st σ Φ) : Go w M cs pc ml (.int y :: .int x :: st) σ Φ := by
  subst hq
  intro p l e s m args below meth c C H locs ls hH hS hn hL
  exact lv_icmp_ne C.1 C.2.1 hd ht (fun h => kt h p l e s m args below meth c C H locs ls hH hS hn hL) (fun h => kf h p l e s m args below meth c C H locs ls hH hS hn hL)
theorem g_if_lt {w : g_W} {M : g_MD} {cs : Nat × Nat} {pc : Nat} {q : Nat} {ml : List (Option Value)} {st : List Value} {σ : g_H0} {Φ : g_Post} {x : Int32} {t : Nat} {off : Int} (hd : decode M.2.1 pc = .ok (.ifCond .lt off, 3)) (ht : (pc : Int) + off = (t : Int)) (hq : pc + 3 = q) (kt : x < 0 → Go w M cs t ml st σ Φ) (kf : ¬ x < 0 → Go w M cs q ml st σ Φ) : Go w M cs pc ml (.int x :: st) σ Φ := by
  subst hq
  intro p l e s m args below meth c C H locs ls hH hS hn hL
  exact lv_if_lt C.1 C.2.1 hd ht (fun h => kt h p l e s m args below meth c C H locs ls hH hS hn hL) (fun h => kf h p l e s m args below meth c C H locs ls hH hS hn hL)
theorem g_icmp_lt {w : g_W} {M : g_MD} {cs : Nat × Nat} {pc : Nat} {q : Nat} {ml : List (Option Value)} {st : List Value} {σ : g_H0} {Φ : g_Post} {x y : Int32} {t : Nat} {off : Int} (hd : decode M.2.1 pc = .ok (.if_icmp .lt off, 3)) (ht : (pc : Int) + off = (t : Int)) (hq : pc + 3 = q) (kt : x < y → Go w M cs t ml st σ Φ) (kf : ¬ x < y → Go w M cs q ml st σ Φ) : Go w M cs pc ml (.int y :: .int x :: st) σ Φ := by
  subst hq
  intro p l e s m args below meth c C H locs ls hH hS hn hL
  exact lv_icmp_lt C.1 C.2.1 hd ht (fun h => kt h p l e s m args below meth c C H locs ls hH hS hn hL) (fun h => kf h p l e s m args below meth c C H locs ls hH hS hn hL)
theorem g_if_ge {w : g_W} {M : g_MD} {cs : Nat × Nat} {pc : Nat} {q : Nat} {ml : List (Option Value)} {st : List Value} {σ : g_H0} {Φ : g_Post} {x : Int32} {t : Nat} {off : Int} (hd : decode M.2.1 pc = .ok (.ifCond .ge off, 3)) (ht : (pc : Int) + off = (t : Int)) (hq : pc + 3 = q) (kt : 0 ≤ x → Go w M cs t ml st σ Φ) (kf : ¬ 0 ≤ x → Go w M cs q ml st σ Φ) : Go w M cs pc ml (.int x :: st) σ Φ := by
  subst hq
  intro p l e s m args below meth c C H locs ls hH hS hn hL
  exact lv_if_ge C.1 C.2.1 hd ht (fun h => kt h p l e s m args below meth c C H locs ls hH hS hn hL) (fun h => kf h p l e s m args below meth c C H locs ls hH hS hn hL)
theorem g_icmp_ge {w : g_W} {M : g_MD} {cs : Nat × Nat} {pc : Nat} {q : Nat} {ml : List (Option Value)} {st : List Value} {σ : g_H0} {Φ : g_Post} {x y : Int32} {t : Nat} {off : Int} (hd : decode M.2.1 pc = .ok (.if_icmp .ge off, 3)) (ht : (pc : Int) + off = (t : Int)) (hq : pc + 3 = q) (kt : y ≤ x → Go w M cs t ml st σ Φ) (kf : ¬ y ≤ x → Go w M cs q ml st σ Φ) : Go w M cs pc ml (.int y :: .int x :: st) σ Φ := by
  subst hq
  intro p l e s m args below meth c C H locs ls hH hS hn hL
  exact lv_icmp_ge C.1 C.2.1 hd ht (fun h => kt h p l e s m args below meth c C H locs ls hH hS hn hL) (fun h => kf h p l e s m args below meth c C H locs ls hH hS hn hL)
theorem g_if_gt {w : g_W} {M : g_MD} {cs : Nat × Nat} {pc : Nat} {q : Nat} {ml : List (Option Value)} {st : List Value} {σ : g_H0} {Φ : g_Post} {x : Int32} {t : Nat} {off : Int} (hd : decode M.2.1 pc = .ok (.ifCond .gt off, 3)) (ht : (pc : Int) + off = (t : Int)) (hq : pc + 3 = q) (kt : 0 < x → Go w M cs t ml st σ Φ) (kf : ¬ 0 < x → Go w M cs q ml st σ Φ) : Go w M cs pc ml (.int x :: st) σ Φ := by
  subst hq
  intro p l e s m args below meth c C H locs ls hH hS hn hL
  exact lv_if_gt C.1 C.2.1 hd ht (fun h => kt h p l e s m args below meth c C H locs ls hH hS hn hL) (fun h => kf h p l e s m args below meth c C H locs ls hH hS hn hL)
theorem g_icmp_gt {w : g_W} {M : g_MD} {cs : Nat × Nat} {pc : Nat} {q : Nat} {ml : List (Option Value)} {st : List Value} {σ : g_H0} {Φ : g_Post} {x y : Int32} {t : Nat} {off : Int} (hd : decode M.2.1 pc = .ok (.if_icmp .gt off, 3)) (ht : (pc : Int) + off = (t : Int)) (hq : pc + 3 = q) (kt : y < x → Go w M cs t ml st σ Φ) (kf : ¬ y < x → Go w M cs q ml st σ Φ) : Go w M cs pc ml (.int y :: .int x :: st) σ Φ := by
  subst hq
  intro p l e s m args below meth c C H locs ls hH hS hn hL
  exact lv_icmp_gt C.1 C.2.1 hd ht (fun h => kt h p l e s m args below meth c C H locs ls hH hS hn hL) (fun h => kf h p l e s m args below meth c C H locs ls hH hS hn hL)
theorem g_if_le {w : g_W} {M : g_MD} {cs : Nat × Nat} {pc : Nat} {q : Nat} {ml : List (Option Value)} {st : List Value} {σ : g_H0} {Φ : g_Post} {x : Int32} {t : Nat} {off : Int} (hd : decode M.2.1 pc = .ok (.ifCond .le off, 3)) (ht : (pc : Int) + off = (t : Int)) (hq : pc + 3 = q) (kt : x ≤ 0 → Go w M cs t ml st σ Φ) (kf : ¬ x ≤ 0 → Go w M cs q ml st σ Φ) : Go w M cs pc ml (.int x :: st) σ Φ := by
  subst hq
  intro p l e s m args below meth c C H locs ls hH hS hn hL
  exact lv_if_le C.1 C.2.1 hd ht (fun h => kt h p l e s m args below meth c C H locs ls hH hS hn hL) (fun h => kf h p l e s m args below meth c C H locs ls hH hS hn hL)
theorem g_icmp_le {w : g_W} {M : g_MD} {cs : Nat × Nat} {pc : Nat} {q : Nat} {ml : List (Option Value)} {st : List Value} {σ : g_H0} {Φ : g_Post} {x y : Int32} {t : Nat} {off : Int} (hd : decode M.2.1 pc = .ok (.if_icmp .le off, 3)) (ht : (pc : Int) + off = (t : Int)) (hq : pc + 3 = q) (kt : x ≤ y → Go w M cs t ml st σ Φ) (kf : ¬ x ≤ y → Go w M cs q ml st σ Φ) : Go w M cs pc ml (.int y :: .int x :: st) σ Φ := by
  subst hq
  intro p l e s m args below meth c C H locs ls hH hS hn hL
  exact lv_icmp_le C.1 C.2.1 hd ht (fun h => kt h p l e s m args below meth c C H locs ls hH hS hn hL) (fun h => kf h p l e s m args below meth c C H locs ls hH hS hn hL)
theorem g_goto {w : g_W} {M : g_MD} {cs : Nat × Nat} {pc : Nat} {q : Nat} {ml : List (Option Value)} {st : List Value} {σ : g_H0} {Φ : g_Post} {off : Int} (hd : decode M.2.1 pc = .ok (.goto off, 3)) (ht : (pc : Int) + off = (q : Int)) (k : Go w M cs q ml st σ Φ) : Go w M cs pc ml st σ Φ := by
  intro p l e s m args below meth c C H locs ls hH hS hn hL
  exact lv_goto C.1 C.2.1 hd ht (k p l e s m args below meth c C H locs ls hH hS hn hL)
theorem g_tableOut {w : g_W} {M : g_MD} {cs : Nat × Nat} {pc : Nat} {q : Nat} {ml : List (Option Value)} {st : List Value} {σ : g_H0} {Φ : g_Post} {dflt lo hi : Int} {offs : Array Int} {len : Nat} {x : Int32} (hd : decode M.2.1 pc = .ok (.tableswitch dflt lo hi offs, len)) (h : x.toInt < lo ∨ hi < x.toInt) (ht : (pc : Int) + dflt = (q : Int)) (k : Go w M cs q ml st σ Φ) : Go w M cs pc ml (.int x :: st) σ Φ := by
  intro p l e s m args below meth c C H locs ls hH hS hn hL
  exact lv_tableOut C.1 C.2.1 hd h ht (k p l e s m args below meth c C H locs ls hH hS hn hL)
theorem g_tableIn {w : g_W} {M : g_MD} {cs : Nat × Nat} {pc : Nat} {q : Nat} {ml : List (Option Value)} {st : List Value} {σ : g_H0} {Φ : g_Post} {dflt lo hi : Int} {offs : Array Int} {len : Nat} {x : Int32} {off : Int} (hd : decode M.2.1 pc = .ok (.tableswitch dflt lo hi offs, len)) (h1 : ¬ x.toInt < lo) (h2 : ¬ hi < x.toInt) (ho : offs[(x.toInt - lo).toNat]? = some off) (ht : (pc : Int) + off = (q : Int)) (k : Go w M cs q ml st σ Φ) : Go w M cs pc ml (.int x :: st) σ Φ := by
  intro p l e s m args below meth c C H locs ls hH hS hn hL
  exact lv_tableIn C.1 C.2.1 hd h1 h2 ho ht (k p l e s m args below meth c C H locs ls hH hS hn hL)
theorem g_ldcw {w : g_W} {M : g_MD} {cs : Nat × Nat} {pc : Nat} {q : Nat} {ml : List (Option Value)} {st : List Value} {σ : g_H0} {Φ : g_Post} {i : Nat} {v : Int32} (hd : decode M.2.1 pc = .ok (.ldc_w i, 3)) (hc : Cond.constant M.1.cls i v ∈ gTb) (hq : pc + 3 = q) (k : Go w M cs q ml (.int v :: st) σ Φ) : Go w M cs pc ml st σ Φ := by
  subst hq
  intro p l e s m args below meth c C H locs ls hH hS hn hL
  exact lv_ldcw C.1 C.2.1 C.2.2.2.2.2.1 (C.2.2.2.2.1 _ hc) hd (k p l e s m args below meth c C H locs ls hH hS hn hL)
theorem g_ldc2 {w : g_W} {M : g_MD} {cs : Nat × Nat} {pc : Nat} {q : Nat} {ml : List (Option Value)} {st : List Value} {σ : g_H0} {Φ : g_Post} {i : Nat} {v : Int64} (hd : decode M.2.1 pc = .ok (.ldc2_w i, 3)) (hc : Cond.constantLong M.1.cls i v ∈ gTb) (hq : pc + 3 = q) (k : Go w M cs q ml (.long v :: st) σ Φ) : Go w M cs pc ml st σ Φ := by
  subst hq
  intro p l e s m args below meth c C H locs ls hH hS hn hL
  exact lv_ldc2 C.1 C.2.1 C.2.2.2.2.2.1 (C.2.2.2.2.1 _ hc) hd (k p l e s m args below meth c C H locs ls hH hS hn hL)
theorem g_ldcS {w : g_W} {M : g_MD} {cs : Nat × Nat} {pc : Nat} {q : Nat} {ml : List (Option Value)} {st : List Value} {σ : g_H0} {Φ : g_Post} {i : Nat} (hi : i < 5) (ho : M.1.cls = g_sOwn i) (hd : decode M.2.1 pc = .ok (.ldc (g_sIdx i), 2)) (hx : (UInt32.ofNat (1 + i)).toNat = 1 + i) (hq : pc + 2 = q) (k : Go w M cs q ml (.float (UInt32.ofNat (1 + i)) :: st) σ Φ) : Go w M cs pc ml st σ Φ := by
  subst hq
  intro p l e s m args below meth c C H locs ls hH hS hn hL
  obtain ⟨-, ⟨-, h4, -, -⟩, -⟩ := C.2.2.2.2.2.2.2.2.2.1
  have hZ := h4 i hi
  rw [← ho] at hZ
  refine va_ldcS C.1 C.2.1 C.2.2.2.2.2.1 hZ hd ?_
  have := k p l e s m args below meth c C H locs ls hH hS hn hL
  simp only [List.map_cons, g_V, hx] at this
  exact this
