/-! whole numbers: an int is 'iZ z', z an Int within its bounds; truth is 'bI' -/
def iZ (z : Int) : Int32 := Int32.ofInt z
def lZ (z : Int) : Int64 := Int64.ofInt z
def bI (p : Prop) [Decidable p] : Int32 := if p then iZ 1 else iZ 0
theorem iZ_add (a b : Int) : iZ a + iZ b = iZ (a + b) := (Int32.ofInt_add a b).symm
theorem iZ_sub (a b : Int) : iZ a - iZ b = iZ (a - b) := (Int32.ofInt_sub a b).symm
theorem iZ_mul (a b : Int) : iZ a * iZ b = iZ (a * b) := (Int32.ofInt_mul a b).symm
theorem iZ_neg (a : Int) : -iZ a = iZ (-a) := (Int32.ofInt_neg a).symm
theorem iZ_of (x : Int32) : iZ x.toInt = x := Int32.ofInt_toInt x
theorem iZ_rng (x : Int32) : -2147483648 ≤ x.toInt ∧ x.toInt < 2147483648 := by
  have h1 := Int32.le_toInt x
  have h2 := Int32.toInt_lt x
  omega
theorem iZ_toInt {a : Int} (h1 : -2147483648 ≤ a) (h2 : a < 2147483648) : (iZ a).toInt = a := Int32.toInt_ofInt_of_le (by omega) (by omega)
theorem iZ_lt {a b : Int} (h : -2147483648 ≤ a ∧ a < 2147483648 ∧ -2147483648 ≤ b ∧ b < 2147483648) : iZ a < iZ b ↔ a < b := by
  rw [Int32.lt_iff_toInt_lt, iZ_toInt h.1 h.2.1, iZ_toInt h.2.2.1 h.2.2.2]
theorem iZ_le {a b : Int} (h : -2147483648 ≤ a ∧ a < 2147483648 ∧ -2147483648 ≤ b ∧ b < 2147483648) : iZ a ≤ iZ b ↔ a ≤ b := by
  rw [Int32.le_iff_toInt_le, iZ_toInt h.1 h.2.1, iZ_toInt h.2.2.1 h.2.2.2]
theorem iZ_inj {a b : Int} (h : -2147483648 ≤ a ∧ a < 2147483648 ∧ -2147483648 ≤ b ∧ b < 2147483648) : iZ a = iZ b ↔ a = b := by
  rw [← Int32.toInt_inj, iZ_toInt h.1 h.2.1, iZ_toInt h.2.2.1 h.2.2.2]
theorem iZ_0 : (0 : Int32) = iZ 0 := rfl
theorem iZ_clamp {a : Int} (h1 : -2147483648 ≤ a) (h2 : a < 2147483648) : (iZ a).toNatClampNeg = a.toNat := by
  show (iZ a).toInt.toNat = a.toNat
  rw [iZ_toInt h1 h2]
theorem iZ_in {a : Int} {n : Nat} (h1 : 0 ≤ a) (h2 : a < n) (h3 : n < 2147483648) : vp_in (iZ a) n := by
  rw [vp_in_iff, iZ_toInt (by omega) (by omega)]
  omega
theorem iZ_div {a b : Int} (h1 : 0 ≤ a ∧ a < 2147483648 ∧ 0 < b ∧ b < 2147483648) : iZ a / iZ b = iZ (a / b) := by
  apply Int32.toInt_inj.mp
  have hd : a / b ≤ a := Int.ediv_le_self _ h1.1
  have hd0 : 0 ≤ a / b := Int.ediv_nonneg h1.1 (by omega)
  rw [Int32.toInt_div, iZ_toInt (by omega) (by omega), iZ_toInt (by omega) (by omega), iZ_toInt (by omega) (by omega), Int.tdiv_eq_ediv_of_nonneg h1.1, Int.bmod_eq_of_le (by omega) (by omega)]
theorem iZ_rem {a b : Int} (h1 : 0 ≤ a ∧ a < 2147483648 ∧ 0 < b ∧ b < 2147483648) : iZ a - iZ a / iZ b * iZ b = iZ (a % b) := by
  rw [iZ_div h1, iZ_mul, iZ_sub]
  congr 1
  have := Int.emod_add_mul_ediv a b
  have h2 := Int.mul_comm b (a / b)
  omega
theorem bI_t {p : Prop} [Decidable p] (h : p) : bI p = iZ 1 := if_pos h
theorem bI_f {p : Prop} [Decidable p] (h : ¬ p) : bI p = iZ 0 := if_neg h
theorem bI_c {p q : Prop} [Decidable p] [Decidable q] (h : p ↔ q) : bI p = bI q := by unfold bI; simp [h]
theorem bI_nar (p : Prop) [Decidable p] : narrow .boolean (.int (bI p)) = .int (bI p) := by
  unfold bI; split <;> rfl
theorem bI_fit (p : Prop) [Decidable p] : fits .boolean (.int (bI p)) = true := by
  unfold bI; split <;> rfl
theorem bI_z (p : Prop) [Decidable p] : bI p = iZ (if p then 1 else 0) := by unfold bI; split <;> rfl
def zup {α : Type} (t : Int → α) (i : Int) (x : α) : Int → α := fun k => if k = i then x else t k
/-- a row of ints as it lies in an array -/
def zA (t : Int → Int) : Nat → Int32 := fun k => iZ (t (k : Int))
theorem zup_iZ (t : Int → Int) {i : Int} (hi : 0 ≤ i) (x : Int) : upd (zA t) i.toNat (iZ x) = zA (zup t i x) := by
  funext k
  show (if k = i.toNat then iZ x else iZ (t (k : Int))) = iZ (if (k : Int) = i then x else t (k : Int))
  by_cases h : k = i.toNat
  · rw [if_pos h, if_pos (by omega)]
  · rw [if_neg h, if_neg (by omega)]
theorem zA_at (t : Int → Int) {i : Int} (hi : 0 ≤ i) : zA t i.toNat = iZ (t i) := by
  unfold zA
  rw [Int.toNat_of_nonneg hi]
theorem zup_self {α : Type} (t : Int → α) (i : Int) (x : α) : zup t i x i = x := if_pos rfl
theorem zup_ne {α : Type} (t : Int → α) {i k : Int} (x : α) (h : k ≠ i) : zup t i x k = t k := if_neg h
def nup {α : Type} (t : Nat → α) (i : Nat) (x : α) : Nat → α := fun k => if k = i then x else t k
/-- what is written, and that nothing else is -/
def g_Fr (P : Nat → Prop) (σ σ' : g_H0) : Prop := σ'.length = σ.length ∧ ∀ k, ¬ P k → σ'[k]? = σ[k]?
theorem g_Fr.rf {P : Nat → Prop} {σ : g_H0} : g_Fr P σ σ := ⟨rfl, fun _ _ => rfl⟩
theorem g_Fr.tr {P : Nat → Prop} {σ σ1 σ2 : g_H0} (h1 : g_Fr P σ σ1) (h2 : g_Fr P σ1 σ2) : g_Fr P σ σ2 := ⟨h2.1.trans h1.1, fun k hk => (h2.2 k hk).trans (h1.2 k hk)⟩
theorem g_Fr.wk {P Q : Nat → Prop} {σ σ1 : g_H0} (h1 : g_Fr P σ σ1) (h : ∀ k, P k → Q k) : g_Fr Q σ σ1 := ⟨h1.1, fun k hk => h1.2 k (fun hp => hk (h k hp))⟩
theorem g_Fr.set {P : Nat → Prop} {σ : g_H0} {a : Nat} {e : va_E} (ha : P a) : g_Fr P σ (σ.set a e) := ⟨by simp, fun k hk => List.getElem?_set_ne (fun h : a = k => hk (h ▸ ha))⟩
section GZ
variable {w : g_W} {M M' : g_MD} {cs : Nat × Nat} {pc q : Nat} {ml : List (Option Value)} {st : List Value} {σ σ' : g_H0} {Φ Φ' : g_Post}
theorem z_iconst {n : Int} (hd : decode M.2.1 pc = .ok (.iconst n, 1)) (hq : pc + 1 = q) (k : Go w M cs q ml (.int (iZ n) :: st) σ Φ) : Go w M cs pc ml st σ Φ := g_iconst hd rfl hq k
theorem z_iinc {i : Nat} {n x : Int} {ml' : List (Option Value)} (hd : decode M.2.1 pc = .ok (.iinc i n, 3)) (hl : ml[i]? = some (some (.int (iZ x)))) (hm : ml.set i (some (.int (iZ (x + n)))) = ml') (hnl : g_nl ml i = true) (hq : pc + 3 = q) (k : Go w M cs q ml' st σ Φ) : Go w M cs pc ml st σ Φ :=
  g_iinc hd hl (iZ_add x n) hm hnl hq k
theorem z_iincc {i : Nat} {n x c : Int} {ml' : List (Option Value)} (hd : decode M.2.1 pc = .ok (.iinc i n, 3)) (hl : ml[i]? = some (some (.int (iZ x)))) (hc : x + n = c) (hm : ml.set i (some (.int (iZ c))) = ml') (hnl : g_nl ml i = true) (hq : pc + 3 = q) (k : Go w M cs q ml' st σ Φ) : Go w M cs pc ml st σ Φ := by
  subst hc
  exact g_iinc hd hl (iZ_add x n) hm hnl hq k
def cmpZ (a b : Int) : Int := if b < a then 1 else if a = b then 0 else -1
theorem cmpZ_spec (a b : Int) : (cmpZ a b < 0 ↔ a < b) ∧ (0 < cmpZ a b ↔ b < a) ∧ -1 ≤ cmpZ a b ∧ cmpZ a b ≤ 1 := by
  unfold cmpZ
  split
  · omega
  · split <;> omega
theorem lZ_toInt {a : Int} (h : -9223372036854775808 ≤ a ∧ a < 9223372036854775808) : (lZ a).toInt = a := Int64.toInt_ofInt_of_le (by omega) (by omega)
theorem z_lcmp {a b : Int} (hd : decode M.2.1 pc = .ok (.lcmp, 1)) (h : -9223372036854775808 ≤ a ∧ a < 9223372036854775808 ∧ -9223372036854775808 ≤ b ∧ b < 9223372036854775808) (hq : pc + 1 = q) (k : (cmpZ a b < 0 ↔ a < b) ∧ (0 < cmpZ a b ↔ b < a) ∧ -1 ≤ cmpZ a b ∧ cmpZ a b ≤ 1 → Go w M cs q ml (.int (iZ (cmpZ a b)) :: st) σ Φ) : Go w M cs pc ml (.long (lZ b) :: .long (lZ a) :: st) σ Φ := by
  refine g_lcmp hd hq ?_
  have : lg_cmp (lZ a) (lZ b) = iZ (cmpZ a b) := by
    unfold lg_cmp cmpZ
    simp only [gt_iff_lt, Int64.lt_iff_toInt_lt, ← Int64.toInt_inj, lZ_toInt (a := a) (by omega), lZ_toInt (a := b) (by omega)]
    split
    · rfl
    · split <;> rfl
  rw [this]
  exact k (cmpZ_spec a b)
theorem z_idiv {a b : Int} (hd : decode M.2.1 pc = .ok (.idiv, 1)) (h : 0 ≤ a ∧ a < 2147483648 ∧ 0 < b ∧ b < 2147483648) (hq : pc + 1 = q) (k : Go w M cs q ml (.int (iZ (a / b)) :: st) σ Φ) : Go w M cs pc ml (.int (iZ b) :: .int (iZ a) :: st) σ Φ := by
  refine g_idiv hd ?_ hq ?_
  · rw [iZ_0, iZ_inj (by omega)]; omega
  · rw [iZ_div h]; exact k
theorem z_irem {a b : Int} (hd : decode M.2.1 pc = .ok (.irem, 1)) (h : 0 ≤ a ∧ a < 2147483648 ∧ 0 < b ∧ b < 2147483648) (hq : pc + 1 = q) (k : Go w M cs q ml (.int (iZ (a % b)) :: st) σ Φ) : Go w M cs pc ml (.int (iZ b) :: .int (iZ a) :: st) σ Φ := by
  refine g_irem hd ?_ hq ?_
  · rw [iZ_0, iZ_inj (by omega)]; omega
  · rw [iZ_rem h]; exact k
theorem z_i2l {a : Int} (hd : decode M.2.1 pc = .ok (.i2l, 1)) (h : -2147483648 ≤ a ∧ a < 2147483648) (hq : pc + 1 = q) (k : Go w M cs q ml (.long (lZ a) :: st) σ Φ) : Go w M cs pc ml (.int (iZ a) :: st) σ Φ := by
  refine g_i2l hd hq ?_
  have : (iZ a).toInt64 = lZ a := by
    rw [← Int64.ofInt_int32ToInt, iZ_toInt h.1 h.2]; rfl
  rw [this]; exact k

theorem z_iaddc {a b c : Int} (hd : decode M.2.1 pc = .ok (.iadd, 1)) (hc : a + b = c) (hq : pc + 1 = q) (k : Go w M cs q ml (.int (iZ c) :: st) σ Φ) : Go w M cs pc ml (.int (iZ b) :: .int (iZ a) :: st) σ Φ := by
  subst hc
  refine g_iadd hd hq ?_
  rw [iZ_add]; exact k
theorem z_iadd {a b : Int} (hd : decode M.2.1 pc = .ok (.iadd, 1)) (hq : pc + 1 = q) (k : Go w M cs q ml (.int (iZ (a + b)) :: st) σ Φ) : Go w M cs pc ml (.int (iZ b) :: .int (iZ a) :: st) σ Φ := by
  refine g_iadd hd hq ?_
  rw [iZ_add]; exact k
theorem z_isubc {a b c : Int} (hd : decode M.2.1 pc = .ok (.isub, 1)) (hc : a - b = c) (hq : pc + 1 = q) (k : Go w M cs q ml (.int (iZ c) :: st) σ Φ) : Go w M cs pc ml (.int (iZ b) :: .int (iZ a) :: st) σ Φ := by
  subst hc
  refine g_isub hd hq ?_
  rw [iZ_sub]; exact k
theorem z_isub {a b : Int} (hd : decode M.2.1 pc = .ok (.isub, 1)) (hq : pc + 1 = q) (k : Go w M cs q ml (.int (iZ (a - b)) :: st) σ Φ) : Go w M cs pc ml (.int (iZ b) :: .int (iZ a) :: st) σ Φ := by
  refine g_isub hd hq ?_
  rw [iZ_sub]; exact k
theorem z_imulc {a b c : Int} (hd : decode M.2.1 pc = .ok (.imul, 1)) (hc : a * b = c) (hq : pc + 1 = q) (k : Go w M cs q ml (.int (iZ c) :: st) σ Φ) : Go w M cs pc ml (.int (iZ b) :: .int (iZ a) :: st) σ Φ := by
  subst hc
  refine g_imul hd hq ?_
  rw [iZ_mul]; exact k
theorem z_imul {a b : Int} (hd : decode M.2.1 pc = .ok (.imul, 1)) (hq : pc + 1 = q) (k : Go w M cs q ml (.int (iZ (a * b)) :: st) σ Φ) : Go w M cs pc ml (.int (iZ b) :: .int (iZ a) :: st) σ Φ := by
  refine g_imul hd hq ?_
  rw [iZ_mul]; exact k
theorem z_icmp_eq {a b : Int} {t : Nat} {off : Int} (hd : decode M.2.1 pc = .ok (.if_icmp .eq off, 3)) (ht : (pc : Int) + off = (t : Int)) (h : -2147483648 ≤ a ∧ a < 2147483648 ∧ -2147483648 ≤ b ∧ b < 2147483648) (hq : pc + 3 = q) (kt : a = b → Go w M cs t ml st σ Φ) (kf : a ≠ b → Go w M cs q ml st σ Φ) : Go w M cs pc ml (.int (iZ b) :: .int (iZ a) :: st) σ Φ := by
  have h' : -2147483648 ≤ b ∧ b < 2147483648 ∧ -2147483648 ≤ a ∧ a < 2147483648 := by omega
  refine g_icmp_eq hd ht hq (fun c => kt ?_) (fun c => kf ?_)
  · -- x = y
    first | exact (iZ_inj h).mp c | exact fun e => c ((iZ_inj h).mpr e) | exact (iZ_lt h).mp c | exact (iZ_lt h').mp c | exact (iZ_le h).mp c | exact (iZ_le h').mp c | (have c2 := Int32.not_lt.mp c; first | exact (iZ_le h).mp c2 | exact (iZ_le h').mp c2) | (have c2 := Int32.not_le.mp c; first | exact (iZ_lt h).mp c2 | exact (iZ_lt h').mp c2)
  · first | exact (iZ_inj h).mp c | exact fun e => c ((iZ_inj h).mpr e) | exact (iZ_inj h).mp (Classical.not_not.mp c) | exact (iZ_lt h).mp c | exact (iZ_lt h').mp c | exact (iZ_le h).mp c | exact (iZ_le h').mp c | (have c2 := Int32.not_lt.mp c; first | exact (iZ_le h).mp c2 | exact (iZ_le h').mp c2) | (have c2 := Int32.not_le.mp c; first | exact (iZ_lt h).mp c2 | exact (iZ_lt h').mp c2)
theorem z_if_eq {a : Int} {t : Nat} {off : Int} (hd : decode M.2.1 pc = .ok (.ifCond .eq off, 3)) (ht : (pc : Int) + off = (t : Int)) (h : -2147483648 ≤ a ∧ a < 2147483648) (hq : pc + 3 = q) (kt : a = 0 → Go w M cs t ml st σ Φ) (kf : a ≠ 0 → Go w M cs q ml st σ Φ) : Go w M cs pc ml (.int (iZ a) :: st) σ Φ := by
  have h0 : -2147483648 ≤ a ∧ a < 2147483648 ∧ -2147483648 ≤ (0 : Int) ∧ (0 : Int) < 2147483648 := by omega
  have h1 : -2147483648 ≤ (0 : Int) ∧ (0 : Int) < 2147483648 ∧ -2147483648 ≤ a ∧ a < 2147483648 := by omega
  refine g_if_eq hd ht hq (fun c => kt ?_) (fun c => kf ?_)
  · rw [iZ_0] at c
    first | exact (iZ_inj h0).mp c | exact fun e => c ((iZ_inj h0).mpr e) | exact (iZ_lt h0).mp c | exact (iZ_lt h1).mp c | exact (iZ_le h0).mp c | exact (iZ_le h1).mp c | (have c2 := Int32.not_lt.mp c; first | exact (iZ_le h0).mp c2 | exact (iZ_le h1).mp c2) | (have c2 := Int32.not_le.mp c; first | exact (iZ_lt h0).mp c2 | exact (iZ_lt h1).mp c2)
  · rw [iZ_0] at c
    first | exact (iZ_inj h0).mp c | exact fun e => c ((iZ_inj h0).mpr e) | exact (iZ_inj h0).mp (Classical.not_not.mp c) | exact (iZ_lt h0).mp c | exact (iZ_lt h1).mp c | exact (iZ_le h0).mp c | exact (iZ_le h1).mp c | (have c2 := Int32.not_lt.mp c; first | exact (iZ_le h0).mp c2 | exact (iZ_le h1).mp c2) | (have c2 := Int32.not_le.mp c; first | exact (iZ_lt h0).mp c2 | exact (iZ_lt h1).mp c2)
theorem z_icmp_ne {a b : Int} {t : Nat} {off : Int} (hd : decode M.2.1 pc = .ok (.if_icmp .ne off, 3)) (ht : (pc : Int) + off = (t : Int)) (h : -2147483648 ≤ a ∧ a < 2147483648 ∧ -2147483648 ≤ b ∧ b < 2147483648) (hq : pc + 3 = q) (kt : a ≠ b → Go w M cs t ml st σ Φ) (kf : a = b → Go w M cs q ml st σ Φ) : Go w M cs pc ml (.int (iZ b) :: .int (iZ a) :: st) σ Φ := by
  have h' : -2147483648 ≤ b ∧ b < 2147483648 ∧ -2147483648 ≤ a ∧ a < 2147483648 := by omega
  refine g_icmp_ne hd ht hq (fun c => kt ?_) (fun c => kf ?_)
  · -- ¬ x = y
    first | exact (iZ_inj h).mp c | exact fun e => c ((iZ_inj h).mpr e) | exact (iZ_lt h).mp c | exact (iZ_lt h').mp c | exact (iZ_le h).mp c | exact (iZ_le h').mp c | (have c2 := Int32.not_lt.mp c; first | exact (iZ_le h).mp c2 | exact (iZ_le h').mp c2) | (have c2 := Int32.not_le.mp c; first | exact (iZ_lt h).mp c2 | exact (iZ_lt h').mp c2)
  · first | exact (iZ_inj h).mp c | exact fun e => c ((iZ_inj h).mpr e) | exact (iZ_inj h).mp (Classical.not_not.mp c) | exact (iZ_lt h).mp c | exact (iZ_lt h').mp c | exact (iZ_le h).mp c | exact (iZ_le h').mp c | (have c2 := Int32.not_lt.mp c; first | exact (iZ_le h).mp c2 | exact (iZ_le h').mp c2) | (have c2 := Int32.not_le.mp c; first | exact (iZ_lt h).mp c2 | exact (iZ_lt h').mp c2)
theorem z_if_ne {a : Int} {t : Nat} {off : Int} (hd : decode M.2.1 pc = .ok (.ifCond .ne off, 3)) (ht : (pc : Int) + off = (t : Int)) (h : -2147483648 ≤ a ∧ a < 2147483648) (hq : pc + 3 = q) (kt : a ≠ 0 → Go w M cs t ml st σ Φ) (kf : a = 0 → Go w M cs q ml st σ Φ) : Go w M cs pc ml (.int (iZ a) :: st) σ Φ := by
  have h0 : -2147483648 ≤ a ∧ a < 2147483648 ∧ -2147483648 ≤ (0 : Int) ∧ (0 : Int) < 2147483648 := by omega
  have h1 : -2147483648 ≤ (0 : Int) ∧ (0 : Int) < 2147483648 ∧ -2147483648 ≤ a ∧ a < 2147483648 := by omega
  refine g_if_ne hd ht hq (fun c => kt ?_) (fun c => kf ?_)
  · rw [iZ_0] at c
    first | exact (iZ_inj h0).mp c | exact fun e => c ((iZ_inj h0).mpr e) | exact (iZ_lt h0).mp c | exact (iZ_lt h1).mp c | exact (iZ_le h0).mp c | exact (iZ_le h1).mp c | (have c2 := Int32.not_lt.mp c; first | exact (iZ_le h0).mp c2 | exact (iZ_le h1).mp c2) | (have c2 := Int32.not_le.mp c; first | exact (iZ_lt h0).mp c2 | exact (iZ_lt h1).mp c2)
  · rw [iZ_0] at c
    first | exact (iZ_inj h0).mp c | exact fun e => c ((iZ_inj h0).mpr e) | exact (iZ_inj h0).mp (Classical.not_not.mp c) | exact (iZ_lt h0).mp c | exact (iZ_lt h1).mp c | exact (iZ_le h0).mp c | exact (iZ_le h1).mp c | (have c2 := Int32.not_lt.mp c; first | exact (iZ_le h0).mp c2 | exact (iZ_le h1).mp c2) | (have c2 := Int32.not_le.mp c; first | exact (iZ_lt h0).mp c2 | exact (iZ_lt h1).mp c2)
theorem z_icmp_lt {a b : Int} {t : Nat} {off : Int} (hd : decode M.2.1 pc = .ok (.if_icmp .lt off, 3)) (ht : (pc : Int) + off = (t : Int)) (h : -2147483648 ≤ a ∧ a < 2147483648 ∧ -2147483648 ≤ b ∧ b < 2147483648) (hq : pc + 3 = q) (kt : a < b → Go w M cs t ml st σ Φ) (kf : b ≤ a → Go w M cs q ml st σ Φ) : Go w M cs pc ml (.int (iZ b) :: .int (iZ a) :: st) σ Φ := by
  have h' : -2147483648 ≤ b ∧ b < 2147483648 ∧ -2147483648 ≤ a ∧ a < 2147483648 := by omega
  refine g_icmp_lt hd ht hq (fun c => kt ?_) (fun c => kf ?_)
  · -- x < y
    first | exact (iZ_inj h).mp c | exact fun e => c ((iZ_inj h).mpr e) | exact (iZ_lt h).mp c | exact (iZ_lt h').mp c | exact (iZ_le h).mp c | exact (iZ_le h').mp c | (have c2 := Int32.not_lt.mp c; first | exact (iZ_le h).mp c2 | exact (iZ_le h').mp c2) | (have c2 := Int32.not_le.mp c; first | exact (iZ_lt h).mp c2 | exact (iZ_lt h').mp c2)
  · first | exact (iZ_inj h).mp c | exact fun e => c ((iZ_inj h).mpr e) | exact (iZ_inj h).mp (Classical.not_not.mp c) | exact (iZ_lt h).mp c | exact (iZ_lt h').mp c | exact (iZ_le h).mp c | exact (iZ_le h').mp c | (have c2 := Int32.not_lt.mp c; first | exact (iZ_le h).mp c2 | exact (iZ_le h').mp c2) | (have c2 := Int32.not_le.mp c; first | exact (iZ_lt h).mp c2 | exact (iZ_lt h').mp c2)
theorem z_if_lt {a : Int} {t : Nat} {off : Int} (hd : decode M.2.1 pc = .ok (.ifCond .lt off, 3)) (ht : (pc : Int) + off = (t : Int)) (h : -2147483648 ≤ a ∧ a < 2147483648) (hq : pc + 3 = q) (kt : a < 0 → Go w M cs t ml st σ Φ) (kf : 0 ≤ a → Go w M cs q ml st σ Φ) : Go w M cs pc ml (.int (iZ a) :: st) σ Φ := by
  have h0 : -2147483648 ≤ a ∧ a < 2147483648 ∧ -2147483648 ≤ (0 : Int) ∧ (0 : Int) < 2147483648 := by omega
  have h1 : -2147483648 ≤ (0 : Int) ∧ (0 : Int) < 2147483648 ∧ -2147483648 ≤ a ∧ a < 2147483648 := by omega
  refine g_if_lt hd ht hq (fun c => kt ?_) (fun c => kf ?_)
  · rw [iZ_0] at c
    first | exact (iZ_inj h0).mp c | exact fun e => c ((iZ_inj h0).mpr e) | exact (iZ_lt h0).mp c | exact (iZ_lt h1).mp c | exact (iZ_le h0).mp c | exact (iZ_le h1).mp c | (have c2 := Int32.not_lt.mp c; first | exact (iZ_le h0).mp c2 | exact (iZ_le h1).mp c2) | (have c2 := Int32.not_le.mp c; first | exact (iZ_lt h0).mp c2 | exact (iZ_lt h1).mp c2)
  · rw [iZ_0] at c
    first | exact (iZ_inj h0).mp c | exact fun e => c ((iZ_inj h0).mpr e) | exact (iZ_inj h0).mp (Classical.not_not.mp c) | exact (iZ_lt h0).mp c | exact (iZ_lt h1).mp c | exact (iZ_le h0).mp c | exact (iZ_le h1).mp c | (have c2 := Int32.not_lt.mp c; first | exact (iZ_le h0).mp c2 | exact (iZ_le h1).mp c2) | (have c2 := Int32.not_le.mp c; first | exact (iZ_lt h0).mp c2 | exact (iZ_lt h1).mp c2)
theorem z_icmp_ge {a b : Int} {t : Nat} {off : Int} (hd : decode M.2.1 pc = .ok (.if_icmp .ge off, 3)) (ht : (pc : Int) + off = (t : Int)) (h : -2147483648 ≤ a ∧ a < 2147483648 ∧ -2147483648 ≤ b ∧ b < 2147483648) (hq : pc + 3 = q) (kt : b ≤ a → Go w M cs t ml st σ Φ) (kf : a < b → Go w M cs q ml st σ Φ) : Go w M cs pc ml (.int (iZ b) :: .int (iZ a) :: st) σ Φ := by
  have h' : -2147483648 ≤ b ∧ b < 2147483648 ∧ -2147483648 ≤ a ∧ a < 2147483648 := by omega
  refine g_icmp_ge hd ht hq (fun c => kt ?_) (fun c => kf ?_)
  · -- y ≤ x
    first | exact (iZ_inj h).mp c | exact fun e => c ((iZ_inj h).mpr e) | exact (iZ_lt h).mp c | exact (iZ_lt h').mp c | exact (iZ_le h).mp c | exact (iZ_le h').mp c | (have c2 := Int32.not_lt.mp c; first | exact (iZ_le h).mp c2 | exact (iZ_le h').mp c2) | (have c2 := Int32.not_le.mp c; first | exact (iZ_lt h).mp c2 | exact (iZ_lt h').mp c2)
  · first | exact (iZ_inj h).mp c | exact fun e => c ((iZ_inj h).mpr e) | exact (iZ_inj h).mp (Classical.not_not.mp c) | exact (iZ_lt h).mp c | exact (iZ_lt h').mp c | exact (iZ_le h).mp c | exact (iZ_le h').mp c | (have c2 := Int32.not_lt.mp c; first | exact (iZ_le h).mp c2 | exact (iZ_le h').mp c2) | (have c2 := Int32.not_le.mp c; first | exact (iZ_lt h).mp c2 | exact (iZ_lt h').mp c2)
theorem z_if_ge {a : Int} {t : Nat} {off : Int} (hd : decode M.2.1 pc = .ok (.ifCond .ge off, 3)) (ht : (pc : Int) + off = (t : Int)) (h : -2147483648 ≤ a ∧ a < 2147483648) (hq : pc + 3 = q) (kt : 0 ≤ a → Go w M cs t ml st σ Φ) (kf : a < 0 → Go w M cs q ml st σ Φ) : Go w M cs pc ml (.int (iZ a) :: st) σ Φ := by
  have h0 : -2147483648 ≤ a ∧ a < 2147483648 ∧ -2147483648 ≤ (0 : Int) ∧ (0 : Int) < 2147483648 := by omega
  have h1 : -2147483648 ≤ (0 : Int) ∧ (0 : Int) < 2147483648 ∧ -2147483648 ≤ a ∧ a < 2147483648 := by omega
  refine g_if_ge hd ht hq (fun c => kt ?_) (fun c => kf ?_)
  · rw [iZ_0] at c
    first | exact (iZ_inj h0).mp c | exact fun e => c ((iZ_inj h0).mpr e) | exact (iZ_lt h0).mp c | exact (iZ_lt h1).mp c | exact (iZ_le h0).mp c | exact (iZ_le h1).mp c | (have c2 := Int32.not_lt.mp c; first | exact (iZ_le h0).mp c2 | exact (iZ_le h1).mp c2) | (have c2 := Int32.not_le.mp c; first | exact (iZ_lt h0).mp c2 | exact (iZ_lt h1).mp c2)
  · rw [iZ_0] at c
    first | exact (iZ_inj h0).mp c | exact fun e => c ((iZ_inj h0).mpr e) | exact (iZ_inj h0).mp (Classical.not_not.mp c) | exact (iZ_lt h0).mp c | exact (iZ_lt h1).mp c | exact (iZ_le h0).mp c | exact (iZ_le h1).mp c | (have c2 := Int32.not_lt.mp c; first | exact (iZ_le h0).mp c2 | exact (iZ_le h1).mp c2) | (have c2 := Int32.not_le.mp c; first | exact (iZ_lt h0).mp c2 | exact (iZ_lt h1).mp c2)
theorem z_icmp_gt {a b : Int} {t : Nat} {off : Int} (hd : decode M.2.1 pc = .ok (.if_icmp .gt off, 3)) (ht : (pc : Int) + off = (t : Int)) (h : -2147483648 ≤ a ∧ a < 2147483648 ∧ -2147483648 ≤ b ∧ b < 2147483648) (hq : pc + 3 = q) (kt : b < a → Go w M cs t ml st σ Φ) (kf : a ≤ b → Go w M cs q ml st σ Φ) : Go w M cs pc ml (.int (iZ b) :: .int (iZ a) :: st) σ Φ := by
  have h' : -2147483648 ≤ b ∧ b < 2147483648 ∧ -2147483648 ≤ a ∧ a < 2147483648 := by omega
  refine g_icmp_gt hd ht hq (fun c => kt ?_) (fun c => kf ?_)
  · -- y < x
    first | exact (iZ_inj h).mp c | exact fun e => c ((iZ_inj h).mpr e) | exact (iZ_lt h).mp c | exact (iZ_lt h').mp c | exact (iZ_le h).mp c | exact (iZ_le h').mp c | (have c2 := Int32.not_lt.mp c; first | exact (iZ_le h).mp c2 | exact (iZ_le h').mp c2) | (have c2 := Int32.not_le.mp c; first | exact (iZ_lt h).mp c2 | exact (iZ_lt h').mp c2)
  · first | exact (iZ_inj h).mp c | exact fun e => c ((iZ_inj h).mpr e) | exact (iZ_inj h).mp (Classical.not_not.mp c) | exact (iZ_lt h).mp c | exact (iZ_lt h').mp c | exact (iZ_le h).mp c | exact (iZ_le h').mp c | (have c2 := Int32.not_lt.mp c; first | exact (iZ_le h).mp c2 | exact (iZ_le h').mp c2) | (have c2 := Int32.not_le.mp c; first | exact (iZ_lt h).mp c2 | exact (iZ_lt h').mp c2)
theorem z_if_gt {a : Int} {t : Nat} {off : Int} (hd : decode M.2.1 pc = .ok (.ifCond .gt off, 3)) (ht : (pc : Int) + off = (t : Int)) (h : -2147483648 ≤ a ∧ a < 2147483648) (hq : pc + 3 = q) (kt : 0 < a → Go w M cs t ml st σ Φ) (kf : a ≤ 0 → Go w M cs q ml st σ Φ) : Go w M cs pc ml (.int (iZ a) :: st) σ Φ := by
  have h0 : -2147483648 ≤ a ∧ a < 2147483648 ∧ -2147483648 ≤ (0 : Int) ∧ (0 : Int) < 2147483648 := by omega
  have h1 : -2147483648 ≤ (0 : Int) ∧ (0 : Int) < 2147483648 ∧ -2147483648 ≤ a ∧ a < 2147483648 := by omega
  refine g_if_gt hd ht hq (fun c => kt ?_) (fun c => kf ?_)
  · rw [iZ_0] at c
    first | exact (iZ_inj h0).mp c | exact fun e => c ((iZ_inj h0).mpr e) | exact (iZ_lt h0).mp c | exact (iZ_lt h1).mp c | exact (iZ_le h0).mp c | exact (iZ_le h1).mp c | (have c2 := Int32.not_lt.mp c; first | exact (iZ_le h0).mp c2 | exact (iZ_le h1).mp c2) | (have c2 := Int32.not_le.mp c; first | exact (iZ_lt h0).mp c2 | exact (iZ_lt h1).mp c2)
  · rw [iZ_0] at c
    first | exact (iZ_inj h0).mp c | exact fun e => c ((iZ_inj h0).mpr e) | exact (iZ_inj h0).mp (Classical.not_not.mp c) | exact (iZ_lt h0).mp c | exact (iZ_lt h1).mp c | exact (iZ_le h0).mp c | exact (iZ_le h1).mp c | (have c2 := Int32.not_lt.mp c; first | exact (iZ_le h0).mp c2 | exact (iZ_le h1).mp c2) | (have c2 := Int32.not_le.mp c; first | exact (iZ_lt h0).mp c2 | exact (iZ_lt h1).mp c2)
theorem z_icmp_le {a b : Int} {t : Nat} {off : Int} (hd : decode M.2.1 pc = .ok (.if_icmp .le off, 3)) (ht : (pc : Int) + off = (t : Int)) (h : -2147483648 ≤ a ∧ a < 2147483648 ∧ -2147483648 ≤ b ∧ b < 2147483648) (hq : pc + 3 = q) (kt : a ≤ b → Go w M cs t ml st σ Φ) (kf : b < a → Go w M cs q ml st σ Φ) : Go w M cs pc ml (.int (iZ b) :: .int (iZ a) :: st) σ Φ := by
  have h' : -2147483648 ≤ b ∧ b < 2147483648 ∧ -2147483648 ≤ a ∧ a < 2147483648 := by omega
  refine g_icmp_le hd ht hq (fun c => kt ?_) (fun c => kf ?_)
  · -- x ≤ y
    first | exact (iZ_inj h).mp c | exact fun e => c ((iZ_inj h).mpr e) | exact (iZ_lt h).mp c | exact (iZ_lt h').mp c | exact (iZ_le h).mp c | exact (iZ_le h').mp c | (have c2 := Int32.not_lt.mp c; first | exact (iZ_le h).mp c2 | exact (iZ_le h').mp c2) | (have c2 := Int32.not_le.mp c; first | exact (iZ_lt h).mp c2 | exact (iZ_lt h').mp c2)
  · first | exact (iZ_inj h).mp c | exact fun e => c ((iZ_inj h).mpr e) | exact (iZ_inj h).mp (Classical.not_not.mp c) | exact (iZ_lt h).mp c | exact (iZ_lt h').mp c | exact (iZ_le h).mp c | exact (iZ_le h').mp c | (have c2 := Int32.not_lt.mp c; first | exact (iZ_le h).mp c2 | exact (iZ_le h').mp c2) | (have c2 := Int32.not_le.mp c; first | exact (iZ_lt h).mp c2 | exact (iZ_lt h').mp c2)
theorem z_if_le {a : Int} {t : Nat} {off : Int} (hd : decode M.2.1 pc = .ok (.ifCond .le off, 3)) (ht : (pc : Int) + off = (t : Int)) (h : -2147483648 ≤ a ∧ a < 2147483648) (hq : pc + 3 = q) (kt : a ≤ 0 → Go w M cs t ml st σ Φ) (kf : 0 < a → Go w M cs q ml st σ Φ) : Go w M cs pc ml (.int (iZ a) :: st) σ Φ := by
  have h0 : -2147483648 ≤ a ∧ a < 2147483648 ∧ -2147483648 ≤ (0 : Int) ∧ (0 : Int) < 2147483648 := by omega
  have h1 : -2147483648 ≤ (0 : Int) ∧ (0 : Int) < 2147483648 ∧ -2147483648 ≤ a ∧ a < 2147483648 := by omega
  refine g_if_le hd ht hq (fun c => kt ?_) (fun c => kf ?_)
  · rw [iZ_0] at c
    first | exact (iZ_inj h0).mp c | exact fun e => c ((iZ_inj h0).mpr e) | exact (iZ_lt h0).mp c | exact (iZ_lt h1).mp c | exact (iZ_le h0).mp c | exact (iZ_le h1).mp c | (have c2 := Int32.not_lt.mp c; first | exact (iZ_le h0).mp c2 | exact (iZ_le h1).mp c2) | (have c2 := Int32.not_le.mp c; first | exact (iZ_lt h0).mp c2 | exact (iZ_lt h1).mp c2)
  · rw [iZ_0] at c
    first | exact (iZ_inj h0).mp c | exact fun e => c ((iZ_inj h0).mpr e) | exact (iZ_inj h0).mp (Classical.not_not.mp c) | exact (iZ_lt h0).mp c | exact (iZ_lt h1).mp c | exact (iZ_le h0).mp c | exact (iZ_le h1).mp c | (have c2 := Int32.not_lt.mp c; first | exact (iZ_le h0).mp c2 | exact (iZ_le h1).mp c2) | (have c2 := Int32.not_le.mp c; first | exact (iZ_lt h0).mp c2 | exact (iZ_lt h1).mp c2)
theorem z_ifB_eq {p : Prop} [Decidable p] {t : Nat} {off : Int} (hd : decode M.2.1 pc = .ok (.ifCond .eq off, 3)) (ht : (pc : Int) + off = (t : Int)) (hq : pc + 3 = q) (kt : ¬ p → Go w M cs t ml st σ Φ) (kf : p → Go w M cs q ml st σ Φ) : Go w M cs pc ml (.int (bI p) :: st) σ Φ := by
  refine g_if_eq hd ht hq (fun c => kt (fun hp => ?_)) (fun c => kf ?_)
  · rw [bI_t hp] at c; exact absurd c (by decide)
  · by_cases hp : p
    · exact hp
    · rw [bI_f hp] at c; exact absurd rfl c
theorem z_ifB_ne {p : Prop} [Decidable p] {t : Nat} {off : Int} (hd : decode M.2.1 pc = .ok (.ifCond .ne off, 3)) (ht : (pc : Int) + off = (t : Int)) (hq : pc + 3 = q) (kt : p → Go w M cs t ml st σ Φ) (kf : ¬ p → Go w M cs q ml st σ Φ) : Go w M cs pc ml (.int (bI p) :: st) σ Φ := by
  refine g_if_ne hd ht hq (fun c => kt ?_) (fun c => kf (fun hp => ?_))
  · by_cases hp : p
    · exact hp
    · rw [bI_f hp] at c; exact absurd rfl c
  · rw [bI_t hp] at c; exact absurd c (by decide)
theorem z_iald {a n : Nat} {t : Int → Int} {i : Int} (hd : decode M.2.1 pc = .ok (.iaload, 1)) (hσ : σ[a]? = some (.inl (0, n, .inl (zA t)))) (h : 0 ≤ i ∧ i < n ∧ n < 2147483648) (hq : pc + 1 = q) (k : Go w M cs q ml (.int (iZ (t i)) :: st) σ Φ) : Go w M cs pc ml (.int (iZ i) :: .ref a :: st) σ Φ := by
  refine g_iald hd hσ (iZ_in h.1 h.2.1 h.2.2) hq ?_
  rw [iZ_clamp (by omega) (by omega), zA_at t h.1]; exact k
theorem z_cald {a n : Nat} {t : Int → Int} {i : Int} (hd : decode M.2.1 pc = .ok (.caload, 1)) (hσ : σ[a]? = some (.inl (1, n, .inl (zA t)))) (h : 0 ≤ i ∧ i < n ∧ n < 2147483648) (hq : pc + 1 = q) (k : Go w M cs q ml (.int (iZ (t i)) :: st) σ Φ) : Go w M cs pc ml (.int (iZ i) :: .ref a :: st) σ Φ := by
  refine g_cald hd hσ (iZ_in h.1 h.2.1 h.2.2) hq ?_
  rw [iZ_clamp (by omega) (by omega), zA_at t h.1]; exact k
theorem z_iast {a n : Nat} {t : Int → Int} {i x : Int} (hd : decode M.2.1 pc = .ok (.iastore, 1)) (hσ : σ[a]? = some (.inl (0, n, .inl (zA t)))) (h : 0 ≤ i ∧ i < n ∧ n < 2147483648) (hq : pc + 1 = q) (k : ∀ σ' : g_H0, σ'[a]? = some (.inl (0, n, .inl (zA (zup t i x)))) → g_Fr (fun b => b = a) σ σ' → Go w M cs q ml st σ' Φ) : Go w M cs pc ml (.int (iZ x) :: .int (iZ i) :: .ref a :: st) σ Φ := by
  refine g_iast hd hσ (iZ_in h.1 h.2.1 h.2.2) rfl hq ?_
  rw [iZ_clamp (by omega) (by omega), zup_iZ t h.1]
  exact k _ (List.getElem?_set_self (List.getElem?_eq_some_iff.mp hσ).1) (g_Fr.set rfl)
theorem z_cast {a n : Nat} {t : Int → Int} {i x : Int} (hd : decode M.2.1 pc = .ok (.castore, 1)) (hσ : σ[a]? = some (.inl (1, n, .inl (zA t)))) (h : 0 ≤ i ∧ i < n ∧ n < 2147483648) (hn : vp_nar .char (iZ x) = iZ x) (hq : pc + 1 = q) (k : ∀ σ' : g_H0, σ'[a]? = some (.inl (1, n, .inl (zA (zup t i x)))) → g_Fr (fun b => b = a) σ σ' → Go w M cs q ml st σ' Φ) : Go w M cs pc ml (.int (iZ x) :: .int (iZ i) :: .ref a :: st) σ Φ := by
  refine g_cast hd hσ (iZ_in h.1 h.2.1 h.2.2) rfl hq ?_
  rw [iZ_clamp (by omega) (by omega), hn, zup_iZ t h.1]
  exact k _ (List.getElem?_set_self (List.getElem?_eq_some_iff.mp hσ).1) (g_Fr.set rfl)
theorem z_aald {a n t : Nat} {Cn : String} {f : Nat → Option Nat} {i : Int} {b : Nat} (hd : decode M.2.1 pc = .ok (.aaload, 1)) (ht : (g_tys w)[t]? = some (g_ca w t, .object Cn)) (hσ : σ[a]? = some (.inl (t, n, .inr (.inr (.inr (.inr f)))))) (h : 0 ≤ i ∧ i < n ∧ n < 2147483648) (hf : f i.toNat = some b) (hq : pc + 1 = q) (k : Go w M cs q ml (.ref b :: st) σ Φ) : Go w M cs pc ml (.int (iZ i) :: .ref a :: st) σ Φ := by
  refine g_aald hd ht hσ (iZ_in h.1 h.2.1 h.2.2) hq ?_
  rw [iZ_clamp (by omega) (by omega), hf]; exact k
theorem z_put {ci k' idx a : Nat} {fs fs' : List Value} {v : Value} {ty : FieldType} (hf : g_FP M.1.cls idx ci k' ty false) (hd : decode M.2.1 pc = .ok (.putfield idx, 3)) (hσ : σ[a]? = some (.inr (ci, fs))) (hl : k' < fs.length) (hnar : narrow ty (g_V w v) = g_V w v) (hfit : fits ty (g_V w v) = true) (hs : fs.set k' v = fs') (hq : pc + 3 = q) (k : ∀ σ' : g_H0, σ'[a]? = some (.inr (ci, fs')) → g_Fr (fun b => b = a) σ σ' → Go w M cs q ml st σ' Φ) : Go w M cs pc ml (v :: .ref a :: st) σ Φ := by
  subst hs
  exact g_put hf hd hσ hl hnar hfit rfl hq (k _ (List.getElem?_set_self (List.getElem?_eq_some_iff.mp hσ).1) (g_Fr.set rfl))
theorem z_putF {ci k' idx a : Nat} {fs fs' : List Value} {v : Value} {ty : FieldType} (hf : g_FP M.1.cls idx ci k' ty true) (hnm : M.1.name = "<init>") (hd : decode M.2.1 pc = .ok (.putfield idx, 3)) (hσ : σ[a]? = some (.inr (ci, fs))) (hl : k' < fs.length) (hnar : narrow ty (g_V w v) = g_V w v) (hfit : fits ty (g_V w v) = true) (hs : fs.set k' v = fs') (hq : pc + 3 = q) (k : ∀ σ' : g_H0, σ'[a]? = some (.inr (ci, fs')) → g_Fr (fun b => b = a) σ σ' → Go w M cs q ml st σ' Φ) : Go w M cs pc ml (v :: .ref a :: st) σ Φ := by
  subst hs
  exact g_putF hf hnm hd hσ hl hnar hfit rfl hq (k _ (List.getElem?_set_self (List.getElem?_eq_some_iff.mp hσ).1) (g_Fr.set rfl))
theorem z_iret {v : Int32} (hd : decode M.2.1 pc = .ok (.ireturn, 1)) (hr : M.2.2.2.1 = some .int) (h : Φ (some (.int v)) σ) : Go w M (0, 0) pc ml [.int v] σ Φ := g_iret hd hr (Nat.zero_le _) (Nat.zero_le _) h
theorem z_zret {v : Int32} {ty : FieldType} (hd : decode M.2.1 pc = .ok (.ireturn, 1)) (hr : M.2.2.2.1 = some ty) (hnar : narrow ty (.int v) = .int v) (h : Φ (some (.int v)) σ) : Go w M (0, 0) pc ml [.int v] σ Φ := g_zret hd hr hnar (Nat.zero_le _) (Nat.zero_le _) h
theorem z_vret (hd : decode M.2.1 pc = .ok (.return_, 1)) (hr : M.2.2.2.1 = none) (h : Φ none σ) : Go w M (0, 0) pc ml [] σ Φ := g_vret hd hr (Nat.zero_le _) (Nat.zero_le _) h
end GZ

/-! a switch -/
def z_alts (G : Nat → Prop) (z : Int) : Int → List Nat → Prop
  | _, [] => True
  | lo, t :: ts => (z = lo → G t) ∧ z_alts G z (lo + 1) ts
theorem z_alts_use {G : Nat → Prop} {z : Int} : ∀ {ts : List Nat} {lo : Int} {j : Nat} {t : Nat}, z_alts G z lo ts → ts[j]? = some t → z = lo + j → G t
  | [], _, _, _, _, h, _ => by simp at h
  | t0 :: ts, lo, 0, t, h, ht, hz => by
    simp at ht
    subst ht
    exact h.1 (by simpa using hz)
  | t0 :: ts, lo, j + 1, t, h, ht, hz => by
    refine z_alts_use h.2 (by simpa using ht) ?_
    rw [hz]; push_cast; omega
def z_offs (pc : Nat) (offs : Array Int) (ts : List Nat) : Bool := decide (offs.toList.map (fun o => (pc : Int) + o) = ts.map (fun t : Nat => (t : Int)))
theorem z_table {w : g_W} {M : g_MD} {cs : Nat × Nat} {pc : Nat} {ml : List (Option Value)} {st : List Value} {σ : g_H0} {Φ : g_Post} {dflt lo hi : Int} {offs : Array Int} {len dt : Nat} {z : Int} {ts : List Nat} (hd : decode M.2.1 pc = .ok (.tableswitch dflt lo hi offs, len)) (h : -2147483648 ≤ z ∧ z < 2147483648) (hl : lo + ts.length = hi + 1) (ho : z_offs pc offs ts = true) (ht : (pc : Int) + dflt = (dt : Int)) (ka : z_alts (fun t => Go w M cs t ml st σ Φ) z lo ts) (kd : z < lo ∨ hi < z → Go w M cs dt ml st σ Φ) : Go w M cs pc ml (.int (iZ z) :: st) σ Φ := by
  by_cases hz : z < lo ∨ hi < z
  · exact g_tableOut hd (by rw [iZ_toInt h.1 h.2]; exact hz) ht (kd hz)
  · have ho' : offs.toList.map (fun o => (pc : Int) + o) = ts.map (fun t : Nat => (t : Int)) := of_decide_eq_true ho
    have hj : (z - lo).toNat < ts.length := by omega
    obtain ⟨t, htt⟩ : ∃ t, ts[(z - lo).toNat]? = some t := ⟨_, List.getElem?_eq_getElem hj⟩
    have h1 : (offs.toList.map (fun o => (pc : Int) + o))[(z - lo).toNat]? = some (t : Int) := by rw [ho', List.getElem?_map, htt]; rfl
    rw [List.getElem?_map] at h1
    obtain ⟨off, h2, h3⟩ := Option.map_eq_some_iff.mp h1
    rw [Array.getElem?_toList] at h2
    exact g_tableIn (off := off) hd (by rw [iZ_toInt h.1 h.2]; omega) (by rw [iZ_toInt h.1 h.2]; omega) (by rw [iZ_toInt h.1 h.2]; exact h2) h3 (z_alts_use ka htt (by omega))

/-! to forget locals -/
def g_wkR : List (Option Value) → List (Option Value) → Prop
  | [], [] => True
  | a :: l, b :: l' => (b = none ∨ b = a) ∧ g_wkR l l'
  | _, _ => False
theorem g_wkR_at : ∀ {l l' : List (Option Value)}, g_wkR l l' → l'.length = l.length ∧ ∀ (i : Nat) (v : Value), l'[i]? = some (some v) → l[i]? = some (some v)
  | [], [], _ => ⟨rfl, fun i v h => by simp at h⟩
  | a :: l, b :: l', h => by
    obtain ⟨h1, h2⟩ := g_wkR_at h.2
    refine ⟨by simp [h1], fun i v hi => ?_⟩
    cases i with
    | zero =>
      simp at hi
      rcases h.1 with e | e
      · rw [e] at hi; cases hi
      · rw [e] at hi; simp [hi]
    | succ i =>
      simp at hi ⊢
      exact h2 i v hi
  | [], b :: l', h => absurd h (by simp [g_wkR])
  | a :: l, [], h => absurd h (by simp [g_wkR])
theorem Go.wk {w : g_W} {M : g_MD} {cs : Nat × Nat} {pc : Nat} {ml ml' : List (Option Value)} {st : List Value} {σ : g_H0} {Φ : g_Post} (h : g_wkR ml ml') (k : Go w M cs pc ml' st σ Φ) : Go w M cs pc ml st σ Φ := by
  obtain ⟨h1, h2⟩ := g_wkR_at h
  intro p l e s m args below meth c C H locs ls hH hS hn hL
  exact k p l e s m args below meth c C H locs ls hH hS (h1.trans hn) ⟨hL.1.trans h1.symm, hL.2.1, fun i v hi => hL.2.2 i v (h2 i v hi)⟩
