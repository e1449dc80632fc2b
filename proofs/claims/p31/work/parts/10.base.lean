/-! values as numbers: nI for what is 0 or more, oI for a number or -1, bI for a truth value -/
def oI (o : Option Nat) : Int32 := match o with
  | none => -1
  | some n => nI n
def bI (b : Bool) : Int32 := if b then nI 1 else nI 0
def aN (f : Nat → Nat) : Nat → Int32 := fun j => nI (f j)
def aO (f : Nat → Option Nat) : Nat → Int32 := fun j => oI (f j)
def aB (f : Nat → Bool) : Nat → Int32 := fun j => bI (f j)
theorem aN_up (f : Nat → Nat) (k x : Nat) : upd (aN f) k (nI x) = aN (va_up f k x) := by
  funext j; simp only [upd, aN, va_up]; split <;> rfl
theorem aO_up (f : Nat → Option Nat) (k : Nat) (x : Option Nat) : upd (aO f) k (oI x) = aO (va_up f k x) := by
  funext j; simp only [upd, aO, va_up]; split <;> rfl
theorem aB_up (f : Nat → Bool) (k : Nat) (x : Bool) : upd (aB f) k (bI x) = aB (va_up f k x) := by
  funext j; simp only [upd, aB, va_up]; split <;> rfl
/-- one less, or none at 0 -/
def dO (n : Nat) : Option Nat := match n with
  | 0 => none
  | n + 1 => some n
theorem dO_s (n : Nat) : dO (n + 1) = some n := rfl
theorem oI_dO (n : Nat) : nI n - 1 = oI (dO n) := by
  cases n with
  | zero => rfl
  | succ n => exact nI_pred n
theorem nI_inc (n : Nat) : nI n + Int32.ofInt 1 = nI (n + 1) := nI_1 n
theorem nI_dec (n : Nat) : nI n + Int32.ofInt (-1) = oI (dO n) := by
  cases n with
  | zero => decide
  | succ n =>
    rw [show Int32.ofInt (-1) = -1 by decide]
    exact pk_m1 n
theorem nI_addc (n k : Nat) : nI n + Int32.ofInt (k : Int) = nI (n + k) := nI_add n k
theorem oI_lt0 {o : Option Nat} (hb : ∀ q, o = some q → q < 2147483648) : oI o < 0 ↔ o = none := by
  cases o with
  | none => exact ⟨fun _ => rfl, fun _ => by decide⟩
  | some q => exact ⟨fun h => absurd h (nI_pos (hb q rfl)), fun h => by cases h⟩
theorem oI_ge0 {o : Option Nat} (hb : ∀ q, o = some q → q < 2147483648) : 0 ≤ oI o ↔ ∃ q, o = some q := by
  cases o with
  | none => exact ⟨fun h => absurd h (by decide), fun ⟨q, h⟩ => by cases h⟩
  | some q => exact ⟨fun _ => ⟨q, rfl⟩, fun _ => nI_pos' (hb q rfl)⟩
theorem oI_inj {o o' : Option Nat} (hb : ∀ q, o = some q → q < 2147483648) (hb' : ∀ q, o' = some q → q < 2147483648) : oI o = oI o' ↔ o = o' := by
  refine ⟨fun h => ?_, fun h => by rw [h]⟩
  cases o with
  | none =>
    cases o' with
    | none => rfl
    | some q =>
      have h2 := nI_pos' (hb' q rfl)
      rw [show nI q = -1 from h.symm] at h2
      exact absurd h2 (by decide)
  | some q =>
    cases o' with
    | none =>
      have h2 := nI_pos' (hb q rfl)
      rw [show nI q = -1 from h] at h2
      exact absurd h2 (by decide)
    | some q' => rw [(nI_eq (hb q rfl) (hb' q' rfl)).mp h]
theorem oI_N {o : Option Nat} {k : Nat} (hb : ∀ q, o = some q → q < 2147483648) (hk : k < 2147483648) : oI o = nI k ↔ o = some k := by
  have h := oI_inj (o := o) (o' := some k) hb (fun q h => by cases h; exact hk)
  exact h
theorem bI_eq0 (b : Bool) : bI b = 0 ↔ b = false := by cases b <;> decide
theorem bI_and (a b : Bool) : bI (a && b) = if a then bI b else nI 0 := by cases a <;> rfl
theorem bI_dec (b : Prop) [Decidable b] : bI (decide b) = if b then nI 1 else nI 0 := by
  by_cases h : b <;> simp [bI, h]
theorem vp_in_n {i n : Nat} (hi : i < n) (hn : n ≤ 100000) : vp_in (nI i) n := vp_in_nI hi (by omega)
theorem nI_cl {i n : Nat} (hi : i < n) (hn : n ≤ 100000) : (nI i).toNatClampNeg = i := nI_clamp (by omega)
theorem nN_and (a b : Nat) : nI a &&& nI b = nI (a &&& b) := by
  apply Int32.toBitVec_inj.mp
  show BitVec.ofNat 32 a &&& BitVec.ofNat 32 b = BitVec.ofNat 32 (a &&& b)
  apply BitVec.eq_of_toNat_eq
  rw [BitVec.toNat_and, BitVec.toNat_ofNat, BitVec.toNat_ofNat, BitVec.toNat_ofNat, Nat.and_mod_two_pow]
theorem nN_or (a b : Nat) : nI a ||| nI b = nI (a ||| b) := by
  apply Int32.toBitVec_inj.mp
  show BitVec.ofNat 32 a ||| BitVec.ofNat 32 b = BitVec.ofNat 32 (a ||| b)
  apply BitVec.eq_of_toNat_eq
  rw [BitVec.toNat_or, BitVec.toNat_ofNat, BitVec.toNat_ofNat, BitVec.toNat_ofNat, Nat.or_mod_two_pow]
theorem nN_smod : ∀ k, k < 32 → ((nI k &&& 31).toBitVec.smod 32).toNat = k := by decide +kernel
theorem nN_shl (a : Nat) {k : Nat} (hk : k < 32) : nI a <<< (nI k &&& 31) = nI (a <<< k) := by
  apply Int32.toBitVec_inj.mp
  apply BitVec.eq_of_toNat_eq
  rw [pk_shl (nI a) (nI k &&& 31) k (by rw [show (nI k &&& 31) = nI k &&& 31 from rfl]; exact nN_smod k hk)]
  show (BitVec.ofNat 32 a).toNat * 2 ^ k % 2 ^ 32 = (BitVec.ofNat 32 (a <<< k)).toNat
  rw [BitVec.toNat_ofNat, BitVec.toNat_ofNat, Nat.shiftLeft_eq, Nat.mod_mul_mod]
theorem nN_shr {a k : Nat} (ha : a < 2147483648) (hk : k < 32) : nI a >>> (nI k &&& 31) = nI (a >>> k) := by
  rw [pk_shrN ha (nI k &&& 31) k (nN_smod k hk), Nat.shiftRight_eq_div_pow]
theorem nN_us : ∀ k, k < 32 → (((nI k).toUInt32 &&& Int32.toUInt32 31).toBitVec % 32).toNat = k := by decide +kernel
theorem nN_ushr {a k : Nat} (ha : a < 4294967296) (hk : k < 32) : ((nI a).toUInt32 >>> ((nI k).toUInt32 &&& Int32.toUInt32 31)).toInt32 = nI (a >>> k) := by
  rw [pk_ushrN ha (nI k) k (nN_us k hk), Nat.shiftRight_eq_div_pow]
theorem narrow_bI (b : Bool) : narrow .boolean (.int (bI b)) = .int (bI b) := by cases b <;> decide
theorem fits_bI (b : Bool) : fits .boolean (.int (bI b)) = true := by cases b <;> decide
theorem aB_upz (f : Nat → Bool) (k : Nat) (x : Bool) : upd (aB f) k (vp_nar .boolean (bI x)) = aB (va_up f k x) := by
  have h : vp_nar .boolean (bI x) = bI x := by unfold vp_nar; rw [narrow_bI]
  rw [h]; exact aB_up f k x
theorem i_not_le {x y : Int32} : ¬ x ≤ y ↔ y < x := by
  rw [Int32.le_iff_toInt_le, Int32.lt_iff_toInt_lt]; omega
theorem i_not_lt {x y : Int32} : ¬ x < y ↔ y ≤ x := by
  rw [Int32.le_iff_toInt_le, Int32.lt_iff_toInt_lt]; omega
/-- an int that isn't below 0, as a number -/
theorem i_num {x : Int32} (h : ¬ x < 0) : ∃ j : Nat, x = nI j ∧ j < 2147483648 := by
  obtain ⟨j, h1, h2⟩ := nI_of h
  exact ⟨j, h2, h1⟩
/-- the classes of arrays: int, byte, boolean, Table, long -/
def tyK (kA : Nat → ClassId) : List (ClassId × FieldType) := [(kA 0, .int), (kA 1, .byte), (kA 2, .boolean), (kA 3, .object "AskedRules$Table")]
/-- a room without cells -/
abbrev rmN (f n : Nat) : Room := { frames := f, cells := 0, slots := 0, locals := n }
abbrev rmC (f n mc ms : Nat) : Room := { frames := f, cells := mc, slots := ms, locals := n }
section NRW
variable {p : Program} {l : Launch} {e : Env} {R : Room} {s : State} {m : MethodId} {args : Array Value} {below : List Frame} {meth : Method} {c : Code} {H : Heap} {locs : List Loc} {cells slots : Nat} {Q : State → Prop}
variable {cc : ByteArray} {pc : Nat} {ls : Array Slot} {rest : List Value} {D : va_G} {cl : List vw_C} {ws : va_W} {tys : List (ClassId × FieldType)} {a : Nat} {A : Nat → Prop} {H0 : Heap}
theorem n_iadd (hx : p.tables.exec = Jvm.exec) (hb : c.code = cc) {x y v : Int32} (hv : x + y = v) (hdg : decode cc pc = .ok (.iadd, 1)) (k : W p l e R s m args below meth c H locs cells slots Q (F0 m (pc + 1) ls (.int v :: rest))) : W p l e R s m args below meth c H locs cells slots Q (F0 m pc ls (.int y :: .int x :: rest)) := by
  subst hv
  exact lv_iadd hx hb hdg k
theorem n_isub (hx : p.tables.exec = Jvm.exec) (hb : c.code = cc) {x y v : Int32} (hv : x - y = v) (hdg : decode cc pc = .ok (.isub, 1)) (k : W p l e R s m args below meth c H locs cells slots Q (F0 m (pc + 1) ls (.int v :: rest))) : W p l e R s m args below meth c H locs cells slots Q (F0 m pc ls (.int y :: .int x :: rest)) := by
  subst hv
  exact lv_isub hx hb hdg k
theorem n_imul (hx : p.tables.exec = Jvm.exec) (hb : c.code = cc) {x y v : Int32} (hv : x * y = v) (hdg : decode cc pc = .ok (.imul, 1)) (k : W p l e R s m args below meth c H locs cells slots Q (F0 m (pc + 1) ls (.int v :: rest))) : W p l e R s m args below meth c H locs cells slots Q (F0 m pc ls (.int y :: .int x :: rest)) := by
  subst hv
  exact lv_imul hx hb hdg k
theorem n_iand (hx : p.tables.exec = Jvm.exec) (hb : c.code = cc) {x y v : Int32} (hv : x &&& y = v) (hdg : decode cc pc = .ok (.iand, 1)) (k : W p l e R s m args below meth c H locs cells slots Q (F0 m (pc + 1) ls (.int v :: rest))) : W p l e R s m args below meth c H locs cells slots Q (F0 m pc ls (.int y :: .int x :: rest)) := by
  subst hv
  exact lv_iand hx hb hdg k
theorem n_ior (hx : p.tables.exec = Jvm.exec) (hb : c.code = cc) {x y v : Int32} (hv : x ||| y = v) (hdg : decode cc pc = .ok (.ior, 1)) (k : W p l e R s m args below meth c H locs cells slots Q (F0 m (pc + 1) ls (.int v :: rest))) : W p l e R s m args below meth c H locs cells slots Q (F0 m pc ls (.int y :: .int x :: rest)) := by
  subst hv
  exact lv_ior hx hb hdg k
theorem n_ishl (hx : p.tables.exec = Jvm.exec) (hb : c.code = cc) {x y v : Int32} (hv : x <<< (y &&& 31) = v) (hdg : decode cc pc = .ok (.ishl, 1)) (k : W p l e R s m args below meth c H locs cells slots Q (F0 m (pc + 1) ls (.int v :: rest))) : W p l e R s m args below meth c H locs cells slots Q (F0 m pc ls (.int y :: .int x :: rest)) := by
  subst hv
  exact lv_ishl hx hb hdg k
theorem n_ishr (hx : p.tables.exec = Jvm.exec) (hb : c.code = cc) {x y v : Int32} (hv : x >>> (y &&& 31) = v) (hdg : decode cc pc = .ok (.ishr, 1)) (k : W p l e R s m args below meth c H locs cells slots Q (F0 m (pc + 1) ls (.int v :: rest))) : W p l e R s m args below meth c H locs cells slots Q (F0 m pc ls (.int y :: .int x :: rest)) := by
  subst hv
  exact lv_ishr hx hb hdg k
theorem n_idiv (hx : p.tables.exec = Jvm.exec) (hb : c.code = cc) {x y v : Int32} (hne : ¬ y = 0) (hv : x / y = v) (hdg : decode cc pc = .ok (.idiv, 1)) (k : W p l e R s m args below meth c H locs cells slots Q (F0 m (pc + 1) ls (.int v :: rest))) : W p l e R s m args below meth c H locs cells slots Q (F0 m pc ls (.int y :: .int x :: rest)) := by
  subst hv
  exact lv_idiv hx hb hdg hne k
theorem n_irem (hx : p.tables.exec = Jvm.exec) (hb : c.code = cc) {x y v : Int32} (hne : ¬ y = 0) (hv : x - x / y * y = v) (hdg : decode cc pc = .ok (.irem, 1)) (k : W p l e R s m args below meth c H locs cells slots Q (F0 m (pc + 1) ls (.int v :: rest))) : W p l e R s m args below meth c H locs cells slots Q (F0 m pc ls (.int y :: .int x :: rest)) := by
  subst hv
  exact lv_irem hx hb hdg hne k
theorem n_icmp_lt (hx : p.tables.exec = Jvm.exec) (hb : c.code = cc) {a b : Nat} (ha : a < 2147483648) (hb2 : b < 2147483648) {off : Int} {tgt : Nat} (hdg : decode cc pc = .ok (.if_icmp .lt off, 3)) (ht : (pc : Int) + off = (tgt : Int)) (kt : a < b → W p l e R s m args below meth c H locs cells slots Q (F0 m tgt ls rest)) (kf : b ≤ a → W p l e R s m args below meth c H locs cells slots Q (F0 m (pc + 3) ls rest)) : W p l e R s m args below meth c H locs cells slots Q (F0 m pc ls (.int (nI b) :: .int (nI a) :: rest)) :=
  lv_icmp_lt hx hb hdg ht (fun h => kt ((nI_ltI ha hb2).mp h)) (fun h => kf (Nat.le_of_not_lt (fun h2 => h ((nI_ltI ha hb2).mpr h2))))
theorem n_icmp_ge (hx : p.tables.exec = Jvm.exec) (hb : c.code = cc) {a b : Nat} (ha : a < 2147483648) (hb2 : b < 2147483648) {off : Int} {tgt : Nat} (hdg : decode cc pc = .ok (.if_icmp .ge off, 3)) (ht : (pc : Int) + off = (tgt : Int)) (kt : b ≤ a → W p l e R s m args below meth c H locs cells slots Q (F0 m tgt ls rest)) (kf : a < b → W p l e R s m args below meth c H locs cells slots Q (F0 m (pc + 3) ls rest)) : W p l e R s m args below meth c H locs cells slots Q (F0 m pc ls (.int (nI b) :: .int (nI a) :: rest)) :=
  lv_icmp_ge hx hb hdg ht (fun h => kt ((nI_leI hb2 ha).mp h)) (fun h => kf (Nat.lt_of_not_le (fun h2 => h ((nI_leI hb2 ha).mpr h2))))
theorem n_icmp_gt (hx : p.tables.exec = Jvm.exec) (hb : c.code = cc) {a b : Nat} (ha : a < 2147483648) (hb2 : b < 2147483648) {off : Int} {tgt : Nat} (hdg : decode cc pc = .ok (.if_icmp .gt off, 3)) (ht : (pc : Int) + off = (tgt : Int)) (kt : b < a → W p l e R s m args below meth c H locs cells slots Q (F0 m tgt ls rest)) (kf : a ≤ b → W p l e R s m args below meth c H locs cells slots Q (F0 m (pc + 3) ls rest)) : W p l e R s m args below meth c H locs cells slots Q (F0 m pc ls (.int (nI b) :: .int (nI a) :: rest)) :=
  lv_icmp_gt hx hb hdg ht (fun h => kt ((nI_ltI hb2 ha).mp h)) (fun h => kf (Nat.le_of_not_lt (fun h2 => h ((nI_ltI hb2 ha).mpr h2))))
theorem n_icmp_le (hx : p.tables.exec = Jvm.exec) (hb : c.code = cc) {a b : Nat} (ha : a < 2147483648) (hb2 : b < 2147483648) {off : Int} {tgt : Nat} (hdg : decode cc pc = .ok (.if_icmp .le off, 3)) (ht : (pc : Int) + off = (tgt : Int)) (kt : a ≤ b → W p l e R s m args below meth c H locs cells slots Q (F0 m tgt ls rest)) (kf : b < a → W p l e R s m args below meth c H locs cells slots Q (F0 m (pc + 3) ls rest)) : W p l e R s m args below meth c H locs cells slots Q (F0 m pc ls (.int (nI b) :: .int (nI a) :: rest)) :=
  lv_icmp_le hx hb hdg ht (fun h => kt ((nI_leI ha hb2).mp h)) (fun h => kf (Nat.lt_of_not_le (fun h2 => h ((nI_leI ha hb2).mpr h2))))
theorem n_icmp_eq (hx : p.tables.exec = Jvm.exec) (hb : c.code = cc) {a b : Nat} (ha : a < 2147483648) (hb2 : b < 2147483648) {off : Int} {tgt : Nat} (hdg : decode cc pc = .ok (.if_icmp .eq off, 3)) (ht : (pc : Int) + off = (tgt : Int)) (kt : a = b → W p l e R s m args below meth c H locs cells slots Q (F0 m tgt ls rest)) (kf : a ≠ b → W p l e R s m args below meth c H locs cells slots Q (F0 m (pc + 3) ls rest)) : W p l e R s m args below meth c H locs cells slots Q (F0 m pc ls (.int (nI b) :: .int (nI a) :: rest)) :=
  lv_icmp_eq hx hb hdg ht (fun h => kt ((nI_eq ha hb2).mp h)) (fun h => kf (fun h2 => h ((nI_eq ha hb2).mpr h2)))
theorem n_icmp_ne (hx : p.tables.exec = Jvm.exec) (hb : c.code = cc) {a b : Nat} (ha : a < 2147483648) (hb2 : b < 2147483648) {off : Int} {tgt : Nat} (hdg : decode cc pc = .ok (.if_icmp .ne off, 3)) (ht : (pc : Int) + off = (tgt : Int)) (kt : a ≠ b → W p l e R s m args below meth c H locs cells slots Q (F0 m tgt ls rest)) (kf : a = b → W p l e R s m args below meth c H locs cells slots Q (F0 m (pc + 3) ls rest)) : W p l e R s m args below meth c H locs cells slots Q (F0 m pc ls (.int (nI b) :: .int (nI a) :: rest)) :=
  lv_icmp_ne hx hb hdg ht (fun h => kt (fun h2 => h ((nI_eq ha hb2).mpr h2))) (fun h => kf ((nI_eq ha hb2).mp h))
theorem n_if_gt (hx : p.tables.exec = Jvm.exec) (hb : c.code = cc) {a : Nat} (ha : a < 2147483648) {off : Int} {tgt : Nat} (hdg : decode cc pc = .ok (.ifCond .gt off, 3)) (ht : (pc : Int) + off = (tgt : Int)) (kt : 0 < a → W p l e R s m args below meth c H locs cells slots Q (F0 m tgt ls rest)) (kf : a = 0 → W p l e R s m args below meth c H locs cells slots Q (F0 m (pc + 3) ls rest)) : W p l e R s m args below meth c H locs cells slots Q (F0 m pc ls (.int (nI a) :: rest)) :=
  lv_if_gt hx hb hdg ht (fun h => kt (Nat.pos_of_ne_zero (fun h2 => by subst h2; exact absurd h (by decide)))) (fun h => kf (Decidable.byContradiction (fun h2 => h (by have := (nI_ltI (a := 0) (b := a) (by omega) ha).mpr (by omega); exact this))))
theorem n_if_le (hx : p.tables.exec = Jvm.exec) (hb : c.code = cc) {a : Nat} (ha : a < 2147483648) {off : Int} {tgt : Nat} (hdg : decode cc pc = .ok (.ifCond .le off, 3)) (ht : (pc : Int) + off = (tgt : Int)) (kt : a = 0 → W p l e R s m args below meth c H locs cells slots Q (F0 m tgt ls rest)) (kf : 0 < a → W p l e R s m args below meth c H locs cells slots Q (F0 m (pc + 3) ls rest)) : W p l e R s m args below meth c H locs cells slots Q (F0 m pc ls (.int (nI a) :: rest)) :=
  lv_if_le hx hb hdg ht (fun h => kt (Decidable.byContradiction (fun h2 => absurd h (nI_nle (by omega) ha)))) (fun h => kf (Nat.pos_of_ne_zero (fun h2 => h (by subst h2; decide))))
theorem n_if_eq (hx : p.tables.exec = Jvm.exec) (hb : c.code = cc) {a : Nat} (ha : a < 2147483648) {off : Int} {tgt : Nat} (hdg : decode cc pc = .ok (.ifCond .eq off, 3)) (ht : (pc : Int) + off = (tgt : Int)) (kt : a = 0 → W p l e R s m args below meth c H locs cells slots Q (F0 m tgt ls rest)) (kf : 0 < a → W p l e R s m args below meth c H locs cells slots Q (F0 m (pc + 3) ls rest)) : W p l e R s m args below meth c H locs cells slots Q (F0 m pc ls (.int (nI a) :: rest)) :=
  lv_if_eq hx hb hdg ht (fun h => kt (Decidable.byContradiction (fun h2 => absurd h (nI_ne0 (by omega) ha)))) (fun h => kf (Nat.pos_of_ne_zero (fun h2 => h (by subst h2; rfl))))
theorem n_if_ne (hx : p.tables.exec = Jvm.exec) (hb : c.code = cc) {a : Nat} (ha : a < 2147483648) {off : Int} {tgt : Nat} (hdg : decode cc pc = .ok (.ifCond .ne off, 3)) (ht : (pc : Int) + off = (tgt : Int)) (kt : 0 < a → W p l e R s m args below meth c H locs cells slots Q (F0 m tgt ls rest)) (kf : a = 0 → W p l e R s m args below meth c H locs cells slots Q (F0 m (pc + 3) ls rest)) : W p l e R s m args below meth c H locs cells slots Q (F0 m pc ls (.int (nI a) :: rest)) :=
  lv_if_ne hx hb hdg ht (fun h => kt (Nat.pos_of_ne_zero (fun h2 => h (by subst h2; rfl)))) (fun h => kf (Decidable.byContradiction (fun h2 => absurd h (nI_ne0 (by omega) ha))))
theorem n_ifn_lt (hx : p.tables.exec = Jvm.exec) (hb : c.code = cc) {a : Nat} (ha : a < 2147483648) {off : Int} {tgt : Nat} (hdg : decode cc pc = .ok (.ifCond .lt off, 3)) (ht : (pc : Int) + off = (tgt : Int)) (k : W p l e R s m args below meth c H locs cells slots Q (F0 m (pc + 3) ls rest)) : W p l e R s m args below meth c H locs cells slots Q (F0 m pc ls (.int (nI a) :: rest)) := 
  lv_if_lt hx hb hdg ht (fun h => absurd h (nI_pos ha)) (fun _ => k)
theorem n_ifn_ge (hx : p.tables.exec = Jvm.exec) (hb : c.code = cc) {a : Nat} (ha : a < 2147483648) {off : Int} {tgt : Nat} (hdg : decode cc pc = .ok (.ifCond .ge off, 3)) (ht : (pc : Int) + off = (tgt : Int)) (k : W p l e R s m args below meth c H locs cells slots Q (F0 m tgt ls rest)) : W p l e R s m args below meth c H locs cells slots Q (F0 m pc ls (.int (nI a) :: rest)) := 
  lv_if_ge hx hb hdg ht (fun _ => k) (fun h => absurd (nI_pos' ha) h)
theorem n_ifb_eq (hx : p.tables.exec = Jvm.exec) (hb : c.code = cc) {b : Bool} {off : Int} {tgt : Nat} (hdg : decode cc pc = .ok (.ifCond .eq off, 3)) (ht : (pc : Int) + off = (tgt : Int)) (kt : b = false → W p l e R s m args below meth c H locs cells slots Q (F0 m tgt ls rest)) (kf : b = true → W p l e R s m args below meth c H locs cells slots Q (F0 m (pc + 3) ls rest)) : W p l e R s m args below meth c H locs cells slots Q (F0 m pc ls (.int (bI b) :: rest)) :=
  lv_if_eq hx hb hdg ht (fun h => kt ((bI_eq0 b).mp h)) (fun h => kf (by cases b with | false => exact absurd rfl h | true => rfl))
theorem n_ifb_ne (hx : p.tables.exec = Jvm.exec) (hb : c.code = cc) {b : Bool} {off : Int} {tgt : Nat} (hdg : decode cc pc = .ok (.ifCond .ne off, 3)) (ht : (pc : Int) + off = (tgt : Int)) (kt : b = true → W p l e R s m args below meth c H locs cells slots Q (F0 m tgt ls rest)) (kf : b = false → W p l e R s m args below meth c H locs cells slots Q (F0 m (pc + 3) ls rest)) : W p l e R s m args below meth c H locs cells slots Q (F0 m pc ls (.int (bI b) :: rest)) :=
  lv_if_ne hx hb hdg ht (fun h => kt (by cases b with | false => exact absurd rfl h | true => rfl)) (fun h => kf ((bI_eq0 b).mp h))
theorem n_ifo_lt (hx : p.tables.exec = Jvm.exec) (hb : c.code = cc) {o : Option Nat} (ho : ∀ q, o = some q → q < 2147483648) {off : Int} {tgt : Nat} (hdg : decode cc pc = .ok (.ifCond .lt off, 3)) (ht : (pc : Int) + off = (tgt : Int)) (kt : o = none → W p l e R s m args below meth c H locs cells slots Q (F0 m tgt ls rest)) (kf : ∀ q, o = some q → W p l e R s m args below meth c H locs cells slots Q (F0 m (pc + 3) ls rest)) : W p l e R s m args below meth c H locs cells slots Q (F0 m pc ls (.int (oI o) :: rest)) :=
  lv_if_lt hx hb hdg ht (fun h => kt ((oI_lt0 ho).mp h)) (fun h => by cases ho2 : o with | none => exact absurd ((oI_lt0 ho).mpr ho2) h | some q => exact kf q ho2)
theorem n_ifo_ge (hx : p.tables.exec = Jvm.exec) (hb : c.code = cc) {o : Option Nat} (ho : ∀ q, o = some q → q < 2147483648) {off : Int} {tgt : Nat} (hdg : decode cc pc = .ok (.ifCond .ge off, 3)) (ht : (pc : Int) + off = (tgt : Int)) (kt : ∀ q, o = some q → W p l e R s m args below meth c H locs cells slots Q (F0 m tgt ls rest)) (kf : o = none → W p l e R s m args below meth c H locs cells slots Q (F0 m (pc + 3) ls rest)) : W p l e R s m args below meth c H locs cells slots Q (F0 m pc ls (.int (oI o) :: rest)) :=
  lv_if_ge hx hb hdg ht (fun h => by obtain ⟨q, hq⟩ := (oI_ge0 ho).mp h; exact kt q hq) (fun h => kf (by cases ho2 : o with | none => rfl | some q => exact absurd ((oI_ge0 ho).mpr ⟨q, ho2⟩) h))
theorem n_icmpo_ne (hx : p.tables.exec = Jvm.exec) (hb : c.code = cc) {o : Option Nat} (ho : ∀ q, o = some q → q < 2147483648) {off : Int} {tgt : Nat} (hdg : decode cc pc = .ok (.if_icmp .ne off, 3)) (ht : (pc : Int) + off = (tgt : Int)) (kt : ∀ q, o = some q → W p l e R s m args below meth c H locs cells slots Q (F0 m tgt ls rest)) (kf : o = none → W p l e R s m args below meth c H locs cells slots Q (F0 m (pc + 3) ls rest)) : W p l e R s m args below meth c H locs cells slots Q (F0 m pc ls (.int (oI none) :: .int (oI o) :: rest)) :=
  lv_icmp_ne hx hb hdg ht (fun h => by cases ho2 : o with | none => exact absurd (by rw [ho2]) h | some q => exact kt q ho2) (fun h => kf ((oI_inj ho (fun q h => by cases h)).mp h))
theorem n_icmpo_eq (hx : p.tables.exec = Jvm.exec) (hb : c.code = cc) {o : Option Nat} (ho : ∀ q, o = some q → q < 2147483648) {off : Int} {tgt : Nat} (hdg : decode cc pc = .ok (.if_icmp .eq off, 3)) (ht : (pc : Int) + off = (tgt : Int)) (kt : o = none → W p l e R s m args below meth c H locs cells slots Q (F0 m tgt ls rest)) (kf : ∀ q, o = some q → W p l e R s m args below meth c H locs cells slots Q (F0 m (pc + 3) ls rest)) : W p l e R s m args below meth c H locs cells slots Q (F0 m pc ls (.int (oI none) :: .int (oI o) :: rest)) :=
  lv_icmp_eq hx hb hdg ht (fun h => kt ((oI_inj ho (fun q h => by cases h)).mp h)) (fun h => by cases ho2 : o with | none => exact absurd (by rw [ho2]) h | some q => exact kf q ho2)
theorem n_iald (hx : p.tables.exec = Jvm.exec) (hb : c.code = cc) (hK : va_K D cl tys s) (hP : va_P D cl ws H) (q0 t0 : Nat) {cA : ClassId} {n : Nat} {f : Nat → Int32} (ha : ws[q0]? = some (a, .inl (cA, n, .inl f))) (ht : tys[t0]? = some (cA, .int)) {i : Nat} (hi : i < n) (hn : n ≤ 100000) {v : Int32} (hv : f i = v) (hdg : decode cc pc = .ok (.iaload, 1)) (k : W p l e R s m args below meth c H locs cells slots Q (F0 m (pc + 1) ls (.int v :: rest))) : W p l e R s m args below meth c H locs cells slots Q (F0 m pc ls (.int (nI i) :: .ref a :: rest)) := by
  refine va_iald hx hb hK hP q0 t0 ha ht (vp_in_n hi hn) hdg ?_
  rw [nI_cl hi hn, hv]
  exact k
theorem n_bald (hx : p.tables.exec = Jvm.exec) (hb : c.code = cc) (hK : va_K D cl tys s) (hP : va_P D cl ws H) (q0 t0 : Nat) {cA : ClassId} {n : Nat} {f : Nat → Int32} (ha : ws[q0]? = some (a, .inl (cA, n, .inl f))) (ht : tys[t0]? = some (cA, .byte)) {i : Nat} (hi : i < n) (hn : n ≤ 100000) {v : Int32} (hv : f i = v) (hdg : decode cc pc = .ok (.baload, 1)) (k : W p l e R s m args below meth c H locs cells slots Q (F0 m (pc + 1) ls (.int v :: rest))) : W p l e R s m args below meth c H locs cells slots Q (F0 m pc ls (.int (nI i) :: .ref a :: rest)) := by
  refine va_bald hx hb hK hP q0 t0 ha ht (vp_in_n hi hn) hdg ?_
  rw [nI_cl hi hn, hv]
  exact k
theorem n_zald (hx : p.tables.exec = Jvm.exec) (hb : c.code = cc) (hK : va_K D cl tys s) (hP : va_P D cl ws H) (q0 t0 : Nat) {cA : ClassId} {n : Nat} {f : Nat → Int32} (ha : ws[q0]? = some (a, .inl (cA, n, .inl f))) (ht : tys[t0]? = some (cA, .boolean)) {i : Nat} (hi : i < n) (hn : n ≤ 100000) {v : Int32} (hv : f i = v) (hdg : decode cc pc = .ok (.baload, 1)) (k : W p l e R s m args below meth c H locs cells slots Q (F0 m (pc + 1) ls (.int v :: rest))) : W p l e R s m args below meth c H locs cells slots Q (F0 m pc ls (.int (nI i) :: .ref a :: rest)) := by
  refine va_zald hx hb hK hP q0 t0 ha ht (vp_in_n hi hn) hdg ?_
  rw [nI_cl hi hn, hv]
  exact k
theorem n_iast (hx : p.tables.exec = Jvm.exec) (hb : c.code = cc) (hK : va_K D cl tys s) (hP : va_P D cl ws H) (hD : va_D A ws) (hS : va_S A H0 H locs) (q0 t0 : Nat) {cA : ClassId} {n : Nat} {f g : Nat → Int32} {ws' : va_W} (ha : ws[q0]? = some (a, .inl (cA, n, .inl f))) (ht : tys[t0]? = some (cA, .int)) {i : Nat} {x : Int32} (hi : i < n) (hn : n ≤ 100000) (hg : upd f i x = g) (hws : ws.set q0 (a, .inl (cA, n, .inl g)) = ws') (hdg : decode cc pc = .ok (.iastore, 1)) (kk : ∀ (H1 : Heap) (locs1 : List Loc), va_P D cl ws' H1 → va_D A ws' → va_S A H0 H1 locs1 → W p l e R s m args below meth c H1 locs1 cells slots Q (F0 m (pc + 1) ls rest)) : W p l e R s m args below meth c H locs cells slots Q (F0 m pc ls (.int x :: .int (nI i) :: .ref a :: rest)) := by
  refine va_iast hx hb hK hP hD hS q0 t0 ha ht (vp_in_n hi hn) hdg (fun H1 locs1 h1 h2 h3 => ?_)
  rw [nI_cl hi hn, hg, hws] at h1 h2
  exact kk H1 locs1 h1 h2 h3
theorem n_bast (hx : p.tables.exec = Jvm.exec) (hb : c.code = cc) (hK : va_K D cl tys s) (hP : va_P D cl ws H) (hD : va_D A ws) (hS : va_S A H0 H locs) (q0 t0 : Nat) {cA : ClassId} {n : Nat} {f g : Nat → Int32} {ws' : va_W} (ha : ws[q0]? = some (a, .inl (cA, n, .inl f))) (ht : tys[t0]? = some (cA, .byte)) {i : Nat} {x : Int32} (hi : i < n) (hn : n ≤ 100000) (hg : upd f i (vp_nar .byte x) = g) (hws : ws.set q0 (a, .inl (cA, n, .inl g)) = ws') (hdg : decode cc pc = .ok (.bastore, 1)) (kk : ∀ (H1 : Heap) (locs1 : List Loc), va_P D cl ws' H1 → va_D A ws' → va_S A H0 H1 locs1 → W p l e R s m args below meth c H1 locs1 cells slots Q (F0 m (pc + 1) ls rest)) : W p l e R s m args below meth c H locs cells slots Q (F0 m pc ls (.int x :: .int (nI i) :: .ref a :: rest)) := by
  refine va_bast hx hb hK hP hD hS q0 t0 ha ht (vp_in_n hi hn) hdg (fun H1 locs1 h1 h2 h3 => ?_)
  rw [nI_cl hi hn, hg, hws] at h1 h2
  exact kk H1 locs1 h1 h2 h3
theorem n_zast (hx : p.tables.exec = Jvm.exec) (hb : c.code = cc) (hK : va_K D cl tys s) (hP : va_P D cl ws H) (hD : va_D A ws) (hS : va_S A H0 H locs) (q0 t0 : Nat) {cA : ClassId} {n : Nat} {f g : Nat → Int32} {ws' : va_W} (ha : ws[q0]? = some (a, .inl (cA, n, .inl f))) (ht : tys[t0]? = some (cA, .boolean)) {i : Nat} {x : Int32} (hi : i < n) (hn : n ≤ 100000) (hg : upd f i (vp_nar .boolean x) = g) (hws : ws.set q0 (a, .inl (cA, n, .inl g)) = ws') (hdg : decode cc pc = .ok (.bastore, 1)) (kk : ∀ (H1 : Heap) (locs1 : List Loc), va_P D cl ws' H1 → va_D A ws' → va_S A H0 H1 locs1 → W p l e R s m args below meth c H1 locs1 cells slots Q (F0 m (pc + 1) ls rest)) : W p l e R s m args below meth c H locs cells slots Q (F0 m pc ls (.int x :: .int (nI i) :: .ref a :: rest)) := by
  refine va_zast hx hb hK hP hD hS q0 t0 ha ht (vp_in_n hi hn) hdg (fun H1 locs1 h1 h2 h3 => ?_)
  rw [nI_cl hi hn, hg, hws] at h1 h2
  exact kk H1 locs1 h1 h2 h3
theorem n_get (hx : p.tables.exec = Jvm.exec) (hb : c.code = cc) {own ref C : String} {T : u_T} {N ci index : Nat} {Ts : List Cond} (hts : ∀ w ∈ Ts, w.before args s = true) (hin : ∀ w ∈ u_ws C T N, w ∈ Ts) (hown : s.vm.findClass own = some m.cls) (hK : va_K D cl tys s) (hP : va_P D cl ws H) (q0 : Nat) {fs : List Value} (he : ws[q0]? = some (a, .inr (ci, fs))) (hc : cl[ci]? = some (C, T, N)) (k : Nat) (hk : Nat.blt k N = true) {dn dd : String} (hdn : (T k).2.1 = dn ∧ (T k).2.2.1 = dd ∧ (T k).1 = ref) (hlink : (Cond.fieldLink own index ref dn dd).before args s = true) {v : Value} (hv : fs[k]? = some v) (hdg : decode cc pc = .ok (.getfield index, 3)) (kk : W p l e R s m args below meth c H locs cells slots Q (F0 m (pc + 3) ls (v :: rest))) : W p l e R s m args below meth c H locs cells slots Q (F0 m pc ls (.ref a :: rest)) := by
  obtain ⟨e1, e2, e3⟩ := hdn
  subst e1; subst e2; subst e3
  exact va_get hx hb hts hin hown hK hP q0 he hc k (Nat.le_of_ble_eq_true hk) hlink (fun _ h9 => h9) hv hdg kk
theorem n_put (hx : p.tables.exec = Jvm.exec) (hb : c.code = cc) {own ref C : String} {T : u_T} {N ci index : Nat} {Ts : List Cond} {ws' : va_W} (hts : ∀ w ∈ Ts, w.before args s = true) (hin : ∀ w ∈ u_ws C T N, w ∈ Ts) (ty0 : Nat → FieldType) (hty : ∀ k, k < N → parseFieldDescriptor (T k).2.2.1 = some (ty0 k)) (hnm : ∀ a, a < N → ∀ b, b < N → a ≠ b → (T a).2.1 ≠ (T b).2.1) (hown : s.vm.findClass own = some m.cls) (hK : va_K D cl tys s) (hP : va_P D cl ws H) (hD : va_D A ws) (hS : va_S A H0 H locs) (q0 : Nat) {fs : List Value} (he : ws[q0]? = some (a, .inr (ci, fs))) (hc : cl[ci]? = some (C, T, N)) (k : Nat) (hk : Nat.blt k N = true) {dn dd : String} (hdn : (T k).2.1 = dn ∧ (T k).2.2.1 = dd ∧ (T k).1 = ref ∧ (T k).2.2.2 = false) (hlink : (Cond.fieldLink own index ref dn dd).before args s = true) {v : Value} (hn : narrow (ty0 k) v = v) (hfit : fits (ty0 k) v = true) (hl : Nat.blt k fs.length = true) (hws : ws.set q0 (a, .inr (ci, fs.set k v)) = ws') (hdg : decode cc pc = .ok (.putfield index, 3)) (kk : ∀ (H1 : Heap) (locs1 : List Loc), va_P D cl ws' H1 → va_D A ws' → va_S A H0 H1 locs1 → W p l e R s m args below meth c H1 locs1 cells slots Q (F0 m (pc + 3) ls rest)) : W p l e R s m args below meth c H locs cells slots Q (F0 m pc ls (v :: .ref a :: rest)) := by
  obtain ⟨e1, e2, e3, e4⟩ := hdn
  subst e1; subst e2; subst e3
  refine va_put hx hb hts hin ty0 hty hnm hown hK hP hD hS q0 he hc k (Nat.le_of_ble_eq_true hk) hlink (fun _ h9 => h9) e4 (hty k (Nat.le_of_ble_eq_true hk)) hn hfit (Nat.le_of_ble_eq_true hl) hdg (fun H1 locs1 h1 h2 h3 => ?_)
  rw [hws] at h1 h2
  exact kk H1 locs1 h1 h2 h3
theorem n_putF (hx : p.tables.exec = Jvm.exec) (hb : c.code = cc) {own C : String} {T : u_T} {N ci index : Nat} {Ts : List Cond} {ws' : va_W} (hts : ∀ w ∈ Ts, w.before args s = true) (hin : ∀ w ∈ u_ws C T N, w ∈ Ts) (ty0 : Nat → FieldType) (hty : ∀ k, k < N → parseFieldDescriptor (T k).2.2.1 = some (ty0 k)) (hnm : ∀ a, a < N → ∀ b, b < N → a ≠ b → (T a).2.1 ≠ (T b).2.1) (hown : s.vm.findClass own = some m.cls) (hK : va_K D cl tys s) (hP : va_P D cl ws H) (hD : va_D A ws) (hS : va_S A H0 H locs) (q0 : Nat) {fs : List Value} (he : ws[q0]? = some (a, .inr (ci, fs))) (hc : cl[ci]? = some (C, T, N)) (k : Nat) (hk : Nat.blt k N = true) {dn dd : String} (hdn : (T k).2.1 = dn ∧ (T k).2.2.1 = dd ∧ (T k).1 = own ∧ (T k).2.2.2 = true) (hlink : (Cond.fieldLink own index own dn dd).before args s = true) (hin2 : meth.name = "<init>") {v : Value} (hn : narrow (ty0 k) v = v) (hfit : fits (ty0 k) v = true) (hl : Nat.blt k fs.length = true) (hws : ws.set q0 (a, .inr (ci, fs.set k v)) = ws') (hdg : decode cc pc = .ok (.putfield index, 3)) (kk : ∀ (H1 : Heap) (locs1 : List Loc), va_P D cl ws' H1 → va_D A ws' → va_S A H0 H1 locs1 → W p l e R s m args below meth c H1 locs1 cells slots Q (F0 m (pc + 3) ls rest)) : W p l e R s m args below meth c H locs cells slots Q (F0 m pc ls (v :: .ref a :: rest)) := by
  obtain ⟨e1, e2, e3, e4⟩ := hdn
  subst e1; subst e2; subst e3
  refine va_putF hx hb hts hin ty0 hty hnm hown hK hP hD hS q0 he hc k (Nat.le_of_ble_eq_true hk) hlink (fun _ h9 => h9) e4 hin2 rfl (hty k (Nat.le_of_ble_eq_true hk)) hn hfit (Nat.le_of_ble_eq_true hl) hdg (fun H1 locs1 h1 h2 h3 => ?_)
  rw [hws] at h1 h2
  exact kk H1 locs1 h1 h2 h3
end NRW
/-! calls: what only reads hands back its answer; what writes changes its cells alone, whatever stands round them -/
theorem va_P.mem {D : va_G} {cl : List vw_C} {ws ws' : va_W} {H : Heap} (h : va_P D cl ws H) (hm : ∀ q ∈ ws', q ∈ ws) : va_P D cl ws' H := by
  intro k q hk
  obtain ⟨i, hi⟩ := List.getElem?_of_mem (hm q (List.mem_of_getElem? hk))
  exact h i q hi
def va_nds (ws : va_W) : Prop := (ws.map (fun q => q.1)).Nodup
theorem va_D_nd {A : Nat → Prop} {ws : va_W} (h : va_D A ws) : va_nds ws := by
  refine List.pairwise_iff_getElem.mpr ?_
  intro i j hi hj hij he
  rw [List.length_map] at hi hj
  rw [List.getElem_map, List.getElem_map] at he
  have := h.1 i j _ _ (List.getElem?_eq_getElem hi) (List.getElem?_eq_getElem hj) he
  omega
theorem va_D_of {A : Nat → Prop} {ws : va_W} (h : va_nds ws) (hA : ∀ q ∈ ws, A q.1) : va_D A ws := by
  have key : ∀ (i j : Nat) (x y : Nat × va_E), ws[i]? = some x → ws[j]? = some y → x.1 = y.1 → i < j → False := by
    intro i j x y hi hj hxy hij
    obtain ⟨li, ei⟩ := List.getElem?_eq_some_iff.mp hi
    obtain ⟨lj, ej⟩ := List.getElem?_eq_some_iff.mp hj
    refine List.pairwise_iff_getElem.mp h i j (by rw [List.length_map]; exact li) (by rw [List.length_map]; exact lj) hij ?_
    rw [List.getElem_map, List.getElem_map, ei, ej]
    exact hxy
  refine ⟨fun i j x y hi hj hxy => ?_, fun k q hk => hA q (List.mem_of_getElem? hk)⟩
  rcases Nat.lt_trichotomy i j with q | q | q
  · exact absurd (key i j x y hi hj hxy q) (fun h => h)
  · exact q
  · exact absurd (key j i y x hj hi hxy.symm q) (fun h => h)
theorem va_A_mem {wc : va_W} {sz q : Nat} : va_A wc sz q ↔ (∃ e, (q, e) ∈ wc) ∨ sz ≤ q := by
  constructor
  · rintro (⟨k, e, h⟩ | h)
    · exact Or.inl ⟨e, List.mem_of_getElem? h⟩
    · exact Or.inr h
  · rintro (⟨e, h⟩ | h)
    · obtain ⟨k, hk⟩ := List.getElem?_of_mem h
      exact Or.inl ⟨k, e, hk⟩
    · exact Or.inr h
/-- the frame: of a world in any order, a part wc is handed over, w1 comes back, the rest wr stays -/
theorem n_frame {D : va_G} {cl : List vw_C} {A : Nat → Prop} {ws wc wr w1 ws' : va_W} {H H1 : Heap} (hP : va_P D cl ws H) (hD : va_D A ws) (hp : ws.Perm (wc ++ wr)) (hp' : (w1 ++ wr).Perm ws') (hk : ∀ q : Nat, q < H.size → ¬ va_A wc H.size q → H1[q]? = H[q]?) (hF : ∀ q, va_A wc H.size q → A q) (hP1 : va_P D cl w1 H1) (hD1 : va_D (va_A wc H.size) w1) : va_P D cl ws' H1 ∧ va_D A ws' := by
  have hnd : va_nds (wc ++ wr) := (hp.map _).nodup_iff.mp (va_D_nd hD)
  have hnd' : ((wc.map (fun q => q.1)) ++ (wr.map (fun q => q.1))).Nodup := by rw [← List.map_append]; exact hnd
  obtain ⟨-, hndr, hdis⟩ := List.nodup_append.mp hnd'
  have hmr : ∀ q ∈ wr, q ∈ ws := fun q h => hp.mem_iff.mpr (List.mem_append_right _ h)
  have apart : ∀ q ∈ wr, q.1 < H.size ∧ ¬ va_A wc H.size q.1 := by
    intro q hq
    obtain ⟨k, hk2⟩ := List.getElem?_of_mem (hmr q hq)
    have hlt := (hP k q hk2).lt
    refine ⟨hlt, fun h => ?_⟩
    rcases va_A_mem.mp h with ⟨e, he⟩ | h
    · exact hdis q.1 (List.mem_map.mpr ⟨_, he, rfl⟩) q.1 (List.mem_map.mpr ⟨q, hq, rfl⟩) rfl
    · omega
  have hPr : va_P D cl wr H1 := by
    intro k q hk2
    have hq := List.mem_of_getElem? hk2
    obtain ⟨i, hi⟩ := List.getElem?_of_mem (hmr q hq)
    obtain ⟨g1, g2⟩ := apart q hq
    exact (hP i q hi).kept (hk q.1 g1 g2)
  refine ⟨(hP1.app hPr).mem (fun q h => hp'.mem_iff.mpr h), va_D_of ?_ ?_⟩
  · refine (hp'.map _).nodup_iff.mp ?_
    rw [List.map_append]
    refine List.nodup_append.mpr ⟨va_D_nd hD1, hndr, ?_⟩
    rintro x hx1 y hy2 rfl
    obtain ⟨q1, h1, rfl⟩ := List.mem_map.mp hx1
    obtain ⟨q2, h2, h3⟩ := List.mem_map.mp hy2
    obtain ⟨k1, hk1⟩ := List.getElem?_of_mem h1
    have h4 := hD1.2 k1 q1 hk1
    rw [← h3] at h4
    exact (apart q2 h2).2 h4
  · intro q hq
    rcases List.mem_append.mp (hp'.mem_iff.mpr hq) with h | h
    · obtain ⟨k1, hk1⟩ := List.getElem?_of_mem h
      exact hF _ (hD1.2 k1 q hk1)
    · obtain ⟨k1, hk1⟩ := List.getElem?_of_mem (hmr q h)
      exact hD.2 k1 q hk1
section NCA
variable {p : Program} {l : Launch} {e : Env} {R : Room} {s : State} {m : MethodId} {args : Array Value} {below : List Frame} {meth : Method} {c : Code} {H : Heap} {locs : List Loc} {cells slots : Nat} {Q : State → Prop}
variable {cc : ByteArray} {pc : Nat} {ls : Array Slot} {rest : List Value} {D : va_G} {cl : List vw_C} {ws : va_W} {tys : List (ClassId × FieldType)} {a : Nat} {A : Nat → Prop} {H0 : Heap}
variable {y : MethodName} {bytes : ByteArray} {maxL nL mc ms n index : Nat} {ret : Option FieldType} {wsy : List Cond} {rm : Room} {Ts : List Cond} {own C : String} {b : Nat} {As st : List Value} {wc : va_W} {tysc : List (ClassId × FieldType)}
/-- a method that reads a world wc: its contract -/
abbrev rd_Pc (D : va_G) (cl : List vw_C) (av : List Value) (wc : va_W) (tysc : List (ClassId × FieldType)) : Array Value → State → Prop := va_Pc av (fun U => va_P D cl wc U.heap ∧ va_K D cl tysc U)
/-- a method that may write its world wc and make cells: its contract -/
abbrev wr_Pc (D : va_G) (cl : List vw_C) (av : List Value) (wc : va_W) (tysc : List (ClassId × FieldType)) (sz : Nat) : Array Value → State → Prop := va_Pc av (fun U => U.heap.size = sz ∧ va_P D cl wc U.heap ∧ va_K D cl tysc U ∧ va_D (fun _ => True) wc)
abbrev wr_B {S : Type} (D : va_G) (cl : List vw_C) (wc : va_W) (tysc : List (ClassId × FieldType)) (sz : Nat) (w1 : S → va_W) : S → State → Prop := fun u t => va_P D cl (w1 u) t.heap ∧ va_K D cl tysc t ∧ va_D (va_A wc sz) (w1 u)
theorem rd_blind {av : List Value} : FrameBlind (rd_Pc D cl av wc tysc) := fun a U g mk q => by
  obtain ⟨q0, qP, qK⟩ := q
  exact ⟨q0, qP, va_K.moved (u := U) (U := U.calling g mk a) (Vm.Alike.refl U.vm) qK⟩
theorem wr_blind {av : List Value} {sz : Nat} : FrameBlind (wr_Pc D cl av wc tysc sz) := fun a U g mk q => by
  obtain ⟨q0, q1, qP, qK, qD⟩ := q
  exact ⟨q0, q1, qP, va_K.moved (u := U) (U := U.calling g mk a) (Vm.Alike.refl U.vm) qK, qD⟩

theorem n_cV (hS0 : CallFix p m c cc nL s args Ts own) {post : Int32 → Prop} (hM : Met l y wsy rm (rd_Pc D cl (.ref b :: As) wc tysc) (vp_Si post) 0 0 (fun _ => False)) (cw : CallW R s args own C index y bytes maxL ret wsy rm 0 0 n) (hP : va_P D cl wc H) (hK : va_K D cl tysc s) {ci q0 : Nat} {fs : List Value} {qc : vw_C} (hr : wc[q0]? = some (b, .inr (ci, fs))) (hcl : cl[ci]? = some qc) (hC : qc.1 = C) (hst : st = As.reverse ++ .ref b :: rest) (hn : As.length = n) (hls : ls.size = nL) (hroom : (rest.map fun v => v.category).sum ≤ 8) (hdg : decode cc pc = .ok (.invokevirtual index, 3)) (hcs : cells ≤ R.cells ∧ slots ≤ R.slots) (kk : ∀ r : Int32, post r → W p l e R s m args below meth c H locs cells slots Q (F0 m (pc + 3) ls (.int r :: rest))) : W p l e R s m args below meth c H locs cells slots Q (F0 m pc ls st) := by
  subst hst
  refine vp_callSi (W.runV (As := As) (rest := rest) hS0 hM cw ⟨rd_blind, ?_, fun U hU hW => ⟨rfl, by rw [hU]; exact hP, va_K.moved hW.alike hK⟩⟩ rfl hn hls rfl (lv_room hroom) hdg hcs) kk
  rw [← hC]
  exact va_recv hK hP hcl hr
theorem n_cS (hS0 : CallFix p m c cc nL s args Ts own) {post : Int32 → Prop} (hM : Met l y wsy rm (rd_Pc D cl As wc tysc) (vp_Si post) 0 0 (fun _ => False)) (cw : CallB R s args own index y bytes maxL ret wsy rm 0 0 n ∧ (Cond.static y).before args s = true) (hP : va_P D cl wc H) (hK : va_K D cl tysc s) (hst : st = As.reverse ++ rest) (hn : As.length = n) (hls : ls.size = nL) (hroom : (rest.map fun v => v.category).sum ≤ 8) (hdg : decode cc pc = .ok (.invokestatic index, 3)) (hcs : cells ≤ R.cells ∧ slots ≤ R.slots) (kk : ∀ r : Int32, post r → W p l e R s m args below meth c H locs cells slots Q (F0 m (pc + 3) ls (.int r :: rest))) : W p l e R s m args below meth c H locs cells slots Q (F0 m pc ls st) := by
  subst hst
  exact vp_callSi (W.runS (As := As) (rest := rest) hS0 hM cw ⟨rd_blind, fun U hU hW => ⟨rfl, by rw [hU]; exact hP, va_K.moved hW.alike hK⟩⟩ rfl hn hls rfl (lv_room hroom) hdg hcs) kk
theorem n_wVi (hS0 : CallFix p m c cc nL s args Ts own) {S : Type} {post : Int32 → S → Prop} {w1 : S → va_W} (hM : Met l y wsy rm (wr_Pc D cl (.ref b :: As) wc tysc H.size) (va_Qi post (wr_B D cl wc tysc H.size w1) (va_A wc H.size)) mc ms (va_A wc H.size)) (cw : CallW R s args own C index y bytes maxL ret wsy rm mc ms n) (hP : va_P D cl ws H) (hD : va_D A ws) (hS : va_S A s.heap H locs) (hA : ∀ q, s.heap.size ≤ q → A q) (hK : va_K D cl tys s) (hKc : va_K D cl tysc s) {wr : va_W} {ws' : S → va_W} (hp : ws.Perm (wc ++ wr)) (hp' : ∀ u, (w1 u ++ wr).Perm (ws' u)) {ci q0 : Nat} {fs : List Value} {qc : vw_C} (hr : wc[q0]? = some (b, .inr (ci, fs))) (hcl : cl[ci]? = some qc) (hC : qc.1 = C) (hst : st = As.reverse ++ .ref b :: rest) (hn : As.length = n) (hls : ls.size = nL) (hroom : (rest.map fun v => v.category).sum ≤ 8) (hdg : decode cc pc = .ok (.invokevirtual index, 3)) (hcs : cells + mc ≤ R.cells ∧ slots + ms ≤ R.slots) (kk : ∀ (r : Int32) (u : S) (H1 : Heap) (locs1 : List Loc), post r u → va_P D cl (ws' u) H1 → va_D A (ws' u) → va_S A s.heap H1 locs1 → W p l e R s m args below meth c H1 locs1 (cells + mc) (slots + ms) Q (F0 m (pc + 3) ls (.int r :: rest))) : W p l e R s m args below meth c H locs cells slots Q (F0 m pc ls st) := by
  subst hst
  have hnd : va_nds (wc ++ wr) := (hp.map _).nodup_iff.mp (va_D_nd hD)
  have hnd' : ((wc.map (fun q => q.1)) ++ (wr.map (fun q => q.1))).Nodup := by rw [← List.map_append]; exact hnd
  have hndc : va_nds wc := (List.nodup_append.mp hnd').1
  have hF : ∀ q, va_A wc H.size q → A q := by
    intro q h
    rcases va_A_mem.mp h with ⟨e, he⟩ | h
    · obtain ⟨k1, hk1⟩ := List.getElem?_of_mem (hp.mem_iff.mpr (List.mem_append_left _ he))
      exact hD.2 k1 _ hk1
    · exact hA q (Nat.le_trans hS.1 h)
  refine va_calli (va_runV (As := As) (rest := rest) hS0 hM cw ⟨wr_blind, (by rw [← hC]; exact va_recv hK (hP.mem (fun q h => hp.mem_iff.mpr (List.mem_append_left _ h))) hcl hr), fun U hU hW => ⟨rfl, by rw [hU], by rw [hU]; exact hP.mem (fun q h => hp.mem_iff.mpr (List.mem_append_left _ h)), va_K.moved hW.alike hKc, va_D_of hndc (fun _ _ => trivial)⟩⟩ rfl hn hls rfl (lv_room hroom) hdg hcs) hS (fun q _ h => hF q h) hF (fun r u t H1 locs1 ht hvm hw hB hz1 hk1 hS1 => ?_)
  obtain ⟨hP1, hK1, hD1⟩ := hB
  rw [ht] at hP1
  obtain ⟨h1, h2⟩ := n_frame hP hD hp (hp' u) hk1 hF hP1 hD1
  exact kk r u H1 locs1 hw h1 h2 hS1
theorem n_wVl (hS0 : CallFix p m c cc nL s args Ts own) {S : Type} {post : Int64 → S → Prop} {w1 : S → va_W} (hM : Met l y wsy rm (wr_Pc D cl (.ref b :: As) wc tysc H.size) (va_Ql post (wr_B D cl wc tysc H.size w1) (va_A wc H.size)) mc ms (va_A wc H.size)) (cw : CallW R s args own C index y bytes maxL ret wsy rm mc ms n) (hP : va_P D cl ws H) (hD : va_D A ws) (hS : va_S A s.heap H locs) (hA : ∀ q, s.heap.size ≤ q → A q) (hK : va_K D cl tys s) (hKc : va_K D cl tysc s) {wr : va_W} {ws' : S → va_W} (hp : ws.Perm (wc ++ wr)) (hp' : ∀ u, (w1 u ++ wr).Perm (ws' u)) {ci q0 : Nat} {fs : List Value} {qc : vw_C} (hr : wc[q0]? = some (b, .inr (ci, fs))) (hcl : cl[ci]? = some qc) (hC : qc.1 = C) (hst : st = As.reverse ++ .ref b :: rest) (hn : As.length = n) (hls : ls.size = nL) (hroom : (rest.map fun v => v.category).sum ≤ 8) (hdg : decode cc pc = .ok (.invokevirtual index, 3)) (hcs : cells + mc ≤ R.cells ∧ slots + ms ≤ R.slots) (kk : ∀ (r : Int64) (u : S) (H1 : Heap) (locs1 : List Loc), post r u → va_P D cl (ws' u) H1 → va_D A (ws' u) → va_S A s.heap H1 locs1 → W p l e R s m args below meth c H1 locs1 (cells + mc) (slots + ms) Q (F0 m (pc + 3) ls (.long r :: rest))) : W p l e R s m args below meth c H locs cells slots Q (F0 m pc ls st) := by
  subst hst
  have hnd : va_nds (wc ++ wr) := (hp.map _).nodup_iff.mp (va_D_nd hD)
  have hnd' : ((wc.map (fun q => q.1)) ++ (wr.map (fun q => q.1))).Nodup := by rw [← List.map_append]; exact hnd
  have hndc : va_nds wc := (List.nodup_append.mp hnd').1
  have hF : ∀ q, va_A wc H.size q → A q := by
    intro q h
    rcases va_A_mem.mp h with ⟨e, he⟩ | h
    · obtain ⟨k1, hk1⟩ := List.getElem?_of_mem (hp.mem_iff.mpr (List.mem_append_left _ he))
      exact hD.2 k1 _ hk1
    · exact hA q (Nat.le_trans hS.1 h)
  refine va_calll (va_runV (As := As) (rest := rest) hS0 hM cw ⟨wr_blind, (by rw [← hC]; exact va_recv hK (hP.mem (fun q h => hp.mem_iff.mpr (List.mem_append_left _ h))) hcl hr), fun U hU hW => ⟨rfl, by rw [hU], by rw [hU]; exact hP.mem (fun q h => hp.mem_iff.mpr (List.mem_append_left _ h)), va_K.moved hW.alike hKc, va_D_of hndc (fun _ _ => trivial)⟩⟩ rfl hn hls rfl (lv_room hroom) hdg hcs) hS (fun q _ h => hF q h) hF (fun r u t H1 locs1 ht hvm hw hB hz1 hk1 hS1 => ?_)
  obtain ⟨hP1, hK1, hD1⟩ := hB
  rw [ht] at hP1
  obtain ⟨h1, h2⟩ := n_frame hP hD hp (hp' u) hk1 hF hP1 hD1
  exact kk r u H1 locs1 hw h1 h2 hS1
theorem n_wVv (hS0 : CallFix p m c cc nL s args Ts own) {S : Type} {post : S → Prop} {w1 : S → va_W} (hM : Met l y wsy rm (wr_Pc D cl (.ref b :: As) wc tysc H.size) (va_Qv post (wr_B D cl wc tysc H.size w1) (va_A wc H.size)) mc ms (va_A wc H.size)) (cw : CallW R s args own C index y bytes maxL ret wsy rm mc ms n) (hP : va_P D cl ws H) (hD : va_D A ws) (hS : va_S A s.heap H locs) (hA : ∀ q, s.heap.size ≤ q → A q) (hK : va_K D cl tys s) (hKc : va_K D cl tysc s) {wr : va_W} {ws' : S → va_W} (hp : ws.Perm (wc ++ wr)) (hp' : ∀ u, (w1 u ++ wr).Perm (ws' u)) {ci q0 : Nat} {fs : List Value} {qc : vw_C} (hr : wc[q0]? = some (b, .inr (ci, fs))) (hcl : cl[ci]? = some qc) (hC : qc.1 = C) (hst : st = As.reverse ++ .ref b :: rest) (hn : As.length = n) (hls : ls.size = nL) (hroom : (rest.map fun v => v.category).sum ≤ 8) (hdg : decode cc pc = .ok (.invokevirtual index, 3)) (hcs : cells + mc ≤ R.cells ∧ slots + ms ≤ R.slots) (kk : ∀ (u : S) (H1 : Heap) (locs1 : List Loc), post u → va_P D cl (ws' u) H1 → va_D A (ws' u) → va_S A s.heap H1 locs1 → W p l e R s m args below meth c H1 locs1 (cells + mc) (slots + ms) Q (F0 m (pc + 3) ls rest)) : W p l e R s m args below meth c H locs cells slots Q (F0 m pc ls st) := by
  subst hst
  have hnd : va_nds (wc ++ wr) := (hp.map _).nodup_iff.mp (va_D_nd hD)
  have hnd' : ((wc.map (fun q => q.1)) ++ (wr.map (fun q => q.1))).Nodup := by rw [← List.map_append]; exact hnd
  have hndc : va_nds wc := (List.nodup_append.mp hnd').1
  have hF : ∀ q, va_A wc H.size q → A q := by
    intro q h
    rcases va_A_mem.mp h with ⟨e, he⟩ | h
    · obtain ⟨k1, hk1⟩ := List.getElem?_of_mem (hp.mem_iff.mpr (List.mem_append_left _ he))
      exact hD.2 k1 _ hk1
    · exact hA q (Nat.le_trans hS.1 h)
  refine va_callv (va_runV (As := As) (rest := rest) hS0 hM cw ⟨wr_blind, (by rw [← hC]; exact va_recv hK (hP.mem (fun q h => hp.mem_iff.mpr (List.mem_append_left _ h))) hcl hr), fun U hU hW => ⟨rfl, by rw [hU], by rw [hU]; exact hP.mem (fun q h => hp.mem_iff.mpr (List.mem_append_left _ h)), va_K.moved hW.alike hKc, va_D_of hndc (fun _ _ => trivial)⟩⟩ rfl hn hls rfl (lv_room hroom) hdg hcs) hS (fun q _ h => hF q h) hF (fun u t H1 locs1 ht hvm hw hB hz1 hk1 hS1 => ?_)
  obtain ⟨hP1, hK1, hD1⟩ := hB
  rw [ht] at hP1
  obtain ⟨h1, h2⟩ := n_frame hP hD hp (hp' u) hk1 hF hP1 hD1
  exact kk u H1 locs1 hw h1 h2 hS1
theorem n_wIv (hS0 : CallFix p m c cc nL s args Ts own) {S : Type} {post : S → Prop} {w1 : S → va_W} (hM : Met l y wsy rm (wr_Pc D cl (.ref b :: As) wc tysc H.size) (va_Qv post (wr_B D cl wc tysc H.size w1) (va_A wc H.size)) mc ms (va_A wc H.size)) (cw : CallB R s args own index y bytes maxL none wsy rm mc ms n ∧ y.name = "<init>" ∧ (Cond.instanceMethod y).before args s = true) (hP : va_P D cl ws H) (hD : va_D A ws) (hS : va_S A s.heap H locs) (hA : ∀ q, s.heap.size ≤ q → A q) (hK : va_K D cl tys s) (hKc : va_K D cl tysc s) {wr : va_W} {ws' : S → va_W} (hp : ws.Perm (wc ++ wr)) (hp' : ∀ u, (w1 u ++ wr).Perm (ws' u)) (hst : st = As.reverse ++ .ref b :: rest) (hn : As.length = n) (hls : ls.size = nL) (hroom : (rest.map fun v => v.category).sum ≤ 8) (hdg : decode cc pc = .ok (.invokespecial index, 3)) (hcs : cells + mc ≤ R.cells ∧ slots + ms ≤ R.slots) (kk : ∀ (u : S) (H1 : Heap) (locs1 : List Loc), post u → va_P D cl (ws' u) H1 → va_D A (ws' u) → va_S A s.heap H1 locs1 → W p l e R s m args below meth c H1 locs1 (cells + mc) (slots + ms) Q (F0 m (pc + 3) ls rest)) : W p l e R s m args below meth c H locs cells slots Q (F0 m pc ls st) := by
  subst hst
  have hnd : va_nds (wc ++ wr) := (hp.map _).nodup_iff.mp (va_D_nd hD)
  have hnd' : ((wc.map (fun q => q.1)) ++ (wr.map (fun q => q.1))).Nodup := by rw [← List.map_append]; exact hnd
  have hndc : va_nds wc := (List.nodup_append.mp hnd').1
  have hF : ∀ q, va_A wc H.size q → A q := by
    intro q h
    rcases va_A_mem.mp h with ⟨e, he⟩ | h
    · obtain ⟨k1, hk1⟩ := List.getElem?_of_mem (hp.mem_iff.mpr (List.mem_append_left _ he))
      exact hD.2 k1 _ hk1
    · exact hA q (Nat.le_trans hS.1 h)
  refine va_callv (va_runI (As := As) (rest := rest) hS0 hM cw ⟨wr_blind, fun U hU hW => ⟨rfl, by rw [hU], by rw [hU]; exact hP.mem (fun q h => hp.mem_iff.mpr (List.mem_append_left _ h)), va_K.moved hW.alike hKc, va_D_of hndc (fun _ _ => trivial)⟩⟩ rfl hn hls rfl (lv_room hroom) hdg hcs) hS (fun q _ h => hF q h) hF (fun u t H1 locs1 ht hvm hw hB hz1 hk1 hS1 => ?_)
  obtain ⟨hP1, hK1, hD1⟩ := hB
  rw [ht] at hP1
  obtain ⟨h1, h2⟩ := n_frame hP hD hp (hp' u) hk1 hF hP1 hD1
  exact kk u H1 locs1 hw h1 h2 hS1
end NCA
section NLF
variable {p : Program} {l : Launch} {e : Env} {R : Room} {s : State} {m : MethodId} {args : Array Value} {below : List Frame} {meth : Method} {c : Code} {H : Heap} {locs : List Loc} {cells slots : Nat} {Q : State → Prop}
variable {cc : ByteArray} {pc : Nat} {ls : Array Slot} {rest : List Value} {D : va_G} {cl : List vw_C} {ws : va_W} {tys : List (ClassId × FieldType)} {a : Nat} {A : Nat → Prop} {H0 : Heap}
variable {ty : FieldType} {v : Int32} {v64 : Int64} {wc : va_W} {tysc : List (ClassId × FieldType)}
theorem n_reti (hx : p.tables.exec = Jvm.exec) (hb : c.code = cc) (hr : meth.sig.returnType = some .int) (hlocks : meth.locks = false) {post : Int32 → Prop} (hq : post v) (hH : H = s.heap) (hdg : decode cc pc = .ok (.ireturn, 1)) : W p l e R s m args below meth c H [] cells slots (MQ below (vp_Si post) args s cells slots (fun _ => False)) (F0 m pc ls [.int v]) :=
  W.iret hx hb hr (fun t ht hW => ⟨v, rfl, hq, by rw [ht, hH]⟩) (fun q h => by cases h) hdg hlocks
theorem n_retz (hx : p.tables.exec = Jvm.exec) (hb : c.code = cc) (hr : meth.sig.returnType = some ty) (hlocks : meth.locks = false) {post : Int32 → Prop} (hn : narrow ty (.int v) = .int v) (hq : post v) (hH : H = s.heap) (hdg : decode cc pc = .ok (.ireturn, 1)) : W p l e R s m args below meth c H [] cells slots (MQ below (vp_Si post) args s cells slots (fun _ => False)) (F0 m pc ls [.int v]) :=
  W.zret hx hb hr hn (fun t ht hW => ⟨v, rfl, hq, by rw [ht, hH]⟩) (fun q h => by cases h) hdg hlocks
theorem n_wreti (hx : p.tables.exec = Jvm.exec) (hb : c.code = cc) (hr : meth.sig.returnType = some .int) (hlocks : meth.locks = false) {S : Type} {post : Int32 → S → Prop} {w1 : S → va_W} {sz : Nat} (u : S) (hq : post v u) (hP : va_P D cl (w1 u) H) (hD : va_D A (w1 u)) (hK : va_K D cl tysc s) (hS : va_S A s.heap H locs) (hA : va_A wc sz = A) (hdg : decode cc pc = .ok (.ireturn, 1)) : W p l e R s m args below meth c H locs cells slots (MQ below (va_Qi post (wr_B D cl wc tysc sz w1) A) args s cells slots A) (F0 m pc ls [.int v]) := by
  subst hA
  exact W.iret hx hb hr (fun t ht hW => ⟨⟨v, u, rfl, hq, by rw [ht]; exact hP, va_K.moved hW.alike hK, hD⟩, hS.F ht⟩) hS.2.2 hdg hlocks
theorem n_wretz (hx : p.tables.exec = Jvm.exec) (hb : c.code = cc) (hr : meth.sig.returnType = some ty) (hlocks : meth.locks = false) {S : Type} {post : Int32 → S → Prop} {w1 : S → va_W} {sz : Nat} (hn : narrow ty (.int v) = .int v) (u : S) (hq : post v u) (hP : va_P D cl (w1 u) H) (hD : va_D A (w1 u)) (hK : va_K D cl tysc s) (hS : va_S A s.heap H locs) (hA : va_A wc sz = A) (hdg : decode cc pc = .ok (.ireturn, 1)) : W p l e R s m args below meth c H locs cells slots (MQ below (va_Qi post (wr_B D cl wc tysc sz w1) A) args s cells slots A) (F0 m pc ls [.int v]) := by
  subst hA
  exact W.zret hx hb hr hn (fun t ht hW => ⟨⟨v, u, rfl, hq, by rw [ht]; exact hP, va_K.moved hW.alike hK, hD⟩, hS.F ht⟩) hS.2.2 hdg hlocks
theorem n_wretl (hx : p.tables.exec = Jvm.exec) (hb : c.code = cc) (hr : meth.sig.returnType = some .long) (hlocks : meth.locks = false) {S : Type} {post : Int64 → S → Prop} {w1 : S → va_W} {sz : Nat} (u : S) (hq : post v64 u) (hP : va_P D cl (w1 u) H) (hD : va_D A (w1 u)) (hK : va_K D cl tysc s) (hS : va_S A s.heap H locs) (hA : va_A wc sz = A) (hdg : decode cc pc = .ok (.lreturn, 1)) : W p l e R s m args below meth c H locs cells slots (MQ below (va_Ql post (wr_B D cl wc tysc sz w1) A) args s cells slots A) (F0 m pc ls [.long v64]) := by
  subst hA
  exact W.lret hx hb hr (fun t ht hW => ⟨⟨v64, u, rfl, hq, by rw [ht]; exact hP, va_K.moved hW.alike hK, hD⟩, hS.F ht⟩) hS.2.2 hdg hlocks
theorem n_wretv (hx : p.tables.exec = Jvm.exec) (hb : c.code = cc) (hr : meth.sig.returnType = none) (hlocks : meth.locks = false) {S : Type} {post : S → Prop} {w1 : S → va_W} {sz : Nat} (u : S) (hq : post u) (hP : va_P D cl (w1 u) H) (hD : va_D A (w1 u)) (hK : va_K D cl tysc s) (hS : va_S A s.heap H locs) (hA : va_A wc sz = A) (hdg : decode cc pc = .ok (.return_, 1)) : W p l e R s m args below meth c H locs cells slots (MQ below (va_Qv post (wr_B D cl wc tysc sz w1) A) args s cells slots A) (F0 m pc ls []) := by
  subst hA
  exact W.vret hx hb hr (fun t ht hW => ⟨⟨u, rfl, hq, by rw [ht]; exact hP, va_K.moved hW.alike hK, hD⟩, hS.F ht⟩) hS.2.2 hdg hlocks
end NLF
