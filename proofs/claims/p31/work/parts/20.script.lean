
/-- the cells of Script -/
def wS (kA : Nat → ClassId) (qs tq3 : Nat → Nat) (tx : Nat → Nat) (len pos : Nat) (kd : Option Nat) (rw0 ss : Nat) (av : Option Nat) : va_W :=
  [(qs 0, .inr (3, [.ref (tq3 0), .ref (qs 1), .int (nI len), .int (nI pos), .int (oI kd), .int (nI rw0), .int (nI ss), .int (oI av)])), (qs 1, .inl (kA 1, 150, .inl (aN tx)))]
theorem onone_lt {n : Nat} (h : n < 2147483648) : oI none < nI n := by
  rw [Int32.lt_iff_toInt_lt, nI_toInt h]
  have : (oI none).toInt = -1 := by decide
  omega
theorem onone_le {n : Nat} (h : n < 2147483648) : oI none ≤ nI n := by
  rw [Int32.le_iff_toInt_le, nI_toInt h]
  have : (oI none).toInt = -1 := by decide
  omega
theorem onone_ngt {n : Nat} (h : n < 2147483648) : ¬ nI n < oI none := i_not_lt.mpr (onone_le h)
theorem onone_nge {n : Nat} (h : n < 2147483648) : ¬ nI n ≤ oI none := i_not_le.mpr (onone_lt h)
theorem onone_ne {n : Nat} (h : n < 2147483648) : ¬ oI none = nI n := fun e => by
  have := onone_lt h
  rw [e] at this
  exact absurd this (i_not_lt.mpr (by rw [Int32.le_iff_toInt_le]; omega))
def hereF (tx : Nat → Nat) (len p : Nat) : Option Nat := if p < len then some (tx p) else none
theorem hereF_lt {tx : Nat → Nat} {len p b : Nat} (h : hereF tx len p = some b) : p < len ∧ b = tx p := by
  unfold hereF at h
  by_cases e : p < len
  · rw [if_pos e] at h; cases h; exact ⟨e, rfl⟩
  · rw [if_neg e] at h; cases h
theorem hereF_bd {tx : Nat → Nat} {len p : Nat} (htx : ∀ j, j < len → tx j < 128) : ∀ q, hereF tx len p = some q → q < 2147483648 := fun q h => by
  obtain ⟨h1, h2⟩ := hereF_lt h
  have := htx p h1
  omega
def skpF (tx : Nat → Nat) (len : Nat) : Nat → Nat → Nat
  | 0, p => p
  | n + 1, p => if hereF tx len p = some 32 then skpF tx len n (p + 1) else p
theorem skpF_t {tx : Nat → Nat} {len n p : Nat} (h : hereF tx len p = some 32) : skpF tx len (n + 1) p = skpF tx len n (p + 1) := if_pos h
theorem skpF_f {tx : Nat → Nat} {len p : Nat} (h : ¬ hereF tx len p = some 32) : ∀ n, skpF tx len n p = p
  | 0 => rfl
  | n + 1 => if_neg h
def digT (tx : Nat → Nat) (len p : Nat) : Option Nat := match hereF tx len p with
  | none => none
  | some b => if 48 ≤ b ∧ b ≤ 57 then some (b - 48) else none
theorem digT_lt {tx : Nat → Nat} {len p d : Nat} (h : digT tx len p = some d) : d < 10 ∧ p < len := by
  unfold digT at h
  cases e : hereF tx len p with
  | none => rw [e] at h; cases h
  | some b =>
    rw [e] at h
    by_cases e2 : 48 ≤ b ∧ b ≤ 57
    · have h : (if 48 ≤ b ∧ b ≤ 57 then some (b - 48) else none) = some d := h
      rw [if_pos e2] at h; cases h; exact ⟨by omega, (hereF_lt e).1⟩
    · have h : (if 48 ≤ b ∧ b ≤ 57 then some (b - 48) else none) = some d := h
      rw [if_neg e2] at h; cases h
def stpF (tx : Nat → Nat) (len w p : Nat) : Nat := if hereF tx len p = some w then p + 1 else p
def rrF (tx : Nat → Nat) (len p rw0 : Nat) : Bool × Nat × Nat := match digT tx len p with
  | none => (false, p, rw0)
  | some a => match digT tx len (p + 1) with
    | none => (true, p + 1, a)
    | some b => (true, p + 2, 10 * a + b)
def raF (tx : Nat → Nat) (len p : Nat) (av : Option Nat) : Bool × Nat × Option Nat := if hereF tx len p = some 62 then (match digT tx len (p + 1) with
  | none => (false, p + 1, none)
  | some a => (true, p + 2, some a)) else (false, p, av)
/-- digits of a set: at most n more, from least on -/
def dgL (tx : Nat → Nat) (len a : Nat) : Nat → Nat → Nat → Nat → Nat × Nat
  | 0, _, set, p => (set, p)
  | n + 1, least, set, p => match digT tx len p with
    | none => (set, p)
    | some d => if least ≤ d ∧ d < a then dgL tx len a n (d + 1) (set ||| (1 <<< d)) (p + 1) else (set, p)
theorem dgL_n {tx : Nat → Nat} {len a least set p : Nat} (h : digT tx len p = none) : ∀ n, dgL tx len a n least set p = (set, p)
  | 0 => rfl
  | n + 1 => by
    show (match digT tx len p with | none => (set, p) | some d => _) = _
    rw [h]
theorem dgL_f {tx : Nat → Nat} {len a least set p d : Nat} (h : digT tx len p = some d) (h2 : ¬ (least ≤ d ∧ d < a)) : ∀ n, dgL tx len a n least set p = (set, p)
  | 0 => rfl
  | n + 1 => by
    show (match digT tx len p with | none => (set, p) | some d => if least ≤ d ∧ d < a then dgL tx len a n (d + 1) (set ||| (1 <<< d)) (p + 1) else (set, p)) = _
    rw [h]; exact if_neg h2
theorem dgL_t {tx : Nat → Nat} {len a least set p d n : Nat} (h : digT tx len p = some d) (h2 : least ≤ d ∧ d < a) : dgL tx len a (n + 1) least set p = dgL tx len a n (d + 1) (set ||| (1 <<< d)) (p + 1) := by
  show (match digT tx len p with | none => (set, p) | some d => if least ≤ d ∧ d < a then dgL tx len a n (d + 1) (set ||| (1 <<< d)) (p + 1) else (set, p)) = _
  rw [h]; exact if_pos h2
def rsF (tx : Nat → Nat) (len a p : Nat) : Nat × Nat := if hereF tx len p = some 45 then (fulN a, p + 1) else dgL tx len a 4 0 0 p
/-- the sets of n conditions from k on -/
def rasL (tx : Nat → Nat) (len : Nat) (ac : Nat → Nat) : Nat → Nat → Nat → Nat → Bool × Nat × Nat
  | 0, _, sets, p => (true, sets, p)
  | n + 1, k, sets, p => if k = 0 ∨ hereF tx len p = some 44 then
      (if (rsF tx len (ac k) (if k = 0 then p else p + 1)).1 = 0 then (false, sets, (rsF tx len (ac k) (if k = 0 then p else p + 1)).2)
       else rasL tx len ac n (k + 1) (sets ||| ((rsF tx len (ac k) (if k = 0 then p else p + 1)).1 <<< (4 * k))) (rsF tx len (ac k) (if k = 0 then p else p + 1)).2)
    else (false, sets, p)
/-- the end of a run of letters -/
def wenF (tx : Nat → Nat) (len : Nat) : Nat → Nat → Nat
  | 0, p => p
  | n + 1, p => match hereF tx len p with
    | none => p
    | some b => if 97 ≤ b ∧ b ≤ 122 then wenF tx len n (p + 1) else p
theorem wenF_n {tx : Nat → Nat} {len p : Nat} (h : hereF tx len p = none) : ∀ n, wenF tx len n p = p
  | 0 => rfl
  | n + 1 => by
    show (match hereF tx len p with | none => p | some b => _) = _
    rw [h]
theorem wenF_f {tx : Nat → Nat} {len p b : Nat} (h : hereF tx len p = some b) (h2 : ¬ (97 ≤ b ∧ b ≤ 122)) : ∀ n, wenF tx len n p = p
  | 0 => rfl
  | n + 1 => by
    show (match hereF tx len p with | none => p | some b => if 97 ≤ b ∧ b ≤ 122 then wenF tx len n (p + 1) else p) = _
    rw [h]; exact if_neg h2
theorem wenF_t {tx : Nat → Nat} {len p b n : Nat} (h : hereF tx len p = some b) (h2 : 97 ≤ b ∧ b ≤ 122) : wenF tx len (n + 1) p = wenF tx len n (p + 1) := by
  show (match hereF tx len p with | none => p | some b => if 97 ≤ b ∧ b ≤ 122 then wenF tx len n (p + 1) else p) = _
  rw [h]; exact if_pos h2
/-- what stands from st up to p is the word i -/
def wisB (tx : Nat → Nat) (st p i : Nat) : Bool := decide (p - st = lenW.getD i 0) && allB (fun j => decide (tx (st + j) = chN i j)) (lenW.getD i 0)
def kndF (tx : Nat → Nat) (st p : Nat) : Option Nat := if wisB tx st p 0 = true then some 0 else if wisB tx st p 1 = true then some 1 else if wisB tx st p 2 = true then some 2 else if wisB tx st p 3 = true then some 3 else none
