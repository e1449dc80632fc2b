
theorem bF {b : Bool} (h : b = false) : ¬ b = true := by rw [h]; decide
theorem by8 {x : Nat} (h : x < 128) : (nI x).toInt8.toInt32 = nI x := by
  have : ∀ x, x < 128 → (nI x).toInt8.toInt32 = nI x := by decide +kernel
  exact this x h
theorem by8n {x : Nat} (h : x < 128) : vp_nar .byte (nI x) = nI x := by8 h
theorem rasL_z {tx : Nat → Nat} {len n k sets p : Nat} {ac : Nat → Nat} (hk : k = 0) : rasL tx len ac (n + 1) k sets p = if (rsF tx len (ac k) p).1 = 0 then (false, sets, (rsF tx len (ac k) p).2) else rasL tx len ac n (k + 1) (sets ||| ((rsF tx len (ac k) p).1 <<< (4 * k))) (rsF tx len (ac k) p).2 := by subst hk; rfl
theorem rasL_c {tx : Nat → Nat} {len n k sets p : Nat} {ac : Nat → Nat} (hk : 0 < k) (h : hereF tx len p = some 44) : rasL tx len ac (n + 1) k sets p = if (rsF tx len (ac k) (p + 1)).1 = 0 then (false, sets, (rsF tx len (ac k) (p + 1)).2) else rasL tx len ac n (k + 1) (sets ||| ((rsF tx len (ac k) (p + 1)).1 <<< (4 * k))) (rsF tx len (ac k) (p + 1)).2 := by
  have e : ¬ k = 0 := by omega
  show (if k = 0 ∨ hereF tx len p = some 44 then (if (rsF tx len (ac k) (if k = 0 then p else p + 1)).1 = 0 then (false, sets, (rsF tx len (ac k) (if k = 0 then p else p + 1)).2) else rasL tx len ac n (k + 1) (sets ||| ((rsF tx len (ac k) (if k = 0 then p else p + 1)).1 <<< (4 * k))) (rsF tx len (ac k) (if k = 0 then p else p + 1)).2) else (false, sets, p)) = _
  rw [if_pos (Or.inr h), if_neg e]
theorem rasL_n {tx : Nat → Nat} {len n k sets p : Nat} {ac : Nat → Nat} (hk : 0 < k) (h : ¬ hereF tx len p = some 44) : rasL tx len ac (n + 1) k sets p = (false, sets, p) := by
  have e : ¬ (k = 0 ∨ hereF tx len p = some 44) := fun h9 => h9.elim (fun h8 => by omega) h
  show (if k = 0 ∨ hereF tx len p = some 44 then (if (rsF tx len (ac k) (if k = 0 then p else p + 1)).1 = 0 then (false, sets, (rsF tx len (ac k) (if k = 0 then p else p + 1)).2) else rasL tx len ac n (k + 1) (sets ||| ((rsF tx len (ac k) (if k = 0 then p else p + 1)).1 <<< (4 * k))) (rsF tx len (ac k) (if k = 0 then p else p + 1)).2) else (false, sets, p)) = _
  rw [if_neg e]
theorem dgL_le {tx : Nat → Nat} {len a : Nat} : ∀ {n least set p : Nat}, p ≤ len → (dgL tx len a n least set p).2 ≤ len
  | 0, _, _, _, h => h
  | n + 1, least, set, p, h => by
    cases e : digT tx len p with
    | none => rw [dgL_n e]; exact h
    | some d =>
      by_cases e2 : least ≤ d ∧ d < a
      · rw [dgL_t e e2]; exact dgL_le (digT_lt e).2
      · rw [dgL_f e e2]; exact h
theorem rsF_le {tx : Nat → Nat} {len a p : Nat} (h : p ≤ len) : (rsF tx len a p).2 ≤ len := by
  unfold rsF
  by_cases e : hereF tx len p = some 45
  · rw [if_pos e]; exact (hereF_lt e).1
  · rw [if_neg e]; exact dgL_le h
theorem dgL_lt {tx : Nat → Nat} {len a : Nat} (ha : a ≤ 4) : ∀ {n least set p : Nat}, set < 16 → (dgL tx len a n least set p).1 < 16
  | 0, _, _, _, h => h
  | n + 1, least, set, p, h => by
    cases e : digT tx len p with
    | none => rw [dgL_n e]; exact h
    | some d =>
      by_cases e2 : least ≤ d ∧ d < a
      · rw [dgL_t e e2]
        refine dgL_lt ha ?_
        have hd : 1 <<< d < 16 := by
          have : ∀ d, d < 4 → 1 <<< d < 16 := by decide
          exact this d (by omega)
        exact Nat.or_lt_two_pow (n := 4) h hd
      · rw [dgL_f e e2]; exact h
theorem rsF_lt {tx : Nat → Nat} {len a p : Nat} (ha : a ≤ 4) : (rsF tx len a p).1 < 16 := by
  unfold rsF
  by_cases e : hereF tx len p = some 45
  · rw [if_pos e]; exact fulN_lt ha
  · rw [if_neg e]; exact dgL_lt ha (by decide)
theorem rasL_le {tx : Nat → Nat} {len : Nat} {ac : Nat → Nat} : ∀ {n k sets p : Nat}, p ≤ len → (rasL tx len ac n k sets p).2.2 ≤ len
  | 0, _, _, _, h => h
  | n + 1, k, sets, p, h => by
    by_cases hk : k = 0
    · subst hk
      rw [rasL_z rfl]
      by_cases e : (rsF tx len (ac 0) p).1 = 0
      · rw [if_pos e]; exact rsF_le h
      · rw [if_neg e]; exact rasL_le (rsF_le h)
    · by_cases hc : hereF tx len p = some 44
      · rw [rasL_c (by omega) hc]
        have h1 := (hereF_lt hc).1
        by_cases e : (rsF tx len (ac k) (p + 1)).1 = 0
        · rw [if_pos e]; exact rsF_le h1
        · rw [if_neg e]; exact rasL_le (rsF_le h1)
      · rw [rasL_n (by omega) hc]; exact h
theorem wenF_le {tx : Nat → Nat} {len : Nat} : ∀ {n p : Nat}, p ≤ len → wenF tx len n p ≤ len
  | 0, _, h => h
  | n + 1, p, h => by
    cases e : hereF tx len p with
    | none => rw [wenF_n e]; exact h
    | some b =>
      by_cases e2 : 97 ≤ b ∧ b ≤ 122
      · rw [wenF_t e e2]; exact wenF_le (hereF_lt e).1
      · rw [wenF_f e e2]; exact h
theorem skpF_le {tx : Nat → Nat} {len : Nat} : ∀ {n p : Nat}, p ≤ len → skpF tx len n p ≤ len
  | 0, _, h => h
  | n + 1, p, h => by
    by_cases e : hereF tx len p = some 32
    · rw [skpF_t e]; exact skpF_le (hereF_lt e).1
    · rw [skpF_f e]; exact h
theorem stpF_le {tx : Nat → Nat} {len w p : Nat} (h : p ≤ len) : stpF tx len w p ≤ len := by
  unfold stpF
  by_cases e : hereF tx len p = some w
  · rw [if_pos e]; exact (hereF_lt e).1
  · rw [if_neg e]; exact h
theorem raF_le {tx : Nat → Nat} {len p : Nat} {av : Option Nat} (h : p ≤ len) : (raF tx len p av).2.1 ≤ len := by
  unfold raF
  by_cases e : hereF tx len p = some 62
  · rw [if_pos e]
    cases e2 : digT tx len (p + 1) with
    | none => exact (hereF_lt e).1
    | some a => exact (digT_lt e2).2
  · rw [if_neg e]; exact h
theorem raF_av {tx : Nat → Nat} {len p : Nat} {av : Option Nat} : (raF tx len p av).1 = (raF tx len p none).1 ∧ (raF tx len p av).2.1 = (raF tx len p none).2.1 ∧ ((raF tx len p none).1 = true → (raF tx len p av).2.2 = (raF tx len p none).2.2) := by
  unfold raF
  by_cases e : hereF tx len p = some 62
  · rw [if_pos e, if_pos e]; exact ⟨rfl, rfl, fun _ => rfl⟩
  · rw [if_neg e, if_neg e]; exact ⟨rfl, rfl, fun h => by cases h⟩
theorem rrF_le {tx : Nat → Nat} {len p r : Nat} (h : p ≤ len) : (rrF tx len p r).2.1 ≤ len := by
  unfold rrF
  cases e : digT tx len p with
  | none => exact h
  | some a =>
    dsimp only
    cases e2 : digT tx len (p + 1) with
    | none => exact (digT_lt e).2
    | some b => exact (digT_lt e2).2
theorem rrF_rw {tx : Nat → Nat} {len p r : Nat} : (rrF tx len p r).1 = (rrF tx len p 0).1 ∧ (rrF tx len p r).2.1 = (rrF tx len p 0).2.1 ∧ ((rrF tx len p 0).1 = true → (rrF tx len p r).2.2 = (rrF tx len p 0).2.2) := by
  unfold rrF
  cases e : digT tx len p with
  | none => exact ⟨rfl, rfl, fun h => by cases h⟩
  | some a => exact ⟨rfl, rfl, fun _ => rfl⟩
theorem kndF_lt {tx : Nat → Nat} {st p b : Nat} (h : kndF tx st p = some b) : b < 4 := by
  unfold kndF at h
  by_cases e0 : wisB tx st p 0 = true
  · rw [if_pos e0] at h; cases h; decide
  · rw [if_neg e0] at h
    by_cases e1 : wisB tx st p 1 = true
    · rw [if_pos e1] at h; cases h; decide
    · rw [if_neg e1] at h
      by_cases e2 : wisB tx st p 2 = true
      · rw [if_pos e2] at h; cases h; decide
      · rw [if_neg e2] at h
        by_cases e3 : wisB tx st p 3 = true
        · rw [if_pos e3] at h; cases h; decide
        · rw [if_neg e3] at h; cases h
/-- after the word: an if, a row's command, merge -/
def rc0 (tx : Nat → Nat) (len : Nat) (ac : Nat → Nat) (cc w : Nat) : Bool × Nat := if hereF tx len w = some 32 then
  (if (rasL tx len ac cc 0 0 (w + 1)).1 = true then
    (if (raF tx len (rasL tx len ac cc 0 0 (w + 1)).2.2 none).1 = true then
      (decide (hereF tx len (raF tx len (rasL tx len ac cc 0 0 (w + 1)).2.2 none).2.1 = some 59), stpF tx len 59 (raF tx len (rasL tx len ac cc 0 0 (w + 1)).2.2 none).2.1)
     else (false, (raF tx len (rasL tx len ac cc 0 0 (w + 1)).2.2 none).2.1))
   else (false, (rasL tx len ac cc 0 0 (w + 1)).2.2)) else (false, w)
def rc1 (tx : Nat → Nat) (len w : Nat) : Bool × Nat := if hereF tx len w = some 32 then
  (if (rrF tx len (w + 1) 0).1 = true then (decide (hereF tx len (rrF tx len (w + 1) 0).2.1 = some 59), stpF tx len 59 (rrF tx len (w + 1) 0).2.1) else (false, (rrF tx len (w + 1) 0).2.1)) else (false, w)
def rc3 (tx : Nat → Nat) (len w : Nat) : Bool × Nat := (decide (hereF tx len w = some 59), stpF tx len 59 w)
/-- one command from p on: is it whole, and where the reading ends -/
def rcK (tx : Nat → Nat) (len : Nat) (ac : Nat → Nat) (cc p w : Nat) : Option Nat → Bool × Nat
  | none => (false, p)
  | some k => if k = 0 then rc0 tx len ac cc w else if k = 3 then rc3 tx len w else rc1 tx len w
def rcP (tx : Nat → Nat) (len : Nat) (ac : Nat → Nat) (cc p : Nat) : Bool × Nat := rcK tx len ac cc p (wenF tx len 150 p) (kndF tx p (wenF tx len 150 p))
/-- what a whole command says -/
def rcC (tx : Nat → Nat) (len : Nat) (ac : Nat → Nat) (cc p : Nat) (kd : Option Nat) (rw0 ss : Nat) (av : Option Nat) : Prop :=
  kd = kndF tx p (wenF tx len 150 p) ∧ (kd = some 0 → ss = (rasL tx len ac cc 0 0 (wenF tx len 150 p + 1)).2.1 ∧ av = (raF tx len (rasL tx len ac cc 0 0 (wenF tx len 150 p + 1)).2.2 none).2.2) ∧ (kd = some 1 ∨ kd = some 2 → rw0 = (rrF tx len (wenF tx len 150 p + 1) 0).2.2)
theorem rc0_le {tx : Nat → Nat} {len : Nat} {ac : Nat → Nat} {cc w : Nat} (h : w ≤ len) : (rc0 tx len ac cc w).2 ≤ len := by
  unfold rc0
  by_cases e : hereF tx len w = some 32
  · rw [if_pos e]
    have h1 : (rasL tx len ac cc 0 0 (w + 1)).2.2 ≤ len := rasL_le (hereF_lt e).1
    by_cases e1 : (rasL tx len ac cc 0 0 (w + 1)).1 = true
    · rw [if_pos e1]
      by_cases e2 : (raF tx len (rasL tx len ac cc 0 0 (w + 1)).2.2 none).1 = true
      · rw [if_pos e2]; exact stpF_le (raF_le h1)
      · rw [if_neg e2]; exact raF_le h1
    · rw [if_neg e1]; exact h1
  · rw [if_neg e]; exact h
theorem rc1_le {tx : Nat → Nat} {len : Nat} {w : Nat} (h : w ≤ len) : (rc1 tx len w).2 ≤ len := by
  unfold rc1
  by_cases e : hereF tx len w = some 32
  · rw [if_pos e]
    have h1 : (rrF tx len (w + 1) 0).2.1 ≤ len := rrF_le (hereF_lt e).1
    by_cases e1 : (rrF tx len (w + 1) 0).1 = true
    · rw [if_pos e1]; exact stpF_le h1
    · rw [if_neg e1]; exact h1
  · rw [if_neg e]; exact h
theorem rcP_le {tx : Nat → Nat} {len : Nat} {ac : Nat → Nat} {cc p : Nat} (h : p ≤ len) : (rcP tx len ac cc p).2 ≤ len := by
  unfold rcP
  cases kndF tx p (wenF tx len 150 p) with
  | none => exact h
  | some k =>
    show (if k = 0 then rc0 tx len ac cc _ else if k = 3 then rc3 tx len _ else rc1 tx len _).2 ≤ len
    by_cases e : k = 0
    · rw [if_pos e]; exact rc0_le (wenF_le h)
    · rw [if_neg e]
      by_cases e1 : k = 3
      · rw [if_pos e1]; exact stpF_le (wenF_le h)
      · rw [if_neg e1]; exact rc1_le (wenF_le h)
/-- the first fault among n more commands -/
def ffF (tx : Nat → Nat) (len : Nat) (ac : Nat → Nat) (cc : Nat) : Nat → Nat → Option Nat
  | 0, _ => none
  | n + 1, p => if len ≤ p then none else if (rcP tx len ac cc p).1 = true then ffF tx len ac cc n (skpF tx len 150 (rcP tx len ac cc p).2) else some (rcP tx len ac cc p).2


theorem ffF_e {tx : Nat → Nat} {len : Nat} {ac : Nat → Nat} {cc p : Nat} (h : len ≤ p) : ∀ n, ffF tx len ac cc n p = none
  | 0 => rfl
  | n + 1 => if_pos h
theorem ffF_b {tx : Nat → Nat} {len : Nat} {ac : Nat → Nat} {cc p n : Nat} (h : ¬ len ≤ p) (h2 : (rcP tx len ac cc p).1 = false) : ffF tx len ac cc (n + 1) p = some (rcP tx len ac cc p).2 := by
  show (if len ≤ p then none else if (rcP tx len ac cc p).1 = true then ffF tx len ac cc n (skpF tx len 150 (rcP tx len ac cc p).2) else some (rcP tx len ac cc p).2) = _
  rw [if_neg h, if_neg (bF h2)]
theorem ffF_g {tx : Nat → Nat} {len : Nat} {ac : Nat → Nat} {cc p n : Nat} (h : ¬ len ≤ p) (h2 : (rcP tx len ac cc p).1 = true) : ffF tx len ac cc (n + 1) p = ffF tx len ac cc n (skpF tx len 150 (rcP tx len ac cc p).2) := by
  show (if len ≤ p then none else if (rcP tx len ac cc p).1 = true then ffF tx len ac cc n (skpF tx len 150 (rcP tx len ac cc p).2) else some (rcP tx len ac cc p).2) = _
  rw [if_neg h, if_pos h2]
