
/-! ===== prune ===== -/
abbrev RSt : Type := Nat × Nat × (Nat → Nat) × (Nat → Nat) × (Nat → Nat)
def prn1 (f : Nat → Nat) (p : Nat) (x : RSt) : RSt := if f p = 0 then (x.1 + 1, x.2.1 - 1, shifF x.2.2.1 p x.2.1, shifF x.2.2.2.1 p x.2.1, shifF x.2.2.2.2 p x.2.1) else x
/-- the rows below n that own nothing, taken out from the end on -/
def prnF (f : Nat → Nat) : Nat → RSt → RSt
  | 0, x => x
  | n + 1, x => prnF f n (prn1 f n x)
def prF (cc : Nat) (ac : Nat → Nat) (rc : Nat) (nm st an : Nat → Nat) : RSt := prnF (ownF cc ac rc st) rc (0, rc, nm, st, an)

