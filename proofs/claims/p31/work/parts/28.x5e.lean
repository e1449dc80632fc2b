
/-! ===== commands carried out ===== -/
def doF (cc ad rc : Nat) (nm st an : Nat → Nat) (k rw ss a : Nat) : Bool × Nat × Nat × (Nat → Nat) × (Nat → Nat) × (Nat → Nat) :=
  if k = 3 then (true, ad, (mgAll cc 20 rc nm st an).2)
  else if k = 0 then (if 20 ≤ rc then (false, ad, rc, nm, st, an) else (true, ad + 1, rc + 1, va_up nm rc ad, va_up st rc ss, va_up an rc a))
  else match placeF nm (nI rw) rc with
    | none => (false, ad, rc, nm, st, an)
    | some p => if k = 1 then (true, ad, rc - 1, shifF nm p rc, shifF st p rc, shifF an p rc) else if p = 0 then (false, ad, rc, nm, st, an) else (true, ad, rc, liftF nm p, liftF st p, liftF an p)

