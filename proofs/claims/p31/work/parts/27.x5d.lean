
/-! ===== digest ===== -/
def itF (f : Nat → Int64) : Nat → Int64 → Int64
  | 0, h => h
  | n + 1, h => 31 * itF f n h + f n
def nstF (g : Nat → Int64 → Int64) : Nat → Int64 → Int64
  | 0, h => h
  | n + 1, h => g n (nstF g n h)
noncomputable def dg1F (cc : Nat) (ac co : Nat → Nat) (ad rc : Nat) (st an : Nat → Nat) (len cnt : Nat) : Int64 := itF (fun w => (oI (wvF cc ac co ad rc st an len w)).toInt64) 12 (1359970 + (nI cnt).toInt64)
def dg2F (cc : Nat) (ac co : Nat → Nat) (rc : Nat) (st an : Nat → Nat) (h : Int64) : Int64 := nstF (fun k h => itF (fun w => (nI (cvF cc ac co rc st an k w)).toInt64) 3 h) cc h
def dg3F (cc : Nat) (ac : Nat → Nat) (rc : Nat) (nm st an : Nat → Nat) (h : Int64) : Int64 := nstF (fun p h => itF (fun w => (nI (rvF cc ac rc st an p w)).toInt64) 6 (31 * h + (nI (nm p)).toInt64)) rc h
def dg4F (cc : Nat) (ac : Nat → Nat) (rc : Nat) (nm st an : Nat → Nat) (h : Int64) : Int64 := nstF (fun c h => itF (fun j => (oI (kvF cc ac rc nm st an c (j + 1))).toInt64) 3 h) (prodF ac cc) h
noncomputable def digF5 (cc : Nat) (ac co : Nat → Nat) (ad rc : Nat) (nm st an : Nat → Nat) (len cnt : Nat) : Int64 := dg4F cc ac rc nm st an (dg3F cc ac rc nm st an (dg2F cc ac co rc st an (dg1F cc ac co ad rc st an len cnt)))

