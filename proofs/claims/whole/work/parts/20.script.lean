
/-- the cells of Script -/
def wS (kA : Nat → ClassId) (qs tq3 : Nat → Nat) (tx : Nat → Nat) (len pos : Nat) (kd : Option Nat) (rw0 ss : Nat) (av : Option Nat) : va_W :=
  [(qs 0, .inr (3, [.ref (tq3 0), .ref (qs 1), .int (nI len), .int (nI pos), .int (oI kd), .int (nI rw0), .int (nI ss), .int (oI av)])), (qs 1, .inl (kA 1, 150, .inl (aN tx)))]
theorem onone_lt {n : Nat} (h : n < 2147483648) : oI none < nI n := by
  rw [Int32.lt_iff_toInt_lt, nI_toInt h]
  have : (oI none).toInt = -1 := by decide
  omega
theorem onone_le {n : Nat} (h : n < 2147483648) : oI none ≤ nI n := by
  rw [Int32.le_iff_toInt_le, nI_toInt h]
  have : (oI none).toInt = -1 := by decide
  omega
theorem onone_ngt {n : Nat} (h : n < 2147483648) : ¬ nI n < oI none := i_not_lt.mpr (onone_le h)
theorem onone_nge {n : Nat} (h : n < 2147483648) : ¬ nI n ≤ oI none := i_not_le.mpr (onone_lt h)
theorem onone_ne {n : Nat} (h : n < 2147483648) : ¬ oI none = nI n := fun e => by
  have := onone_lt h
  rw [e] at this
  exact absurd this (i_not_lt.mpr (by rw [Int32.le_iff_toInt_le]; omega))
def hereF (tx : Nat → Nat) (len p : Nat) : Option Nat := if p < len then some (tx p) else none
theorem hereF_lt {tx : Nat → Nat} {len p b : Nat} (h : hereF tx len p = some b) : p < len ∧ b = tx p := by
  unfold hereF at h
  by_cases e : p < len
  · rw [if_pos e] at h; cases h; exact ⟨e, rfl⟩
  · rw [if_neg e] at h; cases h
theorem hereF_bd {tx : Nat → Nat} {len p : Nat} (htx : ∀ j, j < len → tx j < 128) : ∀ q, hereF tx len p = some q → q < 2147483648 := fun q h => by
  obtain ⟨h1, h2⟩ := hereF_lt h
  have := htx p h1
  omega
def skpF (tx : Nat → Nat) (len : Nat) : Nat → Nat → Nat
  | 0, p => p
  | n + 1, p => if hereF tx len p = some 32 then skpF tx len n (p + 1) else p
theorem skpF_t {tx : Nat → Nat} {len n p : Nat} (h : hereF tx len p = some 32) : skpF tx len (n + 1) p = skpF tx len n (p + 1) := if_pos h
theorem skpF_f {tx : Nat → Nat} {len p : Nat} (h : ¬ hereF tx len p = some 32) : ∀ n, skpF tx len n p = p
  | 0 => rfl
  | n + 1 => if_neg h
def digT (tx : Nat → Nat) (len p : Nat) : Option Nat := match hereF tx len p with
  | none => none
  | some b => if 48 ≤ b ∧ b ≤ 57 then some (b - 48) else none
theorem digT_lt {tx : Nat → Nat} {len p d : Nat} (h : digT tx len p = some d) : d < 10 ∧ p < len := by
  unfold digT at h
  cases e : hereF tx len p with
  | none => rw [e] at h; cases h
  | some b =>
    rw [e] at h
    by_cases e2 : 48 ≤ b ∧ b ≤ 57
    · have h : (if 48 ≤ b ∧ b ≤ 57 then some (b - 48) else none) = some d := h
      rw [if_pos e2] at h; cases h; exact ⟨by omega, (hereF_lt e).1⟩
    · have h : (if 48 ≤ b ∧ b ≤ 57 then some (b - 48) else none) = some d := h
      rw [if_neg e2] at h; cases h
def stpF (tx : Nat → Nat) (len w p : Nat) : Nat := if hereF tx len p = some w then p + 1 else p
def rrF (tx : Nat → Nat) (len p rw0 : Nat) : Bool × Nat × Nat := match digT tx len p with
  | none => (false, p, rw0)
  | some a => match digT tx len (p + 1) with
    | none => (true, p + 1, a)
    | some b => (true, p + 2, 10 * a + b)
def raF (tx : Nat → Nat) (len p : Nat) (av : Option Nat) : Bool × Nat × Option Nat := if hereF tx len p = some 62 then (match digT tx len (p + 1) with
  | none => (false, p + 1, none)
  | some a => (true, p + 2, some a)) else (false, p, av)
/-- digits of a set: at most n more, from least on -/
def dgL (tx : Nat → Nat) (len a : Nat) : Nat → Nat → Nat → Nat → Nat × Nat
  | 0, _, set, p => (set, p)
  | n + 1, least, set, p => match digT tx len p with
    | none => (set, p)
    | some d => if least ≤ d ∧ d < a then dgL tx len a n (d + 1) (set ||| (1 <<< d)) (p + 1) else (set, p)
theorem dgL_n {tx : Nat → Nat} {len a least set p : Nat} (h : digT tx len p = none) : ∀ n, dgL tx len a n least set p = (set, p)
  | 0 => rfl
  | n + 1 => by
    show (match digT tx len p with | none => (set, p) | some d => _) = _
    rw [h]
theorem dgL_f {tx : Nat → Nat} {len a least set p d : Nat} (h : digT tx len p = some d) (h2 : ¬ (least ≤ d ∧ d < a)) : ∀ n, dgL tx len a n least set p = (set, p)
  | 0 => rfl
  | n + 1 => by
    show (match digT tx len p with | none => (set, p) | some d => if least ≤ d ∧ d < a then dgL tx len a n (d + 1) (set ||| (1 <<< d)) (p + 1) else (set, p)) = _
    rw [h]; exact if_neg h2
theorem dgL_t {tx : Nat → Nat} {len a least set p d n : Nat} (h : digT tx len p = some d) (h2 : least ≤ d ∧ d < a) : dgL tx len a (n + 1) least set p = dgL tx len a n (d + 1) (set ||| (1 <<< d)) (p + 1) := by
  show (match digT tx len p with | none => (set, p) | some d => if least ≤ d ∧ d < a then dgL tx len a n (d + 1) (set ||| (1 <<< d)) (p + 1) else (set, p)) = _
  rw [h]; exact if_pos h2
def rsF (tx : Nat → Nat) (len a p : Nat) : Nat × Nat := if hereF tx len p = some 45 then (fulN a, p + 1) else dgL tx len a 4 0 0 p
/-- the sets of n conditions from k on -/
def rasL (tx : Nat → Nat) (len : Nat) (ac : Nat → Nat) : Nat → Nat → Nat → Nat → Bool × Nat × Nat
  | 0, _, sets, p => (true, sets, p)
  | n + 1, k, sets, p => if k = 0 ∨ hereF tx len p = some 44 then
      (if (rsF tx len (ac k) (if k = 0 then p else p + 1)).1 = 0 then (false, sets, (rsF tx len (ac k) (if k = 0 then p else p + 1)).2)
       else rasL tx len ac n (k + 1) (sets ||| ((rsF tx len (ac k) (if k = 0 then p else p + 1)).1 <<< (4 * k))) (rsF tx len (ac k) (if k = 0 then p else p + 1)).2)
    else (false, sets, p)
/-- the end of a run of letters -/
def wenF (tx : Nat → Nat) (len : Nat) : Nat → Nat → Nat
  | 0, p => p
  | n + 1, p => match hereF tx len p with
    | none => p
    | some b => if 97 ≤ b ∧ b ≤ 122 then wenF tx len n (p + 1) else p
theorem wenF_n {tx : Nat → Nat} {len p : Nat} (h : hereF tx len p = none) : ∀ n, wenF tx len n p = p
  | 0 => rfl
  | n + 1 => by
    show (match hereF tx len p with | none => p | some b => _) = _
    rw [h]
theorem wenF_f {tx : Nat → Nat} {len p b : Nat} (h : hereF tx len p = some b) (h2 : ¬ (97 ≤ b ∧ b ≤ 122)) : ∀ n, wenF tx len n p = p
  | 0 => rfl
  | n + 1 => by
    show (match hereF tx len p with | none => p | some b => if 97 ≤ b ∧ b ≤ 122 then wenF tx len n (p + 1) else p) = _
    rw [h]; exact if_neg h2
theorem wenF_t {tx : Nat → Nat} {len p b n : Nat} (h : hereF tx len p = some b) (h2 : 97 ≤ b ∧ b ≤ 122) : wenF tx len (n + 1) p = wenF tx len n (p + 1) := by
  show (match hereF tx len p with | none => p | some b => if 97 ≤ b ∧ b ≤ 122 then wenF tx len n (p + 1) else p) = _
  rw [h]; exact if_pos h2
/-- what stands from st up to p is the word i -/
def wisB (tx : Nat → Nat) (st p i : Nat) : Bool := decide (p - st = lenW.getD i 0) && allB (fun j => decide (tx (st + j) = chN i j)) (lenW.getD i 0)
def kndF (tx : Nat → Nat) (st p : Nat) : Option Nat := if wisB tx st p 0 = true then some 0 else if wisB tx st p 1 = true then some 1 else if wisB tx st p 2 = true then some 2 else if wisB tx st p 3 = true then some 3 else none

set_option maxHeartbeats 4000000 in
set_option maxRecDepth 100000 in
theorem c_X3_here (lQ : Launch) (D : va_G) (kA : Nat → ClassId) (qs : Nat → Nat) (tx : Nat → Nat) (len : Nat) (pos : Nat) (kd : Option Nat) (rw0 : Nat) (ss : Nat) (av : Option Nat) (q : Nat → Nat) (cc : Nat) (ac : Nat → Nat) (co : Nat → Nat) (ad : Nat) (rc : Nat) (nm : Nat → Nat) (st : Nat → Nat) (an : Nat → Nat) (hlen : len ≤ 150) (hpos : pos ≤ 150) : Met lQ yX3_here wsX3_here (rmN 0 0) (rd_Pc D vwCl [.ref (qs 0)] ((wS kA qs q tx len pos kd rw0 ss av) ++ (wT kA q cc ac co ad rc nm st an)) (tyK kA)) (vp_Si (fun r : Int32 => r = (oI (hereF tx len pos)))) 0 0 (fun _ => False) := by
  refine Met.ofW (cc := cX3_here) (maxL := 1) (ret := (some .int)) (by decide) rfl ?_
  intro pQ eQ s mQ args below meth cQ s₁ B hml hv
  obtain ⟨rfl, hP, hK⟩ := hv
  have hx := B.exec
  have hb := B.bytes
  have hr := B.returns
  have hts := atoms_spec (ws := wsX3_here) B.pre
  have hown : s.vm.findClass RX3 = some mQ.cls := findClass_of_methodNamed B.named
  have hlocks : meth.locks = false := B.notSynchronized
  have hS0 : CallFix pQ mQ cQ cX3_here 1 s ([.ref (qs 0)] : List Value).toArray wsX3_here RX3 := ⟨hx, hb, hml, hown, hts⟩
  have f33 : (Cond.fieldLink RX3 33 "AskedRules$Script" "position" "I").before ([.ref (qs 0)] : List Value).toArray s = true := hts _ (by decide +kernel)
  have hinX3 : ∀ w ∈ wsX30, w ∈ wsX3_here := by decide +kernel
  have f19 : (Cond.fieldLink RX3 19 "AskedRules$Script" "length" "I").before ([.ref (qs 0)] : List Value).toArray s = true := hts _ (by decide +kernel)
  have f9 : (Cond.fieldLink RX3 9 "AskedRules$Script" "text" "[B").before ([.ref (qs 0)] : List Value).toArray s = true := hts _ (by decide +kernel)
  have hl := lv_entry ([.ref (qs 0)]) (n := 1) (Nat.le_of_ble_eq_true rfl)
  rw [lg_entry_eq]
  generalize (lg_sl ([.ref (qs 0)]) ++ List.replicate (1 - (lg_sl ([.ref (qs 0)])).length) Slot.unset).toArray = ls at hl ⊢
  have hl : lv_has ls 1 [(0, .ref (qs 0))] := hl
  have hP : va_P D vwCl ((wS kA qs q tx len pos kd rw0 ss av) ++ (wT kA q cc ac co ad rc nm st an)) s.heap := hP
  refine lv_aload_n hx hb dX3_here_0 rfl (lv_at hl 0 rfl) ?_
  refine n_get (ci := 3) (v := .int (nI pos)) (C := RX3) (T := TX3) (N := 8) hx hb hts hinX3 hown hK hP 0 rfl rfl 3 rfl ⟨rfl, rfl, rfl⟩ f33 rfl dX3_here_1 ?_
  refine n_ifn_lt (a := pos) (tgt := 30) hx hb (by omega) dX3_here_4 (by decide) ?_
  refine lv_aload_n hx hb dX3_here_7 rfl (lv_at hl 0 rfl) ?_
  refine n_get (ci := 3) (v := .int (nI pos)) (C := RX3) (T := TX3) (N := 8) hx hb hts hinX3 hown hK hP 0 rfl rfl 3 rfl ⟨rfl, rfl, rfl⟩ f33 rfl dX3_here_8 ?_
  refine lv_aload_n hx hb dX3_here_11 rfl (lv_at hl 0 rfl) ?_
  refine n_get (ci := 3) (v := .int (nI len)) (C := RX3) (T := TX3) (N := 8) hx hb hts hinX3 hown hK hP 0 rfl rfl 2 rfl ⟨rfl, rfl, rfl⟩ f19 rfl dX3_here_12 ?_
  refine n_icmp_ge (a := pos) (b := len) (tgt := 30) hx hb (by omega) (by omega) dX3_here_15 (by decide) (fun c15 => ?_) (fun c15 => ?_)
  · refine lv_iconst (v := (oI none)) hx hb dX3_here_30 (by decide) ?_
    exact n_reti hx hb hr hlocks (post := fun r : Int32 => r = (oI (hereF tx len pos))) (by unfold hereF; first | (rw [if_neg (by omega)]) | (rw [if_pos (by omega)]; rfl)) rfl dX3_here_31
  · refine lv_aload_n hx hb dX3_here_18 rfl (lv_at hl 0 rfl) ?_
    refine n_get (ci := 3) (v := .ref (qs 1)) (C := RX3) (T := TX3) (N := 8) hx hb hts hinX3 hown hK hP 0 rfl rfl 1 rfl ⟨rfl, rfl, rfl⟩ f9 rfl dX3_here_19 ?_
    refine lv_aload_n hx hb dX3_here_22 rfl (lv_at hl 0 rfl) ?_
    refine n_get (ci := 3) (v := .int (nI pos)) (C := RX3) (T := TX3) (N := 8) hx hb hts hinX3 hown hK hP 0 rfl rfl 3 rfl ⟨rfl, rfl, rfl⟩ f33 rfl dX3_here_23 ?_
    refine n_bald (i := pos) (v := (nI (tx pos))) hx hb hK hP 1 1 rfl rfl (by omega) (Nat.le_of_ble_eq_true rfl) rfl dX3_here_26 ?_
    refine lv_goto (tgt := 31) hx hb dX3_here_27 (by decide) ?_
    exact n_reti hx hb hr hlocks (post := fun r : Int32 => r = (oI (hereF tx len pos))) (by unfold hereF; first | (rw [if_neg (by omega)]) | (rw [if_pos (by omega)]; rfl)) rfl dX3_here_31

set_option maxHeartbeats 4000000 in
set_option maxRecDepth 100000 in
theorem c_X3_atEnd (lQ : Launch) (D : va_G) (kA : Nat → ClassId) (qs : Nat → Nat) (tx : Nat → Nat) (len : Nat) (pos : Nat) (kd : Option Nat) (rw0 : Nat) (ss : Nat) (av : Option Nat) (q : Nat → Nat) (cc : Nat) (ac : Nat → Nat) (co : Nat → Nat) (ad : Nat) (rc : Nat) (nm : Nat → Nat) (st : Nat → Nat) (an : Nat → Nat) (hlen : len ≤ 150) (hpos : pos ≤ 150) : Met lQ yX3_atEnd wsX3_atEnd (rmN 0 0) (rd_Pc D vwCl [.ref (qs 0)] ((wS kA qs q tx len pos kd rw0 ss av) ++ (wT kA q cc ac co ad rc nm st an)) (tyK kA)) (vp_Si (fun r : Int32 => r = (bI (decide (len ≤ pos))))) 0 0 (fun _ => False) := by
  refine Met.ofW (cc := cX3_atEnd) (maxL := 1) (ret := (some .boolean)) (by decide) rfl ?_
  intro pQ eQ s mQ args below meth cQ s₁ B hml hv
  obtain ⟨rfl, hP, hK⟩ := hv
  have hx := B.exec
  have hb := B.bytes
  have hr := B.returns
  have hts := atoms_spec (ws := wsX3_atEnd) B.pre
  have hown : s.vm.findClass RX3 = some mQ.cls := findClass_of_methodNamed B.named
  have hlocks : meth.locks = false := B.notSynchronized
  have hS0 : CallFix pQ mQ cQ cX3_atEnd 1 s ([.ref (qs 0)] : List Value).toArray wsX3_atEnd RX3 := ⟨hx, hb, hml, hown, hts⟩
  have f33 : (Cond.fieldLink RX3 33 "AskedRules$Script" "position" "I").before ([.ref (qs 0)] : List Value).toArray s = true := hts _ (by decide +kernel)
  have hinX3 : ∀ w ∈ wsX30, w ∈ wsX3_atEnd := by decide +kernel
  have f19 : (Cond.fieldLink RX3 19 "AskedRules$Script" "length" "I").before ([.ref (qs 0)] : List Value).toArray s = true := hts _ (by decide +kernel)
  have hl := lv_entry ([.ref (qs 0)]) (n := 1) (Nat.le_of_ble_eq_true rfl)
  rw [lg_entry_eq]
  generalize (lg_sl ([.ref (qs 0)]) ++ List.replicate (1 - (lg_sl ([.ref (qs 0)])).length) Slot.unset).toArray = ls at hl ⊢
  have hl : lv_has ls 1 [(0, .ref (qs 0))] := hl
  have hP : va_P D vwCl ((wS kA qs q tx len pos kd rw0 ss av) ++ (wT kA q cc ac co ad rc nm st an)) s.heap := hP
  refine lv_aload_n hx hb dX3_atEnd_0 rfl (lv_at hl 0 rfl) ?_
  refine n_get (ci := 3) (v := .int (nI pos)) (C := RX3) (T := TX3) (N := 8) hx hb hts hinX3 hown hK hP 0 rfl rfl 3 rfl ⟨rfl, rfl, rfl⟩ f33 rfl dX3_atEnd_1 ?_
  refine lv_aload_n hx hb dX3_atEnd_4 rfl (lv_at hl 0 rfl) ?_
  refine n_get (ci := 3) (v := .int (nI len)) (C := RX3) (T := TX3) (N := 8) hx hb hts hinX3 hown hK hP 0 rfl rfl 2 rfl ⟨rfl, rfl, rfl⟩ f19 rfl dX3_atEnd_5 ?_
  refine n_icmp_lt (a := pos) (b := len) (tgt := 15) hx hb (by omega) (by omega) dX3_atEnd_8 (by decide) (fun c8 => ?_) (fun c8 => ?_)
  · refine lv_iconst (v := (nI 0)) hx hb dX3_atEnd_15 (by decide) ?_
    exact n_retz hx hb hr hlocks (post := fun r : Int32 => r = (bI (decide (len ≤ pos)))) rfl (by first | (rw [decide_eq_true (by omega)]; rfl) | (rw [decide_eq_false (by omega)]; rfl)) rfl dX3_atEnd_16
  · refine lv_iconst (v := (nI 1)) hx hb dX3_atEnd_11 (by decide) ?_
    refine lv_goto (tgt := 16) hx hb dX3_atEnd_12 (by decide) ?_
    exact n_retz hx hb hr hlocks (post := fun r : Int32 => r = (bI (decide (len ≤ pos)))) rfl (by first | (rw [decide_eq_true (by omega)]; rfl) | (rw [decide_eq_false (by omega)]; rfl)) rfl dX3_atEnd_16

set_option maxHeartbeats 4000000 in
set_option maxRecDepth 100000 in
theorem c_X3_skipSpaces (lQ : Launch) (D : va_G) (kA : Nat → ClassId) (qs : Nat → Nat) (tx : Nat → Nat) (len : Nat) (pos : Nat) (kd : Option Nat) (rw0 : Nat) (ss : Nat) (av : Option Nat) (q : Nat → Nat) (cc : Nat) (ac : Nat → Nat) (co : Nat → Nat) (ad : Nat) (rc : Nat) (nm : Nat → Nat) (st : Nat → Nat) (an : Nat → Nat) (sz : Nat) (hlen : len ≤ 150) (hpos : pos ≤ 150) (htx : ∀ j, j < len → tx j < 128) : Met lQ yX3_skipSpaces wsX3_skipSpaces (rmN 1 20) (wr_Pc D vwCl [.ref (qs 0)] ((wS kA qs q tx len pos kd rw0 ss av) ++ (wT kA q cc ac co ad rc nm st an)) (tyK kA) sz) (va_Qv (S := Unit) (fun (u : Unit) => True) (wr_B D vwCl ((wS kA qs q tx len pos kd rw0 ss av) ++ (wT kA q cc ac co ad rc nm st an)) (tyK kA) sz (fun u => ((wS kA qs q tx len (skpF tx len 150 pos) kd rw0 ss av) ++ (wT kA q cc ac co ad rc nm st an)))) (va_A ((wS kA qs q tx len pos kd rw0 ss av) ++ (wT kA q cc ac co ad rc nm st an)) sz)) 0 0 (va_A ((wS kA qs q tx len pos kd rw0 ss av) ++ (wT kA q cc ac co ad rc nm st an)) sz) := by
  refine Met.ofW (cc := cX3_skipSpaces) (maxL := 2) (ret := none) (by decide) rfl ?_
  intro pQ eQ s mQ args below meth cQ s₁ B hml hv
  obtain ⟨rfl, hsz, hP, hK, hD0⟩ := hv
  have hx := B.exec
  have hb := B.bytes
  have hr := B.returns
  have hts := atoms_spec (ws := wsX3_skipSpaces) B.pre
  have hown : s.vm.findClass RX3 = some mQ.cls := findClass_of_methodNamed B.named
  have hlocks : meth.locks = false := B.notSynchronized
  have hS0 : CallFix pQ mQ cQ cX3_skipSpaces 2 s ([.ref (qs 0)] : List Value).toArray wsX3_skipSpaces RX3 := ⟨hx, hb, hml, hown, hts⟩
  subst hsz
  have hD := hD0.self (sz := s.heap.size)
  generalize hAe : va_A ((wS kA qs q tx len pos kd rw0 ss av) ++ (wT kA q cc ac co ad rc nm st an)) s.heap.size = A at hD ⊢
  have hA : ∀ q : Nat, s.heap.size ≤ q → A q := fun q h => by rw [← hAe]; exact Or.inr h
  have hS : va_S A s.heap s.heap [] := va_S.rf
  have f33 : (Cond.fieldLink RX3 33 "AskedRules$Script" "position" "I").before ([.ref (qs 0)] : List Value).toArray s = true := hts _ (by decide +kernel)
  have hinX3 : ∀ w ∈ wsX30, w ∈ wsX3_skipSpaces := by decide +kernel
  have hl := lv_entry ([.ref (qs 0)]) (n := 2) (Nat.le_of_ble_eq_true rfl)
  rw [lg_entry_eq]
  generalize (lg_sl ([.ref (qs 0)]) ++ List.replicate (2 - (lg_sl ([.ref (qs 0)])).length) Slot.unset).toArray = ls at hl ⊢
  have hl : lv_has ls 2 [(0, .ref (qs 0))] := hl
  have hP : va_P D vwCl ((wS kA qs q tx len pos kd rw0 ss av) ++ (wT kA q cc ac co ad rc nm st an)) s.heap := hP
  have hD : va_D A ((wS kA qs q tx len pos kd rw0 ss av) ++ (wT kA q cc ac co ad rc nm st an)) := hD
  refine lv_iconst (v := (nI 0)) hx hb dX3_skipSpaces_0 (by decide) ?_
  refine lv_istore_n (lv' := [(1, .int (nI 0)), (0, .ref (qs 0))]) hx hb dX3_skipSpaces_1 rfl hl (by decide) rfl (fun ls hl => ?_)
  have L2 : ∀ (nQ : Nat) (i : Nat) (p : Nat), 150 - i < nQ → (i ≤ 150) → (p ≤ 150) → (skpF tx len 150 pos = skpF tx len (150 - i) p) → ∀ (H : Heap) (locs : List Loc), va_P D vwCl ((wS kA qs q tx len p kd rw0 ss av) ++ (wT kA q cc ac co ad rc nm st an)) H → va_D A ((wS kA qs q tx len p kd rw0 ss av) ++ (wT kA q cc ac co ad rc nm st an)) → va_S A s.heap H locs → ∀ (ls : Array Slot), lv_has ls 2 [(1, .int (nI i)), (0, .ref (qs 0))] → W pQ lQ eQ (headSpec wsX3_skipSpaces (rmN 1 20)).room s mQ ([.ref (qs 0)] : List Value).toArray below meth cQ H locs 0 0 (MQ below (va_Qv (S := Unit) (fun (u : Unit) => True) (wr_B D vwCl ((wS kA qs q tx len pos kd rw0 ss av) ++ (wT kA q cc ac co ad rc nm st an)) (tyK kA) s.heap.size (fun u => ((wS kA qs q tx len (skpF tx len 150 pos) kd rw0 ss av) ++ (wT kA q cc ac co ad rc nm st an)))) A) ([.ref (qs 0)] : List Value).toArray s 0 0 A) (F0 mQ 2 ls []) := by
    intro nQ
    induction nQ with
    | zero => intro i p hn; exact absurd hn (Nat.not_lt_zero _)
    | succ nQ ih2 =>
      intro i p hm2 hi hp hs H locs hP hD hS ls hl
      refine lv_iload_n hx hb dX3_skipSpaces_2 rfl (lv_at hl 0 rfl) ?_
      refine lv_sipush (v := (nI 150)) hx hb dX3_skipSpaces_3 (by decide) ?_
      refine n_icmp_ge (a := i) (b := 150) (tgt := 34) hx hb (by omega) (by omega) dX3_skipSpaces_6 (by decide) (fun c6 => ?_) (fun c6 => ?_)
      · have e9 : skpF tx len 150 pos = p := by
          rw [hs]
          first
          | (rw [show 150 - i = 0 by omega]; rfl)
          | exact skpF_f (fun h => c15 ((oI_N (hereF_bd htx) (by decide)).mpr h)) _
        rw [← e9] at hP hD
        have hP : va_P D vwCl ((wS kA qs q tx len (skpF tx len 150 pos) kd rw0 ss av) ++ (wT kA q cc ac co ad rc nm st an)) H := hP
        have hD : va_D A ((wS kA qs q tx len (skpF tx len 150 pos) kd rw0 ss av) ++ (wT kA q cc ac co ad rc nm st an)) := hD
        exact n_wretv hx hb hr hlocks (post := fun (u : Unit) => True) (w1 := fun u => ((wS kA qs q tx len (skpF tx len 150 pos) kd rw0 ss av) ++ (wT kA q cc ac co ad rc nm st an))) () trivial hP hD hK hS hAe dX3_skipSpaces_34
      · refine lv_aload_n hx hb dX3_skipSpaces_9 rfl (lv_at hl 1 rfl) ?_
        refine n_cV (b := qs 0) (As := []) (rest := []) (wc := ((wS kA qs q tx len p kd rw0 ss av) ++ (wT kA q cc ac co ad rc nm st an))) hS0 (c_X3_here lQ D kA qs tx len p kd rw0 ss av q cc ac co ad rc nm st an (by first | assumption | omega) (by first | assumption | omega)) (cwV 0 hts gX3_skipSpaces_X3_here rfl rfl rfl (by decide +kernel) ⟨Nat.le_of_ble_eq_true rfl, Nat.le_of_ble_eq_true rfl⟩) hP hK (q0 := 0) rfl rfl rfl rfl rfl hl.1 (Nat.le_of_ble_eq_true rfl) dX3_skipSpaces_10 ⟨Nat.le_refl _, Nat.le_refl _⟩ (fun r10 h10 => ?_)
        subst h10
        refine lv_bipush (v := (nI 32)) hx hb dX3_skipSpaces_13 (by decide) ?_
        refine lv_icmp_ne (tgt := 34) hx hb dX3_skipSpaces_15 (by decide) (fun c15 => ?_) (fun c15 => ?_)
        · have e9 : skpF tx len 150 pos = p := by
            rw [hs]
            first
            | (rw [show 150 - i = 0 by omega]; rfl)
            | exact skpF_f (fun h => c15 ((oI_N (hereF_bd htx) (by decide)).mpr h)) _
          rw [← e9] at hP hD
          have hP : va_P D vwCl ((wS kA qs q tx len (skpF tx len 150 pos) kd rw0 ss av) ++ (wT kA q cc ac co ad rc nm st an)) H := hP
          have hD : va_D A ((wS kA qs q tx len (skpF tx len 150 pos) kd rw0 ss av) ++ (wT kA q cc ac co ad rc nm st an)) := hD
          exact n_wretv hx hb hr hlocks (post := fun (u : Unit) => True) (w1 := fun u => ((wS kA qs q tx len (skpF tx len 150 pos) kd rw0 ss av) ++ (wT kA q cc ac co ad rc nm st an))) () trivial hP hD hK hS hAe dX3_skipSpaces_34
        · refine lv_aload_n hx hb dX3_skipSpaces_18 rfl (lv_at hl 1 rfl) ?_
          refine lv_dup hx hb dX3_skipSpaces_19 rfl ?_
          refine n_get (ci := 3) (v := .int (nI p)) (C := RX3) (T := TX3) (N := 8) hx hb hts hinX3 hown hK hP 0 rfl rfl 3 rfl ⟨rfl, rfl, rfl⟩ f33 rfl dX3_skipSpaces_20 ?_
          refine lv_iconst (v := (nI 1)) hx hb dX3_skipSpaces_23 (by decide) ?_
          refine n_iadd (v := (nI (p + 1))) hx hb (nI_add _ _) dX3_skipSpaces_24 ?_
          refine n_put (ci := 3) (v := .int (nI (p + 1))) (C := RX3) (T := TX3) (N := 8) (ws' := ((wS kA qs q tx len (p + 1) kd rw0 ss av) ++ (wT kA q cc ac co ad rc nm st an))) hx hb hts hinX3 tyX3 tyX3_ok nmX3 hown hK hP hD hS 0 rfl rfl 3 rfl ⟨rfl, rfl, rfl, rfl⟩ f33 rfl rfl rfl rfl dX3_skipSpaces_25 (fun H locs hP hD hS => ?_)
          refine lv_iinc (v := (nI (i + 1))) (lv' := [(1, .int (nI (i + 1))), (0, .ref (qs 0))]) hx hb dX3_skipSpaces_28 hl (k := 0) rfl (nI_inc _) (by decide) rfl (fun ls hl => ?_)
          refine lv_goto (tgt := 2) hx hb dX3_skipSpaces_31 (by decide) ?_
          have h15 := (oI_N (hereF_bd htx) (by decide)).mp c15
          have hl15 := (hereF_lt h15).1
          exact ih2 (i + 1) (p + 1) (by omega) (by first | assumption | omega) (by first | assumption | omega) (by rw [hs, show 150 - i = (150 - (i + 1)) + 1 by omega, skpF_t h15]) _ _ hP hD hS _ (lv_sub hl [0, 1] rfl)
  exact L2 ((150 - 0) + 1) 0 pos (Nat.lt_succ_self _) (by first | assumption | omega) (by first | assumption | omega) rfl _ _ hP hD hS _ (lv_sub hl [0, 1] rfl)

set_option maxHeartbeats 4000000 in
set_option maxRecDepth 100000 in
theorem c_X3_rewind (lQ : Launch) (D : va_G) (kA : Nat → ClassId) (qs : Nat → Nat) (tx : Nat → Nat) (len : Nat) (pos : Nat) (kd : Option Nat) (rw0 : Nat) (ss : Nat) (av : Option Nat) (q : Nat → Nat) (cc : Nat) (ac : Nat → Nat) (co : Nat → Nat) (ad : Nat) (rc : Nat) (nm : Nat → Nat) (st : Nat → Nat) (an : Nat → Nat) (sz : Nat) (hlen : len ≤ 150) (htx : ∀ j, j < len → tx j < 128) : Met lQ yX3_rewind wsX3_rewind (rmN 2 41) (wr_Pc D vwCl [.ref (qs 0)] ((wS kA qs q tx len pos kd rw0 ss av) ++ (wT kA q cc ac co ad rc nm st an)) (tyK kA) sz) (va_Qv (S := Unit) (fun (u : Unit) => True) (wr_B D vwCl ((wS kA qs q tx len pos kd rw0 ss av) ++ (wT kA q cc ac co ad rc nm st an)) (tyK kA) sz (fun u => ((wS kA qs q tx len (skpF tx len 150 0) kd rw0 ss av) ++ (wT kA q cc ac co ad rc nm st an)))) (va_A ((wS kA qs q tx len pos kd rw0 ss av) ++ (wT kA q cc ac co ad rc nm st an)) sz)) 0 0 (va_A ((wS kA qs q tx len pos kd rw0 ss av) ++ (wT kA q cc ac co ad rc nm st an)) sz) := by
  refine Met.ofW (cc := cX3_rewind) (maxL := 1) (ret := none) (by decide) rfl ?_
  intro pQ eQ s mQ args below meth cQ s₁ B hml hv
  obtain ⟨rfl, hsz, hP, hK, hD0⟩ := hv
  have hx := B.exec
  have hb := B.bytes
  have hr := B.returns
  have hts := atoms_spec (ws := wsX3_rewind) B.pre
  have hown : s.vm.findClass RX3 = some mQ.cls := findClass_of_methodNamed B.named
  have hlocks : meth.locks = false := B.notSynchronized
  have hS0 : CallFix pQ mQ cQ cX3_rewind 1 s ([.ref (qs 0)] : List Value).toArray wsX3_rewind RX3 := ⟨hx, hb, hml, hown, hts⟩
  subst hsz
  have hD := hD0.self (sz := s.heap.size)
  generalize hAe : va_A ((wS kA qs q tx len pos kd rw0 ss av) ++ (wT kA q cc ac co ad rc nm st an)) s.heap.size = A at hD ⊢
  have hA : ∀ q : Nat, s.heap.size ≤ q → A q := fun q h => by rw [← hAe]; exact Or.inr h
  have hS : va_S A s.heap s.heap [] := va_S.rf
  have f33 : (Cond.fieldLink RX3 33 "AskedRules$Script" "position" "I").before ([.ref (qs 0)] : List Value).toArray s = true := hts _ (by decide +kernel)
  have hinX3 : ∀ w ∈ wsX30, w ∈ wsX3_rewind := by decide +kernel
  have hl := lv_entry ([.ref (qs 0)]) (n := 1) (Nat.le_of_ble_eq_true rfl)
  rw [lg_entry_eq]
  generalize (lg_sl ([.ref (qs 0)]) ++ List.replicate (1 - (lg_sl ([.ref (qs 0)])).length) Slot.unset).toArray = ls at hl ⊢
  have hl : lv_has ls 1 [(0, .ref (qs 0))] := hl
  have hP : va_P D vwCl ((wS kA qs q tx len pos kd rw0 ss av) ++ (wT kA q cc ac co ad rc nm st an)) s.heap := hP
  have hD : va_D A ((wS kA qs q tx len pos kd rw0 ss av) ++ (wT kA q cc ac co ad rc nm st an)) := hD
  refine lv_aload_n hx hb dX3_rewind_0 rfl (lv_at hl 0 rfl) ?_
  refine lv_iconst (v := (nI 0)) hx hb dX3_rewind_1 (by decide) ?_
  refine n_put (ci := 3) (v := .int (nI 0)) (C := RX3) (T := TX3) (N := 8) (ws' := ((wS kA qs q tx len 0 kd rw0 ss av) ++ (wT kA q cc ac co ad rc nm st an))) hx hb hts hinX3 tyX3 tyX3_ok nmX3 hown hK hP hD hS 0 rfl rfl 3 rfl ⟨rfl, rfl, rfl, rfl⟩ f33 rfl rfl rfl rfl dX3_rewind_2 (fun H locs hP hD hS => ?_)
  refine lv_aload_n hx hb dX3_rewind_5 rfl (lv_at hl 0 rfl) ?_
  refine n_wVv (b := qs 0) (As := []) (rest := []) (wr := []) (ws' := fun u => ((wS kA qs q tx len (skpF tx len 150 0) kd rw0 ss av) ++ (wT kA q cc ac co ad rc nm st an))) hS0 (c_X3_skipSpaces lQ D kA qs tx len 0 kd rw0 ss av q cc ac co ad rc nm st an H.size (by first | assumption | omega) (by first | assumption | omega) (by first | assumption | omega)) (cwV 0 hts gX3_rewind_X3_skipSpaces rfl rfl rfl (by decide +kernel) ⟨Nat.le_of_ble_eq_true rfl, Nat.le_of_ble_eq_true rfl⟩) hP hD hS hA hK hK (by simpa only [List.append_assoc, List.append_nil] using ((List.Perm.refl _).trans (List.Perm.append_left _ (List.Perm.of_eq (List.append_nil _).symm)))) (fun u => List.Perm.symm (by simpa only [List.append_assoc, List.append_nil] using ((List.Perm.refl _).trans (List.Perm.append_left _ (List.Perm.of_eq (List.append_nil _).symm))))) (q0 := 0) rfl rfl rfl rfl rfl hl.1 (Nat.le_of_ble_eq_true rfl) dX3_rewind_6 ⟨Nat.le_refl _, Nat.le_refl _⟩ (fun u6 H locs h6 hP hD hS => ?_)
  have hP : va_P D vwCl ((wS kA qs q tx len (skpF tx len 150 0) kd rw0 ss av) ++ (wT kA q cc ac co ad rc nm st an)) H := hP
  have hD : va_D A ((wS kA qs q tx len (skpF tx len 150 0) kd rw0 ss av) ++ (wT kA q cc ac co ad rc nm st an)) := hD
  exact n_wretv hx hb hr hlocks (post := fun (u : Unit) => True) (w1 := fun u => ((wS kA qs q tx len (skpF tx len 150 0) kd rw0 ss av) ++ (wT kA q cc ac co ad rc nm st an))) () trivial hP hD hK hS hAe dX3_rewind_9

set_option maxHeartbeats 4000000 in
set_option maxRecDepth 100000 in
theorem c_X3_readByte (lQ : Launch) (D : va_G) (kA : Nat → ClassId) (qs : Nat → Nat) (tx : Nat → Nat) (len : Nat) (pos : Nat) (kd : Option Nat) (rw0 : Nat) (ss : Nat) (av : Option Nat) (q : Nat → Nat) (cc : Nat) (ac : Nat → Nat) (co : Nat → Nat) (ad : Nat) (rc : Nat) (nm : Nat → Nat) (st : Nat → Nat) (an : Nat → Nat) (w : Nat) (sz : Nat) (hlen : len ≤ 150) (hpos : pos ≤ 150) (htx : ∀ j, j < len → tx j < 128) (hw : w < 128) : Met lQ yX3_readByte wsX3_readByte (rmN 1 20) (wr_Pc D vwCl [.ref (qs 0), .int (nI w)] ((wS kA qs q tx len pos kd rw0 ss av) ++ (wT kA q cc ac co ad rc nm st an)) (tyK kA) sz) (va_Qi (S := Unit) (fun (r : Int32) (u : Unit) => r = (bI (decide (hereF tx len pos = some w)))) (wr_B D vwCl ((wS kA qs q tx len pos kd rw0 ss av) ++ (wT kA q cc ac co ad rc nm st an)) (tyK kA) sz (fun u => ((wS kA qs q tx len (stpF tx len w pos) kd rw0 ss av) ++ (wT kA q cc ac co ad rc nm st an)))) (va_A ((wS kA qs q tx len pos kd rw0 ss av) ++ (wT kA q cc ac co ad rc nm st an)) sz)) 0 0 (va_A ((wS kA qs q tx len pos kd rw0 ss av) ++ (wT kA q cc ac co ad rc nm st an)) sz) := by
  refine Met.ofW (cc := cX3_readByte) (maxL := 2) (ret := (some .boolean)) (by decide) rfl ?_
  intro pQ eQ s mQ args below meth cQ s₁ B hml hv
  obtain ⟨rfl, hsz, hP, hK, hD0⟩ := hv
  have hx := B.exec
  have hb := B.bytes
  have hr := B.returns
  have hts := atoms_spec (ws := wsX3_readByte) B.pre
  have hown : s.vm.findClass RX3 = some mQ.cls := findClass_of_methodNamed B.named
  have hlocks : meth.locks = false := B.notSynchronized
  have hS0 : CallFix pQ mQ cQ cX3_readByte 2 s ([.ref (qs 0), .int (nI w)] : List Value).toArray wsX3_readByte RX3 := ⟨hx, hb, hml, hown, hts⟩
  subst hsz
  have hD := hD0.self (sz := s.heap.size)
  generalize hAe : va_A ((wS kA qs q tx len pos kd rw0 ss av) ++ (wT kA q cc ac co ad rc nm st an)) s.heap.size = A at hD ⊢
  have hA : ∀ q : Nat, s.heap.size ≤ q → A q := fun q h => by rw [← hAe]; exact Or.inr h
  have hS : va_S A s.heap s.heap [] := va_S.rf
  have f33 : (Cond.fieldLink RX3 33 "AskedRules$Script" "position" "I").before ([.ref (qs 0), .int (nI w)] : List Value).toArray s = true := hts _ (by decide +kernel)
  have hinX3 : ∀ w ∈ wsX30, w ∈ wsX3_readByte := by decide +kernel
  have hl := lv_entry ([.ref (qs 0), .int (nI w)]) (n := 2) (Nat.le_of_ble_eq_true rfl)
  rw [lg_entry_eq]
  generalize (lg_sl ([.ref (qs 0), .int (nI w)]) ++ List.replicate (2 - (lg_sl ([.ref (qs 0), .int (nI w)])).length) Slot.unset).toArray = ls at hl ⊢
  have hl : lv_has ls 2 [(0, .ref (qs 0)), (1, .int (nI w))] := hl
  have hP : va_P D vwCl ((wS kA qs q tx len pos kd rw0 ss av) ++ (wT kA q cc ac co ad rc nm st an)) s.heap := hP
  have hD : va_D A ((wS kA qs q tx len pos kd rw0 ss av) ++ (wT kA q cc ac co ad rc nm st an)) := hD
  refine lv_aload_n hx hb dX3_readByte_0 rfl (lv_at hl 0 rfl) ?_
  refine n_cV (b := qs 0) (As := []) (rest := []) (wc := ((wS kA qs q tx len pos kd rw0 ss av) ++ (wT kA q cc ac co ad rc nm st an))) hS0 (c_X3_here lQ D kA qs tx len pos kd rw0 ss av q cc ac co ad rc nm st an (by first | assumption | omega) (by first | assumption | omega)) (cwV 0 hts gX3_readByte_X3_here rfl rfl rfl (by decide +kernel) ⟨Nat.le_of_ble_eq_true rfl, Nat.le_of_ble_eq_true rfl⟩) hP hK (q0 := 0) rfl rfl rfl rfl rfl hl.1 (Nat.le_of_ble_eq_true rfl) dX3_readByte_1 ⟨Nat.le_refl _, Nat.le_refl _⟩ (fun r1 h1 => ?_)
  subst h1
  refine lv_iload_n hx hb dX3_readByte_4 rfl (lv_at hl 1 rfl) ?_
  refine lv_icmp_eq (tgt := 10) hx hb dX3_readByte_5 (by decide) (fun c5 => ?_) (fun c5 => ?_)
  · refine lv_aload_n hx hb dX3_readByte_10 rfl (lv_at hl 0 rfl) ?_
    refine lv_dup hx hb dX3_readByte_11 rfl ?_
    refine n_get (ci := 3) (v := .int (nI pos)) (C := RX3) (T := TX3) (N := 8) hx hb hts hinX3 hown hK hP 0 rfl rfl 3 rfl ⟨rfl, rfl, rfl⟩ f33 rfl dX3_readByte_12 ?_
    refine lv_iconst (v := (nI 1)) hx hb dX3_readByte_15 (by decide) ?_
    refine n_iadd (v := (nI (pos + 1))) hx hb (nI_add _ _) dX3_readByte_16 ?_
    refine n_put (ci := 3) (v := .int (nI (pos + 1))) (C := RX3) (T := TX3) (N := 8) (ws' := ((wS kA qs q tx len (pos + 1) kd rw0 ss av) ++ (wT kA q cc ac co ad rc nm st an))) hx hb hts hinX3 tyX3 tyX3_ok nmX3 hown hK hP hD hS 0 rfl rfl 3 rfl ⟨rfl, rfl, rfl, rfl⟩ f33 rfl rfl rfl rfl dX3_readByte_17 (fun H locs hP hD hS => ?_)
    refine lv_iconst (v := (nI 1)) hx hb dX3_readByte_20 (by decide) ?_
    have hN := oI_N (o := hereF tx len pos) (k := w) (hereF_bd htx) (by omega)
    have e9 : stpF tx len w pos = pos + 1 := if_pos (hN.mp c5)
    rw [← e9] at hP hD
    have hP : va_P D vwCl ((wS kA qs q tx len (stpF tx len w pos) kd rw0 ss av) ++ (wT kA q cc ac co ad rc nm st an)) H := hP
    have hD : va_D A ((wS kA qs q tx len (stpF tx len w pos) kd rw0 ss av) ++ (wT kA q cc ac co ad rc nm st an)) := hD
    exact n_wretz hx hb hr hlocks (post := fun (r : Int32) (u : Unit) => r = (bI (decide (hereF tx len pos = some w)))) (w1 := fun u => ((wS kA qs q tx len (stpF tx len w pos) kd rw0 ss av) ++ (wT kA q cc ac co ad rc nm st an))) rfl () (by rw [decide_eq_true (hN.mp c5)]; rfl) hP hD hK hS hAe dX3_readByte_21
  · refine lv_iconst (v := (nI 0)) hx hb dX3_readByte_8 (by decide) ?_
    have hN := oI_N (o := hereF tx len pos) (k := w) (hereF_bd htx) (by omega)
    have e9 : stpF tx len w pos = pos := if_neg (fun h => c5 (hN.mpr h))
    rw [← e9] at hP hD
    have hP : va_P D vwCl ((wS kA qs q tx len (stpF tx len w pos) kd rw0 ss av) ++ (wT kA q cc ac co ad rc nm st an)) s.heap := hP
    have hD : va_D A ((wS kA qs q tx len (stpF tx len w pos) kd rw0 ss av) ++ (wT kA q cc ac co ad rc nm st an)) := hD
    exact n_wretz hx hb hr hlocks (post := fun (r : Int32) (u : Unit) => r = (bI (decide (hereF tx len pos = some w)))) (w1 := fun u => ((wS kA qs q tx len (stpF tx len w pos) kd rw0 ss av) ++ (wT kA q cc ac co ad rc nm st an))) rfl () (by rw [decide_eq_false (fun h => c5 (hN.mpr h))]; rfl) hP hD hK hS hAe dX3_readByte_9

set_option maxHeartbeats 4000000 in
set_option maxRecDepth 100000 in
theorem c_X3_readSpace (lQ : Launch) (D : va_G) (kA : Nat → ClassId) (qs : Nat → Nat) (tx : Nat → Nat) (len : Nat) (pos : Nat) (kd : Option Nat) (rw0 : Nat) (ss : Nat) (av : Option Nat) (q : Nat → Nat) (cc : Nat) (ac : Nat → Nat) (co : Nat → Nat) (ad : Nat) (rc : Nat) (nm : Nat → Nat) (st : Nat → Nat) (an : Nat → Nat) (sz : Nat) (hlen : len ≤ 150) (hpos : pos ≤ 150) (htx : ∀ j, j < len → tx j < 128) : Met lQ yX3_readSpace wsX3_readSpace (rmN 2 41) (wr_Pc D vwCl [.ref (qs 0)] ((wS kA qs q tx len pos kd rw0 ss av) ++ (wT kA q cc ac co ad rc nm st an)) (tyK kA) sz) (va_Qi (S := Unit) (fun (r : Int32) (u : Unit) => r = (bI (decide (hereF tx len pos = some 32)))) (wr_B D vwCl ((wS kA qs q tx len pos kd rw0 ss av) ++ (wT kA q cc ac co ad rc nm st an)) (tyK kA) sz (fun u => ((wS kA qs q tx len (stpF tx len 32 pos) kd rw0 ss av) ++ (wT kA q cc ac co ad rc nm st an)))) (va_A ((wS kA qs q tx len pos kd rw0 ss av) ++ (wT kA q cc ac co ad rc nm st an)) sz)) 0 0 (va_A ((wS kA qs q tx len pos kd rw0 ss av) ++ (wT kA q cc ac co ad rc nm st an)) sz) := by
  refine Met.ofW (cc := cX3_readSpace) (maxL := 1) (ret := (some .boolean)) (by decide) rfl ?_
  intro pQ eQ s mQ args below meth cQ s₁ B hml hv
  obtain ⟨rfl, hsz, hP, hK, hD0⟩ := hv
  have hx := B.exec
  have hb := B.bytes
  have hr := B.returns
  have hts := atoms_spec (ws := wsX3_readSpace) B.pre
  have hown : s.vm.findClass RX3 = some mQ.cls := findClass_of_methodNamed B.named
  have hlocks : meth.locks = false := B.notSynchronized
  have hS0 : CallFix pQ mQ cQ cX3_readSpace 1 s ([.ref (qs 0)] : List Value).toArray wsX3_readSpace RX3 := ⟨hx, hb, hml, hown, hts⟩
  subst hsz
  have hD := hD0.self (sz := s.heap.size)
  generalize hAe : va_A ((wS kA qs q tx len pos kd rw0 ss av) ++ (wT kA q cc ac co ad rc nm st an)) s.heap.size = A at hD ⊢
  have hA : ∀ q : Nat, s.heap.size ≤ q → A q := fun q h => by rw [← hAe]; exact Or.inr h
  have hS : va_S A s.heap s.heap [] := va_S.rf
  skip
  have hl := lv_entry ([.ref (qs 0)]) (n := 1) (Nat.le_of_ble_eq_true rfl)
  rw [lg_entry_eq]
  generalize (lg_sl ([.ref (qs 0)]) ++ List.replicate (1 - (lg_sl ([.ref (qs 0)])).length) Slot.unset).toArray = ls at hl ⊢
  have hl : lv_has ls 1 [(0, .ref (qs 0))] := hl
  have hP : va_P D vwCl ((wS kA qs q tx len pos kd rw0 ss av) ++ (wT kA q cc ac co ad rc nm st an)) s.heap := hP
  have hD : va_D A ((wS kA qs q tx len pos kd rw0 ss av) ++ (wT kA q cc ac co ad rc nm st an)) := hD
  refine lv_aload_n hx hb dX3_readSpace_0 rfl (lv_at hl 0 rfl) ?_
  refine lv_bipush (v := (nI 32)) hx hb dX3_readSpace_1 (by decide) ?_
  refine n_wVi (b := qs 0) (As := [.int (nI 32)]) (rest := []) (wr := []) (ws' := fun u => ((wS kA qs q tx len (stpF tx len 32 pos) kd rw0 ss av) ++ (wT kA q cc ac co ad rc nm st an))) hS0 (c_X3_readByte lQ D kA qs tx len pos kd rw0 ss av q cc ac co ad rc nm st an 32 s.heap.size (by first | assumption | omega) (by first | assumption | omega) (by first | assumption | omega) (by first | assumption | omega)) (cwV 1 hts gX3_readSpace_X3_readByte rfl rfl rfl (by decide +kernel) ⟨Nat.le_of_ble_eq_true rfl, Nat.le_of_ble_eq_true rfl⟩) hP hD hS hA hK hK (by simpa only [List.append_assoc, List.append_nil] using ((List.Perm.refl _).trans (List.Perm.append_left _ (List.Perm.of_eq (List.append_nil _).symm)))) (fun u => List.Perm.symm (by simpa only [List.append_assoc, List.append_nil] using ((List.Perm.refl _).trans (List.Perm.append_left _ (List.Perm.of_eq (List.append_nil _).symm))))) (q0 := 0) rfl rfl rfl rfl rfl hl.1 (Nat.le_of_ble_eq_true rfl) dX3_readSpace_3 ⟨Nat.le_refl _, Nat.le_refl _⟩ (fun r3 u3 H locs h3 hP hD hS => ?_)
  subst h3
  have hP : va_P D vwCl ((wS kA qs q tx len (stpF tx len 32 pos) kd rw0 ss av) ++ (wT kA q cc ac co ad rc nm st an)) H := hP
  have hD : va_D A ((wS kA qs q tx len (stpF tx len 32 pos) kd rw0 ss av) ++ (wT kA q cc ac co ad rc nm st an)) := hD
  exact n_wretz hx hb hr hlocks (post := fun (r : Int32) (u : Unit) => r = (bI (decide (hereF tx len pos = some 32)))) (w1 := fun u => ((wS kA qs q tx len (stpF tx len 32 pos) kd rw0 ss av) ++ (wT kA q cc ac co ad rc nm st an))) (narrow_bI _) () rfl hP hD hK hS hAe dX3_readSpace_6

set_option maxHeartbeats 4000000 in
set_option maxRecDepth 100000 in
theorem c_X3_digitHere (lQ : Launch) (D : va_G) (kA : Nat → ClassId) (qs : Nat → Nat) (tx : Nat → Nat) (len : Nat) (pos : Nat) (kd : Option Nat) (rw0 : Nat) (ss : Nat) (av : Option Nat) (q : Nat → Nat) (cc : Nat) (ac : Nat → Nat) (co : Nat → Nat) (ad : Nat) (rc : Nat) (nm : Nat → Nat) (st : Nat → Nat) (an : Nat → Nat) (hlen : len ≤ 150) (hpos : pos ≤ 150) (htx : ∀ j, j < len → tx j < 128) : Met lQ yX3_digitHere wsX3_digitHere (rmN 1 20) (rd_Pc D vwCl [.ref (qs 0)] ((wS kA qs q tx len pos kd rw0 ss av) ++ (wT kA q cc ac co ad rc nm st an)) (tyK kA)) (vp_Si (fun r : Int32 => r = (oI (digT tx len pos)))) 0 0 (fun _ => False) := by
  refine Met.ofW (cc := cX3_digitHere) (maxL := 2) (ret := (some .int)) (by decide) rfl ?_
  intro pQ eQ s mQ args below meth cQ s₁ B hml hv
  obtain ⟨rfl, hP, hK⟩ := hv
  have hx := B.exec
  have hb := B.bytes
  have hr := B.returns
  have hts := atoms_spec (ws := wsX3_digitHere) B.pre
  have hown : s.vm.findClass RX3 = some mQ.cls := findClass_of_methodNamed B.named
  have hlocks : meth.locks = false := B.notSynchronized
  have hS0 : CallFix pQ mQ cQ cX3_digitHere 2 s ([.ref (qs 0)] : List Value).toArray wsX3_digitHere RX3 := ⟨hx, hb, hml, hown, hts⟩
  skip
  have hl := lv_entry ([.ref (qs 0)]) (n := 2) (Nat.le_of_ble_eq_true rfl)
  rw [lg_entry_eq]
  generalize (lg_sl ([.ref (qs 0)]) ++ List.replicate (2 - (lg_sl ([.ref (qs 0)])).length) Slot.unset).toArray = ls at hl ⊢
  have hl : lv_has ls 2 [(0, .ref (qs 0))] := hl
  have hP : va_P D vwCl ((wS kA qs q tx len pos kd rw0 ss av) ++ (wT kA q cc ac co ad rc nm st an)) s.heap := hP
  refine lv_aload_n hx hb dX3_digitHere_0 rfl (lv_at hl 0 rfl) ?_
  refine n_cV (b := qs 0) (As := []) (rest := []) (wc := ((wS kA qs q tx len pos kd rw0 ss av) ++ (wT kA q cc ac co ad rc nm st an))) hS0 (c_X3_here lQ D kA qs tx len pos kd rw0 ss av q cc ac co ad rc nm st an (by first | assumption | omega) (by first | assumption | omega)) (cwV 0 hts gX3_digitHere_X3_here rfl rfl rfl (by decide +kernel) ⟨Nat.le_of_ble_eq_true rfl, Nat.le_of_ble_eq_true rfl⟩) hP hK (q0 := 0) rfl rfl rfl rfl rfl hl.1 (Nat.le_of_ble_eq_true rfl) dX3_digitHere_1 ⟨Nat.le_refl _, Nat.le_refl _⟩ (fun r1 h1 => ?_)
  subst h1
  cases hq1 : hereF tx len pos with
  | none =>
    show W pQ lQ eQ (headSpec wsX3_digitHere (rmN 1 20)).room s mQ ([.ref (qs 0)] : List Value).toArray below meth cQ s.heap [] 0 0 (MQ below (vp_Si (fun r : Int32 => r = (oI (digT tx len pos)))) ([.ref (qs 0)] : List Value).toArray s 0 0 (fun _ => False)) (F0 mQ 4 ls [.int (oI none)])
    refine lv_istore_n (lv' := [(1, .int (oI none)), (0, .ref (qs 0))]) hx hb dX3_digitHere_4 rfl hl (by decide) rfl (fun ls hl => ?_)
    refine lv_iload_n hx hb dX3_digitHere_5 rfl (lv_at hl 0 rfl) ?_
    refine lv_bipush (v := (nI 48)) hx hb dX3_digitHere_6 (by decide) ?_
    refine lv_icmp_lt (tgt := 24) hx hb dX3_digitHere_8 (by decide) (fun _ => ?_) (fun h => absurd (onone_lt (by decide)) h)
    refine lv_iconst (v := (oI none)) hx hb dX3_digitHere_24 (by decide) ?_
    exact n_reti hx hb hr hlocks (post := fun r : Int32 => r = (oI (digT tx len pos))) (by unfold digT; first | (rw [hq1]; done) | skip; rw [hq1]; first | rfl | (show _ = oI (if _ then _ else _); first | (rw [if_pos ⟨c8, c14⟩]; rfl) | (rw [if_neg (by omega)]))) rfl dX3_digitHere_25
  | some b1 =>
    show W pQ lQ eQ (headSpec wsX3_digitHere (rmN 1 20)).room s mQ ([.ref (qs 0)] : List Value).toArray below meth cQ s.heap [] 0 0 (MQ below (vp_Si (fun r : Int32 => r = (oI (digT tx len pos)))) ([.ref (qs 0)] : List Value).toArray s 0 0 (fun _ => False)) (F0 mQ 4 ls [.int (nI b1)])
    refine lv_istore_n (lv' := [(1, .int (nI b1)), (0, .ref (qs 0))]) hx hb dX3_digitHere_4 rfl hl (by decide) rfl (fun ls hl => ?_)
    refine lv_iload_n hx hb dX3_digitHere_5 rfl (lv_at hl 0 rfl) ?_
    refine lv_bipush (v := (nI 48)) hx hb dX3_digitHere_6 (by decide) ?_
    refine n_icmp_lt (a := b1) (b := 48) (tgt := 24) hx hb (hereF_bd htx _ hq1) (by decide) dX3_digitHere_8 (by decide) (fun c8 => ?_) (fun c8 => ?_)
    · refine lv_iconst (v := (oI none)) hx hb dX3_digitHere_24 (by decide) ?_
      exact n_reti hx hb hr hlocks (post := fun r : Int32 => r = (oI (digT tx len pos))) (by unfold digT; first | (rw [hq1]; done) | skip; rw [hq1]; first | rfl | (show _ = oI (if _ then _ else _); first | (rw [if_pos ⟨c8, c14⟩]; rfl) | (rw [if_neg (by omega)]))) rfl dX3_digitHere_25
    · refine lv_iload_n hx hb dX3_digitHere_11 rfl (lv_at hl 0 rfl) ?_
      refine lv_bipush (v := (nI 57)) hx hb dX3_digitHere_12 (by decide) ?_
      refine n_icmp_gt (a := b1) (b := 57) (tgt := 24) hx hb (hereF_bd htx _ hq1) (by decide) dX3_digitHere_14 (by decide) (fun c14 => ?_) (fun c14 => ?_)
      · refine lv_iconst (v := (oI none)) hx hb dX3_digitHere_24 (by decide) ?_
        exact n_reti hx hb hr hlocks (post := fun r : Int32 => r = (oI (digT tx len pos))) (by unfold digT; first | (rw [hq1]; done) | skip; rw [hq1]; first | rfl | (show _ = oI (if _ then _ else _); first | (rw [if_pos ⟨c8, c14⟩]; rfl) | (rw [if_neg (by omega)]))) rfl dX3_digitHere_25
      · refine lv_iload_n hx hb dX3_digitHere_17 rfl (lv_at hl 0 rfl) ?_
        refine lv_bipush (v := (nI 48)) hx hb dX3_digitHere_18 (by decide) ?_
        refine n_isub (v := (nI (b1 - 48))) hx hb (pk_sub (by omega)) dX3_digitHere_20 ?_
        refine lv_goto (tgt := 25) hx hb dX3_digitHere_21 (by decide) ?_
        exact n_reti hx hb hr hlocks (post := fun r : Int32 => r = (oI (digT tx len pos))) (by unfold digT; first | (rw [hq1]; done) | skip; rw [hq1]; first | rfl | (show _ = oI (if _ then _ else _); first | (rw [if_pos ⟨c8, c14⟩]; rfl) | (rw [if_neg (by omega)]))) rfl dX3_digitHere_25

set_option maxHeartbeats 4000000 in
set_option maxRecDepth 100000 in
theorem c_X3_readRow (lQ : Launch) (D : va_G) (kA : Nat → ClassId) (qs : Nat → Nat) (tx : Nat → Nat) (len : Nat) (pos : Nat) (kd : Option Nat) (rw0 : Nat) (ss : Nat) (av : Option Nat) (q : Nat → Nat) (cc : Nat) (ac : Nat → Nat) (co : Nat → Nat) (ad : Nat) (rc : Nat) (nm : Nat → Nat) (st : Nat → Nat) (an : Nat → Nat) (sz : Nat) (hlen : len ≤ 150) (hpos : pos ≤ 150) (htx : ∀ j, j < len → tx j < 128) : Met lQ yX3_readRow wsX3_readRow (rmN 2 41) (wr_Pc D vwCl [.ref (qs 0)] ((wS kA qs q tx len pos kd rw0 ss av) ++ (wT kA q cc ac co ad rc nm st an)) (tyK kA) sz) (va_Qi (S := Unit) (fun (r : Int32) (u : Unit) => r = (bI ((rrF tx len pos rw0).1))) (wr_B D vwCl ((wS kA qs q tx len pos kd rw0 ss av) ++ (wT kA q cc ac co ad rc nm st an)) (tyK kA) sz (fun u => ((wS kA qs q tx len ((rrF tx len pos rw0).2.1) kd ((rrF tx len pos rw0).2.2) ss av) ++ (wT kA q cc ac co ad rc nm st an)))) (va_A ((wS kA qs q tx len pos kd rw0 ss av) ++ (wT kA q cc ac co ad rc nm st an)) sz)) 0 0 (va_A ((wS kA qs q tx len pos kd rw0 ss av) ++ (wT kA q cc ac co ad rc nm st an)) sz) := by
  refine Met.ofW (cc := cX3_readRow) (maxL := 3) (ret := (some .boolean)) (by decide) rfl ?_
  intro pQ eQ s mQ args below meth cQ s₁ B hml hv
  obtain ⟨rfl, hsz, hP, hK, hD0⟩ := hv
  have hx := B.exec
  have hb := B.bytes
  have hr := B.returns
  have hts := atoms_spec (ws := wsX3_readRow) B.pre
  have hown : s.vm.findClass RX3 = some mQ.cls := findClass_of_methodNamed B.named
  have hlocks : meth.locks = false := B.notSynchronized
  have hS0 : CallFix pQ mQ cQ cX3_readRow 3 s ([.ref (qs 0)] : List Value).toArray wsX3_readRow RX3 := ⟨hx, hb, hml, hown, hts⟩
  subst hsz
  have hD := hD0.self (sz := s.heap.size)
  generalize hAe : va_A ((wS kA qs q tx len pos kd rw0 ss av) ++ (wT kA q cc ac co ad rc nm st an)) s.heap.size = A at hD ⊢
  have hA : ∀ q : Nat, s.heap.size ≤ q → A q := fun q h => by rw [← hAe]; exact Or.inr h
  have hS : va_S A s.heap s.heap [] := va_S.rf
  have f33 : (Cond.fieldLink RX3 33 "AskedRules$Script" "position" "I").before ([.ref (qs 0)] : List Value).toArray s = true := hts _ (by decide +kernel)
  have hinX3 : ∀ w ∈ wsX30, w ∈ wsX3_readRow := by decide +kernel
  have f89 : (Cond.fieldLink RX3 89 "AskedRules$Script" "row" "I").before ([.ref (qs 0)] : List Value).toArray s = true := hts _ (by decide +kernel)
  have hl := lv_entry ([.ref (qs 0)]) (n := 3) (Nat.le_of_ble_eq_true rfl)
  rw [lg_entry_eq]
  generalize (lg_sl ([.ref (qs 0)]) ++ List.replicate (3 - (lg_sl ([.ref (qs 0)])).length) Slot.unset).toArray = ls at hl ⊢
  have hl : lv_has ls 3 [(0, .ref (qs 0))] := hl
  have hP : va_P D vwCl ((wS kA qs q tx len pos kd rw0 ss av) ++ (wT kA q cc ac co ad rc nm st an)) s.heap := hP
  have hD : va_D A ((wS kA qs q tx len pos kd rw0 ss av) ++ (wT kA q cc ac co ad rc nm st an)) := hD
  refine lv_aload_n hx hb dX3_readRow_0 rfl (lv_at hl 0 rfl) ?_
  refine n_cV (b := qs 0) (As := []) (rest := []) (wc := ((wS kA qs q tx len pos kd rw0 ss av) ++ (wT kA q cc ac co ad rc nm st an))) hS0 (c_X3_digitHere lQ D kA qs tx len pos kd rw0 ss av q cc ac co ad rc nm st an (by first | assumption | omega) (by first | assumption | omega) (by first | assumption | omega)) (cwV 0 hts gX3_readRow_X3_digitHere rfl rfl rfl (by decide +kernel) ⟨Nat.le_of_ble_eq_true rfl, Nat.le_of_ble_eq_true rfl⟩) hP hK (q0 := 0) rfl rfl rfl rfl rfl hl.1 (Nat.le_of_ble_eq_true rfl) dX3_readRow_1 ⟨Nat.le_refl _, Nat.le_refl _⟩ (fun r1 h1 => ?_)
  subst h1
  cases hq1 : digT tx len pos with
  | none =>
    show W pQ lQ eQ (headSpec wsX3_readRow (rmN 2 41)).room s mQ ([.ref (qs 0)] : List Value).toArray below meth cQ s.heap [] 0 0 (MQ below (va_Qi (S := Unit) (fun (r : Int32) (u : Unit) => r = (bI ((rrF tx len pos rw0).1))) (wr_B D vwCl ((wS kA qs q tx len pos kd rw0 ss av) ++ (wT kA q cc ac co ad rc nm st an)) (tyK kA) s.heap.size (fun u => ((wS kA qs q tx len ((rrF tx len pos rw0).2.1) kd ((rrF tx len pos rw0).2.2) ss av) ++ (wT kA q cc ac co ad rc nm st an)))) A) ([.ref (qs 0)] : List Value).toArray s 0 0 A) (F0 mQ 4 ls [.int (oI none)])
    refine lv_istore_n (lv' := [(1, .int (oI none)), (0, .ref (qs 0))]) hx hb dX3_readRow_4 rfl hl (by decide) rfl (fun ls hl => ?_)
    refine lv_iload_n hx hb dX3_readRow_5 rfl (lv_at hl 0 rfl) ?_
    refine lv_if_ge (tgt := 11) hx hb dX3_readRow_6 (by decide) (fun h => absurd h (by decide)) (fun _ => ?_)
    refine lv_iconst (v := (nI 0)) hx hb dX3_readRow_9 (by decide) ?_
    have e9 : rrF tx len pos rw0 = (false, pos, rw0) := by
      unfold rrF
      rw [hq1]
    have hP : va_P D vwCl (wS kA qs q tx len (rrF tx len pos rw0).2.1 kd (rrF tx len pos rw0).2.2 ss av ++ wT kA q cc ac co ad rc nm st an) s.heap := by rw [e9]; exact hP
    have hD : va_D A (wS kA qs q tx len (rrF tx len pos rw0).2.1 kd (rrF tx len pos rw0).2.2 ss av ++ wT kA q cc ac co ad rc nm st an) := by rw [e9]; exact hD
    have hP : va_P D vwCl ((wS kA qs q tx len ((rrF tx len pos rw0).2.1) kd ((rrF tx len pos rw0).2.2) ss av) ++ (wT kA q cc ac co ad rc nm st an)) s.heap := hP
    have hD : va_D A ((wS kA qs q tx len ((rrF tx len pos rw0).2.1) kd ((rrF tx len pos rw0).2.2) ss av) ++ (wT kA q cc ac co ad rc nm st an)) := hD
    exact n_wretz hx hb hr hlocks (post := fun (r : Int32) (u : Unit) => r = (bI ((rrF tx len pos rw0).1))) (w1 := fun u => ((wS kA qs q tx len ((rrF tx len pos rw0).2.1) kd ((rrF tx len pos rw0).2.2) ss av) ++ (wT kA q cc ac co ad rc nm st an))) rfl () (by rw [e9]; rfl) hP hD hK hS hAe dX3_readRow_10
  | some b1 =>
    show W pQ lQ eQ (headSpec wsX3_readRow (rmN 2 41)).room s mQ ([.ref (qs 0)] : List Value).toArray below meth cQ s.heap [] 0 0 (MQ below (va_Qi (S := Unit) (fun (r : Int32) (u : Unit) => r = (bI ((rrF tx len pos rw0).1))) (wr_B D vwCl ((wS kA qs q tx len pos kd rw0 ss av) ++ (wT kA q cc ac co ad rc nm st an)) (tyK kA) s.heap.size (fun u => ((wS kA qs q tx len ((rrF tx len pos rw0).2.1) kd ((rrF tx len pos rw0).2.2) ss av) ++ (wT kA q cc ac co ad rc nm st an)))) A) ([.ref (qs 0)] : List Value).toArray s 0 0 A) (F0 mQ 4 ls [.int (nI b1)])
    refine lv_istore_n (lv' := [(1, .int (nI b1)), (0, .ref (qs 0))]) hx hb dX3_readRow_4 rfl hl (by decide) rfl (fun ls hl => ?_)
    refine lv_iload_n hx hb dX3_readRow_5 rfl (lv_at hl 0 rfl) ?_
    refine n_ifn_ge (a := b1) (tgt := 11) hx hb (by have := (digT_lt hq1).1; omega) dX3_readRow_6 (by decide) ?_
    refine lv_aload_n hx hb dX3_readRow_11 rfl (lv_at hl 1 rfl) ?_
    refine lv_dup hx hb dX3_readRow_12 rfl ?_
    refine n_get (ci := 3) (v := .int (nI pos)) (C := RX3) (T := TX3) (N := 8) hx hb hts hinX3 hown hK hP 0 rfl rfl 3 rfl ⟨rfl, rfl, rfl⟩ f33 rfl dX3_readRow_13 ?_
    refine lv_iconst (v := (nI 1)) hx hb dX3_readRow_16 (by decide) ?_
    refine n_iadd (v := (nI (pos + 1))) hx hb (nI_add _ _) dX3_readRow_17 ?_
    refine n_put (ci := 3) (v := .int (nI (pos + 1))) (C := RX3) (T := TX3) (N := 8) (ws' := ((wS kA qs q tx len (pos + 1) kd rw0 ss av) ++ (wT kA q cc ac co ad rc nm st an))) hx hb hts hinX3 tyX3 tyX3_ok nmX3 hown hK hP hD hS 0 rfl rfl 3 rfl ⟨rfl, rfl, rfl, rfl⟩ f33 rfl rfl rfl rfl dX3_readRow_18 (fun H locs hP hD hS => ?_)
    refine lv_aload_n hx hb dX3_readRow_21 rfl (lv_at hl 1 rfl) ?_
    refine lv_iload_n hx hb dX3_readRow_22 rfl (lv_at hl 0 rfl) ?_
    refine n_put (ci := 3) (v := .int (nI b1)) (C := RX3) (T := TX3) (N := 8) (ws' := ((wS kA qs q tx len (pos + 1) kd b1 ss av) ++ (wT kA q cc ac co ad rc nm st an))) hx hb hts hinX3 tyX3 tyX3_ok nmX3 hown hK hP hD hS 0 rfl rfl 5 rfl ⟨rfl, rfl, rfl, rfl⟩ f89 rfl rfl rfl rfl dX3_readRow_23 (fun H locs hP hD hS => ?_)
    refine lv_aload_n hx hb dX3_readRow_26 rfl (lv_at hl 1 rfl) ?_
    refine n_cV (b := qs 0) (As := []) (rest := []) (wc := ((wS kA qs q tx len (pos + 1) kd b1 ss av) ++ (wT kA q cc ac co ad rc nm st an))) hS0 (c_X3_digitHere lQ D kA qs tx len (pos + 1) kd b1 ss av q cc ac co ad rc nm st an (by first | assumption | omega) (by have := (digT_lt hq1).2; omega) (by first | assumption | omega)) (cwV 0 hts gX3_readRow_X3_digitHere rfl rfl rfl (by decide +kernel) ⟨Nat.le_of_ble_eq_true rfl, Nat.le_of_ble_eq_true rfl⟩) hP hK (q0 := 0) rfl rfl rfl rfl rfl hl.1 (Nat.le_of_ble_eq_true rfl) dX3_readRow_27 ⟨Nat.le_refl _, Nat.le_refl _⟩ (fun r27 h27 => ?_)
    subst h27
    cases hq27 : digT tx len (pos + 1) with
    | none =>
      show W pQ lQ eQ (headSpec wsX3_readRow (rmN 2 41)).room s mQ ([.ref (qs 0)] : List Value).toArray below meth cQ H locs 0 0 (MQ below (va_Qi (S := Unit) (fun (r : Int32) (u : Unit) => r = (bI ((rrF tx len pos rw0).1))) (wr_B D vwCl ((wS kA qs q tx len pos kd rw0 ss av) ++ (wT kA q cc ac co ad rc nm st an)) (tyK kA) s.heap.size (fun u => ((wS kA qs q tx len ((rrF tx len pos rw0).2.1) kd ((rrF tx len pos rw0).2.2) ss av) ++ (wT kA q cc ac co ad rc nm st an)))) A) ([.ref (qs 0)] : List Value).toArray s 0 0 A) (F0 mQ 30 ls [.int (oI none)])
      refine lv_istore_n (lv' := [(2, .int (oI none)), (1, .int (nI b1)), (0, .ref (qs 0))]) hx hb dX3_readRow_30 rfl hl (by decide) rfl (fun ls hl => ?_)
      refine lv_iload_n hx hb dX3_readRow_31 rfl (lv_at hl 0 rfl) ?_
      refine lv_if_lt (tgt := 55) hx hb dX3_readRow_32 (by decide) (fun _ => ?_) (fun h => absurd (by decide) h)
      refine lv_iconst (v := (nI 1)) hx hb dX3_readRow_55 (by decide) ?_
      have e9 : rrF tx len pos rw0 = (true, (pos + 1), b1) := by
        unfold rrF
        rw [hq1]; dsimp only; rw [hq27]
      have hP : va_P D vwCl (wS kA qs q tx len (rrF tx len pos rw0).2.1 kd (rrF tx len pos rw0).2.2 ss av ++ wT kA q cc ac co ad rc nm st an) H := by rw [e9]; exact hP
      have hD : va_D A (wS kA qs q tx len (rrF tx len pos rw0).2.1 kd (rrF tx len pos rw0).2.2 ss av ++ wT kA q cc ac co ad rc nm st an) := by rw [e9]; exact hD
      have hP : va_P D vwCl ((wS kA qs q tx len ((rrF tx len pos rw0).2.1) kd ((rrF tx len pos rw0).2.2) ss av) ++ (wT kA q cc ac co ad rc nm st an)) H := hP
      have hD : va_D A ((wS kA qs q tx len ((rrF tx len pos rw0).2.1) kd ((rrF tx len pos rw0).2.2) ss av) ++ (wT kA q cc ac co ad rc nm st an)) := hD
      exact n_wretz hx hb hr hlocks (post := fun (r : Int32) (u : Unit) => r = (bI ((rrF tx len pos rw0).1))) (w1 := fun u => ((wS kA qs q tx len ((rrF tx len pos rw0).2.1) kd ((rrF tx len pos rw0).2.2) ss av) ++ (wT kA q cc ac co ad rc nm st an))) rfl () (by rw [e9]; rfl) hP hD hK hS hAe dX3_readRow_56
    | some b27 =>
      show W pQ lQ eQ (headSpec wsX3_readRow (rmN 2 41)).room s mQ ([.ref (qs 0)] : List Value).toArray below meth cQ H locs 0 0 (MQ below (va_Qi (S := Unit) (fun (r : Int32) (u : Unit) => r = (bI ((rrF tx len pos rw0).1))) (wr_B D vwCl ((wS kA qs q tx len pos kd rw0 ss av) ++ (wT kA q cc ac co ad rc nm st an)) (tyK kA) s.heap.size (fun u => ((wS kA qs q tx len ((rrF tx len pos rw0).2.1) kd ((rrF tx len pos rw0).2.2) ss av) ++ (wT kA q cc ac co ad rc nm st an)))) A) ([.ref (qs 0)] : List Value).toArray s 0 0 A) (F0 mQ 30 ls [.int (nI b27)])
      refine lv_istore_n (lv' := [(2, .int (nI b27)), (1, .int (nI b1)), (0, .ref (qs 0))]) hx hb dX3_readRow_30 rfl hl (by decide) rfl (fun ls hl => ?_)
      refine lv_iload_n hx hb dX3_readRow_31 rfl (lv_at hl 0 rfl) ?_
      refine n_ifn_lt (a := b27) (tgt := 55) hx hb (by have := (digT_lt hq27).1; omega) dX3_readRow_32 (by decide) ?_
      refine lv_aload_n hx hb dX3_readRow_35 rfl (lv_at hl 2 rfl) ?_
      refine lv_dup hx hb dX3_readRow_36 rfl ?_
      refine n_get (ci := 3) (v := .int (nI (pos + 1))) (C := RX3) (T := TX3) (N := 8) hx hb hts hinX3 hown hK hP 0 rfl rfl 3 rfl ⟨rfl, rfl, rfl⟩ f33 rfl dX3_readRow_37 ?_
      refine lv_iconst (v := (nI 1)) hx hb dX3_readRow_40 (by decide) ?_
      refine n_iadd (v := (nI (pos + 2))) hx hb (nI_add _ _) dX3_readRow_41 ?_
      refine n_put (ci := 3) (v := .int (nI (pos + 2))) (C := RX3) (T := TX3) (N := 8) (ws' := ((wS kA qs q tx len (pos + 2) kd b1 ss av) ++ (wT kA q cc ac co ad rc nm st an))) hx hb hts hinX3 tyX3 tyX3_ok nmX3 hown hK hP hD hS 0 rfl rfl 3 rfl ⟨rfl, rfl, rfl, rfl⟩ f33 rfl rfl rfl rfl dX3_readRow_42 (fun H locs hP hD hS => ?_)
      refine lv_aload_n hx hb dX3_readRow_45 rfl (lv_at hl 2 rfl) ?_
      refine lv_bipush (v := (nI 10)) hx hb dX3_readRow_46 (by decide) ?_
      refine lv_iload_n hx hb dX3_readRow_48 rfl (lv_at hl 1 rfl) ?_
      refine n_imul (v := (nI (10 * b1))) hx hb (pk_mul _ _) dX3_readRow_49 ?_
      refine lv_iload_n hx hb dX3_readRow_50 rfl (lv_at hl 0 rfl) ?_
      refine n_iadd (v := (nI ((10 * b1) + b27))) hx hb (nI_add _ _) dX3_readRow_51 ?_
      refine n_put (ci := 3) (v := .int (nI ((10 * b1) + b27))) (C := RX3) (T := TX3) (N := 8) (ws' := ((wS kA qs q tx len (pos + 2) kd ((10 * b1) + b27) ss av) ++ (wT kA q cc ac co ad rc nm st an))) hx hb hts hinX3 tyX3 tyX3_ok nmX3 hown hK hP hD hS 0 rfl rfl 5 rfl ⟨rfl, rfl, rfl, rfl⟩ f89 rfl rfl rfl rfl dX3_readRow_52 (fun H locs hP hD hS => ?_)
      refine lv_iconst (v := (nI 1)) hx hb dX3_readRow_55 (by decide) ?_
      have e9 : rrF tx len pos rw0 = (true, (pos + 2), ((10 * b1) + b27)) := by
        unfold rrF
        rw [hq1]; dsimp only; rw [hq27]
      have hP : va_P D vwCl (wS kA qs q tx len (rrF tx len pos rw0).2.1 kd (rrF tx len pos rw0).2.2 ss av ++ wT kA q cc ac co ad rc nm st an) H := by rw [e9]; exact hP
      have hD : va_D A (wS kA qs q tx len (rrF tx len pos rw0).2.1 kd (rrF tx len pos rw0).2.2 ss av ++ wT kA q cc ac co ad rc nm st an) := by rw [e9]; exact hD
      have hP : va_P D vwCl ((wS kA qs q tx len ((rrF tx len pos rw0).2.1) kd ((rrF tx len pos rw0).2.2) ss av) ++ (wT kA q cc ac co ad rc nm st an)) H := hP
      have hD : va_D A ((wS kA qs q tx len ((rrF tx len pos rw0).2.1) kd ((rrF tx len pos rw0).2.2) ss av) ++ (wT kA q cc ac co ad rc nm st an)) := hD
      exact n_wretz hx hb hr hlocks (post := fun (r : Int32) (u : Unit) => r = (bI ((rrF tx len pos rw0).1))) (w1 := fun u => ((wS kA qs q tx len ((rrF tx len pos rw0).2.1) kd ((rrF tx len pos rw0).2.2) ss av) ++ (wT kA q cc ac co ad rc nm st an))) rfl () (by rw [e9]; rfl) hP hD hK hS hAe dX3_readRow_56

set_option maxHeartbeats 4000000 in
set_option maxRecDepth 100000 in
theorem c_X3_readAction (lQ : Launch) (D : va_G) (kA : Nat → ClassId) (qs : Nat → Nat) (tx : Nat → Nat) (len : Nat) (pos : Nat) (kd : Option Nat) (rw0 : Nat) (ss : Nat) (av : Option Nat) (q : Nat → Nat) (cc : Nat) (ac : Nat → Nat) (co : Nat → Nat) (ad : Nat) (rc : Nat) (nm : Nat → Nat) (st : Nat → Nat) (an : Nat → Nat) (sz : Nat) (hlen : len ≤ 150) (hpos : pos ≤ 150) (htx : ∀ j, j < len → tx j < 128) : Met lQ yX3_readAction wsX3_readAction (rmN 2 41) (wr_Pc D vwCl [.ref (qs 0)] ((wS kA qs q tx len pos kd rw0 ss av) ++ (wT kA q cc ac co ad rc nm st an)) (tyK kA) sz) (va_Qi (S := Unit) (fun (r : Int32) (u : Unit) => r = (bI ((raF tx len pos av).1))) (wr_B D vwCl ((wS kA qs q tx len pos kd rw0 ss av) ++ (wT kA q cc ac co ad rc nm st an)) (tyK kA) sz (fun u => ((wS kA qs q tx len ((raF tx len pos av).2.1) kd rw0 ss ((raF tx len pos av).2.2)) ++ (wT kA q cc ac co ad rc nm st an)))) (va_A ((wS kA qs q tx len pos kd rw0 ss av) ++ (wT kA q cc ac co ad rc nm st an)) sz)) 0 0 (va_A ((wS kA qs q tx len pos kd rw0 ss av) ++ (wT kA q cc ac co ad rc nm st an)) sz) := by
  refine Met.ofW (cc := cX3_readAction) (maxL := 1) (ret := (some .boolean)) (by decide) rfl ?_
  intro pQ eQ s mQ args below meth cQ s₁ B hml hv
  obtain ⟨rfl, hsz, hP, hK, hD0⟩ := hv
  have hx := B.exec
  have hb := B.bytes
  have hr := B.returns
  have hts := atoms_spec (ws := wsX3_readAction) B.pre
  have hown : s.vm.findClass RX3 = some mQ.cls := findClass_of_methodNamed B.named
  have hlocks : meth.locks = false := B.notSynchronized
  have hS0 : CallFix pQ mQ cQ cX3_readAction 1 s ([.ref (qs 0)] : List Value).toArray wsX3_readAction RX3 := ⟨hx, hb, hml, hown, hts⟩
  subst hsz
  have hD := hD0.self (sz := s.heap.size)
  generalize hAe : va_A ((wS kA qs q tx len pos kd rw0 ss av) ++ (wT kA q cc ac co ad rc nm st an)) s.heap.size = A at hD ⊢
  have hA : ∀ q : Nat, s.heap.size ≤ q → A q := fun q h => by rw [← hAe]; exact Or.inr h
  have hS : va_S A s.heap s.heap [] := va_S.rf
  have f92 : (Cond.fieldLink RX3 92 "AskedRules$Script" "action" "I").before ([.ref (qs 0)] : List Value).toArray s = true := hts _ (by decide +kernel)
  have hinX3 : ∀ w ∈ wsX30, w ∈ wsX3_readAction := by decide +kernel
  have f33 : (Cond.fieldLink RX3 33 "AskedRules$Script" "position" "I").before ([.ref (qs 0)] : List Value).toArray s = true := hts _ (by decide +kernel)
  have hl := lv_entry ([.ref (qs 0)]) (n := 1) (Nat.le_of_ble_eq_true rfl)
  rw [lg_entry_eq]
  generalize (lg_sl ([.ref (qs 0)]) ++ List.replicate (1 - (lg_sl ([.ref (qs 0)])).length) Slot.unset).toArray = ls at hl ⊢
  have hl : lv_has ls 1 [(0, .ref (qs 0))] := hl
  have hP : va_P D vwCl ((wS kA qs q tx len pos kd rw0 ss av) ++ (wT kA q cc ac co ad rc nm st an)) s.heap := hP
  have hD : va_D A ((wS kA qs q tx len pos kd rw0 ss av) ++ (wT kA q cc ac co ad rc nm st an)) := hD
  refine lv_aload_n hx hb dX3_readAction_0 rfl (lv_at hl 0 rfl) ?_
  refine lv_bipush (v := (nI 62)) hx hb dX3_readAction_1 (by decide) ?_
  refine n_wVi (b := qs 0) (As := [.int (nI 62)]) (rest := []) (wr := []) (ws' := fun u => ((wS kA qs q tx len (stpF tx len 62 pos) kd rw0 ss av) ++ (wT kA q cc ac co ad rc nm st an))) hS0 (c_X3_readByte lQ D kA qs tx len pos kd rw0 ss av q cc ac co ad rc nm st an 62 s.heap.size (by first | assumption | omega) (by first | assumption | omega) (by first | assumption | omega) (by first | assumption | omega)) (cwV 1 hts gX3_readAction_X3_readByte rfl rfl rfl (by decide +kernel) ⟨Nat.le_of_ble_eq_true rfl, Nat.le_of_ble_eq_true rfl⟩) hP hD hS hA hK hK (by simpa only [List.append_assoc, List.append_nil] using ((List.Perm.refl _).trans (List.Perm.append_left _ (List.Perm.of_eq (List.append_nil _).symm)))) (fun u => List.Perm.symm (by simpa only [List.append_assoc, List.append_nil] using ((List.Perm.refl _).trans (List.Perm.append_left _ (List.Perm.of_eq (List.append_nil _).symm))))) (q0 := 0) rfl rfl rfl rfl rfl hl.1 (Nat.le_of_ble_eq_true rfl) dX3_readAction_3 ⟨Nat.le_refl _, Nat.le_refl _⟩ (fun r3 u3 H locs h3 hP hD hS => ?_)
  subst h3
  have hP : va_P D vwCl ((wS kA qs q tx len (stpF tx len 62 pos) kd rw0 ss av) ++ (wT kA q cc ac co ad rc nm st an)) H := hP
  have hD : va_D A ((wS kA qs q tx len (stpF tx len 62 pos) kd rw0 ss av) ++ (wT kA q cc ac co ad rc nm st an)) := hD
  refine n_ifb_ne (b := decide (hereF tx len pos = some 62)) (tgt := 11) hx hb dX3_readAction_6 (by decide) (fun c6 => ?_) (fun c6 => ?_)
  · have hb6 := of_decide_eq_true c6
    have es6 : stpF tx len 62 pos = pos + 1 := if_pos hb6
    rw [es6] at hP hD
    refine lv_aload_n hx hb dX3_readAction_11 rfl (lv_at hl 0 rfl) ?_
    refine lv_aload_n hx hb dX3_readAction_12 rfl (lv_at hl 0 rfl) ?_
    refine n_cV (b := qs 0) (As := []) (rest := [.ref (qs 0)]) (wc := ((wS kA qs q tx len (pos + 1) kd rw0 ss av) ++ (wT kA q cc ac co ad rc nm st an))) hS0 (c_X3_digitHere lQ D kA qs tx len (pos + 1) kd rw0 ss av q cc ac co ad rc nm st an (by first | assumption | omega) (by have := (hereF_lt hb6).1; omega) (by first | assumption | omega)) (cwV 0 hts gX3_readAction_X3_digitHere rfl rfl rfl (by decide +kernel) ⟨Nat.le_of_ble_eq_true rfl, Nat.le_of_ble_eq_true rfl⟩) hP hK (q0 := 0) rfl rfl rfl rfl rfl hl.1 (Nat.le_of_ble_eq_true rfl) dX3_readAction_13 ⟨Nat.le_refl _, Nat.le_refl _⟩ (fun r13 h13 => ?_)
    subst h13
    cases hq13 : digT tx len (pos + 1) with
    | none =>
      show W pQ lQ eQ (headSpec wsX3_readAction (rmN 2 41)).room s mQ ([.ref (qs 0)] : List Value).toArray below meth cQ H locs 0 0 (MQ below (va_Qi (S := Unit) (fun (r : Int32) (u : Unit) => r = (bI ((raF tx len pos av).1))) (wr_B D vwCl ((wS kA qs q tx len pos kd rw0 ss av) ++ (wT kA q cc ac co ad rc nm st an)) (tyK kA) s.heap.size (fun u => ((wS kA qs q tx len ((raF tx len pos av).2.1) kd rw0 ss ((raF tx len pos av).2.2)) ++ (wT kA q cc ac co ad rc nm st an)))) A) ([.ref (qs 0)] : List Value).toArray s 0 0 A) (F0 mQ 16 ls [.int (oI none), .ref (qs 0)])
      refine n_put (ci := 3) (v := .int (oI none)) (C := RX3) (T := TX3) (N := 8) (ws' := ((wS kA qs q tx len (pos + 1) kd rw0 ss none) ++ (wT kA q cc ac co ad rc nm st an))) hx hb hts hinX3 tyX3 tyX3_ok nmX3 hown hK hP hD hS 0 rfl rfl 7 rfl ⟨rfl, rfl, rfl, rfl⟩ f92 rfl rfl rfl rfl dX3_readAction_16 (fun H locs hP hD hS => ?_)
      refine lv_aload_n hx hb dX3_readAction_19 rfl (lv_at hl 0 rfl) ?_
      refine n_get (ci := 3) (v := .int (oI none)) (C := RX3) (T := TX3) (N := 8) hx hb hts hinX3 hown hK hP 0 rfl rfl 7 rfl ⟨rfl, rfl, rfl⟩ f92 rfl dX3_readAction_20 ?_
      refine lv_if_ge (tgt := 28) hx hb dX3_readAction_23 (by decide) (fun h => absurd h (by decide)) (fun _ => ?_)
      refine lv_iconst (v := (nI 0)) hx hb dX3_readAction_26 (by decide) ?_
      have e9 : raF tx len pos av = (false, pos + 1, none) := by
        unfold raF
        rw [if_pos hb6, hq13]
      have hP : va_P D vwCl (wS kA qs q tx len (raF tx len pos av).2.1 kd rw0 ss (raF tx len pos av).2.2 ++ wT kA q cc ac co ad rc nm st an) H := by rw [e9]; exact hP
      have hD : va_D A (wS kA qs q tx len (raF tx len pos av).2.1 kd rw0 ss (raF tx len pos av).2.2 ++ wT kA q cc ac co ad rc nm st an) := by rw [e9]; exact hD
      have hP : va_P D vwCl ((wS kA qs q tx len ((raF tx len pos av).2.1) kd rw0 ss ((raF tx len pos av).2.2)) ++ (wT kA q cc ac co ad rc nm st an)) H := hP
      have hD : va_D A ((wS kA qs q tx len ((raF tx len pos av).2.1) kd rw0 ss ((raF tx len pos av).2.2)) ++ (wT kA q cc ac co ad rc nm st an)) := hD
      exact n_wretz hx hb hr hlocks (post := fun (r : Int32) (u : Unit) => r = (bI ((raF tx len pos av).1))) (w1 := fun u => ((wS kA qs q tx len ((raF tx len pos av).2.1) kd rw0 ss ((raF tx len pos av).2.2)) ++ (wT kA q cc ac co ad rc nm st an))) rfl () (by rw [e9]; rfl) hP hD hK hS hAe dX3_readAction_27
    | some b13 =>
      show W pQ lQ eQ (headSpec wsX3_readAction (rmN 2 41)).room s mQ ([.ref (qs 0)] : List Value).toArray below meth cQ H locs 0 0 (MQ below (va_Qi (S := Unit) (fun (r : Int32) (u : Unit) => r = (bI ((raF tx len pos av).1))) (wr_B D vwCl ((wS kA qs q tx len pos kd rw0 ss av) ++ (wT kA q cc ac co ad rc nm st an)) (tyK kA) s.heap.size (fun u => ((wS kA qs q tx len ((raF tx len pos av).2.1) kd rw0 ss ((raF tx len pos av).2.2)) ++ (wT kA q cc ac co ad rc nm st an)))) A) ([.ref (qs 0)] : List Value).toArray s 0 0 A) (F0 mQ 16 ls [.int (nI b13), .ref (qs 0)])
      refine n_put (ci := 3) (v := .int (oI (some b13))) (C := RX3) (T := TX3) (N := 8) (ws' := ((wS kA qs q tx len (pos + 1) kd rw0 ss (some b13)) ++ (wT kA q cc ac co ad rc nm st an))) hx hb hts hinX3 tyX3 tyX3_ok nmX3 hown hK hP hD hS 0 rfl rfl 7 rfl ⟨rfl, rfl, rfl, rfl⟩ f92 rfl rfl rfl rfl dX3_readAction_16 (fun H locs hP hD hS => ?_)
      refine lv_aload_n hx hb dX3_readAction_19 rfl (lv_at hl 0 rfl) ?_
      refine n_get (ci := 3) (v := .int (nI b13)) (C := RX3) (T := TX3) (N := 8) hx hb hts hinX3 hown hK hP 0 rfl rfl 7 rfl ⟨rfl, rfl, rfl⟩ f92 rfl dX3_readAction_20 ?_
      refine n_ifn_ge (a := b13) (tgt := 28) hx hb (by have := (digT_lt hq13).1; omega) dX3_readAction_23 (by decide) ?_
      refine lv_aload_n hx hb dX3_readAction_28 rfl (lv_at hl 0 rfl) ?_
      refine lv_dup hx hb dX3_readAction_29 rfl ?_
      refine n_get (ci := 3) (v := .int (nI (pos + 1))) (C := RX3) (T := TX3) (N := 8) hx hb hts hinX3 hown hK hP 0 rfl rfl 3 rfl ⟨rfl, rfl, rfl⟩ f33 rfl dX3_readAction_30 ?_
      refine lv_iconst (v := (nI 1)) hx hb dX3_readAction_33 (by decide) ?_
      refine n_iadd (v := (nI (pos + 2))) hx hb (nI_add _ _) dX3_readAction_34 ?_
      refine n_put (ci := 3) (v := .int (nI (pos + 2))) (C := RX3) (T := TX3) (N := 8) (ws' := ((wS kA qs q tx len (pos + 2) kd rw0 ss (some b13)) ++ (wT kA q cc ac co ad rc nm st an))) hx hb hts hinX3 tyX3 tyX3_ok nmX3 hown hK hP hD hS 0 rfl rfl 3 rfl ⟨rfl, rfl, rfl, rfl⟩ f33 rfl rfl rfl rfl dX3_readAction_35 (fun H locs hP hD hS => ?_)
      refine lv_iconst (v := (nI 1)) hx hb dX3_readAction_38 (by decide) ?_
      have e9 : raF tx len pos av = (true, pos + 2, some b13) := by
        unfold raF
        rw [if_pos hb6, hq13]
      have hP : va_P D vwCl (wS kA qs q tx len (raF tx len pos av).2.1 kd rw0 ss (raF tx len pos av).2.2 ++ wT kA q cc ac co ad rc nm st an) H := by rw [e9]; exact hP
      have hD : va_D A (wS kA qs q tx len (raF tx len pos av).2.1 kd rw0 ss (raF tx len pos av).2.2 ++ wT kA q cc ac co ad rc nm st an) := by rw [e9]; exact hD
      have hP : va_P D vwCl ((wS kA qs q tx len ((raF tx len pos av).2.1) kd rw0 ss ((raF tx len pos av).2.2)) ++ (wT kA q cc ac co ad rc nm st an)) H := hP
      have hD : va_D A ((wS kA qs q tx len ((raF tx len pos av).2.1) kd rw0 ss ((raF tx len pos av).2.2)) ++ (wT kA q cc ac co ad rc nm st an)) := hD
      exact n_wretz hx hb hr hlocks (post := fun (r : Int32) (u : Unit) => r = (bI ((raF tx len pos av).1))) (w1 := fun u => ((wS kA qs q tx len ((raF tx len pos av).2.1) kd rw0 ss ((raF tx len pos av).2.2)) ++ (wT kA q cc ac co ad rc nm st an))) rfl () (by rw [e9]; rfl) hP hD hK hS hAe dX3_readAction_39
  · have hb6 := of_decide_eq_false c6
    have es6 : stpF tx len 62 pos = pos := if_neg hb6
    rw [es6] at hP hD
    refine lv_iconst (v := (nI 0)) hx hb dX3_readAction_9 (by decide) ?_
    have e9 : raF tx len pos av = (false, pos, av) := by
      unfold raF
      rw [if_neg hb6]
    have hP : va_P D vwCl (wS kA qs q tx len (raF tx len pos av).2.1 kd rw0 ss (raF tx len pos av).2.2 ++ wT kA q cc ac co ad rc nm st an) H := by rw [e9]; exact hP
    have hD : va_D A (wS kA qs q tx len (raF tx len pos av).2.1 kd rw0 ss (raF tx len pos av).2.2 ++ wT kA q cc ac co ad rc nm st an) := by rw [e9]; exact hD
    have hP : va_P D vwCl ((wS kA qs q tx len ((raF tx len pos av).2.1) kd rw0 ss ((raF tx len pos av).2.2)) ++ (wT kA q cc ac co ad rc nm st an)) H := hP
    have hD : va_D A ((wS kA qs q tx len ((raF tx len pos av).2.1) kd rw0 ss ((raF tx len pos av).2.2)) ++ (wT kA q cc ac co ad rc nm st an)) := hD
    exact n_wretz hx hb hr hlocks (post := fun (r : Int32) (u : Unit) => r = (bI ((raF tx len pos av).1))) (w1 := fun u => ((wS kA qs q tx len ((raF tx len pos av).2.1) kd rw0 ss ((raF tx len pos av).2.2)) ++ (wT kA q cc ac co ad rc nm st an))) rfl () (by rw [e9]; rfl) hP hD hK hS hAe dX3_readAction_10
