
theorem bF {b : Bool} (h : b = false) : ¬ b = true := by rw [h]; decide
theorem by8 {x : Nat} (h : x < 128) : (nI x).toInt8.toInt32 = nI x := by
  have : ∀ x, x < 128 → (nI x).toInt8.toInt32 = nI x := by decide +kernel
  exact this x h
theorem by8n {x : Nat} (h : x < 128) : vp_nar .byte (nI x) = nI x := by8 h
theorem rasL_z {tx : Nat → Nat} {len n k sets p : Nat} {ac : Nat → Nat} (hk : k = 0) : rasL tx len ac (n + 1) k sets p = if (rsF tx len (ac k) p).1 = 0 then (false, sets, (rsF tx len (ac k) p).2) else rasL tx len ac n (k + 1) (sets ||| ((rsF tx len (ac k) p).1 <<< (4 * k))) (rsF tx len (ac k) p).2 := by subst hk; rfl
theorem rasL_c {tx : Nat → Nat} {len n k sets p : Nat} {ac : Nat → Nat} (hk : 0 < k) (h : hereF tx len p = some 44) : rasL tx len ac (n + 1) k sets p = if (rsF tx len (ac k) (p + 1)).1 = 0 then (false, sets, (rsF tx len (ac k) (p + 1)).2) else rasL tx len ac n (k + 1) (sets ||| ((rsF tx len (ac k) (p + 1)).1 <<< (4 * k))) (rsF tx len (ac k) (p + 1)).2 := by
  have e : ¬ k = 0 := by omega
  show (if k = 0 ∨ hereF tx len p = some 44 then (if (rsF tx len (ac k) (if k = 0 then p else p + 1)).1 = 0 then (false, sets, (rsF tx len (ac k) (if k = 0 then p else p + 1)).2) else rasL tx len ac n (k + 1) (sets ||| ((rsF tx len (ac k) (if k = 0 then p else p + 1)).1 <<< (4 * k))) (rsF tx len (ac k) (if k = 0 then p else p + 1)).2) else (false, sets, p)) = _
  rw [if_pos (Or.inr h), if_neg e]
theorem rasL_n {tx : Nat → Nat} {len n k sets p : Nat} {ac : Nat → Nat} (hk : 0 < k) (h : ¬ hereF tx len p = some 44) : rasL tx len ac (n + 1) k sets p = (false, sets, p) := by
  have e : ¬ (k = 0 ∨ hereF tx len p = some 44) := fun h9 => h9.elim (fun h8 => by omega) h
  show (if k = 0 ∨ hereF tx len p = some 44 then (if (rsF tx len (ac k) (if k = 0 then p else p + 1)).1 = 0 then (false, sets, (rsF tx len (ac k) (if k = 0 then p else p + 1)).2) else rasL tx len ac n (k + 1) (sets ||| ((rsF tx len (ac k) (if k = 0 then p else p + 1)).1 <<< (4 * k))) (rsF tx len (ac k) (if k = 0 then p else p + 1)).2) else (false, sets, p)) = _
  rw [if_neg e]
theorem dgL_le {tx : Nat → Nat} {len a : Nat} : ∀ {n least set p : Nat}, p ≤ len → (dgL tx len a n least set p).2 ≤ len
  | 0, _, _, _, h => h
  | n + 1, least, set, p, h => by
    cases e : digT tx len p with
    | none => rw [dgL_n e]; exact h
    | some d =>
      by_cases e2 : least ≤ d ∧ d < a
      · rw [dgL_t e e2]; exact dgL_le (digT_lt e).2
      · rw [dgL_f e e2]; exact h
theorem rsF_le {tx : Nat → Nat} {len a p : Nat} (h : p ≤ len) : (rsF tx len a p).2 ≤ len := by
  unfold rsF
  by_cases e : hereF tx len p = some 45
  · rw [if_pos e]; exact (hereF_lt e).1
  · rw [if_neg e]; exact dgL_le h
theorem dgL_lt {tx : Nat → Nat} {len a : Nat} (ha : a ≤ 4) : ∀ {n least set p : Nat}, set < 16 → (dgL tx len a n least set p).1 < 16
  | 0, _, _, _, h => h
  | n + 1, least, set, p, h => by
    cases e : digT tx len p with
    | none => rw [dgL_n e]; exact h
    | some d =>
      by_cases e2 : least ≤ d ∧ d < a
      · rw [dgL_t e e2]
        refine dgL_lt ha ?_
        have hd : 1 <<< d < 16 := by
          have : ∀ d, d < 4 → 1 <<< d < 16 := by decide
          exact this d (by omega)
        exact Nat.or_lt_two_pow (n := 4) h hd
      · rw [dgL_f e e2]; exact h
theorem rsF_lt {tx : Nat → Nat} {len a p : Nat} (ha : a ≤ 4) : (rsF tx len a p).1 < 16 := by
  unfold rsF
  by_cases e : hereF tx len p = some 45
  · rw [if_pos e]; exact fulN_lt ha
  · rw [if_neg e]; exact dgL_lt ha (by decide)
theorem rasL_le {tx : Nat → Nat} {len : Nat} {ac : Nat → Nat} : ∀ {n k sets p : Nat}, p ≤ len → (rasL tx len ac n k sets p).2.2 ≤ len
  | 0, _, _, _, h => h
  | n + 1, k, sets, p, h => by
    by_cases hk : k = 0
    · subst hk
      rw [rasL_z rfl]
      by_cases e : (rsF tx len (ac 0) p).1 = 0
      · rw [if_pos e]; exact rsF_le h
      · rw [if_neg e]; exact rasL_le (rsF_le h)
    · by_cases hc : hereF tx len p = some 44
      · rw [rasL_c (by omega) hc]
        have h1 := (hereF_lt hc).1
        by_cases e : (rsF tx len (ac k) (p + 1)).1 = 0
        · rw [if_pos e]; exact rsF_le h1
        · rw [if_neg e]; exact rasL_le (rsF_le h1)
      · rw [rasL_n (by omega) hc]; exact h
theorem wenF_le {tx : Nat → Nat} {len : Nat} : ∀ {n p : Nat}, p ≤ len → wenF tx len n p ≤ len
  | 0, _, h => h
  | n + 1, p, h => by
    cases e : hereF tx len p with
    | none => rw [wenF_n e]; exact h
    | some b =>
      by_cases e2 : 97 ≤ b ∧ b ≤ 122
      · rw [wenF_t e e2]; exact wenF_le (hereF_lt e).1
      · rw [wenF_f e e2]; exact h
theorem skpF_le {tx : Nat → Nat} {len : Nat} : ∀ {n p : Nat}, p ≤ len → skpF tx len n p ≤ len
  | 0, _, h => h
  | n + 1, p, h => by
    by_cases e : hereF tx len p = some 32
    · rw [skpF_t e]; exact skpF_le (hereF_lt e).1
    · rw [skpF_f e]; exact h
theorem stpF_le {tx : Nat → Nat} {len w p : Nat} (h : p ≤ len) : stpF tx len w p ≤ len := by
  unfold stpF
  by_cases e : hereF tx len p = some w
  · rw [if_pos e]; exact (hereF_lt e).1
  · rw [if_neg e]; exact h
theorem raF_le {tx : Nat → Nat} {len p : Nat} {av : Option Nat} (h : p ≤ len) : (raF tx len p av).2.1 ≤ len := by
  unfold raF
  by_cases e : hereF tx len p = some 62
  · rw [if_pos e]
    cases e2 : digT tx len (p + 1) with
    | none => exact (hereF_lt e).1
    | some a => exact (digT_lt e2).2
  · rw [if_neg e]; exact h
theorem raF_av {tx : Nat → Nat} {len p : Nat} {av : Option Nat} : (raF tx len p av).1 = (raF tx len p none).1 ∧ (raF tx len p av).2.1 = (raF tx len p none).2.1 ∧ ((raF tx len p none).1 = true → (raF tx len p av).2.2 = (raF tx len p none).2.2) := by
  unfold raF
  by_cases e : hereF tx len p = some 62
  · rw [if_pos e, if_pos e]; exact ⟨rfl, rfl, fun _ => rfl⟩
  · rw [if_neg e, if_neg e]; exact ⟨rfl, rfl, fun h => by cases h⟩
theorem rrF_le {tx : Nat → Nat} {len p r : Nat} (h : p ≤ len) : (rrF tx len p r).2.1 ≤ len := by
  unfold rrF
  cases e : digT tx len p with
  | none => exact h
  | some a =>
    dsimp only
    cases e2 : digT tx len (p + 1) with
    | none => exact (digT_lt e).2
    | some b => exact (digT_lt e2).2
theorem rrF_rw {tx : Nat → Nat} {len p r : Nat} : (rrF tx len p r).1 = (rrF tx len p 0).1 ∧ (rrF tx len p r).2.1 = (rrF tx len p 0).2.1 ∧ ((rrF tx len p 0).1 = true → (rrF tx len p r).2.2 = (rrF tx len p 0).2.2) := by
  unfold rrF
  cases e : digT tx len p with
  | none => exact ⟨rfl, rfl, fun h => by cases h⟩
  | some a => exact ⟨rfl, rfl, fun _ => rfl⟩
theorem kndF_lt {tx : Nat → Nat} {st p b : Nat} (h : kndF tx st p = some b) : b < 4 := by
  unfold kndF at h
  by_cases e0 : wisB tx st p 0 = true
  · rw [if_pos e0] at h; cases h; decide
  · rw [if_neg e0] at h
    by_cases e1 : wisB tx st p 1 = true
    · rw [if_pos e1] at h; cases h; decide
    · rw [if_neg e1] at h
      by_cases e2 : wisB tx st p 2 = true
      · rw [if_pos e2] at h; cases h; decide
      · rw [if_neg e2] at h
        by_cases e3 : wisB tx st p 3 = true
        · rw [if_pos e3] at h; cases h; decide
        · rw [if_neg e3] at h; cases h
/-- after the word: an if, a row's command, merge -/
def rc0 (tx : Nat → Nat) (len : Nat) (ac : Nat → Nat) (cc w : Nat) : Bool × Nat := if hereF tx len w = some 32 then
  (if (rasL tx len ac cc 0 0 (w + 1)).1 = true then
    (if (raF tx len (rasL tx len ac cc 0 0 (w + 1)).2.2 none).1 = true then
      (decide (hereF tx len (raF tx len (rasL tx len ac cc 0 0 (w + 1)).2.2 none).2.1 = some 59), stpF tx len 59 (raF tx len (rasL tx len ac cc 0 0 (w + 1)).2.2 none).2.1)
     else (false, (raF tx len (rasL tx len ac cc 0 0 (w + 1)).2.2 none).2.1))
   else (false, (rasL tx len ac cc 0 0 (w + 1)).2.2)) else (false, w)
def rc1 (tx : Nat → Nat) (len w : Nat) : Bool × Nat := if hereF tx len w = some 32 then
  (if (rrF tx len (w + 1) 0).1 = true then (decide (hereF tx len (rrF tx len (w + 1) 0).2.1 = some 59), stpF tx len 59 (rrF tx len (w + 1) 0).2.1) else (false, (rrF tx len (w + 1) 0).2.1)) else (false, w)
def rc3 (tx : Nat → Nat) (len w : Nat) : Bool × Nat := (decide (hereF tx len w = some 59), stpF tx len 59 w)
/-- one command from p on: is it whole, and where the reading ends -/
def rcK (tx : Nat → Nat) (len : Nat) (ac : Nat → Nat) (cc p w : Nat) : Option Nat → Bool × Nat
  | none => (false, p)
  | some k => if k = 0 then rc0 tx len ac cc w else if k = 3 then rc3 tx len w else rc1 tx len w
def rcP (tx : Nat → Nat) (len : Nat) (ac : Nat → Nat) (cc p : Nat) : Bool × Nat := rcK tx len ac cc p (wenF tx len 150 p) (kndF tx p (wenF tx len 150 p))
/-- what a whole command says -/
def rcC (tx : Nat → Nat) (len : Nat) (ac : Nat → Nat) (cc p : Nat) (kd : Option Nat) (rw0 ss : Nat) (av : Option Nat) : Prop :=
  kd = kndF tx p (wenF tx len 150 p) ∧ (kd = some 0 → ss = (rasL tx len ac cc 0 0 (wenF tx len 150 p + 1)).2.1 ∧ av = (raF tx len (rasL tx len ac cc 0 0 (wenF tx len 150 p + 1)).2.2 none).2.2) ∧ (kd = some 1 ∨ kd = some 2 → rw0 = (rrF tx len (wenF tx len 150 p + 1) 0).2.2)
theorem rc0_le {tx : Nat → Nat} {len : Nat} {ac : Nat → Nat} {cc w : Nat} (h : w ≤ len) : (rc0 tx len ac cc w).2 ≤ len := by
  unfold rc0
  by_cases e : hereF tx len w = some 32
  · rw [if_pos e]
    have h1 : (rasL tx len ac cc 0 0 (w + 1)).2.2 ≤ len := rasL_le (hereF_lt e).1
    by_cases e1 : (rasL tx len ac cc 0 0 (w + 1)).1 = true
    · rw [if_pos e1]
      by_cases e2 : (raF tx len (rasL tx len ac cc 0 0 (w + 1)).2.2 none).1 = true
      · rw [if_pos e2]; exact stpF_le (raF_le h1)
      · rw [if_neg e2]; exact raF_le h1
    · rw [if_neg e1]; exact h1
  · rw [if_neg e]; exact h
theorem rc1_le {tx : Nat → Nat} {len : Nat} {w : Nat} (h : w ≤ len) : (rc1 tx len w).2 ≤ len := by
  unfold rc1
  by_cases e : hereF tx len w = some 32
  · rw [if_pos e]
    have h1 : (rrF tx len (w + 1) 0).2.1 ≤ len := rrF_le (hereF_lt e).1
    by_cases e1 : (rrF tx len (w + 1) 0).1 = true
    · rw [if_pos e1]; exact stpF_le h1
    · rw [if_neg e1]; exact h1
  · rw [if_neg e]; exact h
theorem rcP_le {tx : Nat → Nat} {len : Nat} {ac : Nat → Nat} {cc p : Nat} (h : p ≤ len) : (rcP tx len ac cc p).2 ≤ len := by
  unfold rcP
  cases kndF tx p (wenF tx len 150 p) with
  | none => exact h
  | some k =>
    show (if k = 0 then rc0 tx len ac cc _ else if k = 3 then rc3 tx len _ else rc1 tx len _).2 ≤ len
    by_cases e : k = 0
    · rw [if_pos e]; exact rc0_le (wenF_le h)
    · rw [if_neg e]
      by_cases e1 : k = 3
      · rw [if_pos e1]; exact stpF_le (wenF_le h)
      · rw [if_neg e1]; exact rc1_le (wenF_le h)
/-- the first fault among n more commands -/
def ffF (tx : Nat → Nat) (len : Nat) (ac : Nat → Nat) (cc : Nat) : Nat → Nat → Option Nat
  | 0, _ => none
  | n + 1, p => if len ≤ p then none else if (rcP tx len ac cc p).1 = true then ffF tx len ac cc n (skpF tx len 150 (rcP tx len ac cc p).2) else some (rcP tx len ac cc p).2

set_option maxHeartbeats 4000000 in
set_option maxRecDepth 100000 in
theorem c_X3_append (lQ : Launch) (D : va_G) (kA : Nat → ClassId) (qs : Nat → Nat) (tx : Nat → Nat) (len : Nat) (pos : Nat) (kd : Option Nat) (rw0 : Nat) (ss : Nat) (av : Option Nat) (q : Nat → Nat) (cc : Nat) (ac : Nat → Nat) (co : Nat → Nat) (ad : Nat) (rc : Nat) (nm : Nat → Nat) (st : Nat → Nat) (an : Nat → Nat) (w : Nat) (sz : Nat) (hlen : len < 150) (hw : w < 128) : Met lQ yX3_append wsX3_append (rmN 0 0) (wr_Pc D vwCl [.ref (qs 0), .int (nI w)] ((wS kA qs q tx len pos kd rw0 ss av) ++ (wT kA q cc ac co ad rc nm st an)) (tyK kA) sz) (va_Qv (S := Unit) (fun (u : Unit) => True) (wr_B D vwCl ((wS kA qs q tx len pos kd rw0 ss av) ++ (wT kA q cc ac co ad rc nm st an)) (tyK kA) sz (fun u => ((wS kA qs q (va_up tx len w) (len + 1) pos kd rw0 ss av) ++ (wT kA q cc ac co ad rc nm st an)))) (va_A ((wS kA qs q tx len pos kd rw0 ss av) ++ (wT kA q cc ac co ad rc nm st an)) sz)) 0 0 (va_A ((wS kA qs q tx len pos kd rw0 ss av) ++ (wT kA q cc ac co ad rc nm st an)) sz) := by
  refine Met.ofW (cc := cX3_append) (maxL := 2) (ret := none) (by decide) rfl ?_
  intro pQ eQ s mQ args below meth cQ s₁ B hml hv
  obtain ⟨rfl, hsz, hP, hK, hD0⟩ := hv
  have hx := B.exec
  have hb := B.bytes
  have hr := B.returns
  have hts := atoms_spec (ws := wsX3_append) B.pre
  have hown : s.vm.findClass RX3 = some mQ.cls := findClass_of_methodNamed B.named
  have hlocks : meth.locks = false := B.notSynchronized
  have hS0 : CallFix pQ mQ cQ cX3_append 2 s ([.ref (qs 0), .int (nI w)] : List Value).toArray wsX3_append RX3 := ⟨hx, hb, hml, hown, hts⟩
  subst hsz
  have hD := hD0.self (sz := s.heap.size)
  generalize hAe : va_A ((wS kA qs q tx len pos kd rw0 ss av) ++ (wT kA q cc ac co ad rc nm st an)) s.heap.size = A at hD ⊢
  have hA : ∀ q : Nat, s.heap.size ≤ q → A q := fun q h => by rw [← hAe]; exact Or.inr h
  have hS : va_S A s.heap s.heap [] := va_S.rf
  have f9 : (Cond.fieldLink RX3 9 "AskedRules$Script" "text" "[B").before ([.ref (qs 0), .int (nI w)] : List Value).toArray s = true := hts _ (by decide +kernel)
  have hinX3 : ∀ w ∈ wsX30, w ∈ wsX3_append := by decide +kernel
  have f19 : (Cond.fieldLink RX3 19 "AskedRules$Script" "length" "I").before ([.ref (qs 0), .int (nI w)] : List Value).toArray s = true := hts _ (by decide +kernel)
  have hl := lv_entry ([.ref (qs 0), .int (nI w)]) (n := 2) (Nat.le_of_ble_eq_true rfl)
  rw [lg_entry_eq]
  generalize (lg_sl ([.ref (qs 0), .int (nI w)]) ++ List.replicate (2 - (lg_sl ([.ref (qs 0), .int (nI w)])).length) Slot.unset).toArray = ls at hl ⊢
  have hl : lv_has ls 2 [(0, .ref (qs 0)), (1, .int (nI w))] := hl
  have hP : va_P D vwCl ((wS kA qs q tx len pos kd rw0 ss av) ++ (wT kA q cc ac co ad rc nm st an)) s.heap := hP
  have hD : va_D A ((wS kA qs q tx len pos kd rw0 ss av) ++ (wT kA q cc ac co ad rc nm st an)) := hD
  refine lv_aload_n hx hb dX3_append_0 rfl (lv_at hl 0 rfl) ?_
  refine n_get (ci := 3) (v := .ref (qs 1)) (C := RX3) (T := TX3) (N := 8) hx hb hts hinX3 hown hK hP 0 rfl rfl 1 rfl ⟨rfl, rfl, rfl⟩ f9 rfl dX3_append_1 ?_
  refine lv_aload_n hx hb dX3_append_4 rfl (lv_at hl 0 rfl) ?_
  refine n_get (ci := 3) (v := .int (nI len)) (C := RX3) (T := TX3) (N := 8) hx hb hts hinX3 hown hK hP 0 rfl rfl 2 rfl ⟨rfl, rfl, rfl⟩ f19 rfl dX3_append_5 ?_
  refine lv_iload_n hx hb dX3_append_8 rfl (lv_at hl 1 rfl) ?_
  refine lv_i2b (v := (nI w)) hx hb dX3_append_9 (by8 hw) ?_
  refine n_bast (i := len) (x := (nI w)) (g := aN (va_up tx len w)) (ws' := ((wS kA qs q (va_up tx len w) len pos kd rw0 ss av) ++ (wT kA q cc ac co ad rc nm st an))) hx hb hK hP hD hS 1 1 rfl rfl (by omega) (Nat.le_of_ble_eq_true rfl) (((congrArg (upd _ _) (by8n hw)).trans (aN_up _ _ _))) rfl dX3_append_10 (fun H locs hP hD hS => ?_)
  refine lv_aload_n hx hb dX3_append_11 rfl (lv_at hl 0 rfl) ?_
  refine lv_dup hx hb dX3_append_12 rfl ?_
  refine n_get (ci := 3) (v := .int (nI len)) (C := RX3) (T := TX3) (N := 8) hx hb hts hinX3 hown hK hP 0 rfl rfl 2 rfl ⟨rfl, rfl, rfl⟩ f19 rfl dX3_append_13 ?_
  refine lv_iconst (v := (nI 1)) hx hb dX3_append_16 (by decide) ?_
  refine n_iadd (v := (nI (len + 1))) hx hb (nI_add _ _) dX3_append_17 ?_
  refine n_put (ci := 3) (v := .int (nI (len + 1))) (C := RX3) (T := TX3) (N := 8) (ws' := ((wS kA qs q (va_up tx len w) (len + 1) pos kd rw0 ss av) ++ (wT kA q cc ac co ad rc nm st an))) hx hb hts hinX3 tyX3 tyX3_ok nmX3 hown hK hP hD hS 0 rfl rfl 2 rfl ⟨rfl, rfl, rfl, rfl⟩ f19 rfl rfl rfl rfl dX3_append_18 (fun H locs hP hD hS => ?_)
  exact n_wretv hx hb hr hlocks (post := fun (u : Unit) => True) (w1 := fun u => ((wS kA qs q (va_up tx len w) (len + 1) pos kd rw0 ss av) ++ (wT kA q cc ac co ad rc nm st an))) () trivial hP hD hK hS hAe dX3_append_21

set_option maxHeartbeats 4000000 in
set_option maxRecDepth 100000 in
theorem c_X3_readSet (lQ : Launch) (D : va_G) (kA : Nat → ClassId) (qs : Nat → Nat) (tx : Nat → Nat) (len : Nat) (pos : Nat) (kd : Option Nat) (rw0 : Nat) (ss : Nat) (av : Option Nat) (q : Nat → Nat) (cc : Nat) (ac : Nat → Nat) (co : Nat → Nat) (ad : Nat) (rc : Nat) (nm : Nat → Nat) (st : Nat → Nat) (an : Nat → Nat) (i : Nat) (sz : Nat) (hlen : len ≤ 150) (hpl : pos ≤ len) (htx : ∀ j, j < len → tx j < 128) (hi : i < 5) (ha : ac i ≤ 4) : Met lQ yX3_readSet wsX3_readSet (rmN 2 41) (wr_Pc D vwCl [.ref (qs 0), .int (nI i)] ((wS kA qs q tx len pos kd rw0 ss av) ++ (wT kA q cc ac co ad rc nm st an)) (tyK kA) sz) (va_Qi (S := Unit) (fun (r : Int32) (u : Unit) => r = (nI ((rsF tx len (ac i) pos).1))) (wr_B D vwCl ((wS kA qs q tx len pos kd rw0 ss av) ++ (wT kA q cc ac co ad rc nm st an)) (tyK kA) sz (fun u => ((wS kA qs q tx len ((rsF tx len (ac i) pos).2) kd rw0 ss av) ++ (wT kA q cc ac co ad rc nm st an)))) (va_A ((wS kA qs q tx len pos kd rw0 ss av) ++ (wT kA q cc ac co ad rc nm st an)) sz)) 0 0 (va_A ((wS kA qs q tx len pos kd rw0 ss av) ++ (wT kA q cc ac co ad rc nm st an)) sz) := by
  refine Met.ofW (cc := cX3_readSet) (maxL := 6) (ret := (some .int)) (by decide) rfl ?_
  intro pQ eQ s mQ args below meth cQ s₁ B hml hv
  obtain ⟨rfl, hsz, hP, hK, hD0⟩ := hv
  have hx := B.exec
  have hb := B.bytes
  have hr := B.returns
  have hts := atoms_spec (ws := wsX3_readSet) B.pre
  have hown : s.vm.findClass RX3 = some mQ.cls := findClass_of_methodNamed B.named
  have hlocks : meth.locks = false := B.notSynchronized
  have hS0 : CallFix pQ mQ cQ cX3_readSet 6 s ([.ref (qs 0), .int (nI i)] : List Value).toArray wsX3_readSet RX3 := ⟨hx, hb, hml, hown, hts⟩
  subst hsz
  have hD := hD0.self (sz := s.heap.size)
  generalize hAe : va_A ((wS kA qs q tx len pos kd rw0 ss av) ++ (wT kA q cc ac co ad rc nm st an)) s.heap.size = A at hD ⊢
  have hA : ∀ q : Nat, s.heap.size ≤ q → A q := fun q h => by rw [← hAe]; exact Or.inr h
  have hS : va_S A s.heap s.heap [] := va_S.rf
  have f15 : (Cond.fieldLink RX3 15 "AskedRules$Script" "table" "LAskedRules$Table;").before ([.ref (qs 0), .int (nI i)] : List Value).toArray s = true := hts _ (by decide +kernel)
  have hinX3 : ∀ w ∈ wsX30, w ∈ wsX3_readSet := by decide +kernel
  have f109 : (Cond.fieldLink RX3 109 "AskedRules$Table" "answerCount" "[I").before ([.ref (qs 0), .int (nI i)] : List Value).toArray s = true := hts _ (by decide +kernel)
  have hinX4 : ∀ w ∈ wsX40, w ∈ wsX3_readSet := by decide +kernel
  have f33 : (Cond.fieldLink RX3 33 "AskedRules$Script" "position" "I").before ([.ref (qs 0), .int (nI i)] : List Value).toArray s = true := hts _ (by decide +kernel)
  have hl := lv_entry ([.ref (qs 0), .int (nI i)]) (n := 6) (Nat.le_of_ble_eq_true rfl)
  rw [lg_entry_eq]
  generalize (lg_sl ([.ref (qs 0), .int (nI i)]) ++ List.replicate (6 - (lg_sl ([.ref (qs 0), .int (nI i)])).length) Slot.unset).toArray = ls at hl ⊢
  have hl : lv_has ls 6 [(0, .ref (qs 0)), (1, .int (nI i))] := hl
  have hP : va_P D vwCl ((wS kA qs q tx len pos kd rw0 ss av) ++ (wT kA q cc ac co ad rc nm st an)) s.heap := hP
  have hD : va_D A ((wS kA qs q tx len pos kd rw0 ss av) ++ (wT kA q cc ac co ad rc nm st an)) := hD
  refine lv_aload_n hx hb dX3_readSet_0 rfl (lv_at hl 0 rfl) ?_
  refine lv_bipush (v := (nI 45)) hx hb dX3_readSet_1 (by decide) ?_
  refine n_wVi (b := qs 0) (As := [.int (nI 45)]) (rest := []) (wr := []) (ws' := fun u => ((wS kA qs q tx len (stpF tx len 45 pos) kd rw0 ss av) ++ (wT kA q cc ac co ad rc nm st an))) hS0 (c_X3_readByte lQ D kA qs tx len pos kd rw0 ss av q cc ac co ad rc nm st an 45 s.heap.size (by first | assumption | omega) (by first | assumption | omega) (by first | assumption | omega) (by first | assumption | omega)) (cwV 1 hts gX3_readSet_X3_readByte rfl rfl rfl (by decide +kernel) ⟨Nat.le_of_ble_eq_true rfl, Nat.le_of_ble_eq_true rfl⟩) hP hD hS hA hK hK (by simpa only [List.append_assoc, List.append_nil] using ((List.Perm.refl _).trans (List.Perm.append_left _ (List.Perm.of_eq (List.append_nil _).symm)))) (fun u => List.Perm.symm (by simpa only [List.append_assoc, List.append_nil] using ((List.Perm.refl _).trans (List.Perm.append_left _ (List.Perm.of_eq (List.append_nil _).symm))))) (q0 := 0) rfl rfl rfl rfl rfl hl.1 (Nat.le_of_ble_eq_true rfl) dX3_readSet_3 ⟨Nat.le_refl _, Nat.le_refl _⟩ (fun r3 u3 H locs h3 hP hD hS => ?_)
  subst h3
  have hP : va_P D vwCl ((wS kA qs q tx len (stpF tx len 45 pos) kd rw0 ss av) ++ (wT kA q cc ac co ad rc nm st an)) H := hP
  have hD : va_D A ((wS kA qs q tx len (stpF tx len 45 pos) kd rw0 ss av) ++ (wT kA q cc ac co ad rc nm st an)) := hD
  refine n_ifb_eq (b := decide (hereF tx len pos = some 45)) (tgt := 18) hx hb dX3_readSet_6 (by decide) (fun c6 => ?_) (fun c6 => ?_)
  · have hb6 := of_decide_eq_false c6
    have es6 : stpF tx len 45 pos = pos := if_neg hb6
    rw [es6] at hP hD
    refine lv_iconst (v := (nI 0)) hx hb dX3_readSet_18 (by decide) ?_
    refine lv_istore_n (lv' := [(2, .int (nI 0)), (0, .ref (qs 0)), (1, .int (nI i))]) hx hb dX3_readSet_19 rfl hl (by decide) rfl (fun ls hl => ?_)
    refine lv_iconst (v := (nI 0)) hx hb dX3_readSet_20 (by decide) ?_
    refine lv_istore_n (lv' := [(3, .int (nI 0)), (2, .int (nI 0)), (0, .ref (qs 0)), (1, .int (nI i))]) hx hb dX3_readSet_21 rfl hl (by decide) rfl (fun ls hl => ?_)
    refine lv_iconst (v := (nI 0)) hx hb dX3_readSet_22 (by decide) ?_
    refine lv_istore (lv' := [(4, .int (nI 0)), (3, .int (nI 0)), (2, .int (nI 0)), (0, .ref (qs 0)), (1, .int (nI i))]) hx hb dX3_readSet_23 hl (by decide) rfl (fun ls hl => ?_)
    have L25 : ∀ (nQ : Nat) (n : Nat) (set : Nat) (least : Nat) (p : Nat), 4 - n < nQ → (n ≤ 4) → (p ≤ len) → (least ≤ 10) → (dgL tx len (ac i) 4 0 0 pos = dgL tx len (ac i) (4 - n) least set p) → ∀ (H : Heap) (locs : List Loc), va_P D vwCl ((wS kA qs q tx len p kd rw0 ss av) ++ (wT kA q cc ac co ad rc nm st an)) H → va_D A ((wS kA qs q tx len p kd rw0 ss av) ++ (wT kA q cc ac co ad rc nm st an)) → va_S A s.heap H locs → ∀ (ls : Array Slot), lv_has ls 6 [(4, .int (nI n)), (3, .int (nI least)), (2, .int (nI set)), (0, .ref (qs 0)), (1, .int (nI i))] → W pQ lQ eQ (headSpec wsX3_readSet (rmN 2 41)).room s mQ ([.ref (qs 0), .int (nI i)] : List Value).toArray below meth cQ H locs 0 0 (MQ below (va_Qi (S := Unit) (fun (r : Int32) (u : Unit) => r = (nI ((rsF tx len (ac i) pos).1))) (wr_B D vwCl ((wS kA qs q tx len pos kd rw0 ss av) ++ (wT kA q cc ac co ad rc nm st an)) (tyK kA) s.heap.size (fun u => ((wS kA qs q tx len ((rsF tx len (ac i) pos).2) kd rw0 ss av) ++ (wT kA q cc ac co ad rc nm st an)))) A) ([.ref (qs 0), .int (nI i)] : List Value).toArray s 0 0 A) (F0 mQ 25 ls []) := by
      intro nQ
      induction nQ with
      | zero => intro n set least p hn; exact absurd hn (Nat.not_lt_zero _)
      | succ nQ ih25 =>
        intro n set least p hm25 hn hp hls hs H locs hP hD hS ls hl
        refine lv_iload hx hb dX3_readSet_25 (lv_at hl 0 rfl) ?_
        refine lv_iconst (v := (nI 4)) hx hb dX3_readSet_27 (by decide) ?_
        refine n_icmp_ge (a := n) (b := 4) (tgt := 88) hx hb (by omega) (by omega) dX3_readSet_28 (by decide) (fun c28 => ?_) (fun c28 => ?_)
        · refine lv_iload_n hx hb dX3_readSet_88 rfl (lv_at hl 2 rfl) ?_
          have e9 : rsF tx len (ac i) pos = (set, p) := by
            unfold rsF
            rw [if_neg hb6]
            show dgL tx len (ac i) 4 0 0 pos = _
            rw [hs]
            first
            | (rw [show 4 - n = 0 by omega]; rfl)
            | exact dgL_n hq32 _
            | exact dgL_f hq32 (by omega) _
          have hP : va_P D vwCl ((wS kA qs q tx len ((rsF tx len (ac i) pos).2) kd rw0 ss av) ++ (wT kA q cc ac co ad rc nm st an)) H := by rw [e9]; exact hP
          have hD : va_D A ((wS kA qs q tx len ((rsF tx len (ac i) pos).2) kd rw0 ss av) ++ (wT kA q cc ac co ad rc nm st an)) := by rw [e9]; exact hD
          have hP : va_P D vwCl ((wS kA qs q tx len ((rsF tx len (ac i) pos).2) kd rw0 ss av) ++ (wT kA q cc ac co ad rc nm st an)) H := hP
          have hD : va_D A ((wS kA qs q tx len ((rsF tx len (ac i) pos).2) kd rw0 ss av) ++ (wT kA q cc ac co ad rc nm st an)) := hD
          exact n_wreti hx hb hr hlocks (post := fun (r : Int32) (u : Unit) => r = (nI ((rsF tx len (ac i) pos).1))) (w1 := fun u => ((wS kA qs q tx len ((rsF tx len (ac i) pos).2) kd rw0 ss av) ++ (wT kA q cc ac co ad rc nm st an))) () (by rw [e9]) hP hD hK hS hAe dX3_readSet_89
        · refine lv_aload_n hx hb dX3_readSet_31 rfl (lv_at hl 3 rfl) ?_
          refine n_cV (b := qs 0) (As := []) (rest := []) (wc := ((wS kA qs q tx len p kd rw0 ss av) ++ (wT kA q cc ac co ad rc nm st an))) hS0 (c_X3_digitHere lQ D kA qs tx len p kd rw0 ss av q cc ac co ad rc nm st an (by first | assumption | omega) (by first | assumption | omega) (by first | assumption | omega)) (cwV 0 hts gX3_readSet_X3_digitHere rfl rfl rfl (by decide +kernel) ⟨Nat.le_of_ble_eq_true rfl, Nat.le_of_ble_eq_true rfl⟩) hP hK (q0 := 0) rfl rfl rfl rfl rfl hl.1 (Nat.le_of_ble_eq_true rfl) dX3_readSet_32 ⟨Nat.le_refl _, Nat.le_refl _⟩ (fun r32 h32 => ?_)
          subst h32
          cases hq32 : digT tx len p with
          | none =>
            show W pQ lQ eQ (headSpec wsX3_readSet (rmN 2 41)).room s mQ ([.ref (qs 0), .int (nI i)] : List Value).toArray below meth cQ H locs 0 0 (MQ below (va_Qi (S := Unit) (fun (r : Int32) (u : Unit) => r = (nI ((rsF tx len (ac i) pos).1))) (wr_B D vwCl ((wS kA qs q tx len pos kd rw0 ss av) ++ (wT kA q cc ac co ad rc nm st an)) (tyK kA) s.heap.size (fun u => ((wS kA qs q tx len ((rsF tx len (ac i) pos).2) kd rw0 ss av) ++ (wT kA q cc ac co ad rc nm st an)))) A) ([.ref (qs 0), .int (nI i)] : List Value).toArray s 0 0 A) (F0 mQ 35 ls [.int (oI none)])
            refine lv_istore (lv' := [(5, .int (oI none)), (4, .int (nI n)), (3, .int (nI least)), (2, .int (nI set)), (0, .ref (qs 0)), (1, .int (nI i))]) hx hb dX3_readSet_35 hl (by decide) rfl (fun ls hl => ?_)
            refine lv_iload hx hb dX3_readSet_37 (lv_at hl 0 rfl) ?_
            refine lv_iload_n hx hb dX3_readSet_39 rfl (lv_at hl 2 rfl) ?_
            refine lv_icmp_lt (tgt := 88) hx hb dX3_readSet_40 (by decide) (fun _ => ?_) (fun h => absurd (onone_lt (by omega)) h)
            refine lv_iload_n hx hb dX3_readSet_88 rfl (lv_at hl 3 rfl) ?_
            have e9 : rsF tx len (ac i) pos = (set, p) := by
              unfold rsF
              rw [if_neg hb6]
              show dgL tx len (ac i) 4 0 0 pos = _
              rw [hs]
              first
              | (rw [show 4 - n = 0 by omega]; rfl)
              | exact dgL_n hq32 _
              | exact dgL_f hq32 (by omega) _
            have hP : va_P D vwCl ((wS kA qs q tx len ((rsF tx len (ac i) pos).2) kd rw0 ss av) ++ (wT kA q cc ac co ad rc nm st an)) H := by rw [e9]; exact hP
            have hD : va_D A ((wS kA qs q tx len ((rsF tx len (ac i) pos).2) kd rw0 ss av) ++ (wT kA q cc ac co ad rc nm st an)) := by rw [e9]; exact hD
            have hP : va_P D vwCl ((wS kA qs q tx len ((rsF tx len (ac i) pos).2) kd rw0 ss av) ++ (wT kA q cc ac co ad rc nm st an)) H := hP
            have hD : va_D A ((wS kA qs q tx len ((rsF tx len (ac i) pos).2) kd rw0 ss av) ++ (wT kA q cc ac co ad rc nm st an)) := hD
            exact n_wreti hx hb hr hlocks (post := fun (r : Int32) (u : Unit) => r = (nI ((rsF tx len (ac i) pos).1))) (w1 := fun u => ((wS kA qs q tx len ((rsF tx len (ac i) pos).2) kd rw0 ss av) ++ (wT kA q cc ac co ad rc nm st an))) () (by rw [e9]) hP hD hK hS hAe dX3_readSet_89
          | some b32 =>
            show W pQ lQ eQ (headSpec wsX3_readSet (rmN 2 41)).room s mQ ([.ref (qs 0), .int (nI i)] : List Value).toArray below meth cQ H locs 0 0 (MQ below (va_Qi (S := Unit) (fun (r : Int32) (u : Unit) => r = (nI ((rsF tx len (ac i) pos).1))) (wr_B D vwCl ((wS kA qs q tx len pos kd rw0 ss av) ++ (wT kA q cc ac co ad rc nm st an)) (tyK kA) s.heap.size (fun u => ((wS kA qs q tx len ((rsF tx len (ac i) pos).2) kd rw0 ss av) ++ (wT kA q cc ac co ad rc nm st an)))) A) ([.ref (qs 0), .int (nI i)] : List Value).toArray s 0 0 A) (F0 mQ 35 ls [.int (nI b32)])
            have hd32 := digT_lt hq32
            refine lv_istore (lv' := [(5, .int (nI b32)), (4, .int (nI n)), (3, .int (nI least)), (2, .int (nI set)), (0, .ref (qs 0)), (1, .int (nI i))]) hx hb dX3_readSet_35 hl (by decide) rfl (fun ls hl => ?_)
            refine lv_iload hx hb dX3_readSet_37 (lv_at hl 0 rfl) ?_
            refine lv_iload_n hx hb dX3_readSet_39 rfl (lv_at hl 2 rfl) ?_
            refine n_icmp_lt (a := b32) (b := least) (tgt := 88) hx hb (by omega) (by omega) dX3_readSet_40 (by decide) (fun c40 => ?_) (fun c40 => ?_)
            · refine lv_iload_n hx hb dX3_readSet_88 rfl (lv_at hl 3 rfl) ?_
              have e9 : rsF tx len (ac i) pos = (set, p) := by
                unfold rsF
                rw [if_neg hb6]
                show dgL tx len (ac i) 4 0 0 pos = _
                rw [hs]
                first
                | (rw [show 4 - n = 0 by omega]; rfl)
                | exact dgL_n hq32 _
                | exact dgL_f hq32 (by omega) _
              have hP : va_P D vwCl ((wS kA qs q tx len ((rsF tx len (ac i) pos).2) kd rw0 ss av) ++ (wT kA q cc ac co ad rc nm st an)) H := by rw [e9]; exact hP
              have hD : va_D A ((wS kA qs q tx len ((rsF tx len (ac i) pos).2) kd rw0 ss av) ++ (wT kA q cc ac co ad rc nm st an)) := by rw [e9]; exact hD
              have hP : va_P D vwCl ((wS kA qs q tx len ((rsF tx len (ac i) pos).2) kd rw0 ss av) ++ (wT kA q cc ac co ad rc nm st an)) H := hP
              have hD : va_D A ((wS kA qs q tx len ((rsF tx len (ac i) pos).2) kd rw0 ss av) ++ (wT kA q cc ac co ad rc nm st an)) := hD
              exact n_wreti hx hb hr hlocks (post := fun (r : Int32) (u : Unit) => r = (nI ((rsF tx len (ac i) pos).1))) (w1 := fun u => ((wS kA qs q tx len ((rsF tx len (ac i) pos).2) kd rw0 ss av) ++ (wT kA q cc ac co ad rc nm st an))) () (by rw [e9]) hP hD hK hS hAe dX3_readSet_89
            · refine lv_iload hx hb dX3_readSet_43 (lv_at hl 0 rfl) ?_
              refine lv_aload_n hx hb dX3_readSet_45 rfl (lv_at hl 4 rfl) ?_
              refine n_get (ci := 3) (v := .ref (q 0)) (C := RX3) (T := TX3) (N := 8) hx hb hts hinX3 hown hK hP 0 rfl rfl 0 rfl ⟨rfl, rfl, rfl⟩ f15 rfl dX3_readSet_46 ?_
              refine n_get (ci := 4) (v := .ref (q 1)) (C := RX4) (T := TX4) (N := 8) hx hb hts hinX4 hown hK hP 2 rfl rfl 1 rfl ⟨rfl, rfl, rfl⟩ f109 rfl dX3_readSet_49 ?_
              refine lv_iload_n hx hb dX3_readSet_52 rfl (lv_at hl 5 rfl) ?_
              refine n_iald (i := i) (v := (nI (ac i))) hx hb hK hP 3 0 rfl rfl (by omega) (Nat.le_of_ble_eq_true rfl) rfl dX3_readSet_53 ?_
              refine n_icmp_lt (a := b32) (b := ac i) (tgt := 60) hx hb (by omega) (by omega) dX3_readSet_54 (by decide) (fun c54 => ?_) (fun c54 => ?_)
              · refine lv_iload_n hx hb dX3_readSet_60 rfl (lv_at hl 3 rfl) ?_
                refine lv_iconst (v := (nI 1)) hx hb dX3_readSet_61 (by decide) ?_
                refine lv_iload hx hb dX3_readSet_62 (lv_at hl 0 rfl) ?_
                refine n_ishl (v := (nI (1 <<< b32))) hx hb (nN_shl _ (by omega)) dX3_readSet_64 ?_
                refine n_ior (v := (nI (set ||| (1 <<< b32)))) hx hb (nN_or _ _) dX3_readSet_65 ?_
                refine lv_istore_n (lv' := [(2, .int (nI (set ||| (1 <<< b32)))), (5, .int (nI b32)), (4, .int (nI n)), (3, .int (nI least)), (0, .ref (qs 0)), (1, .int (nI i))]) hx hb dX3_readSet_66 rfl hl (by decide) rfl (fun ls hl => ?_)
                refine lv_iload hx hb dX3_readSet_67 (lv_at hl 1 rfl) ?_
                refine lv_iconst (v := (nI 1)) hx hb dX3_readSet_69 (by decide) ?_
                refine n_iadd (v := (nI (b32 + 1))) hx hb (nI_add _ _) dX3_readSet_70 ?_
                refine lv_istore_n (lv' := [(3, .int (nI (b32 + 1))), (2, .int (nI (set ||| (1 <<< b32)))), (5, .int (nI b32)), (4, .int (nI n)), (0, .ref (qs 0)), (1, .int (nI i))]) hx hb dX3_readSet_71 rfl hl (by decide) rfl (fun ls hl => ?_)
                refine lv_aload_n hx hb dX3_readSet_72 rfl (lv_at hl 4 rfl) ?_
                refine lv_dup hx hb dX3_readSet_73 rfl ?_
                refine n_get (ci := 3) (v := .int (nI p)) (C := RX3) (T := TX3) (N := 8) hx hb hts hinX3 hown hK hP 0 rfl rfl 3 rfl ⟨rfl, rfl, rfl⟩ f33 rfl dX3_readSet_74 ?_
                refine lv_iconst (v := (nI 1)) hx hb dX3_readSet_77 (by decide) ?_
                refine n_iadd (v := (nI (p + 1))) hx hb (nI_add _ _) dX3_readSet_78 ?_
                refine n_put (ci := 3) (v := .int (nI (p + 1))) (C := RX3) (T := TX3) (N := 8) (ws' := ((wS kA qs q tx len (p + 1) kd rw0 ss av) ++ (wT kA q cc ac co ad rc nm st an))) hx hb hts hinX3 tyX3 tyX3_ok nmX3 hown hK hP hD hS 0 rfl rfl 3 rfl ⟨rfl, rfl, rfl, rfl⟩ f33 rfl rfl rfl rfl dX3_readSet_79 (fun H locs hP hD hS => ?_)
                refine lv_iinc (v := (nI (n + 1))) (lv' := [(4, .int (nI (n + 1))), (3, .int (nI (b32 + 1))), (2, .int (nI (set ||| (1 <<< b32)))), (5, .int (nI b32)), (0, .ref (qs 0)), (1, .int (nI i))]) hx hb dX3_readSet_82 hl (k := 3) rfl (nI_inc _) (by decide) rfl (fun ls hl => ?_)
                refine lv_goto (tgt := 25) hx hb dX3_readSet_85 (by decide) ?_
                exact ih25 (n + 1) (set ||| (1 <<< b32)) (b32 + 1) (p + 1) (by omega) (by first | assumption | omega) (by first | assumption | omega) (by first | assumption | omega) (by rw [hs, show 4 - n = (4 - (n + 1)) + 1 by omega, dgL_t hq32 ⟨by omega, by omega⟩]) _ _ hP hD hS _ (lv_sub hl [0, 1, 2, 4, 5] rfl)
              · refine lv_goto (tgt := 88) hx hb dX3_readSet_57 (by decide) ?_
                refine lv_iload_n hx hb dX3_readSet_88 rfl (lv_at hl 3 rfl) ?_
                have e9 : rsF tx len (ac i) pos = (set, p) := by
                  unfold rsF
                  rw [if_neg hb6]
                  show dgL tx len (ac i) 4 0 0 pos = _
                  rw [hs]
                  first
                  | (rw [show 4 - n = 0 by omega]; rfl)
                  | exact dgL_n hq32 _
                  | exact dgL_f hq32 (by omega) _
                have hP : va_P D vwCl ((wS kA qs q tx len ((rsF tx len (ac i) pos).2) kd rw0 ss av) ++ (wT kA q cc ac co ad rc nm st an)) H := by rw [e9]; exact hP
                have hD : va_D A ((wS kA qs q tx len ((rsF tx len (ac i) pos).2) kd rw0 ss av) ++ (wT kA q cc ac co ad rc nm st an)) := by rw [e9]; exact hD
                have hP : va_P D vwCl ((wS kA qs q tx len ((rsF tx len (ac i) pos).2) kd rw0 ss av) ++ (wT kA q cc ac co ad rc nm st an)) H := hP
                have hD : va_D A ((wS kA qs q tx len ((rsF tx len (ac i) pos).2) kd rw0 ss av) ++ (wT kA q cc ac co ad rc nm st an)) := hD
                exact n_wreti hx hb hr hlocks (post := fun (r : Int32) (u : Unit) => r = (nI ((rsF tx len (ac i) pos).1))) (w1 := fun u => ((wS kA qs q tx len ((rsF tx len (ac i) pos).2) kd rw0 ss av) ++ (wT kA q cc ac co ad rc nm st an))) () (by rw [e9]) hP hD hK hS hAe dX3_readSet_89
    exact L25 ((4 - 0) + 1) 0 0 0 pos (Nat.lt_succ_self _) (by first | assumption | omega) (by first | assumption | omega) (by first | assumption | omega) rfl _ _ hP hD hS _ (lv_sub hl [0, 1, 2, 3, 4] rfl)
  · have hb6 := of_decide_eq_true c6
    have es6 : stpF tx len 45 pos = pos + 1 := if_pos hb6
    rw [es6] at hP hD
    refine lv_aload_n hx hb dX3_readSet_9 rfl (lv_at hl 0 rfl) ?_
    refine n_get (ci := 3) (v := .ref (q 0)) (C := RX3) (T := TX3) (N := 8) hx hb hts hinX3 hown hK hP 0 rfl rfl 0 rfl ⟨rfl, rfl, rfl⟩ f15 rfl dX3_readSet_10 ?_
    refine lv_iload_n hx hb dX3_readSet_13 rfl (lv_at hl 1 rfl) ?_
    refine n_cV (b := q 0) (As := [.int (nI i)]) (rest := []) (wc := (wT kA q cc ac co ad rc nm st an)) hS0 (c_X4_fullSet lQ D kA q cc ac co ad rc nm st an i (by first | assumption | omega) (by first | assumption | omega)) (cwV 1 hts gX3_readSet_X4_fullSet rfl rfl rfl (by decide +kernel) ⟨Nat.le_of_ble_eq_true rfl, Nat.le_of_ble_eq_true rfl⟩) (hP.mem (ws' := (wT kA q cc ac co ad rc nm st an)) (fun qQ h => (show _ from ((by simpa only [List.append_assoc, List.append_nil] using List.perm_append_comm) : List.Perm ((wS kA qs q tx len (pos + 1) kd rw0 ss av) ++ (wT kA q cc ac co ad rc nm st an)) ((wT kA q cc ac co ad rc nm st an) ++ (wS kA qs q tx len (pos + 1) kd rw0 ss av))).mem_iff.mpr (List.mem_append_left _ h)))) hK (q0 := 0) rfl rfl rfl rfl rfl hl.1 (Nat.le_of_ble_eq_true rfl) dX3_readSet_14 ⟨Nat.le_refl _, Nat.le_refl _⟩ (fun r14 h14 => ?_)
    subst h14
    have e9 : rsF tx len (ac i) pos = (fulN (ac i), (pos + 1)) := by
      unfold rsF
      rw [if_pos hb6]
    have hP : va_P D vwCl ((wS kA qs q tx len ((rsF tx len (ac i) pos).2) kd rw0 ss av) ++ (wT kA q cc ac co ad rc nm st an)) H := by rw [e9]; exact hP
    have hD : va_D A ((wS kA qs q tx len ((rsF tx len (ac i) pos).2) kd rw0 ss av) ++ (wT kA q cc ac co ad rc nm st an)) := by rw [e9]; exact hD
    have hP : va_P D vwCl ((wS kA qs q tx len ((rsF tx len (ac i) pos).2) kd rw0 ss av) ++ (wT kA q cc ac co ad rc nm st an)) H := hP
    have hD : va_D A ((wS kA qs q tx len ((rsF tx len (ac i) pos).2) kd rw0 ss av) ++ (wT kA q cc ac co ad rc nm st an)) := hD
    exact n_wreti hx hb hr hlocks (post := fun (r : Int32) (u : Unit) => r = (nI ((rsF tx len (ac i) pos).1))) (w1 := fun u => ((wS kA qs q tx len ((rsF tx len (ac i) pos).2) kd rw0 ss av) ++ (wT kA q cc ac co ad rc nm st an))) () (by rw [e9]) hP hD hK hS hAe dX3_readSet_17

set_option maxHeartbeats 4000000 in
set_option maxRecDepth 100000 in
theorem c_X3_readAllSets (lQ : Launch) (D : va_G) (kA : Nat → ClassId) (qs : Nat → Nat) (tx : Nat → Nat) (len : Nat) (pos : Nat) (kd : Option Nat) (rw0 : Nat) (ss : Nat) (av : Option Nat) (q : Nat → Nat) (cc : Nat) (ac : Nat → Nat) (co : Nat → Nat) (ad : Nat) (rc : Nat) (nm : Nat → Nat) (st : Nat → Nat) (an : Nat → Nat) (sz : Nat) (hlen : len ≤ 150) (hpl : pos ≤ len) (htx : ∀ j, j < len → tx j < 128) (hcc : cc ≤ 5) (hac : ∀ j, j < cc → ac j ≤ 4) : Met lQ yX3_readAllSets wsX3_readAllSets (rmN 3 66) (wr_Pc D vwCl [.ref (qs 0)] ((wS kA qs q tx len pos kd rw0 ss av) ++ (wT kA q cc ac co ad rc nm st an)) (tyK kA) sz) (va_Qi (S := Unit) (fun (r : Int32) (u : Unit) => r = (bI ((rasL tx len ac cc 0 0 pos).1))) (wr_B D vwCl ((wS kA qs q tx len pos kd rw0 ss av) ++ (wT kA q cc ac co ad rc nm st an)) (tyK kA) sz (fun u => ((wS kA qs q tx len ((rasL tx len ac cc 0 0 pos).2.2) kd rw0 ((rasL tx len ac cc 0 0 pos).2.1) av) ++ (wT kA q cc ac co ad rc nm st an)))) (va_A ((wS kA qs q tx len pos kd rw0 ss av) ++ (wT kA q cc ac co ad rc nm st an)) sz)) 0 0 (va_A ((wS kA qs q tx len pos kd rw0 ss av) ++ (wT kA q cc ac co ad rc nm st an)) sz) := by
  refine Met.ofW (cc := cX3_readAllSets) (maxL := 3) (ret := (some .boolean)) (by decide) rfl ?_
  intro pQ eQ s mQ args below meth cQ s₁ B hml hv
  obtain ⟨rfl, hsz, hP, hK, hD0⟩ := hv
  have hx := B.exec
  have hb := B.bytes
  have hr := B.returns
  have hts := atoms_spec (ws := wsX3_readAllSets) B.pre
  have hown : s.vm.findClass RX3 = some mQ.cls := findClass_of_methodNamed B.named
  have hlocks : meth.locks = false := B.notSynchronized
  have hS0 : CallFix pQ mQ cQ cX3_readAllSets 3 s ([.ref (qs 0)] : List Value).toArray wsX3_readAllSets RX3 := ⟨hx, hb, hml, hown, hts⟩
  subst hsz
  have hD := hD0.self (sz := s.heap.size)
  generalize hAe : va_A ((wS kA qs q tx len pos kd rw0 ss av) ++ (wT kA q cc ac co ad rc nm st an)) s.heap.size = A at hD ⊢
  have hA : ∀ q : Nat, s.heap.size ≤ q → A q := fun q h => by rw [← hAe]; exact Or.inr h
  have hS : va_S A s.heap s.heap [] := va_S.rf
  have f95 : (Cond.fieldLink RX3 95 "AskedRules$Script" "sets" "I").before ([.ref (qs 0)] : List Value).toArray s = true := hts _ (by decide +kernel)
  have hinX3 : ∀ w ∈ wsX30, w ∈ wsX3_readAllSets := by decide +kernel
  have f15 : (Cond.fieldLink RX3 15 "AskedRules$Script" "table" "LAskedRules$Table;").before ([.ref (qs 0)] : List Value).toArray s = true := hts _ (by decide +kernel)
  have f98 : (Cond.fieldLink RX3 98 "AskedRules$Table" "conditionCount" "I").before ([.ref (qs 0)] : List Value).toArray s = true := hts _ (by decide +kernel)
  have hinX4 : ∀ w ∈ wsX40, w ∈ wsX3_readAllSets := by decide +kernel
  have hl := lv_entry ([.ref (qs 0)]) (n := 3) (Nat.le_of_ble_eq_true rfl)
  rw [lg_entry_eq]
  generalize (lg_sl ([.ref (qs 0)]) ++ List.replicate (3 - (lg_sl ([.ref (qs 0)])).length) Slot.unset).toArray = ls at hl ⊢
  have hl : lv_has ls 3 [(0, .ref (qs 0))] := hl
  have hP : va_P D vwCl ((wS kA qs q tx len pos kd rw0 ss av) ++ (wT kA q cc ac co ad rc nm st an)) s.heap := hP
  have hD : va_D A ((wS kA qs q tx len pos kd rw0 ss av) ++ (wT kA q cc ac co ad rc nm st an)) := hD
  refine lv_aload_n hx hb dX3_readAllSets_0 rfl (lv_at hl 0 rfl) ?_
  refine lv_iconst (v := (nI 0)) hx hb dX3_readAllSets_1 (by decide) ?_
  refine n_put (ci := 3) (v := .int (nI 0)) (C := RX3) (T := TX3) (N := 8) (ws' := ((wS kA qs q tx len pos kd rw0 0 av) ++ (wT kA q cc ac co ad rc nm st an))) hx hb hts hinX3 tyX3 tyX3_ok nmX3 hown hK hP hD hS 0 rfl rfl 6 rfl ⟨rfl, rfl, rfl, rfl⟩ f95 rfl rfl rfl rfl dX3_readAllSets_2 (fun H locs hP hD hS => ?_)
  refine lv_iconst (v := (nI 0)) hx hb dX3_readAllSets_5 (by decide) ?_
  refine lv_istore_n (lv' := [(1, .int (nI 0)), (0, .ref (qs 0))]) hx hb dX3_readAllSets_6 rfl hl (by decide) rfl (fun ls hl => ?_)
  have L7 : ∀ (nQ : Nat) (i : Nat) (sets : Nat) (p : Nat), cc - i < nQ → (i ≤ cc) → (p ≤ len) → (rasL tx len ac cc 0 0 pos = rasL tx len ac (cc - i) i sets p) → ∀ (H : Heap) (locs : List Loc), va_P D vwCl ((wS kA qs q tx len p kd rw0 sets av) ++ (wT kA q cc ac co ad rc nm st an)) H → va_D A ((wS kA qs q tx len p kd rw0 sets av) ++ (wT kA q cc ac co ad rc nm st an)) → va_S A s.heap H locs → ∀ (ls : Array Slot), lv_has ls 3 [(1, .int (nI i)), (0, .ref (qs 0))] → W pQ lQ eQ (headSpec wsX3_readAllSets (rmN 3 66)).room s mQ ([.ref (qs 0)] : List Value).toArray below meth cQ H locs 0 0 (MQ below (va_Qi (S := Unit) (fun (r : Int32) (u : Unit) => r = (bI ((rasL tx len ac cc 0 0 pos).1))) (wr_B D vwCl ((wS kA qs q tx len pos kd rw0 ss av) ++ (wT kA q cc ac co ad rc nm st an)) (tyK kA) s.heap.size (fun u => ((wS kA qs q tx len ((rasL tx len ac cc 0 0 pos).2.2) kd rw0 ((rasL tx len ac cc 0 0 pos).2.1) av) ++ (wT kA q cc ac co ad rc nm st an)))) A) ([.ref (qs 0)] : List Value).toArray s 0 0 A) (F0 mQ 7 ls []) := by
    intro nQ
    induction nQ with
    | zero => intro i sets p hn; exact absurd hn (Nat.not_lt_zero _)
    | succ nQ ih7 =>
      intro i sets p hm7 hi hp hs H locs hP hD hS ls hl
      refine lv_iload_n hx hb dX3_readAllSets_7 rfl (lv_at hl 0 rfl) ?_
      refine lv_aload_n hx hb dX3_readAllSets_8 rfl (lv_at hl 1 rfl) ?_
      refine n_get (ci := 3) (v := .ref (q 0)) (C := RX3) (T := TX3) (N := 8) hx hb hts hinX3 hown hK hP 0 rfl rfl 0 rfl ⟨rfl, rfl, rfl⟩ f15 rfl dX3_readAllSets_9 ?_
      refine n_get (ci := 4) (v := .int (nI cc)) (C := RX4) (T := TX4) (N := 8) hx hb hts hinX4 hown hK hP 2 rfl rfl 0 rfl ⟨rfl, rfl, rfl⟩ f98 rfl dX3_readAllSets_12 ?_
      refine n_icmp_ge (a := i) (b := cc) (tgt := 65) hx hb (by omega) (by omega) dX3_readAllSets_15 (by decide) (fun c15 => ?_) (fun c15 => ?_)
      · refine lv_iconst (v := (nI 1)) hx hb dX3_readAllSets_65 (by decide) ?_
        have e9 : rasL tx len ac cc 0 0 pos = (true, sets, p) := by
          rw [hs, show cc - i = 0 by omega]
          rfl
        have hP : va_P D vwCl ((wS kA qs q tx len ((rasL tx len ac cc 0 0 pos).2.2) kd rw0 ((rasL tx len ac cc 0 0 pos).2.1) av) ++ (wT kA q cc ac co ad rc nm st an)) H := by rw [e9]; exact hP
        have hD : va_D A ((wS kA qs q tx len ((rasL tx len ac cc 0 0 pos).2.2) kd rw0 ((rasL tx len ac cc 0 0 pos).2.1) av) ++ (wT kA q cc ac co ad rc nm st an)) := by rw [e9]; exact hD
        have hP : va_P D vwCl ((wS kA qs q tx len ((rasL tx len ac cc 0 0 pos).2.2) kd rw0 ((rasL tx len ac cc 0 0 pos).2.1) av) ++ (wT kA q cc ac co ad rc nm st an)) H := hP
        have hD : va_D A ((wS kA qs q tx len ((rasL tx len ac cc 0 0 pos).2.2) kd rw0 ((rasL tx len ac cc 0 0 pos).2.1) av) ++ (wT kA q cc ac co ad rc nm st an)) := hD
        exact n_wretz hx hb hr hlocks (post := fun (r : Int32) (u : Unit) => r = (bI ((rasL tx len ac cc 0 0 pos).1))) (w1 := fun u => ((wS kA qs q tx len ((rasL tx len ac cc 0 0 pos).2.2) kd rw0 ((rasL tx len ac cc 0 0 pos).2.1) av) ++ (wT kA q cc ac co ad rc nm st an))) rfl () (by rw [e9]; rfl) hP hD hK hS hAe dX3_readAllSets_66
      · refine lv_iload_n hx hb dX3_readAllSets_18 rfl (lv_at hl 0 rfl) ?_
        refine n_if_le (a := i) (tgt := 33) hx hb (by omega) dX3_readAllSets_19 (by decide) (fun c19 => ?_) (fun c19 => ?_)
        · refine lv_aload_n hx hb dX3_readAllSets_33 rfl (lv_at hl 1 rfl) ?_
          refine lv_iload_n hx hb dX3_readAllSets_34 rfl (lv_at hl 0 rfl) ?_
          refine n_wVi (b := qs 0) (As := [.int (nI i)]) (rest := []) (wr := []) (ws' := fun u => ((wS kA qs q tx len ((rsF tx len (ac i) p).2) kd rw0 sets av) ++ (wT kA q cc ac co ad rc nm st an))) hS0 (c_X3_readSet lQ D kA qs tx len p kd rw0 sets av q cc ac co ad rc nm st an i H.size (by first | assumption | omega) (by first | exact hp | exact (hereF_lt hb28).1) (by first | assumption | omega) (by first | assumption | omega) (hac i (by omega))) (cwV 1 hts gX3_readAllSets_X3_readSet rfl rfl rfl (by decide +kernel) ⟨Nat.le_of_ble_eq_true rfl, Nat.le_of_ble_eq_true rfl⟩) hP hD hS hA hK hK (by simpa only [List.append_assoc, List.append_nil] using ((List.Perm.refl _).trans (List.Perm.append_left _ (List.Perm.of_eq (List.append_nil _).symm)))) (fun u => List.Perm.symm (by simpa only [List.append_assoc, List.append_nil] using ((List.Perm.refl _).trans (List.Perm.append_left _ (List.Perm.of_eq (List.append_nil _).symm))))) (q0 := 0) rfl rfl rfl rfl rfl hl.1 (Nat.le_of_ble_eq_true rfl) dX3_readAllSets_35 ⟨Nat.le_refl _, Nat.le_refl _⟩ (fun r35 u35 H locs h35 hP hD hS => ?_)
          subst h35
          have hP : va_P D vwCl ((wS kA qs q tx len ((rsF tx len (ac i) p).2) kd rw0 sets av) ++ (wT kA q cc ac co ad rc nm st an)) H := hP
          have hD : va_D A ((wS kA qs q tx len ((rsF tx len (ac i) p).2) kd rw0 sets av) ++ (wT kA q cc ac co ad rc nm st an)) := hD
          refine lv_istore_n (lv' := [(2, .int (nI ((rsF tx len (ac i) p).1))), (1, .int (nI i)), (0, .ref (qs 0))]) hx hb dX3_readAllSets_38 rfl hl (by decide) rfl (fun ls hl => ?_)
          refine lv_iload_n hx hb dX3_readAllSets_39 rfl (lv_at hl 0 rfl) ?_
          refine n_if_ne (a := (rsF tx len (ac i) p).1) (tgt := 45) hx hb (Nat.lt_trans (rsF_lt (hac i (by omega))) (by decide)) dX3_readAllSets_40 (by decide) (fun c40 => ?_) (fun c40 => ?_)
          · refine lv_aload_n hx hb dX3_readAllSets_45 rfl (lv_at hl 2 rfl) ?_
            refine lv_dup hx hb dX3_readAllSets_46 rfl ?_
            refine n_get (ci := 3) (v := .int (nI sets)) (C := RX3) (T := TX3) (N := 8) hx hb hts hinX3 hown hK hP 0 rfl rfl 6 rfl ⟨rfl, rfl, rfl⟩ f95 rfl dX3_readAllSets_47 ?_
            refine lv_iload_n hx hb dX3_readAllSets_50 rfl (lv_at hl 0 rfl) ?_
            refine lv_iconst (v := (nI 4)) hx hb dX3_readAllSets_51 (by decide) ?_
            refine lv_iload_n hx hb dX3_readAllSets_52 rfl (lv_at hl 1 rfl) ?_
            refine n_imul (v := (nI (4 * i))) hx hb (pk_mul _ _) dX3_readAllSets_53 ?_
            refine n_ishl (v := (nI (((rsF tx len (ac i) p).1) <<< (4 * i)))) hx hb (nN_shl _ (by omega)) dX3_readAllSets_54 ?_
            refine n_ior (v := (nI (sets ||| (((rsF tx len (ac i) p).1) <<< (4 * i))))) hx hb (nN_or _ _) dX3_readAllSets_55 ?_
            refine n_put (ci := 3) (v := .int (nI (sets ||| (((rsF tx len (ac i) p).1) <<< (4 * i))))) (C := RX3) (T := TX3) (N := 8) (ws' := ((wS kA qs q tx len ((rsF tx len (ac i) p).2) kd rw0 (sets ||| (((rsF tx len (ac i) p).1) <<< (4 * i))) av) ++ (wT kA q cc ac co ad rc nm st an))) hx hb hts hinX3 tyX3 tyX3_ok nmX3 hown hK hP hD hS 0 rfl rfl 6 rfl ⟨rfl, rfl, rfl, rfl⟩ f95 rfl rfl rfl rfl dX3_readAllSets_56 (fun H locs hP hD hS => ?_)
            refine lv_iinc (v := (nI (i + 1))) (lv' := [(1, .int (nI (i + 1))), (2, .int (nI ((rsF tx len (ac i) p).1))), (0, .ref (qs 0))]) hx hb dX3_readAllSets_59 hl (k := 1) rfl (nI_inc _) (by decide) rfl (fun ls hl => ?_)
            refine lv_goto (tgt := 7) hx hb dX3_readAllSets_62 (by decide) ?_
            exact ih7 (i + 1) (sets ||| (((rsF tx len (ac i) p).1) <<< (4 * i))) ((rsF tx len (ac i) p).2) (by omega) (by first | assumption | omega) (by first | exact rsF_le hp | exact rsF_le (hereF_lt hb28).1) (by
        rw [hs, show cc - i = (cc - (i + 1)) + 1 by omega]
        first
        | rw [rasL_z c19, if_neg (by omega)]
        | rw [rasL_c (by omega) hb28, if_neg (by omega)]) _ _ hP hD hS _ (lv_sub hl [0, 2] rfl)
          · refine lv_iconst (v := (nI 0)) hx hb dX3_readAllSets_43 (by decide) ?_
            have e9 : rasL tx len ac cc 0 0 pos = (false, sets, ((rsF tx len (ac i) p).2)) := by
              rw [hs, show cc - i = (cc - (i + 1)) + 1 by omega]
              first
              | rw [rasL_z c19, if_pos c40]
              | rw [rasL_c (by omega) hb28, if_pos c40]
            have hP : va_P D vwCl ((wS kA qs q tx len ((rasL tx len ac cc 0 0 pos).2.2) kd rw0 ((rasL tx len ac cc 0 0 pos).2.1) av) ++ (wT kA q cc ac co ad rc nm st an)) H := by rw [e9]; exact hP
            have hD : va_D A ((wS kA qs q tx len ((rasL tx len ac cc 0 0 pos).2.2) kd rw0 ((rasL tx len ac cc 0 0 pos).2.1) av) ++ (wT kA q cc ac co ad rc nm st an)) := by rw [e9]; exact hD
            have hP : va_P D vwCl ((wS kA qs q tx len ((rasL tx len ac cc 0 0 pos).2.2) kd rw0 ((rasL tx len ac cc 0 0 pos).2.1) av) ++ (wT kA q cc ac co ad rc nm st an)) H := hP
            have hD : va_D A ((wS kA qs q tx len ((rasL tx len ac cc 0 0 pos).2.2) kd rw0 ((rasL tx len ac cc 0 0 pos).2.1) av) ++ (wT kA q cc ac co ad rc nm st an)) := hD
            exact n_wretz hx hb hr hlocks (post := fun (r : Int32) (u : Unit) => r = (bI ((rasL tx len ac cc 0 0 pos).1))) (w1 := fun u => ((wS kA qs q tx len ((rasL tx len ac cc 0 0 pos).2.2) kd rw0 ((rasL tx len ac cc 0 0 pos).2.1) av) ++ (wT kA q cc ac co ad rc nm st an))) rfl () (by rw [e9]; rfl) hP hD hK hS hAe dX3_readAllSets_44
        · refine lv_aload_n hx hb dX3_readAllSets_22 rfl (lv_at hl 1 rfl) ?_
          refine lv_bipush (v := (nI 44)) hx hb dX3_readAllSets_23 (by decide) ?_
          refine n_wVi (b := qs 0) (As := [.int (nI 44)]) (rest := []) (wr := []) (ws' := fun u => ((wS kA qs q tx len (stpF tx len 44 p) kd rw0 sets av) ++ (wT kA q cc ac co ad rc nm st an))) hS0 (c_X3_readByte lQ D kA qs tx len p kd rw0 sets av q cc ac co ad rc nm st an 44 H.size (by first | assumption | omega) (by first | assumption | omega) (by first | assumption | omega) (by first | assumption | omega)) (cwV 1 hts gX3_readAllSets_X3_readByte rfl rfl rfl (by decide +kernel) ⟨Nat.le_of_ble_eq_true rfl, Nat.le_of_ble_eq_true rfl⟩) hP hD hS hA hK hK (by simpa only [List.append_assoc, List.append_nil] using ((List.Perm.refl _).trans (List.Perm.append_left _ (List.Perm.of_eq (List.append_nil _).symm)))) (fun u => List.Perm.symm (by simpa only [List.append_assoc, List.append_nil] using ((List.Perm.refl _).trans (List.Perm.append_left _ (List.Perm.of_eq (List.append_nil _).symm))))) (q0 := 0) rfl rfl rfl rfl rfl hl.1 (Nat.le_of_ble_eq_true rfl) dX3_readAllSets_25 ⟨Nat.le_refl _, Nat.le_refl _⟩ (fun r25 u25 H locs h25 hP hD hS => ?_)
          subst h25
          have hP : va_P D vwCl ((wS kA qs q tx len (stpF tx len 44 p) kd rw0 sets av) ++ (wT kA q cc ac co ad rc nm st an)) H := hP
          have hD : va_D A ((wS kA qs q tx len (stpF tx len 44 p) kd rw0 sets av) ++ (wT kA q cc ac co ad rc nm st an)) := hD
          refine n_ifb_ne (b := decide (hereF tx len p = some 44)) (tgt := 33) hx hb dX3_readAllSets_28 (by decide) (fun c28 => ?_) (fun c28 => ?_)
          · have hb28 := of_decide_eq_true c28
            have es28 : stpF tx len 44 p = p + 1 := if_pos hb28
            rw [es28] at hP hD
            refine lv_aload_n hx hb dX3_readAllSets_33 rfl (lv_at hl 1 rfl) ?_
            refine lv_iload_n hx hb dX3_readAllSets_34 rfl (lv_at hl 0 rfl) ?_
            refine n_wVi (b := qs 0) (As := [.int (nI i)]) (rest := []) (wr := []) (ws' := fun u => ((wS kA qs q tx len ((rsF tx len (ac i) (p + 1)).2) kd rw0 sets av) ++ (wT kA q cc ac co ad rc nm st an))) hS0 (c_X3_readSet lQ D kA qs tx len (p + 1) kd rw0 sets av q cc ac co ad rc nm st an i H.size (by first | assumption | omega) (by first | exact hp | exact (hereF_lt hb28).1) (by first | assumption | omega) (by first | assumption | omega) (hac i (by omega))) (cwV 1 hts gX3_readAllSets_X3_readSet rfl rfl rfl (by decide +kernel) ⟨Nat.le_of_ble_eq_true rfl, Nat.le_of_ble_eq_true rfl⟩) hP hD hS hA hK hK (by simpa only [List.append_assoc, List.append_nil] using ((List.Perm.refl _).trans (List.Perm.append_left _ (List.Perm.of_eq (List.append_nil _).symm)))) (fun u => List.Perm.symm (by simpa only [List.append_assoc, List.append_nil] using ((List.Perm.refl _).trans (List.Perm.append_left _ (List.Perm.of_eq (List.append_nil _).symm))))) (q0 := 0) rfl rfl rfl rfl rfl hl.1 (Nat.le_of_ble_eq_true rfl) dX3_readAllSets_35 ⟨Nat.le_refl _, Nat.le_refl _⟩ (fun r35 u35 H locs h35 hP hD hS => ?_)
            subst h35
            have hP : va_P D vwCl ((wS kA qs q tx len ((rsF tx len (ac i) (p + 1)).2) kd rw0 sets av) ++ (wT kA q cc ac co ad rc nm st an)) H := hP
            have hD : va_D A ((wS kA qs q tx len ((rsF tx len (ac i) (p + 1)).2) kd rw0 sets av) ++ (wT kA q cc ac co ad rc nm st an)) := hD
            refine lv_istore_n (lv' := [(2, .int (nI ((rsF tx len (ac i) (p + 1)).1))), (1, .int (nI i)), (0, .ref (qs 0))]) hx hb dX3_readAllSets_38 rfl hl (by decide) rfl (fun ls hl => ?_)
            refine lv_iload_n hx hb dX3_readAllSets_39 rfl (lv_at hl 0 rfl) ?_
            refine n_if_ne (a := (rsF tx len (ac i) (p + 1)).1) (tgt := 45) hx hb (Nat.lt_trans (rsF_lt (hac i (by omega))) (by decide)) dX3_readAllSets_40 (by decide) (fun c40 => ?_) (fun c40 => ?_)
            · refine lv_aload_n hx hb dX3_readAllSets_45 rfl (lv_at hl 2 rfl) ?_
              refine lv_dup hx hb dX3_readAllSets_46 rfl ?_
              refine n_get (ci := 3) (v := .int (nI sets)) (C := RX3) (T := TX3) (N := 8) hx hb hts hinX3 hown hK hP 0 rfl rfl 6 rfl ⟨rfl, rfl, rfl⟩ f95 rfl dX3_readAllSets_47 ?_
              refine lv_iload_n hx hb dX3_readAllSets_50 rfl (lv_at hl 0 rfl) ?_
              refine lv_iconst (v := (nI 4)) hx hb dX3_readAllSets_51 (by decide) ?_
              refine lv_iload_n hx hb dX3_readAllSets_52 rfl (lv_at hl 1 rfl) ?_
              refine n_imul (v := (nI (4 * i))) hx hb (pk_mul _ _) dX3_readAllSets_53 ?_
              refine n_ishl (v := (nI (((rsF tx len (ac i) (p + 1)).1) <<< (4 * i)))) hx hb (nN_shl _ (by omega)) dX3_readAllSets_54 ?_
              refine n_ior (v := (nI (sets ||| (((rsF tx len (ac i) (p + 1)).1) <<< (4 * i))))) hx hb (nN_or _ _) dX3_readAllSets_55 ?_
              refine n_put (ci := 3) (v := .int (nI (sets ||| (((rsF tx len (ac i) (p + 1)).1) <<< (4 * i))))) (C := RX3) (T := TX3) (N := 8) (ws' := ((wS kA qs q tx len ((rsF tx len (ac i) (p + 1)).2) kd rw0 (sets ||| (((rsF tx len (ac i) (p + 1)).1) <<< (4 * i))) av) ++ (wT kA q cc ac co ad rc nm st an))) hx hb hts hinX3 tyX3 tyX3_ok nmX3 hown hK hP hD hS 0 rfl rfl 6 rfl ⟨rfl, rfl, rfl, rfl⟩ f95 rfl rfl rfl rfl dX3_readAllSets_56 (fun H locs hP hD hS => ?_)
              refine lv_iinc (v := (nI (i + 1))) (lv' := [(1, .int (nI (i + 1))), (2, .int (nI ((rsF tx len (ac i) (p + 1)).1))), (0, .ref (qs 0))]) hx hb dX3_readAllSets_59 hl (k := 1) rfl (nI_inc _) (by decide) rfl (fun ls hl => ?_)
              refine lv_goto (tgt := 7) hx hb dX3_readAllSets_62 (by decide) ?_
              exact ih7 (i + 1) (sets ||| (((rsF tx len (ac i) (p + 1)).1) <<< (4 * i))) ((rsF tx len (ac i) (p + 1)).2) (by omega) (by first | assumption | omega) (by first | exact rsF_le hp | exact rsF_le (hereF_lt hb28).1) (by
        rw [hs, show cc - i = (cc - (i + 1)) + 1 by omega]
        first
        | rw [rasL_z c19, if_neg (by omega)]
        | rw [rasL_c (by omega) hb28, if_neg (by omega)]) _ _ hP hD hS _ (lv_sub hl [0, 2] rfl)
            · refine lv_iconst (v := (nI 0)) hx hb dX3_readAllSets_43 (by decide) ?_
              have e9 : rasL tx len ac cc 0 0 pos = (false, sets, ((rsF tx len (ac i) (p + 1)).2)) := by
                rw [hs, show cc - i = (cc - (i + 1)) + 1 by omega]
                first
                | rw [rasL_z c19, if_pos c40]
                | rw [rasL_c (by omega) hb28, if_pos c40]
              have hP : va_P D vwCl ((wS kA qs q tx len ((rasL tx len ac cc 0 0 pos).2.2) kd rw0 ((rasL tx len ac cc 0 0 pos).2.1) av) ++ (wT kA q cc ac co ad rc nm st an)) H := by rw [e9]; exact hP
              have hD : va_D A ((wS kA qs q tx len ((rasL tx len ac cc 0 0 pos).2.2) kd rw0 ((rasL tx len ac cc 0 0 pos).2.1) av) ++ (wT kA q cc ac co ad rc nm st an)) := by rw [e9]; exact hD
              have hP : va_P D vwCl ((wS kA qs q tx len ((rasL tx len ac cc 0 0 pos).2.2) kd rw0 ((rasL tx len ac cc 0 0 pos).2.1) av) ++ (wT kA q cc ac co ad rc nm st an)) H := hP
              have hD : va_D A ((wS kA qs q tx len ((rasL tx len ac cc 0 0 pos).2.2) kd rw0 ((rasL tx len ac cc 0 0 pos).2.1) av) ++ (wT kA q cc ac co ad rc nm st an)) := hD
              exact n_wretz hx hb hr hlocks (post := fun (r : Int32) (u : Unit) => r = (bI ((rasL tx len ac cc 0 0 pos).1))) (w1 := fun u => ((wS kA qs q tx len ((rasL tx len ac cc 0 0 pos).2.2) kd rw0 ((rasL tx len ac cc 0 0 pos).2.1) av) ++ (wT kA q cc ac co ad rc nm st an))) rfl () (by rw [e9]; rfl) hP hD hK hS hAe dX3_readAllSets_44
          · have hb28 := of_decide_eq_false c28
            have es28 : stpF tx len 44 p = p := if_neg hb28
            rw [es28] at hP hD
            refine lv_iconst (v := (nI 0)) hx hb dX3_readAllSets_31 (by decide) ?_
            have e9 : rasL tx len ac cc 0 0 pos = (false, sets, p) := by
              rw [hs, show cc - i = (cc - (i + 1)) + 1 by omega, rasL_n (by omega) hb28]
            have hP : va_P D vwCl ((wS kA qs q tx len ((rasL tx len ac cc 0 0 pos).2.2) kd rw0 ((rasL tx len ac cc 0 0 pos).2.1) av) ++ (wT kA q cc ac co ad rc nm st an)) H := by rw [e9]; exact hP
            have hD : va_D A ((wS kA qs q tx len ((rasL tx len ac cc 0 0 pos).2.2) kd rw0 ((rasL tx len ac cc 0 0 pos).2.1) av) ++ (wT kA q cc ac co ad rc nm st an)) := by rw [e9]; exact hD
            have hP : va_P D vwCl ((wS kA qs q tx len ((rasL tx len ac cc 0 0 pos).2.2) kd rw0 ((rasL tx len ac cc 0 0 pos).2.1) av) ++ (wT kA q cc ac co ad rc nm st an)) H := hP
            have hD : va_D A ((wS kA qs q tx len ((rasL tx len ac cc 0 0 pos).2.2) kd rw0 ((rasL tx len ac cc 0 0 pos).2.1) av) ++ (wT kA q cc ac co ad rc nm st an)) := hD
            exact n_wretz hx hb hr hlocks (post := fun (r : Int32) (u : Unit) => r = (bI ((rasL tx len ac cc 0 0 pos).1))) (w1 := fun u => ((wS kA qs q tx len ((rasL tx len ac cc 0 0 pos).2.2) kd rw0 ((rasL tx len ac cc 0 0 pos).2.1) av) ++ (wT kA q cc ac co ad rc nm st an))) rfl () (by rw [e9]; rfl) hP hD hK hS hAe dX3_readAllSets_32
  exact L7 ((cc - 0) + 1) 0 0 pos (Nat.lt_succ_self _) (by first | assumption | omega) (by first | assumption | omega) rfl _ _ hP hD hS _ (lv_sub hl [0, 1] rfl)

set_option maxHeartbeats 4000000 in
set_option maxRecDepth 100000 in
theorem c_X3_wordIs (lQ : Launch) (D : va_G) (kA : Nat → ClassId) (adK adV : Nat → Nat) (qs : Nat → Nat) (tx : Nat → Nat) (len : Nat) (pos : Nat) (kd : Option Nat) (rw0 : Nat) (ss : Nat) (av : Option Nat) (q : Nat → Nat) (cc : Nat) (ac : Nat → Nat) (co : Nat → Nat) (ad : Nat) (rc : Nat) (nm : Nat → Nat) (st : Nat → Nat) (an : Nat → Nat) (fr : Nat) (i : Nat) (hi : i < 4) (hlen : len ≤ 150) (hpl : pos ≤ len) (htx : ∀ j, j < len → tx j < 128) (hfr : fr ≤ pos) : Met lQ yX3_wordIs wsX3_wordIs (rmN 4 85) (rdE_Pc D vwCl adK adV [.ref (qs 0), .int (nI fr), .ref (adK i)] ((wS kA qs q tx len pos kd rw0 ss av) ++ (wT kA q cc ac co ad rc nm st an)) (tyK kA)) (vp_Si (fun r : Int32 => r = (bI (wisB tx fr pos i)))) 0 0 (fun _ => False) := by
  refine Met.ofW (cc := cX3_wordIs) (maxL := 4) (ret := (some .boolean)) (by decide) rfl ?_
  intro pQ eQ s mQ args below meth cQ s₁ B hml hv
  obtain ⟨rfl, hP, hK, hE⟩ := hv
  have hx := B.exec
  have hb := B.bytes
  have hr := B.returns
  have hts := atoms_spec (ws := wsX3_wordIs) B.pre
  have hown : s.vm.findClass RX3 = some mQ.cls := findClass_of_methodNamed B.named
  have hlocks : meth.locks = false := B.notSynchronized
  have hS0 : CallFix pQ mQ cQ cX3_wordIs 4 s ([.ref (qs 0), .int (nI fr), .ref (adK i)] : List Value).toArray wsX3_wordIs RX3 := ⟨hx, hb, hml, hown, hts⟩
  have f33 : (Cond.fieldLink RX3 33 "AskedRules$Script" "position" "I").before ([.ref (qs 0), .int (nI fr), .ref (adK i)] : List Value).toArray s = true := hts _ (by decide +kernel)
  have hinX3 : ∀ w ∈ wsX30, w ∈ wsX3_wordIs := by decide +kernel
  have f19 : (Cond.fieldLink RX3 19 "AskedRules$Script" "length" "I").before ([.ref (qs 0), .int (nI fr), .ref (adK i)] : List Value).toArray s = true := hts _ (by decide +kernel)
  have f9 : (Cond.fieldLink RX3 9 "AskedRules$Script" "text" "[B").before ([.ref (qs 0), .int (nI fr), .ref (adK i)] : List Value).toArray s = true := hts _ (by decide +kernel)
  have hl := lv_entry ([.ref (qs 0), .int (nI fr), .ref (adK i)]) (n := 4) (Nat.le_of_ble_eq_true rfl)
  rw [lg_entry_eq]
  generalize (lg_sl ([.ref (qs 0), .int (nI fr), .ref (adK i)]) ++ List.replicate (4 - (lg_sl ([.ref (qs 0), .int (nI fr), .ref (adK i)])).length) Slot.unset).toArray = ls at hl ⊢
  have hl : lv_has ls 4 [(0, .ref (qs 0)), (1, .int (nI fr)), (2, .ref (adK i))] := hl
  have hP : va_P D vwCl ((wS kA qs q tx len pos kd rw0 ss av) ++ (wT kA q cc ac co ad rc nm st an)) s.heap := hP
  have hlen2 := lenW_le i hi
  refine lv_iload_n hx hb dX3_wordIs_0 rfl (lv_at hl 1 rfl) ?_
  refine n_ifn_lt (a := fr) (tgt := 28) hx hb (by omega) dX3_wordIs_1 (by decide) ?_
  refine lv_aload_n hx hb dX3_wordIs_4 rfl (lv_at hl 0 rfl) ?_
  refine n_get (ci := 3) (v := .int (nI pos)) (C := RX3) (T := TX3) (N := 8) hx hb hts hinX3 hown hK hP 0 rfl rfl 3 rfl ⟨rfl, rfl, rfl⟩ f33 rfl dX3_wordIs_5 ?_
  refine lv_aload_n hx hb dX3_wordIs_8 rfl (lv_at hl 0 rfl) ?_
  refine n_get (ci := 3) (v := .int (nI len)) (C := RX3) (T := TX3) (N := 8) hx hb hts hinX3 hown hK hP 0 rfl rfl 2 rfl ⟨rfl, rfl, rfl⟩ f19 rfl dX3_wordIs_9 ?_
  refine n_icmp_gt (a := pos) (b := len) (tgt := 28) hx hb (by omega) (by omega) dX3_wordIs_12 (by decide) (fun c12 => ?_) (fun c12 => ?_)
  · omega
  · refine lv_aload_n hx hb dX3_wordIs_15 rfl (lv_at hl 0 rfl) ?_
    refine n_get (ci := 3) (v := .int (nI pos)) (C := RX3) (T := TX3) (N := 8) hx hb hts hinX3 hown hK hP 0 rfl rfl 3 rfl ⟨rfl, rfl, rfl⟩ f33 rfl dX3_wordIs_16 ?_
    refine lv_iload_n hx hb dX3_wordIs_19 rfl (lv_at hl 1 rfl) ?_
    refine n_isub (v := (nI (pos - fr))) hx hb (pk_sub (by omega)) dX3_wordIs_20 ?_
    refine lv_aload_n hx hb dX3_wordIs_21 rfl (lv_at hl 2 rfl) ?_
    refine n_cVKE (C := RJ0) (b := adK i) (As := []) (rest := [.int (nI (pos - fr))]) (wc := []) hS0 (c_J0_length_8abf5 lQ D kA adK adV i hi) (cwV 0 hts gX3_wordIs_J0_length_8abf5 rfl rfl rfl (by decide +kernel) ⟨Nat.le_of_ble_eq_true rfl, Nat.le_of_ble_eq_true rfl⟩) (hP.mem (ws' := []) (fun qQ h => absurd h List.not_mem_nil)) hK (vk_recv hE.2.2.2.1.1 hi va_S.rf) hE va_S.rf rfl rfl hl.1 (Nat.le_of_ble_eq_true rfl) dX3_wordIs_22 ⟨Nat.le_refl _, Nat.le_refl _⟩ (fun r22 h22 => ?_)
    subst h22
    refine n_icmp_eq (a := pos - fr) (b := lenW.getD i 0) (tgt := 30) hx hb (by omega) (by omega) dX3_wordIs_25 (by decide) (fun c25 => ?_) (fun c25 => ?_)
    · refine lv_iconst (v := (nI 0)) hx hb dX3_wordIs_30 (by decide) ?_
      refine lv_istore_n (lv' := [(3, .int (nI 0)), (0, .ref (qs 0)), (1, .int (nI fr)), (2, .ref (adK i))]) hx hb dX3_wordIs_31 rfl hl (by decide) rfl (fun ls hl => ?_)
      have L32 : ∀ (nQ : Nat) (j : Nat), lenW.getD i 0 - j < nQ → (j ≤ lenW.getD i 0) → (∀ x, x < j → decide (tx (fr + x) = chN i x) = true) → ∀ (ls : Array Slot), lv_has ls 4 [(3, .int (nI j)), (0, .ref (qs 0)), (1, .int (nI fr)), (2, .ref (adK i))] → W pQ lQ eQ (headSpec wsX3_wordIs (rmN 4 85)).room s mQ ([.ref (qs 0), .int (nI fr), .ref (adK i)] : List Value).toArray below meth cQ s.heap [] 0 0 (MQ below (vp_Si (fun r : Int32 => r = (bI (wisB tx fr pos i)))) ([.ref (qs 0), .int (nI fr), .ref (adK i)] : List Value).toArray s 0 0 (fun _ => False)) (F0 mQ 32 ls []) := by
        intro nQ
        induction nQ with
        | zero => intro j hn; exact absurd hn (Nat.not_lt_zero _)
        | succ nQ ih32 =>
          intro j hm32 hj hs ls hl
          refine lv_iload_n hx hb dX3_wordIs_32 rfl (lv_at hl 0 rfl) ?_
          refine lv_aload_n hx hb dX3_wordIs_33 rfl (lv_at hl 3 rfl) ?_
          refine n_cVKE (C := RJ0) (b := adK i) (As := []) (rest := [.int (nI j)]) (wc := []) hS0 (c_J0_length_8abf5 lQ D kA adK adV i hi) (cwV 0 hts gX3_wordIs_J0_length_8abf5 rfl rfl rfl (by decide +kernel) ⟨Nat.le_of_ble_eq_true rfl, Nat.le_of_ble_eq_true rfl⟩) (hP.mem (ws' := []) (fun qQ h => absurd h List.not_mem_nil)) hK (vk_recv hE.2.2.2.1.1 hi va_S.rf) hE va_S.rf rfl rfl hl.1 (Nat.le_of_ble_eq_true rfl) dX3_wordIs_34 ⟨Nat.le_refl _, Nat.le_refl _⟩ (fun r34 h34 => ?_)
          subst h34
          refine n_icmp_ge (a := j) (b := lenW.getD i 0) (tgt := 64) hx hb (by omega) (by omega) dX3_wordIs_37 (by decide) (fun c37 => ?_) (fun c37 => ?_)
          · refine lv_iconst (v := (nI 1)) hx hb dX3_wordIs_64 (by decide) ?_
            exact n_retz hx hb hr hlocks (post := fun r : Int32 => r = (bI (wisB tx fr pos i))) rfl (by unfold wisB; rw [decide_eq_true c25, allB_t (fun x h9 => hs x (by omega))]; rfl) rfl dX3_wordIs_65
          · refine lv_aload_n hx hb dX3_wordIs_40 rfl (lv_at hl 1 rfl) ?_
            refine n_get (ci := 3) (v := .ref (qs 1)) (C := RX3) (T := TX3) (N := 8) hx hb hts hinX3 hown hK hP 0 rfl rfl 1 rfl ⟨rfl, rfl, rfl⟩ f9 rfl dX3_wordIs_41 ?_
            refine lv_iload_n hx hb dX3_wordIs_44 rfl (lv_at hl 2 rfl) ?_
            refine lv_iload_n hx hb dX3_wordIs_45 rfl (lv_at hl 0 rfl) ?_
            refine n_iadd (v := (nI (fr + j))) hx hb (nI_add _ _) dX3_wordIs_46 ?_
            refine n_bald (i := fr + j) (v := (nI (tx (fr + j)))) hx hb hK hP 1 1 rfl rfl (by omega) (Nat.le_of_ble_eq_true rfl) rfl dX3_wordIs_47 ?_
            refine lv_aload_n hx hb dX3_wordIs_48 rfl (lv_at hl 3 rfl) ?_
            refine lv_iload_n hx hb dX3_wordIs_49 rfl (lv_at hl 0 rfl) ?_
            refine n_cVKE (C := RJ0) (b := adK i) (As := [.int (nI j)]) (rest := [.int (nI (tx (fr + j)))]) (wc := []) hS0 (c_J0_charAt_5068e lQ D kA adK adV j i hi (by omega)) (cwV 1 hts gX3_wordIs_J0_charAt_5068e rfl rfl rfl (by decide +kernel) ⟨Nat.le_of_ble_eq_true rfl, Nat.le_of_ble_eq_true rfl⟩) (hP.mem (ws' := []) (fun qQ h => absurd h List.not_mem_nil)) hK (vk_recv hE.2.2.2.1.1 hi va_S.rf) hE va_S.rf rfl rfl hl.1 (Nat.le_of_ble_eq_true rfl) dX3_wordIs_50 ⟨Nat.le_refl _, Nat.le_refl _⟩ (fun r50 h50 => ?_)
            subst h50
            refine n_icmp_eq (a := tx (fr + j)) (b := chN i j) (tgt := 58) hx hb (by have := htx (fr + j) (by omega); omega) (by have := chW_lt i hi j (by omega); omega) dX3_wordIs_53 (by decide) (fun c53 => ?_) (fun c53 => ?_)
            · refine lv_iinc (v := (nI (j + 1))) (lv' := [(3, .int (nI (j + 1))), (0, .ref (qs 0)), (1, .int (nI fr)), (2, .ref (adK i))]) hx hb dX3_wordIs_58 hl (k := 0) rfl (nI_inc _) (by decide) rfl (fun ls hl => ?_)
              refine lv_goto (tgt := 32) hx hb dX3_wordIs_61 (by decide) ?_
              exact ih32 (j + 1) (by omega) (by first | assumption | omega) (fun x h9 => if e : x = j then (by rw [e]; exact decide_eq_true c53) else hs x (by omega)) _ (lv_sub hl [0, 1, 2, 3] rfl)
            · refine lv_iconst (v := (nI 0)) hx hb dX3_wordIs_56 (by decide) ?_
              exact n_retz hx hb hr hlocks (post := fun r : Int32 => r = (bI (wisB tx fr pos i))) rfl (by unfold wisB; rw [allB_f (p := j) (decide_eq_false c53) (by omega), Bool.and_false]; rfl) rfl dX3_wordIs_57
      exact L32 ((lenW.getD i 0 - 0) + 1) 0 (Nat.lt_succ_self _) (by first | assumption | omega) (fun x h => absurd h (Nat.not_lt_zero x)) _ (lv_sub hl [0, 1, 2, 3] rfl)
    · refine lv_iconst (v := (nI 0)) hx hb dX3_wordIs_28 (by decide) ?_
      exact n_retz hx hb hr hlocks (post := fun r : Int32 => r = (bI (wisB tx fr pos i))) rfl (by unfold wisB; rw [decide_eq_false c25]; rfl) rfl dX3_wordIs_29

set_option maxHeartbeats 4000000 in
set_option maxRecDepth 100000 in
theorem c_X3_kindOfWord (lQ : Launch) (D : va_G) (kA : Nat → ClassId) (adK adV : Nat → Nat) (qs : Nat → Nat) (tx : Nat → Nat) (len : Nat) (pos : Nat) (kd : Option Nat) (rw0 : Nat) (ss : Nat) (av : Option Nat) (q : Nat → Nat) (cc : Nat) (ac : Nat → Nat) (co : Nat → Nat) (ad : Nat) (rc : Nat) (nm : Nat → Nat) (st : Nat → Nat) (an : Nat → Nat) (fr : Nat) (hlen : len ≤ 150) (hpl : pos ≤ len) (htx : ∀ j, j < len → tx j < 128) (hfr : fr ≤ pos) : Met lQ yX3_kindOfWord wsX3_kindOfWord (rmN 5 108) (rdE_Pc D vwCl adK adV [.ref (qs 0), .int (nI fr)] ((wS kA qs q tx len pos kd rw0 ss av) ++ (wT kA q cc ac co ad rc nm st an)) (tyK kA)) (vp_Si (fun r : Int32 => r = (oI (kndF tx fr pos)))) 0 0 (fun _ => False) := by
  refine Met.ofW (cc := cX3_kindOfWord) (maxL := 2) (ret := (some .int)) (by decide) rfl ?_
  intro pQ eQ s mQ args below meth cQ s₁ B hml hv
  obtain ⟨rfl, hP, hK, hE⟩ := hv
  have hx := B.exec
  have hb := B.bytes
  have hr := B.returns
  have hts := atoms_spec (ws := wsX3_kindOfWord) B.pre
  have hown : s.vm.findClass RX3 = some mQ.cls := findClass_of_methodNamed B.named
  have hlocks : meth.locks = false := B.notSynchronized
  have hS0 : CallFix pQ mQ cQ cX3_kindOfWord 2 s ([.ref (qs 0), .int (nI fr)] : List Value).toArray wsX3_kindOfWord RX3 := ⟨hx, hb, hml, hown, hts⟩
  skip
  have hl := lv_entry ([.ref (qs 0), .int (nI fr)]) (n := 2) (Nat.le_of_ble_eq_true rfl)
  rw [lg_entry_eq]
  generalize (lg_sl ([.ref (qs 0), .int (nI fr)]) ++ List.replicate (2 - (lg_sl ([.ref (qs 0), .int (nI fr)])).length) Slot.unset).toArray = ls at hl ⊢
  have hl : lv_has ls 2 [(0, .ref (qs 0)), (1, .int (nI fr))] := hl
  have hP : va_P D vwCl ((wS kA qs q tx len pos kd rw0 ss av) ++ (wT kA q cc ac co ad rc nm st an)) s.heap := hP
  refine lv_aload_n hx hb dX3_kindOfWord_0 rfl (lv_at hl 0 rfl) ?_
  refine lv_iload_n hx hb dX3_kindOfWord_1 rfl (lv_at hl 1 rfl) ?_
  refine va_ldcS hx hb hown hE.2.2.2.1.2.1 dX3_kindOfWord_2 ?_
  refine n_cVE (b := qs 0) (As := [.int (nI fr), .ref (adK 0)]) (rest := []) (wc := ((wS kA qs q tx len pos kd rw0 ss av) ++ (wT kA q cc ac co ad rc nm st an))) hS0 (c_X3_wordIs lQ D kA adK adV qs tx len pos kd rw0 ss av q cc ac co ad rc nm st an fr 0 (by decide) (by first | assumption | omega) (by first | assumption | omega) (by first | assumption | omega) (by first | assumption | omega)) (cwV 2 hts gX3_kindOfWord_X3_wordIs rfl rfl rfl (by decide +kernel) ⟨Nat.le_of_ble_eq_true rfl, Nat.le_of_ble_eq_true rfl⟩) hP hK (q0 := 0) rfl rfl rfl hE va_S.rf rfl rfl hl.1 (Nat.le_of_ble_eq_true rfl) dX3_kindOfWord_4 ⟨Nat.le_refl _, Nat.le_refl _⟩ (fun r4 h4 => ?_)
  subst h4
  refine n_ifb_eq (b := wisB tx fr pos 0) (tgt := 12) hx hb dX3_kindOfWord_7 (by decide) (fun c7 => ?_) (fun c7 => ?_)
  · refine lv_aload_n hx hb dX3_kindOfWord_12 rfl (lv_at hl 0 rfl) ?_
    refine lv_iload_n hx hb dX3_kindOfWord_13 rfl (lv_at hl 1 rfl) ?_
    refine va_ldcS hx hb hown hE.2.2.2.1.2.2.1 dX3_kindOfWord_14 ?_
    refine n_cVE (b := qs 0) (As := [.int (nI fr), .ref (adK 1)]) (rest := []) (wc := ((wS kA qs q tx len pos kd rw0 ss av) ++ (wT kA q cc ac co ad rc nm st an))) hS0 (c_X3_wordIs lQ D kA adK adV qs tx len pos kd rw0 ss av q cc ac co ad rc nm st an fr 1 (by decide) (by first | assumption | omega) (by first | assumption | omega) (by first | assumption | omega) (by first | assumption | omega)) (cwV 2 hts gX3_kindOfWord_X3_wordIs rfl rfl rfl (by decide +kernel) ⟨Nat.le_of_ble_eq_true rfl, Nat.le_of_ble_eq_true rfl⟩) hP hK (q0 := 0) rfl rfl rfl hE va_S.rf rfl rfl hl.1 (Nat.le_of_ble_eq_true rfl) dX3_kindOfWord_16 ⟨Nat.le_refl _, Nat.le_refl _⟩ (fun r16 h16 => ?_)
    subst h16
    refine n_ifb_eq (b := wisB tx fr pos 1) (tgt := 24) hx hb dX3_kindOfWord_19 (by decide) (fun c19 => ?_) (fun c19 => ?_)
    · refine lv_aload_n hx hb dX3_kindOfWord_24 rfl (lv_at hl 0 rfl) ?_
      refine lv_iload_n hx hb dX3_kindOfWord_25 rfl (lv_at hl 1 rfl) ?_
      refine va_ldcS hx hb hown hE.2.2.2.1.2.2.2.1 dX3_kindOfWord_26 ?_
      refine n_cVE (b := qs 0) (As := [.int (nI fr), .ref (adK 2)]) (rest := []) (wc := ((wS kA qs q tx len pos kd rw0 ss av) ++ (wT kA q cc ac co ad rc nm st an))) hS0 (c_X3_wordIs lQ D kA adK adV qs tx len pos kd rw0 ss av q cc ac co ad rc nm st an fr 2 (by decide) (by first | assumption | omega) (by first | assumption | omega) (by first | assumption | omega) (by first | assumption | omega)) (cwV 2 hts gX3_kindOfWord_X3_wordIs rfl rfl rfl (by decide +kernel) ⟨Nat.le_of_ble_eq_true rfl, Nat.le_of_ble_eq_true rfl⟩) hP hK (q0 := 0) rfl rfl rfl hE va_S.rf rfl rfl hl.1 (Nat.le_of_ble_eq_true rfl) dX3_kindOfWord_28 ⟨Nat.le_refl _, Nat.le_refl _⟩ (fun r28 h28 => ?_)
      subst h28
      refine n_ifb_eq (b := wisB tx fr pos 2) (tgt := 36) hx hb dX3_kindOfWord_31 (by decide) (fun c31 => ?_) (fun c31 => ?_)
      · refine lv_aload_n hx hb dX3_kindOfWord_36 rfl (lv_at hl 0 rfl) ?_
        refine lv_iload_n hx hb dX3_kindOfWord_37 rfl (lv_at hl 1 rfl) ?_
        refine va_ldcS hx hb hown hE.2.2.2.1.2.2.2.2 dX3_kindOfWord_38 ?_
        refine n_cVE (b := qs 0) (As := [.int (nI fr), .ref (adK 3)]) (rest := []) (wc := ((wS kA qs q tx len pos kd rw0 ss av) ++ (wT kA q cc ac co ad rc nm st an))) hS0 (c_X3_wordIs lQ D kA adK adV qs tx len pos kd rw0 ss av q cc ac co ad rc nm st an fr 3 (by decide) (by first | assumption | omega) (by first | assumption | omega) (by first | assumption | omega) (by first | assumption | omega)) (cwV 2 hts gX3_kindOfWord_X3_wordIs rfl rfl rfl (by decide +kernel) ⟨Nat.le_of_ble_eq_true rfl, Nat.le_of_ble_eq_true rfl⟩) hP hK (q0 := 0) rfl rfl rfl hE va_S.rf rfl rfl hl.1 (Nat.le_of_ble_eq_true rfl) dX3_kindOfWord_40 ⟨Nat.le_refl _, Nat.le_refl _⟩ (fun r40 h40 => ?_)
        subst h40
        refine n_ifb_eq (b := wisB tx fr pos 3) (tgt := 50) hx hb dX3_kindOfWord_43 (by decide) (fun c43 => ?_) (fun c43 => ?_)
        · refine lv_iconst (v := (oI none)) hx hb dX3_kindOfWord_50 (by decide) ?_
          exact n_reti hx hb hr hlocks (post := fun r : Int32 => r = (oI (kndF tx fr pos))) (by unfold kndF; rw [if_neg (bF c7), if_neg (bF c19), if_neg (bF c31)]; first | (rw [if_pos c43]; rfl) | (rw [if_neg (bF c43)])) rfl dX3_kindOfWord_51
        · refine lv_iconst (v := (nI 3)) hx hb dX3_kindOfWord_46 (by decide) ?_
          refine lv_goto (tgt := 51) hx hb dX3_kindOfWord_47 (by decide) ?_
          exact n_reti hx hb hr hlocks (post := fun r : Int32 => r = (oI (kndF tx fr pos))) (by unfold kndF; rw [if_neg (bF c7), if_neg (bF c19), if_neg (bF c31)]; first | (rw [if_pos c43]; rfl) | (rw [if_neg (bF c43)])) rfl dX3_kindOfWord_51
      · refine lv_iconst (v := (nI 2)) hx hb dX3_kindOfWord_34 (by decide) ?_
        exact n_reti hx hb hr hlocks (post := fun r : Int32 => r = (oI (kndF tx fr pos))) (by unfold kndF; rw [if_neg (bF c7), if_neg (bF c19), if_pos c31]; rfl) rfl dX3_kindOfWord_35
    · refine lv_iconst (v := (nI 1)) hx hb dX3_kindOfWord_22 (by decide) ?_
      exact n_reti hx hb hr hlocks (post := fun r : Int32 => r = (oI (kndF tx fr pos))) (by unfold kndF; rw [if_neg (bF c7), if_pos c19]; rfl) rfl dX3_kindOfWord_23
  · refine lv_iconst (v := (nI 0)) hx hb dX3_kindOfWord_10 (by decide) ?_
    exact n_reti hx hb hr hlocks (post := fun r : Int32 => r = (oI (kndF tx fr pos))) (by unfold kndF; rw [if_pos c7]; rfl) rfl dX3_kindOfWord_11

set_option maxHeartbeats 4000000 in
set_option maxRecDepth 100000 in
theorem c_X3_readCommand (lQ : Launch) (D : va_G) (kA : Nat → ClassId) (adK adV : Nat → Nat) (qs : Nat → Nat) (tx : Nat → Nat) (len : Nat) (pos : Nat) (kd : Option Nat) (rw0 : Nat) (ss : Nat) (av : Option Nat) (q : Nat → Nat) (cc : Nat) (ac : Nat → Nat) (co : Nat → Nat) (ad : Nat) (rc : Nat) (nm : Nat → Nat) (st : Nat → Nat) (an : Nat → Nat) (sz : Nat) (hlen : len ≤ 150) (hpl : pos ≤ len) (htx : ∀ j, j < len → tx j < 128) (hcc : cc ≤ 5) (hac : ∀ j, j < cc → ac j ≤ 4) : Met lQ yX3_readCommand wsX3_readCommand (rmN 6 129) (wrE_Pc D vwCl adK adV [.ref (qs 0)] ((wS kA qs q tx len pos kd rw0 ss av) ++ (wT kA q cc ac co ad rc nm st an)) (tyK kA) sz) (va_Qi (S := (Option Nat) × Nat × Nat × (Option Nat)) (fun (r : Int32) (u : (Option Nat) × Nat × Nat × (Option Nat)) => r = (bI ((rcP tx len ac cc pos).1)) ∧ ((rcP tx len ac cc pos).1 = true → rcC tx len ac cc pos u.1 u.2.1 u.2.2.1 u.2.2.2)) (wr_B D vwCl ((wS kA qs q tx len pos kd rw0 ss av) ++ (wT kA q cc ac co ad rc nm st an)) (tyK kA) sz (fun u => ((wS kA qs q tx len ((rcP tx len ac cc pos).2) u.1 u.2.1 u.2.2.1 u.2.2.2) ++ (wT kA q cc ac co ad rc nm st an)))) (va_A ((wS kA qs q tx len pos kd rw0 ss av) ++ (wT kA q cc ac co ad rc nm st an)) sz)) 0 0 (va_A ((wS kA qs q tx len pos kd rw0 ss av) ++ (wT kA q cc ac co ad rc nm st an)) sz) := by
  refine Met.ofW (cc := cX3_readCommand) (maxL := 3) (ret := (some .boolean)) (by decide) rfl ?_
  intro pQ eQ s mQ args below meth cQ s₁ B hml hv
  obtain ⟨rfl, hsz, hP, hK, hD0, hE⟩ := hv
  have hx := B.exec
  have hb := B.bytes
  have hr := B.returns
  have hts := atoms_spec (ws := wsX3_readCommand) B.pre
  have hown : s.vm.findClass RX3 = some mQ.cls := findClass_of_methodNamed B.named
  have hlocks : meth.locks = false := B.notSynchronized
  have hS0 : CallFix pQ mQ cQ cX3_readCommand 3 s ([.ref (qs 0)] : List Value).toArray wsX3_readCommand RX3 := ⟨hx, hb, hml, hown, hts⟩
  subst hsz
  have hD := hD0.self (sz := s.heap.size)
  generalize hAe : va_A ((wS kA qs q tx len pos kd rw0 ss av) ++ (wT kA q cc ac co ad rc nm st an)) s.heap.size = A at hD hE ⊢
  have hA : ∀ q : Nat, s.heap.size ≤ q → A q := fun q h => by rw [← hAe]; exact Or.inr h
  have hS : va_S A s.heap s.heap [] := va_S.rf
  have f33 : (Cond.fieldLink RX3 33 "AskedRules$Script" "position" "I").before ([.ref (qs 0)] : List Value).toArray s = true := hts _ (by decide +kernel)
  have hinX3 : ∀ w ∈ wsX30, w ∈ wsX3_readCommand := by decide +kernel
  have f47 : (Cond.fieldLink RX3 47 "AskedRules$Script" "kind" "I").before ([.ref (qs 0)] : List Value).toArray s = true := hts _ (by decide +kernel)
  have hl := lv_entry ([.ref (qs 0)]) (n := 3) (Nat.le_of_ble_eq_true rfl)
  rw [lg_entry_eq]
  generalize (lg_sl ([.ref (qs 0)]) ++ List.replicate (3 - (lg_sl ([.ref (qs 0)])).length) Slot.unset).toArray = ls at hl ⊢
  have hl : lv_has ls 3 [(0, .ref (qs 0))] := hl
  have hP : va_P D vwCl ((wS kA qs q tx len pos kd rw0 ss av) ++ (wT kA q cc ac co ad rc nm st an)) s.heap := hP
  have hD : va_D A ((wS kA qs q tx len pos kd rw0 ss av) ++ (wT kA q cc ac co ad rc nm st an)) := hD
  refine lv_aload_n hx hb dX3_readCommand_0 rfl (lv_at hl 0 rfl) ?_
  refine n_get (ci := 3) (v := .int (nI pos)) (C := RX3) (T := TX3) (N := 8) hx hb hts hinX3 hown hK hP 0 rfl rfl 3 rfl ⟨rfl, rfl, rfl⟩ f33 rfl dX3_readCommand_1 ?_
  refine lv_istore_n (lv' := [(1, .int (nI pos)), (0, .ref (qs 0))]) hx hb dX3_readCommand_4 rfl hl (by decide) rfl (fun ls hl => ?_)
  have J48 : ∀ (p : Nat), (p ≤ len) → (pos ≤ p) → (wenF tx len 150 pos = p) → ∀ (H : Heap) (locs : List Loc), va_P D vwCl ((wS kA qs q tx len p kd rw0 ss av) ++ (wT kA q cc ac co ad rc nm st an)) H → va_D A ((wS kA qs q tx len p kd rw0 ss av) ++ (wT kA q cc ac co ad rc nm st an)) → va_S A s.heap H locs → ∀ (ls : Array Slot), lv_has ls 3 [(1, .int (nI pos)), (0, .ref (qs 0))] → W pQ lQ eQ (headSpec wsX3_readCommand (rmN 6 129)).room s mQ ([.ref (qs 0)] : List Value).toArray below meth cQ H locs 0 0 (MQ below (va_Qi (S := (Option Nat) × Nat × Nat × (Option Nat)) (fun (r : Int32) (u : (Option Nat) × Nat × Nat × (Option Nat)) => r = (bI ((rcP tx len ac cc pos).1)) ∧ ((rcP tx len ac cc pos).1 = true → rcC tx len ac cc pos u.1 u.2.1 u.2.2.1 u.2.2.2)) (wr_B D vwCl ((wS kA qs q tx len pos kd rw0 ss av) ++ (wT kA q cc ac co ad rc nm st an)) (tyK kA) s.heap.size (fun u => ((wS kA qs q tx len ((rcP tx len ac cc pos).2) u.1 u.2.1 u.2.2.1 u.2.2.2) ++ (wT kA q cc ac co ad rc nm st an)))) A) ([.ref (qs 0)] : List Value).toArray s 0 0 A) (F0 mQ 48 ls []) := by
    intro p hp hge hs H locs hP hD hS ls hl
    refine lv_aload_n hx hb dX3_readCommand_48 rfl (lv_at hl 1 rfl) ?_
    refine lv_aload_n hx hb dX3_readCommand_49 rfl (lv_at hl 1 rfl) ?_
    refine lv_iload_n hx hb dX3_readCommand_50 rfl (lv_at hl 0 rfl) ?_
    refine n_cVE (b := qs 0) (As := [.int (nI pos)]) (rest := [.ref (qs 0)]) (wc := ((wS kA qs q tx len p kd rw0 ss av) ++ (wT kA q cc ac co ad rc nm st an))) hS0 (c_X3_kindOfWord lQ D kA adK adV qs tx len p kd rw0 ss av q cc ac co ad rc nm st an pos (by first | assumption | omega) (by first | assumption | omega) (by first | assumption | omega) (by first | assumption | omega)) (cwV 1 hts gX3_readCommand_X3_kindOfWord rfl rfl rfl (by decide +kernel) ⟨Nat.le_of_ble_eq_true rfl, Nat.le_of_ble_eq_true rfl⟩) hP hK (q0 := 0) rfl rfl rfl hE hS rfl rfl hl.1 (Nat.le_of_ble_eq_true rfl) dX3_readCommand_51 ⟨Nat.le_refl _, Nat.le_refl _⟩ (fun r51 h51 => ?_)
    subst h51
    cases hq51 : kndF tx pos p with
    | none =>
      show W pQ lQ eQ (headSpec wsX3_readCommand (rmN 6 129)).room s mQ ([.ref (qs 0)] : List Value).toArray below meth cQ H locs 0 0 (MQ below (va_Qi (S := (Option Nat) × Nat × Nat × (Option Nat)) (fun (r : Int32) (u : (Option Nat) × Nat × Nat × (Option Nat)) => r = (bI ((rcP tx len ac cc pos).1)) ∧ ((rcP tx len ac cc pos).1 = true → rcC tx len ac cc pos u.1 u.2.1 u.2.2.1 u.2.2.2)) (wr_B D vwCl ((wS kA qs q tx len pos kd rw0 ss av) ++ (wT kA q cc ac co ad rc nm st an)) (tyK kA) s.heap.size (fun u => ((wS kA qs q tx len ((rcP tx len ac cc pos).2) u.1 u.2.1 u.2.2.1 u.2.2.2) ++ (wT kA q cc ac co ad rc nm st an)))) A) ([.ref (qs 0)] : List Value).toArray s 0 0 A) (F0 mQ 54 ls [.int (oI none), .ref (qs 0)])
      refine n_put (ci := 3) (v := .int (oI none)) (C := RX3) (T := TX3) (N := 8) (ws' := ((wS kA qs q tx len p none rw0 ss av) ++ (wT kA q cc ac co ad rc nm st an))) hx hb hts hinX3 tyX3 tyX3_ok nmX3 hown hK hP hD hS 0 rfl rfl 4 rfl ⟨rfl, rfl, rfl, rfl⟩ f47 rfl rfl rfl rfl dX3_readCommand_54 (fun H locs hP hD hS => ?_)
      refine lv_aload_n hx hb dX3_readCommand_57 rfl (lv_at hl 1 rfl) ?_
      refine n_get (ci := 3) (v := .int (oI none)) (C := RX3) (T := TX3) (N := 8) hx hb hts hinX3 hown hK hP 0 rfl rfl 4 rfl ⟨rfl, rfl, rfl⟩ f47 rfl dX3_readCommand_58 ?_
      refine lv_tableOut (tgt := 164) hx hb dX3_readCommand_61 (by decide) (by decide) ?_
      refine lv_aload_n hx hb dX3_readCommand_164 rfl (lv_at hl 1 rfl) ?_
      refine lv_iload_n hx hb dX3_readCommand_165 rfl (lv_at hl 0 rfl) ?_
      refine n_put (ci := 3) (v := .int (nI pos)) (C := RX3) (T := TX3) (N := 8) (ws' := ((wS kA qs q tx len pos none rw0 ss av) ++ (wT kA q cc ac co ad rc nm st an))) hx hb hts hinX3 tyX3 tyX3_ok nmX3 hown hK hP hD hS 0 rfl rfl 3 rfl ⟨rfl, rfl, rfl, rfl⟩ f33 rfl rfl rfl rfl dX3_readCommand_166 (fun H locs hP hD hS => ?_)
      refine lv_iconst (v := (nI 0)) hx hb dX3_readCommand_169 (by decide) ?_
      have e9 : rcP tx len ac cc pos = (false, pos) := by
        unfold rcP
        rw [hs, hq51]
        rfl
      have hP : va_P D vwCl ((wS kA qs q tx len ((rcP tx len ac cc pos).2) none rw0 ss av) ++ (wT kA q cc ac co ad rc nm st an)) H := by rw [e9]; exact hP
      have hD : va_D A ((wS kA qs q tx len ((rcP tx len ac cc pos).2) none rw0 ss av) ++ (wT kA q cc ac co ad rc nm st an)) := by rw [e9]; exact hD
      have hP : va_P D vwCl ((wS kA qs q tx len ((rcP tx len ac cc pos).2) none rw0 ss av) ++ (wT kA q cc ac co ad rc nm st an)) H := hP
      have hD : va_D A ((wS kA qs q tx len ((rcP tx len ac cc pos).2) none rw0 ss av) ++ (wT kA q cc ac co ad rc nm st an)) := hD
      exact n_wretz hx hb hr hlocks (post := fun (r : Int32) (u : (Option Nat) × Nat × Nat × (Option Nat)) => r = (bI ((rcP tx len ac cc pos).1)) ∧ ((rcP tx len ac cc pos).1 = true → rcC tx len ac cc pos u.1 u.2.1 u.2.2.1 u.2.2.2)) (w1 := fun u => ((wS kA qs q tx len ((rcP tx len ac cc pos).2) u.1 u.2.1 u.2.2.1 u.2.2.2) ++ (wT kA q cc ac co ad rc nm st an))) rfl (none, rw0, ss, av) ⟨(by rw [e9]; rfl), (fun h => by rw [e9] at h; cases h)⟩ hP hD hK hS hAe dX3_readCommand_170
    | some b51 =>
      show W pQ lQ eQ (headSpec wsX3_readCommand (rmN 6 129)).room s mQ ([.ref (qs 0)] : List Value).toArray below meth cQ H locs 0 0 (MQ below (va_Qi (S := (Option Nat) × Nat × Nat × (Option Nat)) (fun (r : Int32) (u : (Option Nat) × Nat × Nat × (Option Nat)) => r = (bI ((rcP tx len ac cc pos).1)) ∧ ((rcP tx len ac cc pos).1 = true → rcC tx len ac cc pos u.1 u.2.1 u.2.2.1 u.2.2.2)) (wr_B D vwCl ((wS kA qs q tx len pos kd rw0 ss av) ++ (wT kA q cc ac co ad rc nm st an)) (tyK kA) s.heap.size (fun u => ((wS kA qs q tx len ((rcP tx len ac cc pos).2) u.1 u.2.1 u.2.2.1 u.2.2.2) ++ (wT kA q cc ac co ad rc nm st an)))) A) ([.ref (qs 0)] : List Value).toArray s 0 0 A) (F0 mQ 54 ls [.int (nI b51), .ref (qs 0)])
      refine n_put (ci := 3) (v := .int (oI (some b51))) (C := RX3) (T := TX3) (N := 8) (ws' := ((wS kA qs q tx len p (some b51) rw0 ss av) ++ (wT kA q cc ac co ad rc nm st an))) hx hb hts hinX3 tyX3 tyX3_ok nmX3 hown hK hP hD hS 0 rfl rfl 4 rfl ⟨rfl, rfl, rfl, rfl⟩ f47 rfl rfl rfl rfl dX3_readCommand_54 (fun H locs hP hD hS => ?_)
      refine lv_aload_n hx hb dX3_readCommand_57 rfl (lv_at hl 1 rfl) ?_
      refine n_get (ci := 3) (v := .int (nI b51)) (C := RX3) (T := TX3) (N := 8) hx hb hts hinX3 hown hK hP 0 rfl rfl 4 rfl ⟨rfl, rfl, rfl⟩ f47 rfl dX3_readCommand_58 ?_
      have hsw61 : b51 < 4 := kndF_lt hq51
      rcases (show b51 = 0 ∨ b51 = 1 ∨ b51 = 2 ∨ b51 = 3 by omega) with e61 | e61 | e61 | e61
      · refine lv_tableIn (tgt := 92) hx hb dX3_readCommand_61 (by rw [e61]; decide) (by rw [e61]; decide) (by rw [e61]; rfl) (by decide) ?_
        refine lv_aload_n hx hb dX3_readCommand_92 rfl (lv_at hl 1 rfl) ?_
        refine n_wVi (b := qs 0) (As := []) (rest := []) (wr := []) (ws' := fun u => ((wS kA qs q tx len (stpF tx len 32 p) (some b51) rw0 ss av) ++ (wT kA q cc ac co ad rc nm st an))) hS0 (c_X3_readSpace lQ D kA qs tx len p (some b51) rw0 ss av q cc ac co ad rc nm st an H.size (by first | assumption | omega) (by first | assumption | omega) (by first | assumption | omega)) (cwV 0 hts gX3_readCommand_X3_readSpace rfl rfl rfl (by decide +kernel) ⟨Nat.le_of_ble_eq_true rfl, Nat.le_of_ble_eq_true rfl⟩) hP hD hS hA hK hK (by simpa only [List.append_assoc, List.append_nil] using ((List.Perm.refl _).trans (List.Perm.append_left _ (List.Perm.of_eq (List.append_nil _).symm)))) (fun u => List.Perm.symm (by simpa only [List.append_assoc, List.append_nil] using ((List.Perm.refl _).trans (List.Perm.append_left _ (List.Perm.of_eq (List.append_nil _).symm))))) (q0 := 0) rfl rfl rfl rfl rfl hl.1 (Nat.le_of_ble_eq_true rfl) dX3_readCommand_93 ⟨Nat.le_refl _, Nat.le_refl _⟩ (fun r93 u93 H locs h93 hP hD hS => ?_)
        subst h93
        have hP : va_P D vwCl ((wS kA qs q tx len (stpF tx len 32 p) (some b51) rw0 ss av) ++ (wT kA q cc ac co ad rc nm st an)) H := hP
        have hD : va_D A ((wS kA qs q tx len (stpF tx len 32 p) (some b51) rw0 ss av) ++ (wT kA q cc ac co ad rc nm st an)) := hD
        refine n_ifb_eq (b := decide (hereF tx len p = some 32)) (tgt := 126) hx hb dX3_readCommand_96 (by decide) (fun c96 => ?_) (fun c96 => ?_)
        · have hb96 := of_decide_eq_false c96
          have es96 : stpF tx len 32 p = p := if_neg hb96
          rw [es96] at hP hD
          refine lv_iconst (v := (nI 0)) hx hb dX3_readCommand_126 (by decide) ?_
          have e9 : rcP tx len ac cc pos = (false, p) := by
            unfold rcP
            rw [hs, hq51, e61]
            show rc0 tx len ac cc p = _
            unfold rc0
            first
            | rw [if_pos hb96, if_pos c103, if_pos ((raF_av (av := av)).1.symm.trans c110), ← (raF_av (av := av)).2.1, c119]
            | rw [if_pos hb96, if_pos c103, if_neg (bF ((raF_av (av := av)).1.symm.trans c110)), ← (raF_av (av := av)).2.1]
            | rw [if_pos hb96, if_neg (bF c103)]
            | rw [if_neg hb96]
          have hP : va_P D vwCl ((wS kA qs q tx len ((rcP tx len ac cc pos).2) (some b51) rw0 ss av) ++ (wT kA q cc ac co ad rc nm st an)) H := by rw [e9]; exact hP
          have hD : va_D A ((wS kA qs q tx len ((rcP tx len ac cc pos).2) (some b51) rw0 ss av) ++ (wT kA q cc ac co ad rc nm st an)) := by rw [e9]; exact hD
          have hP : va_P D vwCl ((wS kA qs q tx len ((rcP tx len ac cc pos).2) (some b51) rw0 ss av) ++ (wT kA q cc ac co ad rc nm st an)) H := hP
          have hD : va_D A ((wS kA qs q tx len ((rcP tx len ac cc pos).2) (some b51) rw0 ss av) ++ (wT kA q cc ac co ad rc nm st an)) := hD
          exact n_wretz hx hb hr hlocks (post := fun (r : Int32) (u : (Option Nat) × Nat × Nat × (Option Nat)) => r = (bI ((rcP tx len ac cc pos).1)) ∧ ((rcP tx len ac cc pos).1 = true → rcC tx len ac cc pos u.1 u.2.1 u.2.2.1 u.2.2.2)) (w1 := fun u => ((wS kA qs q tx len ((rcP tx len ac cc pos).2) u.1 u.2.1 u.2.2.1 u.2.2.2) ++ (wT kA q cc ac co ad rc nm st an))) rfl (some b51, rw0, ss, av) ⟨(by rw [e9]; rfl), (fun h => by first | (rw [e9] at h; cases h; done) | exact ⟨(by rw [hs, hq51]), (fun _ => ⟨(by rw [hs]), (by rw [hs]; exact (raF_av (av := av)).2.2 ((raF_av (av := av)).1.symm.trans c110))⟩), (fun h => by rw [e61] at h; rcases h with h | h <;> cases h)⟩)⟩ hP hD hK hS hAe dX3_readCommand_127
        · have hb96 := of_decide_eq_true c96
          have es96 : stpF tx len 32 p = p + 1 := if_pos hb96
          rw [es96] at hP hD
          refine lv_aload_n hx hb dX3_readCommand_99 rfl (lv_at hl 1 rfl) ?_
          refine n_wVi (b := qs 0) (As := []) (rest := []) (wr := []) (ws' := fun u => ((wS kA qs q tx len ((rasL tx len ac cc 0 0 (p + 1)).2.2) (some b51) rw0 ((rasL tx len ac cc 0 0 (p + 1)).2.1) av) ++ (wT kA q cc ac co ad rc nm st an))) hS0 (c_X3_readAllSets lQ D kA qs tx len (p + 1) (some b51) rw0 ss av q cc ac co ad rc nm st an H.size (by first | assumption | omega) (hereF_lt hb96).1 (by first | assumption | omega) (by first | assumption | omega) (by first | assumption | omega)) (cwV 0 hts gX3_readCommand_X3_readAllSets rfl rfl rfl (by decide +kernel) ⟨Nat.le_of_ble_eq_true rfl, Nat.le_of_ble_eq_true rfl⟩) hP hD hS hA hK hK (by simpa only [List.append_assoc, List.append_nil] using ((List.Perm.refl _).trans (List.Perm.append_left _ (List.Perm.of_eq (List.append_nil _).symm)))) (fun u => List.Perm.symm (by simpa only [List.append_assoc, List.append_nil] using ((List.Perm.refl _).trans (List.Perm.append_left _ (List.Perm.of_eq (List.append_nil _).symm))))) (q0 := 0) rfl rfl rfl rfl rfl hl.1 (Nat.le_of_ble_eq_true rfl) dX3_readCommand_100 ⟨Nat.le_refl _, Nat.le_refl _⟩ (fun r100 u100 H locs h100 hP hD hS => ?_)
          subst h100
          have hP : va_P D vwCl ((wS kA qs q tx len ((rasL tx len ac cc 0 0 (p + 1)).2.2) (some b51) rw0 ((rasL tx len ac cc 0 0 (p + 1)).2.1) av) ++ (wT kA q cc ac co ad rc nm st an)) H := hP
          have hD : va_D A ((wS kA qs q tx len ((rasL tx len ac cc 0 0 (p + 1)).2.2) (some b51) rw0 ((rasL tx len ac cc 0 0 (p + 1)).2.1) av) ++ (wT kA q cc ac co ad rc nm st an)) := hD
          refine n_ifb_eq (b := (rasL tx len ac cc 0 0 (p + 1)).1) (tgt := 126) hx hb dX3_readCommand_103 (by decide) (fun c103 => ?_) (fun c103 => ?_)
          · refine lv_iconst (v := (nI 0)) hx hb dX3_readCommand_126 (by decide) ?_
            have e9 : rcP tx len ac cc pos = (false, ((rasL tx len ac cc 0 0 (p + 1)).2.2)) := by
              unfold rcP
              rw [hs, hq51, e61]
              show rc0 tx len ac cc p = _
              unfold rc0
              first
              | rw [if_pos hb96, if_pos c103, if_pos ((raF_av (av := av)).1.symm.trans c110), ← (raF_av (av := av)).2.1, c119]
              | rw [if_pos hb96, if_pos c103, if_neg (bF ((raF_av (av := av)).1.symm.trans c110)), ← (raF_av (av := av)).2.1]
              | rw [if_pos hb96, if_neg (bF c103)]
              | rw [if_neg hb96]
            have hP : va_P D vwCl ((wS kA qs q tx len ((rcP tx len ac cc pos).2) (some b51) rw0 ((rasL tx len ac cc 0 0 (p + 1)).2.1) av) ++ (wT kA q cc ac co ad rc nm st an)) H := by rw [e9]; exact hP
            have hD : va_D A ((wS kA qs q tx len ((rcP tx len ac cc pos).2) (some b51) rw0 ((rasL tx len ac cc 0 0 (p + 1)).2.1) av) ++ (wT kA q cc ac co ad rc nm st an)) := by rw [e9]; exact hD
            have hP : va_P D vwCl ((wS kA qs q tx len ((rcP tx len ac cc pos).2) (some b51) rw0 ((rasL tx len ac cc 0 0 (p + 1)).2.1) av) ++ (wT kA q cc ac co ad rc nm st an)) H := hP
            have hD : va_D A ((wS kA qs q tx len ((rcP tx len ac cc pos).2) (some b51) rw0 ((rasL tx len ac cc 0 0 (p + 1)).2.1) av) ++ (wT kA q cc ac co ad rc nm st an)) := hD
            exact n_wretz hx hb hr hlocks (post := fun (r : Int32) (u : (Option Nat) × Nat × Nat × (Option Nat)) => r = (bI ((rcP tx len ac cc pos).1)) ∧ ((rcP tx len ac cc pos).1 = true → rcC tx len ac cc pos u.1 u.2.1 u.2.2.1 u.2.2.2)) (w1 := fun u => ((wS kA qs q tx len ((rcP tx len ac cc pos).2) u.1 u.2.1 u.2.2.1 u.2.2.2) ++ (wT kA q cc ac co ad rc nm st an))) rfl (some b51, rw0, (rasL tx len ac cc 0 0 (p + 1)).2.1, av) ⟨(by rw [e9]; rfl), (fun h => by first | (rw [e9] at h; cases h; done) | exact ⟨(by rw [hs, hq51]), (fun _ => ⟨(by rw [hs]), (by rw [hs]; exact (raF_av (av := av)).2.2 ((raF_av (av := av)).1.symm.trans c110))⟩), (fun h => by rw [e61] at h; rcases h with h | h <;> cases h)⟩)⟩ hP hD hK hS hAe dX3_readCommand_127
          · refine lv_aload_n hx hb dX3_readCommand_106 rfl (lv_at hl 1 rfl) ?_
            refine n_wVi (b := qs 0) (As := []) (rest := []) (wr := []) (ws' := fun u => ((wS kA qs q tx len ((raF tx len ((rasL tx len ac cc 0 0 (p + 1)).2.2) av).2.1) (some b51) rw0 ((rasL tx len ac cc 0 0 (p + 1)).2.1) ((raF tx len ((rasL tx len ac cc 0 0 (p + 1)).2.2) av).2.2)) ++ (wT kA q cc ac co ad rc nm st an))) hS0 (c_X3_readAction lQ D kA qs tx len ((rasL tx len ac cc 0 0 (p + 1)).2.2) (some b51) rw0 ((rasL tx len ac cc 0 0 (p + 1)).2.1) av q cc ac co ad rc nm st an H.size (by first | assumption | omega) (Nat.le_trans (rasL_le (hereF_lt hb96).1) hlen) (by first | assumption | omega)) (cwV 0 hts gX3_readCommand_X3_readAction rfl rfl rfl (by decide +kernel) ⟨Nat.le_of_ble_eq_true rfl, Nat.le_of_ble_eq_true rfl⟩) hP hD hS hA hK hK (by simpa only [List.append_assoc, List.append_nil] using ((List.Perm.refl _).trans (List.Perm.append_left _ (List.Perm.of_eq (List.append_nil _).symm)))) (fun u => List.Perm.symm (by simpa only [List.append_assoc, List.append_nil] using ((List.Perm.refl _).trans (List.Perm.append_left _ (List.Perm.of_eq (List.append_nil _).symm))))) (q0 := 0) rfl rfl rfl rfl rfl hl.1 (Nat.le_of_ble_eq_true rfl) dX3_readCommand_107 ⟨Nat.le_refl _, Nat.le_refl _⟩ (fun r107 u107 H locs h107 hP hD hS => ?_)
            subst h107
            have hP : va_P D vwCl ((wS kA qs q tx len ((raF tx len ((rasL tx len ac cc 0 0 (p + 1)).2.2) av).2.1) (some b51) rw0 ((rasL tx len ac cc 0 0 (p + 1)).2.1) ((raF tx len ((rasL tx len ac cc 0 0 (p + 1)).2.2) av).2.2)) ++ (wT kA q cc ac co ad rc nm st an)) H := hP
            have hD : va_D A ((wS kA qs q tx len ((raF tx len ((rasL tx len ac cc 0 0 (p + 1)).2.2) av).2.1) (some b51) rw0 ((rasL tx len ac cc 0 0 (p + 1)).2.1) ((raF tx len ((rasL tx len ac cc 0 0 (p + 1)).2.2) av).2.2)) ++ (wT kA q cc ac co ad rc nm st an)) := hD
            refine n_ifb_eq (b := (raF tx len ((rasL tx len ac cc 0 0 (p + 1)).2.2) av).1) (tgt := 126) hx hb dX3_readCommand_110 (by decide) (fun c110 => ?_) (fun c110 => ?_)
            · refine lv_iconst (v := (nI 0)) hx hb dX3_readCommand_126 (by decide) ?_
              have e9 : rcP tx len ac cc pos = (false, ((raF tx len ((rasL tx len ac cc 0 0 (p + 1)).2.2) av).2.1)) := by
                unfold rcP
                rw [hs, hq51, e61]
                show rc0 tx len ac cc p = _
                unfold rc0
                first
                | rw [if_pos hb96, if_pos c103, if_pos ((raF_av (av := av)).1.symm.trans c110), ← (raF_av (av := av)).2.1, c119]
                | rw [if_pos hb96, if_pos c103, if_neg (bF ((raF_av (av := av)).1.symm.trans c110)), ← (raF_av (av := av)).2.1]
                | rw [if_pos hb96, if_neg (bF c103)]
                | rw [if_neg hb96]
              have hP : va_P D vwCl ((wS kA qs q tx len ((rcP tx len ac cc pos).2) (some b51) rw0 ((rasL tx len ac cc 0 0 (p + 1)).2.1) ((raF tx len ((rasL tx len ac cc 0 0 (p + 1)).2.2) av).2.2)) ++ (wT kA q cc ac co ad rc nm st an)) H := by rw [e9]; exact hP
              have hD : va_D A ((wS kA qs q tx len ((rcP tx len ac cc pos).2) (some b51) rw0 ((rasL tx len ac cc 0 0 (p + 1)).2.1) ((raF tx len ((rasL tx len ac cc 0 0 (p + 1)).2.2) av).2.2)) ++ (wT kA q cc ac co ad rc nm st an)) := by rw [e9]; exact hD
              have hP : va_P D vwCl ((wS kA qs q tx len ((rcP tx len ac cc pos).2) (some b51) rw0 ((rasL tx len ac cc 0 0 (p + 1)).2.1) ((raF tx len ((rasL tx len ac cc 0 0 (p + 1)).2.2) av).2.2)) ++ (wT kA q cc ac co ad rc nm st an)) H := hP
              have hD : va_D A ((wS kA qs q tx len ((rcP tx len ac cc pos).2) (some b51) rw0 ((rasL tx len ac cc 0 0 (p + 1)).2.1) ((raF tx len ((rasL tx len ac cc 0 0 (p + 1)).2.2) av).2.2)) ++ (wT kA q cc ac co ad rc nm st an)) := hD
              exact n_wretz hx hb hr hlocks (post := fun (r : Int32) (u : (Option Nat) × Nat × Nat × (Option Nat)) => r = (bI ((rcP tx len ac cc pos).1)) ∧ ((rcP tx len ac cc pos).1 = true → rcC tx len ac cc pos u.1 u.2.1 u.2.2.1 u.2.2.2)) (w1 := fun u => ((wS kA qs q tx len ((rcP tx len ac cc pos).2) u.1 u.2.1 u.2.2.1 u.2.2.2) ++ (wT kA q cc ac co ad rc nm st an))) rfl (some b51, rw0, (rasL tx len ac cc 0 0 (p + 1)).2.1, (raF tx len ((rasL tx len ac cc 0 0 (p + 1)).2.2) av).2.2) ⟨(by rw [e9]; rfl), (fun h => by first | (rw [e9] at h; cases h; done) | exact ⟨(by rw [hs, hq51]), (fun _ => ⟨(by rw [hs]), (by rw [hs]; exact (raF_av (av := av)).2.2 ((raF_av (av := av)).1.symm.trans c110))⟩), (fun h => by rw [e61] at h; rcases h with h | h <;> cases h)⟩)⟩ hP hD hK hS hAe dX3_readCommand_127
            · refine lv_aload_n hx hb dX3_readCommand_113 rfl (lv_at hl 1 rfl) ?_
              refine lv_bipush (v := (nI 59)) hx hb dX3_readCommand_114 (by decide) ?_
              refine n_wVi (b := qs 0) (As := [.int (nI 59)]) (rest := []) (wr := []) (ws' := fun u => ((wS kA qs q tx len (stpF tx len 59 ((raF tx len ((rasL tx len ac cc 0 0 (p + 1)).2.2) av).2.1)) (some b51) rw0 ((rasL tx len ac cc 0 0 (p + 1)).2.1) ((raF tx len ((rasL tx len ac cc 0 0 (p + 1)).2.2) av).2.2)) ++ (wT kA q cc ac co ad rc nm st an))) hS0 (c_X3_readByte lQ D kA qs tx len ((raF tx len ((rasL tx len ac cc 0 0 (p + 1)).2.2) av).2.1) (some b51) rw0 ((rasL tx len ac cc 0 0 (p + 1)).2.1) ((raF tx len ((rasL tx len ac cc 0 0 (p + 1)).2.2) av).2.2) q cc ac co ad rc nm st an 59 H.size (by first | assumption | omega) (Nat.le_trans (raF_le (rasL_le (hereF_lt hb96).1)) hlen) (by first | assumption | omega) (by first | assumption | omega)) (cwV 1 hts gX3_readCommand_X3_readByte rfl rfl rfl (by decide +kernel) ⟨Nat.le_of_ble_eq_true rfl, Nat.le_of_ble_eq_true rfl⟩) hP hD hS hA hK hK (by simpa only [List.append_assoc, List.append_nil] using ((List.Perm.refl _).trans (List.Perm.append_left _ (List.Perm.of_eq (List.append_nil _).symm)))) (fun u => List.Perm.symm (by simpa only [List.append_assoc, List.append_nil] using ((List.Perm.refl _).trans (List.Perm.append_left _ (List.Perm.of_eq (List.append_nil _).symm))))) (q0 := 0) rfl rfl rfl rfl rfl hl.1 (Nat.le_of_ble_eq_true rfl) dX3_readCommand_116 ⟨Nat.le_refl _, Nat.le_refl _⟩ (fun r116 u116 H locs h116 hP hD hS => ?_)
              subst h116
              have hP : va_P D vwCl ((wS kA qs q tx len (stpF tx len 59 ((raF tx len ((rasL tx len ac cc 0 0 (p + 1)).2.2) av).2.1)) (some b51) rw0 ((rasL tx len ac cc 0 0 (p + 1)).2.1) ((raF tx len ((rasL tx len ac cc 0 0 (p + 1)).2.2) av).2.2)) ++ (wT kA q cc ac co ad rc nm st an)) H := hP
              have hD : va_D A ((wS kA qs q tx len (stpF tx len 59 ((raF tx len ((rasL tx len ac cc 0 0 (p + 1)).2.2) av).2.1)) (some b51) rw0 ((rasL tx len ac cc 0 0 (p + 1)).2.1) ((raF tx len ((rasL tx len ac cc 0 0 (p + 1)).2.2) av).2.2)) ++ (wT kA q cc ac co ad rc nm st an)) := hD
              refine n_ifb_eq (b := decide (hereF tx len ((raF tx len ((rasL tx len ac cc 0 0 (p + 1)).2.2) av).2.1) = some 59)) (tgt := 126) hx hb dX3_readCommand_119 (by decide) (fun c119 => ?_) (fun c119 => ?_)
              · refine lv_iconst (v := (nI 0)) hx hb dX3_readCommand_126 (by decide) ?_
                have e9 : rcP tx len ac cc pos = (false, (stpF tx len 59 ((raF tx len ((rasL tx len ac cc 0 0 (p + 1)).2.2) av).2.1))) := by
                  unfold rcP
                  rw [hs, hq51, e61]
                  show rc0 tx len ac cc p = _
                  unfold rc0
                  first
                  | rw [if_pos hb96, if_pos c103, if_pos ((raF_av (av := av)).1.symm.trans c110), ← (raF_av (av := av)).2.1, c119]
                  | rw [if_pos hb96, if_pos c103, if_neg (bF ((raF_av (av := av)).1.symm.trans c110)), ← (raF_av (av := av)).2.1]
                  | rw [if_pos hb96, if_neg (bF c103)]
                  | rw [if_neg hb96]
                have hP : va_P D vwCl ((wS kA qs q tx len ((rcP tx len ac cc pos).2) (some b51) rw0 ((rasL tx len ac cc 0 0 (p + 1)).2.1) ((raF tx len ((rasL tx len ac cc 0 0 (p + 1)).2.2) av).2.2)) ++ (wT kA q cc ac co ad rc nm st an)) H := by rw [e9]; exact hP
                have hD : va_D A ((wS kA qs q tx len ((rcP tx len ac cc pos).2) (some b51) rw0 ((rasL tx len ac cc 0 0 (p + 1)).2.1) ((raF tx len ((rasL tx len ac cc 0 0 (p + 1)).2.2) av).2.2)) ++ (wT kA q cc ac co ad rc nm st an)) := by rw [e9]; exact hD
                have hP : va_P D vwCl ((wS kA qs q tx len ((rcP tx len ac cc pos).2) (some b51) rw0 ((rasL tx len ac cc 0 0 (p + 1)).2.1) ((raF tx len ((rasL tx len ac cc 0 0 (p + 1)).2.2) av).2.2)) ++ (wT kA q cc ac co ad rc nm st an)) H := hP
                have hD : va_D A ((wS kA qs q tx len ((rcP tx len ac cc pos).2) (some b51) rw0 ((rasL tx len ac cc 0 0 (p + 1)).2.1) ((raF tx len ((rasL tx len ac cc 0 0 (p + 1)).2.2) av).2.2)) ++ (wT kA q cc ac co ad rc nm st an)) := hD
                exact n_wretz hx hb hr hlocks (post := fun (r : Int32) (u : (Option Nat) × Nat × Nat × (Option Nat)) => r = (bI ((rcP tx len ac cc pos).1)) ∧ ((rcP tx len ac cc pos).1 = true → rcC tx len ac cc pos u.1 u.2.1 u.2.2.1 u.2.2.2)) (w1 := fun u => ((wS kA qs q tx len ((rcP tx len ac cc pos).2) u.1 u.2.1 u.2.2.1 u.2.2.2) ++ (wT kA q cc ac co ad rc nm st an))) rfl (some b51, rw0, (rasL tx len ac cc 0 0 (p + 1)).2.1, (raF tx len ((rasL tx len ac cc 0 0 (p + 1)).2.2) av).2.2) ⟨(by rw [e9]; rfl), (fun h => by first | (rw [e9] at h; cases h; done) | exact ⟨(by rw [hs, hq51]), (fun _ => ⟨(by rw [hs]), (by rw [hs]; exact (raF_av (av := av)).2.2 ((raF_av (av := av)).1.symm.trans c110))⟩), (fun h => by rw [e61] at h; rcases h with h | h <;> cases h)⟩)⟩ hP hD hK hS hAe dX3_readCommand_127
              · refine lv_iconst (v := (nI 1)) hx hb dX3_readCommand_122 (by decide) ?_
                refine lv_goto (tgt := 127) hx hb dX3_readCommand_123 (by decide) ?_
                have e9 : rcP tx len ac cc pos = (true, (stpF tx len 59 ((raF tx len ((rasL tx len ac cc 0 0 (p + 1)).2.2) av).2.1))) := by
                  unfold rcP
                  rw [hs, hq51, e61]
                  show rc0 tx len ac cc p = _
                  unfold rc0
                  first
                  | rw [if_pos hb96, if_pos c103, if_pos ((raF_av (av := av)).1.symm.trans c110), ← (raF_av (av := av)).2.1, c119]
                  | rw [if_pos hb96, if_pos c103, if_neg (bF ((raF_av (av := av)).1.symm.trans c110)), ← (raF_av (av := av)).2.1]
                  | rw [if_pos hb96, if_neg (bF c103)]
                  | rw [if_neg hb96]
                have hP : va_P D vwCl ((wS kA qs q tx len ((rcP tx len ac cc pos).2) (some b51) rw0 ((rasL tx len ac cc 0 0 (p + 1)).2.1) ((raF tx len ((rasL tx len ac cc 0 0 (p + 1)).2.2) av).2.2)) ++ (wT kA q cc ac co ad rc nm st an)) H := by rw [e9]; exact hP
                have hD : va_D A ((wS kA qs q tx len ((rcP tx len ac cc pos).2) (some b51) rw0 ((rasL tx len ac cc 0 0 (p + 1)).2.1) ((raF tx len ((rasL tx len ac cc 0 0 (p + 1)).2.2) av).2.2)) ++ (wT kA q cc ac co ad rc nm st an)) := by rw [e9]; exact hD
                have hP : va_P D vwCl ((wS kA qs q tx len ((rcP tx len ac cc pos).2) (some b51) rw0 ((rasL tx len ac cc 0 0 (p + 1)).2.1) ((raF tx len ((rasL tx len ac cc 0 0 (p + 1)).2.2) av).2.2)) ++ (wT kA q cc ac co ad rc nm st an)) H := hP
                have hD : va_D A ((wS kA qs q tx len ((rcP tx len ac cc pos).2) (some b51) rw0 ((rasL tx len ac cc 0 0 (p + 1)).2.1) ((raF tx len ((rasL tx len ac cc 0 0 (p + 1)).2.2) av).2.2)) ++ (wT kA q cc ac co ad rc nm st an)) := hD
                exact n_wretz hx hb hr hlocks (post := fun (r : Int32) (u : (Option Nat) × Nat × Nat × (Option Nat)) => r = (bI ((rcP tx len ac cc pos).1)) ∧ ((rcP tx len ac cc pos).1 = true → rcC tx len ac cc pos u.1 u.2.1 u.2.2.1 u.2.2.2)) (w1 := fun u => ((wS kA qs q tx len ((rcP tx len ac cc pos).2) u.1 u.2.1 u.2.2.1 u.2.2.2) ++ (wT kA q cc ac co ad rc nm st an))) rfl (some b51, rw0, (rasL tx len ac cc 0 0 (p + 1)).2.1, (raF tx len ((rasL tx len ac cc 0 0 (p + 1)).2.2) av).2.2) ⟨(by rw [e9]; rfl), (fun h => by first | (rw [e9] at h; cases h; done) | exact ⟨(by rw [hs, hq51]), (fun _ => ⟨(by rw [hs]), (by rw [hs]; exact (raF_av (av := av)).2.2 ((raF_av (av := av)).1.symm.trans c110))⟩), (fun h => by rw [e61] at h; rcases h with h | h <;> cases h)⟩)⟩ hP hD hK hS hAe dX3_readCommand_127
      · refine lv_tableIn (tgt := 128) hx hb dX3_readCommand_61 (by rw [e61]; decide) (by rw [e61]; decide) (by rw [e61]; rfl) (by decide) ?_
        refine lv_aload_n hx hb dX3_readCommand_128 rfl (lv_at hl 1 rfl) ?_
        refine n_wVi (b := qs 0) (As := []) (rest := []) (wr := []) (ws' := fun u => ((wS kA qs q tx len (stpF tx len 32 p) (some b51) rw0 ss av) ++ (wT kA q cc ac co ad rc nm st an))) hS0 (c_X3_readSpace lQ D kA qs tx len p (some b51) rw0 ss av q cc ac co ad rc nm st an H.size (by first | assumption | omega) (by first | assumption | omega) (by first | assumption | omega)) (cwV 0 hts gX3_readCommand_X3_readSpace rfl rfl rfl (by decide +kernel) ⟨Nat.le_of_ble_eq_true rfl, Nat.le_of_ble_eq_true rfl⟩) hP hD hS hA hK hK (by simpa only [List.append_assoc, List.append_nil] using ((List.Perm.refl _).trans (List.Perm.append_left _ (List.Perm.of_eq (List.append_nil _).symm)))) (fun u => List.Perm.symm (by simpa only [List.append_assoc, List.append_nil] using ((List.Perm.refl _).trans (List.Perm.append_left _ (List.Perm.of_eq (List.append_nil _).symm))))) (q0 := 0) rfl rfl rfl rfl rfl hl.1 (Nat.le_of_ble_eq_true rfl) dX3_readCommand_129 ⟨Nat.le_refl _, Nat.le_refl _⟩ (fun r129 u129 H locs h129 hP hD hS => ?_)
        subst h129
        have hP : va_P D vwCl ((wS kA qs q tx len (stpF tx len 32 p) (some b51) rw0 ss av) ++ (wT kA q cc ac co ad rc nm st an)) H := hP
        have hD : va_D A ((wS kA qs q tx len (stpF tx len 32 p) (some b51) rw0 ss av) ++ (wT kA q cc ac co ad rc nm st an)) := hD
        refine n_ifb_eq (b := decide (hereF tx len p = some 32)) (tgt := 155) hx hb dX3_readCommand_132 (by decide) (fun c132 => ?_) (fun c132 => ?_)
        · have hb132 := of_decide_eq_false c132
          have es132 : stpF tx len 32 p = p := if_neg hb132
          rw [es132] at hP hD
          refine lv_iconst (v := (nI 0)) hx hb dX3_readCommand_155 (by decide) ?_
          have e9 : rcP tx len ac cc pos = (false, p) := by
            unfold rcP
            rw [hs, hq51, e61]
            show rc1 tx len p = _
            unfold rc1
            first
            | rw [if_pos hb132, if_pos ((rrF_rw (r := rw0)).1.symm.trans c139), ← (rrF_rw (r := rw0)).2.1, c148]
            | rw [if_pos hb132, if_neg (bF ((rrF_rw (r := rw0)).1.symm.trans c139)), ← (rrF_rw (r := rw0)).2.1]
            | rw [if_neg hb132]
          have hP : va_P D vwCl ((wS kA qs q tx len ((rcP tx len ac cc pos).2) (some b51) rw0 ss av) ++ (wT kA q cc ac co ad rc nm st an)) H := by rw [e9]; exact hP
          have hD : va_D A ((wS kA qs q tx len ((rcP tx len ac cc pos).2) (some b51) rw0 ss av) ++ (wT kA q cc ac co ad rc nm st an)) := by rw [e9]; exact hD
          have hP : va_P D vwCl ((wS kA qs q tx len ((rcP tx len ac cc pos).2) (some b51) rw0 ss av) ++ (wT kA q cc ac co ad rc nm st an)) H := hP
          have hD : va_D A ((wS kA qs q tx len ((rcP tx len ac cc pos).2) (some b51) rw0 ss av) ++ (wT kA q cc ac co ad rc nm st an)) := hD
          exact n_wretz hx hb hr hlocks (post := fun (r : Int32) (u : (Option Nat) × Nat × Nat × (Option Nat)) => r = (bI ((rcP tx len ac cc pos).1)) ∧ ((rcP tx len ac cc pos).1 = true → rcC tx len ac cc pos u.1 u.2.1 u.2.2.1 u.2.2.2)) (w1 := fun u => ((wS kA qs q tx len ((rcP tx len ac cc pos).2) u.1 u.2.1 u.2.2.1 u.2.2.2) ++ (wT kA q cc ac co ad rc nm st an))) rfl (some b51, rw0, ss, av) ⟨(by rw [e9]; rfl), (fun h => by first | (rw [e9] at h; cases h; done) | exact ⟨(by rw [hs, hq51]), (fun h => by rw [e61] at h; cases h), (fun _ => by rw [hs]; exact (rrF_rw (r := rw0)).2.2 ((rrF_rw (r := rw0)).1.symm.trans c139))⟩)⟩ hP hD hK hS hAe dX3_readCommand_156
        · have hb132 := of_decide_eq_true c132
          have es132 : stpF tx len 32 p = p + 1 := if_pos hb132
          rw [es132] at hP hD
          refine lv_aload_n hx hb dX3_readCommand_135 rfl (lv_at hl 1 rfl) ?_
          refine n_wVi (b := qs 0) (As := []) (rest := []) (wr := []) (ws' := fun u => ((wS kA qs q tx len ((rrF tx len (p + 1) rw0).2.1) (some b51) ((rrF tx len (p + 1) rw0).2.2) ss av) ++ (wT kA q cc ac co ad rc nm st an))) hS0 (c_X3_readRow lQ D kA qs tx len (p + 1) (some b51) rw0 ss av q cc ac co ad rc nm st an H.size (by first | assumption | omega) (Nat.le_trans (hereF_lt hb132).1 hlen) (by first | assumption | omega)) (cwV 0 hts gX3_readCommand_X3_readRow rfl rfl rfl (by decide +kernel) ⟨Nat.le_of_ble_eq_true rfl, Nat.le_of_ble_eq_true rfl⟩) hP hD hS hA hK hK (by simpa only [List.append_assoc, List.append_nil] using ((List.Perm.refl _).trans (List.Perm.append_left _ (List.Perm.of_eq (List.append_nil _).symm)))) (fun u => List.Perm.symm (by simpa only [List.append_assoc, List.append_nil] using ((List.Perm.refl _).trans (List.Perm.append_left _ (List.Perm.of_eq (List.append_nil _).symm))))) (q0 := 0) rfl rfl rfl rfl rfl hl.1 (Nat.le_of_ble_eq_true rfl) dX3_readCommand_136 ⟨Nat.le_refl _, Nat.le_refl _⟩ (fun r136 u136 H locs h136 hP hD hS => ?_)
          subst h136
          have hP : va_P D vwCl ((wS kA qs q tx len ((rrF tx len (p + 1) rw0).2.1) (some b51) ((rrF tx len (p + 1) rw0).2.2) ss av) ++ (wT kA q cc ac co ad rc nm st an)) H := hP
          have hD : va_D A ((wS kA qs q tx len ((rrF tx len (p + 1) rw0).2.1) (some b51) ((rrF tx len (p + 1) rw0).2.2) ss av) ++ (wT kA q cc ac co ad rc nm st an)) := hD
          refine n_ifb_eq (b := (rrF tx len (p + 1) rw0).1) (tgt := 155) hx hb dX3_readCommand_139 (by decide) (fun c139 => ?_) (fun c139 => ?_)
          · refine lv_iconst (v := (nI 0)) hx hb dX3_readCommand_155 (by decide) ?_
            have e9 : rcP tx len ac cc pos = (false, ((rrF tx len (p + 1) rw0).2.1)) := by
              unfold rcP
              rw [hs, hq51, e61]
              show rc1 tx len p = _
              unfold rc1
              first
              | rw [if_pos hb132, if_pos ((rrF_rw (r := rw0)).1.symm.trans c139), ← (rrF_rw (r := rw0)).2.1, c148]
              | rw [if_pos hb132, if_neg (bF ((rrF_rw (r := rw0)).1.symm.trans c139)), ← (rrF_rw (r := rw0)).2.1]
              | rw [if_neg hb132]
            have hP : va_P D vwCl ((wS kA qs q tx len ((rcP tx len ac cc pos).2) (some b51) ((rrF tx len (p + 1) rw0).2.2) ss av) ++ (wT kA q cc ac co ad rc nm st an)) H := by rw [e9]; exact hP
            have hD : va_D A ((wS kA qs q tx len ((rcP tx len ac cc pos).2) (some b51) ((rrF tx len (p + 1) rw0).2.2) ss av) ++ (wT kA q cc ac co ad rc nm st an)) := by rw [e9]; exact hD
            have hP : va_P D vwCl ((wS kA qs q tx len ((rcP tx len ac cc pos).2) (some b51) ((rrF tx len (p + 1) rw0).2.2) ss av) ++ (wT kA q cc ac co ad rc nm st an)) H := hP
            have hD : va_D A ((wS kA qs q tx len ((rcP tx len ac cc pos).2) (some b51) ((rrF tx len (p + 1) rw0).2.2) ss av) ++ (wT kA q cc ac co ad rc nm st an)) := hD
            exact n_wretz hx hb hr hlocks (post := fun (r : Int32) (u : (Option Nat) × Nat × Nat × (Option Nat)) => r = (bI ((rcP tx len ac cc pos).1)) ∧ ((rcP tx len ac cc pos).1 = true → rcC tx len ac cc pos u.1 u.2.1 u.2.2.1 u.2.2.2)) (w1 := fun u => ((wS kA qs q tx len ((rcP tx len ac cc pos).2) u.1 u.2.1 u.2.2.1 u.2.2.2) ++ (wT kA q cc ac co ad rc nm st an))) rfl (some b51, (rrF tx len (p + 1) rw0).2.2, ss, av) ⟨(by rw [e9]; rfl), (fun h => by first | (rw [e9] at h; cases h; done) | exact ⟨(by rw [hs, hq51]), (fun h => by rw [e61] at h; cases h), (fun _ => by rw [hs]; exact (rrF_rw (r := rw0)).2.2 ((rrF_rw (r := rw0)).1.symm.trans c139))⟩)⟩ hP hD hK hS hAe dX3_readCommand_156
          · refine lv_aload_n hx hb dX3_readCommand_142 rfl (lv_at hl 1 rfl) ?_
            refine lv_bipush (v := (nI 59)) hx hb dX3_readCommand_143 (by decide) ?_
            refine n_wVi (b := qs 0) (As := [.int (nI 59)]) (rest := []) (wr := []) (ws' := fun u => ((wS kA qs q tx len (stpF tx len 59 ((rrF tx len (p + 1) rw0).2.1)) (some b51) ((rrF tx len (p + 1) rw0).2.2) ss av) ++ (wT kA q cc ac co ad rc nm st an))) hS0 (c_X3_readByte lQ D kA qs tx len ((rrF tx len (p + 1) rw0).2.1) (some b51) ((rrF tx len (p + 1) rw0).2.2) ss av q cc ac co ad rc nm st an 59 H.size (by first | assumption | omega) (Nat.le_trans (rrF_le (hereF_lt hb132).1) hlen) (by first | assumption | omega) (by first | assumption | omega)) (cwV 1 hts gX3_readCommand_X3_readByte rfl rfl rfl (by decide +kernel) ⟨Nat.le_of_ble_eq_true rfl, Nat.le_of_ble_eq_true rfl⟩) hP hD hS hA hK hK (by simpa only [List.append_assoc, List.append_nil] using ((List.Perm.refl _).trans (List.Perm.append_left _ (List.Perm.of_eq (List.append_nil _).symm)))) (fun u => List.Perm.symm (by simpa only [List.append_assoc, List.append_nil] using ((List.Perm.refl _).trans (List.Perm.append_left _ (List.Perm.of_eq (List.append_nil _).symm))))) (q0 := 0) rfl rfl rfl rfl rfl hl.1 (Nat.le_of_ble_eq_true rfl) dX3_readCommand_145 ⟨Nat.le_refl _, Nat.le_refl _⟩ (fun r145 u145 H locs h145 hP hD hS => ?_)
            subst h145
            have hP : va_P D vwCl ((wS kA qs q tx len (stpF tx len 59 ((rrF tx len (p + 1) rw0).2.1)) (some b51) ((rrF tx len (p + 1) rw0).2.2) ss av) ++ (wT kA q cc ac co ad rc nm st an)) H := hP
            have hD : va_D A ((wS kA qs q tx len (stpF tx len 59 ((rrF tx len (p + 1) rw0).2.1)) (some b51) ((rrF tx len (p + 1) rw0).2.2) ss av) ++ (wT kA q cc ac co ad rc nm st an)) := hD
            refine n_ifb_eq (b := decide (hereF tx len ((rrF tx len (p + 1) rw0).2.1) = some 59)) (tgt := 155) hx hb dX3_readCommand_148 (by decide) (fun c148 => ?_) (fun c148 => ?_)
            · refine lv_iconst (v := (nI 0)) hx hb dX3_readCommand_155 (by decide) ?_
              have e9 : rcP tx len ac cc pos = (false, (stpF tx len 59 ((rrF tx len (p + 1) rw0).2.1))) := by
                unfold rcP
                rw [hs, hq51, e61]
                show rc1 tx len p = _
                unfold rc1
                first
                | rw [if_pos hb132, if_pos ((rrF_rw (r := rw0)).1.symm.trans c139), ← (rrF_rw (r := rw0)).2.1, c148]
                | rw [if_pos hb132, if_neg (bF ((rrF_rw (r := rw0)).1.symm.trans c139)), ← (rrF_rw (r := rw0)).2.1]
                | rw [if_neg hb132]
              have hP : va_P D vwCl ((wS kA qs q tx len ((rcP tx len ac cc pos).2) (some b51) ((rrF tx len (p + 1) rw0).2.2) ss av) ++ (wT kA q cc ac co ad rc nm st an)) H := by rw [e9]; exact hP
              have hD : va_D A ((wS kA qs q tx len ((rcP tx len ac cc pos).2) (some b51) ((rrF tx len (p + 1) rw0).2.2) ss av) ++ (wT kA q cc ac co ad rc nm st an)) := by rw [e9]; exact hD
              have hP : va_P D vwCl ((wS kA qs q tx len ((rcP tx len ac cc pos).2) (some b51) ((rrF tx len (p + 1) rw0).2.2) ss av) ++ (wT kA q cc ac co ad rc nm st an)) H := hP
              have hD : va_D A ((wS kA qs q tx len ((rcP tx len ac cc pos).2) (some b51) ((rrF tx len (p + 1) rw0).2.2) ss av) ++ (wT kA q cc ac co ad rc nm st an)) := hD
              exact n_wretz hx hb hr hlocks (post := fun (r : Int32) (u : (Option Nat) × Nat × Nat × (Option Nat)) => r = (bI ((rcP tx len ac cc pos).1)) ∧ ((rcP tx len ac cc pos).1 = true → rcC tx len ac cc pos u.1 u.2.1 u.2.2.1 u.2.2.2)) (w1 := fun u => ((wS kA qs q tx len ((rcP tx len ac cc pos).2) u.1 u.2.1 u.2.2.1 u.2.2.2) ++ (wT kA q cc ac co ad rc nm st an))) rfl (some b51, (rrF tx len (p + 1) rw0).2.2, ss, av) ⟨(by rw [e9]; rfl), (fun h => by first | (rw [e9] at h; cases h; done) | exact ⟨(by rw [hs, hq51]), (fun h => by rw [e61] at h; cases h), (fun _ => by rw [hs]; exact (rrF_rw (r := rw0)).2.2 ((rrF_rw (r := rw0)).1.symm.trans c139))⟩)⟩ hP hD hK hS hAe dX3_readCommand_156
            · refine lv_iconst (v := (nI 1)) hx hb dX3_readCommand_151 (by decide) ?_
              refine lv_goto (tgt := 156) hx hb dX3_readCommand_152 (by decide) ?_
              have e9 : rcP tx len ac cc pos = (true, (stpF tx len 59 ((rrF tx len (p + 1) rw0).2.1))) := by
                unfold rcP
                rw [hs, hq51, e61]
                show rc1 tx len p = _
                unfold rc1
                first
                | rw [if_pos hb132, if_pos ((rrF_rw (r := rw0)).1.symm.trans c139), ← (rrF_rw (r := rw0)).2.1, c148]
                | rw [if_pos hb132, if_neg (bF ((rrF_rw (r := rw0)).1.symm.trans c139)), ← (rrF_rw (r := rw0)).2.1]
                | rw [if_neg hb132]
              have hP : va_P D vwCl ((wS kA qs q tx len ((rcP tx len ac cc pos).2) (some b51) ((rrF tx len (p + 1) rw0).2.2) ss av) ++ (wT kA q cc ac co ad rc nm st an)) H := by rw [e9]; exact hP
              have hD : va_D A ((wS kA qs q tx len ((rcP tx len ac cc pos).2) (some b51) ((rrF tx len (p + 1) rw0).2.2) ss av) ++ (wT kA q cc ac co ad rc nm st an)) := by rw [e9]; exact hD
              have hP : va_P D vwCl ((wS kA qs q tx len ((rcP tx len ac cc pos).2) (some b51) ((rrF tx len (p + 1) rw0).2.2) ss av) ++ (wT kA q cc ac co ad rc nm st an)) H := hP
              have hD : va_D A ((wS kA qs q tx len ((rcP tx len ac cc pos).2) (some b51) ((rrF tx len (p + 1) rw0).2.2) ss av) ++ (wT kA q cc ac co ad rc nm st an)) := hD
              exact n_wretz hx hb hr hlocks (post := fun (r : Int32) (u : (Option Nat) × Nat × Nat × (Option Nat)) => r = (bI ((rcP tx len ac cc pos).1)) ∧ ((rcP tx len ac cc pos).1 = true → rcC tx len ac cc pos u.1 u.2.1 u.2.2.1 u.2.2.2)) (w1 := fun u => ((wS kA qs q tx len ((rcP tx len ac cc pos).2) u.1 u.2.1 u.2.2.1 u.2.2.2) ++ (wT kA q cc ac co ad rc nm st an))) rfl (some b51, (rrF tx len (p + 1) rw0).2.2, ss, av) ⟨(by rw [e9]; rfl), (fun h => by first | (rw [e9] at h; cases h; done) | exact ⟨(by rw [hs, hq51]), (fun h => by rw [e61] at h; cases h), (fun _ => by rw [hs]; exact (rrF_rw (r := rw0)).2.2 ((rrF_rw (r := rw0)).1.symm.trans c139))⟩)⟩ hP hD hK hS hAe dX3_readCommand_156
      · refine lv_tableIn (tgt := 128) hx hb dX3_readCommand_61 (by rw [e61]; decide) (by rw [e61]; decide) (by rw [e61]; rfl) (by decide) ?_
        refine lv_aload_n hx hb dX3_readCommand_128 rfl (lv_at hl 1 rfl) ?_
        refine n_wVi (b := qs 0) (As := []) (rest := []) (wr := []) (ws' := fun u => ((wS kA qs q tx len (stpF tx len 32 p) (some b51) rw0 ss av) ++ (wT kA q cc ac co ad rc nm st an))) hS0 (c_X3_readSpace lQ D kA qs tx len p (some b51) rw0 ss av q cc ac co ad rc nm st an H.size (by first | assumption | omega) (by first | assumption | omega) (by first | assumption | omega)) (cwV 0 hts gX3_readCommand_X3_readSpace rfl rfl rfl (by decide +kernel) ⟨Nat.le_of_ble_eq_true rfl, Nat.le_of_ble_eq_true rfl⟩) hP hD hS hA hK hK (by simpa only [List.append_assoc, List.append_nil] using ((List.Perm.refl _).trans (List.Perm.append_left _ (List.Perm.of_eq (List.append_nil _).symm)))) (fun u => List.Perm.symm (by simpa only [List.append_assoc, List.append_nil] using ((List.Perm.refl _).trans (List.Perm.append_left _ (List.Perm.of_eq (List.append_nil _).symm))))) (q0 := 0) rfl rfl rfl rfl rfl hl.1 (Nat.le_of_ble_eq_true rfl) dX3_readCommand_129 ⟨Nat.le_refl _, Nat.le_refl _⟩ (fun r129 u129 H locs h129 hP hD hS => ?_)
        subst h129
        have hP : va_P D vwCl ((wS kA qs q tx len (stpF tx len 32 p) (some b51) rw0 ss av) ++ (wT kA q cc ac co ad rc nm st an)) H := hP
        have hD : va_D A ((wS kA qs q tx len (stpF tx len 32 p) (some b51) rw0 ss av) ++ (wT kA q cc ac co ad rc nm st an)) := hD
        refine n_ifb_eq (b := decide (hereF tx len p = some 32)) (tgt := 155) hx hb dX3_readCommand_132 (by decide) (fun c132 => ?_) (fun c132 => ?_)
        · have hb132 := of_decide_eq_false c132
          have es132 : stpF tx len 32 p = p := if_neg hb132
          rw [es132] at hP hD
          refine lv_iconst (v := (nI 0)) hx hb dX3_readCommand_155 (by decide) ?_
          have e9 : rcP tx len ac cc pos = (false, p) := by
            unfold rcP
            rw [hs, hq51, e61]
            show rc1 tx len p = _
            unfold rc1
            first
            | rw [if_pos hb132, if_pos ((rrF_rw (r := rw0)).1.symm.trans c139), ← (rrF_rw (r := rw0)).2.1, c148]
            | rw [if_pos hb132, if_neg (bF ((rrF_rw (r := rw0)).1.symm.trans c139)), ← (rrF_rw (r := rw0)).2.1]
            | rw [if_neg hb132]
          have hP : va_P D vwCl ((wS kA qs q tx len ((rcP tx len ac cc pos).2) (some b51) rw0 ss av) ++ (wT kA q cc ac co ad rc nm st an)) H := by rw [e9]; exact hP
          have hD : va_D A ((wS kA qs q tx len ((rcP tx len ac cc pos).2) (some b51) rw0 ss av) ++ (wT kA q cc ac co ad rc nm st an)) := by rw [e9]; exact hD
          have hP : va_P D vwCl ((wS kA qs q tx len ((rcP tx len ac cc pos).2) (some b51) rw0 ss av) ++ (wT kA q cc ac co ad rc nm st an)) H := hP
          have hD : va_D A ((wS kA qs q tx len ((rcP tx len ac cc pos).2) (some b51) rw0 ss av) ++ (wT kA q cc ac co ad rc nm st an)) := hD
          exact n_wretz hx hb hr hlocks (post := fun (r : Int32) (u : (Option Nat) × Nat × Nat × (Option Nat)) => r = (bI ((rcP tx len ac cc pos).1)) ∧ ((rcP tx len ac cc pos).1 = true → rcC tx len ac cc pos u.1 u.2.1 u.2.2.1 u.2.2.2)) (w1 := fun u => ((wS kA qs q tx len ((rcP tx len ac cc pos).2) u.1 u.2.1 u.2.2.1 u.2.2.2) ++ (wT kA q cc ac co ad rc nm st an))) rfl (some b51, rw0, ss, av) ⟨(by rw [e9]; rfl), (fun h => by first | (rw [e9] at h; cases h; done) | exact ⟨(by rw [hs, hq51]), (fun h => by rw [e61] at h; cases h), (fun _ => by rw [hs]; exact (rrF_rw (r := rw0)).2.2 ((rrF_rw (r := rw0)).1.symm.trans c139))⟩)⟩ hP hD hK hS hAe dX3_readCommand_156
        · have hb132 := of_decide_eq_true c132
          have es132 : stpF tx len 32 p = p + 1 := if_pos hb132
          rw [es132] at hP hD
          refine lv_aload_n hx hb dX3_readCommand_135 rfl (lv_at hl 1 rfl) ?_
          refine n_wVi (b := qs 0) (As := []) (rest := []) (wr := []) (ws' := fun u => ((wS kA qs q tx len ((rrF tx len (p + 1) rw0).2.1) (some b51) ((rrF tx len (p + 1) rw0).2.2) ss av) ++ (wT kA q cc ac co ad rc nm st an))) hS0 (c_X3_readRow lQ D kA qs tx len (p + 1) (some b51) rw0 ss av q cc ac co ad rc nm st an H.size (by first | assumption | omega) (Nat.le_trans (hereF_lt hb132).1 hlen) (by first | assumption | omega)) (cwV 0 hts gX3_readCommand_X3_readRow rfl rfl rfl (by decide +kernel) ⟨Nat.le_of_ble_eq_true rfl, Nat.le_of_ble_eq_true rfl⟩) hP hD hS hA hK hK (by simpa only [List.append_assoc, List.append_nil] using ((List.Perm.refl _).trans (List.Perm.append_left _ (List.Perm.of_eq (List.append_nil _).symm)))) (fun u => List.Perm.symm (by simpa only [List.append_assoc, List.append_nil] using ((List.Perm.refl _).trans (List.Perm.append_left _ (List.Perm.of_eq (List.append_nil _).symm))))) (q0 := 0) rfl rfl rfl rfl rfl hl.1 (Nat.le_of_ble_eq_true rfl) dX3_readCommand_136 ⟨Nat.le_refl _, Nat.le_refl _⟩ (fun r136 u136 H locs h136 hP hD hS => ?_)
          subst h136
          have hP : va_P D vwCl ((wS kA qs q tx len ((rrF tx len (p + 1) rw0).2.1) (some b51) ((rrF tx len (p + 1) rw0).2.2) ss av) ++ (wT kA q cc ac co ad rc nm st an)) H := hP
          have hD : va_D A ((wS kA qs q tx len ((rrF tx len (p + 1) rw0).2.1) (some b51) ((rrF tx len (p + 1) rw0).2.2) ss av) ++ (wT kA q cc ac co ad rc nm st an)) := hD
          refine n_ifb_eq (b := (rrF tx len (p + 1) rw0).1) (tgt := 155) hx hb dX3_readCommand_139 (by decide) (fun c139 => ?_) (fun c139 => ?_)
          · refine lv_iconst (v := (nI 0)) hx hb dX3_readCommand_155 (by decide) ?_
            have e9 : rcP tx len ac cc pos = (false, ((rrF tx len (p + 1) rw0).2.1)) := by
              unfold rcP
              rw [hs, hq51, e61]
              show rc1 tx len p = _
              unfold rc1
              first
              | rw [if_pos hb132, if_pos ((rrF_rw (r := rw0)).1.symm.trans c139), ← (rrF_rw (r := rw0)).2.1, c148]
              | rw [if_pos hb132, if_neg (bF ((rrF_rw (r := rw0)).1.symm.trans c139)), ← (rrF_rw (r := rw0)).2.1]
              | rw [if_neg hb132]
            have hP : va_P D vwCl ((wS kA qs q tx len ((rcP tx len ac cc pos).2) (some b51) ((rrF tx len (p + 1) rw0).2.2) ss av) ++ (wT kA q cc ac co ad rc nm st an)) H := by rw [e9]; exact hP
            have hD : va_D A ((wS kA qs q tx len ((rcP tx len ac cc pos).2) (some b51) ((rrF tx len (p + 1) rw0).2.2) ss av) ++ (wT kA q cc ac co ad rc nm st an)) := by rw [e9]; exact hD
            have hP : va_P D vwCl ((wS kA qs q tx len ((rcP tx len ac cc pos).2) (some b51) ((rrF tx len (p + 1) rw0).2.2) ss av) ++ (wT kA q cc ac co ad rc nm st an)) H := hP
            have hD : va_D A ((wS kA qs q tx len ((rcP tx len ac cc pos).2) (some b51) ((rrF tx len (p + 1) rw0).2.2) ss av) ++ (wT kA q cc ac co ad rc nm st an)) := hD
            exact n_wretz hx hb hr hlocks (post := fun (r : Int32) (u : (Option Nat) × Nat × Nat × (Option Nat)) => r = (bI ((rcP tx len ac cc pos).1)) ∧ ((rcP tx len ac cc pos).1 = true → rcC tx len ac cc pos u.1 u.2.1 u.2.2.1 u.2.2.2)) (w1 := fun u => ((wS kA qs q tx len ((rcP tx len ac cc pos).2) u.1 u.2.1 u.2.2.1 u.2.2.2) ++ (wT kA q cc ac co ad rc nm st an))) rfl (some b51, (rrF tx len (p + 1) rw0).2.2, ss, av) ⟨(by rw [e9]; rfl), (fun h => by first | (rw [e9] at h; cases h; done) | exact ⟨(by rw [hs, hq51]), (fun h => by rw [e61] at h; cases h), (fun _ => by rw [hs]; exact (rrF_rw (r := rw0)).2.2 ((rrF_rw (r := rw0)).1.symm.trans c139))⟩)⟩ hP hD hK hS hAe dX3_readCommand_156
          · refine lv_aload_n hx hb dX3_readCommand_142 rfl (lv_at hl 1 rfl) ?_
            refine lv_bipush (v := (nI 59)) hx hb dX3_readCommand_143 (by decide) ?_
            refine n_wVi (b := qs 0) (As := [.int (nI 59)]) (rest := []) (wr := []) (ws' := fun u => ((wS kA qs q tx len (stpF tx len 59 ((rrF tx len (p + 1) rw0).2.1)) (some b51) ((rrF tx len (p + 1) rw0).2.2) ss av) ++ (wT kA q cc ac co ad rc nm st an))) hS0 (c_X3_readByte lQ D kA qs tx len ((rrF tx len (p + 1) rw0).2.1) (some b51) ((rrF tx len (p + 1) rw0).2.2) ss av q cc ac co ad rc nm st an 59 H.size (by first | assumption | omega) (Nat.le_trans (rrF_le (hereF_lt hb132).1) hlen) (by first | assumption | omega) (by first | assumption | omega)) (cwV 1 hts gX3_readCommand_X3_readByte rfl rfl rfl (by decide +kernel) ⟨Nat.le_of_ble_eq_true rfl, Nat.le_of_ble_eq_true rfl⟩) hP hD hS hA hK hK (by simpa only [List.append_assoc, List.append_nil] using ((List.Perm.refl _).trans (List.Perm.append_left _ (List.Perm.of_eq (List.append_nil _).symm)))) (fun u => List.Perm.symm (by simpa only [List.append_assoc, List.append_nil] using ((List.Perm.refl _).trans (List.Perm.append_left _ (List.Perm.of_eq (List.append_nil _).symm))))) (q0 := 0) rfl rfl rfl rfl rfl hl.1 (Nat.le_of_ble_eq_true rfl) dX3_readCommand_145 ⟨Nat.le_refl _, Nat.le_refl _⟩ (fun r145 u145 H locs h145 hP hD hS => ?_)
            subst h145
            have hP : va_P D vwCl ((wS kA qs q tx len (stpF tx len 59 ((rrF tx len (p + 1) rw0).2.1)) (some b51) ((rrF tx len (p + 1) rw0).2.2) ss av) ++ (wT kA q cc ac co ad rc nm st an)) H := hP
            have hD : va_D A ((wS kA qs q tx len (stpF tx len 59 ((rrF tx len (p + 1) rw0).2.1)) (some b51) ((rrF tx len (p + 1) rw0).2.2) ss av) ++ (wT kA q cc ac co ad rc nm st an)) := hD
            refine n_ifb_eq (b := decide (hereF tx len ((rrF tx len (p + 1) rw0).2.1) = some 59)) (tgt := 155) hx hb dX3_readCommand_148 (by decide) (fun c148 => ?_) (fun c148 => ?_)
            · refine lv_iconst (v := (nI 0)) hx hb dX3_readCommand_155 (by decide) ?_
              have e9 : rcP tx len ac cc pos = (false, (stpF tx len 59 ((rrF tx len (p + 1) rw0).2.1))) := by
                unfold rcP
                rw [hs, hq51, e61]
                show rc1 tx len p = _
                unfold rc1
                first
                | rw [if_pos hb132, if_pos ((rrF_rw (r := rw0)).1.symm.trans c139), ← (rrF_rw (r := rw0)).2.1, c148]
                | rw [if_pos hb132, if_neg (bF ((rrF_rw (r := rw0)).1.symm.trans c139)), ← (rrF_rw (r := rw0)).2.1]
                | rw [if_neg hb132]
              have hP : va_P D vwCl ((wS kA qs q tx len ((rcP tx len ac cc pos).2) (some b51) ((rrF tx len (p + 1) rw0).2.2) ss av) ++ (wT kA q cc ac co ad rc nm st an)) H := by rw [e9]; exact hP
              have hD : va_D A ((wS kA qs q tx len ((rcP tx len ac cc pos).2) (some b51) ((rrF tx len (p + 1) rw0).2.2) ss av) ++ (wT kA q cc ac co ad rc nm st an)) := by rw [e9]; exact hD
              have hP : va_P D vwCl ((wS kA qs q tx len ((rcP tx len ac cc pos).2) (some b51) ((rrF tx len (p + 1) rw0).2.2) ss av) ++ (wT kA q cc ac co ad rc nm st an)) H := hP
              have hD : va_D A ((wS kA qs q tx len ((rcP tx len ac cc pos).2) (some b51) ((rrF tx len (p + 1) rw0).2.2) ss av) ++ (wT kA q cc ac co ad rc nm st an)) := hD
              exact n_wretz hx hb hr hlocks (post := fun (r : Int32) (u : (Option Nat) × Nat × Nat × (Option Nat)) => r = (bI ((rcP tx len ac cc pos).1)) ∧ ((rcP tx len ac cc pos).1 = true → rcC tx len ac cc pos u.1 u.2.1 u.2.2.1 u.2.2.2)) (w1 := fun u => ((wS kA qs q tx len ((rcP tx len ac cc pos).2) u.1 u.2.1 u.2.2.1 u.2.2.2) ++ (wT kA q cc ac co ad rc nm st an))) rfl (some b51, (rrF tx len (p + 1) rw0).2.2, ss, av) ⟨(by rw [e9]; rfl), (fun h => by first | (rw [e9] at h; cases h; done) | exact ⟨(by rw [hs, hq51]), (fun h => by rw [e61] at h; cases h), (fun _ => by rw [hs]; exact (rrF_rw (r := rw0)).2.2 ((rrF_rw (r := rw0)).1.symm.trans c139))⟩)⟩ hP hD hK hS hAe dX3_readCommand_156
            · refine lv_iconst (v := (nI 1)) hx hb dX3_readCommand_151 (by decide) ?_
              refine lv_goto (tgt := 156) hx hb dX3_readCommand_152 (by decide) ?_
              have e9 : rcP tx len ac cc pos = (true, (stpF tx len 59 ((rrF tx len (p + 1) rw0).2.1))) := by
                unfold rcP
                rw [hs, hq51, e61]
                show rc1 tx len p = _
                unfold rc1
                first
                | rw [if_pos hb132, if_pos ((rrF_rw (r := rw0)).1.symm.trans c139), ← (rrF_rw (r := rw0)).2.1, c148]
                | rw [if_pos hb132, if_neg (bF ((rrF_rw (r := rw0)).1.symm.trans c139)), ← (rrF_rw (r := rw0)).2.1]
                | rw [if_neg hb132]
              have hP : va_P D vwCl ((wS kA qs q tx len ((rcP tx len ac cc pos).2) (some b51) ((rrF tx len (p + 1) rw0).2.2) ss av) ++ (wT kA q cc ac co ad rc nm st an)) H := by rw [e9]; exact hP
              have hD : va_D A ((wS kA qs q tx len ((rcP tx len ac cc pos).2) (some b51) ((rrF tx len (p + 1) rw0).2.2) ss av) ++ (wT kA q cc ac co ad rc nm st an)) := by rw [e9]; exact hD
              have hP : va_P D vwCl ((wS kA qs q tx len ((rcP tx len ac cc pos).2) (some b51) ((rrF tx len (p + 1) rw0).2.2) ss av) ++ (wT kA q cc ac co ad rc nm st an)) H := hP
              have hD : va_D A ((wS kA qs q tx len ((rcP tx len ac cc pos).2) (some b51) ((rrF tx len (p + 1) rw0).2.2) ss av) ++ (wT kA q cc ac co ad rc nm st an)) := hD
              exact n_wretz hx hb hr hlocks (post := fun (r : Int32) (u : (Option Nat) × Nat × Nat × (Option Nat)) => r = (bI ((rcP tx len ac cc pos).1)) ∧ ((rcP tx len ac cc pos).1 = true → rcC tx len ac cc pos u.1 u.2.1 u.2.2.1 u.2.2.2)) (w1 := fun u => ((wS kA qs q tx len ((rcP tx len ac cc pos).2) u.1 u.2.1 u.2.2.1 u.2.2.2) ++ (wT kA q cc ac co ad rc nm st an))) rfl (some b51, (rrF tx len (p + 1) rw0).2.2, ss, av) ⟨(by rw [e9]; rfl), (fun h => by first | (rw [e9] at h; cases h; done) | exact ⟨(by rw [hs, hq51]), (fun h => by rw [e61] at h; cases h), (fun _ => by rw [hs]; exact (rrF_rw (r := rw0)).2.2 ((rrF_rw (r := rw0)).1.symm.trans c139))⟩)⟩ hP hD hK hS hAe dX3_readCommand_156
      · refine lv_tableIn (tgt := 157) hx hb dX3_readCommand_61 (by rw [e61]; decide) (by rw [e61]; decide) (by rw [e61]; rfl) (by decide) ?_
        refine lv_aload_n hx hb dX3_readCommand_157 rfl (lv_at hl 1 rfl) ?_
        refine lv_bipush (v := (nI 59)) hx hb dX3_readCommand_158 (by decide) ?_
        refine n_wVi (b := qs 0) (As := [.int (nI 59)]) (rest := []) (wr := []) (ws' := fun u => ((wS kA qs q tx len (stpF tx len 59 p) (some b51) rw0 ss av) ++ (wT kA q cc ac co ad rc nm st an))) hS0 (c_X3_readByte lQ D kA qs tx len p (some b51) rw0 ss av q cc ac co ad rc nm st an 59 H.size (by first | assumption | omega) (by first | assumption | omega) (by first | assumption | omega) (by first | assumption | omega)) (cwV 1 hts gX3_readCommand_X3_readByte rfl rfl rfl (by decide +kernel) ⟨Nat.le_of_ble_eq_true rfl, Nat.le_of_ble_eq_true rfl⟩) hP hD hS hA hK hK (by simpa only [List.append_assoc, List.append_nil] using ((List.Perm.refl _).trans (List.Perm.append_left _ (List.Perm.of_eq (List.append_nil _).symm)))) (fun u => List.Perm.symm (by simpa only [List.append_assoc, List.append_nil] using ((List.Perm.refl _).trans (List.Perm.append_left _ (List.Perm.of_eq (List.append_nil _).symm))))) (q0 := 0) rfl rfl rfl rfl rfl hl.1 (Nat.le_of_ble_eq_true rfl) dX3_readCommand_160 ⟨Nat.le_refl _, Nat.le_refl _⟩ (fun r160 u160 H locs h160 hP hD hS => ?_)
        subst h160
        have hP : va_P D vwCl ((wS kA qs q tx len (stpF tx len 59 p) (some b51) rw0 ss av) ++ (wT kA q cc ac co ad rc nm st an)) H := hP
        have hD : va_D A ((wS kA qs q tx len (stpF tx len 59 p) (some b51) rw0 ss av) ++ (wT kA q cc ac co ad rc nm st an)) := hD
        have e9 : rcP tx len ac cc pos = (decide (hereF tx len p = some 59), (stpF tx len 59 p)) := by
          unfold rcP
          rw [hs, hq51, e61]
          show rc3 tx len p = _
          rfl
        have hP : va_P D vwCl ((wS kA qs q tx len ((rcP tx len ac cc pos).2) (some b51) rw0 ss av) ++ (wT kA q cc ac co ad rc nm st an)) H := by rw [e9]; exact hP
        have hD : va_D A ((wS kA qs q tx len ((rcP tx len ac cc pos).2) (some b51) rw0 ss av) ++ (wT kA q cc ac co ad rc nm st an)) := by rw [e9]; exact hD
        have hP : va_P D vwCl ((wS kA qs q tx len ((rcP tx len ac cc pos).2) (some b51) rw0 ss av) ++ (wT kA q cc ac co ad rc nm st an)) H := hP
        have hD : va_D A ((wS kA qs q tx len ((rcP tx len ac cc pos).2) (some b51) rw0 ss av) ++ (wT kA q cc ac co ad rc nm st an)) := hD
        exact n_wretz hx hb hr hlocks (post := fun (r : Int32) (u : (Option Nat) × Nat × Nat × (Option Nat)) => r = (bI ((rcP tx len ac cc pos).1)) ∧ ((rcP tx len ac cc pos).1 = true → rcC tx len ac cc pos u.1 u.2.1 u.2.2.1 u.2.2.2)) (w1 := fun u => ((wS kA qs q tx len ((rcP tx len ac cc pos).2) u.1 u.2.1 u.2.2.1 u.2.2.2) ++ (wT kA q cc ac co ad rc nm st an))) (narrow_bI _) (some b51, rw0, ss, av) ⟨(by rw [e9]), (fun h => ⟨(by rw [hs, hq51]), (fun h => by rw [e61] at h; cases h), (fun h => by rw [e61] at h; rcases h with h | h <;> cases h)⟩)⟩ hP hD hK hS hAe dX3_readCommand_163
  refine lv_iconst (v := (nI 0)) hx hb dX3_readCommand_5 (by decide) ?_
  refine lv_istore_n (lv' := [(2, .int (nI 0)), (1, .int (nI pos)), (0, .ref (qs 0))]) hx hb dX3_readCommand_6 rfl hl (by decide) rfl (fun ls hl => ?_)
  have L7 : ∀ (nQ : Nat) (i : Nat) (p : Nat), 150 - i < nQ → (i ≤ 150) → (p ≤ len) → (pos ≤ p) → (wenF tx len 150 pos = wenF tx len (150 - i) p) → ∀ (H : Heap) (locs : List Loc), va_P D vwCl ((wS kA qs q tx len p kd rw0 ss av) ++ (wT kA q cc ac co ad rc nm st an)) H → va_D A ((wS kA qs q tx len p kd rw0 ss av) ++ (wT kA q cc ac co ad rc nm st an)) → va_S A s.heap H locs → ∀ (ls : Array Slot), lv_has ls 3 [(2, .int (nI i)), (1, .int (nI pos)), (0, .ref (qs 0))] → W pQ lQ eQ (headSpec wsX3_readCommand (rmN 6 129)).room s mQ ([.ref (qs 0)] : List Value).toArray below meth cQ H locs 0 0 (MQ below (va_Qi (S := (Option Nat) × Nat × Nat × (Option Nat)) (fun (r : Int32) (u : (Option Nat) × Nat × Nat × (Option Nat)) => r = (bI ((rcP tx len ac cc pos).1)) ∧ ((rcP tx len ac cc pos).1 = true → rcC tx len ac cc pos u.1 u.2.1 u.2.2.1 u.2.2.2)) (wr_B D vwCl ((wS kA qs q tx len pos kd rw0 ss av) ++ (wT kA q cc ac co ad rc nm st an)) (tyK kA) s.heap.size (fun u => ((wS kA qs q tx len ((rcP tx len ac cc pos).2) u.1 u.2.1 u.2.2.1 u.2.2.2) ++ (wT kA q cc ac co ad rc nm st an)))) A) ([.ref (qs 0)] : List Value).toArray s 0 0 A) (F0 mQ 7 ls []) := by
    intro nQ
    induction nQ with
    | zero => intro i p hn; exact absurd hn (Nat.not_lt_zero _)
    | succ nQ ih7 =>
      intro i p hm7 hi hp hge hs H locs hP hD hS ls hl
      refine lv_iload_n hx hb dX3_readCommand_7 rfl (lv_at hl 0 rfl) ?_
      refine lv_sipush (v := (nI 150)) hx hb dX3_readCommand_8 (by decide) ?_
      refine n_icmp_ge (a := i) (b := 150) (tgt := 48) hx hb (by omega) (by omega) dX3_readCommand_11 (by decide) (fun c11 => ?_) (fun c11 => ?_)
      · exact J48 p  (by first | assumption | omega) (by first | assumption | omega) (by rw [hs]; first | (rw [show 150 - i = 0 by omega]; rfl) | exact wenF_n hq15 _ | exact wenF_f hq15 (by omega) _) _ _ hP hD hS _ (lv_sub hl [1, 2] rfl)
      · refine lv_aload_n hx hb dX3_readCommand_14 rfl (lv_at hl 2 rfl) ?_
        refine n_cV (b := qs 0) (As := []) (rest := []) (wc := ((wS kA qs q tx len p kd rw0 ss av) ++ (wT kA q cc ac co ad rc nm st an))) hS0 (c_X3_here lQ D kA qs tx len p kd rw0 ss av q cc ac co ad rc nm st an (by first | assumption | omega) (by first | assumption | omega)) (cwV 0 hts gX3_readCommand_X3_here rfl rfl rfl (by decide +kernel) ⟨Nat.le_of_ble_eq_true rfl, Nat.le_of_ble_eq_true rfl⟩) hP hK (q0 := 0) rfl rfl rfl rfl rfl hl.1 (Nat.le_of_ble_eq_true rfl) dX3_readCommand_15 ⟨Nat.le_refl _, Nat.le_refl _⟩ (fun r15 h15 => ?_)
        subst h15
        cases hq15 : hereF tx len p with
        | none =>
          show W pQ lQ eQ (headSpec wsX3_readCommand (rmN 6 129)).room s mQ ([.ref (qs 0)] : List Value).toArray below meth cQ H locs 0 0 (MQ below (va_Qi (S := (Option Nat) × Nat × Nat × (Option Nat)) (fun (r : Int32) (u : (Option Nat) × Nat × Nat × (Option Nat)) => r = (bI ((rcP tx len ac cc pos).1)) ∧ ((rcP tx len ac cc pos).1 = true → rcC tx len ac cc pos u.1 u.2.1 u.2.2.1 u.2.2.2)) (wr_B D vwCl ((wS kA qs q tx len pos kd rw0 ss av) ++ (wT kA q cc ac co ad rc nm st an)) (tyK kA) s.heap.size (fun u => ((wS kA qs q tx len ((rcP tx len ac cc pos).2) u.1 u.2.1 u.2.2.1 u.2.2.2) ++ (wT kA q cc ac co ad rc nm st an)))) A) ([.ref (qs 0)] : List Value).toArray s 0 0 A) (F0 mQ 18 ls [.int (oI none)])
          refine lv_bipush (v := (nI 97)) hx hb dX3_readCommand_18 (by decide) ?_
          refine lv_icmp_lt (tgt := 48) hx hb dX3_readCommand_20 (by decide) (fun _ => ?_) (fun h => absurd (onone_lt (by decide)) h)
          exact J48 p  (by first | assumption | omega) (by first | assumption | omega) (by rw [hs]; first | (rw [show 150 - i = 0 by omega]; rfl) | exact wenF_n hq15 _ | exact wenF_f hq15 (by omega) _) _ _ hP hD hS _ (lv_sub hl [1, 2] rfl)
        | some b15 =>
          show W pQ lQ eQ (headSpec wsX3_readCommand (rmN 6 129)).room s mQ ([.ref (qs 0)] : List Value).toArray below meth cQ H locs 0 0 (MQ below (va_Qi (S := (Option Nat) × Nat × Nat × (Option Nat)) (fun (r : Int32) (u : (Option Nat) × Nat × Nat × (Option Nat)) => r = (bI ((rcP tx len ac cc pos).1)) ∧ ((rcP tx len ac cc pos).1 = true → rcC tx len ac cc pos u.1 u.2.1 u.2.2.1 u.2.2.2)) (wr_B D vwCl ((wS kA qs q tx len pos kd rw0 ss av) ++ (wT kA q cc ac co ad rc nm st an)) (tyK kA) s.heap.size (fun u => ((wS kA qs q tx len ((rcP tx len ac cc pos).2) u.1 u.2.1 u.2.2.1 u.2.2.2) ++ (wT kA q cc ac co ad rc nm st an)))) A) ([.ref (qs 0)] : List Value).toArray s 0 0 A) (F0 mQ 18 ls [.int (nI b15)])
          refine lv_bipush (v := (nI 97)) hx hb dX3_readCommand_18 (by decide) ?_
          refine n_icmp_lt (a := b15) (b := 97) (tgt := 48) hx hb (hereF_bd htx _ hq15) (by decide) dX3_readCommand_20 (by decide) (fun c20 => ?_) (fun c20 => ?_)
          · exact J48 p  (by first | assumption | omega) (by first | assumption | omega) (by rw [hs]; first | (rw [show 150 - i = 0 by omega]; rfl) | exact wenF_n hq15 _ | exact wenF_f hq15 (by omega) _) _ _ hP hD hS _ (lv_sub hl [1, 2] rfl)
          · refine lv_aload_n hx hb dX3_readCommand_23 rfl (lv_at hl 2 rfl) ?_
            refine n_cV (b := qs 0) (As := []) (rest := []) (wc := ((wS kA qs q tx len p kd rw0 ss av) ++ (wT kA q cc ac co ad rc nm st an))) hS0 (c_X3_here lQ D kA qs tx len p kd rw0 ss av q cc ac co ad rc nm st an (by first | assumption | omega) (by first | assumption | omega)) (cwV 0 hts gX3_readCommand_X3_here rfl rfl rfl (by decide +kernel) ⟨Nat.le_of_ble_eq_true rfl, Nat.le_of_ble_eq_true rfl⟩) hP hK (q0 := 0) rfl rfl rfl rfl rfl hl.1 (Nat.le_of_ble_eq_true rfl) dX3_readCommand_24 ⟨Nat.le_refl _, Nat.le_refl _⟩ (fun r24 h24 => ?_)
            subst h24
            rw [hq15]
            show W pQ lQ eQ (headSpec wsX3_readCommand (rmN 6 129)).room s mQ ([.ref (qs 0)] : List Value).toArray below meth cQ H locs 0 0 (MQ below (va_Qi (S := (Option Nat) × Nat × Nat × (Option Nat)) (fun (r : Int32) (u : (Option Nat) × Nat × Nat × (Option Nat)) => r = (bI ((rcP tx len ac cc pos).1)) ∧ ((rcP tx len ac cc pos).1 = true → rcC tx len ac cc pos u.1 u.2.1 u.2.2.1 u.2.2.2)) (wr_B D vwCl ((wS kA qs q tx len pos kd rw0 ss av) ++ (wT kA q cc ac co ad rc nm st an)) (tyK kA) s.heap.size (fun u => ((wS kA qs q tx len ((rcP tx len ac cc pos).2) u.1 u.2.1 u.2.2.1 u.2.2.2) ++ (wT kA q cc ac co ad rc nm st an)))) A) ([.ref (qs 0)] : List Value).toArray s 0 0 A) (F0 mQ 27 ls [.int (nI b15)])
            refine lv_bipush (v := (nI 122)) hx hb dX3_readCommand_27 (by decide) ?_
            refine n_icmp_gt (a := b15) (b := 122) (tgt := 48) hx hb (hereF_bd htx _ hq15) (by decide) dX3_readCommand_29 (by decide) (fun c29 => ?_) (fun c29 => ?_)
            · exact J48 p  (by first | assumption | omega) (by first | assumption | omega) (by rw [hs]; first | (rw [show 150 - i = 0 by omega]; rfl) | exact wenF_n hq15 _ | exact wenF_f hq15 (by omega) _) _ _ hP hD hS _ (lv_sub hl [1, 2] rfl)
            · refine lv_aload_n hx hb dX3_readCommand_32 rfl (lv_at hl 2 rfl) ?_
              refine lv_dup hx hb dX3_readCommand_33 rfl ?_
              refine n_get (ci := 3) (v := .int (nI p)) (C := RX3) (T := TX3) (N := 8) hx hb hts hinX3 hown hK hP 0 rfl rfl 3 rfl ⟨rfl, rfl, rfl⟩ f33 rfl dX3_readCommand_34 ?_
              refine lv_iconst (v := (nI 1)) hx hb dX3_readCommand_37 (by decide) ?_
              refine n_iadd (v := (nI (p + 1))) hx hb (nI_add _ _) dX3_readCommand_38 ?_
              refine n_put (ci := 3) (v := .int (nI (p + 1))) (C := RX3) (T := TX3) (N := 8) (ws' := ((wS kA qs q tx len (p + 1) kd rw0 ss av) ++ (wT kA q cc ac co ad rc nm st an))) hx hb hts hinX3 tyX3 tyX3_ok nmX3 hown hK hP hD hS 0 rfl rfl 3 rfl ⟨rfl, rfl, rfl, rfl⟩ f33 rfl rfl rfl rfl dX3_readCommand_39 (fun H locs hP hD hS => ?_)
              refine lv_iinc (v := (nI (i + 1))) (lv' := [(2, .int (nI (i + 1))), (1, .int (nI pos)), (0, .ref (qs 0))]) hx hb dX3_readCommand_42 hl (k := 0) rfl (nI_inc _) (by decide) rfl (fun ls hl => ?_)
              refine lv_goto (tgt := 7) hx hb dX3_readCommand_45 (by decide) ?_
              exact ih7 (i + 1) (p + 1) (by omega) (by first | assumption | omega) (hereF_lt hq15).1 (by first | assumption | omega) (by rw [hs, show 150 - i = (150 - (i + 1)) + 1 by omega, wenF_t hq15 ⟨by omega, by omega⟩]) _ _ hP hD hS _ (lv_sub hl [0, 1, 2] rfl)
  exact L7 ((150 - 0) + 1) 0 pos (Nat.lt_succ_self _) (by first | assumption | omega) (by first | assumption | omega) (by first | assumption | omega) rfl _ _ hP hD hS _ (lv_sub hl [0, 1, 2] rfl)


theorem ffF_e {tx : Nat → Nat} {len : Nat} {ac : Nat → Nat} {cc p : Nat} (h : len ≤ p) : ∀ n, ffF tx len ac cc n p = none
  | 0 => rfl
  | n + 1 => if_pos h
theorem ffF_b {tx : Nat → Nat} {len : Nat} {ac : Nat → Nat} {cc p n : Nat} (h : ¬ len ≤ p) (h2 : (rcP tx len ac cc p).1 = false) : ffF tx len ac cc (n + 1) p = some (rcP tx len ac cc p).2 := by
  show (if len ≤ p then none else if (rcP tx len ac cc p).1 = true then ffF tx len ac cc n (skpF tx len 150 (rcP tx len ac cc p).2) else some (rcP tx len ac cc p).2) = _
  rw [if_neg h, if_neg (bF h2)]
theorem ffF_g {tx : Nat → Nat} {len : Nat} {ac : Nat → Nat} {cc p n : Nat} (h : ¬ len ≤ p) (h2 : (rcP tx len ac cc p).1 = true) : ffF tx len ac cc (n + 1) p = ffF tx len ac cc n (skpF tx len 150 (rcP tx len ac cc p).2) := by
  show (if len ≤ p then none else if (rcP tx len ac cc p).1 = true then ffF tx len ac cc n (skpF tx len 150 (rcP tx len ac cc p).2) else some (rcP tx len ac cc p).2) = _
  rw [if_neg h, if_pos h2]

set_option maxHeartbeats 4000000 in
set_option maxRecDepth 100000 in
theorem c_X3_findFault (lQ : Launch) (D : va_G) (kA : Nat → ClassId) (adK adV : Nat → Nat) (qs : Nat → Nat) (tx : Nat → Nat) (len : Nat) (pos : Nat) (kd : Option Nat) (rw0 : Nat) (ss : Nat) (av : Option Nat) (q : Nat → Nat) (cc : Nat) (ac : Nat → Nat) (co : Nat → Nat) (ad : Nat) (rc : Nat) (nm : Nat → Nat) (st : Nat → Nat) (an : Nat → Nat) (sz : Nat) (hlen : len ≤ 150) (htx : ∀ j, j < len → tx j < 128) (hcc : cc ≤ 5) (hac : ∀ j, j < cc → ac j ≤ 4) : Met lQ yX3_findFault wsX3_findFault (rmN 7 151) (wrE_Pc D vwCl adK adV [.ref (qs 0)] ((wS kA qs q tx len pos kd rw0 ss av) ++ (wT kA q cc ac co ad rc nm st an)) (tyK kA) sz) (va_Qi (S := (Option Nat) × Nat × Nat × (Option Nat) × Nat) (fun (r : Int32) (u : (Option Nat) × Nat × Nat × (Option Nat) × Nat) => r = (oI (ffF tx len ac cc 150 (skpF tx len 150 0)))) (wr_B D vwCl ((wS kA qs q tx len pos kd rw0 ss av) ++ (wT kA q cc ac co ad rc nm st an)) (tyK kA) sz (fun u => ((wS kA qs q tx len u.2.2.2.2 u.1 u.2.1 u.2.2.1 u.2.2.2.1) ++ (wT kA q cc ac co ad rc nm st an)))) (va_A ((wS kA qs q tx len pos kd rw0 ss av) ++ (wT kA q cc ac co ad rc nm st an)) sz)) 0 0 (va_A ((wS kA qs q tx len pos kd rw0 ss av) ++ (wT kA q cc ac co ad rc nm st an)) sz) := by
  refine Met.ofW (cc := cX3_findFault) (maxL := 2) (ret := (some .int)) (by decide) rfl ?_
  intro pQ eQ s mQ args below meth cQ s₁ B hml hv
  obtain ⟨rfl, hsz, hP, hK, hD0, hE⟩ := hv
  have hx := B.exec
  have hb := B.bytes
  have hr := B.returns
  have hts := atoms_spec (ws := wsX3_findFault) B.pre
  have hown : s.vm.findClass RX3 = some mQ.cls := findClass_of_methodNamed B.named
  have hlocks : meth.locks = false := B.notSynchronized
  have hS0 : CallFix pQ mQ cQ cX3_findFault 2 s ([.ref (qs 0)] : List Value).toArray wsX3_findFault RX3 := ⟨hx, hb, hml, hown, hts⟩
  subst hsz
  have hD := hD0.self (sz := s.heap.size)
  generalize hAe : va_A ((wS kA qs q tx len pos kd rw0 ss av) ++ (wT kA q cc ac co ad rc nm st an)) s.heap.size = A at hD hE ⊢
  have hA : ∀ q : Nat, s.heap.size ≤ q → A q := fun q h => by rw [← hAe]; exact Or.inr h
  have hS : va_S A s.heap s.heap [] := va_S.rf
  have f33 : (Cond.fieldLink RX3 33 "AskedRules$Script" "position" "I").before ([.ref (qs 0)] : List Value).toArray s = true := hts _ (by decide +kernel)
  have hinX3 : ∀ w ∈ wsX30, w ∈ wsX3_findFault := by decide +kernel
  have hl := lv_entry ([.ref (qs 0)]) (n := 2) (Nat.le_of_ble_eq_true rfl)
  rw [lg_entry_eq]
  generalize (lg_sl ([.ref (qs 0)]) ++ List.replicate (2 - (lg_sl ([.ref (qs 0)])).length) Slot.unset).toArray = ls at hl ⊢
  have hl : lv_has ls 2 [(0, .ref (qs 0))] := hl
  have hP : va_P D vwCl ((wS kA qs q tx len pos kd rw0 ss av) ++ (wT kA q cc ac co ad rc nm st an)) s.heap := hP
  have hD : va_D A ((wS kA qs q tx len pos kd rw0 ss av) ++ (wT kA q cc ac co ad rc nm st an)) := hD
  refine lv_aload_n hx hb dX3_findFault_0 rfl (lv_at hl 0 rfl) ?_
  refine n_wVv (b := qs 0) (As := []) (rest := []) (wr := []) (ws' := fun u => ((wS kA qs q tx len (skpF tx len 150 0) kd rw0 ss av) ++ (wT kA q cc ac co ad rc nm st an))) hS0 (c_X3_rewind lQ D kA qs tx len pos kd rw0 ss av q cc ac co ad rc nm st an s.heap.size (by first | assumption | omega) (by first | assumption | omega)) (cwV 0 hts gX3_findFault_X3_rewind rfl rfl rfl (by decide +kernel) ⟨Nat.le_of_ble_eq_true rfl, Nat.le_of_ble_eq_true rfl⟩) hP hD hS hA hK hK (by simpa only [List.append_assoc, List.append_nil] using ((List.Perm.refl _).trans (List.Perm.append_left _ (List.Perm.of_eq (List.append_nil _).symm)))) (fun u => List.Perm.symm (by simpa only [List.append_assoc, List.append_nil] using ((List.Perm.refl _).trans (List.Perm.append_left _ (List.Perm.of_eq (List.append_nil _).symm))))) (q0 := 0) rfl rfl rfl rfl rfl hl.1 (Nat.le_of_ble_eq_true rfl) dX3_findFault_1 ⟨Nat.le_refl _, Nat.le_refl _⟩ (fun u1 H locs h1 hP hD hS => ?_)
  have hP : va_P D vwCl ((wS kA qs q tx len (skpF tx len 150 0) kd rw0 ss av) ++ (wT kA q cc ac co ad rc nm st an)) H := hP
  have hD : va_D A ((wS kA qs q tx len (skpF tx len 150 0) kd rw0 ss av) ++ (wT kA q cc ac co ad rc nm st an)) := hD
  refine lv_iconst (v := (nI 0)) hx hb dX3_findFault_4 (by decide) ?_
  refine lv_istore_n (lv' := [(1, .int (nI 0)), (0, .ref (qs 0))]) hx hb dX3_findFault_5 rfl hl (by decide) rfl (fun ls hl => ?_)
  have L6 : ∀ (nQ : Nat) (n : Nat) (p : Nat) (kd1 : Option Nat) (rw1 : Nat) (ss1 : Nat) (av1 : Option Nat), 150 - n < nQ → (n ≤ 150) → (p ≤ len) → (ffF tx len ac cc 150 (skpF tx len 150 0) = ffF tx len ac cc (150 - n) p) → ∀ (H : Heap) (locs : List Loc), va_P D vwCl ((wS kA qs q tx len p kd1 rw1 ss1 av1) ++ (wT kA q cc ac co ad rc nm st an)) H → va_D A ((wS kA qs q tx len p kd1 rw1 ss1 av1) ++ (wT kA q cc ac co ad rc nm st an)) → va_S A s.heap H locs → ∀ (ls : Array Slot), lv_has ls 2 [(1, .int (nI n)), (0, .ref (qs 0))] → W pQ lQ eQ (headSpec wsX3_findFault (rmN 7 151)).room s mQ ([.ref (qs 0)] : List Value).toArray below meth cQ H locs 0 0 (MQ below (va_Qi (S := (Option Nat) × Nat × Nat × (Option Nat) × Nat) (fun (r : Int32) (u : (Option Nat) × Nat × Nat × (Option Nat) × Nat) => r = (oI (ffF tx len ac cc 150 (skpF tx len 150 0)))) (wr_B D vwCl ((wS kA qs q tx len pos kd rw0 ss av) ++ (wT kA q cc ac co ad rc nm st an)) (tyK kA) s.heap.size (fun u => ((wS kA qs q tx len u.2.2.2.2 u.1 u.2.1 u.2.2.1 u.2.2.2.1) ++ (wT kA q cc ac co ad rc nm st an)))) A) ([.ref (qs 0)] : List Value).toArray s 0 0 A) (F0 mQ 6 ls []) := by
    intro nQ
    induction nQ with
    | zero => intro n p kd1 rw1 ss1 av1 hn; exact absurd hn (Nat.not_lt_zero _)
    | succ nQ ih6 =>
      intro n p kd1 rw1 ss1 av1 hm6 hn hp hs H locs hP hD hS ls hl
      refine lv_iload_n hx hb dX3_findFault_6 rfl (lv_at hl 0 rfl) ?_
      refine lv_sipush (v := (nI 150)) hx hb dX3_findFault_7 (by decide) ?_
      refine n_icmp_ge (a := n) (b := 150) (tgt := 42) hx hb (by omega) (by omega) dX3_findFault_10 (by decide) (fun c10 => ?_) (fun c10 => ?_)
      · refine lv_iconst (v := (oI none)) hx hb dX3_findFault_42 (by decide) ?_
        exact n_wreti hx hb hr hlocks (post := fun (r : Int32) (u : (Option Nat) × Nat × Nat × (Option Nat) × Nat) => r = (oI (ffF tx len ac cc 150 (skpF tx len 150 0)))) (w1 := fun u => ((wS kA qs q tx len u.2.2.2.2 u.1 u.2.1 u.2.2.1 u.2.2.2.1) ++ (wT kA q cc ac co ad rc nm st an))) (kd1, rw1, ss1, av1, p) (by rw [hs]; first | (rw [show 150 - n = 0 by omega]; rfl) | (rw [ffF_e (of_decide_eq_true c17)])) hP hD hK hS hAe dX3_findFault_43
      · refine lv_aload_n hx hb dX3_findFault_13 rfl (lv_at hl 1 rfl) ?_
        refine n_cV (b := qs 0) (As := []) (rest := []) (wc := ((wS kA qs q tx len p kd1 rw1 ss1 av1) ++ (wT kA q cc ac co ad rc nm st an))) hS0 (c_X3_atEnd lQ D kA qs tx len p kd1 rw1 ss1 av1 q cc ac co ad rc nm st an (by first | assumption | omega) (by first | assumption | omega)) (cwV 0 hts gX3_findFault_X3_atEnd rfl rfl rfl (by decide +kernel) ⟨Nat.le_of_ble_eq_true rfl, Nat.le_of_ble_eq_true rfl⟩) hP hK (q0 := 0) rfl rfl rfl rfl rfl hl.1 (Nat.le_of_ble_eq_true rfl) dX3_findFault_14 ⟨Nat.le_refl _, Nat.le_refl _⟩ (fun r14 h14 => ?_)
        subst h14
        refine n_ifb_ne (b := decide (len ≤ p)) (tgt := 42) hx hb dX3_findFault_17 (by decide) (fun c17 => ?_) (fun c17 => ?_)
        · refine lv_iconst (v := (oI none)) hx hb dX3_findFault_42 (by decide) ?_
          exact n_wreti hx hb hr hlocks (post := fun (r : Int32) (u : (Option Nat) × Nat × Nat × (Option Nat) × Nat) => r = (oI (ffF tx len ac cc 150 (skpF tx len 150 0)))) (w1 := fun u => ((wS kA qs q tx len u.2.2.2.2 u.1 u.2.1 u.2.2.1 u.2.2.2.1) ++ (wT kA q cc ac co ad rc nm st an))) (kd1, rw1, ss1, av1, p) (by rw [hs]; first | (rw [show 150 - n = 0 by omega]; rfl) | (rw [ffF_e (of_decide_eq_true c17)])) hP hD hK hS hAe dX3_findFault_43
        · refine lv_aload_n hx hb dX3_findFault_20 rfl (lv_at hl 1 rfl) ?_
          refine n_wViE (b := qs 0) (As := []) (rest := []) (wr := []) (ws' := fun u => ((wS kA qs q tx len ((rcP tx len ac cc p).2) u.1 u.2.1 u.2.2.1 u.2.2.2) ++ (wT kA q cc ac co ad rc nm st an))) hS0 (c_X3_readCommand lQ D kA adK adV qs tx len p kd1 rw1 ss1 av1 q cc ac co ad rc nm st an H.size (by first | assumption | omega) (by first | assumption | omega) (by first | assumption | omega) (by first | assumption | omega) (by first | assumption | omega)) (cwV 0 hts gX3_findFault_X3_readCommand rfl rfl rfl (by decide +kernel) ⟨Nat.le_of_ble_eq_true rfl, Nat.le_of_ble_eq_true rfl⟩) hP hD hS hE hA hK hK (by simpa only [List.append_assoc, List.append_nil] using ((List.Perm.refl _).trans (List.Perm.append_left _ (List.Perm.of_eq (List.append_nil _).symm)))) (fun u => List.Perm.symm (by simpa only [List.append_assoc, List.append_nil] using ((List.Perm.refl _).trans (List.Perm.append_left _ (List.Perm.of_eq (List.append_nil _).symm))))) (q0 := 0) rfl rfl rfl rfl rfl hl.1 (Nat.le_of_ble_eq_true rfl) dX3_findFault_21 ⟨Nat.le_refl _, Nat.le_refl _⟩ (fun r21 u21 H locs h21 hP hD hS => ?_)
          obtain ⟨kd9_21, rw9_21, ss9_21, av9_21⟩ := u21
          obtain ⟨rfl, h21_1⟩ := h21
          try dsimp only at h21_1
          have hP : va_P D vwCl ((wS kA qs q tx len ((rcP tx len ac cc p).2) kd9_21 rw9_21 ss9_21 av9_21) ++ (wT kA q cc ac co ad rc nm st an)) H := hP
          have hD : va_D A ((wS kA qs q tx len ((rcP tx len ac cc p).2) kd9_21 rw9_21 ss9_21 av9_21) ++ (wT kA q cc ac co ad rc nm st an)) := hD
          refine n_ifb_ne (b := (rcP tx len ac cc p).1) (tgt := 32) hx hb dX3_findFault_24 (by decide) (fun c24 => ?_) (fun c24 => ?_)
          · refine lv_aload_n hx hb dX3_findFault_32 rfl (lv_at hl 1 rfl) ?_
            refine n_wVv (b := qs 0) (As := []) (rest := []) (wr := []) (ws' := fun u => ((wS kA qs q tx len (skpF tx len 150 ((rcP tx len ac cc p).2)) kd9_21 rw9_21 ss9_21 av9_21) ++ (wT kA q cc ac co ad rc nm st an))) hS0 (c_X3_skipSpaces lQ D kA qs tx len ((rcP tx len ac cc p).2) kd9_21 rw9_21 ss9_21 av9_21 q cc ac co ad rc nm st an H.size (by first | assumption | omega) (Nat.le_trans (rcP_le hp) hlen) (by first | assumption | omega)) (cwV 0 hts gX3_findFault_X3_skipSpaces rfl rfl rfl (by decide +kernel) ⟨Nat.le_of_ble_eq_true rfl, Nat.le_of_ble_eq_true rfl⟩) hP hD hS hA hK hK (by simpa only [List.append_assoc, List.append_nil] using ((List.Perm.refl _).trans (List.Perm.append_left _ (List.Perm.of_eq (List.append_nil _).symm)))) (fun u => List.Perm.symm (by simpa only [List.append_assoc, List.append_nil] using ((List.Perm.refl _).trans (List.Perm.append_left _ (List.Perm.of_eq (List.append_nil _).symm))))) (q0 := 0) rfl rfl rfl rfl rfl hl.1 (Nat.le_of_ble_eq_true rfl) dX3_findFault_33 ⟨Nat.le_refl _, Nat.le_refl _⟩ (fun u33 H locs h33 hP hD hS => ?_)
            have hP : va_P D vwCl ((wS kA qs q tx len (skpF tx len 150 ((rcP tx len ac cc p).2)) kd9_21 rw9_21 ss9_21 av9_21) ++ (wT kA q cc ac co ad rc nm st an)) H := hP
            have hD : va_D A ((wS kA qs q tx len (skpF tx len 150 ((rcP tx len ac cc p).2)) kd9_21 rw9_21 ss9_21 av9_21) ++ (wT kA q cc ac co ad rc nm st an)) := hD
            refine lv_iinc (v := (nI (n + 1))) (lv' := [(1, .int (nI (n + 1))), (0, .ref (qs 0))]) hx hb dX3_findFault_36 hl (k := 0) rfl (nI_inc _) (by decide) rfl (fun ls hl => ?_)
            refine lv_goto (tgt := 6) hx hb dX3_findFault_39 (by decide) ?_
            exact ih6 (n + 1) (skpF tx len 150 ((rcP tx len ac cc p).2)) kd9_21 rw9_21 ss9_21 av9_21 (by omega) (by first | assumption | omega) (skpF_le (rcP_le hp)) (by rw [hs, show 150 - n = (150 - (n + 1)) + 1 by omega, ffF_g (of_decide_eq_false c17) c24]) _ _ hP hD hS _ (lv_sub hl [0, 1] rfl)
          · refine lv_aload_n hx hb dX3_findFault_27 rfl (lv_at hl 1 rfl) ?_
            refine n_get (ci := 3) (v := .int (nI ((rcP tx len ac cc p).2))) (C := RX3) (T := TX3) (N := 8) hx hb hts hinX3 hown hK hP 0 rfl rfl 3 rfl ⟨rfl, rfl, rfl⟩ f33 rfl dX3_findFault_28 ?_
            exact n_wreti hx hb hr hlocks (post := fun (r : Int32) (u : (Option Nat) × Nat × Nat × (Option Nat) × Nat) => r = (oI (ffF tx len ac cc 150 (skpF tx len 150 0)))) (w1 := fun u => ((wS kA qs q tx len u.2.2.2.2 u.1 u.2.1 u.2.2.1 u.2.2.2.1) ++ (wT kA q cc ac co ad rc nm st an))) (kd9_21, rw9_21, ss9_21, av9_21, (rcP tx len ac cc p).2) (by rw [hs, show 150 - n = (150 - (n + 1)) + 1 by omega, ffF_b (of_decide_eq_false c17) c24]; rfl) hP hD hK hS hAe dX3_findFault_31
  exact L6 ((150 - 0) + 1) 0 (skpF tx len 150 0) kd rw0 ss av (Nat.lt_succ_self _) (by first | assumption | omega) (skpF_le (Nat.zero_le _)) rfl _ _ hP hD hS _ (lv_sub hl [0, 1] rfl)
