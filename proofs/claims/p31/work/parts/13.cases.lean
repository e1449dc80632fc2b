
/-- the cells of Cases -/
def wC (kA : Nat → ClassId) (qc tq : Nat → Nat) (cn : Nat) (sd bt : Nat → Nat) (fi se : Nat → Option Nat) (tl ax : Nat → Nat) (cf : Nat → Bool) (ow : Nat → Nat) (ho ov cs : Nat) : va_W :=
  [(qc 0, .inr (0, [.ref (tq 0), .int (nI cn), .ref (qc 1), .ref (qc 2), .ref (qc 3), .ref (qc 4), .ref (qc 5), .ref (qc 6), .ref (qc 7), .ref (qc 8), .int (nI ho), .int (nI ov), .int (nI cs)])),
   (qc 1, .inl (kA 0, 5, .inl (aN sd))), (qc 2, .inl (kA 0, 1024, .inl (aN bt))), (qc 3, .inl (kA 0, 1024, .inl (aO fi))), (qc 4, .inl (kA 0, 1024, .inl (aO se))),
   (qc 5, .inl (kA 0, 1024, .inl (aN tl))), (qc 6, .inl (kA 0, 1024, .inl (aN ax))), (qc 7, .inl (kA 2, 1024, .inl (aB cf))), (qc 8, .inl (kA 0, 20, .inl (aN ow)))]
theorem up_up {α : Type} (f : Nat → α) (k : Nat) (v w : α) : va_up (va_up f k v) k w = va_up f k w := by
  funext j; unfold va_up; split <;> rfl
/-- the answer of a case to a condition -/
def digF (ac : Nat → Nat) (k c : Nat) : Nat := c / prodF ac k % ac k
/-- the answers of a case to the first n conditions, as sets of one answer each -/
def bitC (ac : Nat → Nat) (c : Nat) : Nat → Nat
  | 0 => 0
  | k + 1 => bitC ac c k ||| (1 <<< (4 * k + digF ac k c))
theorem prodF_s (f : Nat → Nat) (n : Nat) : prodF f (n + 1) = prodF f n * f n := rfl
theorem bitC_s (ac : Nat → Nat) (c k : Nat) : bitC ac c (k + 1) = bitC ac c k ||| (1 <<< (4 * k + digF ac k c)) := rfl
theorem prodF_pos {ac : Nat → Nat} : ∀ {n : Nat}, (∀ k, k < n → 2 ≤ ac k ∧ ac k ≤ 4) → 0 < prodF ac n
  | 0, _ => Nat.one_pos
  | n + 1, h => by
    rw [prodF_s]
    exact Nat.mul_pos (prodF_pos (fun k hk => h k (by omega))) (by have := h n (by omega); omega)
theorem prodF_le {ac : Nat → Nat} : ∀ {n : Nat}, (∀ k, k < n → 2 ≤ ac k ∧ ac k ≤ 4) → prodF ac n ≤ 4 ^ n
  | 0, _ => Nat.le_refl 1
  | n + 1, h => by
    rw [prodF_s, Nat.pow_succ]
    exact Nat.mul_le_mul (prodF_le (fun k hk => h k (by omega))) (h n (by omega)).2
theorem pow4_le {n m : Nat} (h : n ≤ m) : 4 ^ n ≤ 4 ^ m := Nat.pow_le_pow_right (by decide) h
theorem prodF_1024 {ac : Nat → Nat} {cc : Nat} (hcc : cc ≤ 5) (h : ∀ k, k < cc → 2 ≤ ac k ∧ ac k ≤ 4) : prodF ac cc ≤ 1024 :=
  Nat.le_trans (prodF_le h) (Nat.le_trans (pow4_le hcc) (by decide))
theorem digF_lt {ac : Nat → Nat} {k c : Nat} (h : 0 < ac k) : digF ac k c < ac k := Nat.mod_lt _ h
theorem digF_low {ac : Nat → Nat} {k j : Nat} (hj : j < k) (h : ∀ i, i < k → 2 ≤ ac i ∧ ac i ≤ 4) (a n : Nat) : digF ac j (a * prodF ac k + n) = digF ac j n := by
  have hd : ∃ r, prodF ac k = prodF ac j * (ac j * r) := by
    induction k with
    | zero => omega
    | succ k ih =>
      by_cases e : j = k
      · subst e; exact ⟨1, by rw [prodF_s, Nat.mul_one]⟩
      · obtain ⟨r, hr⟩ := ih (by omega) (fun i hi => h i (by omega))
        exact ⟨r * ac k, by rw [prodF_s, hr, Nat.mul_assoc, Nat.mul_assoc]⟩
  obtain ⟨r, hr⟩ := hd
  have hp : 0 < prodF ac j := prodF_pos (fun i hi => h i (by omega))
  unfold digF
  rw [hr, show a * (prodF ac j * (ac j * r)) + n = n + prodF ac j * (ac j * (a * r)) by rw [Nat.add_comm]; congr 1; rw [Nat.mul_left_comm, Nat.mul_left_comm a (ac j) r], Nat.add_mul_div_left _ _ hp, Nat.add_mul_mod_self_left]
theorem bitC_low {ac : Nat → Nat} {k : Nat} (h : ∀ i, i < k → 2 ≤ ac i ∧ ac i ≤ 4) (a n : Nat) : bitC ac (a * prodF ac k + n) k = bitC ac n k := by
  have : ∀ m, m ≤ k → bitC ac (a * prodF ac k + n) m = bitC ac n m := by
    intro m
    induction m with
    | zero => intro _; rfl
    | succ m ih =>
      intro hm
      rw [bitC_s, bitC_s, ih (by omega), digF_low (by omega) h]
  exact this k (Nat.le_refl _)
theorem bitC_step {ac : Nat → Nat} {k a n : Nat} (h : ∀ i, i < k → 2 ≤ ac i ∧ ac i ≤ 4) (hn : n < prodF ac k) (ha : a < ac k) : bitC ac (a * prodF ac k + n) (k + 1) = bitC ac n k ||| (1 <<< (4 * k + a)) := by
  have hp : 0 < prodF ac k := prodF_pos h
  rw [bitC_s, bitC_low h, show digF ac k (a * prodF ac k + n) = a by unfold digF; rw [Nat.add_comm, Nat.add_mul_div_right _ _ hp, Nat.div_eq_of_lt hn, Nat.zero_add, Nat.mod_eq_of_lt ha]]
theorem bitC_lt {ac : Nat → Nat} (c : Nat) : ∀ {n : Nat}, (∀ k, k < n → 2 ≤ ac k ∧ ac k ≤ 4) → bitC ac c n < 2 ^ (4 * n)
  | 0, _ => Nat.one_pos
  | n + 1, h => by
    rw [bitC_s]
    have h1 := bitC_lt c (n := n) (fun k hk => h k (by omega))
    have h2 : digF ac n c < 4 := Nat.lt_of_lt_of_le (digF_lt (by have := h n (by omega); omega)) (h n (by omega)).2
    refine Nat.or_lt_two_pow (Nat.lt_of_lt_of_le h1 (Nat.pow_le_pow_right (by decide) (by omega))) ?_
    rw [Nat.shiftLeft_eq, Nat.one_mul]
    exact Nat.pow_lt_pow_right (by decide) (by omega)
theorem bitC_lt20 {ac : Nat → Nat} {cc : Nat} (c : Nat) (hcc : cc ≤ 5) (h : ∀ k, k < cc → 2 ≤ ac k ∧ ac k ≤ 4) : bitC ac c cc < 1048576 :=
  Nat.lt_of_lt_of_le (bitC_lt c h) (Nat.le_trans (Nat.pow_le_pow_right (by decide) (show 4 * cc ≤ 20 by omega)) (by decide))
theorem dO_some {m q : Nat} (h : dO m = some q) : m = q + 1 := by
  cases m with
  | zero => cases h
  | succ m => cases h; rfl
theorem dO_none {m : Nat} (h : dO m = none) : m = 0 := by
  cases m with
  | zero => rfl
  | succ m => cases h
theorem lay_idx {ac : Nat → Nat} {cc k a i P : Nat} (hcc : cc ≤ 5) (hac : ∀ k, k < cc → 2 ≤ ac k ∧ ac k ≤ 4) (hk : k < cc) (hP : P = prodF ac k) (ha : a < ac k) (hi : i < P) : a * P + i < 1024 := by
  have h1 : P ≤ 256 := by rw [hP]; exact Nat.le_trans (prodF_le (fun j hj => hac j (by omega))) (Nat.le_trans (pow4_le (show k ≤ 4 by omega)) (by decide))
  have h2 : ac k ≤ 4 := (hac k hk).2
  have h3 : a * P ≤ 3 * P := Nat.mul_le_mul_right P (by omega)
  omega
theorem lay_step {ac bt : Nat → Nat} {k P : Nat} (h : ∀ i, i < k → 2 ≤ ac i ∧ ac i ≤ 4) (hP : P = prodF ac k) (hb : ∀ a, 0 ≤ a → a < ac k → ∀ n, n < P → bt (a * P + n) = bitC ac n k ||| (1 <<< (4 * k + a))) : ∀ c, c < prodF ac (k + 1) → bt c = bitC ac c (k + 1) := by
  intro c hc
  subst hP
  have hp : 0 < prodF ac k := prodF_pos h
  have hq : c / prodF ac k < ac k := by
    refine Nat.div_lt_of_lt_mul ?_
    exact hc
  have e : c = c / prodF ac k * prodF ac k + c % prodF ac k := by
    have := Nat.div_add_mod c (prodF ac k)
    rw [Nat.mul_comm] at this; exact this.symm
  have hm : c % prodF ac k < prodF ac k := Nat.mod_lt _ hp
  have h1 := hb (c / prodF ac k) (Nat.zero_le _) hq (c % prodF ac k) hm
  rw [← e] at h1
  rw [h1, ← bitC_step h hm hq, ← e]
theorem lay_ne {a q P n i : Nat} (ha : q < a) (hn : n < P) (hi : i < P) : a * P + n ≠ q * P + i := by
  have : (q + 1) * P ≤ a * P := Nat.mul_le_mul_right P ha
  rw [Nat.add_mul, Nat.one_mul] at this
  omega
theorem lay_ne0 {q P n i : Nat} (hq : 0 < q) (hn : n < P) : n ≠ q * P + i := by
  have : 1 * P ≤ q * P := Nat.mul_le_mul_right P hq
  omega
/-- does a row with the sets st p tell a case with the answers w -/
def tlW (st : Nat → Nat) (w p : Nat) : Bool := decide (st p &&& w = w)
def secF (f : Nat → Bool) : Nat → Option Nat
  | 0 => none
  | n + 1 => match secF f n with
    | some p => some p
    | none => if f n = true ∧ cntB f n = 1 then some n else none
def actO (an : Nat → Nat) (o : Option Nat) : Nat := match o with
  | none => 10
  | some p => an p
/-- a row that tells, with an action unlike the first one's -/
def cfB (f : Nat → Bool) (an : Nat → Nat) : Nat → Bool
  | 0 => false
  | n + 1 => cfB f an n || (f n && match firstF f n with
    | none => false
    | some q => decide (an n ≠ an q))
theorem cnt_first (f : Nat → Bool) : ∀ n, (cntB f n = 0 ↔ firstF f n = none)
  | 0 => ⟨fun _ => rfl, fun _ => rfl⟩
  | n + 1 => by
    have ih := cnt_first f n
    unfold cntB firstF
    cases e : firstF f n with
    | none =>
      rw [e] at ih
      have h0 := ih.mpr rfl
      by_cases h : f n = true
      · simp [h, h0]
      · simp [h, h0]
    | some q =>
      rw [e] at ih
      have h0 : cntB f n ≠ 0 := fun h => by have := ih.mp h; cases this
      constructor
      · intro h; omega
      · intro h; cases h
theorem cnt_sec (f : Nat → Bool) : ∀ n, (cntB f n ≤ 1 ↔ secF f n = none)
  | 0 => ⟨fun _ => rfl, fun _ => Nat.zero_le 1⟩
  | n + 1 => by
    have ih := cnt_sec f n
    unfold cntB secF
    cases e : secF f n with
    | none =>
      rw [e] at ih
      have h0 := ih.mpr rfl
      by_cases h : f n = true
      · by_cases h1 : cntB f n = 1
        · simp [h, h1]
        · simp [h, h1]; omega
      · simp [h, h0]
    | some q =>
      rw [e] at ih
      have h0 : ¬ cntB f n ≤ 1 := fun h => by have := ih.mp h; cases this
      constructor
      · intro h; omega
      · intro h; cases h
def jInv (f : Nat → Bool) (an : Nat → Nat) (c : Nat) (fi se : Nat → Option Nat) (ax : Nat → Nat) (cf : Nat → Bool) (p u : Nat) (fi1 se1 : Nat → Option Nat) (ax1 : Nat → Nat) (cf1 : Nat → Bool) : Prop :=
  u = cntB f p ∧ fi1 = va_up fi c (firstF f p) ∧ se1 = va_up se c (secF f p) ∧ ax1 = va_up ax c (actO an (firstF f p)) ∧ cf1 = va_up cf c (cfB f an p)
section JST
variable {f : Nat → Bool} {an : Nat → Nat} {c : Nat} {fi se : Nat → Option Nat} {ax : Nat → Nat} {cf : Nat → Bool} {p u : Nat} {fi1 se1 : Nat → Option Nat} {ax1 : Nat → Nat} {cf1 : Nat → Bool}
theorem jskip (h : jInv f an c fi se ax cf p u fi1 se1 ax1 cf1) (hf : f p = false) : jInv f an c fi se ax cf (p + 1) u fi1 se1 ax1 cf1 := by
  obtain ⟨h1, h2, h3, h4, h5⟩ := h
  have e1 : firstF f (p + 1) = firstF f p := by
    show (match firstF f p with | some q => some q | none => if f p = true then some p else none) = firstF f p
    cases firstF f p with
    | none => simp [hf]
    | some _ => rfl
  have e2 : secF f (p + 1) = secF f p := by
    show (match secF f p with | some q => some q | none => if f p = true ∧ cntB f p = 1 then some p else none) = secF f p
    cases secF f p with
    | none => simp [hf]
    | some _ => rfl
  refine ⟨?_, ?_, ?_, ?_, ?_⟩
  · show u = cntB f p + (if f p = true then 1 else 0)
    simp [hf, h1]
  · rw [e1]; exact h2
  · rw [e2]; exact h3
  · rw [e1]; exact h4
  · show cf1 = va_up cf c (cfB f an p || (f p && _))
    rw [hf, Bool.false_and, Bool.or_false]; exact h5
theorem jstep (h : jInv f an c fi se ax cf p u fi1 se1 ax1 cf1) (hf : f p = true) :
    (u = 0 → jInv f an c fi se ax cf (p + 1) (u + 1) (va_up fi1 c (some p)) se1 (va_up ax1 c (an p)) cf1) ∧
    (0 < u → an p = ax1 c → u ≠ 1 → jInv f an c fi se ax cf (p + 1) (u + 1) fi1 se1 ax1 cf1) ∧
    (0 < u → an p = ax1 c → u = 1 → jInv f an c fi se ax cf (p + 1) (u + 1) fi1 (va_up se1 c (some p)) ax1 cf1) ∧
    (0 < u → an p ≠ ax1 c → u ≠ 1 → jInv f an c fi se ax cf (p + 1) (u + 1) fi1 se1 ax1 (va_up cf1 c true)) ∧
    (0 < u → an p ≠ ax1 c → u = 1 → jInv f an c fi se ax cf (p + 1) (u + 1) fi1 (va_up se1 c (some p)) ax1 (va_up cf1 c true)) := by
  obtain ⟨h1, h2, h3, h4, h5⟩ := h
  have ec : u + 1 = cntB f (p + 1) := by
    show u + 1 = cntB f p + (if f p = true then 1 else 0)
    simp [hf, h1]
  have ef0 : u = 0 → firstF f p = none ∧ firstF f (p + 1) = some p := fun hu => by
    have h0 := (cnt_first f p).mp (h1.symm.trans hu)
    refine ⟨h0, ?_⟩
    show (match firstF f p with | some q => some q | none => if f p = true then some p else none) = some p
    rw [h0]; simp [hf]
  have ef1 : 0 < u → ∃ q, firstF f p = some q ∧ firstF f (p + 1) = some q := fun hu => by
    cases e : firstF f p with
    | none => have := (cnt_first f p).mpr e; omega
    | some q =>
      refine ⟨q, rfl, ?_⟩
      show (match firstF f p with | some q => some q | none => if f p = true then some p else none) = some q
      rw [e]
  have es1 : u = 1 → secF f (p + 1) = some p := fun hu => by
    have h0 := (cnt_sec f p).mp (by omega)
    show (match secF f p with | some q => some q | none => if f p = true ∧ cntB f p = 1 then some p else none) = some p
    rw [h0]; simp [hf, ← h1, hu]
  have esn : u ≠ 1 → secF f (p + 1) = secF f p := fun hu => by
    show (match secF f p with | some q => some q | none => if f p = true ∧ cntB f p = 1 then some p else none) = secF f p
    cases e : secF f p with
    | none => simp [← h1, hu]
    | some _ => rfl
  have ecf : cfB f an (p + 1) = (cfB f an p || (match firstF f p with | none => false | some q => decide (an p ≠ an q))) := by
    show (cfB f an p || (f p && _)) = _
    rw [hf, Bool.true_and]
  have eax : ∀ q, firstF f p = some q → ax1 c = an q := fun q hq => by rw [h4, up_s, hq]; rfl
  refine ⟨fun hu => ?_, fun hu he hn => ?_, fun hu he hn => ?_, fun hu he hn => ?_, fun hu he hn => ?_⟩
  · obtain ⟨g1, g2⟩ := ef0 hu
    refine ⟨ec, ?_, ?_, ?_, ?_⟩
    · rw [h2, up_up, g2]
    · rw [h3, esn (by omega)]
    · rw [h4, up_up, g2]; rfl
    · rw [h5, ecf, g1, Bool.or_false]
  · obtain ⟨q, g1, g2⟩ := ef1 hu
    refine ⟨ec, by rw [h2, g1, g2], by rw [h3, esn hn], by rw [h4, g1, g2], ?_⟩
    rw [h5, ecf, g1]
    rw [eax q g1] at he
    simp [he]
  · obtain ⟨q, g1, g2⟩ := ef1 hu
    refine ⟨ec, by rw [h2, g1, g2], by rw [h3, up_up, es1 hn], by rw [h4, g1, g2], ?_⟩
    rw [h5, ecf, g1]
    rw [eax q g1] at he
    simp [he]
  · obtain ⟨q, g1, g2⟩ := ef1 hu
    refine ⟨ec, by rw [h2, g1, g2], by rw [h3, esn hn], by rw [h4, g1, g2], ?_⟩
    rw [h5, up_up, ecf, g1]
    rw [eax q g1] at he
    simp [he]
  · obtain ⟨q, g1, g2⟩ := ef1 hu
    refine ⟨ec, by rw [h2, g1, g2], by rw [h3, up_up, es1 hn], by rw [h4, g1, g2], ?_⟩
    rw [h5, up_up, ecf, g1]
    rw [eax q g1] at he
    simp [he]
end JST
def hoF (ho : Nat) (o : Option Nat) : Nat := match o with
  | none => ho + 1
  | some _ => ho
def owF (ow : Nat → Nat) (o : Option Nat) : Nat → Nat := match o with
  | none => ow
  | some q => va_up ow q (ow q + 1)
def iF (b : Bool) (n : Nat) : Nat := if b = true then n + 1 else n

set_option maxHeartbeats 4000000 in
set_option maxRecDepth 100000 in
theorem c_X0_layOut (lQ : Launch) (D : va_G) (kA : Nat → ClassId) (qc : Nat → Nat) (cn : Nat) (sd : Nat → Nat) (bt : Nat → Nat) (fi : Nat → Option Nat) (se : Nat → Option Nat) (tl : Nat → Nat) (ax : Nat → Nat) (cf : Nat → Bool) (ow : Nat → Nat) (ho : Nat) (ov : Nat) (cs : Nat) (q : Nat → Nat) (cc : Nat) (ac : Nat → Nat) (co : Nat → Nat) (ad : Nat) (rc : Nat) (nm : Nat → Nat) (st : Nat → Nat) (an : Nat → Nat) (sz : Nat) (hcc : cc ≤ 5) (hac : ∀ k, k < cc → 2 ≤ ac k ∧ ac k ≤ 4) : Met lQ yX0_layOut wsX0_layOut (rmN 0 0) (wr_Pc D vwCl [.ref (qc 0)] ((wC kA qc q cn sd bt fi se tl ax cf ow ho ov cs) ++ (wT kA q cc ac co ad rc nm st an)) (tyK kA) sz) (va_Qv (S := (Nat → Nat) × (Nat → Nat)) (fun (u : (Nat → Nat) × (Nat → Nat)) => (∀ k, k < cc → u.1 k = prodF ac k) ∧ (∀ c, c < prodF ac cc → u.2 c = bitC ac c cc)) (wr_B D vwCl ((wC kA qc q cn sd bt fi se tl ax cf ow ho ov cs) ++ (wT kA q cc ac co ad rc nm st an)) (tyK kA) sz (fun u => ((wC kA qc q (prodF ac cc) u.1 u.2 fi se tl ax cf ow ho ov cs) ++ (wT kA q cc ac co ad rc nm st an)))) (va_A ((wC kA qc q cn sd bt fi se tl ax cf ow ho ov cs) ++ (wT kA q cc ac co ad rc nm st an)) sz)) 0 0 (va_A ((wC kA qc q cn sd bt fi se tl ax cf ow ho ov cs) ++ (wT kA q cc ac co ad rc nm st an)) sz) := by
  refine Met.ofW (cc := cX0_layOut) (maxL := 5) (ret := none) (by decide) rfl ?_
  intro pQ eQ s mQ args below meth cQ s₁ B hml hv
  obtain ⟨rfl, hsz, hP, hK, hD0⟩ := hv
  have hx := B.exec
  have hb := B.bytes
  have hr := B.returns
  have hts := atoms_spec (ws := wsX0_layOut) B.pre
  have hown : s.vm.findClass RX0 = some mQ.cls := findClass_of_methodNamed B.named
  have hlocks : meth.locks = false := B.notSynchronized
  have hS0 : CallFix pQ mQ cQ cX0_layOut 5 s ([.ref (qc 0)] : List Value).toArray wsX0_layOut RX0 := ⟨hx, hb, hml, hown, hts⟩
  subst hsz
  have hD := hD0.self (sz := s.heap.size)
  generalize hAe : va_A ((wC kA qc q cn sd bt fi se tl ax cf ow ho ov cs) ++ (wT kA q cc ac co ad rc nm st an)) s.heap.size = A at hD ⊢
  have hA : ∀ q : Nat, s.heap.size ≤ q → A q := fun q h => by rw [← hAe]; exact Or.inr h
  have hS : va_S A s.heap s.heap [] := va_S.rf
  have f15 : (Cond.fieldLink RX0 15 "AskedRules$Cases" "bits" "[I").before ([.ref (qc 0)] : List Value).toArray s = true := hts _ (by decide +kernel)
  have hinX0 : ∀ w ∈ wsX00, w ∈ wsX0_layOut := by decide +kernel
  have f54 : (Cond.fieldLink RX0 54 "AskedRules$Cases" "count" "I").before ([.ref (qc 0)] : List Value).toArray s = true := hts _ (by decide +kernel)
  have f37 : (Cond.fieldLink RX0 37 "AskedRules$Cases" "table" "LAskedRules$Table;").before ([.ref (qc 0)] : List Value).toArray s = true := hts _ (by decide +kernel)
  have f64 : (Cond.fieldLink RX0 64 "AskedRules$Table" "conditionCount" "I").before ([.ref (qc 0)] : List Value).toArray s = true := hts _ (by decide +kernel)
  have hinX4 : ∀ w ∈ wsX40, w ∈ wsX0_layOut := by decide +kernel
  have f9 : (Cond.fieldLink RX0 9 "AskedRules$Cases" "stride" "[I").before ([.ref (qc 0)] : List Value).toArray s = true := hts _ (by decide +kernel)
  have f69 : (Cond.fieldLink RX0 69 "AskedRules$Table" "answerCount" "[I").before ([.ref (qc 0)] : List Value).toArray s = true := hts _ (by decide +kernel)
  have hl := lv_entry ([.ref (qc 0)]) (n := 5) (Nat.le_of_ble_eq_true rfl)
  rw [lg_entry_eq]
  generalize (lg_sl ([.ref (qc 0)]) ++ List.replicate (5 - (lg_sl ([.ref (qc 0)])).length) Slot.unset).toArray = ls at hl ⊢
  have hl : lv_has ls 5 [(0, .ref (qc 0))] := hl
  have hP : va_P D vwCl ((wC kA qc q cn sd bt fi se tl ax cf ow ho ov cs) ++ (wT kA q cc ac co ad rc nm st an)) s.heap := hP
  have hD : va_D A ((wC kA qc q cn sd bt fi se tl ax cf ow ho ov cs) ++ (wT kA q cc ac co ad rc nm st an)) := hD
  refine lv_aload_n hx hb dX0_layOut_0 rfl (lv_at hl 0 rfl) ?_
  refine n_get (ci := 0) (v := .ref (qc 2)) (C := RX0) (T := TX0) (N := 13) hx hb hts hinX0 hown hK hP 0 rfl rfl 3 rfl ⟨rfl, rfl, rfl⟩ f15 rfl dX0_layOut_1 ?_
  refine lv_iconst (v := (nI 0)) hx hb dX0_layOut_4 (by decide) ?_
  refine lv_iconst (v := (nI 0)) hx hb dX0_layOut_5 (by decide) ?_
  refine n_iast (i := 0) (x := (nI 0)) (g := aN (va_up bt 0 0)) (ws' := ((wC kA qc q cn sd (va_up bt 0 0) fi se tl ax cf ow ho ov cs) ++ (wT kA q cc ac co ad rc nm st an))) hx hb hK hP hD hS 2 0 rfl rfl (by omega) (Nat.le_of_ble_eq_true rfl) (aN_up _ _ _) rfl dX0_layOut_6 (fun H locs hP hD hS => ?_)
  refine lv_aload_n hx hb dX0_layOut_7 rfl (lv_at hl 0 rfl) ?_
  refine lv_iconst (v := (nI 1)) hx hb dX0_layOut_8 (by decide) ?_
  refine n_put (ci := 0) (v := .int (nI 1)) (C := RX0) (T := TX0) (N := 13) (ws' := ((wC kA qc q 1 sd (va_up bt 0 0) fi se tl ax cf ow ho ov cs) ++ (wT kA q cc ac co ad rc nm st an))) hx hb hts hinX0 tyX0 tyX0_ok nmX0 hown hK hP hD hS 0 rfl rfl 1 rfl ⟨rfl, rfl, rfl, rfl⟩ f54 rfl rfl rfl rfl dX0_layOut_9 (fun H locs hP hD hS => ?_)
  refine lv_iconst (v := (nI 0)) hx hb dX0_layOut_12 (by decide) ?_
  refine lv_istore_n (lv' := [(1, .int (nI 0)), (0, .ref (qc 0))]) hx hb dX0_layOut_13 rfl hl (by decide) rfl (fun ls hl => ?_)
  have L14 : ∀ (nQ : Nat) (k : Nat) (cn1 : Nat) (sdx : Nat → Nat) (btx : Nat → Nat), cc - k < nQ → (k ≤ cc) → (cn1 = prodF ac k) → (∀ j, j < k → sdx j = prodF ac j) → (∀ c, c < prodF ac k → btx c = bitC ac c k) → ∀ (H : Heap) (locs : List Loc), va_P D vwCl ((wC kA qc q cn1 sdx btx fi se tl ax cf ow ho ov cs) ++ (wT kA q cc ac co ad rc nm st an)) H → va_D A ((wC kA qc q cn1 sdx btx fi se tl ax cf ow ho ov cs) ++ (wT kA q cc ac co ad rc nm st an)) → va_S A s.heap H locs → ∀ (ls : Array Slot), lv_has ls 5 [(1, .int (nI k)), (0, .ref (qc 0))] → W pQ lQ eQ (headSpec wsX0_layOut (rmN 0 0)).room s mQ ([.ref (qc 0)] : List Value).toArray below meth cQ H locs 0 0 (MQ below (va_Qv (S := (Nat → Nat) × (Nat → Nat)) (fun (u : (Nat → Nat) × (Nat → Nat)) => (∀ k, k < cc → u.1 k = prodF ac k) ∧ (∀ c, c < prodF ac cc → u.2 c = bitC ac c cc)) (wr_B D vwCl ((wC kA qc q cn sd bt fi se tl ax cf ow ho ov cs) ++ (wT kA q cc ac co ad rc nm st an)) (tyK kA) s.heap.size (fun u => ((wC kA qc q (prodF ac cc) u.1 u.2 fi se tl ax cf ow ho ov cs) ++ (wT kA q cc ac co ad rc nm st an)))) A) ([.ref (qc 0)] : List Value).toArray s 0 0 A) (F0 mQ 14 ls []) := by
    intro nQ
    induction nQ with
    | zero => intro k cn1 sdx btx hn; exact absurd hn (Nat.not_lt_zero _)
    | succ nQ ih14 =>
      intro k cn1 sdx btx hm14 hk hcn hsd hbt H locs hP hD hS ls hl
      refine lv_iload_n hx hb dX0_layOut_14 rfl (lv_at hl 0 rfl) ?_
      refine lv_aload_n hx hb dX0_layOut_15 rfl (lv_at hl 1 rfl) ?_
      refine n_get (ci := 0) (v := .ref (q 0)) (C := RX0) (T := TX0) (N := 13) hx hb hts hinX0 hown hK hP 0 rfl rfl 0 rfl ⟨rfl, rfl, rfl⟩ f37 rfl dX0_layOut_16 ?_
      refine n_get (ci := 4) (v := .int (nI cc)) (C := RX4) (T := TX4) (N := 8) hx hb hts hinX4 hown hK hP 9 rfl rfl 0 rfl ⟨rfl, rfl, rfl⟩ f64 rfl dX0_layOut_19 ?_
      refine n_icmp_ge (a := k) (b := cc) (tgt := 130) hx hb (by omega) (by omega) dX0_layOut_22 (by decide) (fun c22 => ?_) (fun c22 => ?_)
      · have e9 : cc = k := by omega
        subst e9
        subst hcn
        have hP : va_P D vwCl ((wC kA qc q (prodF ac cc) sdx btx fi se tl ax cf ow ho ov cs) ++ (wT kA q cc ac co ad rc nm st an)) H := hP
        have hD : va_D A ((wC kA qc q (prodF ac cc) sdx btx fi se tl ax cf ow ho ov cs) ++ (wT kA q cc ac co ad rc nm st an)) := hD
        exact n_wretv hx hb hr hlocks (post := fun (u : (Nat → Nat) × (Nat → Nat)) => (∀ k, k < cc → u.1 k = prodF ac k) ∧ (∀ c, c < prodF ac cc → u.2 c = bitC ac c cc)) (w1 := fun u => ((wC kA qc q (prodF ac cc) u.1 u.2 fi se tl ax cf ow ho ov cs) ++ (wT kA q cc ac co ad rc nm st an))) (sdx, btx) ⟨hsd, hbt⟩ hP hD hK hS hAe dX0_layOut_130
      · have hak := hac k c22
        have hcn2 : cn1 ≤ 256 := by rw [hcn]; exact Nat.le_trans (prodF_le (fun j hj => hac j (by omega))) (Nat.le_trans (pow4_le (show k ≤ 4 by omega)) (by decide))
        refine lv_aload_n hx hb dX0_layOut_25 rfl (lv_at hl 1 rfl) ?_
        refine n_get (ci := 0) (v := .ref (qc 1)) (C := RX0) (T := TX0) (N := 13) hx hb hts hinX0 hown hK hP 0 rfl rfl 2 rfl ⟨rfl, rfl, rfl⟩ f9 rfl dX0_layOut_26 ?_
        refine lv_iload_n hx hb dX0_layOut_29 rfl (lv_at hl 0 rfl) ?_
        refine lv_aload_n hx hb dX0_layOut_30 rfl (lv_at hl 1 rfl) ?_
        refine n_get (ci := 0) (v := .int (nI cn1)) (C := RX0) (T := TX0) (N := 13) hx hb hts hinX0 hown hK hP 0 rfl rfl 1 rfl ⟨rfl, rfl, rfl⟩ f54 rfl dX0_layOut_31 ?_
        refine n_iast (i := k) (x := (nI cn1)) (g := aN (va_up sdx k cn1)) (ws' := ((wC kA qc q cn1 (va_up sdx k cn1) btx fi se tl ax cf ow ho ov cs) ++ (wT kA q cc ac co ad rc nm st an))) hx hb hK hP hD hS 1 0 rfl rfl (by omega) (Nat.le_of_ble_eq_true rfl) (aN_up _ _ _) rfl dX0_layOut_34 (fun H locs hP hD hS => ?_)
        refine lv_aload_n hx hb dX0_layOut_35 rfl (lv_at hl 1 rfl) ?_
        refine n_get (ci := 0) (v := .ref (q 0)) (C := RX0) (T := TX0) (N := 13) hx hb hts hinX0 hown hK hP 0 rfl rfl 0 rfl ⟨rfl, rfl, rfl⟩ f37 rfl dX0_layOut_36 ?_
        refine n_get (ci := 4) (v := .ref (q 1)) (C := RX4) (T := TX4) (N := 8) hx hb hts hinX4 hown hK hP 9 rfl rfl 1 rfl ⟨rfl, rfl, rfl⟩ f69 rfl dX0_layOut_39 ?_
        refine lv_iload_n hx hb dX0_layOut_42 rfl (lv_at hl 0 rfl) ?_
        refine n_iald (i := k) (v := (nI (ac k))) hx hb hK hP 10 0 rfl rfl (by omega) (Nat.le_of_ble_eq_true rfl) rfl dX0_layOut_43 ?_
        refine lv_iconst (v := (nI 1)) hx hb dX0_layOut_44 (by decide) ?_
        refine n_isub (v := (oI (dO (ac k)))) hx hb (oI_dO _) dX0_layOut_45 ?_
        refine lv_istore_n (lv' := [(2, .int (oI (dO (ac k)))), (1, .int (nI k)), (0, .ref (qc 0))]) hx hb dX0_layOut_46 rfl hl (by decide) rfl (fun ls hl => ?_)
        have L47 : ∀ (nQ : Nat) (m9 : Nat) (bty : Nat → Nat), m9 < nQ → (m9 ≤ ac k) → (∀ a, m9 ≤ a → a < ac k → ∀ n, n < cn1 → bty (a * cn1 + n) = bitC ac n k ||| (1 <<< (4 * k + a))) → (0 < m9 → ∀ n, n < cn1 → bty n = bitC ac n k) → ∀ (H : Heap) (locs : List Loc), va_P D vwCl ((wC kA qc q cn1 (va_up sdx k cn1) bty fi se tl ax cf ow ho ov cs) ++ (wT kA q cc ac co ad rc nm st an)) H → va_D A ((wC kA qc q cn1 (va_up sdx k cn1) bty fi se tl ax cf ow ho ov cs) ++ (wT kA q cc ac co ad rc nm st an)) → va_S A s.heap H locs → ∀ (ls : Array Slot), lv_has ls 5 [(2, .int (oI (dO m9))), (1, .int (nI k)), (0, .ref (qc 0))] → W pQ lQ eQ (headSpec wsX0_layOut (rmN 0 0)).room s mQ ([.ref (qc 0)] : List Value).toArray below meth cQ H locs 0 0 (MQ below (va_Qv (S := (Nat → Nat) × (Nat → Nat)) (fun (u : (Nat → Nat) × (Nat → Nat)) => (∀ k, k < cc → u.1 k = prodF ac k) ∧ (∀ c, c < prodF ac cc → u.2 c = bitC ac c cc)) (wr_B D vwCl ((wC kA qc q cn sd bt fi se tl ax cf ow ho ov cs) ++ (wT kA q cc ac co ad rc nm st an)) (tyK kA) s.heap.size (fun u => ((wC kA qc q (prodF ac cc) u.1 u.2 fi se tl ax cf ow ho ov cs) ++ (wT kA q cc ac co ad rc nm st an)))) A) ([.ref (qc 0)] : List Value).toArray s 0 0 A) (F0 mQ 47 ls []) := by
          intro nQ
          induction nQ with
          | zero => intro m9 bty hn; exact absurd hn (Nat.not_lt_zero _)
          | succ nQ ih47 =>
            intro m9 bty hm47 hm hbA hbZ H locs hP hD hS ls hl
            refine lv_iload_n hx hb dX0_layOut_47 rfl (lv_at hl 0 rfl) ?_
            refine n_ifo_lt (o := dO m9) (tgt := 106) hx hb (fun q h => by have := dO_some h; omega) dX0_layOut_48 (by decide) (fun c48 => ?_) (fun q48 c48 => ?_)
            · have hl : lv_has ls 5 [(2, .int (oI none)), (1, .int (nI k)), (0, .ref (qc 0))] := by rw [c48] at hl; exact hl
              refine lv_aload_n hx hb dX0_layOut_106 rfl (lv_at hl 2 rfl) ?_
              refine lv_dup hx hb dX0_layOut_107 rfl ?_
              refine n_get (ci := 0) (v := .int (nI cn1)) (C := RX0) (T := TX0) (N := 13) hx hb hts hinX0 hown hK hP 0 rfl rfl 1 rfl ⟨rfl, rfl, rfl⟩ f54 rfl dX0_layOut_108 ?_
              refine lv_aload_n hx hb dX0_layOut_111 rfl (lv_at hl 2 rfl) ?_
              refine n_get (ci := 0) (v := .ref (q 0)) (C := RX0) (T := TX0) (N := 13) hx hb hts hinX0 hown hK hP 0 rfl rfl 0 rfl ⟨rfl, rfl, rfl⟩ f37 rfl dX0_layOut_112 ?_
              refine n_get (ci := 4) (v := .ref (q 1)) (C := RX4) (T := TX4) (N := 8) hx hb hts hinX4 hown hK hP 9 rfl rfl 1 rfl ⟨rfl, rfl, rfl⟩ f69 rfl dX0_layOut_115 ?_
              refine lv_iload_n hx hb dX0_layOut_118 rfl (lv_at hl 1 rfl) ?_
              refine n_iald (i := k) (v := (nI (ac k))) hx hb hK hP 10 0 rfl rfl (by omega) (Nat.le_of_ble_eq_true rfl) rfl dX0_layOut_119 ?_
              refine n_imul (v := (nI (cn1 * (ac k)))) hx hb (pk_mul _ _) dX0_layOut_120 ?_
              refine n_put (ci := 0) (v := .int (nI (cn1 * (ac k)))) (C := RX0) (T := TX0) (N := 13) (ws' := ((wC kA qc q (cn1 * (ac k)) (va_up sdx k cn1) bty fi se tl ax cf ow ho ov cs) ++ (wT kA q cc ac co ad rc nm st an))) hx hb hts hinX0 tyX0 tyX0_ok nmX0 hown hK hP hD hS 0 rfl rfl 1 rfl ⟨rfl, rfl, rfl, rfl⟩ f54 rfl rfl rfl rfl dX0_layOut_121 (fun H locs hP hD hS => ?_)
              refine lv_iinc (v := (nI (k + 1))) (lv' := [(1, .int (nI (k + 1))), (2, .int (oI none)), (0, .ref (qc 0))]) hx hb dX0_layOut_124 hl (k := 1) rfl (nI_inc _) (by decide) rfl (fun ls hl => ?_)
              refine lv_goto (tgt := 14) hx hb dX0_layOut_127 (by decide) ?_
              have hm0 := dO_none c48
              exact ih14 (k + 1) (cn1 * (ac k)) (va_up sdx k cn1) bty (by omega) (by first | assumption | omega) (by rw [hcn]; rfl) (fun j hj => by by_cases e : j = k; (subst e; rw [up_s, hcn]); rw [up_n _ _ e]; exact hsd j (by omega)) (lay_step (fun i hi => hac i (by omega)) hcn (fun a _ ha n hn => hbA a (by rw [hm0]; exact Nat.zero_le _) ha n hn)) _ _ hP hD hS _ (lv_sub hl [0, 2] rfl)
            · have hl : lv_has ls 5 [(2, .int (nI q48)), (1, .int (nI k)), (0, .ref (qc 0))] := by rw [c48] at hl; exact hl
              have hq9 := dO_some c48
              have hqa : q48 < ac k := by omega
              refine lv_iconst (v := (nI 1)) hx hb dX0_layOut_51 (by decide) ?_
              refine lv_iconst (v := (nI 4)) hx hb dX0_layOut_52 (by decide) ?_
              refine lv_iload_n hx hb dX0_layOut_53 rfl (lv_at hl 1 rfl) ?_
              refine n_imul (v := (nI (4 * k))) hx hb (pk_mul _ _) dX0_layOut_54 ?_
              refine lv_iload_n hx hb dX0_layOut_55 rfl (lv_at hl 0 rfl) ?_
              refine n_iadd (v := (nI ((4 * k) + q48))) hx hb (nI_add _ _) dX0_layOut_56 ?_
              refine n_ishl (v := (nI (1 <<< ((4 * k) + q48)))) hx hb (nN_shl _ (by omega)) dX0_layOut_57 ?_
              refine lv_istore_n (lv' := [(3, .int (nI (1 <<< ((4 * k) + q48)))), (2, .int (nI q48)), (1, .int (nI k)), (0, .ref (qc 0))]) hx hb dX0_layOut_58 rfl hl (by decide) rfl (fun ls hl => ?_)
              refine lv_iconst (v := (nI 0)) hx hb dX0_layOut_59 (by decide) ?_
              refine lv_istore (lv' := [(4, .int (nI 0)), (3, .int (nI (1 <<< ((4 * k) + q48)))), (2, .int (nI q48)), (1, .int (nI k)), (0, .ref (qc 0))]) hx hb dX0_layOut_60 hl (by decide) rfl (fun ls hl => ?_)
              have L62 : ∀ (nQ : Nat) (i9 : Nat) (btz : Nat → Nat), cn1 - i9 < nQ → (i9 ≤ cn1) → (∀ n, n < i9 → btz (q48 * cn1 + n) = bitC ac n k ||| (1 <<< (4 * k + q48))) → (∀ n, i9 ≤ n → n < cn1 → btz n = bitC ac n k) → (∀ a, q48 < a → a < ac k → ∀ n, n < cn1 → btz (a * cn1 + n) = bitC ac n k ||| (1 <<< (4 * k + a))) → (0 < q48 → ∀ n, n < cn1 → btz n = bitC ac n k) → ∀ (H : Heap) (locs : List Loc), va_P D vwCl ((wC kA qc q cn1 (va_up sdx k cn1) btz fi se tl ax cf ow ho ov cs) ++ (wT kA q cc ac co ad rc nm st an)) H → va_D A ((wC kA qc q cn1 (va_up sdx k cn1) btz fi se tl ax cf ow ho ov cs) ++ (wT kA q cc ac co ad rc nm st an)) → va_S A s.heap H locs → ∀ (ls : Array Slot), lv_has ls 5 [(4, .int (nI i9)), (3, .int (nI (1 <<< ((4 * k) + q48)))), (2, .int (nI q48)), (1, .int (nI k)), (0, .ref (qc 0))] → W pQ lQ eQ (headSpec wsX0_layOut (rmN 0 0)).room s mQ ([.ref (qc 0)] : List Value).toArray below meth cQ H locs 0 0 (MQ below (va_Qv (S := (Nat → Nat) × (Nat → Nat)) (fun (u : (Nat → Nat) × (Nat → Nat)) => (∀ k, k < cc → u.1 k = prodF ac k) ∧ (∀ c, c < prodF ac cc → u.2 c = bitC ac c cc)) (wr_B D vwCl ((wC kA qc q cn sd bt fi se tl ax cf ow ho ov cs) ++ (wT kA q cc ac co ad rc nm st an)) (tyK kA) s.heap.size (fun u => ((wC kA qc q (prodF ac cc) u.1 u.2 fi se tl ax cf ow ho ov cs) ++ (wT kA q cc ac co ad rc nm st an)))) A) ([.ref (qc 0)] : List Value).toArray s 0 0 A) (F0 mQ 62 ls []) := by
                intro nQ
                induction nQ with
                | zero => intro i9 btz hn; exact absurd hn (Nat.not_lt_zero _)
                | succ nQ ih62 =>
                  intro i9 btz hm62 hi hx9 hy9 hz9 hw9 H locs hP hD hS ls hl
                  refine lv_iload hx hb dX0_layOut_62 (lv_at hl 0 rfl) ?_
                  refine lv_aload_n hx hb dX0_layOut_64 rfl (lv_at hl 4 rfl) ?_
                  refine n_get (ci := 0) (v := .int (nI cn1)) (C := RX0) (T := TX0) (N := 13) hx hb hts hinX0 hown hK hP 0 rfl rfl 1 rfl ⟨rfl, rfl, rfl⟩ f54 rfl dX0_layOut_65 ?_
                  refine n_icmp_ge (a := i9) (b := cn1) (tgt := 100) hx hb (by omega) (by omega) dX0_layOut_68 (by decide) (fun c68 => ?_) (fun c68 => ?_)
                  · refine lv_iinc (v := (oI (dO q48))) (lv' := [(2, .int (oI (dO q48))), (4, .int (nI i9)), (3, .int (nI (1 <<< ((4 * k) + q48)))), (1, .int (nI k)), (0, .ref (qc 0))]) hx hb dX0_layOut_100 hl (k := 2) rfl (nI_dec _) (by decide) rfl (fun ls hl => ?_)
                    refine lv_goto (tgt := 47) hx hb dX0_layOut_103 (by decide) ?_
                    have hi9 : i9 = cn1 := by omega
                    subst hi9
                    exact ih47 q48 btz (by omega) (by first | assumption | omega) (fun a h1 h2 n hn => by by_cases e : a = q48; (subst e; exact hx9 n hn); exact hz9 a (by omega) h2 n hn) (fun h n hn => hw9 h n hn) _ _ hP hD hS _ (lv_sub hl [0, 3, 4] rfl)
                  · refine lv_aload_n hx hb dX0_layOut_71 rfl (lv_at hl 4 rfl) ?_
                    refine n_get (ci := 0) (v := .ref (qc 2)) (C := RX0) (T := TX0) (N := 13) hx hb hts hinX0 hown hK hP 0 rfl rfl 3 rfl ⟨rfl, rfl, rfl⟩ f15 rfl dX0_layOut_72 ?_
                    refine lv_iload_n hx hb dX0_layOut_75 rfl (lv_at hl 2 rfl) ?_
                    refine lv_aload_n hx hb dX0_layOut_76 rfl (lv_at hl 4 rfl) ?_
                    refine n_get (ci := 0) (v := .int (nI cn1)) (C := RX0) (T := TX0) (N := 13) hx hb hts hinX0 hown hK hP 0 rfl rfl 1 rfl ⟨rfl, rfl, rfl⟩ f54 rfl dX0_layOut_77 ?_
                    refine n_imul (v := (nI (q48 * cn1))) hx hb (pk_mul _ _) dX0_layOut_80 ?_
                    refine lv_iload hx hb dX0_layOut_81 (lv_at hl 0 rfl) ?_
                    refine n_iadd (v := (nI ((q48 * cn1) + i9))) hx hb (nI_add _ _) dX0_layOut_83 ?_
                    refine lv_aload_n hx hb dX0_layOut_84 rfl (lv_at hl 4 rfl) ?_
                    refine n_get (ci := 0) (v := .ref (qc 2)) (C := RX0) (T := TX0) (N := 13) hx hb hts hinX0 hown hK hP 0 rfl rfl 3 rfl ⟨rfl, rfl, rfl⟩ f15 rfl dX0_layOut_85 ?_
                    refine lv_iload hx hb dX0_layOut_88 (lv_at hl 0 rfl) ?_
                    refine n_iald (i := i9) (v := (nI (btz i9))) hx hb hK hP 2 0 rfl rfl (by omega) (Nat.le_of_ble_eq_true rfl) rfl dX0_layOut_90 ?_
                    refine lv_iload_n hx hb dX0_layOut_91 rfl (lv_at hl 1 rfl) ?_
                    refine n_ior (v := (nI ((btz i9) ||| (1 <<< ((4 * k) + q48))))) hx hb (nN_or _ _) dX0_layOut_92 ?_
                    refine n_iast (i := (q48 * cn1) + i9) (x := (nI ((btz i9) ||| (1 <<< ((4 * k) + q48))))) (g := aN (va_up btz ((q48 * cn1) + i9) ((btz i9) ||| (1 <<< ((4 * k) + q48))))) (ws' := ((wC kA qc q cn1 (va_up sdx k cn1) (va_up btz ((q48 * cn1) + i9) ((btz i9) ||| (1 <<< ((4 * k) + q48)))) fi se tl ax cf ow ho ov cs) ++ (wT kA q cc ac co ad rc nm st an))) hx hb hK hP hD hS 2 0 rfl rfl (lay_idx hcc hac c22 hcn hqa c68) (Nat.le_of_ble_eq_true rfl) (aN_up _ _ _) rfl dX0_layOut_93 (fun H locs hP hD hS => ?_)
                    refine lv_iinc (v := (nI (i9 + 1))) (lv' := [(4, .int (nI (i9 + 1))), (3, .int (nI (1 <<< ((4 * k) + q48)))), (2, .int (nI q48)), (1, .int (nI k)), (0, .ref (qc 0))]) hx hb dX0_layOut_94 hl (k := 0) rfl (nI_inc _) (by decide) rfl (fun ls hl => ?_)
                    refine lv_goto (tgt := 62) hx hb dX0_layOut_97 (by decide) ?_
                    exact ih62 (i9 + 1) (va_up btz ((q48 * cn1) + i9) ((btz i9) ||| (1 <<< ((4 * k) + q48)))) (by omega) (by first | assumption | omega) (fun n hn => by by_cases e : n = i9; (subst e; rw [up_s, hy9 n (Nat.le_refl _) c68]); rw [up_n _ _ (by omega)]; exact hx9 n (by omega)) (fun n h1 h2 => by rw [up_n _ _ (by by_cases e : q48 = 0; (subst e; omega); exact lay_ne0 (by omega) h2)]; exact hy9 n (by omega) h2) (fun a h1 h2 n hn => by rw [up_n _ _ (lay_ne h1 hn c68)]; exact hz9 a h1 h2 n hn) (fun h n hn => by rw [up_n _ _ (lay_ne0 h hn)]; exact hw9 h n hn) _ _ hP hD hS _ (lv_sub hl [0, 1, 2, 3, 4] rfl)
              exact L62 ((cn1 - 0) + 1) 0 bty (Nat.lt_succ_self _) (by first | assumption | omega) (fun j hj => absurd hj (Nat.not_lt_zero _)) (fun n _ hn => hbZ (by omega) n hn) (fun a h1 h2 n hn => hbA a (by omega) h2 n hn) (fun _ n hn => hbZ (by omega) n hn) _ _ hP hD hS _ (lv_sub hl [0, 1, 2, 3, 4] rfl)
        exact L47 (((ac k)) + 1) (ac k) btx (Nat.lt_succ_self _) (Nat.le_refl _) (fun a h1 h2 => absurd h2 (by omega)) (fun _ n hn => hbt n (by rw [← hcn]; exact hn)) _ _ hP hD hS _ (lv_sub hl [0, 1, 2] rfl)
  exact L14 ((cc - 0) + 1) 0 1 sd (va_up bt 0 0) (Nat.lt_succ_self _) (by first | assumption | omega) rfl (fun j hj => absurd hj (Nat.not_lt_zero _)) (fun c hc => by have h9 : c = 0 := Nat.lt_one_iff.mp hc; rw [h9]; exact up_s _ _ _) _ _ hP hD hS _ (lv_sub hl [0, 1] rfl)

set_option maxHeartbeats 4000000 in
set_option maxRecDepth 100000 in
theorem c_X0_judge (lQ : Launch) (D : va_G) (kA : Nat → ClassId) (qc : Nat → Nat) (cn : Nat) (sd : Nat → Nat) (bt : Nat → Nat) (fi : Nat → Option Nat) (se : Nat → Option Nat) (tl : Nat → Nat) (ax : Nat → Nat) (cf : Nat → Bool) (ow : Nat → Nat) (ho : Nat) (ov : Nat) (cs : Nat) (q : Nat → Nat) (cc : Nat) (ac : Nat → Nat) (co : Nat → Nat) (ad : Nat) (rc : Nat) (nm : Nat → Nat) (st : Nat → Nat) (an : Nat → Nat) (c : Nat) (sz : Nat) (hrc : rc ≤ 20) (han : ∀ j, j < rc → an j < 11) (hst : ∀ j, j < rc → st j < 1048576) (hc : c < 1024) (hbc : bt c < 1048576) : Met lQ yX0_judge wsX0_judge (rmN 0 0) (wr_Pc D vwCl [.ref (qc 0), .int (nI c)] ((wC kA qc q cn sd bt fi se tl ax cf ow ho ov cs) ++ (wT kA q cc ac co ad rc nm st an)) (tyK kA) sz) (va_Qv (S := Unit) (fun (u : Unit) => True) (wr_B D vwCl ((wC kA qc q cn sd bt fi se tl ax cf ow ho ov cs) ++ (wT kA q cc ac co ad rc nm st an)) (tyK kA) sz (fun u => ((wC kA qc q cn sd bt (va_up fi c (firstF (tlW st (bt c)) rc)) (va_up se c (secF (tlW st (bt c)) rc)) (va_up tl c (cntB (tlW st (bt c)) rc)) (va_up ax c (actO an (firstF (tlW st (bt c)) rc))) (va_up cf c (cfB (tlW st (bt c)) an rc)) ow ho ov cs) ++ (wT kA q cc ac co ad rc nm st an)))) (va_A ((wC kA qc q cn sd bt fi se tl ax cf ow ho ov cs) ++ (wT kA q cc ac co ad rc nm st an)) sz)) 0 0 (va_A ((wC kA qc q cn sd bt fi se tl ax cf ow ho ov cs) ++ (wT kA q cc ac co ad rc nm st an)) sz) := by
  refine Met.ofW (cc := cX0_judge) (maxL := 5) (ret := none) (by decide) rfl ?_
  intro pQ eQ s mQ args below meth cQ s₁ B hml hv
  obtain ⟨rfl, hsz, hP, hK, hD0⟩ := hv
  have hx := B.exec
  have hb := B.bytes
  have hr := B.returns
  have hts := atoms_spec (ws := wsX0_judge) B.pre
  have hown : s.vm.findClass RX0 = some mQ.cls := findClass_of_methodNamed B.named
  have hlocks : meth.locks = false := B.notSynchronized
  have hS0 : CallFix pQ mQ cQ cX0_judge 5 s ([.ref (qc 0), .int (nI c)] : List Value).toArray wsX0_judge RX0 := ⟨hx, hb, hml, hown, hts⟩
  subst hsz
  have hD := hD0.self (sz := s.heap.size)
  generalize hAe : va_A ((wC kA qc q cn sd bt fi se tl ax cf ow ho ov cs) ++ (wT kA q cc ac co ad rc nm st an)) s.heap.size = A at hD ⊢
  have hA : ∀ q : Nat, s.heap.size ≤ q → A q := fun q h => by rw [← hAe]; exact Or.inr h
  have hS : va_S A s.heap s.heap [] := va_S.rf
  have f15 : (Cond.fieldLink RX0 15 "AskedRules$Cases" "bits" "[I").before ([.ref (qc 0), .int (nI c)] : List Value).toArray s = true := hts _ (by decide +kernel)
  have hinX0 : ∀ w ∈ wsX00, w ∈ wsX0_judge := by decide +kernel
  have f18 : (Cond.fieldLink RX0 18 "AskedRules$Cases" "first" "[I").before ([.ref (qc 0), .int (nI c)] : List Value).toArray s = true := hts _ (by decide +kernel)
  have f21 : (Cond.fieldLink RX0 21 "AskedRules$Cases" "second" "[I").before ([.ref (qc 0), .int (nI c)] : List Value).toArray s = true := hts _ (by decide +kernel)
  have f27 : (Cond.fieldLink RX0 27 "AskedRules$Cases" "action" "[I").before ([.ref (qc 0), .int (nI c)] : List Value).toArray s = true := hts _ (by decide +kernel)
  have f30 : (Cond.fieldLink RX0 30 "AskedRules$Cases" "conflict" "[Z").before ([.ref (qc 0), .int (nI c)] : List Value).toArray s = true := hts _ (by decide +kernel)
  have f37 : (Cond.fieldLink RX0 37 "AskedRules$Cases" "table" "LAskedRules$Table;").before ([.ref (qc 0), .int (nI c)] : List Value).toArray s = true := hts _ (by decide +kernel)
  have f72 : (Cond.fieldLink RX0 72 "AskedRules$Table" "rowCount" "I").before ([.ref (qc 0), .int (nI c)] : List Value).toArray s = true := hts _ (by decide +kernel)
  have hinX4 : ∀ w ∈ wsX40, w ∈ wsX0_judge := by decide +kernel
  have f24 : (Cond.fieldLink RX0 24 "AskedRules$Cases" "told" "[I").before ([.ref (qc 0), .int (nI c)] : List Value).toArray s = true := hts _ (by decide +kernel)
  have f75 : (Cond.fieldLink RX0 75 "AskedRules$Table" "sets" "[I").before ([.ref (qc 0), .int (nI c)] : List Value).toArray s = true := hts _ (by decide +kernel)
  have f78 : (Cond.fieldLink RX0 78 "AskedRules$Table" "action" "[I").before ([.ref (qc 0), .int (nI c)] : List Value).toArray s = true := hts _ (by decide +kernel)
  have hl := lv_entry ([.ref (qc 0), .int (nI c)]) (n := 5) (Nat.le_of_ble_eq_true rfl)
  rw [lg_entry_eq]
  generalize (lg_sl ([.ref (qc 0), .int (nI c)]) ++ List.replicate (5 - (lg_sl ([.ref (qc 0), .int (nI c)])).length) Slot.unset).toArray = ls at hl ⊢
  have hl : lv_has ls 5 [(0, .ref (qc 0)), (1, .int (nI c))] := hl
  have hP : va_P D vwCl ((wC kA qc q cn sd bt fi se tl ax cf ow ho ov cs) ++ (wT kA q cc ac co ad rc nm st an)) s.heap := hP
  have hD : va_D A ((wC kA qc q cn sd bt fi se tl ax cf ow ho ov cs) ++ (wT kA q cc ac co ad rc nm st an)) := hD
  refine lv_aload_n hx hb dX0_judge_0 rfl (lv_at hl 0 rfl) ?_
  refine n_get (ci := 0) (v := .ref (qc 2)) (C := RX0) (T := TX0) (N := 13) hx hb hts hinX0 hown hK hP 0 rfl rfl 3 rfl ⟨rfl, rfl, rfl⟩ f15 rfl dX0_judge_1 ?_
  refine lv_iload_n hx hb dX0_judge_4 rfl (lv_at hl 1 rfl) ?_
  refine n_iald (i := c) (v := (nI (bt c))) hx hb hK hP 2 0 rfl rfl (by omega) (Nat.le_of_ble_eq_true rfl) rfl dX0_judge_5 ?_
  refine lv_istore_n (lv' := [(2, .int (nI (bt c))), (0, .ref (qc 0)), (1, .int (nI c))]) hx hb dX0_judge_6 rfl hl (by decide) rfl (fun ls hl => ?_)
  refine lv_iconst (v := (nI 0)) hx hb dX0_judge_7 (by decide) ?_
  refine lv_istore_n (lv' := [(3, .int (nI 0)), (2, .int (nI (bt c))), (0, .ref (qc 0)), (1, .int (nI c))]) hx hb dX0_judge_8 rfl hl (by decide) rfl (fun ls hl => ?_)
  refine lv_aload_n hx hb dX0_judge_9 rfl (lv_at hl 2 rfl) ?_
  refine n_get (ci := 0) (v := .ref (qc 3)) (C := RX0) (T := TX0) (N := 13) hx hb hts hinX0 hown hK hP 0 rfl rfl 4 rfl ⟨rfl, rfl, rfl⟩ f18 rfl dX0_judge_10 ?_
  refine lv_iload_n hx hb dX0_judge_13 rfl (lv_at hl 3 rfl) ?_
  refine lv_iconst (v := (oI none)) hx hb dX0_judge_14 (by decide) ?_
  refine n_iast (i := c) (x := (oI none)) (g := aO (va_up fi c none)) (ws' := ((wC kA qc q cn sd bt (va_up fi c none) se tl ax cf ow ho ov cs) ++ (wT kA q cc ac co ad rc nm st an))) hx hb hK hP hD hS 3 0 rfl rfl (by omega) (Nat.le_of_ble_eq_true rfl) (aO_up _ _ _) rfl dX0_judge_15 (fun H locs hP hD hS => ?_)
  refine lv_aload_n hx hb dX0_judge_16 rfl (lv_at hl 2 rfl) ?_
  refine n_get (ci := 0) (v := .ref (qc 4)) (C := RX0) (T := TX0) (N := 13) hx hb hts hinX0 hown hK hP 0 rfl rfl 5 rfl ⟨rfl, rfl, rfl⟩ f21 rfl dX0_judge_17 ?_
  refine lv_iload_n hx hb dX0_judge_20 rfl (lv_at hl 3 rfl) ?_
  refine lv_iconst (v := (oI none)) hx hb dX0_judge_21 (by decide) ?_
  refine n_iast (i := c) (x := (oI none)) (g := aO (va_up se c none)) (ws' := ((wC kA qc q cn sd bt (va_up fi c none) (va_up se c none) tl ax cf ow ho ov cs) ++ (wT kA q cc ac co ad rc nm st an))) hx hb hK hP hD hS 4 0 rfl rfl (by omega) (Nat.le_of_ble_eq_true rfl) (aO_up _ _ _) rfl dX0_judge_22 (fun H locs hP hD hS => ?_)
  refine lv_aload_n hx hb dX0_judge_23 rfl (lv_at hl 2 rfl) ?_
  refine n_get (ci := 0) (v := .ref (qc 6)) (C := RX0) (T := TX0) (N := 13) hx hb hts hinX0 hown hK hP 0 rfl rfl 7 rfl ⟨rfl, rfl, rfl⟩ f27 rfl dX0_judge_24 ?_
  refine lv_iload_n hx hb dX0_judge_27 rfl (lv_at hl 3 rfl) ?_
  refine lv_bipush (v := (nI 10)) hx hb dX0_judge_28 (by decide) ?_
  refine n_iast (i := c) (x := (nI 10)) (g := aN (va_up ax c 10)) (ws' := ((wC kA qc q cn sd bt (va_up fi c none) (va_up se c none) tl (va_up ax c 10) cf ow ho ov cs) ++ (wT kA q cc ac co ad rc nm st an))) hx hb hK hP hD hS 6 0 rfl rfl (by omega) (Nat.le_of_ble_eq_true rfl) (aN_up _ _ _) rfl dX0_judge_30 (fun H locs hP hD hS => ?_)
  refine lv_aload_n hx hb dX0_judge_31 rfl (lv_at hl 2 rfl) ?_
  refine n_get (ci := 0) (v := .ref (qc 7)) (C := RX0) (T := TX0) (N := 13) hx hb hts hinX0 hown hK hP 0 rfl rfl 8 rfl ⟨rfl, rfl, rfl⟩ f30 rfl dX0_judge_32 ?_
  refine lv_iload_n hx hb dX0_judge_35 rfl (lv_at hl 3 rfl) ?_
  refine lv_iconst (v := (nI 0)) hx hb dX0_judge_36 (by decide) ?_
  refine n_zast (i := c) (x := (bI false)) (g := aB (va_up cf c false)) (ws' := ((wC kA qc q cn sd bt (va_up fi c none) (va_up se c none) tl (va_up ax c 10) (va_up cf c false) ow ho ov cs) ++ (wT kA q cc ac co ad rc nm st an))) hx hb hK hP hD hS 7 2 rfl rfl (by omega) (Nat.le_of_ble_eq_true rfl) ((aB_upz _ _ _)) rfl dX0_judge_37 (fun H locs hP hD hS => ?_)
  refine lv_iconst (v := (nI 0)) hx hb dX0_judge_38 (by decide) ?_
  refine lv_istore (lv' := [(4, .int (nI 0)), (3, .int (nI 0)), (2, .int (nI (bt c))), (0, .ref (qc 0)), (1, .int (nI c))]) hx hb dX0_judge_39 hl (by decide) rfl (fun ls hl => ?_)
  have L41 : ∀ (nQ : Nat) (p : Nat) (u : Nat) (fi1 : Nat → Option Nat) (se1 : Nat → Option Nat) (ax1 : Nat → Nat) (cf1 : Nat → Bool), rc - p < nQ → (p ≤ rc) → (u ≤ p) → (ax1 c < 11) → (jInv (tlW st (bt c)) an c fi se ax cf p u fi1 se1 ax1 cf1) → ∀ (H : Heap) (locs : List Loc), va_P D vwCl ((wC kA qc q cn sd bt fi1 se1 tl ax1 cf1 ow ho ov cs) ++ (wT kA q cc ac co ad rc nm st an)) H → va_D A ((wC kA qc q cn sd bt fi1 se1 tl ax1 cf1 ow ho ov cs) ++ (wT kA q cc ac co ad rc nm st an)) → va_S A s.heap H locs → ∀ (ls : Array Slot), lv_has ls 5 [(4, .int (nI p)), (3, .int (nI u)), (2, .int (nI (bt c))), (0, .ref (qc 0)), (1, .int (nI c))] → W pQ lQ eQ (headSpec wsX0_judge (rmN 0 0)).room s mQ ([.ref (qc 0), .int (nI c)] : List Value).toArray below meth cQ H locs 0 0 (MQ below (va_Qv (S := Unit) (fun (u : Unit) => True) (wr_B D vwCl ((wC kA qc q cn sd bt fi se tl ax cf ow ho ov cs) ++ (wT kA q cc ac co ad rc nm st an)) (tyK kA) s.heap.size (fun u => ((wC kA qc q cn sd bt (va_up fi c (firstF (tlW st (bt c)) rc)) (va_up se c (secF (tlW st (bt c)) rc)) (va_up tl c (cntB (tlW st (bt c)) rc)) (va_up ax c (actO an (firstF (tlW st (bt c)) rc))) (va_up cf c (cfB (tlW st (bt c)) an rc)) ow ho ov cs) ++ (wT kA q cc ac co ad rc nm st an)))) A) ([.ref (qc 0), .int (nI c)] : List Value).toArray s 0 0 A) (F0 mQ 41 ls []) := by
    intro nQ
    induction nQ with
    | zero => intro p u fi1 se1 ax1 cf1 hn; exact absurd hn (Nat.not_lt_zero _)
    | succ nQ ih41 =>
      intro p u fi1 se1 ax1 cf1 hm41 hp hu hax hj H locs hP hD hS ls hl
      refine lv_iload hx hb dX0_judge_41 (lv_at hl 0 rfl) ?_
      refine lv_aload_n hx hb dX0_judge_43 rfl (lv_at hl 3 rfl) ?_
      refine n_get (ci := 0) (v := .ref (q 0)) (C := RX0) (T := TX0) (N := 13) hx hb hts hinX0 hown hK hP 0 rfl rfl 0 rfl ⟨rfl, rfl, rfl⟩ f37 rfl dX0_judge_44 ?_
      refine n_get (ci := 4) (v := .int (nI rc)) (C := RX4) (T := TX4) (N := 8) hx hb hts hinX4 hown hK hP 9 rfl rfl 4 rfl ⟨rfl, rfl, rfl⟩ f72 rfl dX0_judge_47 ?_
      refine n_icmp_ge (a := p) (b := rc) (tgt := 151) hx hb (by omega) (by omega) dX0_judge_50 (by decide) (fun c50 => ?_) (fun c50 => ?_)
      · refine lv_aload_n hx hb dX0_judge_151 rfl (lv_at hl 3 rfl) ?_
        refine n_get (ci := 0) (v := .ref (qc 5)) (C := RX0) (T := TX0) (N := 13) hx hb hts hinX0 hown hK hP 0 rfl rfl 6 rfl ⟨rfl, rfl, rfl⟩ f24 rfl dX0_judge_152 ?_
        refine lv_iload_n hx hb dX0_judge_155 rfl (lv_at hl 4 rfl) ?_
        refine lv_iload_n hx hb dX0_judge_156 rfl (lv_at hl 1 rfl) ?_
        refine n_iast (i := c) (x := (nI u)) (g := aN (va_up tl c u)) (ws' := ((wC kA qc q cn sd bt fi1 se1 (va_up tl c u) ax1 cf1 ow ho ov cs) ++ (wT kA q cc ac co ad rc nm st an))) hx hb hK hP hD hS 5 0 rfl rfl (by omega) (Nat.le_of_ble_eq_true rfl) (aN_up _ _ _) rfl dX0_judge_157 (fun H locs hP hD hS => ?_)
        have e9 : rc = p := by omega
        subst e9
        obtain ⟨g1, g2, g3, g4, g5⟩ := hj
        subst g1
        subst g2
        subst g3
        subst g4
        subst g5
        have hP : va_P D vwCl ((wC kA qc q cn sd bt (va_up fi c (firstF (tlW st (bt c)) rc)) (va_up se c (secF (tlW st (bt c)) rc)) (va_up tl c (cntB (tlW st (bt c)) rc)) (va_up ax c (actO an (firstF (tlW st (bt c)) rc))) (va_up cf c (cfB (tlW st (bt c)) an rc)) ow ho ov cs) ++ (wT kA q cc ac co ad rc nm st an)) H := hP
        have hD : va_D A ((wC kA qc q cn sd bt (va_up fi c (firstF (tlW st (bt c)) rc)) (va_up se c (secF (tlW st (bt c)) rc)) (va_up tl c (cntB (tlW st (bt c)) rc)) (va_up ax c (actO an (firstF (tlW st (bt c)) rc))) (va_up cf c (cfB (tlW st (bt c)) an rc)) ow ho ov cs) ++ (wT kA q cc ac co ad rc nm st an)) := hD
        exact n_wretv hx hb hr hlocks (post := fun (u : Unit) => True) (w1 := fun u => ((wC kA qc q cn sd bt (va_up fi c (firstF (tlW st (bt c)) rc)) (va_up se c (secF (tlW st (bt c)) rc)) (va_up tl c (cntB (tlW st (bt c)) rc)) (va_up ax c (actO an (firstF (tlW st (bt c)) rc))) (va_up cf c (cfB (tlW st (bt c)) an rc)) ow ho ov cs) ++ (wT kA q cc ac co ad rc nm st an))) () trivial hP hD hK hS hAe dX0_judge_158
      · refine lv_aload_n hx hb dX0_judge_53 rfl (lv_at hl 3 rfl) ?_
        refine n_get (ci := 0) (v := .ref (q 0)) (C := RX0) (T := TX0) (N := 13) hx hb hts hinX0 hown hK hP 0 rfl rfl 0 rfl ⟨rfl, rfl, rfl⟩ f37 rfl dX0_judge_54 ?_
        refine n_get (ci := 4) (v := .ref (q 4)) (C := RX4) (T := TX4) (N := 8) hx hb hts hinX4 hown hK hP 9 rfl rfl 6 rfl ⟨rfl, rfl, rfl⟩ f75 rfl dX0_judge_57 ?_
        refine lv_iload hx hb dX0_judge_60 (lv_at hl 0 rfl) ?_
        refine n_iald (i := p) (v := (nI (st p))) hx hb hK hP 13 0 rfl rfl (by omega) (Nat.le_of_ble_eq_true rfl) rfl dX0_judge_62 ?_
        refine lv_iload_n hx hb dX0_judge_63 rfl (lv_at hl 2 rfl) ?_
        refine n_iand (v := (nI ((st p) &&& (bt c)))) hx hb (nN_and _ _) dX0_judge_64 ?_
        refine lv_iload_n hx hb dX0_judge_65 rfl (lv_at hl 2 rfl) ?_
        refine n_icmp_eq (a := (st p) &&& (bt c)) (b := bt c) (tgt := 72) hx hb (Nat.lt_of_le_of_lt Nat.and_le_right (Nat.lt_trans hbc (by decide))) (Nat.lt_trans hbc (by decide)) dX0_judge_66 (by decide) (fun c66 => ?_) (fun c66 => ?_)
        · refine lv_iload_n hx hb dX0_judge_72 rfl (lv_at hl 1 rfl) ?_
          refine n_if_ne (a := u) (tgt := 103) hx hb (by omega) dX0_judge_73 (by decide) (fun c73 => ?_) (fun c73 => ?_)
          · refine lv_aload_n hx hb dX0_judge_103 rfl (lv_at hl 3 rfl) ?_
            refine n_get (ci := 0) (v := .ref (q 0)) (C := RX0) (T := TX0) (N := 13) hx hb hts hinX0 hown hK hP 0 rfl rfl 0 rfl ⟨rfl, rfl, rfl⟩ f37 rfl dX0_judge_104 ?_
            refine n_get (ci := 4) (v := .ref (q 5)) (C := RX4) (T := TX4) (N := 8) hx hb hts hinX4 hown hK hP 9 rfl rfl 7 rfl ⟨rfl, rfl, rfl⟩ f78 rfl dX0_judge_107 ?_
            refine lv_iload hx hb dX0_judge_110 (lv_at hl 0 rfl) ?_
            refine n_iald (i := p) (v := (nI (an p))) hx hb hK hP 14 0 rfl rfl (by omega) (Nat.le_of_ble_eq_true rfl) rfl dX0_judge_112 ?_
            refine lv_aload_n hx hb dX0_judge_113 rfl (lv_at hl 3 rfl) ?_
            refine n_get (ci := 0) (v := .ref (qc 6)) (C := RX0) (T := TX0) (N := 13) hx hb hts hinX0 hown hK hP 0 rfl rfl 7 rfl ⟨rfl, rfl, rfl⟩ f27 rfl dX0_judge_114 ?_
            refine lv_iload_n hx hb dX0_judge_117 rfl (lv_at hl 4 rfl) ?_
            refine n_iald (i := c) (v := (nI (ax1 c))) hx hb hK hP 6 0 rfl rfl (by omega) (Nat.le_of_ble_eq_true rfl) rfl dX0_judge_118 ?_
            refine n_icmp_eq (a := an p) (b := ax1 c) (tgt := 129) hx hb (Nat.lt_trans (han _ (by omega)) (by decide)) (Nat.lt_trans hax (by decide)) dX0_judge_119 (by decide) (fun c119 => ?_) (fun c119 => ?_)
            · refine lv_iload_n hx hb dX0_judge_129 rfl (lv_at hl 1 rfl) ?_
              refine lv_iconst (v := (nI 1)) hx hb dX0_judge_130 (by decide) ?_
              refine n_icmp_ne (a := u) (b := 1) (tgt := 142) hx hb (by omega) (by omega) dX0_judge_131 (by decide) (fun c131 => ?_) (fun c131 => ?_)
              · refine lv_iinc (v := (nI (u + 1))) (lv' := [(3, .int (nI (u + 1))), (4, .int (nI p)), (2, .int (nI (bt c))), (0, .ref (qc 0)), (1, .int (nI c))]) hx hb dX0_judge_142 hl (k := 1) rfl (nI_inc _) (by decide) rfl (fun ls hl => ?_)
                refine lv_iinc (v := (nI (p + 1))) (lv' := [(4, .int (nI (p + 1))), (3, .int (nI (u + 1))), (2, .int (nI (bt c))), (0, .ref (qc 0)), (1, .int (nI c))]) hx hb dX0_judge_145 hl (k := 1) rfl (nI_inc _) (by decide) rfl (fun ls hl => ?_)
                refine lv_goto (tgt := 41) hx hb dX0_judge_148 (by decide) ?_
                exact ih41 (p + 1) (u + 1) fi1 se1 ax1 cf1 (by omega) (by first | assumption | omega) (by first | assumption | omega) (by first | exact hax | (rw [up_s]; exact han _ (by omega))) (by first | exact jskip hj (decide_eq_false c66) | exact (jstep hj (decide_eq_true c66)).1 c73 | exact (jstep hj (decide_eq_true c66)).2.1 c73 c119 c131 | exact (jstep hj (decide_eq_true c66)).2.2.1 c73 c119 c131 | exact (jstep hj (decide_eq_true c66)).2.2.2.1 c73 c119 c131 | exact (jstep hj (decide_eq_true c66)).2.2.2.2 c73 c119 c131 | (exfalso; omega)) _ _ hP hD hS _ (lv_sub hl [0, 1, 2, 3, 4] rfl)
              · refine lv_aload_n hx hb dX0_judge_134 rfl (lv_at hl 3 rfl) ?_
                refine n_get (ci := 0) (v := .ref (qc 4)) (C := RX0) (T := TX0) (N := 13) hx hb hts hinX0 hown hK hP 0 rfl rfl 5 rfl ⟨rfl, rfl, rfl⟩ f21 rfl dX0_judge_135 ?_
                refine lv_iload_n hx hb dX0_judge_138 rfl (lv_at hl 4 rfl) ?_
                refine lv_iload hx hb dX0_judge_139 (lv_at hl 0 rfl) ?_
                refine n_iast (i := c) (x := (oI (some p))) (g := aO (va_up se1 c (some p))) (ws' := ((wC kA qc q cn sd bt fi1 (va_up se1 c (some p)) tl ax1 cf1 ow ho ov cs) ++ (wT kA q cc ac co ad rc nm st an))) hx hb hK hP hD hS 4 0 rfl rfl (by omega) (Nat.le_of_ble_eq_true rfl) (aO_up _ _ _) rfl dX0_judge_141 (fun H locs hP hD hS => ?_)
                refine lv_iinc (v := (nI (u + 1))) (lv' := [(3, .int (nI (u + 1))), (4, .int (nI p)), (2, .int (nI (bt c))), (0, .ref (qc 0)), (1, .int (nI c))]) hx hb dX0_judge_142 hl (k := 1) rfl (nI_inc _) (by decide) rfl (fun ls hl => ?_)
                refine lv_iinc (v := (nI (p + 1))) (lv' := [(4, .int (nI (p + 1))), (3, .int (nI (u + 1))), (2, .int (nI (bt c))), (0, .ref (qc 0)), (1, .int (nI c))]) hx hb dX0_judge_145 hl (k := 1) rfl (nI_inc _) (by decide) rfl (fun ls hl => ?_)
                refine lv_goto (tgt := 41) hx hb dX0_judge_148 (by decide) ?_
                exact ih41 (p + 1) (u + 1) fi1 (va_up se1 c (some p)) ax1 cf1 (by omega) (by first | assumption | omega) (by first | assumption | omega) (by first | exact hax | (rw [up_s]; exact han _ (by omega))) (by first | exact jskip hj (decide_eq_false c66) | exact (jstep hj (decide_eq_true c66)).1 c73 | exact (jstep hj (decide_eq_true c66)).2.1 c73 c119 c131 | exact (jstep hj (decide_eq_true c66)).2.2.1 c73 c119 c131 | exact (jstep hj (decide_eq_true c66)).2.2.2.1 c73 c119 c131 | exact (jstep hj (decide_eq_true c66)).2.2.2.2 c73 c119 c131 | (exfalso; omega)) _ _ hP hD hS _ (lv_sub hl [0, 1, 2, 3, 4] rfl)
            · refine lv_aload_n hx hb dX0_judge_122 rfl (lv_at hl 3 rfl) ?_
              refine n_get (ci := 0) (v := .ref (qc 7)) (C := RX0) (T := TX0) (N := 13) hx hb hts hinX0 hown hK hP 0 rfl rfl 8 rfl ⟨rfl, rfl, rfl⟩ f30 rfl dX0_judge_123 ?_
              refine lv_iload_n hx hb dX0_judge_126 rfl (lv_at hl 4 rfl) ?_
              refine lv_iconst (v := (nI 1)) hx hb dX0_judge_127 (by decide) ?_
              refine n_zast (i := c) (x := (bI true)) (g := aB (va_up cf1 c true)) (ws' := ((wC kA qc q cn sd bt fi1 se1 tl ax1 (va_up cf1 c true) ow ho ov cs) ++ (wT kA q cc ac co ad rc nm st an))) hx hb hK hP hD hS 7 2 rfl rfl (by omega) (Nat.le_of_ble_eq_true rfl) ((aB_upz _ _ _)) rfl dX0_judge_128 (fun H locs hP hD hS => ?_)
              refine lv_iload_n hx hb dX0_judge_129 rfl (lv_at hl 1 rfl) ?_
              refine lv_iconst (v := (nI 1)) hx hb dX0_judge_130 (by decide) ?_
              refine n_icmp_ne (a := u) (b := 1) (tgt := 142) hx hb (by omega) (by omega) dX0_judge_131 (by decide) (fun c131 => ?_) (fun c131 => ?_)
              · refine lv_iinc (v := (nI (u + 1))) (lv' := [(3, .int (nI (u + 1))), (4, .int (nI p)), (2, .int (nI (bt c))), (0, .ref (qc 0)), (1, .int (nI c))]) hx hb dX0_judge_142 hl (k := 1) rfl (nI_inc _) (by decide) rfl (fun ls hl => ?_)
                refine lv_iinc (v := (nI (p + 1))) (lv' := [(4, .int (nI (p + 1))), (3, .int (nI (u + 1))), (2, .int (nI (bt c))), (0, .ref (qc 0)), (1, .int (nI c))]) hx hb dX0_judge_145 hl (k := 1) rfl (nI_inc _) (by decide) rfl (fun ls hl => ?_)
                refine lv_goto (tgt := 41) hx hb dX0_judge_148 (by decide) ?_
                exact ih41 (p + 1) (u + 1) fi1 se1 ax1 (va_up cf1 c true) (by omega) (by first | assumption | omega) (by first | assumption | omega) (by first | exact hax | (rw [up_s]; exact han _ (by omega))) (by first | exact jskip hj (decide_eq_false c66) | exact (jstep hj (decide_eq_true c66)).1 c73 | exact (jstep hj (decide_eq_true c66)).2.1 c73 c119 c131 | exact (jstep hj (decide_eq_true c66)).2.2.1 c73 c119 c131 | exact (jstep hj (decide_eq_true c66)).2.2.2.1 c73 c119 c131 | exact (jstep hj (decide_eq_true c66)).2.2.2.2 c73 c119 c131 | (exfalso; omega)) _ _ hP hD hS _ (lv_sub hl [0, 1, 2, 3, 4] rfl)
              · refine lv_aload_n hx hb dX0_judge_134 rfl (lv_at hl 3 rfl) ?_
                refine n_get (ci := 0) (v := .ref (qc 4)) (C := RX0) (T := TX0) (N := 13) hx hb hts hinX0 hown hK hP 0 rfl rfl 5 rfl ⟨rfl, rfl, rfl⟩ f21 rfl dX0_judge_135 ?_
                refine lv_iload_n hx hb dX0_judge_138 rfl (lv_at hl 4 rfl) ?_
                refine lv_iload hx hb dX0_judge_139 (lv_at hl 0 rfl) ?_
                refine n_iast (i := c) (x := (oI (some p))) (g := aO (va_up se1 c (some p))) (ws' := ((wC kA qc q cn sd bt fi1 (va_up se1 c (some p)) tl ax1 (va_up cf1 c true) ow ho ov cs) ++ (wT kA q cc ac co ad rc nm st an))) hx hb hK hP hD hS 4 0 rfl rfl (by omega) (Nat.le_of_ble_eq_true rfl) (aO_up _ _ _) rfl dX0_judge_141 (fun H locs hP hD hS => ?_)
                refine lv_iinc (v := (nI (u + 1))) (lv' := [(3, .int (nI (u + 1))), (4, .int (nI p)), (2, .int (nI (bt c))), (0, .ref (qc 0)), (1, .int (nI c))]) hx hb dX0_judge_142 hl (k := 1) rfl (nI_inc _) (by decide) rfl (fun ls hl => ?_)
                refine lv_iinc (v := (nI (p + 1))) (lv' := [(4, .int (nI (p + 1))), (3, .int (nI (u + 1))), (2, .int (nI (bt c))), (0, .ref (qc 0)), (1, .int (nI c))]) hx hb dX0_judge_145 hl (k := 1) rfl (nI_inc _) (by decide) rfl (fun ls hl => ?_)
                refine lv_goto (tgt := 41) hx hb dX0_judge_148 (by decide) ?_
                exact ih41 (p + 1) (u + 1) fi1 (va_up se1 c (some p)) ax1 (va_up cf1 c true) (by omega) (by first | assumption | omega) (by first | assumption | omega) (by first | exact hax | (rw [up_s]; exact han _ (by omega))) (by first | exact jskip hj (decide_eq_false c66) | exact (jstep hj (decide_eq_true c66)).1 c73 | exact (jstep hj (decide_eq_true c66)).2.1 c73 c119 c131 | exact (jstep hj (decide_eq_true c66)).2.2.1 c73 c119 c131 | exact (jstep hj (decide_eq_true c66)).2.2.2.1 c73 c119 c131 | exact (jstep hj (decide_eq_true c66)).2.2.2.2 c73 c119 c131 | (exfalso; omega)) _ _ hP hD hS _ (lv_sub hl [0, 1, 2, 3, 4] rfl)
          · refine lv_aload_n hx hb dX0_judge_76 rfl (lv_at hl 3 rfl) ?_
            refine n_get (ci := 0) (v := .ref (qc 3)) (C := RX0) (T := TX0) (N := 13) hx hb hts hinX0 hown hK hP 0 rfl rfl 4 rfl ⟨rfl, rfl, rfl⟩ f18 rfl dX0_judge_77 ?_
            refine lv_iload_n hx hb dX0_judge_80 rfl (lv_at hl 4 rfl) ?_
            refine lv_iload hx hb dX0_judge_81 (lv_at hl 0 rfl) ?_
            refine n_iast (i := c) (x := (oI (some p))) (g := aO (va_up fi1 c (some p))) (ws' := ((wC kA qc q cn sd bt (va_up fi1 c (some p)) se1 tl ax1 cf1 ow ho ov cs) ++ (wT kA q cc ac co ad rc nm st an))) hx hb hK hP hD hS 3 0 rfl rfl (by omega) (Nat.le_of_ble_eq_true rfl) (aO_up _ _ _) rfl dX0_judge_83 (fun H locs hP hD hS => ?_)
            refine lv_aload_n hx hb dX0_judge_84 rfl (lv_at hl 3 rfl) ?_
            refine n_get (ci := 0) (v := .ref (qc 6)) (C := RX0) (T := TX0) (N := 13) hx hb hts hinX0 hown hK hP 0 rfl rfl 7 rfl ⟨rfl, rfl, rfl⟩ f27 rfl dX0_judge_85 ?_
            refine lv_iload_n hx hb dX0_judge_88 rfl (lv_at hl 4 rfl) ?_
            refine lv_aload_n hx hb dX0_judge_89 rfl (lv_at hl 3 rfl) ?_
            refine n_get (ci := 0) (v := .ref (q 0)) (C := RX0) (T := TX0) (N := 13) hx hb hts hinX0 hown hK hP 0 rfl rfl 0 rfl ⟨rfl, rfl, rfl⟩ f37 rfl dX0_judge_90 ?_
            refine n_get (ci := 4) (v := .ref (q 5)) (C := RX4) (T := TX4) (N := 8) hx hb hts hinX4 hown hK hP 9 rfl rfl 7 rfl ⟨rfl, rfl, rfl⟩ f78 rfl dX0_judge_93 ?_
            refine lv_iload hx hb dX0_judge_96 (lv_at hl 0 rfl) ?_
            refine n_iald (i := p) (v := (nI (an p))) hx hb hK hP 14 0 rfl rfl (by omega) (Nat.le_of_ble_eq_true rfl) rfl dX0_judge_98 ?_
            refine n_iast (i := c) (x := (nI (an p))) (g := aN (va_up ax1 c (an p))) (ws' := ((wC kA qc q cn sd bt (va_up fi1 c (some p)) se1 tl (va_up ax1 c (an p)) cf1 ow ho ov cs) ++ (wT kA q cc ac co ad rc nm st an))) hx hb hK hP hD hS 6 0 rfl rfl (by omega) (Nat.le_of_ble_eq_true rfl) (aN_up _ _ _) rfl dX0_judge_99 (fun H locs hP hD hS => ?_)
            refine lv_goto (tgt := 129) hx hb dX0_judge_100 (by decide) ?_
            refine lv_iload_n hx hb dX0_judge_129 rfl (lv_at hl 1 rfl) ?_
            refine lv_iconst (v := (nI 1)) hx hb dX0_judge_130 (by decide) ?_
            refine n_icmp_ne (a := u) (b := 1) (tgt := 142) hx hb (by omega) (by omega) dX0_judge_131 (by decide) (fun c131 => ?_) (fun c131 => ?_)
            · refine lv_iinc (v := (nI (u + 1))) (lv' := [(3, .int (nI (u + 1))), (4, .int (nI p)), (2, .int (nI (bt c))), (0, .ref (qc 0)), (1, .int (nI c))]) hx hb dX0_judge_142 hl (k := 1) rfl (nI_inc _) (by decide) rfl (fun ls hl => ?_)
              refine lv_iinc (v := (nI (p + 1))) (lv' := [(4, .int (nI (p + 1))), (3, .int (nI (u + 1))), (2, .int (nI (bt c))), (0, .ref (qc 0)), (1, .int (nI c))]) hx hb dX0_judge_145 hl (k := 1) rfl (nI_inc _) (by decide) rfl (fun ls hl => ?_)
              refine lv_goto (tgt := 41) hx hb dX0_judge_148 (by decide) ?_
              exact ih41 (p + 1) (u + 1) (va_up fi1 c (some p)) se1 (va_up ax1 c (an p)) cf1 (by omega) (by first | assumption | omega) (by first | assumption | omega) (by first | exact hax | (rw [up_s]; exact han _ (by omega))) (by first | exact jskip hj (decide_eq_false c66) | exact (jstep hj (decide_eq_true c66)).1 c73 | exact (jstep hj (decide_eq_true c66)).2.1 c73 c119 c131 | exact (jstep hj (decide_eq_true c66)).2.2.1 c73 c119 c131 | exact (jstep hj (decide_eq_true c66)).2.2.2.1 c73 c119 c131 | exact (jstep hj (decide_eq_true c66)).2.2.2.2 c73 c119 c131 | (exfalso; omega)) _ _ hP hD hS _ (lv_sub hl [0, 1, 2, 3, 4] rfl)
            · refine lv_aload_n hx hb dX0_judge_134 rfl (lv_at hl 3 rfl) ?_
              refine n_get (ci := 0) (v := .ref (qc 4)) (C := RX0) (T := TX0) (N := 13) hx hb hts hinX0 hown hK hP 0 rfl rfl 5 rfl ⟨rfl, rfl, rfl⟩ f21 rfl dX0_judge_135 ?_
              refine lv_iload_n hx hb dX0_judge_138 rfl (lv_at hl 4 rfl) ?_
              refine lv_iload hx hb dX0_judge_139 (lv_at hl 0 rfl) ?_
              refine n_iast (i := c) (x := (oI (some p))) (g := aO (va_up se1 c (some p))) (ws' := ((wC kA qc q cn sd bt (va_up fi1 c (some p)) (va_up se1 c (some p)) tl (va_up ax1 c (an p)) cf1 ow ho ov cs) ++ (wT kA q cc ac co ad rc nm st an))) hx hb hK hP hD hS 4 0 rfl rfl (by omega) (Nat.le_of_ble_eq_true rfl) (aO_up _ _ _) rfl dX0_judge_141 (fun H locs hP hD hS => ?_)
              refine lv_iinc (v := (nI (u + 1))) (lv' := [(3, .int (nI (u + 1))), (4, .int (nI p)), (2, .int (nI (bt c))), (0, .ref (qc 0)), (1, .int (nI c))]) hx hb dX0_judge_142 hl (k := 1) rfl (nI_inc _) (by decide) rfl (fun ls hl => ?_)
              refine lv_iinc (v := (nI (p + 1))) (lv' := [(4, .int (nI (p + 1))), (3, .int (nI (u + 1))), (2, .int (nI (bt c))), (0, .ref (qc 0)), (1, .int (nI c))]) hx hb dX0_judge_145 hl (k := 1) rfl (nI_inc _) (by decide) rfl (fun ls hl => ?_)
              refine lv_goto (tgt := 41) hx hb dX0_judge_148 (by decide) ?_
              exact ih41 (p + 1) (u + 1) (va_up fi1 c (some p)) (va_up se1 c (some p)) (va_up ax1 c (an p)) cf1 (by omega) (by first | assumption | omega) (by first | assumption | omega) (by first | exact hax | (rw [up_s]; exact han _ (by omega))) (by first | exact jskip hj (decide_eq_false c66) | exact (jstep hj (decide_eq_true c66)).1 c73 | exact (jstep hj (decide_eq_true c66)).2.1 c73 c119 c131 | exact (jstep hj (decide_eq_true c66)).2.2.1 c73 c119 c131 | exact (jstep hj (decide_eq_true c66)).2.2.2.1 c73 c119 c131 | exact (jstep hj (decide_eq_true c66)).2.2.2.2 c73 c119 c131 | (exfalso; omega)) _ _ hP hD hS _ (lv_sub hl [0, 1, 2, 3, 4] rfl)
        · refine lv_goto (tgt := 145) hx hb dX0_judge_69 (by decide) ?_
          refine lv_iinc (v := (nI (p + 1))) (lv' := [(4, .int (nI (p + 1))), (3, .int (nI u)), (2, .int (nI (bt c))), (0, .ref (qc 0)), (1, .int (nI c))]) hx hb dX0_judge_145 hl (k := 0) rfl (nI_inc _) (by decide) rfl (fun ls hl => ?_)
          refine lv_goto (tgt := 41) hx hb dX0_judge_148 (by decide) ?_
          exact ih41 (p + 1) u fi1 se1 ax1 cf1 (by omega) (by first | assumption | omega) (by first | assumption | omega) (by first | exact hax | (rw [up_s]; exact han _ (by omega))) (by first | exact jskip hj (decide_eq_false c66) | exact (jstep hj (decide_eq_true c66)).1 c73 | exact (jstep hj (decide_eq_true c66)).2.1 c73 c119 c131 | exact (jstep hj (decide_eq_true c66)).2.2.1 c73 c119 c131 | exact (jstep hj (decide_eq_true c66)).2.2.2.1 c73 c119 c131 | exact (jstep hj (decide_eq_true c66)).2.2.2.2 c73 c119 c131 | (exfalso; omega)) _ _ hP hD hS _ (lv_sub hl [0, 1, 2, 3, 4] rfl)
  exact L41 ((rc - 0) + 1) 0 0 (va_up fi c none) (va_up se c none) (va_up ax c 10) (va_up cf c false) (Nat.lt_succ_self _) (by first | assumption | omega) (by first | assumption | omega) (by rw [up_s]; decide) ⟨rfl, rfl, rfl, rfl, rfl⟩ _ _ hP hD hS _ (lv_sub hl [0, 1, 2, 3, 4] rfl)

set_option maxHeartbeats 4000000 in
set_option maxRecDepth 100000 in
theorem c_X0_tally (lQ : Launch) (D : va_G) (kA : Nat → ClassId) (qc : Nat → Nat) (cn : Nat) (sd : Nat → Nat) (bt : Nat → Nat) (fi : Nat → Option Nat) (se : Nat → Option Nat) (tl : Nat → Nat) (ax : Nat → Nat) (cf : Nat → Bool) (ow : Nat → Nat) (ho : Nat) (ov : Nat) (cs : Nat) (q : Nat → Nat) (cc : Nat) (ac : Nat → Nat) (co : Nat → Nat) (ad : Nat) (rc : Nat) (nm : Nat → Nat) (st : Nat → Nat) (an : Nat → Nat) (c : Nat) (sz : Nat) (hc : c < 1024) (hf : ∀ q, fi c = some q → q < 20) (htl : tl c < 2147483648) : Met lQ yX0_tally wsX0_tally (rmN 0 0) (wr_Pc D vwCl [.ref (qc 0), .int (nI c)] ((wC kA qc q cn sd bt fi se tl ax cf ow ho ov cs) ++ (wT kA q cc ac co ad rc nm st an)) (tyK kA) sz) (va_Qv (S := Unit) (fun (u : Unit) => True) (wr_B D vwCl ((wC kA qc q cn sd bt fi se tl ax cf ow ho ov cs) ++ (wT kA q cc ac co ad rc nm st an)) (tyK kA) sz (fun u => ((wC kA qc q cn sd bt fi se tl ax cf (owF ow (fi c)) (hoF ho (fi c)) (iF (decide (2 ≤ tl c)) ov) (iF (cf c) cs)) ++ (wT kA q cc ac co ad rc nm st an)))) (va_A ((wC kA qc q cn sd bt fi se tl ax cf ow ho ov cs) ++ (wT kA q cc ac co ad rc nm st an)) sz)) 0 0 (va_A ((wC kA qc q cn sd bt fi se tl ax cf ow ho ov cs) ++ (wT kA q cc ac co ad rc nm st an)) sz) := by
  refine Met.ofW (cc := cX0_tally) (maxL := 3) (ret := none) (by decide) rfl ?_
  intro pQ eQ s mQ args below meth cQ s₁ B hml hv
  obtain ⟨rfl, hsz, hP, hK, hD0⟩ := hv
  have hx := B.exec
  have hb := B.bytes
  have hr := B.returns
  have hts := atoms_spec (ws := wsX0_tally) B.pre
  have hown : s.vm.findClass RX0 = some mQ.cls := findClass_of_methodNamed B.named
  have hlocks : meth.locks = false := B.notSynchronized
  have hS0 : CallFix pQ mQ cQ cX0_tally 3 s ([.ref (qc 0), .int (nI c)] : List Value).toArray wsX0_tally RX0 := ⟨hx, hb, hml, hown, hts⟩
  subst hsz
  have hD := hD0.self (sz := s.heap.size)
  generalize hAe : va_A ((wC kA qc q cn sd bt fi se tl ax cf ow ho ov cs) ++ (wT kA q cc ac co ad rc nm st an)) s.heap.size = A at hD ⊢
  have hA : ∀ q : Nat, s.heap.size ≤ q → A q := fun q h => by rw [← hAe]; exact Or.inr h
  have hS : va_S A s.heap s.heap [] := va_S.rf
  have f18 : (Cond.fieldLink RX0 18 "AskedRules$Cases" "first" "[I").before ([.ref (qc 0), .int (nI c)] : List Value).toArray s = true := hts _ (by decide +kernel)
  have hinX0 : ∀ w ∈ wsX00, w ∈ wsX0_tally := by decide +kernel
  have f34 : (Cond.fieldLink RX0 34 "AskedRules$Cases" "owned" "[I").before ([.ref (qc 0), .int (nI c)] : List Value).toArray s = true := hts _ (by decide +kernel)
  have f24 : (Cond.fieldLink RX0 24 "AskedRules$Cases" "told" "[I").before ([.ref (qc 0), .int (nI c)] : List Value).toArray s = true := hts _ (by decide +kernel)
  have f30 : (Cond.fieldLink RX0 30 "AskedRules$Cases" "conflict" "[Z").before ([.ref (qc 0), .int (nI c)] : List Value).toArray s = true := hts _ (by decide +kernel)
  have f51 : (Cond.fieldLink RX0 51 "AskedRules$Cases" "conflicts" "I").before ([.ref (qc 0), .int (nI c)] : List Value).toArray s = true := hts _ (by decide +kernel)
  have f48 : (Cond.fieldLink RX0 48 "AskedRules$Cases" "overlaps" "I").before ([.ref (qc 0), .int (nI c)] : List Value).toArray s = true := hts _ (by decide +kernel)
  have f44 : (Cond.fieldLink RX0 44 "AskedRules$Cases" "holes" "I").before ([.ref (qc 0), .int (nI c)] : List Value).toArray s = true := hts _ (by decide +kernel)
  have hl := lv_entry ([.ref (qc 0), .int (nI c)]) (n := 3) (Nat.le_of_ble_eq_true rfl)
  rw [lg_entry_eq]
  generalize (lg_sl ([.ref (qc 0), .int (nI c)]) ++ List.replicate (3 - (lg_sl ([.ref (qc 0), .int (nI c)])).length) Slot.unset).toArray = ls at hl ⊢
  have hl : lv_has ls 3 [(0, .ref (qc 0)), (1, .int (nI c))] := hl
  have hP : va_P D vwCl ((wC kA qc q cn sd bt fi se tl ax cf ow ho ov cs) ++ (wT kA q cc ac co ad rc nm st an)) s.heap := hP
  have hD : va_D A ((wC kA qc q cn sd bt fi se tl ax cf ow ho ov cs) ++ (wT kA q cc ac co ad rc nm st an)) := hD
  refine lv_aload_n hx hb dX0_tally_0 rfl (lv_at hl 0 rfl) ?_
  refine n_get (ci := 0) (v := .ref (qc 3)) (C := RX0) (T := TX0) (N := 13) hx hb hts hinX0 hown hK hP 0 rfl rfl 4 rfl ⟨rfl, rfl, rfl⟩ f18 rfl dX0_tally_1 ?_
  refine lv_iload_n hx hb dX0_tally_4 rfl (lv_at hl 1 rfl) ?_
  refine n_iald (i := c) (v := (oI (fi c))) hx hb hK hP 3 0 rfl rfl (by omega) (Nat.le_of_ble_eq_true rfl) rfl dX0_tally_5 ?_
  refine lv_istore_n (lv' := [(2, .int (oI (fi c))), (0, .ref (qc 0)), (1, .int (nI c))]) hx hb dX0_tally_6 rfl hl (by decide) rfl (fun ls hl => ?_)
  refine lv_iload_n hx hb dX0_tally_7 rfl (lv_at hl 0 rfl) ?_
  refine n_ifo_ge (o := fi c) (tgt := 24) hx hb (fun q h => Nat.lt_trans (hf q h) (by decide)) dX0_tally_8 (by decide) (fun q8 c8 => ?_) (fun c8 => ?_)
  · have hl : lv_has ls 3 [(2, .int (nI q8)), (0, .ref (qc 0)), (1, .int (nI c))] := by rw [c8] at hl; exact hl
    refine lv_aload_n hx hb dX0_tally_24 rfl (lv_at hl 1 rfl) ?_
    refine n_get (ci := 0) (v := .ref (qc 8)) (C := RX0) (T := TX0) (N := 13) hx hb hts hinX0 hown hK hP 0 rfl rfl 9 rfl ⟨rfl, rfl, rfl⟩ f34 rfl dX0_tally_25 ?_
    refine lv_iload_n hx hb dX0_tally_28 rfl (lv_at hl 0 rfl) ?_
    refine lv_dup2_11 hx hb dX0_tally_29 rfl rfl ?_
    refine n_iald (i := q8) (v := (nI (ow q8))) hx hb hK hP 8 0 rfl rfl (hf _ c8) (Nat.le_of_ble_eq_true rfl) rfl dX0_tally_30 ?_
    refine lv_iconst (v := (nI 1)) hx hb dX0_tally_31 (by decide) ?_
    refine n_iadd (v := (nI (ow q8 + 1))) hx hb (nI_add _ _) dX0_tally_32 ?_
    refine n_iast (i := q8) (x := (nI (ow q8 + 1))) (g := aN (va_up ow q8 (ow q8 + 1))) (ws' := ((wC kA qc q cn sd bt fi se tl ax cf (va_up ow q8 (ow q8 + 1)) ho ov cs) ++ (wT kA q cc ac co ad rc nm st an))) hx hb hK hP hD hS 8 0 rfl rfl (hf _ c8) (Nat.le_of_ble_eq_true rfl) (aN_up _ _ _) rfl dX0_tally_33 (fun H locs hP hD hS => ?_)
    refine lv_aload_n hx hb dX0_tally_34 rfl (lv_at hl 1 rfl) ?_
    refine n_get (ci := 0) (v := .ref (qc 5)) (C := RX0) (T := TX0) (N := 13) hx hb hts hinX0 hown hK hP 0 rfl rfl 6 rfl ⟨rfl, rfl, rfl⟩ f24 rfl dX0_tally_35 ?_
    refine lv_iload_n hx hb dX0_tally_38 rfl (lv_at hl 2 rfl) ?_
    refine n_iald (i := c) (v := (nI (tl c))) hx hb hK hP 5 0 rfl rfl (by omega) (Nat.le_of_ble_eq_true rfl) rfl dX0_tally_39 ?_
    refine lv_iconst (v := (nI 2)) hx hb dX0_tally_40 (by decide) ?_
    refine n_icmp_lt (a := tl c) (b := 2) (tgt := 54) hx hb (by omega) (by omega) dX0_tally_41 (by decide) (fun c41 => ?_) (fun c41 => ?_)
    · refine lv_aload_n hx hb dX0_tally_54 rfl (lv_at hl 1 rfl) ?_
      refine n_get (ci := 0) (v := .ref (qc 7)) (C := RX0) (T := TX0) (N := 13) hx hb hts hinX0 hown hK hP 0 rfl rfl 8 rfl ⟨rfl, rfl, rfl⟩ f30 rfl dX0_tally_55 ?_
      refine lv_iload_n hx hb dX0_tally_58 rfl (lv_at hl 2 rfl) ?_
      refine n_zald (i := c) (v := (bI (cf c))) hx hb hK hP 7 2 rfl rfl (by omega) (Nat.le_of_ble_eq_true rfl) rfl dX0_tally_59 ?_
      refine n_ifb_eq (b := cf c) (tgt := 73) hx hb dX0_tally_60 (by decide) (fun c60 => ?_) (fun c60 => ?_)
      · have hw9 : ((wC kA qc q cn sd bt fi se tl ax cf (va_up ow q8 (ow q8 + 1)) ho ov cs) ++ (wT kA q cc ac co ad rc nm st an)) = ((wC kA qc q cn sd bt fi se tl ax cf (owF ow (fi c)) (hoF ho (fi c)) (iF (decide (2 ≤ tl c)) ov) (iF (cf c) cs)) ++ (wT kA q cc ac co ad rc nm st an)) := (by rw [c8, c60]; (first | rw [decide_eq_true (p := 2 ≤ tl c) c41] | rw [decide_eq_false (p := 2 ≤ tl c) (by omega)]); rfl)
        rw [hw9] at hP hD
        exact n_wretv hx hb hr hlocks (post := fun (u : Unit) => True) (w1 := fun u => ((wC kA qc q cn sd bt fi se tl ax cf (owF ow (fi c)) (hoF ho (fi c)) (iF (decide (2 ≤ tl c)) ov) (iF (cf c) cs)) ++ (wT kA q cc ac co ad rc nm st an))) () trivial hP hD hK hS hAe dX0_tally_73
      · refine lv_aload_n hx hb dX0_tally_63 rfl (lv_at hl 1 rfl) ?_
        refine lv_dup hx hb dX0_tally_64 rfl ?_
        refine n_get (ci := 0) (v := .int (nI cs)) (C := RX0) (T := TX0) (N := 13) hx hb hts hinX0 hown hK hP 0 rfl rfl 12 rfl ⟨rfl, rfl, rfl⟩ f51 rfl dX0_tally_65 ?_
        refine lv_iconst (v := (nI 1)) hx hb dX0_tally_68 (by decide) ?_
        refine n_iadd (v := (nI (cs + 1))) hx hb (nI_add _ _) dX0_tally_69 ?_
        refine n_put (ci := 0) (v := .int (nI (cs + 1))) (C := RX0) (T := TX0) (N := 13) (ws' := ((wC kA qc q cn sd bt fi se tl ax cf (va_up ow q8 (ow q8 + 1)) ho ov (cs + 1)) ++ (wT kA q cc ac co ad rc nm st an))) hx hb hts hinX0 tyX0 tyX0_ok nmX0 hown hK hP hD hS 0 rfl rfl 12 rfl ⟨rfl, rfl, rfl, rfl⟩ f51 rfl rfl rfl rfl dX0_tally_70 (fun H locs hP hD hS => ?_)
        have hw9 : ((wC kA qc q cn sd bt fi se tl ax cf (va_up ow q8 (ow q8 + 1)) ho ov (cs + 1)) ++ (wT kA q cc ac co ad rc nm st an)) = ((wC kA qc q cn sd bt fi se tl ax cf (owF ow (fi c)) (hoF ho (fi c)) (iF (decide (2 ≤ tl c)) ov) (iF (cf c) cs)) ++ (wT kA q cc ac co ad rc nm st an)) := (by rw [c8, c60]; (first | rw [decide_eq_true (p := 2 ≤ tl c) c41] | rw [decide_eq_false (p := 2 ≤ tl c) (by omega)]); rfl)
        rw [hw9] at hP hD
        exact n_wretv hx hb hr hlocks (post := fun (u : Unit) => True) (w1 := fun u => ((wC kA qc q cn sd bt fi se tl ax cf (owF ow (fi c)) (hoF ho (fi c)) (iF (decide (2 ≤ tl c)) ov) (iF (cf c) cs)) ++ (wT kA q cc ac co ad rc nm st an))) () trivial hP hD hK hS hAe dX0_tally_73
    · refine lv_aload_n hx hb dX0_tally_44 rfl (lv_at hl 1 rfl) ?_
      refine lv_dup hx hb dX0_tally_45 rfl ?_
      refine n_get (ci := 0) (v := .int (nI ov)) (C := RX0) (T := TX0) (N := 13) hx hb hts hinX0 hown hK hP 0 rfl rfl 11 rfl ⟨rfl, rfl, rfl⟩ f48 rfl dX0_tally_46 ?_
      refine lv_iconst (v := (nI 1)) hx hb dX0_tally_49 (by decide) ?_
      refine n_iadd (v := (nI (ov + 1))) hx hb (nI_add _ _) dX0_tally_50 ?_
      refine n_put (ci := 0) (v := .int (nI (ov + 1))) (C := RX0) (T := TX0) (N := 13) (ws' := ((wC kA qc q cn sd bt fi se tl ax cf (va_up ow q8 (ow q8 + 1)) ho (ov + 1) cs) ++ (wT kA q cc ac co ad rc nm st an))) hx hb hts hinX0 tyX0 tyX0_ok nmX0 hown hK hP hD hS 0 rfl rfl 11 rfl ⟨rfl, rfl, rfl, rfl⟩ f48 rfl rfl rfl rfl dX0_tally_51 (fun H locs hP hD hS => ?_)
      refine lv_aload_n hx hb dX0_tally_54 rfl (lv_at hl 1 rfl) ?_
      refine n_get (ci := 0) (v := .ref (qc 7)) (C := RX0) (T := TX0) (N := 13) hx hb hts hinX0 hown hK hP 0 rfl rfl 8 rfl ⟨rfl, rfl, rfl⟩ f30 rfl dX0_tally_55 ?_
      refine lv_iload_n hx hb dX0_tally_58 rfl (lv_at hl 2 rfl) ?_
      refine n_zald (i := c) (v := (bI (cf c))) hx hb hK hP 7 2 rfl rfl (by omega) (Nat.le_of_ble_eq_true rfl) rfl dX0_tally_59 ?_
      refine n_ifb_eq (b := cf c) (tgt := 73) hx hb dX0_tally_60 (by decide) (fun c60 => ?_) (fun c60 => ?_)
      · have hw9 : ((wC kA qc q cn sd bt fi se tl ax cf (va_up ow q8 (ow q8 + 1)) ho (ov + 1) cs) ++ (wT kA q cc ac co ad rc nm st an)) = ((wC kA qc q cn sd bt fi se tl ax cf (owF ow (fi c)) (hoF ho (fi c)) (iF (decide (2 ≤ tl c)) ov) (iF (cf c) cs)) ++ (wT kA q cc ac co ad rc nm st an)) := (by rw [c8, c60]; (first | rw [decide_eq_true (p := 2 ≤ tl c) c41] | rw [decide_eq_false (p := 2 ≤ tl c) (by omega)]); rfl)
        rw [hw9] at hP hD
        exact n_wretv hx hb hr hlocks (post := fun (u : Unit) => True) (w1 := fun u => ((wC kA qc q cn sd bt fi se tl ax cf (owF ow (fi c)) (hoF ho (fi c)) (iF (decide (2 ≤ tl c)) ov) (iF (cf c) cs)) ++ (wT kA q cc ac co ad rc nm st an))) () trivial hP hD hK hS hAe dX0_tally_73
      · refine lv_aload_n hx hb dX0_tally_63 rfl (lv_at hl 1 rfl) ?_
        refine lv_dup hx hb dX0_tally_64 rfl ?_
        refine n_get (ci := 0) (v := .int (nI cs)) (C := RX0) (T := TX0) (N := 13) hx hb hts hinX0 hown hK hP 0 rfl rfl 12 rfl ⟨rfl, rfl, rfl⟩ f51 rfl dX0_tally_65 ?_
        refine lv_iconst (v := (nI 1)) hx hb dX0_tally_68 (by decide) ?_
        refine n_iadd (v := (nI (cs + 1))) hx hb (nI_add _ _) dX0_tally_69 ?_
        refine n_put (ci := 0) (v := .int (nI (cs + 1))) (C := RX0) (T := TX0) (N := 13) (ws' := ((wC kA qc q cn sd bt fi se tl ax cf (va_up ow q8 (ow q8 + 1)) ho (ov + 1) (cs + 1)) ++ (wT kA q cc ac co ad rc nm st an))) hx hb hts hinX0 tyX0 tyX0_ok nmX0 hown hK hP hD hS 0 rfl rfl 12 rfl ⟨rfl, rfl, rfl, rfl⟩ f51 rfl rfl rfl rfl dX0_tally_70 (fun H locs hP hD hS => ?_)
        have hw9 : ((wC kA qc q cn sd bt fi se tl ax cf (va_up ow q8 (ow q8 + 1)) ho (ov + 1) (cs + 1)) ++ (wT kA q cc ac co ad rc nm st an)) = ((wC kA qc q cn sd bt fi se tl ax cf (owF ow (fi c)) (hoF ho (fi c)) (iF (decide (2 ≤ tl c)) ov) (iF (cf c) cs)) ++ (wT kA q cc ac co ad rc nm st an)) := (by rw [c8, c60]; (first | rw [decide_eq_true (p := 2 ≤ tl c) c41] | rw [decide_eq_false (p := 2 ≤ tl c) (by omega)]); rfl)
        rw [hw9] at hP hD
        exact n_wretv hx hb hr hlocks (post := fun (u : Unit) => True) (w1 := fun u => ((wC kA qc q cn sd bt fi se tl ax cf (owF ow (fi c)) (hoF ho (fi c)) (iF (decide (2 ≤ tl c)) ov) (iF (cf c) cs)) ++ (wT kA q cc ac co ad rc nm st an))) () trivial hP hD hK hS hAe dX0_tally_73
  · have hl : lv_has ls 3 [(2, .int (oI none)), (0, .ref (qc 0)), (1, .int (nI c))] := by rw [c8] at hl; exact hl
    refine lv_aload_n hx hb dX0_tally_11 rfl (lv_at hl 1 rfl) ?_
    refine lv_dup hx hb dX0_tally_12 rfl ?_
    refine n_get (ci := 0) (v := .int (nI ho)) (C := RX0) (T := TX0) (N := 13) hx hb hts hinX0 hown hK hP 0 rfl rfl 10 rfl ⟨rfl, rfl, rfl⟩ f44 rfl dX0_tally_13 ?_
    refine lv_iconst (v := (nI 1)) hx hb dX0_tally_16 (by decide) ?_
    refine n_iadd (v := (nI (ho + 1))) hx hb (nI_add _ _) dX0_tally_17 ?_
    refine n_put (ci := 0) (v := .int (nI (ho + 1))) (C := RX0) (T := TX0) (N := 13) (ws' := ((wC kA qc q cn sd bt fi se tl ax cf ow (ho + 1) ov cs) ++ (wT kA q cc ac co ad rc nm st an))) hx hb hts hinX0 tyX0 tyX0_ok nmX0 hown hK hP hD hS 0 rfl rfl 10 rfl ⟨rfl, rfl, rfl, rfl⟩ f44 rfl rfl rfl rfl dX0_tally_18 (fun H locs hP hD hS => ?_)
    refine lv_goto (tgt := 34) hx hb dX0_tally_21 (by decide) ?_
    refine lv_aload_n hx hb dX0_tally_34 rfl (lv_at hl 1 rfl) ?_
    refine n_get (ci := 0) (v := .ref (qc 5)) (C := RX0) (T := TX0) (N := 13) hx hb hts hinX0 hown hK hP 0 rfl rfl 6 rfl ⟨rfl, rfl, rfl⟩ f24 rfl dX0_tally_35 ?_
    refine lv_iload_n hx hb dX0_tally_38 rfl (lv_at hl 2 rfl) ?_
    refine n_iald (i := c) (v := (nI (tl c))) hx hb hK hP 5 0 rfl rfl (by omega) (Nat.le_of_ble_eq_true rfl) rfl dX0_tally_39 ?_
    refine lv_iconst (v := (nI 2)) hx hb dX0_tally_40 (by decide) ?_
    refine n_icmp_lt (a := tl c) (b := 2) (tgt := 54) hx hb (by omega) (by omega) dX0_tally_41 (by decide) (fun c41 => ?_) (fun c41 => ?_)
    · refine lv_aload_n hx hb dX0_tally_54 rfl (lv_at hl 1 rfl) ?_
      refine n_get (ci := 0) (v := .ref (qc 7)) (C := RX0) (T := TX0) (N := 13) hx hb hts hinX0 hown hK hP 0 rfl rfl 8 rfl ⟨rfl, rfl, rfl⟩ f30 rfl dX0_tally_55 ?_
      refine lv_iload_n hx hb dX0_tally_58 rfl (lv_at hl 2 rfl) ?_
      refine n_zald (i := c) (v := (bI (cf c))) hx hb hK hP 7 2 rfl rfl (by omega) (Nat.le_of_ble_eq_true rfl) rfl dX0_tally_59 ?_
      refine n_ifb_eq (b := cf c) (tgt := 73) hx hb dX0_tally_60 (by decide) (fun c60 => ?_) (fun c60 => ?_)
      · have hw9 : ((wC kA qc q cn sd bt fi se tl ax cf ow (ho + 1) ov cs) ++ (wT kA q cc ac co ad rc nm st an)) = ((wC kA qc q cn sd bt fi se tl ax cf (owF ow (fi c)) (hoF ho (fi c)) (iF (decide (2 ≤ tl c)) ov) (iF (cf c) cs)) ++ (wT kA q cc ac co ad rc nm st an)) := (by rw [c8, c60]; (first | rw [decide_eq_true (p := 2 ≤ tl c) c41] | rw [decide_eq_false (p := 2 ≤ tl c) (by omega)]); rfl)
        rw [hw9] at hP hD
        exact n_wretv hx hb hr hlocks (post := fun (u : Unit) => True) (w1 := fun u => ((wC kA qc q cn sd bt fi se tl ax cf (owF ow (fi c)) (hoF ho (fi c)) (iF (decide (2 ≤ tl c)) ov) (iF (cf c) cs)) ++ (wT kA q cc ac co ad rc nm st an))) () trivial hP hD hK hS hAe dX0_tally_73
      · refine lv_aload_n hx hb dX0_tally_63 rfl (lv_at hl 1 rfl) ?_
        refine lv_dup hx hb dX0_tally_64 rfl ?_
        refine n_get (ci := 0) (v := .int (nI cs)) (C := RX0) (T := TX0) (N := 13) hx hb hts hinX0 hown hK hP 0 rfl rfl 12 rfl ⟨rfl, rfl, rfl⟩ f51 rfl dX0_tally_65 ?_
        refine lv_iconst (v := (nI 1)) hx hb dX0_tally_68 (by decide) ?_
        refine n_iadd (v := (nI (cs + 1))) hx hb (nI_add _ _) dX0_tally_69 ?_
        refine n_put (ci := 0) (v := .int (nI (cs + 1))) (C := RX0) (T := TX0) (N := 13) (ws' := ((wC kA qc q cn sd bt fi se tl ax cf ow (ho + 1) ov (cs + 1)) ++ (wT kA q cc ac co ad rc nm st an))) hx hb hts hinX0 tyX0 tyX0_ok nmX0 hown hK hP hD hS 0 rfl rfl 12 rfl ⟨rfl, rfl, rfl, rfl⟩ f51 rfl rfl rfl rfl dX0_tally_70 (fun H locs hP hD hS => ?_)
        have hw9 : ((wC kA qc q cn sd bt fi se tl ax cf ow (ho + 1) ov (cs + 1)) ++ (wT kA q cc ac co ad rc nm st an)) = ((wC kA qc q cn sd bt fi se tl ax cf (owF ow (fi c)) (hoF ho (fi c)) (iF (decide (2 ≤ tl c)) ov) (iF (cf c) cs)) ++ (wT kA q cc ac co ad rc nm st an)) := (by rw [c8, c60]; (first | rw [decide_eq_true (p := 2 ≤ tl c) c41] | rw [decide_eq_false (p := 2 ≤ tl c) (by omega)]); rfl)
        rw [hw9] at hP hD
        exact n_wretv hx hb hr hlocks (post := fun (u : Unit) => True) (w1 := fun u => ((wC kA qc q cn sd bt fi se tl ax cf (owF ow (fi c)) (hoF ho (fi c)) (iF (decide (2 ≤ tl c)) ov) (iF (cf c) cs)) ++ (wT kA q cc ac co ad rc nm st an))) () trivial hP hD hK hS hAe dX0_tally_73
    · refine lv_aload_n hx hb dX0_tally_44 rfl (lv_at hl 1 rfl) ?_
      refine lv_dup hx hb dX0_tally_45 rfl ?_
      refine n_get (ci := 0) (v := .int (nI ov)) (C := RX0) (T := TX0) (N := 13) hx hb hts hinX0 hown hK hP 0 rfl rfl 11 rfl ⟨rfl, rfl, rfl⟩ f48 rfl dX0_tally_46 ?_
      refine lv_iconst (v := (nI 1)) hx hb dX0_tally_49 (by decide) ?_
      refine n_iadd (v := (nI (ov + 1))) hx hb (nI_add _ _) dX0_tally_50 ?_
      refine n_put (ci := 0) (v := .int (nI (ov + 1))) (C := RX0) (T := TX0) (N := 13) (ws' := ((wC kA qc q cn sd bt fi se tl ax cf ow (ho + 1) (ov + 1) cs) ++ (wT kA q cc ac co ad rc nm st an))) hx hb hts hinX0 tyX0 tyX0_ok nmX0 hown hK hP hD hS 0 rfl rfl 11 rfl ⟨rfl, rfl, rfl, rfl⟩ f48 rfl rfl rfl rfl dX0_tally_51 (fun H locs hP hD hS => ?_)
      refine lv_aload_n hx hb dX0_tally_54 rfl (lv_at hl 1 rfl) ?_
      refine n_get (ci := 0) (v := .ref (qc 7)) (C := RX0) (T := TX0) (N := 13) hx hb hts hinX0 hown hK hP 0 rfl rfl 8 rfl ⟨rfl, rfl, rfl⟩ f30 rfl dX0_tally_55 ?_
      refine lv_iload_n hx hb dX0_tally_58 rfl (lv_at hl 2 rfl) ?_
      refine n_zald (i := c) (v := (bI (cf c))) hx hb hK hP 7 2 rfl rfl (by omega) (Nat.le_of_ble_eq_true rfl) rfl dX0_tally_59 ?_
      refine n_ifb_eq (b := cf c) (tgt := 73) hx hb dX0_tally_60 (by decide) (fun c60 => ?_) (fun c60 => ?_)
      · have hw9 : ((wC kA qc q cn sd bt fi se tl ax cf ow (ho + 1) (ov + 1) cs) ++ (wT kA q cc ac co ad rc nm st an)) = ((wC kA qc q cn sd bt fi se tl ax cf (owF ow (fi c)) (hoF ho (fi c)) (iF (decide (2 ≤ tl c)) ov) (iF (cf c) cs)) ++ (wT kA q cc ac co ad rc nm st an)) := (by rw [c8, c60]; (first | rw [decide_eq_true (p := 2 ≤ tl c) c41] | rw [decide_eq_false (p := 2 ≤ tl c) (by omega)]); rfl)
        rw [hw9] at hP hD
        exact n_wretv hx hb hr hlocks (post := fun (u : Unit) => True) (w1 := fun u => ((wC kA qc q cn sd bt fi se tl ax cf (owF ow (fi c)) (hoF ho (fi c)) (iF (decide (2 ≤ tl c)) ov) (iF (cf c) cs)) ++ (wT kA q cc ac co ad rc nm st an))) () trivial hP hD hK hS hAe dX0_tally_73
      · refine lv_aload_n hx hb dX0_tally_63 rfl (lv_at hl 1 rfl) ?_
        refine lv_dup hx hb dX0_tally_64 rfl ?_
        refine n_get (ci := 0) (v := .int (nI cs)) (C := RX0) (T := TX0) (N := 13) hx hb hts hinX0 hown hK hP 0 rfl rfl 12 rfl ⟨rfl, rfl, rfl⟩ f51 rfl dX0_tally_65 ?_
        refine lv_iconst (v := (nI 1)) hx hb dX0_tally_68 (by decide) ?_
        refine n_iadd (v := (nI (cs + 1))) hx hb (nI_add _ _) dX0_tally_69 ?_
        refine n_put (ci := 0) (v := .int (nI (cs + 1))) (C := RX0) (T := TX0) (N := 13) (ws' := ((wC kA qc q cn sd bt fi se tl ax cf ow (ho + 1) (ov + 1) (cs + 1)) ++ (wT kA q cc ac co ad rc nm st an))) hx hb hts hinX0 tyX0 tyX0_ok nmX0 hown hK hP hD hS 0 rfl rfl 12 rfl ⟨rfl, rfl, rfl, rfl⟩ f51 rfl rfl rfl rfl dX0_tally_70 (fun H locs hP hD hS => ?_)
        have hw9 : ((wC kA qc q cn sd bt fi se tl ax cf ow (ho + 1) (ov + 1) (cs + 1)) ++ (wT kA q cc ac co ad rc nm st an)) = ((wC kA qc q cn sd bt fi se tl ax cf (owF ow (fi c)) (hoF ho (fi c)) (iF (decide (2 ≤ tl c)) ov) (iF (cf c) cs)) ++ (wT kA q cc ac co ad rc nm st an)) := (by rw [c8, c60]; (first | rw [decide_eq_true (p := 2 ≤ tl c) c41] | rw [decide_eq_false (p := 2 ≤ tl c) (by omega)]); rfl)
        rw [hw9] at hP hD
        exact n_wretv hx hb hr hlocks (post := fun (u : Unit) => True) (w1 := fun u => ((wC kA qc q cn sd bt fi se tl ax cf (owF ow (fi c)) (hoF ho (fi c)) (iF (decide (2 ≤ tl c)) ov) (iF (cf c) cs)) ++ (wT kA q cc ac co ad rc nm st an))) () trivial hP hD hK hS hAe dX0_tally_73


/-- what Cases holds when it is fresh -/
def cOK (cc : Nat) (ac : Nat → Nat) (rc : Nat) (st an : Nat → Nat) (cn : Nat) (sd bt : Nat → Nat) (fi se : Nat → Option Nat) (tl ax : Nat → Nat) (cf : Nat → Bool) (ow : Nat → Nat) (ho ov cs : Nat) : Prop :=
  cn = prodF ac cc ∧ (∀ k, k < cc → sd k = prodF ac k) ∧ (∀ c, c < cn → bt c = bitC ac c cc) ∧ (∀ c, c < cn → fi c = firstF (tlW st (bitC ac c cc)) rc) ∧ (∀ c, c < cn → se c = secF (tlW st (bitC ac c cc)) rc) ∧
  (∀ c, c < cn → tl c = cntB (tlW st (bitC ac c cc)) rc) ∧ (∀ c, c < cn → ax c = actO an (firstF (tlW st (bitC ac c cc)) rc)) ∧ (∀ c, c < cn → cf c = cfB (tlW st (bitC ac c cc)) an rc) ∧
  (∀ p, p < 20 → ow p = cntB (fun c => decide (firstF (tlW st (bitC ac c cc)) rc = some p)) cn) ∧ ho = cntB (fun c => decide (firstF (tlW st (bitC ac c cc)) rc = none)) cn ∧
  ov = cntB (fun c => decide (2 ≤ cntB (tlW st (bitC ac c cc)) rc)) cn ∧ cs = cntB (fun c => cfB (tlW st (bitC ac c cc)) an rc) cn
theorem cntB_s (f : Nat → Bool) (n : Nat) : cntB f (n + 1) = iF (f n) (cntB f n) := by
  show cntB f n + (if f n = true then 1 else 0) = _
  unfold iF; split <;> rfl
theorem ho_s {f : Nat → Option Nat} {ho n : Nat} (h : ho = cntB (fun c => decide (f c = none)) n) : hoF ho (f n) = cntB (fun c => decide (f c = none)) (n + 1) := by
  rw [cntB_s, ← h]
  cases e : f n with
  | none => rfl
  | some q => rfl
theorem ow_s {f : Nat → Option Nat} {ow : Nat → Nat} {n p : Nat} (h : ow p = cntB (fun c => decide (f c = some p)) n) : owF ow (f n) p = cntB (fun c => decide (f c = some p)) (n + 1) := by
  rw [cntB_s, ← h]
  cases e : f n with
  | none => rfl
  | some q =>
    show va_up ow q (ow q + 1) p = iF (decide (some q = some p)) (ow p)
    by_cases e2 : q = p
    · subst e2; rw [up_s, decide_eq_true rfl]; rfl
    · rw [up_n _ _ (fun h => e2 h.symm), decide_eq_false (fun h => e2 (Option.some.inj h))]; rfl

set_option maxHeartbeats 4000000 in
set_option maxRecDepth 100000 in
theorem c_X0_refresh (lQ : Launch) (D : va_G) (kA : Nat → ClassId) (qc : Nat → Nat) (cn : Nat) (sd : Nat → Nat) (bt : Nat → Nat) (fi : Nat → Option Nat) (se : Nat → Option Nat) (tl : Nat → Nat) (ax : Nat → Nat) (cf : Nat → Bool) (ow : Nat → Nat) (ho : Nat) (ov : Nat) (cs : Nat) (q : Nat → Nat) (cc : Nat) (ac : Nat → Nat) (co : Nat → Nat) (ad : Nat) (rc : Nat) (nm : Nat → Nat) (st : Nat → Nat) (an : Nat → Nat) (sz : Nat) (hcc : cc ≤ 5) (hac : ∀ k, k < cc → 2 ≤ ac k ∧ ac k ≤ 4) (hrc : rc ≤ 20) (han : ∀ j, j < rc → an j < 11) (hst : ∀ j, j < rc → st j < 1048576) : Met lQ yX0_refresh wsX0_refresh (rmN 1 24) (wr_Pc D vwCl [.ref (qc 0)] ((wC kA qc q cn sd bt fi se tl ax cf ow ho ov cs) ++ (wT kA q cc ac co ad rc nm st an)) (tyK kA) sz) (va_Qv (S := Nat × (Nat → Nat) × (Nat → Nat) × (Nat → Option Nat) × (Nat → Option Nat) × (Nat → Nat) × (Nat → Nat) × (Nat → Bool) × (Nat → Nat) × Nat × Nat × Nat) (fun (u : Nat × (Nat → Nat) × (Nat → Nat) × (Nat → Option Nat) × (Nat → Option Nat) × (Nat → Nat) × (Nat → Nat) × (Nat → Bool) × (Nat → Nat) × Nat × Nat × Nat) => cOK cc ac rc st an u.1 u.2.1 u.2.2.1 u.2.2.2.1 u.2.2.2.2.1 u.2.2.2.2.2.1 u.2.2.2.2.2.2.1 u.2.2.2.2.2.2.2.1 u.2.2.2.2.2.2.2.2.1 u.2.2.2.2.2.2.2.2.2.1 u.2.2.2.2.2.2.2.2.2.2.1 u.2.2.2.2.2.2.2.2.2.2.2) (wr_B D vwCl ((wC kA qc q cn sd bt fi se tl ax cf ow ho ov cs) ++ (wT kA q cc ac co ad rc nm st an)) (tyK kA) sz (fun u => ((wC kA qc q u.1 u.2.1 u.2.2.1 u.2.2.2.1 u.2.2.2.2.1 u.2.2.2.2.2.1 u.2.2.2.2.2.2.1 u.2.2.2.2.2.2.2.1 u.2.2.2.2.2.2.2.2.1 u.2.2.2.2.2.2.2.2.2.1 u.2.2.2.2.2.2.2.2.2.2.1 u.2.2.2.2.2.2.2.2.2.2.2) ++ (wT kA q cc ac co ad rc nm st an)))) (va_A ((wC kA qc q cn sd bt fi se tl ax cf ow ho ov cs) ++ (wT kA q cc ac co ad rc nm st an)) sz)) 0 0 (va_A ((wC kA qc q cn sd bt fi se tl ax cf ow ho ov cs) ++ (wT kA q cc ac co ad rc nm st an)) sz) := by
  refine Met.ofW (cc := cX0_refresh) (maxL := 2) (ret := none) (by decide) rfl ?_
  intro pQ eQ s mQ args below meth cQ s₁ B hml hv
  obtain ⟨rfl, hsz, hP, hK, hD0⟩ := hv
  have hx := B.exec
  have hb := B.bytes
  have hr := B.returns
  have hts := atoms_spec (ws := wsX0_refresh) B.pre
  have hown : s.vm.findClass RX0 = some mQ.cls := findClass_of_methodNamed B.named
  have hlocks : meth.locks = false := B.notSynchronized
  have hS0 : CallFix pQ mQ cQ cX0_refresh 2 s ([.ref (qc 0)] : List Value).toArray wsX0_refresh RX0 := ⟨hx, hb, hml, hown, hts⟩
  subst hsz
  have hD := hD0.self (sz := s.heap.size)
  generalize hAe : va_A ((wC kA qc q cn sd bt fi se tl ax cf ow ho ov cs) ++ (wT kA q cc ac co ad rc nm st an)) s.heap.size = A at hD ⊢
  have hA : ∀ q : Nat, s.heap.size ≤ q → A q := fun q h => by rw [← hAe]; exact Or.inr h
  have hS : va_S A s.heap s.heap [] := va_S.rf
  have f44 : (Cond.fieldLink RX0 44 "AskedRules$Cases" "holes" "I").before ([.ref (qc 0)] : List Value).toArray s = true := hts _ (by decide +kernel)
  have hinX0 : ∀ w ∈ wsX00, w ∈ wsX0_refresh := by decide +kernel
  have f48 : (Cond.fieldLink RX0 48 "AskedRules$Cases" "overlaps" "I").before ([.ref (qc 0)] : List Value).toArray s = true := hts _ (by decide +kernel)
  have f51 : (Cond.fieldLink RX0 51 "AskedRules$Cases" "conflicts" "I").before ([.ref (qc 0)] : List Value).toArray s = true := hts _ (by decide +kernel)
  have f54 : (Cond.fieldLink RX0 54 "AskedRules$Cases" "count" "I").before ([.ref (qc 0)] : List Value).toArray s = true := hts _ (by decide +kernel)
  have f34 : (Cond.fieldLink RX0 34 "AskedRules$Cases" "owned" "[I").before ([.ref (qc 0)] : List Value).toArray s = true := hts _ (by decide +kernel)
  have hl := lv_entry ([.ref (qc 0)]) (n := 2) (Nat.le_of_ble_eq_true rfl)
  rw [lg_entry_eq]
  generalize (lg_sl ([.ref (qc 0)]) ++ List.replicate (2 - (lg_sl ([.ref (qc 0)])).length) Slot.unset).toArray = ls at hl ⊢
  have hl : lv_has ls 2 [(0, .ref (qc 0))] := hl
  have hP : va_P D vwCl ((wC kA qc q cn sd bt fi se tl ax cf ow ho ov cs) ++ (wT kA q cc ac co ad rc nm st an)) s.heap := hP
  have hD : va_D A ((wC kA qc q cn sd bt fi se tl ax cf ow ho ov cs) ++ (wT kA q cc ac co ad rc nm st an)) := hD
  refine lv_aload_n hx hb dX0_refresh_0 rfl (lv_at hl 0 rfl) ?_
  refine n_wVv (b := qc 0) (As := []) (rest := []) (wr := []) (ws' := fun u => ((wC kA qc q (prodF ac cc) u.1 u.2 fi se tl ax cf ow ho ov cs) ++ (wT kA q cc ac co ad rc nm st an))) hS0 (c_X0_layOut lQ D kA qc cn sd bt fi se tl ax cf ow ho ov cs q cc ac co ad rc nm st an s.heap.size (by first | assumption | omega) (by first | assumption | omega)) (cwV 0 hts gX0_refresh_X0_layOut rfl rfl rfl (by decide +kernel) ⟨Nat.le_of_ble_eq_true rfl, Nat.le_of_ble_eq_true rfl⟩) hP hD hS hA hK hK (by simpa only [List.append_assoc, List.append_nil] using ((List.Perm.refl _).trans (List.Perm.append_left _ (List.Perm.of_eq (List.append_nil _).symm)))) (fun u => List.Perm.symm (by simpa only [List.append_assoc, List.append_nil] using ((List.Perm.refl _).trans (List.Perm.append_left _ (List.Perm.of_eq (List.append_nil _).symm))))) (q0 := 0) rfl rfl rfl rfl rfl hl.1 (Nat.le_of_ble_eq_true rfl) dX0_refresh_1 ⟨Nat.le_refl _, Nat.le_refl _⟩ (fun u1 H locs h1 hP hD hS => ?_)
  obtain ⟨sd1_1, bt1_1⟩ := u1
  obtain ⟨h1_1, h1_2⟩ := h1
  try dsimp only at h1_1 h1_2
  have hP : va_P D vwCl ((wC kA qc q (prodF ac cc) sd1_1 bt1_1 fi se tl ax cf ow ho ov cs) ++ (wT kA q cc ac co ad rc nm st an)) H := hP
  have hD : va_D A ((wC kA qc q (prodF ac cc) sd1_1 bt1_1 fi se tl ax cf ow ho ov cs) ++ (wT kA q cc ac co ad rc nm st an)) := hD
  have hbt9 := h1_2
  have hP10 := prodF_1024 hcc hac
  refine lv_aload_n hx hb dX0_refresh_4 rfl (lv_at hl 0 rfl) ?_
  refine lv_iconst (v := (nI 0)) hx hb dX0_refresh_5 (by decide) ?_
  refine n_put (ci := 0) (v := .int (nI 0)) (C := RX0) (T := TX0) (N := 13) (ws' := ((wC kA qc q (prodF ac cc) sd1_1 bt1_1 fi se tl ax cf ow 0 ov cs) ++ (wT kA q cc ac co ad rc nm st an))) hx hb hts hinX0 tyX0 tyX0_ok nmX0 hown hK hP hD hS 0 rfl rfl 10 rfl ⟨rfl, rfl, rfl, rfl⟩ f44 rfl rfl rfl rfl dX0_refresh_6 (fun H locs hP hD hS => ?_)
  refine lv_aload_n hx hb dX0_refresh_9 rfl (lv_at hl 0 rfl) ?_
  refine lv_iconst (v := (nI 0)) hx hb dX0_refresh_10 (by decide) ?_
  refine n_put (ci := 0) (v := .int (nI 0)) (C := RX0) (T := TX0) (N := 13) (ws' := ((wC kA qc q (prodF ac cc) sd1_1 bt1_1 fi se tl ax cf ow 0 0 cs) ++ (wT kA q cc ac co ad rc nm st an))) hx hb hts hinX0 tyX0 tyX0_ok nmX0 hown hK hP hD hS 0 rfl rfl 11 rfl ⟨rfl, rfl, rfl, rfl⟩ f48 rfl rfl rfl rfl dX0_refresh_11 (fun H locs hP hD hS => ?_)
  refine lv_aload_n hx hb dX0_refresh_14 rfl (lv_at hl 0 rfl) ?_
  refine lv_iconst (v := (nI 0)) hx hb dX0_refresh_15 (by decide) ?_
  refine n_put (ci := 0) (v := .int (nI 0)) (C := RX0) (T := TX0) (N := 13) (ws' := ((wC kA qc q (prodF ac cc) sd1_1 bt1_1 fi se tl ax cf ow 0 0 0) ++ (wT kA q cc ac co ad rc nm st an))) hx hb hts hinX0 tyX0 tyX0_ok nmX0 hown hK hP hD hS 0 rfl rfl 12 rfl ⟨rfl, rfl, rfl, rfl⟩ f51 rfl rfl rfl rfl dX0_refresh_16 (fun H locs hP hD hS => ?_)
  refine lv_iconst (v := (nI 0)) hx hb dX0_refresh_19 (by decide) ?_
  refine lv_istore_n (lv' := [(1, .int (nI 0)), (0, .ref (qc 0))]) hx hb dX0_refresh_20 rfl hl (by decide) rfl (fun ls hl => ?_)
  have L21 : ∀ (nQ : Nat) (i : Nat) (owx : Nat → Nat), 20 - i < nQ → (i ≤ 20) → (∀ p, p < i → owx p = 0) → ∀ (H : Heap) (locs : List Loc), va_P D vwCl ((wC kA qc q (prodF ac cc) sd1_1 bt1_1 fi se tl ax cf owx 0 0 0) ++ (wT kA q cc ac co ad rc nm st an)) H → va_D A ((wC kA qc q (prodF ac cc) sd1_1 bt1_1 fi se tl ax cf owx 0 0 0) ++ (wT kA q cc ac co ad rc nm st an)) → va_S A s.heap H locs → ∀ (ls : Array Slot), lv_has ls 2 [(1, .int (nI i)), (0, .ref (qc 0))] → W pQ lQ eQ (headSpec wsX0_refresh (rmN 1 24)).room s mQ ([.ref (qc 0)] : List Value).toArray below meth cQ H locs 0 0 (MQ below (va_Qv (S := Nat × (Nat → Nat) × (Nat → Nat) × (Nat → Option Nat) × (Nat → Option Nat) × (Nat → Nat) × (Nat → Nat) × (Nat → Bool) × (Nat → Nat) × Nat × Nat × Nat) (fun (u : Nat × (Nat → Nat) × (Nat → Nat) × (Nat → Option Nat) × (Nat → Option Nat) × (Nat → Nat) × (Nat → Nat) × (Nat → Bool) × (Nat → Nat) × Nat × Nat × Nat) => cOK cc ac rc st an u.1 u.2.1 u.2.2.1 u.2.2.2.1 u.2.2.2.2.1 u.2.2.2.2.2.1 u.2.2.2.2.2.2.1 u.2.2.2.2.2.2.2.1 u.2.2.2.2.2.2.2.2.1 u.2.2.2.2.2.2.2.2.2.1 u.2.2.2.2.2.2.2.2.2.2.1 u.2.2.2.2.2.2.2.2.2.2.2) (wr_B D vwCl ((wC kA qc q cn sd bt fi se tl ax cf ow ho ov cs) ++ (wT kA q cc ac co ad rc nm st an)) (tyK kA) s.heap.size (fun u => ((wC kA qc q u.1 u.2.1 u.2.2.1 u.2.2.2.1 u.2.2.2.2.1 u.2.2.2.2.2.1 u.2.2.2.2.2.2.1 u.2.2.2.2.2.2.2.1 u.2.2.2.2.2.2.2.2.1 u.2.2.2.2.2.2.2.2.2.1 u.2.2.2.2.2.2.2.2.2.2.1 u.2.2.2.2.2.2.2.2.2.2.2) ++ (wT kA q cc ac co ad rc nm st an)))) A) ([.ref (qc 0)] : List Value).toArray s 0 0 A) (F0 mQ 21 ls []) := by
    intro nQ
    induction nQ with
    | zero => intro i owx hn; exact absurd hn (Nat.not_lt_zero _)
    | succ nQ ih21 =>
      intro i owx hm21 hi how H locs hP hD hS ls hl
      refine lv_iload_n hx hb dX0_refresh_21 rfl (lv_at hl 0 rfl) ?_
      refine lv_bipush (v := (nI 20)) hx hb dX0_refresh_22 (by decide) ?_
      refine n_icmp_ge (a := i) (b := 20) (tgt := 40) hx hb (by omega) (by omega) dX0_refresh_24 (by decide) (fun c24 => ?_) (fun c24 => ?_)
      · refine lv_iconst (v := (nI 0)) hx hb dX0_refresh_40 (by decide) ?_
        refine lv_istore_n (lv' := [(1, .int (nI 0)), (0, .ref (qc 0))]) hx hb dX0_refresh_41 rfl hl (by decide) rfl (fun ls hl => ?_)
        have hi20 : i = 20 := by omega
        have L42 : ∀ (nQ : Nat) (i : Nat) (fiy : Nat → Option Nat) (sey : Nat → Option Nat) (tly : Nat → Nat) (axy : Nat → Nat) (cfy : Nat → Bool) (owy : Nat → Nat) (hoy : Nat) (ovy : Nat) (csy : Nat), prodF ac cc - i < nQ → (i ≤ prodF ac cc) → (∀ c, c < i → fiy c = firstF (tlW st (bitC ac c cc)) rc) → (∀ c, c < i → sey c = secF (tlW st (bitC ac c cc)) rc) → (∀ c, c < i → tly c = cntB (tlW st (bitC ac c cc)) rc) → (∀ c, c < i → axy c = actO an (firstF (tlW st (bitC ac c cc)) rc)) → (∀ c, c < i → cfy c = cfB (tlW st (bitC ac c cc)) an rc) → (∀ p, p < 20 → owy p = cntB (fun c => decide (firstF (tlW st (bitC ac c cc)) rc = some p)) i) → (hoy = cntB (fun c => decide (firstF (tlW st (bitC ac c cc)) rc = none)) i) → (ovy = cntB (fun c => decide (2 ≤ cntB (tlW st (bitC ac c cc)) rc)) i) → (csy = cntB (fun c => cfB (tlW st (bitC ac c cc)) an rc) i) → ∀ (H : Heap) (locs : List Loc), va_P D vwCl ((wC kA qc q (prodF ac cc) sd1_1 bt1_1 fiy sey tly axy cfy owy hoy ovy csy) ++ (wT kA q cc ac co ad rc nm st an)) H → va_D A ((wC kA qc q (prodF ac cc) sd1_1 bt1_1 fiy sey tly axy cfy owy hoy ovy csy) ++ (wT kA q cc ac co ad rc nm st an)) → va_S A s.heap H locs → ∀ (ls : Array Slot), lv_has ls 2 [(1, .int (nI i)), (0, .ref (qc 0))] → W pQ lQ eQ (headSpec wsX0_refresh (rmN 1 24)).room s mQ ([.ref (qc 0)] : List Value).toArray below meth cQ H locs 0 0 (MQ below (va_Qv (S := Nat × (Nat → Nat) × (Nat → Nat) × (Nat → Option Nat) × (Nat → Option Nat) × (Nat → Nat) × (Nat → Nat) × (Nat → Bool) × (Nat → Nat) × Nat × Nat × Nat) (fun (u : Nat × (Nat → Nat) × (Nat → Nat) × (Nat → Option Nat) × (Nat → Option Nat) × (Nat → Nat) × (Nat → Nat) × (Nat → Bool) × (Nat → Nat) × Nat × Nat × Nat) => cOK cc ac rc st an u.1 u.2.1 u.2.2.1 u.2.2.2.1 u.2.2.2.2.1 u.2.2.2.2.2.1 u.2.2.2.2.2.2.1 u.2.2.2.2.2.2.2.1 u.2.2.2.2.2.2.2.2.1 u.2.2.2.2.2.2.2.2.2.1 u.2.2.2.2.2.2.2.2.2.2.1 u.2.2.2.2.2.2.2.2.2.2.2) (wr_B D vwCl ((wC kA qc q cn sd bt fi se tl ax cf ow ho ov cs) ++ (wT kA q cc ac co ad rc nm st an)) (tyK kA) s.heap.size (fun u => ((wC kA qc q u.1 u.2.1 u.2.2.1 u.2.2.2.1 u.2.2.2.2.1 u.2.2.2.2.2.1 u.2.2.2.2.2.2.1 u.2.2.2.2.2.2.2.1 u.2.2.2.2.2.2.2.2.1 u.2.2.2.2.2.2.2.2.2.1 u.2.2.2.2.2.2.2.2.2.2.1 u.2.2.2.2.2.2.2.2.2.2.2) ++ (wT kA q cc ac co ad rc nm st an)))) A) ([.ref (qc 0)] : List Value).toArray s 0 0 A) (F0 mQ 42 ls []) := by
          intro nQ
          induction nQ with
          | zero => intro i fiy sey tly axy cfy owy hoy ovy csy hn; exact absurd hn (Nat.not_lt_zero _)
          | succ nQ ih42 =>
            intro i fiy sey tly axy cfy owy hoy ovy csy hm42 hi hfi hse htl hax hcf how hho hov hcs H locs hP hD hS ls hl
            refine lv_iload_n hx hb dX0_refresh_42 rfl (lv_at hl 0 rfl) ?_
            refine lv_aload_n hx hb dX0_refresh_43 rfl (lv_at hl 1 rfl) ?_
            refine n_get (ci := 0) (v := .int (nI (prodF ac cc))) (C := RX0) (T := TX0) (N := 13) hx hb hts hinX0 hown hK hP 0 rfl rfl 1 rfl ⟨rfl, rfl, rfl⟩ f54 rfl dX0_refresh_44 ?_
            refine n_icmp_ge (a := i) (b := prodF ac cc) (tgt := 66) hx hb (by omega) (by omega) dX0_refresh_47 (by decide) (fun c47 => ?_) (fun c47 => ?_)
            · have e9 : prodF ac cc = i := by omega
              subst e9
              exact n_wretv hx hb hr hlocks (post := fun (u : Nat × (Nat → Nat) × (Nat → Nat) × (Nat → Option Nat) × (Nat → Option Nat) × (Nat → Nat) × (Nat → Nat) × (Nat → Bool) × (Nat → Nat) × Nat × Nat × Nat) => cOK cc ac rc st an u.1 u.2.1 u.2.2.1 u.2.2.2.1 u.2.2.2.2.1 u.2.2.2.2.2.1 u.2.2.2.2.2.2.1 u.2.2.2.2.2.2.2.1 u.2.2.2.2.2.2.2.2.1 u.2.2.2.2.2.2.2.2.2.1 u.2.2.2.2.2.2.2.2.2.2.1 u.2.2.2.2.2.2.2.2.2.2.2) (w1 := fun u => ((wC kA qc q u.1 u.2.1 u.2.2.1 u.2.2.2.1 u.2.2.2.2.1 u.2.2.2.2.2.1 u.2.2.2.2.2.2.1 u.2.2.2.2.2.2.2.1 u.2.2.2.2.2.2.2.2.1 u.2.2.2.2.2.2.2.2.2.1 u.2.2.2.2.2.2.2.2.2.2.1 u.2.2.2.2.2.2.2.2.2.2.2) ++ (wT kA q cc ac co ad rc nm st an))) (prodF ac cc, sd1_1, bt1_1, fiy, sey, tly, axy, cfy, owy, hoy, ovy, csy) ⟨rfl, h1_1, hbt9, hfi, hse, htl, hax, hcf, how, hho, hov, hcs⟩ hP hD hK hS hAe dX0_refresh_66
            · refine lv_aload_n hx hb dX0_refresh_50 rfl (lv_at hl 1 rfl) ?_
              refine lv_iload_n hx hb dX0_refresh_51 rfl (lv_at hl 0 rfl) ?_
              refine n_wVv (b := qc 0) (As := [.int (nI i)]) (rest := []) (wr := []) (ws' := fun u => ((wC kA qc q (prodF ac cc) sd1_1 bt1_1 (va_up fiy i (firstF (tlW st (bt1_1 i)) rc)) (va_up sey i (secF (tlW st (bt1_1 i)) rc)) (va_up tly i (cntB (tlW st (bt1_1 i)) rc)) (va_up axy i (actO an (firstF (tlW st (bt1_1 i)) rc))) (va_up cfy i (cfB (tlW st (bt1_1 i)) an rc)) owy hoy ovy csy) ++ (wT kA q cc ac co ad rc nm st an))) hS0 (c_X0_judge lQ D kA qc (prodF ac cc) sd1_1 bt1_1 fiy sey tly axy cfy owy hoy ovy csy q cc ac co ad rc nm st an i H.size (by first | assumption | omega) (by first | assumption | omega) (by first | assumption | omega) (Nat.lt_of_lt_of_le c47 (prodF_1024 hcc hac)) (by rw [hbt9 _ c47]; exact bitC_lt20 _ hcc hac)) (cwV 1 hts gX0_refresh_X0_judge rfl rfl rfl (by decide +kernel) ⟨Nat.le_of_ble_eq_true rfl, Nat.le_of_ble_eq_true rfl⟩) hP hD hS hA hK hK (by simpa only [List.append_assoc, List.append_nil] using ((List.Perm.refl _).trans (List.Perm.append_left _ (List.Perm.of_eq (List.append_nil _).symm)))) (fun u => List.Perm.symm (by simpa only [List.append_assoc, List.append_nil] using ((List.Perm.refl _).trans (List.Perm.append_left _ (List.Perm.of_eq (List.append_nil _).symm))))) (q0 := 0) rfl rfl rfl rfl rfl hl.1 (Nat.le_of_ble_eq_true rfl) dX0_refresh_52 ⟨Nat.le_refl _, Nat.le_refl _⟩ (fun u52 H locs h52 hP hD hS => ?_)
              have hP : va_P D vwCl ((wC kA qc q (prodF ac cc) sd1_1 bt1_1 (va_up fiy i (firstF (tlW st (bt1_1 i)) rc)) (va_up sey i (secF (tlW st (bt1_1 i)) rc)) (va_up tly i (cntB (tlW st (bt1_1 i)) rc)) (va_up axy i (actO an (firstF (tlW st (bt1_1 i)) rc))) (va_up cfy i (cfB (tlW st (bt1_1 i)) an rc)) owy hoy ovy csy) ++ (wT kA q cc ac co ad rc nm st an)) H := hP
              have hD : va_D A ((wC kA qc q (prodF ac cc) sd1_1 bt1_1 (va_up fiy i (firstF (tlW st (bt1_1 i)) rc)) (va_up sey i (secF (tlW st (bt1_1 i)) rc)) (va_up tly i (cntB (tlW st (bt1_1 i)) rc)) (va_up axy i (actO an (firstF (tlW st (bt1_1 i)) rc))) (va_up cfy i (cfB (tlW st (bt1_1 i)) an rc)) owy hoy ovy csy) ++ (wT kA q cc ac co ad rc nm st an)) := hD
              refine lv_aload_n hx hb dX0_refresh_55 rfl (lv_at hl 1 rfl) ?_
              refine lv_iload_n hx hb dX0_refresh_56 rfl (lv_at hl 0 rfl) ?_
              refine n_wVv (b := qc 0) (As := [.int (nI i)]) (rest := []) (wr := []) (ws' := fun u => ((wC kA qc q (prodF ac cc) sd1_1 bt1_1 (va_up fiy i (firstF (tlW st (bt1_1 i)) rc)) (va_up sey i (secF (tlW st (bt1_1 i)) rc)) (va_up tly i (cntB (tlW st (bt1_1 i)) rc)) (va_up axy i (actO an (firstF (tlW st (bt1_1 i)) rc))) (va_up cfy i (cfB (tlW st (bt1_1 i)) an rc)) (owF owy ((va_up fiy i (firstF (tlW st (bt1_1 i)) rc)) i)) (hoF hoy ((va_up fiy i (firstF (tlW st (bt1_1 i)) rc)) i)) (iF (decide (2 ≤ (va_up tly i (cntB (tlW st (bt1_1 i)) rc)) i)) ovy) (iF ((va_up cfy i (cfB (tlW st (bt1_1 i)) an rc)) i) csy)) ++ (wT kA q cc ac co ad rc nm st an))) hS0 (c_X0_tally lQ D kA qc (prodF ac cc) sd1_1 bt1_1 (va_up fiy i (firstF (tlW st (bt1_1 i)) rc)) (va_up sey i (secF (tlW st (bt1_1 i)) rc)) (va_up tly i (cntB (tlW st (bt1_1 i)) rc)) (va_up axy i (actO an (firstF (tlW st (bt1_1 i)) rc))) (va_up cfy i (cfB (tlW st (bt1_1 i)) an rc)) owy hoy ovy csy q cc ac co ad rc nm st an i H.size (Nat.lt_of_lt_of_le c47 (prodF_1024 hcc hac)) (fun q h => by rw [up_s] at h; have := (firstF_spec h).1; omega) (by rw [up_s]; have := cntB_le (tlW st (bt1_1 i)) rc; omega)) (cwV 1 hts gX0_refresh_X0_tally rfl rfl rfl (by decide +kernel) ⟨Nat.le_of_ble_eq_true rfl, Nat.le_of_ble_eq_true rfl⟩) hP hD hS hA hK hK (by simpa only [List.append_assoc, List.append_nil] using ((List.Perm.refl _).trans (List.Perm.append_left _ (List.Perm.of_eq (List.append_nil _).symm)))) (fun u => List.Perm.symm (by simpa only [List.append_assoc, List.append_nil] using ((List.Perm.refl _).trans (List.Perm.append_left _ (List.Perm.of_eq (List.append_nil _).symm))))) (q0 := 0) rfl rfl rfl rfl rfl hl.1 (Nat.le_of_ble_eq_true rfl) dX0_refresh_57 ⟨Nat.le_refl _, Nat.le_refl _⟩ (fun u57 H locs h57 hP hD hS => ?_)
              have hP : va_P D vwCl ((wC kA qc q (prodF ac cc) sd1_1 bt1_1 (va_up fiy i (firstF (tlW st (bt1_1 i)) rc)) (va_up sey i (secF (tlW st (bt1_1 i)) rc)) (va_up tly i (cntB (tlW st (bt1_1 i)) rc)) (va_up axy i (actO an (firstF (tlW st (bt1_1 i)) rc))) (va_up cfy i (cfB (tlW st (bt1_1 i)) an rc)) (owF owy ((va_up fiy i (firstF (tlW st (bt1_1 i)) rc)) i)) (hoF hoy ((va_up fiy i (firstF (tlW st (bt1_1 i)) rc)) i)) (iF (decide (2 ≤ (va_up tly i (cntB (tlW st (bt1_1 i)) rc)) i)) ovy) (iF ((va_up cfy i (cfB (tlW st (bt1_1 i)) an rc)) i) csy)) ++ (wT kA q cc ac co ad rc nm st an)) H := hP
              have hD : va_D A ((wC kA qc q (prodF ac cc) sd1_1 bt1_1 (va_up fiy i (firstF (tlW st (bt1_1 i)) rc)) (va_up sey i (secF (tlW st (bt1_1 i)) rc)) (va_up tly i (cntB (tlW st (bt1_1 i)) rc)) (va_up axy i (actO an (firstF (tlW st (bt1_1 i)) rc))) (va_up cfy i (cfB (tlW st (bt1_1 i)) an rc)) (owF owy ((va_up fiy i (firstF (tlW st (bt1_1 i)) rc)) i)) (hoF hoy ((va_up fiy i (firstF (tlW st (bt1_1 i)) rc)) i)) (iF (decide (2 ≤ (va_up tly i (cntB (tlW st (bt1_1 i)) rc)) i)) ovy) (iF ((va_up cfy i (cfB (tlW st (bt1_1 i)) an rc)) i) csy)) ++ (wT kA q cc ac co ad rc nm st an)) := hD
              refine lv_iinc (v := (nI (i + 1))) (lv' := [(1, .int (nI (i + 1))), (0, .ref (qc 0))]) hx hb dX0_refresh_60 hl (k := 0) rfl (nI_inc _) (by decide) rfl (fun ls hl => ?_)
              refine lv_goto (tgt := 42) hx hb dX0_refresh_63 (by decide) ?_
              exact ih42 (i + 1) (va_up fiy i (firstF (tlW st (bt1_1 i)) rc)) (va_up sey i (secF (tlW st (bt1_1 i)) rc)) (va_up tly i (cntB (tlW st (bt1_1 i)) rc)) (va_up axy i (actO an (firstF (tlW st (bt1_1 i)) rc))) (va_up cfy i (cfB (tlW st (bt1_1 i)) an rc)) (owF owy ((va_up fiy i (firstF (tlW st (bt1_1 i)) rc)) i)) (hoF hoy ((va_up fiy i (firstF (tlW st (bt1_1 i)) rc)) i)) (iF (decide (2 ≤ (va_up tly i (cntB (tlW st (bt1_1 i)) rc)) i)) ovy) (iF ((va_up cfy i (cfB (tlW st (bt1_1 i)) an rc)) i) csy) (by omega) (by first | assumption | omega) (fun c hc => by by_cases e : c = i; (subst e; rw [up_s, hbt9 _ c47]); rw [up_n _ _ e]; exact hfi c (by omega)) (fun c hc => by by_cases e : c = i; (subst e; rw [up_s, hbt9 _ c47]); rw [up_n _ _ e]; exact hse c (by omega)) (fun c hc => by by_cases e : c = i; (subst e; rw [up_s, hbt9 _ c47]); rw [up_n _ _ e]; exact htl c (by omega)) (fun c hc => by by_cases e : c = i; (subst e; rw [up_s, hbt9 _ c47]); rw [up_n _ _ e]; exact hax c (by omega)) (fun c hc => by by_cases e : c = i; (subst e; rw [up_s, hbt9 _ c47]); rw [up_n _ _ e]; exact hcf c (by omega)) (fun p hp => by rw [up_s, hbt9 _ c47]; exact ow_s (f := (fun c => firstF (tlW st (bitC ac c cc)) rc)) (how p hp)) (by rw [up_s, hbt9 _ c47]; exact ho_s (f := (fun c => firstF (tlW st (bitC ac c cc)) rc)) hho) (by rw [up_s, hbt9 _ c47, cntB_s, ← hov]) (by rw [up_s, hbt9 _ c47, cntB_s, ← hcs]) _ _ hP hD hS _ (lv_sub hl [0, 1] rfl)
        exact L42 ((prodF ac cc - 0) + 1) 0 fi se tl ax cf owx 0 0 0 (Nat.lt_succ_self _) (Nat.zero_le _) (fun c hc => absurd hc (Nat.not_lt_zero _)) (fun c hc => absurd hc (Nat.not_lt_zero _)) (fun c hc => absurd hc (Nat.not_lt_zero _)) (fun c hc => absurd hc (Nat.not_lt_zero _)) (fun c hc => absurd hc (Nat.not_lt_zero _)) (fun p hp => how p (by omega)) rfl rfl rfl _ _ hP hD hS _ (lv_sub hl [0, 1] rfl)
      · refine lv_aload_n hx hb dX0_refresh_27 rfl (lv_at hl 1 rfl) ?_
        refine n_get (ci := 0) (v := .ref (qc 8)) (C := RX0) (T := TX0) (N := 13) hx hb hts hinX0 hown hK hP 0 rfl rfl 9 rfl ⟨rfl, rfl, rfl⟩ f34 rfl dX0_refresh_28 ?_
        refine lv_iload_n hx hb dX0_refresh_31 rfl (lv_at hl 0 rfl) ?_
        refine lv_iconst (v := (nI 0)) hx hb dX0_refresh_32 (by decide) ?_
        refine n_iast (i := i) (x := (nI 0)) (g := aN (va_up owx i 0)) (ws' := ((wC kA qc q (prodF ac cc) sd1_1 bt1_1 fi se tl ax cf (va_up owx i 0) 0 0 0) ++ (wT kA q cc ac co ad rc nm st an))) hx hb hK hP hD hS 8 0 rfl rfl (by omega) (Nat.le_of_ble_eq_true rfl) (aN_up _ _ _) rfl dX0_refresh_33 (fun H locs hP hD hS => ?_)
        refine lv_iinc (v := (nI (i + 1))) (lv' := [(1, .int (nI (i + 1))), (0, .ref (qc 0))]) hx hb dX0_refresh_34 hl (k := 0) rfl (nI_inc _) (by decide) rfl (fun ls hl => ?_)
        refine lv_goto (tgt := 21) hx hb dX0_refresh_37 (by decide) ?_
        exact ih21 (i + 1) (va_up owx i 0) (by omega) (by first | assumption | omega) (fun c hc => by by_cases e : c = i; (subst e; rw [up_s]); rw [up_n _ _ e]; exact how c (by omega)) _ _ hP hD hS _ (lv_sub hl [0, 1] rfl)
  exact L21 ((20 - 0) + 1) 0 ow (Nat.lt_succ_self _) (by first | assumption | omega) (fun c hc => absurd hc (Nat.not_lt_zero _)) _ _ hP hD hS _ (lv_sub hl [0, 1] rfl)
