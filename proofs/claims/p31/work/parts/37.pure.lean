/-! ===== numbers and sets ===== -/
theorem nCs_s (ac : Nat → Nat) (i k : Nat) : k % prodF ac (i + 1) = k % prodF ac i + prodF ac i * digF ac i k := by
  rw [prodF_s, Nat.mod_mul]; rfl
theorem sup_or (x a b : Nat) : x &&& (a ||| b) = a ||| b ↔ x &&& a = a ∧ x &&& b = b := by
  constructor
  · intro h
    have hb : ∀ i, (x.testBit i && (a.testBit i || b.testBit i)) = (a.testBit i || b.testBit i) := fun i => by
      have := congrArg (fun z => z.testBit i) h
      simpa only [Nat.testBit_and, Nat.testBit_or] using this
    refine ⟨Nat.eq_of_testBit_eq (fun i => ?_), Nat.eq_of_testBit_eq (fun i => ?_)⟩
    · have := hb i
      rw [Nat.testBit_and]
      revert this
      cases x.testBit i <;> cases a.testBit i <;> cases b.testBit i <;> decide
    · have := hb i
      rw [Nat.testBit_and]
      revert this
      cases x.testBit i <;> cases a.testBit i <;> cases b.testBit i <;> decide
  · rintro ⟨h1, h2⟩
    refine Nat.eq_of_testBit_eq (fun i => ?_)
    have g1 := congrArg (fun z => z.testBit i) h1
    have g2 := congrArg (fun z => z.testBit i) h2
    simp only [Nat.testBit_and] at g1 g2
    rw [Nat.testBit_and, Nat.testBit_or]
    revert g1 g2
    cases x.testBit i <;> cases a.testBit i <;> cases b.testBit i <;> decide
theorem sup_bit (x j : Nat) : x &&& (1 <<< j) = 1 <<< j ↔ x.testBit j = true := by
  constructor
  · intro h
    have := congrArg (fun z => z.testBit j) h
    simp only [Nat.testBit_and, Nat.testBit_shiftLeft] at this
    simpa using this
  · intro h
    refine Nat.eq_of_testBit_eq (fun i => ?_)
    rw [Nat.testBit_and, Nat.testBit_shiftLeft]
    by_cases e : i = j
    · subst e; simp [h]
    · by_cases e2 : j ≤ i
      · have e3 : Nat.testBit 1 (i - j) = false := by
          obtain ⟨d, hd⟩ : ∃ d, i - j = d + 1 := ⟨i - j - 1, by omega⟩
          rw [hd, Nat.testBit_succ]; simp
        simp [e3]
      · simp [e2]
def hasN (s k : Nat) : Bool := decide ((s >>> k) &&& 1 = 1)
theorem hasN_bit (s k : Nat) : hasN s k = s.testBit k := by
  unfold hasN
  rw [Nat.testBit_eq_decide_div_mod_eq, Nat.shiftRight_eq_div_pow, Nat.and_one_is_mod]
theorem hasN_nib {x c d : Nat} (hd : d < 4) : hasN (nibN x c) d = x.testBit (4 * c + d) := by
  rw [hasN_bit]
  unfold nibN
  rw [show (15 : Nat) = 2 ^ 4 - 1 from rfl, Nat.testBit_and, Nat.testBit_two_pow_sub_one, Nat.testBit_shiftRight]
  simp [hd]
/-- a row tells a case: set by set -/
def telB (t : TCt) (k p n : Nat) : Bool := allB (fun c => hasN (nibN (stT t p) c) (digF (acT t) c k)) n
theorem telB_bit {ac : Nat → Nat} {x k : Nat} : ∀ {n : Nat}, (∀ c, c < n → 2 ≤ ac c ∧ ac c ≤ 4) → (allB (fun c => hasN (nibN x c) (digF ac c k)) n = decide (x &&& bitC ac k n = bitC ac k n))
  | 0, _ => by
    show true = decide (x &&& 0 = 0)
    rw [Nat.and_zero]; rfl
  | n + 1, h => by
    have ih := telB_bit (x := x) (k := k) (n := n) (fun c hc => h c (by omega))
    have hd : digF ac n k < 4 := Nat.lt_of_lt_of_le (digF_lt (by have := (h n (by omega)).1; omega)) (h n (by omega)).2
    show (allB (fun c => hasN (nibN x c) (digF ac c k)) n && hasN (nibN x n) (digF ac n k)) = _
    rw [ih, hasN_nib hd, bitC_s, Bool.eq_iff_iff, Bool.and_eq_true, decide_eq_true_eq, decide_eq_true_eq, sup_or, sup_bit]
theorem telB_T {t : TCt} (h : okT t) (k p : Nat) : telB t k p (ccT t) = tlT t k p := telB_bit (okT_ac h)
theorem allB_s (f : Nat → Bool) (n : Nat) : allB f (n + 1) = (allB f n && f n) := rfl
theorem telB_s (t : TCt) (k p n : Nat) : telB t k p (n + 1) = (telB t k p n && hasN (nibN (stT t p) n) (digF (acT t) n k)) := rfl
theorem bits_fulN : ∀ a, a < 5 → bitsN (fulN a) 4 = a := by decide
/-! ===== first, second, conflict: a row more ===== -/
theorem fs_none {f : Nat → Bool} {p : Nat} (h : firstF f p = none) : firstF f (p + 1) = if f p = true then some p else none := by
  show (match firstF f p with | some q => some q | none => if f p = true then some p else none) = _
  rw [h]
theorem fs_some {f : Nat → Bool} {p q : Nat} (h : firstF f p = some q) : firstF f (p + 1) = some q := by
  show (match firstF f p with | some q => some q | none => if f p = true then some p else none) = _
  rw [h]
theorem fs_skip {f : Nat → Bool} {p : Nat} (h : f p = false) : firstF f (p + 1) = firstF f p := by
  cases e : firstF f p with
  | none => rw [fs_none e, h]; rfl
  | some q => exact fs_some e
theorem se_skip {f : Nat → Bool} {p : Nat} (h : f p = false) : secF f (p + 1) = secF f p := by
  show (match secF f p with | some q => some q | none => if f p = true ∧ cntB f p = 1 then some p else none) = secF f p
  cases secF f p with
  | none => simp [h]
  | some _ => rfl
theorem se_not {f : Nat → Bool} {p : Nat} (h : cntB f p ≠ 1) : secF f (p + 1) = secF f p := by
  show (match secF f p with | some q => some q | none => if f p = true ∧ cntB f p = 1 then some p else none) = secF f p
  cases secF f p with
  | none => simp [h]
  | some _ => rfl
theorem se_one {f : Nat → Bool} {p : Nat} (hf : f p = true) (h : cntB f p = 1) : secF f (p + 1) = some p := by
  show (match secF f p with | some q => some q | none => if f p = true ∧ cntB f p = 1 then some p else none) = some p
  rw [(cnt_sec f p).mp (by omega)]
  simp [hf, h]
theorem cf_s (f : Nat → Bool) (an : Nat → Nat) (p : Nat) : cfB f an (p + 1) = (cfB f an p || (f p && match firstF f p with | none => false | some q => decide (an p ≠ an q))) := rfl
theorem cf_skip {f : Nat → Bool} {an : Nat → Nat} {p : Nat} (h : f p = false) : cfB f an (p + 1) = cfB f an p := by
  rw [cf_s, h, Bool.false_and, Bool.or_false]
theorem cf_none {f : Nat → Bool} {an : Nat → Nat} {p : Nat} (h : firstF f p = none) : cfB f an (p + 1) = cfB f an p := by
  rw [cf_s, h]
  show (cfB f an p || (f p && false)) = _
  rw [Bool.and_false, Bool.or_false]
theorem cf_some {f : Nat → Bool} {an : Nat → Nat} {p q : Nat} (hf : f p = true) (h : firstF f p = some q) : cfB f an (p + 1) = (cfB f an p || decide (an p ≠ an q)) := by
  rw [cf_s, h, hf, Bool.true_and]
theorem cf_true {f : Nat → Bool} {an : Nat → Nat} {p : Nat} (h : cfB f an p = true) : cfB f an (p + 1) = true := by
  rw [cf_s, h, Bool.true_or]
theorem fi_ex {f : Nat → Bool} {p : Nat} (h : 0 < cntB f p) : ∃ q, firstF f p = some q ∧ q < p := by
  cases e : firstF f p with
  | none => have := (cnt_first f p).mpr e; omega
  | some q => exact ⟨q, rfl, (firstF_spec e).1⟩
theorem nu_some {t : TCt} {q : Nat} (h : q < rcT t) : nuT t (some q) = some (nmT t q) := by
  show (if q < rcT t then some (nmT t q) else none) = _
  rw [if_pos h]
theorem nu_b {t : TCt} (h : okT t) {o : Option Nat} : ∀ q, nuT t o = some q → q < 1000 := fun q hq => by
  cases o with
  | none => cases hq
  | some p =>
    by_cases e : p < rcT t
    · rw [nu_some e] at hq; cases hq; exact okT_nm h e
    · have : nuT t (some p) = none := if_neg e
      rw [this] at hq; cases hq
/-! ===== counting ===== -/
theorem cntB_mono {f g : Nat → Bool} : ∀ {n : Nat}, (∀ j, j < n → f j = true → g j = true) → cntB f n ≤ cntB g n
  | 0, _ => Nat.le_refl _
  | n + 1, h => by
    have ih := cntB_mono (n := n) (fun j hj => h j (by omega))
    rw [cntB_s, cntB_s]
    unfold iF
    by_cases e : f n = true
    · rw [if_pos e, if_pos (h n (by omega) e)]; omega
    · rw [if_neg e]; split <;> omega
theorem cntB_01 (b : Bool) : (if b = true then 1 else 0) = b01 b := by cases b <;> rfl
theorem cntB_b (f : Nat → Bool) (n : Nat) : cntB f (n + 1) = cntB f n + b01 (f n) := by
  show cntB f n + (if f n = true then 1 else 0) = _
  rw [cntB_01]
theorem sumF_add (f g : Nat → Nat) : ∀ n, sumF (fun j => f j + g j) n = sumF f n + sumF g n
  | 0 => rfl
  | n + 1 => by rw [sumF_s, sumF_s, sumF_s, sumF_add f g n]; omega
theorem sumF_b01 (f : Nat → Bool) : ∀ n, sumF (fun j => b01 (f j)) n = cntB f n
  | 0 => rfl
  | n + 1 => by rw [sumF_s, cntB_b, sumF_b01 f n]
theorem sumF_0 : ∀ n, sumF (fun _ => 0) n = 0
  | 0 => rfl
  | n + 1 => by rw [sumF_s, sumF_0 n]
/-- counted by rows and by cases -/
theorem fub (f : Nat → Nat → Bool) (m : Nat) : ∀ n, sumF (fun c => cntB (f c) m) n = sumF (fun p => cntB (fun c => f c p) n) m
  | 0 => by
    show 0 = sumF (fun _ => 0) m
    rw [sumF_0]
  | n + 1 => by
    rw [sumF_s, fub f m n, ← sumF_b01 (f n) m, ← sumF_add]
    exact sumF_cong (fun p _ => (cntB_b (fun c => f c p) n).symm)
theorem cnt_one (o : Option Nat) (q : Nat) (h : o = some q) : ∀ m, cntB (fun p => decide (o = some p)) m = if q < m then 1 else 0
  | 0 => rfl
  | m + 1 => by
    rw [cntB_b, cnt_one o q h m, h]
    by_cases e : q = m
    · subst e; rw [decide_eq_true rfl, if_neg (by omega), if_pos (by omega)]; rfl
    · rw [decide_eq_false (fun e2 => e (Option.some.inj e2))]
      by_cases e2 : q < m
      · rw [if_pos e2, if_pos (by omega)]; rfl
      · rw [if_neg e2, if_neg (by omega)]; rfl
theorem cnt_none (m : Nat) : cntB (fun p => decide ((none : Option Nat) = some p)) m = 0 := by
  induction m with
  | zero => rfl
  | succ m ih => rw [cntB_b, ih]; rfl
/-- each case has its row, or is a hole -/
theorem own_all {f : Nat → Option Nat} {m : Nat} (h : ∀ c q, f c = some q → q < m) : ∀ n, sumF (fun p => cntB (fun c => decide (f c = some p)) n) m + cntB (fun c => decide (f c = none)) n = n := by
  intro n
  rw [← fub (fun c p => decide (f c = some p)) m n]
  induction n with
  | zero => rfl
  | succ n ih =>
    rw [sumF_s, cntB_b]
    cases e : f n with
    | none => rw [cnt_none, decide_eq_true rfl]; show _ + 0 + (_ + 1) = _; omega
    | some q => rw [cnt_one (some q) q rfl, if_pos (h n q e), decide_eq_false (fun e2 => by cases e2)]; show _ + 1 + (_ + 0) = _; omega
theorem own_T (t : TCt) : sumF (owT t) (rcT t) + hoT t (nCs t) = nCs t := own_all (f := fiT t) (m := rcT t) (fun c q h => (firstF_spec h).1) (nCs t)
theorem ow_le_to1 (t : TCt) (p : Nat) : owT t p ≤ cntB (fun c => tlT t c p) (nCs t) := cntB_mono (fun j _ h => (firstF_spec (of_decide_eq_true h)).2.1)
theorem ch_le_ow (t : TCt) (p : Nat) : chT t p ≤ owT t p := cntB_mono (fun j _ h => by
  rw [Bool.and_eq_true] at h; exact h.1)
/-- a product of counts: the cases whose answers are in the sets -/
theorem cnt_add (f : Nat → Bool) (n : Nat) : ∀ m, cntB f (n + m) = cntB f n + cntB (fun j => f (n + j)) m
  | 0 => rfl
  | m + 1 => by rw [← Nat.add_assoc, cntB_b, cntB_b, cnt_add f n m]; omega
theorem cnt_cong {f g : Nat → Bool} {n : Nat} (h : ∀ j, j < n → f j = g j) : cntB f n = cntB g n := cntB_cong2 h
theorem cnt_false : ∀ n, cntB (fun _ => false) n = 0
  | 0 => rfl
  | n + 1 => by rw [cntB_b, cnt_false n]; rfl
theorem cnt_and (b : Bool) (f : Nat → Bool) (n : Nat) : cntB (fun j => f j && b) n = cntB f n * b01 b := by
  cases b with
  | true => rw [cnt_cong (g := f) (fun j _ => Bool.and_true _)]; show _ = _ * 1; rw [Nat.mul_one]
  | false => rw [cnt_cong (g := fun _ => false) (fun j _ => Bool.and_false _), cnt_false]; rfl
theorem cnt_blk {F f : Nat → Bool} {g : Nat → Bool} {P : Nat} : ∀ a, (∀ d, d < a → ∀ j, j < P → F (d * P + j) = (f j && g d)) → cntB F (a * P) = cntB f P * cntB g a
  | 0, _ => by rw [Nat.zero_mul]; rfl
  | a + 1, h => by
    rw [Nat.add_mul, Nat.one_mul, cnt_add, cnt_blk a (fun d hd => h d (by omega)), cntB_b, Nat.mul_add, ← cnt_and (g a) f P]
    rw [cnt_cong (fun j hj => h a (by omega) j hj)]
theorem tel_cnt {ac : Nat → Nat} {x : Nat} : ∀ {n : Nat}, (∀ c, c < n → 2 ≤ ac c ∧ ac c ≤ 4) → cntB (fun k => allB (fun c => hasN (nibN x c) (digF ac c k)) n) (prodF ac n) = prodF (fun c => cntB (hasN (nibN x c)) (ac c)) n
  | 0, _ => rfl
  | n + 1, h => by
    have hl : ∀ c, c < n → 2 ≤ ac c ∧ ac c ≤ 4 := fun c hc => h c (by omega)
    have hp : 0 < prodF ac n := prodF_pos hl
    have ih := tel_cnt (x := x) hl
    have hblk := cnt_blk (F := fun k => allB (fun c => hasN (nibN x c) (digF ac c k)) (n + 1)) (f := fun k => allB (fun c => hasN (nibN x c) (digF ac c k)) n) (g := hasN (nibN x n)) (P := prodF ac n) (ac n) (fun d hd j hj => by
      show (allB (fun c => hasN (nibN x c) (digF ac c (d * prodF ac n + j))) n && hasN (nibN x n) (digF ac n (d * prodF ac n + j))) = _
      rw [show digF ac n (d * prodF ac n + j) = d by unfold digF; rw [Nat.add_comm, Nat.add_mul_div_right _ _ hp, Nat.div_eq_of_lt hj, Nat.zero_add, Nat.mod_eq_of_lt hd]]
      congr 1
      have hq : ∀ m, m ≤ n → allB (fun c => hasN (nibN x c) (digF ac c (d * prodF ac n + j))) m = allB (fun c => hasN (nibN x c) (digF ac c j)) m := by
        intro m
        induction m with
        | zero => intro _; rfl
        | succ m ihm =>
          intro hm
          rw [allB_s, allB_s, ihm (by omega), digF_low (by omega) hl]
      exact hq n (Nat.le_refl _))
    rw [prodF_s, Nat.mul_comm, hblk, ih]
    rfl
theorem bits_cnt (x : Nat) : ∀ n, bitsN x n = cntB (hasN x) n
  | 0 => rfl
  | n + 1 => by
    rw [cntB_b, ← bits_cnt x n]
    show bitsN x n + ((x >>> n) &&& 1) = _
    congr 1
    unfold hasN
    have h2 : (x >>> n) &&& 1 ≤ 1 := Nat.and_le_right
    by_cases e : (x >>> n) &&& 1 = 1
    · rw [decide_eq_true e, e]; rfl
    · rw [decide_eq_false e]; show _ = 0; omega
theorem bits_ful : ∀ s, s < 16 → ∀ a, a < 5 → s ≤ fulN a → bitsN s 4 = bitsN s a := by decide
theorem to_T {t : TCt} (h : okT t) {p : Nat} (hp : p < rcT t) : toT t p = cntB (fun c => tlT t c p) (nCs t) := by
  have h1 := tel_cnt (x := stT t p) (okT_ac h)
  unfold toT nCs
  rw [cnt_cong (g := fun k => allB (fun c => hasN (nibN (stT t p) c) (digF (acT t) c k)) (ccT t)) (fun j _ => (telB_T h j p).symm), h1]
  refine prodF_cong (fun k hk => ?_)
  rw [← bits_cnt]
  exact bits_ful _ (nibN_lt _ _) _ (by have := (okT_ac h k hk).2; omega) (h.2.2.2.2 p hp k hk)
theorem ow_le_to {t : TCt} (h : okT t) {p : Nat} (hp : p < rcT t) : owT t p ≤ toT t p := by rw [to_T h hp]; exact ow_le_to1 t p
theorem many_T {t : TCt} (h : okT t) : sumF (ctT t) (nCs t) = sumF (toT t) (rcT t) := by
  rw [sumF_cong (g := fun p => cntB (fun c => tlT t c p) (nCs t)) (fun p hp => to_T h hp)]
  exact fub (fun c => tlT t c) (rcT t) (nCs t)
theorem sum_le {f : Nat → Nat} {m : Nat} (h : ∀ j, f j ≤ m) : ∀ n, sumF f n ≤ n * m
  | 0 => Nat.zero_le _
  | n + 1 => by rw [sumF_s, Nat.add_mul]; have := sum_le h n; have := h n; omega
