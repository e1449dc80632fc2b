
/-! ===== runCommands ===== -/
abbrev TRt : Type := Nat × Nat × (Nat → Nat) × (Nat → Nat) × (Nat → Nat)
/-- rows within their bounds -/
def trB (B : Nat) (x : TRt) : Prop := x.2.1 ≤ 20 ∧ (∀ j, j < x.2.1 → x.2.2.2.2 j < B) ∧ (∀ j, j < x.2.1 → x.2.2.2.1 j < 1048576)
theorem mgAll_ok {B cc : Nat} : ∀ {n rc : Nat} {nm st an : Nat → Nat}, rc ≤ 20 → (∀ j, j < rc → an j < B) → (∀ j, j < rc → st j < 1048576) → (mgAll cc n rc nm st an).2.1 ≤ 20 ∧ (∀ j, j < (mgAll cc n rc nm st an).2.1 → (mgAll cc n rc nm st an).2.2.2.2 j < B) ∧ (∀ j, j < (mgAll cc n rc nm st an).2.1 → (mgAll cc n rc nm st an).2.2.2.1 j < 1048576)
  | 0, _, _, _, _, h1, h2, h3 => ⟨h1, h2, h3⟩
  | n + 1, rc, nm, st, an, h1, h2, h3 => by
    cases h : firstF (fun p => decide (whyN cc rc st an p = 0)) rc with
    | none => rw [mgAll_none h]; exact ⟨h1, h2, h3⟩
    | some p =>
      rw [mgAll_some h]
      have hw := whyN_0 (of_decide_eq_true (firstF_spec h).2.1)
      exact mgAll_ok (n := n) (by omega) (shifF_all (P := fun z => z < B) h2) (mrgS_lt hw.1 h3)
theorem liftF_all {P : Nat → Prop} {f : Nat → Nat} {p rc : Nat} (hp : p < rc) (h : ∀ j, j < rc → P (f j)) : ∀ j, j < rc → P (liftF f p j) := by
  intro j hj; unfold liftF va_up
  split
  · exact h _ hp
  · split
    · exact h _ (by omega)
    · exact h _ hj
theorem up_all {P : Nat → Prop} {f : Nat → Nat} {rc x : Nat} (hx : P x) (h : ∀ j, j < rc → P (f j)) : ∀ j, j < rc + 1 → P (va_up f rc x j) := by
  intro j hj
  by_cases e : j = rc
  · subst e; rw [up_s]; exact hx
  · rw [up_n _ _ e]; exact h j (by omega)
theorem doF_ok {B cc ad rc k rw0 ss a : Nat} {nm st an : Nat → Nat} (h1 : rc ≤ 20) (h2 : ∀ j, j < rc → an j < B) (h3 : ∀ j, j < rc → st j < 1048576) (hs : k = 0 → ss < 1048576 ∧ a < B) : trB B (doF cc ad rc nm st an k rw0 ss a).2 := by
  unfold doF
  by_cases e3 : k = 3
  · rw [if_pos e3]; exact mgAll_ok h1 h2 h3
  · rw [if_neg e3]
    by_cases e0 : k = 0
    · rw [if_pos e0]
      by_cases e20 : 20 ≤ rc
      · rw [if_pos e20]; exact ⟨h1, h2, h3⟩
      · rw [if_neg e20]
        exact ⟨show rc + 1 ≤ 20 by omega, up_all (P := fun z => z < B) (hs e0).2 h2, up_all (P := fun z => z < 1048576) (hs e0).1 h3⟩
    · rw [if_neg e0]
      cases hp : placeF nm (nI rw0) rc with
      | none => exact ⟨h1, h2, h3⟩
      | some p =>
        have hpl := placeF_lt hp
        show trB B (if k = 1 then _ else if p = 0 then _ else _ : Bool × TRt).2
        by_cases e1 : k = 1
        · rw [if_pos e1]; exact ⟨show rc - 1 ≤ 20 by omega, shifF_all (P := fun z => z < B) h2, shifF_all (P := fun z => z < 1048576) h3⟩
        · rw [if_neg e1]
          by_cases ep : p = 0
          · rw [if_pos ep]; exact ⟨h1, h2, h3⟩
          · rw [if_neg ep]; exact ⟨h1, liftF_all (P := fun z => z < B) hpl h2, liftF_all (P := fun z => z < 1048576) hpl h3⟩
theorem doF_dep {cc ad rc k rw0 rw1 ss ss1 a a1 : Nat} {nm st an : Nat → Nat} (h1 : k = 1 ∨ k = 2 → rw0 = rw1) (h0 : k = 0 → ss = ss1 ∧ a = a1) (hk : k < 4) : doF cc ad rc nm st an k rw0 ss a = doF cc ad rc nm st an k rw1 ss1 a1 := by
  rcases (show k = 0 ∨ k = 1 ∨ k = 2 ∨ k = 3 by omega) with e | e | e | e
  · subst e; obtain ⟨r1, r2⟩ := h0 rfl; subst r1; subst r2; rfl
  · rw [h1 (Or.inl e)]; subst e; rfl
  · rw [h1 (Or.inr e)]; subst e; rfl
  · subst e; rfl
/-- what the command at p says: its sets' end, its kind, row, sets and action, and what it does -/
def cmS (tx : Nat → Nat) (len : Nat) (ac : Nat → Nat) (cc p : Nat) : Bool × Nat × Nat := rasL tx len ac cc 0 0 (wenF tx len 150 p + 1)
def cmK (tx : Nat → Nat) (len p : Nat) : Nat := (kndF tx p (wenF tx len 150 p)).getD 0
def cmR (tx : Nat → Nat) (len p : Nat) : Nat := (rrF tx len (wenF tx len 150 p + 1) 0).2.2
def cmA (tx : Nat → Nat) (len : Nat) (ac : Nat → Nat) (cc p : Nat) : Nat := (raF tx len (cmS tx len ac cc p).2.2 none).2.2.getD 0
def cmDo (tx : Nat → Nat) (len : Nat) (ac : Nat → Nat) (cc p : Nat) (x : TRt) : Bool × TRt := doF cc x.1 x.2.1 x.2.2.1 x.2.2.2.1 x.2.2.2.2 (cmK tx len p) (cmR tx len p) (cmS tx len ac cc p).2.1 (cmA tx len ac cc p)
def runL (tx : Nat → Nat) (len : Nat) (ac : Nat → Nat) (cc : Nat) : Nat → Nat → TRt → Nat × TRt
  | 0, _, x => (0, x)
  | n + 1, p, x => if len ≤ p then (0, x) else if (rcP tx len ac cc p).1 = true then (if (cmDo tx len ac cc p x).1 = true then ((runL tx len ac cc n (skpF tx len 150 (rcP tx len ac cc p).2) (cmDo tx len ac cc p x).2).1 + 1, (runL tx len ac cc n (skpF tx len 150 (rcP tx len ac cc p).2) (cmDo tx len ac cc p x).2).2) else (0, (cmDo tx len ac cc p x).2)) else (0, x)
section RL
variable {tx : Nat → Nat} {len : Nat} {ac : Nat → Nat} {cc p n : Nat} {x : TRt}
theorem runL_s : runL tx len ac cc (n + 1) p x = if len ≤ p then (0, x) else if (rcP tx len ac cc p).1 = true then (if (cmDo tx len ac cc p x).1 = true then ((runL tx len ac cc n (skpF tx len 150 (rcP tx len ac cc p).2) (cmDo tx len ac cc p x).2).1 + 1, (runL tx len ac cc n (skpF tx len 150 (rcP tx len ac cc p).2) (cmDo tx len ac cc p x).2).2) else (0, (cmDo tx len ac cc p x).2)) else (0, x) := rfl
theorem runL_e (h : len ≤ p) : ∀ n, runL tx len ac cc n p x = (0, x)
  | 0 => rfl
  | n + 1 => if_pos h
theorem runL_b (h : ¬ len ≤ p) (h1 : (rcP tx len ac cc p).1 = false) : runL tx len ac cc (n + 1) p x = (0, x) := by
  rw [runL_s, if_neg h, if_neg (bF h1)]
theorem runL_d (h : ¬ len ≤ p) (h1 : (rcP tx len ac cc p).1 = true) (h2 : (cmDo tx len ac cc p x).1 = false) : runL tx len ac cc (n + 1) p x = (0, (cmDo tx len ac cc p x).2) := by
  rw [runL_s, if_neg h, if_pos h1, if_neg (bF h2)]
theorem runL_g (h : ¬ len ≤ p) (h1 : (rcP tx len ac cc p).1 = true) (h2 : (cmDo tx len ac cc p x).1 = true) : runL tx len ac cc (n + 1) p x = ((runL tx len ac cc n (skpF tx len 150 (rcP tx len ac cc p).2) (cmDo tx len ac cc p x).2).1 + 1, (runL tx len ac cc n (skpF tx len 150 (rcP tx len ac cc p).2) (cmDo tx len ac cc p x).2).2) := by
  rw [runL_s, if_neg h, if_pos h1, if_pos h2]
theorem ffF_le : ∀ {n p q : Nat}, p ≤ len → ffF tx len ac cc n p = some q → q ≤ len
  | 0, _, _, _, h => by cases h
  | n + 1, p, q, hp, h => by
    by_cases e : len ≤ p
    · rw [ffF_e e] at h; cases h
    · cases e1 : (rcP tx len ac cc p).1 with
      | false => rw [ffF_b e e1] at h; cases h; exact rcP_le hp
      | true => rw [ffF_g e e1] at h; exact ffF_le (skpF_le (rcP_le hp)) h
theorem rasL_lt (hac : ∀ j, j < cc → ac j ≤ 4) : ∀ {n k sets p : Nat}, k + n ≤ cc → sets < 2 ^ (4 * k) → (rasL tx len ac n k sets p).2.1 < 2 ^ (4 * (k + n))
  | 0, _, _, _, _, h => h
  | n + 1, k, sets, p, hk, h => by
    have h0 : 2 ^ (4 * k) ≤ 2 ^ (4 * (k + (n + 1))) := Nat.pow_le_pow_right (by decide) (by omega)
    have hr : ∀ q, sets ||| ((rsF tx len (ac k) q).1 <<< (4 * k)) < 2 ^ (4 * (k + 1)) := fun q => by
      refine Nat.or_lt_two_pow (Nat.lt_of_lt_of_le h (Nat.pow_le_pow_right (by decide) (by omega))) ?_
      rw [Nat.shiftLeft_eq, show 4 * (k + 1) = 4 + 4 * k by omega, Nat.pow_add]
      exact Nat.mul_lt_mul_of_pos_right (rsF_lt (hac k (by omega))) (Nat.two_pow_pos _)
    have hg : ∀ q, (rasL tx len ac n (k + 1) (sets ||| ((rsF tx len (ac k) q).1 <<< (4 * k))) (rsF tx len (ac k) q).2).2.1 < 2 ^ (4 * (k + (n + 1))) := fun q => by
      have := rasL_lt hac (n := n) (k := k + 1) (p := (rsF tx len (ac k) q).2) (by omega) (hr q)
      rw [show k + (n + 1) = k + 1 + n by omega]; exact this
    by_cases e : k = 0
    · rw [rasL_z e]
      by_cases e1 : (rsF tx len (ac k) p).1 = 0
      · rw [if_pos e1]; exact Nat.lt_of_lt_of_le h h0
      · rw [if_neg e1]; exact hg p
    · by_cases e2 : hereF tx len p = some 44
      · rw [rasL_c (by omega) e2]
        by_cases e1 : (rsF tx len (ac k) (p + 1)).1 = 0
        · rw [if_pos e1]; exact Nat.lt_of_lt_of_le h h0
        · rw [if_neg e1]; exact hg (p + 1)
      · rw [rasL_n (by omega) e2]; exact Nat.lt_of_lt_of_le h h0
theorem raF_some {av : Option Nat} (h : (raF tx len p av).1 = true) : ∃ a, (raF tx len p av).2.2 = some a ∧ a < 10 := by
  unfold raF at h ⊢
  by_cases e : hereF tx len p = some 62
  · rw [if_pos e] at h ⊢
    cases e1 : digT tx len (p + 1) with
    | none => rw [e1] at h; cases h
    | some a => exact ⟨a, rfl, (digT_lt e1).1⟩
  · rw [if_neg e] at h; cases h
theorem rcP_kind (h : (rcP tx len ac cc p).1 = true) : ∃ k, k < 4 ∧ kndF tx p (wenF tx len 150 p) = some k ∧ (k = 0 → ∃ a, (raF tx len (cmS tx len ac cc p).2.2 none).2.2 = some a ∧ a < 10) := by
  unfold rcP at h
  cases e : kndF tx p (wenF tx len 150 p) with
  | none => rw [e] at h; cases h
  | some k =>
    refine ⟨k, kndF_lt e, rfl, fun hk => ?_⟩
    subst hk
    rw [e] at h
    have h : (rc0 tx len ac cc (wenF tx len 150 p)).1 = true := h
    unfold rc0 at h
    by_cases e1 : hereF tx len (wenF tx len 150 p) = some 32
    · rw [if_pos e1] at h
      by_cases e2 : (rasL tx len ac cc 0 0 (wenF tx len 150 p + 1)).1 = true
      · rw [if_pos e2] at h
        by_cases e3 : (raF tx len (rasL tx len ac cc 0 0 (wenF tx len 150 p + 1)).2.2 none).1 = true
        · exact raF_some e3
        · rw [if_neg e3] at h; cases h
      · rw [if_neg e2] at h; cases h
    · rw [if_neg e1] at h; cases h
theorem cmS_lt (hcc : cc ≤ 5) (hac : ∀ j, j < cc → ac j ≤ 4) : (cmS tx len ac cc p).2.1 < 1048576 := by
  have h := rasL_lt (tx := tx) (len := len) hac (n := cc) (k := 0) (sets := 0) (p := wenF tx len 150 p + 1) (by omega) (by decide)
  exact Nat.lt_of_lt_of_le h (Nat.le_trans (Nat.pow_le_pow_right (by decide) (show 4 * (0 + cc) ≤ 20 by omega)) (by decide))
theorem rcC_ok {kd : Option Nat} {rw0 ss : Nat} {av : Option Nat} (h : rcC tx len ac cc p kd rw0 ss av) (h1 : (rcP tx len ac cc p).1 = true) (hcc : cc ≤ 5) (hac : ∀ j, j < cc → ac j ≤ 4) : ∃ k a, k < 4 ∧ kd = some k ∧ (k = 0 → av = some a) ∧ (∀ x : TRt, doF cc x.1 x.2.1 x.2.2.1 x.2.2.2.1 x.2.2.2.2 k rw0 ss a = cmDo tx len ac cc p x) ∧ (k = 0 → ss < 1048576 ∧ a < 11) := by
  obtain ⟨k, hk, hkn, h0⟩ := rcP_kind h1
  obtain ⟨g1, g2, g3⟩ := h
  rw [hkn] at g1
  have hK : cmK tx len p = k := by unfold cmK; rw [hkn]; rfl
  by_cases e : k = 0
  · obtain ⟨a, ha, ha2⟩ := h0 e
    obtain ⟨s1, s2⟩ := g2 (by rw [g1, e])
    refine ⟨k, a, hk, g1, fun _ => by rw [s2]; exact ha, fun x => ?_, fun _ => ⟨by rw [s1]; exact cmS_lt hcc hac, by omega⟩⟩
    unfold cmDo
    rw [hK]
    exact doF_dep (fun h => by omega) (fun _ => ⟨s1, by unfold cmA; rw [ha]; rfl⟩) hk
  · refine ⟨k, 0, hk, g1, fun h => absurd h e, fun x => ?_, fun h => absurd h e⟩
    unfold cmDo
    rw [hK]
    exact doF_dep (fun h => g3 (by rw [g1]; rcases h with h | h; exact Or.inl (congrArg some h); exact Or.inr (congrArg some h))) (fun h => absurd h e) hk
theorem cmDo_ok {B : Nat} (hB : 10 ≤ B) (h1 : (rcP tx len ac cc p).1 = true) (hcc : cc ≤ 5) (hac : ∀ j, j < cc → ac j ≤ 4) (hx : trB B x) : trB B (cmDo tx len ac cc p x).2 := by
  obtain ⟨k, hk, hkn, h0⟩ := rcP_kind h1
  obtain ⟨x1, x2, x3⟩ := hx
  exact doF_ok x1 x2 x3 (fun e => ⟨cmS_lt hcc hac, by
    have hK : cmK tx len p = k := by unfold cmK; rw [hkn]; rfl
    obtain ⟨a, ha, ha2⟩ := h0 (by rw [← hK]; exact e)
    unfold cmA; rw [ha]; show a < B; omega⟩)
theorem runL_ok {B : Nat} (hB : 10 ≤ B) (hcc : cc ≤ 5) (hac : ∀ j, j < cc → ac j ≤ 4) : ∀ {n p : Nat} {x : TRt}, trB B x → trB B (runL tx len ac cc n p x).2
  | 0, _, _, hx => hx
  | n + 1, p, x, hx => by
    rw [runL_s]
    by_cases e : len ≤ p
    · rw [if_pos e]; exact hx
    · rw [if_neg e]
      by_cases e1 : (rcP tx len ac cc p).1 = true
      · rw [if_pos e1]
        by_cases e2 : (cmDo tx len ac cc p x).1 = true
        · rw [if_pos e2]; exact runL_ok hB hcc hac (cmDo_ok hB e1 hcc hac hx)
        · rw [if_neg e2]; exact cmDo_ok hB e1 hcc hac hx
      · rw [if_neg e1]; exact hx
end RL

