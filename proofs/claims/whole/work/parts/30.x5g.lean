
/-! ===== runCommands ===== -/
abbrev TRt : Type := Nat × Nat × (Nat → Nat) × (Nat → Nat) × (Nat → Nat)
/-- rows within their bounds -/
def trB (B : Nat) (x : TRt) : Prop := x.2.1 ≤ 20 ∧ (∀ j, j < x.2.1 → x.2.2.2.2 j < B) ∧ (∀ j, j < x.2.1 → x.2.2.2.1 j < 1048576)
theorem mgAll_ok {B cc : Nat} : ∀ {n rc : Nat} {nm st an : Nat → Nat}, rc ≤ 20 → (∀ j, j < rc → an j < B) → (∀ j, j < rc → st j < 1048576) → (mgAll cc n rc nm st an).2.1 ≤ 20 ∧ (∀ j, j < (mgAll cc n rc nm st an).2.1 → (mgAll cc n rc nm st an).2.2.2.2 j < B) ∧ (∀ j, j < (mgAll cc n rc nm st an).2.1 → (mgAll cc n rc nm st an).2.2.2.1 j < 1048576)
  | 0, _, _, _, _, h1, h2, h3 => ⟨h1, h2, h3⟩
  | n + 1, rc, nm, st, an, h1, h2, h3 => by
    cases h : firstF (fun p => decide (whyN cc rc st an p = 0)) rc with
    | none => rw [mgAll_none h]; exact ⟨h1, h2, h3⟩
    | some p =>
      rw [mgAll_some h]
      have hw := whyN_0 (of_decide_eq_true (firstF_spec h).2.1)
      exact mgAll_ok (n := n) (by omega) (shifF_all (P := fun z => z < B) h2) (mrgS_lt hw.1 h3)
theorem liftF_all {P : Nat → Prop} {f : Nat → Nat} {p rc : Nat} (hp : p < rc) (h : ∀ j, j < rc → P (f j)) : ∀ j, j < rc → P (liftF f p j) := by
  intro j hj; unfold liftF va_up
  split
  · exact h _ hp
  · split
    · exact h _ (by omega)
    · exact h _ hj
theorem up_all {P : Nat → Prop} {f : Nat → Nat} {rc x : Nat} (hx : P x) (h : ∀ j, j < rc → P (f j)) : ∀ j, j < rc + 1 → P (va_up f rc x j) := by
  intro j hj
  by_cases e : j = rc
  · subst e; rw [up_s]; exact hx
  · rw [up_n _ _ e]; exact h j (by omega)
theorem doF_ok {B cc ad rc k rw0 ss a : Nat} {nm st an : Nat → Nat} (h1 : rc ≤ 20) (h2 : ∀ j, j < rc → an j < B) (h3 : ∀ j, j < rc → st j < 1048576) (hs : k = 0 → ss < 1048576 ∧ a < B) : trB B (doF cc ad rc nm st an k rw0 ss a).2 := by
  unfold doF
  by_cases e3 : k = 3
  · rw [if_pos e3]; exact mgAll_ok h1 h2 h3
  · rw [if_neg e3]
    by_cases e0 : k = 0
    · rw [if_pos e0]
      by_cases e20 : 20 ≤ rc
      · rw [if_pos e20]; exact ⟨h1, h2, h3⟩
      · rw [if_neg e20]
        exact ⟨show rc + 1 ≤ 20 by omega, up_all (P := fun z => z < B) (hs e0).2 h2, up_all (P := fun z => z < 1048576) (hs e0).1 h3⟩
    · rw [if_neg e0]
      cases hp : placeF nm (nI rw0) rc with
      | none => exact ⟨h1, h2, h3⟩
      | some p =>
        have hpl := placeF_lt hp
        show trB B (if k = 1 then _ else if p = 0 then _ else _ : Bool × TRt).2
        by_cases e1 : k = 1
        · rw [if_pos e1]; exact ⟨show rc - 1 ≤ 20 by omega, shifF_all (P := fun z => z < B) h2, shifF_all (P := fun z => z < 1048576) h3⟩
        · rw [if_neg e1]
          by_cases ep : p = 0
          · rw [if_pos ep]; exact ⟨h1, h2, h3⟩
          · rw [if_neg ep]; exact ⟨h1, liftF_all (P := fun z => z < B) hpl h2, liftF_all (P := fun z => z < 1048576) hpl h3⟩
theorem doF_dep {cc ad rc k rw0 rw1 ss ss1 a a1 : Nat} {nm st an : Nat → Nat} (h1 : k = 1 ∨ k = 2 → rw0 = rw1) (h0 : k = 0 → ss = ss1 ∧ a = a1) (hk : k < 4) : doF cc ad rc nm st an k rw0 ss a = doF cc ad rc nm st an k rw1 ss1 a1 := by
  rcases (show k = 0 ∨ k = 1 ∨ k = 2 ∨ k = 3 by omega) with e | e | e | e
  · subst e; obtain ⟨r1, r2⟩ := h0 rfl; subst r1; subst r2; rfl
  · rw [h1 (Or.inl e)]; subst e; rfl
  · rw [h1 (Or.inr e)]; subst e; rfl
  · subst e; rfl
/-- what the command at p says: its sets' end, its kind, row, sets and action, and what it does -/
def cmS (tx : Nat → Nat) (len : Nat) (ac : Nat → Nat) (cc p : Nat) : Bool × Nat × Nat := rasL tx len ac cc 0 0 (wenF tx len 150 p + 1)
def cmK (tx : Nat → Nat) (len p : Nat) : Nat := (kndF tx p (wenF tx len 150 p)).getD 0
def cmR (tx : Nat → Nat) (len p : Nat) : Nat := (rrF tx len (wenF tx len 150 p + 1) 0).2.2
def cmA (tx : Nat → Nat) (len : Nat) (ac : Nat → Nat) (cc p : Nat) : Nat := (raF tx len (cmS tx len ac cc p).2.2 none).2.2.getD 0
def cmDo (tx : Nat → Nat) (len : Nat) (ac : Nat → Nat) (cc p : Nat) (x : TRt) : Bool × TRt := doF cc x.1 x.2.1 x.2.2.1 x.2.2.2.1 x.2.2.2.2 (cmK tx len p) (cmR tx len p) (cmS tx len ac cc p).2.1 (cmA tx len ac cc p)
def runL (tx : Nat → Nat) (len : Nat) (ac : Nat → Nat) (cc : Nat) : Nat → Nat → TRt → Nat × TRt
  | 0, _, x => (0, x)
  | n + 1, p, x => if len ≤ p then (0, x) else if (rcP tx len ac cc p).1 = true then (if (cmDo tx len ac cc p x).1 = true then ((runL tx len ac cc n (skpF tx len 150 (rcP tx len ac cc p).2) (cmDo tx len ac cc p x).2).1 + 1, (runL tx len ac cc n (skpF tx len 150 (rcP tx len ac cc p).2) (cmDo tx len ac cc p x).2).2) else (0, (cmDo tx len ac cc p x).2)) else (0, x)
section RL
variable {tx : Nat → Nat} {len : Nat} {ac : Nat → Nat} {cc p n : Nat} {x : TRt}
theorem runL_s : runL tx len ac cc (n + 1) p x = if len ≤ p then (0, x) else if (rcP tx len ac cc p).1 = true then (if (cmDo tx len ac cc p x).1 = true then ((runL tx len ac cc n (skpF tx len 150 (rcP tx len ac cc p).2) (cmDo tx len ac cc p x).2).1 + 1, (runL tx len ac cc n (skpF tx len 150 (rcP tx len ac cc p).2) (cmDo tx len ac cc p x).2).2) else (0, (cmDo tx len ac cc p x).2)) else (0, x) := rfl
theorem runL_e (h : len ≤ p) : ∀ n, runL tx len ac cc n p x = (0, x)
  | 0 => rfl
  | n + 1 => if_pos h
theorem runL_b (h : ¬ len ≤ p) (h1 : (rcP tx len ac cc p).1 = false) : runL tx len ac cc (n + 1) p x = (0, x) := by
  rw [runL_s, if_neg h, if_neg (bF h1)]
theorem runL_d (h : ¬ len ≤ p) (h1 : (rcP tx len ac cc p).1 = true) (h2 : (cmDo tx len ac cc p x).1 = false) : runL tx len ac cc (n + 1) p x = (0, (cmDo tx len ac cc p x).2) := by
  rw [runL_s, if_neg h, if_pos h1, if_neg (bF h2)]
theorem runL_g (h : ¬ len ≤ p) (h1 : (rcP tx len ac cc p).1 = true) (h2 : (cmDo tx len ac cc p x).1 = true) : runL tx len ac cc (n + 1) p x = ((runL tx len ac cc n (skpF tx len 150 (rcP tx len ac cc p).2) (cmDo tx len ac cc p x).2).1 + 1, (runL tx len ac cc n (skpF tx len 150 (rcP tx len ac cc p).2) (cmDo tx len ac cc p x).2).2) := by
  rw [runL_s, if_neg h, if_pos h1, if_pos h2]
theorem ffF_le : ∀ {n p q : Nat}, p ≤ len → ffF tx len ac cc n p = some q → q ≤ len
  | 0, _, _, _, h => by cases h
  | n + 1, p, q, hp, h => by
    by_cases e : len ≤ p
    · rw [ffF_e e] at h; cases h
    · cases e1 : (rcP tx len ac cc p).1 with
      | false => rw [ffF_b e e1] at h; cases h; exact rcP_le hp
      | true => rw [ffF_g e e1] at h; exact ffF_le (skpF_le (rcP_le hp)) h
theorem rasL_lt (hac : ∀ j, j < cc → ac j ≤ 4) : ∀ {n k sets p : Nat}, k + n ≤ cc → sets < 2 ^ (4 * k) → (rasL tx len ac n k sets p).2.1 < 2 ^ (4 * (k + n))
  | 0, _, _, _, _, h => h
  | n + 1, k, sets, p, hk, h => by
    have h0 : 2 ^ (4 * k) ≤ 2 ^ (4 * (k + (n + 1))) := Nat.pow_le_pow_right (by decide) (by omega)
    have hr : ∀ q, sets ||| ((rsF tx len (ac k) q).1 <<< (4 * k)) < 2 ^ (4 * (k + 1)) := fun q => by
      refine Nat.or_lt_two_pow (Nat.lt_of_lt_of_le h (Nat.pow_le_pow_right (by decide) (by omega))) ?_
      rw [Nat.shiftLeft_eq, show 4 * (k + 1) = 4 + 4 * k by omega, Nat.pow_add]
      exact Nat.mul_lt_mul_of_pos_right (rsF_lt (hac k (by omega))) (Nat.two_pow_pos _)
    have hg : ∀ q, (rasL tx len ac n (k + 1) (sets ||| ((rsF tx len (ac k) q).1 <<< (4 * k))) (rsF tx len (ac k) q).2).2.1 < 2 ^ (4 * (k + (n + 1))) := fun q => by
      have := rasL_lt hac (n := n) (k := k + 1) (p := (rsF tx len (ac k) q).2) (by omega) (hr q)
      rw [show k + (n + 1) = k + 1 + n by omega]; exact this
    by_cases e : k = 0
    · rw [rasL_z e]
      by_cases e1 : (rsF tx len (ac k) p).1 = 0
      · rw [if_pos e1]; exact Nat.lt_of_lt_of_le h h0
      · rw [if_neg e1]; exact hg p
    · by_cases e2 : hereF tx len p = some 44
      · rw [rasL_c (by omega) e2]
        by_cases e1 : (rsF tx len (ac k) (p + 1)).1 = 0
        · rw [if_pos e1]; exact Nat.lt_of_lt_of_le h h0
        · rw [if_neg e1]; exact hg (p + 1)
      · rw [rasL_n (by omega) e2]; exact Nat.lt_of_lt_of_le h h0
theorem raF_some {av : Option Nat} (h : (raF tx len p av).1 = true) : ∃ a, (raF tx len p av).2.2 = some a ∧ a < 10 := by
  unfold raF at h ⊢
  by_cases e : hereF tx len p = some 62
  · rw [if_pos e] at h ⊢
    cases e1 : digT tx len (p + 1) with
    | none => rw [e1] at h; cases h
    | some a => exact ⟨a, rfl, (digT_lt e1).1⟩
  · rw [if_neg e] at h; cases h
theorem rcP_kind (h : (rcP tx len ac cc p).1 = true) : ∃ k, k < 4 ∧ kndF tx p (wenF tx len 150 p) = some k ∧ (k = 0 → ∃ a, (raF tx len (cmS tx len ac cc p).2.2 none).2.2 = some a ∧ a < 10) := by
  unfold rcP at h
  cases e : kndF tx p (wenF tx len 150 p) with
  | none => rw [e] at h; cases h
  | some k =>
    refine ⟨k, kndF_lt e, rfl, fun hk => ?_⟩
    subst hk
    rw [e] at h
    have h : (rc0 tx len ac cc (wenF tx len 150 p)).1 = true := h
    unfold rc0 at h
    by_cases e1 : hereF tx len (wenF tx len 150 p) = some 32
    · rw [if_pos e1] at h
      by_cases e2 : (rasL tx len ac cc 0 0 (wenF tx len 150 p + 1)).1 = true
      · rw [if_pos e2] at h
        by_cases e3 : (raF tx len (rasL tx len ac cc 0 0 (wenF tx len 150 p + 1)).2.2 none).1 = true
        · exact raF_some e3
        · rw [if_neg e3] at h; cases h
      · rw [if_neg e2] at h; cases h
    · rw [if_neg e1] at h; cases h
theorem cmS_lt (hcc : cc ≤ 5) (hac : ∀ j, j < cc → ac j ≤ 4) : (cmS tx len ac cc p).2.1 < 1048576 := by
  have h := rasL_lt (tx := tx) (len := len) hac (n := cc) (k := 0) (sets := 0) (p := wenF tx len 150 p + 1) (by omega) (by decide)
  exact Nat.lt_of_lt_of_le h (Nat.le_trans (Nat.pow_le_pow_right (by decide) (show 4 * (0 + cc) ≤ 20 by omega)) (by decide))
theorem rcC_ok {kd : Option Nat} {rw0 ss : Nat} {av : Option Nat} (h : rcC tx len ac cc p kd rw0 ss av) (h1 : (rcP tx len ac cc p).1 = true) (hcc : cc ≤ 5) (hac : ∀ j, j < cc → ac j ≤ 4) : ∃ k a, k < 4 ∧ kd = some k ∧ (k = 0 → av = some a) ∧ (∀ x : TRt, doF cc x.1 x.2.1 x.2.2.1 x.2.2.2.1 x.2.2.2.2 k rw0 ss a = cmDo tx len ac cc p x) ∧ (k = 0 → ss < 1048576 ∧ a < 11) := by
  obtain ⟨k, hk, hkn, h0⟩ := rcP_kind h1
  obtain ⟨g1, g2, g3⟩ := h
  rw [hkn] at g1
  have hK : cmK tx len p = k := by unfold cmK; rw [hkn]; rfl
  by_cases e : k = 0
  · obtain ⟨a, ha, ha2⟩ := h0 e
    obtain ⟨s1, s2⟩ := g2 (by rw [g1, e])
    refine ⟨k, a, hk, g1, fun _ => by rw [s2]; exact ha, fun x => ?_, fun _ => ⟨by rw [s1]; exact cmS_lt hcc hac, by omega⟩⟩
    unfold cmDo
    rw [hK]
    exact doF_dep (fun h => by omega) (fun _ => ⟨s1, by unfold cmA; rw [ha]; rfl⟩) hk
  · refine ⟨k, 0, hk, g1, fun h => absurd h e, fun x => ?_, fun h => absurd h e⟩
    unfold cmDo
    rw [hK]
    exact doF_dep (fun h => g3 (by rw [g1]; rcases h with h | h; exact Or.inl (congrArg some h); exact Or.inr (congrArg some h))) (fun h => absurd h e) hk
theorem cmDo_ok {B : Nat} (hB : 10 ≤ B) (h1 : (rcP tx len ac cc p).1 = true) (hcc : cc ≤ 5) (hac : ∀ j, j < cc → ac j ≤ 4) (hx : trB B x) : trB B (cmDo tx len ac cc p x).2 := by
  obtain ⟨k, hk, hkn, h0⟩ := rcP_kind h1
  obtain ⟨x1, x2, x3⟩ := hx
  exact doF_ok x1 x2 x3 (fun e => ⟨cmS_lt hcc hac, by
    have hK : cmK tx len p = k := by unfold cmK; rw [hkn]; rfl
    obtain ⟨a, ha, ha2⟩ := h0 (by rw [← hK]; exact e)
    unfold cmA; rw [ha]; show a < B; omega⟩)
theorem runL_ok {B : Nat} (hB : 10 ≤ B) (hcc : cc ≤ 5) (hac : ∀ j, j < cc → ac j ≤ 4) : ∀ {n p : Nat} {x : TRt}, trB B x → trB B (runL tx len ac cc n p x).2
  | 0, _, _, hx => hx
  | n + 1, p, x, hx => by
    rw [runL_s]
    by_cases e : len ≤ p
    · rw [if_pos e]; exact hx
    · rw [if_neg e]
      by_cases e1 : (rcP tx len ac cc p).1 = true
      · rw [if_pos e1]
        by_cases e2 : (cmDo tx len ac cc p x).1 = true
        · rw [if_pos e2]; exact runL_ok hB hcc hac (cmDo_ok hB e1 hcc hac hx)
        · rw [if_neg e2]; exact cmDo_ok hB e1 hcc hac hx
      · rw [if_neg e1]; exact hx
end RL

set_option maxHeartbeats 4000000 in
set_option maxRecDepth 100000 in
theorem c_X5_runCommands (lQ : Launch) (D : va_G) (kA : Nat → ClassId) (adK adV : Nat → Nat) (mq : Nat) (s1 : Bool) (s2 : Bool) (q : Nat → Nat) (cc : Nat) (ac : Nat → Nat) (co : Nat → Nat) (ad : Nat) (rc : Nat) (nm : Nat → Nat) (st : Nat → Nat) (an : Nat → Nat) (qc : Nat → Nat) (cn : Nat) (sd : Nat → Nat) (bt : Nat → Nat) (fi : Nat → Option Nat) (se : Nat → Option Nat) (tl : Nat → Nat) (ax : Nat → Nat) (cf : Nat → Bool) (ow : Nat → Nat) (ho : Nat) (ov : Nat) (cs : Nat) (qp : Nat → Nat) (cm : Nat → Nat) (wo : Nat → Nat) (dg : Nat → Nat) (hq : Nat → Nat) (cnt : Nat) (sv : Nat → TSt) (qs : Nat → Nat) (tx : Nat → Nat) (len : Nat) (pos : Nat) (kd : Option Nat) (rw0 : Nat) (ss : Nat) (av : Option Nat) (sz : Nat) (hcc : cc ≤ 5) (hac : ∀ k, k < cc → 2 ≤ ac k ∧ ac k ≤ 4) (hrc : rc ≤ 20) (han : ∀ j, j < rc → an j < 11) (hst : ∀ j, j < rc → st j < 1048576) (hcn : cnt ≤ 4) (hlen : len ≤ 150) (htx : ∀ j, j < len → tx j < 128) : Met lQ yX5_runCommands wsX5_runCommands (rmN 8 172) (wrE_Pc D vwCl adK adV [.ref mq] ((wM kA mq q qc qp hq qs s1 s2) ++ ((wT kA q cc ac co ad rc nm st an) ++ ((wC kA qc q cn sd bt fi se tl ax cf ow ho ov cs) ++ ((wP kA qp q qc cm wo dg) ++ ((wH kA hq cnt sv) ++ (wS kA qs q tx len pos kd rw0 ss av)))))) (tyK kA) sz) (va_Qi (S := Nat × (Nat → TSt) × Bool × Bool × Nat × Nat × (Nat → Nat) × (Nat → Nat) × (Nat → Nat) × (Option Nat) × Nat × (Option Nat) × Nat × Nat) (fun (r : Int32) (u : Nat × (Nat → TSt) × Bool × Bool × Nat × Nat × (Nat → Nat) × (Nat → Nat) × (Nat → Nat) × (Option Nat) × Nat × (Option Nat) × Nat × Nat) => (ffF tx len ac cc 150 (skpF tx len 150 0) = none → u.1 = cntF cnt ∧ u.2.1 = savF cnt sv (cc, ac, co, ad, rc, nm, st, an) ∧ u.2.2.1 = true ∧ u.2.2.2.1 = true ∧ r = nI (runL tx len ac cc 150 (skpF tx len 150 0) (ad, rc, nm, st, an)).1 ∧ (u.2.2.2.2.1, u.2.2.2.2.2.1, u.2.2.2.2.2.2.1, u.2.2.2.2.2.2.2.1, u.2.2.2.2.2.2.2.2.1) = (runL tx len ac cc 150 (skpF tx len 150 0) (ad, rc, nm, st, an)).2) ∧ (∀ qf, ffF tx len ac cc 150 (skpF tx len 150 0) = some qf → u.1 = cnt ∧ u.2.1 = sv ∧ u.2.2.1 = s1 ∧ u.2.2.2.1 = s2 ∧ r = -10 - nI qf ∧ (u.2.2.2.2.1, u.2.2.2.2.2.1, u.2.2.2.2.2.2.1, u.2.2.2.2.2.2.2.1, u.2.2.2.2.2.2.2.2.1) = (ad, rc, nm, st, an))) (wr_B D vwCl ((wM kA mq q qc qp hq qs s1 s2) ++ ((wT kA q cc ac co ad rc nm st an) ++ ((wC kA qc q cn sd bt fi se tl ax cf ow ho ov cs) ++ ((wP kA qp q qc cm wo dg) ++ ((wH kA hq cnt sv) ++ (wS kA qs q tx len pos kd rw0 ss av)))))) (tyK kA) sz (fun u => ((wM kA mq q qc qp hq qs u.2.2.1 u.2.2.2.1) ++ ((wT kA q cc ac co u.2.2.2.2.1 u.2.2.2.2.2.1 u.2.2.2.2.2.2.1 u.2.2.2.2.2.2.2.1 u.2.2.2.2.2.2.2.2.1) ++ ((wC kA qc q cn sd bt fi se tl ax cf ow ho ov cs) ++ ((wP kA qp q qc cm wo dg) ++ ((wH kA hq u.1 u.2.1) ++ (wS kA qs q tx len u.2.2.2.2.2.2.2.2.2.2.2.2.1 u.2.2.2.2.2.2.2.2.2.1 u.2.2.2.2.2.2.2.2.2.2.2.2.2 u.2.2.2.2.2.2.2.2.2.2.1 u.2.2.2.2.2.2.2.2.2.2.2.1)))))))) (va_A ((wM kA mq q qc qp hq qs s1 s2) ++ ((wT kA q cc ac co ad rc nm st an) ++ ((wC kA qc q cn sd bt fi se tl ax cf ow ho ov cs) ++ ((wP kA qp q qc cm wo dg) ++ ((wH kA hq cnt sv) ++ (wS kA qs q tx len pos kd rw0 ss av)))))) sz)) 0 0 (va_A ((wM kA mq q qc qp hq qs s1 s2) ++ ((wT kA q cc ac co ad rc nm st an) ++ ((wC kA qc q cn sd bt fi se tl ax cf ow ho ov cs) ++ ((wP kA qp q qc cm wo dg) ++ ((wH kA hq cnt sv) ++ (wS kA qs q tx len pos kd rw0 ss av)))))) sz) := by
  refine Met.ofW (cc := cX5_runCommands) (maxL := 4) (ret := (some .int)) (by decide) rfl ?_
  intro pQ eQ s mQ args below meth cQ s₁ B hml hv
  obtain ⟨rfl, hsz, hP, hK, hD0, hE⟩ := hv
  have hx := B.exec
  have hb := B.bytes
  have hr := B.returns
  have hts := atoms_spec (ws := wsX5_runCommands) B.pre
  have hown : s.vm.findClass RX5 = some mQ.cls := findClass_of_methodNamed B.named
  have hlocks : meth.locks = false := B.notSynchronized
  have hS0 : CallFix pQ mQ cQ cX5_runCommands 4 s ([.ref mq] : List Value).toArray wsX5_runCommands RX5 := ⟨hx, hb, hml, hown, hts⟩
  subst hsz
  have hD := hD0.self (sz := s.heap.size)
  generalize hAe : va_A ((wM kA mq q qc qp hq qs s1 s2) ++ ((wT kA q cc ac co ad rc nm st an) ++ ((wC kA qc q cn sd bt fi se tl ax cf ow ho ov cs) ++ ((wP kA qp q qc cm wo dg) ++ ((wH kA hq cnt sv) ++ (wS kA qs q tx len pos kd rw0 ss av)))))) s.heap.size = A at hD hE ⊢
  have hA : ∀ q : Nat, s.heap.size ≤ q → A q := fun q h => by rw [← hAe]; exact Or.inr h
  have hS : va_S A s.heap s.heap [] := va_S.rf
  have f44 : (Cond.fieldLink RX5 44 "AskedRules" "script" "LAskedRules$Script;").before ([.ref mq] : List Value).toArray s = true := hts _ (by decide +kernel)
  have hinX5 : ∀ w ∈ wsX50, w ∈ wsX5_runCommands := by decide +kernel
  have hl := lv_entry ([.ref mq]) (n := 4) (Nat.le_of_ble_eq_true rfl)
  rw [lg_entry_eq]
  generalize (lg_sl ([.ref mq]) ++ List.replicate (4 - (lg_sl ([.ref mq])).length) Slot.unset).toArray = ls at hl ⊢
  have hl : lv_has ls 4 [(0, .ref mq)] := hl
  have hP : va_P D vwCl ((wM kA mq q qc qp hq qs s1 s2) ++ ((wT kA q cc ac co ad rc nm st an) ++ ((wC kA qc q cn sd bt fi se tl ax cf ow ho ov cs) ++ ((wP kA qp q qc cm wo dg) ++ ((wH kA hq cnt sv) ++ (wS kA qs q tx len pos kd rw0 ss av)))))) s.heap := hP
  have hD : va_D A ((wM kA mq q qc qp hq qs s1 s2) ++ ((wT kA q cc ac co ad rc nm st an) ++ ((wC kA qc q cn sd bt fi se tl ax cf ow ho ov cs) ++ ((wP kA qp q qc cm wo dg) ++ ((wH kA hq cnt sv) ++ (wS kA qs q tx len pos kd rw0 ss av)))))) := hD
  obtain ⟨R0, hR0⟩ : ∃ z, z = runL tx len ac cc 150 (skpF tx len 150 0) (ad, rc, nm, st, an) := ⟨_, rfl⟩
  have hac4 : ∀ j, j < cc → ac j ≤ 4 := fun j hj => (hac j hj).2
  refine lv_aload_n hx hb dX5_runCommands_0 rfl (lv_at hl 0 rfl) ?_
  refine n_get (ci := 5) (v := .ref (qs 0)) (C := RX5) (T := TX5) (N := 7) hx hb hts hinX5 hown hK hP 0 rfl rfl 4 rfl ⟨rfl, rfl, rfl⟩ f44 rfl dX5_runCommands_1 ?_
  refine n_wViE (b := qs 0) (As := []) (rest := []) (wr := ((wM kA mq q qc qp hq qs s1 s2) ++ ((wC kA qc q cn sd bt fi se tl ax cf ow ho ov cs) ++ ((wP kA qp q qc cm wo dg) ++ (wH kA hq cnt sv))))) (ws' := fun u => ((wM kA mq q qc qp hq qs s1 s2) ++ ((wT kA q cc ac co ad rc nm st an) ++ ((wC kA qc q cn sd bt fi se tl ax cf ow ho ov cs) ++ ((wP kA qp q qc cm wo dg) ++ ((wH kA hq cnt sv) ++ (wS kA qs q tx len u.2.2.2.2 u.1 u.2.1 u.2.2.1 u.2.2.2.1))))))) hS0 (c_X3_findFault lQ D kA adK adV qs tx len pos kd rw0 ss av q cc ac co ad rc nm st an s.heap.size (by first | assumption | omega) (by first | assumption | omega) (by first | assumption | omega) (by first | assumption | omega)) (cwV 0 hts gX5_runCommands_X3_findFault rfl rfl rfl (by decide +kernel) ⟨Nat.le_of_ble_eq_true rfl, Nat.le_of_ble_eq_true rfl⟩) hP hD hS hE hA hK hK (by simpa only [List.append_assoc, List.append_nil] using (((List.Perm.append_left _ ((List.Perm.append_left _ ((List.Perm.append_left _ ((List.Perm.append_left _ List.perm_append_comm).trans (List.perm_append_comm_assoc _ _ _))).trans (List.perm_append_comm_assoc _ _ _))).trans (List.perm_append_comm_assoc _ _ _))).trans (List.perm_append_comm_assoc _ _ _)).trans (List.Perm.append_left _ ((List.Perm.append_left _ (List.Perm.refl _)).trans (List.perm_append_comm_assoc _ _ _))))) (fun u => List.Perm.symm (by simpa only [List.append_assoc, List.append_nil] using (((List.Perm.append_left _ ((List.Perm.append_left _ ((List.Perm.append_left _ ((List.Perm.append_left _ List.perm_append_comm).trans (List.perm_append_comm_assoc _ _ _))).trans (List.perm_append_comm_assoc _ _ _))).trans (List.perm_append_comm_assoc _ _ _))).trans (List.perm_append_comm_assoc _ _ _)).trans (List.Perm.append_left _ ((List.Perm.append_left _ (List.Perm.refl _)).trans (List.perm_append_comm_assoc _ _ _)))))) (q0 := 0) rfl rfl rfl rfl rfl hl.1 (Nat.le_of_ble_eq_true rfl) dX5_runCommands_4 ⟨Nat.le_refl _, Nat.le_refl _⟩ (fun r4 u4 H locs h4 hP hD hS => ?_)
  obtain ⟨kd9_4, rw9_4, ss9_4, av9_4, p9_4⟩ := u4
  subst h4
  have hP : va_P D vwCl ((wM kA mq q qc qp hq qs s1 s2) ++ ((wT kA q cc ac co ad rc nm st an) ++ ((wC kA qc q cn sd bt fi se tl ax cf ow ho ov cs) ++ ((wP kA qp q qc cm wo dg) ++ ((wH kA hq cnt sv) ++ (wS kA qs q tx len p9_4 kd9_4 rw9_4 ss9_4 av9_4)))))) H := hP
  have hD : va_D A ((wM kA mq q qc qp hq qs s1 s2) ++ ((wT kA q cc ac co ad rc nm st an) ++ ((wC kA qc q cn sd bt fi se tl ax cf ow ho ov cs) ++ ((wP kA qp q qc cm wo dg) ++ ((wH kA hq cnt sv) ++ (wS kA qs q tx len p9_4 kd9_4 rw9_4 ss9_4 av9_4)))))) := hD
  refine lv_istore_n (lv' := [(1, .int (oI (ffF tx len ac cc 150 (skpF tx len 150 0)))), (0, .ref mq)]) hx hb dX5_runCommands_7 rfl hl (by decide) rfl (fun ls hl => ?_)
  refine lv_iload_n hx hb dX5_runCommands_8 rfl (lv_at hl 0 rfl) ?_
  refine lv_iconst (v := (oI none)) hx hb dX5_runCommands_9 (by decide) ?_
  refine n_icmpo_eq (o := ffF tx len ac cc 150 (skpF tx len 150 0)) (tgt := 18) hx hb (fun q h => by have := ffF_le (skpF_le (Nat.zero_le _)) h; omega) dX5_runCommands_10 (by decide) (fun c10 => ?_) (fun q10 c10 => ?_)
  · have hl : lv_has ls 4 [(1, .int (oI none)), (0, .ref mq)] := by rw [c10] at hl; exact hl
    refine lv_aload_n hx hb dX5_runCommands_18 rfl (lv_at hl 1 rfl) ?_
    refine n_wVv (b := mq) (As := []) (rest := []) (wr := []) (ws' := fun u => ((wM kA mq q qc qp hq qs true true) ++ ((wT kA q cc ac co ad rc nm st an) ++ ((wC kA qc q cn sd bt fi se tl ax cf ow ho ov cs) ++ ((wP kA qp q qc cm wo dg) ++ ((wH kA hq (cntF cnt) (savF cnt sv (cc, ac, co, ad, rc, nm, st, an))) ++ (wS kA qs q tx len p9_4 kd9_4 rw9_4 ss9_4 av9_4))))))) hS0 (c_X5_saveForChange lQ D kA mq s1 s2 q cc ac co ad rc nm st an qc cn sd bt fi se tl ax cf ow ho ov cs qp cm wo dg hq cnt sv qs tx len p9_4 kd9_4 rw9_4 ss9_4 av9_4 H.size (by first | assumption | omega)) (cwV 0 hts gX5_runCommands_X5_saveForChange rfl rfl rfl (by decide +kernel) ⟨Nat.le_of_ble_eq_true rfl, Nat.le_of_ble_eq_true rfl⟩) hP hD hS hA hK hK (by simpa only [List.append_assoc, List.append_nil] using ((List.Perm.refl _).trans (List.Perm.append_left _ ((List.Perm.refl _).trans (List.Perm.append_left _ ((List.Perm.refl _).trans (List.Perm.append_left _ ((List.Perm.refl _).trans (List.Perm.append_left _ ((List.Perm.refl _).trans (List.Perm.append_left _ (List.Perm.of_eq (List.append_nil _).symm)))))))))))) (fun u => List.Perm.symm (by simpa only [List.append_assoc, List.append_nil] using ((List.Perm.refl _).trans (List.Perm.append_left _ ((List.Perm.refl _).trans (List.Perm.append_left _ ((List.Perm.refl _).trans (List.Perm.append_left _ ((List.Perm.refl _).trans (List.Perm.append_left _ ((List.Perm.refl _).trans (List.Perm.append_left _ (List.Perm.of_eq (List.append_nil _).symm))))))))))))) (q0 := 0) rfl rfl rfl rfl rfl hl.1 (Nat.le_of_ble_eq_true rfl) dX5_runCommands_19 ⟨Nat.le_refl _, Nat.le_refl _⟩ (fun u19 H locs h19 hP hD hS => ?_)
    have hP : va_P D vwCl ((wM kA mq q qc qp hq qs true true) ++ ((wT kA q cc ac co ad rc nm st an) ++ ((wC kA qc q cn sd bt fi se tl ax cf ow ho ov cs) ++ ((wP kA qp q qc cm wo dg) ++ ((wH kA hq (cntF cnt) (savF cnt sv (cc, ac, co, ad, rc, nm, st, an))) ++ (wS kA qs q tx len p9_4 kd9_4 rw9_4 ss9_4 av9_4)))))) H := hP
    have hD : va_D A ((wM kA mq q qc qp hq qs true true) ++ ((wT kA q cc ac co ad rc nm st an) ++ ((wC kA qc q cn sd bt fi se tl ax cf ow ho ov cs) ++ ((wP kA qp q qc cm wo dg) ++ ((wH kA hq (cntF cnt) (savF cnt sv (cc, ac, co, ad, rc, nm, st, an))) ++ (wS kA qs q tx len p9_4 kd9_4 rw9_4 ss9_4 av9_4)))))) := hD
    refine lv_iconst (v := (nI 0)) hx hb dX5_runCommands_22 (by decide) ?_
    refine lv_istore_n (lv' := [(2, .int (nI 0)), (1, .int (oI none)), (0, .ref mq)]) hx hb dX5_runCommands_23 rfl hl (by decide) rfl (fun ls hl => ?_)
    refine lv_aload_n hx hb dX5_runCommands_24 rfl (lv_at hl 2 rfl) ?_
    refine n_get (ci := 5) (v := .ref (qs 0)) (C := RX5) (T := TX5) (N := 7) hx hb hts hinX5 hown hK hP 0 rfl rfl 4 rfl ⟨rfl, rfl, rfl⟩ f44 rfl dX5_runCommands_25 ?_
    refine n_wVv (b := qs 0) (As := []) (rest := []) (wr := ((wM kA mq q qc qp hq qs true true) ++ ((wC kA qc q cn sd bt fi se tl ax cf ow ho ov cs) ++ ((wP kA qp q qc cm wo dg) ++ (wH kA hq (cntF cnt) (savF cnt sv (cc, ac, co, ad, rc, nm, st, an))))))) (ws' := fun u => ((wM kA mq q qc qp hq qs true true) ++ ((wT kA q cc ac co ad rc nm st an) ++ ((wC kA qc q cn sd bt fi se tl ax cf ow ho ov cs) ++ ((wP kA qp q qc cm wo dg) ++ ((wH kA hq (cntF cnt) (savF cnt sv (cc, ac, co, ad, rc, nm, st, an))) ++ (wS kA qs q tx len (skpF tx len 150 0) kd9_4 rw9_4 ss9_4 av9_4))))))) hS0 (c_X3_rewind lQ D kA qs tx len p9_4 kd9_4 rw9_4 ss9_4 av9_4 q cc ac co ad rc nm st an H.size (by first | assumption | omega) (by first | assumption | omega)) (cwV 0 hts gX5_runCommands_X3_rewind rfl rfl rfl (by decide +kernel) ⟨Nat.le_of_ble_eq_true rfl, Nat.le_of_ble_eq_true rfl⟩) hP hD hS hA hK hK (by simpa only [List.append_assoc, List.append_nil] using (((List.Perm.append_left _ ((List.Perm.append_left _ ((List.Perm.append_left _ ((List.Perm.append_left _ List.perm_append_comm).trans (List.perm_append_comm_assoc _ _ _))).trans (List.perm_append_comm_assoc _ _ _))).trans (List.perm_append_comm_assoc _ _ _))).trans (List.perm_append_comm_assoc _ _ _)).trans (List.Perm.append_left _ ((List.Perm.append_left _ (List.Perm.refl _)).trans (List.perm_append_comm_assoc _ _ _))))) (fun u => List.Perm.symm (by simpa only [List.append_assoc, List.append_nil] using (((List.Perm.append_left _ ((List.Perm.append_left _ ((List.Perm.append_left _ ((List.Perm.append_left _ List.perm_append_comm).trans (List.perm_append_comm_assoc _ _ _))).trans (List.perm_append_comm_assoc _ _ _))).trans (List.perm_append_comm_assoc _ _ _))).trans (List.perm_append_comm_assoc _ _ _)).trans (List.Perm.append_left _ ((List.Perm.append_left _ (List.Perm.refl _)).trans (List.perm_append_comm_assoc _ _ _)))))) (q0 := 0) rfl rfl rfl rfl rfl hl.1 (Nat.le_of_ble_eq_true rfl) dX5_runCommands_28 ⟨Nat.le_refl _, Nat.le_refl _⟩ (fun u28 H locs h28 hP hD hS => ?_)
    have hP : va_P D vwCl ((wM kA mq q qc qp hq qs true true) ++ ((wT kA q cc ac co ad rc nm st an) ++ ((wC kA qc q cn sd bt fi se tl ax cf ow ho ov cs) ++ ((wP kA qp q qc cm wo dg) ++ ((wH kA hq (cntF cnt) (savF cnt sv (cc, ac, co, ad, rc, nm, st, an))) ++ (wS kA qs q tx len (skpF tx len 150 0) kd9_4 rw9_4 ss9_4 av9_4)))))) H := hP
    have hD : va_D A ((wM kA mq q qc qp hq qs true true) ++ ((wT kA q cc ac co ad rc nm st an) ++ ((wC kA qc q cn sd bt fi se tl ax cf ow ho ov cs) ++ ((wP kA qp q qc cm wo dg) ++ ((wH kA hq (cntF cnt) (savF cnt sv (cc, ac, co, ad, rc, nm, st, an))) ++ (wS kA qs q tx len (skpF tx len 150 0) kd9_4 rw9_4 ss9_4 av9_4)))))) := hD
    refine lv_iconst (v := (nI 0)) hx hb dX5_runCommands_31 (by decide) ?_
    refine lv_istore_n (lv' := [(3, .int (nI 0)), (2, .int (nI 0)), (1, .int (oI none)), (0, .ref mq)]) hx hb dX5_runCommands_32 rfl hl (by decide) rfl (fun ls hl => ?_)
    have L33 : ∀ (nQ : Nat) (i : Nat) (d : Nat) (p : Nat) (kd1 : Option Nat) (rw1 : Nat) (ss1 : Nat) (av1 : Option Nat) (adx : Nat) (rcx : Nat) (nmx : Nat → Nat) (stx : Nat → Nat) (anx : Nat → Nat), 150 - i < nQ → (i ≤ 150) → (p ≤ len) → (rcx ≤ 20) → (∀ j, j < rcx → anx j < 11) → (∀ j, j < rcx → stx j < 1048576) → (R0 = ((runL tx len ac cc (150 - i) p (adx, rcx, nmx, stx, anx)).1 + d, (runL tx len ac cc (150 - i) p (adx, rcx, nmx, stx, anx)).2)) → ∀ (H : Heap) (locs : List Loc), va_P D vwCl ((wM kA mq q qc qp hq qs true true) ++ ((wT kA q cc ac co adx rcx nmx stx anx) ++ ((wC kA qc q cn sd bt fi se tl ax cf ow ho ov cs) ++ ((wP kA qp q qc cm wo dg) ++ ((wH kA hq (cntF cnt) (savF cnt sv (cc, ac, co, ad, rc, nm, st, an))) ++ (wS kA qs q tx len p kd1 rw1 ss1 av1)))))) H → va_D A ((wM kA mq q qc qp hq qs true true) ++ ((wT kA q cc ac co adx rcx nmx stx anx) ++ ((wC kA qc q cn sd bt fi se tl ax cf ow ho ov cs) ++ ((wP kA qp q qc cm wo dg) ++ ((wH kA hq (cntF cnt) (savF cnt sv (cc, ac, co, ad, rc, nm, st, an))) ++ (wS kA qs q tx len p kd1 rw1 ss1 av1)))))) → va_S A s.heap H locs → ∀ (ls : Array Slot), lv_has ls 4 [(3, .int (nI i)), (2, .int (nI d)), (1, .int (oI none)), (0, .ref mq)] → W pQ lQ eQ (headSpec wsX5_runCommands (rmN 8 172)).room s mQ ([.ref mq] : List Value).toArray below meth cQ H locs 0 0 (MQ below (va_Qi (S := Nat × (Nat → TSt) × Bool × Bool × Nat × Nat × (Nat → Nat) × (Nat → Nat) × (Nat → Nat) × (Option Nat) × Nat × (Option Nat) × Nat × Nat) (fun (r : Int32) (u : Nat × (Nat → TSt) × Bool × Bool × Nat × Nat × (Nat → Nat) × (Nat → Nat) × (Nat → Nat) × (Option Nat) × Nat × (Option Nat) × Nat × Nat) => (ffF tx len ac cc 150 (skpF tx len 150 0) = none → u.1 = cntF cnt ∧ u.2.1 = savF cnt sv (cc, ac, co, ad, rc, nm, st, an) ∧ u.2.2.1 = true ∧ u.2.2.2.1 = true ∧ r = nI (runL tx len ac cc 150 (skpF tx len 150 0) (ad, rc, nm, st, an)).1 ∧ (u.2.2.2.2.1, u.2.2.2.2.2.1, u.2.2.2.2.2.2.1, u.2.2.2.2.2.2.2.1, u.2.2.2.2.2.2.2.2.1) = (runL tx len ac cc 150 (skpF tx len 150 0) (ad, rc, nm, st, an)).2) ∧ (∀ qf, ffF tx len ac cc 150 (skpF tx len 150 0) = some qf → u.1 = cnt ∧ u.2.1 = sv ∧ u.2.2.1 = s1 ∧ u.2.2.2.1 = s2 ∧ r = -10 - nI qf ∧ (u.2.2.2.2.1, u.2.2.2.2.2.1, u.2.2.2.2.2.2.1, u.2.2.2.2.2.2.2.1, u.2.2.2.2.2.2.2.2.1) = (ad, rc, nm, st, an))) (wr_B D vwCl ((wM kA mq q qc qp hq qs s1 s2) ++ ((wT kA q cc ac co ad rc nm st an) ++ ((wC kA qc q cn sd bt fi se tl ax cf ow ho ov cs) ++ ((wP kA qp q qc cm wo dg) ++ ((wH kA hq cnt sv) ++ (wS kA qs q tx len pos kd rw0 ss av)))))) (tyK kA) s.heap.size (fun u => ((wM kA mq q qc qp hq qs u.2.2.1 u.2.2.2.1) ++ ((wT kA q cc ac co u.2.2.2.2.1 u.2.2.2.2.2.1 u.2.2.2.2.2.2.1 u.2.2.2.2.2.2.2.1 u.2.2.2.2.2.2.2.2.1) ++ ((wC kA qc q cn sd bt fi se tl ax cf ow ho ov cs) ++ ((wP kA qp q qc cm wo dg) ++ ((wH kA hq u.1 u.2.1) ++ (wS kA qs q tx len u.2.2.2.2.2.2.2.2.2.2.2.2.1 u.2.2.2.2.2.2.2.2.2.1 u.2.2.2.2.2.2.2.2.2.2.2.2.2 u.2.2.2.2.2.2.2.2.2.2.1 u.2.2.2.2.2.2.2.2.2.2.2.1)))))))) A) ([.ref mq] : List Value).toArray s 0 0 A) (F0 mQ 33 ls []) := by
      intro nQ
      induction nQ with
      | zero => intro i d p kd1 rw1 ss1 av1 adx rcx nmx stx anx hn; exact absurd hn (Nat.not_lt_zero _)
      | succ nQ ih33 =>
        intro i d p kd1 rw1 ss1 av1 adx rcx nmx stx anx hm33 hi hp hrx hanx hstx hs H locs hP hD hS ls hl
        refine lv_iload_n hx hb dX5_runCommands_33 rfl (lv_at hl 0 rfl) ?_
        refine lv_sipush (v := (nI 150)) hx hb dX5_runCommands_34 (by decide) ?_
        refine n_icmp_ge (a := i) (b := 150) (tgt := 86) hx hb (by omega) (by omega) dX5_runCommands_37 (by decide) (fun c37 => ?_) (fun c37 => ?_)
        · refine lv_iload_n hx hb dX5_runCommands_86 rfl (lv_at hl 1 rfl) ?_
          have hz : R0 = (d, (adx, rcx, nmx, stx, anx)) := by
            have h0 : runL tx len ac cc (150 - i) p (adx, rcx, nmx, stx, anx) = (0, (adx, rcx, nmx, stx, anx)) := by
              first
              | (rw [show 150 - i = 0 by omega]; rfl)
              | exact runL_e (of_decide_eq_true c47) _
              | (rw [show 150 - i = (150 - (i + 1)) + 1 by omega]; exact runL_b (of_decide_eq_false c47) c57)
              | (rw [show 150 - i = (150 - (i + 1)) + 1 by omega, runL_d (of_decide_eq_false c47) c57 (by rw [← hdo9 (adx, rcx, nmx, stx, anx)]; exact c64), ← hdo9 (adx, rcx, nmx, stx, anx)])
            rw [hs, h0]
            exact Prod.ext (Nat.zero_add _) rfl
          exact n_wreti hx hb hr hlocks (post := fun (r : Int32) (u : Nat × (Nat → TSt) × Bool × Bool × Nat × Nat × (Nat → Nat) × (Nat → Nat) × (Nat → Nat) × (Option Nat) × Nat × (Option Nat) × Nat × Nat) => (ffF tx len ac cc 150 (skpF tx len 150 0) = none → u.1 = cntF cnt ∧ u.2.1 = savF cnt sv (cc, ac, co, ad, rc, nm, st, an) ∧ u.2.2.1 = true ∧ u.2.2.2.1 = true ∧ r = nI (runL tx len ac cc 150 (skpF tx len 150 0) (ad, rc, nm, st, an)).1 ∧ (u.2.2.2.2.1, u.2.2.2.2.2.1, u.2.2.2.2.2.2.1, u.2.2.2.2.2.2.2.1, u.2.2.2.2.2.2.2.2.1) = (runL tx len ac cc 150 (skpF tx len 150 0) (ad, rc, nm, st, an)).2) ∧ (∀ qf, ffF tx len ac cc 150 (skpF tx len 150 0) = some qf → u.1 = cnt ∧ u.2.1 = sv ∧ u.2.2.1 = s1 ∧ u.2.2.2.1 = s2 ∧ r = -10 - nI qf ∧ (u.2.2.2.2.1, u.2.2.2.2.2.1, u.2.2.2.2.2.2.1, u.2.2.2.2.2.2.2.1, u.2.2.2.2.2.2.2.2.1) = (ad, rc, nm, st, an))) (w1 := fun u => ((wM kA mq q qc qp hq qs u.2.2.1 u.2.2.2.1) ++ ((wT kA q cc ac co u.2.2.2.2.1 u.2.2.2.2.2.1 u.2.2.2.2.2.2.1 u.2.2.2.2.2.2.2.1 u.2.2.2.2.2.2.2.2.1) ++ ((wC kA qc q cn sd bt fi se tl ax cf ow ho ov cs) ++ ((wP kA qp q qc cm wo dg) ++ ((wH kA hq u.1 u.2.1) ++ (wS kA qs q tx len u.2.2.2.2.2.2.2.2.2.2.2.2.1 u.2.2.2.2.2.2.2.2.2.1 u.2.2.2.2.2.2.2.2.2.2.2.2.2 u.2.2.2.2.2.2.2.2.2.2.1 u.2.2.2.2.2.2.2.2.2.2.2.1))))))) (cntF cnt, savF cnt sv (cc, ac, co, ad, rc, nm, st, an), true, true, adx, rcx, nmx, stx, anx, kd1, ss1, av1, p, rw1) ⟨(fun _ => ⟨rfl, rfl, rfl, rfl, (by rw [← hR0, hz]), (by rw [← hR0, hz])⟩), (fun qf h => by rw [c10] at h; cases h)⟩ hP hD hK hS hAe dX5_runCommands_87
        · refine lv_aload_n hx hb dX5_runCommands_40 rfl (lv_at hl 3 rfl) ?_
          refine n_get (ci := 5) (v := .ref (qs 0)) (C := RX5) (T := TX5) (N := 7) hx hb hts hinX5 hown hK hP 0 rfl rfl 4 rfl ⟨rfl, rfl, rfl⟩ f44 rfl dX5_runCommands_41 ?_
          refine n_cV (b := qs 0) (As := []) (rest := []) (wc := ((wS kA qs q tx len p kd1 rw1 ss1 av1) ++ (wT kA q cc ac co adx rcx nmx stx anx))) hS0 (c_X3_atEnd lQ D kA qs tx len p kd1 rw1 ss1 av1 q cc ac co adx rcx nmx stx anx (by first | assumption | omega) (Nat.le_trans hp hlen)) (cwV 0 hts gX5_runCommands_X3_atEnd rfl rfl rfl (by decide +kernel) ⟨Nat.le_of_ble_eq_true rfl, Nat.le_of_ble_eq_true rfl⟩) (hP.mem (ws' := ((wS kA qs q tx len p kd1 rw1 ss1 av1) ++ (wT kA q cc ac co adx rcx nmx stx anx))) (fun qQ h => (show _ from ((by simpa only [List.append_assoc, List.append_nil] using (((List.Perm.append_left _ ((List.Perm.append_left _ ((List.Perm.append_left _ ((List.Perm.append_left _ List.perm_append_comm).trans (List.perm_append_comm_assoc _ _ _))).trans (List.perm_append_comm_assoc _ _ _))).trans (List.perm_append_comm_assoc _ _ _))).trans (List.perm_append_comm_assoc _ _ _)).trans (List.Perm.append_left _ ((List.Perm.append_left _ (List.Perm.refl _)).trans (List.perm_append_comm_assoc _ _ _))))) : List.Perm ((wM kA mq q qc qp hq qs true true) ++ ((wT kA q cc ac co adx rcx nmx stx anx) ++ ((wC kA qc q cn sd bt fi se tl ax cf ow ho ov cs) ++ ((wP kA qp q qc cm wo dg) ++ ((wH kA hq (cntF cnt) (savF cnt sv (cc, ac, co, ad, rc, nm, st, an))) ++ (wS kA qs q tx len p kd1 rw1 ss1 av1)))))) (((wS kA qs q tx len p kd1 rw1 ss1 av1) ++ (wT kA q cc ac co adx rcx nmx stx anx)) ++ ((wM kA mq q qc qp hq qs true true) ++ ((wC kA qc q cn sd bt fi se tl ax cf ow ho ov cs) ++ ((wP kA qp q qc cm wo dg) ++ (wH kA hq (cntF cnt) (savF cnt sv (cc, ac, co, ad, rc, nm, st, an)))))))).mem_iff.mpr (List.mem_append_left _ h)))) hK (q0 := 0) rfl rfl rfl rfl rfl hl.1 (Nat.le_of_ble_eq_true rfl) dX5_runCommands_44 ⟨Nat.le_refl _, Nat.le_refl _⟩ (fun r44 h44 => ?_)
          subst h44
          refine n_ifb_ne (b := decide (len ≤ p)) (tgt := 86) hx hb dX5_runCommands_47 (by decide) (fun c47 => ?_) (fun c47 => ?_)
          · refine lv_iload_n hx hb dX5_runCommands_86 rfl (lv_at hl 1 rfl) ?_
            have hz : R0 = (d, (adx, rcx, nmx, stx, anx)) := by
              have h0 : runL tx len ac cc (150 - i) p (adx, rcx, nmx, stx, anx) = (0, (adx, rcx, nmx, stx, anx)) := by
                first
                | (rw [show 150 - i = 0 by omega]; rfl)
                | exact runL_e (of_decide_eq_true c47) _
                | (rw [show 150 - i = (150 - (i + 1)) + 1 by omega]; exact runL_b (of_decide_eq_false c47) c57)
                | (rw [show 150 - i = (150 - (i + 1)) + 1 by omega, runL_d (of_decide_eq_false c47) c57 (by rw [← hdo9 (adx, rcx, nmx, stx, anx)]; exact c64), ← hdo9 (adx, rcx, nmx, stx, anx)])
              rw [hs, h0]
              exact Prod.ext (Nat.zero_add _) rfl
            exact n_wreti hx hb hr hlocks (post := fun (r : Int32) (u : Nat × (Nat → TSt) × Bool × Bool × Nat × Nat × (Nat → Nat) × (Nat → Nat) × (Nat → Nat) × (Option Nat) × Nat × (Option Nat) × Nat × Nat) => (ffF tx len ac cc 150 (skpF tx len 150 0) = none → u.1 = cntF cnt ∧ u.2.1 = savF cnt sv (cc, ac, co, ad, rc, nm, st, an) ∧ u.2.2.1 = true ∧ u.2.2.2.1 = true ∧ r = nI (runL tx len ac cc 150 (skpF tx len 150 0) (ad, rc, nm, st, an)).1 ∧ (u.2.2.2.2.1, u.2.2.2.2.2.1, u.2.2.2.2.2.2.1, u.2.2.2.2.2.2.2.1, u.2.2.2.2.2.2.2.2.1) = (runL tx len ac cc 150 (skpF tx len 150 0) (ad, rc, nm, st, an)).2) ∧ (∀ qf, ffF tx len ac cc 150 (skpF tx len 150 0) = some qf → u.1 = cnt ∧ u.2.1 = sv ∧ u.2.2.1 = s1 ∧ u.2.2.2.1 = s2 ∧ r = -10 - nI qf ∧ (u.2.2.2.2.1, u.2.2.2.2.2.1, u.2.2.2.2.2.2.1, u.2.2.2.2.2.2.2.1, u.2.2.2.2.2.2.2.2.1) = (ad, rc, nm, st, an))) (w1 := fun u => ((wM kA mq q qc qp hq qs u.2.2.1 u.2.2.2.1) ++ ((wT kA q cc ac co u.2.2.2.2.1 u.2.2.2.2.2.1 u.2.2.2.2.2.2.1 u.2.2.2.2.2.2.2.1 u.2.2.2.2.2.2.2.2.1) ++ ((wC kA qc q cn sd bt fi se tl ax cf ow ho ov cs) ++ ((wP kA qp q qc cm wo dg) ++ ((wH kA hq u.1 u.2.1) ++ (wS kA qs q tx len u.2.2.2.2.2.2.2.2.2.2.2.2.1 u.2.2.2.2.2.2.2.2.2.1 u.2.2.2.2.2.2.2.2.2.2.2.2.2 u.2.2.2.2.2.2.2.2.2.2.1 u.2.2.2.2.2.2.2.2.2.2.2.1))))))) (cntF cnt, savF cnt sv (cc, ac, co, ad, rc, nm, st, an), true, true, adx, rcx, nmx, stx, anx, kd1, ss1, av1, p, rw1) ⟨(fun _ => ⟨rfl, rfl, rfl, rfl, (by rw [← hR0, hz]), (by rw [← hR0, hz])⟩), (fun qf h => by rw [c10] at h; cases h)⟩ hP hD hK hS hAe dX5_runCommands_87
          · refine lv_aload_n hx hb dX5_runCommands_50 rfl (lv_at hl 3 rfl) ?_
            refine n_get (ci := 5) (v := .ref (qs 0)) (C := RX5) (T := TX5) (N := 7) hx hb hts hinX5 hown hK hP 0 rfl rfl 4 rfl ⟨rfl, rfl, rfl⟩ f44 rfl dX5_runCommands_51 ?_
            refine n_wViE (b := qs 0) (As := []) (rest := []) (wr := ((wM kA mq q qc qp hq qs true true) ++ ((wC kA qc q cn sd bt fi se tl ax cf ow ho ov cs) ++ ((wP kA qp q qc cm wo dg) ++ (wH kA hq (cntF cnt) (savF cnt sv (cc, ac, co, ad, rc, nm, st, an))))))) (ws' := fun u => ((wM kA mq q qc qp hq qs true true) ++ ((wT kA q cc ac co adx rcx nmx stx anx) ++ ((wC kA qc q cn sd bt fi se tl ax cf ow ho ov cs) ++ ((wP kA qp q qc cm wo dg) ++ ((wH kA hq (cntF cnt) (savF cnt sv (cc, ac, co, ad, rc, nm, st, an))) ++ (wS kA qs q tx len ((rcP tx len ac cc p).2) u.1 u.2.1 u.2.2.1 u.2.2.2))))))) hS0 (c_X3_readCommand lQ D kA adK adV qs tx len p kd1 rw1 ss1 av1 q cc ac co adx rcx nmx stx anx H.size (by first | assumption | omega) hp (by first | assumption | omega) (by first | assumption | omega) (by first | assumption | omega)) (cwV 0 hts gX5_runCommands_X3_readCommand rfl rfl rfl (by decide +kernel) ⟨Nat.le_of_ble_eq_true rfl, Nat.le_of_ble_eq_true rfl⟩) hP hD hS hE hA hK hK (by simpa only [List.append_assoc, List.append_nil] using (((List.Perm.append_left _ ((List.Perm.append_left _ ((List.Perm.append_left _ ((List.Perm.append_left _ List.perm_append_comm).trans (List.perm_append_comm_assoc _ _ _))).trans (List.perm_append_comm_assoc _ _ _))).trans (List.perm_append_comm_assoc _ _ _))).trans (List.perm_append_comm_assoc _ _ _)).trans (List.Perm.append_left _ ((List.Perm.append_left _ (List.Perm.refl _)).trans (List.perm_append_comm_assoc _ _ _))))) (fun u => List.Perm.symm (by simpa only [List.append_assoc, List.append_nil] using (((List.Perm.append_left _ ((List.Perm.append_left _ ((List.Perm.append_left _ ((List.Perm.append_left _ List.perm_append_comm).trans (List.perm_append_comm_assoc _ _ _))).trans (List.perm_append_comm_assoc _ _ _))).trans (List.perm_append_comm_assoc _ _ _))).trans (List.perm_append_comm_assoc _ _ _)).trans (List.Perm.append_left _ ((List.Perm.append_left _ (List.Perm.refl _)).trans (List.perm_append_comm_assoc _ _ _)))))) (q0 := 0) rfl rfl rfl rfl rfl hl.1 (Nat.le_of_ble_eq_true rfl) dX5_runCommands_54 ⟨Nat.le_refl _, Nat.le_refl _⟩ (fun r54 u54 H locs h54 hP hD hS => ?_)
            obtain ⟨kd9_54, rw9_54, ss9_54, av9_54⟩ := u54
            obtain ⟨rfl, h54_1⟩ := h54
            try dsimp only at h54_1
            have hP : va_P D vwCl ((wM kA mq q qc qp hq qs true true) ++ ((wT kA q cc ac co adx rcx nmx stx anx) ++ ((wC kA qc q cn sd bt fi se tl ax cf ow ho ov cs) ++ ((wP kA qp q qc cm wo dg) ++ ((wH kA hq (cntF cnt) (savF cnt sv (cc, ac, co, ad, rc, nm, st, an))) ++ (wS kA qs q tx len ((rcP tx len ac cc p).2) kd9_54 rw9_54 ss9_54 av9_54)))))) H := hP
            have hD : va_D A ((wM kA mq q qc qp hq qs true true) ++ ((wT kA q cc ac co adx rcx nmx stx anx) ++ ((wC kA qc q cn sd bt fi se tl ax cf ow ho ov cs) ++ ((wP kA qp q qc cm wo dg) ++ ((wH kA hq (cntF cnt) (savF cnt sv (cc, ac, co, ad, rc, nm, st, an))) ++ (wS kA qs q tx len ((rcP tx len ac cc p).2) kd9_54 rw9_54 ss9_54 av9_54)))))) := hD
            refine n_ifb_eq (b := (rcP tx len ac cc p).1) (tgt := 86) hx hb dX5_runCommands_57 (by decide) (fun c57 => ?_) (fun c57 => ?_)
            · refine lv_iload_n hx hb dX5_runCommands_86 rfl (lv_at hl 1 rfl) ?_
              have hz : R0 = (d, (adx, rcx, nmx, stx, anx)) := by
                have h0 : runL tx len ac cc (150 - i) p (adx, rcx, nmx, stx, anx) = (0, (adx, rcx, nmx, stx, anx)) := by
                  first
                  | (rw [show 150 - i = 0 by omega]; rfl)
                  | exact runL_e (of_decide_eq_true c47) _
                  | (rw [show 150 - i = (150 - (i + 1)) + 1 by omega]; exact runL_b (of_decide_eq_false c47) c57)
                  | (rw [show 150 - i = (150 - (i + 1)) + 1 by omega, runL_d (of_decide_eq_false c47) c57 (by rw [← hdo9 (adx, rcx, nmx, stx, anx)]; exact c64), ← hdo9 (adx, rcx, nmx, stx, anx)])
                rw [hs, h0]
                exact Prod.ext (Nat.zero_add _) rfl
              exact n_wreti hx hb hr hlocks (post := fun (r : Int32) (u : Nat × (Nat → TSt) × Bool × Bool × Nat × Nat × (Nat → Nat) × (Nat → Nat) × (Nat → Nat) × (Option Nat) × Nat × (Option Nat) × Nat × Nat) => (ffF tx len ac cc 150 (skpF tx len 150 0) = none → u.1 = cntF cnt ∧ u.2.1 = savF cnt sv (cc, ac, co, ad, rc, nm, st, an) ∧ u.2.2.1 = true ∧ u.2.2.2.1 = true ∧ r = nI (runL tx len ac cc 150 (skpF tx len 150 0) (ad, rc, nm, st, an)).1 ∧ (u.2.2.2.2.1, u.2.2.2.2.2.1, u.2.2.2.2.2.2.1, u.2.2.2.2.2.2.2.1, u.2.2.2.2.2.2.2.2.1) = (runL tx len ac cc 150 (skpF tx len 150 0) (ad, rc, nm, st, an)).2) ∧ (∀ qf, ffF tx len ac cc 150 (skpF tx len 150 0) = some qf → u.1 = cnt ∧ u.2.1 = sv ∧ u.2.2.1 = s1 ∧ u.2.2.2.1 = s2 ∧ r = -10 - nI qf ∧ (u.2.2.2.2.1, u.2.2.2.2.2.1, u.2.2.2.2.2.2.1, u.2.2.2.2.2.2.2.1, u.2.2.2.2.2.2.2.2.1) = (ad, rc, nm, st, an))) (w1 := fun u => ((wM kA mq q qc qp hq qs u.2.2.1 u.2.2.2.1) ++ ((wT kA q cc ac co u.2.2.2.2.1 u.2.2.2.2.2.1 u.2.2.2.2.2.2.1 u.2.2.2.2.2.2.2.1 u.2.2.2.2.2.2.2.2.1) ++ ((wC kA qc q cn sd bt fi se tl ax cf ow ho ov cs) ++ ((wP kA qp q qc cm wo dg) ++ ((wH kA hq u.1 u.2.1) ++ (wS kA qs q tx len u.2.2.2.2.2.2.2.2.2.2.2.2.1 u.2.2.2.2.2.2.2.2.2.1 u.2.2.2.2.2.2.2.2.2.2.2.2.2 u.2.2.2.2.2.2.2.2.2.2.1 u.2.2.2.2.2.2.2.2.2.2.2.1))))))) (cntF cnt, savF cnt sv (cc, ac, co, ad, rc, nm, st, an), true, true, adx, rcx, nmx, stx, anx, kd9_54, ss9_54, av9_54, (rcP tx len ac cc p).2, rw9_54) ⟨(fun _ => ⟨rfl, rfl, rfl, rfl, (by rw [← hR0, hz]), (by rw [← hR0, hz])⟩), (fun qf h => by rw [c10] at h; cases h)⟩ hP hD hK hS hAe dX5_runCommands_87
            · obtain ⟨k9, a9, hk9, hkd, hav, hdo9, hb9⟩ := rcC_ok (h54_1 c57) c57 hcc hac4
              have hok9 := doF_ok (B := 11) (cc := cc) (ad := adx) (nm := nmx) (rw0 := rw9_54) hrx hanx hstx hb9
              refine lv_aload_n hx hb dX5_runCommands_60 rfl (lv_at hl 3 rfl) ?_
              refine n_wVi (b := mq) (As := []) (rest := []) (wr := []) (ws' := fun u => ((wM kA mq q qc qp hq qs true true) ++ ((wT kA q cc ac co ((doF cc adx rcx nmx stx anx k9 rw9_54 ss9_54 a9).2.1) ((doF cc adx rcx nmx stx anx k9 rw9_54 ss9_54 a9).2.2.1) ((doF cc adx rcx nmx stx anx k9 rw9_54 ss9_54 a9).2.2.2.1) ((doF cc adx rcx nmx stx anx k9 rw9_54 ss9_54 a9).2.2.2.2.1) ((doF cc adx rcx nmx stx anx k9 rw9_54 ss9_54 a9).2.2.2.2.2)) ++ ((wC kA qc q cn sd bt fi se tl ax cf ow ho ov cs) ++ ((wP kA qp q qc cm wo dg) ++ ((wH kA hq (cntF cnt) (savF cnt sv (cc, ac, co, ad, rc, nm, st, an))) ++ (wS kA qs q tx len ((rcP tx len ac cc p).2) kd9_54 rw9_54 ss9_54 av9_54))))))) hS0 (c_X5_carryOut lQ D kA mq true true q cc ac co adx rcx nmx stx anx qc cn sd bt fi se tl ax cf ow ho ov cs qp cm wo dg hq (cntF cnt) (savF cnt sv (cc, ac, co, ad, rc, nm, st, an)) qs tx len ((rcP tx len ac cc p).2) kd9_54 rw9_54 ss9_54 av9_54 k9 a9 H.size (by first | assumption | omega) (by first | assumption | omega) (by first | assumption | omega) (by first | assumption | omega) (by first | assumption | omega) hkd hav) (cwV 0 hts gX5_runCommands_X5_carryOut rfl rfl rfl (by decide +kernel) ⟨Nat.le_of_ble_eq_true rfl, Nat.le_of_ble_eq_true rfl⟩) hP hD hS hA hK hK (by simpa only [List.append_assoc, List.append_nil] using ((List.Perm.refl _).trans (List.Perm.append_left _ ((List.Perm.refl _).trans (List.Perm.append_left _ ((List.Perm.refl _).trans (List.Perm.append_left _ ((List.Perm.refl _).trans (List.Perm.append_left _ ((List.Perm.refl _).trans (List.Perm.append_left _ (List.Perm.of_eq (List.append_nil _).symm)))))))))))) (fun u => List.Perm.symm (by simpa only [List.append_assoc, List.append_nil] using ((List.Perm.refl _).trans (List.Perm.append_left _ ((List.Perm.refl _).trans (List.Perm.append_left _ ((List.Perm.refl _).trans (List.Perm.append_left _ ((List.Perm.refl _).trans (List.Perm.append_left _ ((List.Perm.refl _).trans (List.Perm.append_left _ (List.Perm.of_eq (List.append_nil _).symm))))))))))))) (q0 := 0) rfl rfl rfl rfl rfl hl.1 (Nat.le_of_ble_eq_true rfl) dX5_runCommands_61 ⟨Nat.le_refl _, Nat.le_refl _⟩ (fun r61 u61 H locs h61 hP hD hS => ?_)
              subst h61
              have hP : va_P D vwCl ((wM kA mq q qc qp hq qs true true) ++ ((wT kA q cc ac co ((doF cc adx rcx nmx stx anx k9 rw9_54 ss9_54 a9).2.1) ((doF cc adx rcx nmx stx anx k9 rw9_54 ss9_54 a9).2.2.1) ((doF cc adx rcx nmx stx anx k9 rw9_54 ss9_54 a9).2.2.2.1) ((doF cc adx rcx nmx stx anx k9 rw9_54 ss9_54 a9).2.2.2.2.1) ((doF cc adx rcx nmx stx anx k9 rw9_54 ss9_54 a9).2.2.2.2.2)) ++ ((wC kA qc q cn sd bt fi se tl ax cf ow ho ov cs) ++ ((wP kA qp q qc cm wo dg) ++ ((wH kA hq (cntF cnt) (savF cnt sv (cc, ac, co, ad, rc, nm, st, an))) ++ (wS kA qs q tx len ((rcP tx len ac cc p).2) kd9_54 rw9_54 ss9_54 av9_54)))))) H := hP
              have hD : va_D A ((wM kA mq q qc qp hq qs true true) ++ ((wT kA q cc ac co ((doF cc adx rcx nmx stx anx k9 rw9_54 ss9_54 a9).2.1) ((doF cc adx rcx nmx stx anx k9 rw9_54 ss9_54 a9).2.2.1) ((doF cc adx rcx nmx stx anx k9 rw9_54 ss9_54 a9).2.2.2.1) ((doF cc adx rcx nmx stx anx k9 rw9_54 ss9_54 a9).2.2.2.2.1) ((doF cc adx rcx nmx stx anx k9 rw9_54 ss9_54 a9).2.2.2.2.2)) ++ ((wC kA qc q cn sd bt fi se tl ax cf ow ho ov cs) ++ ((wP kA qp q qc cm wo dg) ++ ((wH kA hq (cntF cnt) (savF cnt sv (cc, ac, co, ad, rc, nm, st, an))) ++ (wS kA qs q tx len ((rcP tx len ac cc p).2) kd9_54 rw9_54 ss9_54 av9_54)))))) := hD
              refine n_ifb_ne (b := (doF cc adx rcx nmx stx anx k9 rw9_54 ss9_54 a9).1) (tgt := 70) hx hb dX5_runCommands_64 (by decide) (fun c64 => ?_) (fun c64 => ?_)
              · refine lv_iinc (v := (nI (d + 1))) (lv' := [(2, .int (nI (d + 1))), (3, .int (nI i)), (1, .int (oI none)), (0, .ref mq)]) hx hb dX5_runCommands_70 hl (k := 1) rfl (nI_inc _) (by decide) rfl (fun ls hl => ?_)
                refine lv_aload_n hx hb dX5_runCommands_73 rfl (lv_at hl 3 rfl) ?_
                refine n_get (ci := 5) (v := .ref (qs 0)) (C := RX5) (T := TX5) (N := 7) hx hb hts hinX5 hown hK hP 0 rfl rfl 4 rfl ⟨rfl, rfl, rfl⟩ f44 rfl dX5_runCommands_74 ?_
                refine n_wVv (b := qs 0) (As := []) (rest := []) (wr := ((wM kA mq q qc qp hq qs true true) ++ ((wC kA qc q cn sd bt fi se tl ax cf ow ho ov cs) ++ ((wP kA qp q qc cm wo dg) ++ (wH kA hq (cntF cnt) (savF cnt sv (cc, ac, co, ad, rc, nm, st, an))))))) (ws' := fun u => ((wM kA mq q qc qp hq qs true true) ++ ((wT kA q cc ac co ((doF cc adx rcx nmx stx anx k9 rw9_54 ss9_54 a9).2.1) ((doF cc adx rcx nmx stx anx k9 rw9_54 ss9_54 a9).2.2.1) ((doF cc adx rcx nmx stx anx k9 rw9_54 ss9_54 a9).2.2.2.1) ((doF cc adx rcx nmx stx anx k9 rw9_54 ss9_54 a9).2.2.2.2.1) ((doF cc adx rcx nmx stx anx k9 rw9_54 ss9_54 a9).2.2.2.2.2)) ++ ((wC kA qc q cn sd bt fi se tl ax cf ow ho ov cs) ++ ((wP kA qp q qc cm wo dg) ++ ((wH kA hq (cntF cnt) (savF cnt sv (cc, ac, co, ad, rc, nm, st, an))) ++ (wS kA qs q tx len (skpF tx len 150 ((rcP tx len ac cc p).2)) kd9_54 rw9_54 ss9_54 av9_54))))))) hS0 (c_X3_skipSpaces lQ D kA qs tx len ((rcP tx len ac cc p).2) kd9_54 rw9_54 ss9_54 av9_54 q cc ac co ((doF cc adx rcx nmx stx anx k9 rw9_54 ss9_54 a9).2.1) ((doF cc adx rcx nmx stx anx k9 rw9_54 ss9_54 a9).2.2.1) ((doF cc adx rcx nmx stx anx k9 rw9_54 ss9_54 a9).2.2.2.1) ((doF cc adx rcx nmx stx anx k9 rw9_54 ss9_54 a9).2.2.2.2.1) ((doF cc adx rcx nmx stx anx k9 rw9_54 ss9_54 a9).2.2.2.2.2) H.size (by first | assumption | omega) (Nat.le_trans (rcP_le hp) hlen) (by first | assumption | omega)) (cwV 0 hts gX5_runCommands_X3_skipSpaces rfl rfl rfl (by decide +kernel) ⟨Nat.le_of_ble_eq_true rfl, Nat.le_of_ble_eq_true rfl⟩) hP hD hS hA hK hK (by simpa only [List.append_assoc, List.append_nil] using (((List.Perm.append_left _ ((List.Perm.append_left _ ((List.Perm.append_left _ ((List.Perm.append_left _ List.perm_append_comm).trans (List.perm_append_comm_assoc _ _ _))).trans (List.perm_append_comm_assoc _ _ _))).trans (List.perm_append_comm_assoc _ _ _))).trans (List.perm_append_comm_assoc _ _ _)).trans (List.Perm.append_left _ ((List.Perm.append_left _ (List.Perm.refl _)).trans (List.perm_append_comm_assoc _ _ _))))) (fun u => List.Perm.symm (by simpa only [List.append_assoc, List.append_nil] using (((List.Perm.append_left _ ((List.Perm.append_left _ ((List.Perm.append_left _ ((List.Perm.append_left _ List.perm_append_comm).trans (List.perm_append_comm_assoc _ _ _))).trans (List.perm_append_comm_assoc _ _ _))).trans (List.perm_append_comm_assoc _ _ _))).trans (List.perm_append_comm_assoc _ _ _)).trans (List.Perm.append_left _ ((List.Perm.append_left _ (List.Perm.refl _)).trans (List.perm_append_comm_assoc _ _ _)))))) (q0 := 0) rfl rfl rfl rfl rfl hl.1 (Nat.le_of_ble_eq_true rfl) dX5_runCommands_77 ⟨Nat.le_refl _, Nat.le_refl _⟩ (fun u77 H locs h77 hP hD hS => ?_)
                have hP : va_P D vwCl ((wM kA mq q qc qp hq qs true true) ++ ((wT kA q cc ac co ((doF cc adx rcx nmx stx anx k9 rw9_54 ss9_54 a9).2.1) ((doF cc adx rcx nmx stx anx k9 rw9_54 ss9_54 a9).2.2.1) ((doF cc adx rcx nmx stx anx k9 rw9_54 ss9_54 a9).2.2.2.1) ((doF cc adx rcx nmx stx anx k9 rw9_54 ss9_54 a9).2.2.2.2.1) ((doF cc adx rcx nmx stx anx k9 rw9_54 ss9_54 a9).2.2.2.2.2)) ++ ((wC kA qc q cn sd bt fi se tl ax cf ow ho ov cs) ++ ((wP kA qp q qc cm wo dg) ++ ((wH kA hq (cntF cnt) (savF cnt sv (cc, ac, co, ad, rc, nm, st, an))) ++ (wS kA qs q tx len (skpF tx len 150 ((rcP tx len ac cc p).2)) kd9_54 rw9_54 ss9_54 av9_54)))))) H := hP
                have hD : va_D A ((wM kA mq q qc qp hq qs true true) ++ ((wT kA q cc ac co ((doF cc adx rcx nmx stx anx k9 rw9_54 ss9_54 a9).2.1) ((doF cc adx rcx nmx stx anx k9 rw9_54 ss9_54 a9).2.2.1) ((doF cc adx rcx nmx stx anx k9 rw9_54 ss9_54 a9).2.2.2.1) ((doF cc adx rcx nmx stx anx k9 rw9_54 ss9_54 a9).2.2.2.2.1) ((doF cc adx rcx nmx stx anx k9 rw9_54 ss9_54 a9).2.2.2.2.2)) ++ ((wC kA qc q cn sd bt fi se tl ax cf ow ho ov cs) ++ ((wP kA qp q qc cm wo dg) ++ ((wH kA hq (cntF cnt) (savF cnt sv (cc, ac, co, ad, rc, nm, st, an))) ++ (wS kA qs q tx len (skpF tx len 150 ((rcP tx len ac cc p).2)) kd9_54 rw9_54 ss9_54 av9_54)))))) := hD
                refine lv_iinc (v := (nI (i + 1))) (lv' := [(3, .int (nI (i + 1))), (2, .int (nI (d + 1))), (1, .int (oI none)), (0, .ref mq)]) hx hb dX5_runCommands_80 hl (k := 1) rfl (nI_inc _) (by decide) rfl (fun ls hl => ?_)
                refine lv_goto (tgt := 33) hx hb dX5_runCommands_83 (by decide) ?_
                exact ih33 (i + 1) (d + 1) (skpF tx len 150 ((rcP tx len ac cc p).2)) kd9_54 rw9_54 ss9_54 av9_54 ((doF cc adx rcx nmx stx anx k9 rw9_54 ss9_54 a9).2.1) ((doF cc adx rcx nmx stx anx k9 rw9_54 ss9_54 a9).2.2.1) ((doF cc adx rcx nmx stx anx k9 rw9_54 ss9_54 a9).2.2.2.1) ((doF cc adx rcx nmx stx anx k9 rw9_54 ss9_54 a9).2.2.2.2.1) ((doF cc adx rcx nmx stx anx k9 rw9_54 ss9_54 a9).2.2.2.2.2) (by omega) (by first | assumption | omega) (skpF_le (rcP_le hp)) hok9.1 hok9.2.1 hok9.2.2 (by rw [hs, show 150 - i = (150 - (i + 1)) + 1 by omega, runL_g (of_decide_eq_false c47) c57 (by rw [← hdo9 (adx, rcx, nmx, stx, anx)]; exact c64), ← hdo9 (adx, rcx, nmx, stx, anx)]; exact Prod.ext (Nat.add_right_comm _ 1 d) rfl) _ _ hP hD hS _ (lv_sub hl [0, 1, 2, 3] rfl)
              · refine lv_goto (tgt := 86) hx hb dX5_runCommands_67 (by decide) ?_
                refine lv_iload_n hx hb dX5_runCommands_86 rfl (lv_at hl 1 rfl) ?_
                have hz : R0 = (d, (((doF cc adx rcx nmx stx anx k9 rw9_54 ss9_54 a9).2.1), ((doF cc adx rcx nmx stx anx k9 rw9_54 ss9_54 a9).2.2.1), ((doF cc adx rcx nmx stx anx k9 rw9_54 ss9_54 a9).2.2.2.1), ((doF cc adx rcx nmx stx anx k9 rw9_54 ss9_54 a9).2.2.2.2.1), ((doF cc adx rcx nmx stx anx k9 rw9_54 ss9_54 a9).2.2.2.2.2))) := by
                  have h0 : runL tx len ac cc (150 - i) p (adx, rcx, nmx, stx, anx) = (0, (((doF cc adx rcx nmx stx anx k9 rw9_54 ss9_54 a9).2.1), ((doF cc adx rcx nmx stx anx k9 rw9_54 ss9_54 a9).2.2.1), ((doF cc adx rcx nmx stx anx k9 rw9_54 ss9_54 a9).2.2.2.1), ((doF cc adx rcx nmx stx anx k9 rw9_54 ss9_54 a9).2.2.2.2.1), ((doF cc adx rcx nmx stx anx k9 rw9_54 ss9_54 a9).2.2.2.2.2))) := by
                    first
                    | (rw [show 150 - i = 0 by omega]; rfl)
                    | exact runL_e (of_decide_eq_true c47) _
                    | (rw [show 150 - i = (150 - (i + 1)) + 1 by omega]; exact runL_b (of_decide_eq_false c47) c57)
                    | (rw [show 150 - i = (150 - (i + 1)) + 1 by omega, runL_d (of_decide_eq_false c47) c57 (by rw [← hdo9 (adx, rcx, nmx, stx, anx)]; exact c64), ← hdo9 (adx, rcx, nmx, stx, anx)])
                  rw [hs, h0]
                  exact Prod.ext (Nat.zero_add _) rfl
                exact n_wreti hx hb hr hlocks (post := fun (r : Int32) (u : Nat × (Nat → TSt) × Bool × Bool × Nat × Nat × (Nat → Nat) × (Nat → Nat) × (Nat → Nat) × (Option Nat) × Nat × (Option Nat) × Nat × Nat) => (ffF tx len ac cc 150 (skpF tx len 150 0) = none → u.1 = cntF cnt ∧ u.2.1 = savF cnt sv (cc, ac, co, ad, rc, nm, st, an) ∧ u.2.2.1 = true ∧ u.2.2.2.1 = true ∧ r = nI (runL tx len ac cc 150 (skpF tx len 150 0) (ad, rc, nm, st, an)).1 ∧ (u.2.2.2.2.1, u.2.2.2.2.2.1, u.2.2.2.2.2.2.1, u.2.2.2.2.2.2.2.1, u.2.2.2.2.2.2.2.2.1) = (runL tx len ac cc 150 (skpF tx len 150 0) (ad, rc, nm, st, an)).2) ∧ (∀ qf, ffF tx len ac cc 150 (skpF tx len 150 0) = some qf → u.1 = cnt ∧ u.2.1 = sv ∧ u.2.2.1 = s1 ∧ u.2.2.2.1 = s2 ∧ r = -10 - nI qf ∧ (u.2.2.2.2.1, u.2.2.2.2.2.1, u.2.2.2.2.2.2.1, u.2.2.2.2.2.2.2.1, u.2.2.2.2.2.2.2.2.1) = (ad, rc, nm, st, an))) (w1 := fun u => ((wM kA mq q qc qp hq qs u.2.2.1 u.2.2.2.1) ++ ((wT kA q cc ac co u.2.2.2.2.1 u.2.2.2.2.2.1 u.2.2.2.2.2.2.1 u.2.2.2.2.2.2.2.1 u.2.2.2.2.2.2.2.2.1) ++ ((wC kA qc q cn sd bt fi se tl ax cf ow ho ov cs) ++ ((wP kA qp q qc cm wo dg) ++ ((wH kA hq u.1 u.2.1) ++ (wS kA qs q tx len u.2.2.2.2.2.2.2.2.2.2.2.2.1 u.2.2.2.2.2.2.2.2.2.1 u.2.2.2.2.2.2.2.2.2.2.2.2.2 u.2.2.2.2.2.2.2.2.2.2.1 u.2.2.2.2.2.2.2.2.2.2.2.1))))))) (cntF cnt, savF cnt sv (cc, ac, co, ad, rc, nm, st, an), true, true, (doF cc adx rcx nmx stx anx k9 rw9_54 ss9_54 a9).2.1, (doF cc adx rcx nmx stx anx k9 rw9_54 ss9_54 a9).2.2.1, (doF cc adx rcx nmx stx anx k9 rw9_54 ss9_54 a9).2.2.2.1, (doF cc adx rcx nmx stx anx k9 rw9_54 ss9_54 a9).2.2.2.2.1, (doF cc adx rcx nmx stx anx k9 rw9_54 ss9_54 a9).2.2.2.2.2, kd9_54, ss9_54, av9_54, (rcP tx len ac cc p).2, rw9_54) ⟨(fun _ => ⟨rfl, rfl, rfl, rfl, (by rw [← hR0, hz]), (by rw [← hR0, hz])⟩), (fun qf h => by rw [c10] at h; cases h)⟩ hP hD hK hS hAe dX5_runCommands_87
    exact L33 ((150 - 0) + 1) 0 0 (skpF tx len 150 0) kd9_4 rw9_4 ss9_4 av9_4 ad rc nm st an (Nat.lt_succ_self _) (by first | assumption | omega) (skpF_le (Nat.zero_le _)) (by first | assumption | omega) han hst (hR0.trans rfl) _ _ hP hD hS _ (lv_sub hl [0, 1, 2, 3] rfl)
  · have hl : lv_has ls 4 [(1, .int (nI q10)), (0, .ref mq)] := by rw [c10] at hl; exact hl
    refine lv_bipush (v := (-10)) hx hb dX5_runCommands_13 (by decide) ?_
    refine lv_iload_n hx hb dX5_runCommands_15 rfl (lv_at hl 0 rfl) ?_
    refine n_isub (v := ((-10) - (nI q10))) hx hb rfl dX5_runCommands_16 ?_
    exact n_wreti hx hb hr hlocks (post := fun (r : Int32) (u : Nat × (Nat → TSt) × Bool × Bool × Nat × Nat × (Nat → Nat) × (Nat → Nat) × (Nat → Nat) × (Option Nat) × Nat × (Option Nat) × Nat × Nat) => (ffF tx len ac cc 150 (skpF tx len 150 0) = none → u.1 = cntF cnt ∧ u.2.1 = savF cnt sv (cc, ac, co, ad, rc, nm, st, an) ∧ u.2.2.1 = true ∧ u.2.2.2.1 = true ∧ r = nI (runL tx len ac cc 150 (skpF tx len 150 0) (ad, rc, nm, st, an)).1 ∧ (u.2.2.2.2.1, u.2.2.2.2.2.1, u.2.2.2.2.2.2.1, u.2.2.2.2.2.2.2.1, u.2.2.2.2.2.2.2.2.1) = (runL tx len ac cc 150 (skpF tx len 150 0) (ad, rc, nm, st, an)).2) ∧ (∀ qf, ffF tx len ac cc 150 (skpF tx len 150 0) = some qf → u.1 = cnt ∧ u.2.1 = sv ∧ u.2.2.1 = s1 ∧ u.2.2.2.1 = s2 ∧ r = -10 - nI qf ∧ (u.2.2.2.2.1, u.2.2.2.2.2.1, u.2.2.2.2.2.2.1, u.2.2.2.2.2.2.2.1, u.2.2.2.2.2.2.2.2.1) = (ad, rc, nm, st, an))) (w1 := fun u => ((wM kA mq q qc qp hq qs u.2.2.1 u.2.2.2.1) ++ ((wT kA q cc ac co u.2.2.2.2.1 u.2.2.2.2.2.1 u.2.2.2.2.2.2.1 u.2.2.2.2.2.2.2.1 u.2.2.2.2.2.2.2.2.1) ++ ((wC kA qc q cn sd bt fi se tl ax cf ow ho ov cs) ++ ((wP kA qp q qc cm wo dg) ++ ((wH kA hq u.1 u.2.1) ++ (wS kA qs q tx len u.2.2.2.2.2.2.2.2.2.2.2.2.1 u.2.2.2.2.2.2.2.2.2.1 u.2.2.2.2.2.2.2.2.2.2.2.2.2 u.2.2.2.2.2.2.2.2.2.2.1 u.2.2.2.2.2.2.2.2.2.2.2.1))))))) (cnt, sv, s1, s2, ad, rc, nm, st, an, kd9_4, ss9_4, av9_4, p9_4, rw9_4) ⟨(fun h => by rw [c10] at h; cases h), (fun qf h => by rw [c10] at h; cases h; exact ⟨rfl, rfl, rfl, rfl, rfl, rfl⟩)⟩ hP hD hK hS hAe dX5_runCommands_17

