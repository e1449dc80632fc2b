
/-! ===== what holds between two calls of the law ===== -/
theorem cond3 {b : Bool} {x y : Nat} (hx : x < 3) (hy : y < 3) : cond b x y < 3 := by cases b <;> assumption
theorem oth3 {α : Type} {o : Option α} {f : α → Nat} (h : ∀ p, f p < 3) : oth o f < 3 := by
  cases o with
  | none => exact (show 1 < 3 by decide)
  | some p => exact h p
theorem cond_0 {b : Bool} {x : Nat} (h : cond b x 1 = 0) : b = true ∧ x = 0 := by
  cases b with
  | true => exact ⟨rfl, h⟩
  | false => exact absurd h Nat.one_ne_zero
theorem cond_20 {b : Bool} (h : cond b 2 0 = 0) : b = false := by
  cases b with
  | true => exact absurd h (show ¬ (2 : Nat) = 0 by decide)
  | false => rfl
theorem cond_02 {b : Bool} (h : cond b 0 2 = 0) : b = true := by
  cases b with
  | false => exact absurd h (show ¬ (2 : Nat) = 0 by decide)
  | true => rfl
theorem oth_0 {α : Type} {o : Option α} {f : α → Nat} (h : oth o f = 0) : ∃ p, o = some p ∧ f p = 0 := by
  cases o with
  | none => exact absurd h Nat.one_ne_zero
  | some p => exact ⟨p, rfl, h⟩
theorem plc_s {nm : Nat → Nat} {row : Int32} {rc p : Nat} (h : placeF nm row rc = some p) : plc nm row rc = p := by unfold plc; rw [h]; rfl
theorem cnd_n {n : Nat} (h : n ≠ 0) {α : Type} (a b : α) : cnd n a b = b := by
  cases n with
  | zero => exact absurd rfl h
  | succ n => rfl
theorem cnd_s {n : Nat} (f g : Nat → TSt) : cnd n (fun j => (f j).2) (fun j => (g j).2) = fun j => (cnd n f g j).2 := by cases n <;> rfl
theorem thAC_3 (a b : Int32) (cc : Nat) : thAC a b cc < 3 := by unfold thAC; repeat (first | decide | exact cond3 (by decide) (by decide) | apply cond3 | apply oth3 | intro _)
theorem thSC_3 (k x : Int32) (cc : Nat) : thSC k x cc < 3 := by unfold thSC; repeat (first | decide | exact cond3 (by decide) (by decide) | apply cond3 | apply oth3 | intro _)
theorem thAR_3 (s a : Int32) (cc : Nat) (ac : Nat → Nat) (rc : Nat) : thAR s a cc ac rc < 3 := by unfold thAR; repeat (first | decide | exact cond3 (by decide) (by decide) | apply cond3 | apply oth3 | intro _)
theorem thSA_3 (row k set : Int32) (cc : Nat) (ac : Nat → Nat) (rc : Nat) (nm : Nat → Nat) : thSA row k set cc ac rc nm < 3 := by unfold thSA; repeat (first | decide | exact cond3 (by decide) (by decide) | apply cond3 | apply oth3 | intro _)
theorem thAt_3 (row a : Int32) (rc : Nat) (nm : Nat → Nat) : thAt row a rc nm < 3 := by unfold thAt; repeat (first | decide | exact cond3 (by decide) (by decide) | apply cond3 | apply oth3 | intro _)
theorem thDr_3 (row : Int32) (rc : Nat) (nm : Nat → Nat) : thDr row rc nm < 3 := by unfold thDr; repeat (first | decide | exact cond3 (by decide) (by decide) | apply cond3 | apply oth3 | intro _)
theorem thUp_3 (row : Int32) (rc : Nat) (nm : Nat → Nat) : thUp row rc nm < 3 := by unfold thUp; repeat (first | decide | exact cond3 (by decide) (by decide) | apply cond3 | apply oth3 | intro _)
theorem thMg_3 (row : Int32) (cc rc : Nat) (nm st an : Nat → Nat) : thMg row cc rc nm st an < 3 := by unfold thMg; repeat (first | decide | exact cond3 (by decide) (by decide) | apply cond3 | apply oth3 | intro _)
theorem thCo_3 (k w : Int32) (cc : Nat) : thCo k w cc < 3 := by unfold thCo; repeat (first | decide | exact cond3 (by decide) (by decide) | apply cond3 | apply oth3 | intro _)
theorem thRo_3 (row w : Int32) (rc : Nat) (nm : Nat → Nat) : thRo row w rc nm < 3 := by unfold thRo; repeat (first | decide | exact cond3 (by decide) (by decide) | apply cond3 | apply oth3 | intro _)
theorem thAn_3 (row k : Int32) (cc rc : Nat) (nm : Nat → Nat) : thAn row k cc rc nm < 3 := by unfold thAn; repeat (first | decide | exact cond3 (by decide) (by decide) | apply cond3 | apply oth3 | intro _)
theorem thNg_3 (x : Int32) : thNg x < 3 := by unfold thNg; repeat (first | decide | exact cond3 (by decide) (by decide) | apply cond3 | apply oth3 | intro _)
theorem thCa_3 (c w : Int32) (cc : Nat) (ac : Nat → Nat) : thCa c w cc ac < 3 := by unfold thCa; repeat (first | decide | exact cond3 (by decide) (by decide) | apply cond3 | apply oth3 | intro _)
theorem thAO_3 (c k : Int32) (cc : Nat) (ac : Nat → Nat) : thAO c k cc ac < 3 := by unfold thAO; repeat (first | decide | exact cond3 (by decide) (by decide) | apply cond3 | apply oth3 | intro _)
theorem thWh_3 (w : Int32) : thWh w < 3 := by unfold thWh; repeat (first | decide | exact cond3 (by decide) (by decide) | apply cond3 | apply oth3 | intro _)
theorem thAs_3 (x : Int32) (cc : Nat) (ac : Nat → Nat) : thAs x cc ac < 3 := by unfold thAs; repeat (first | decide | exact cond3 (by decide) (by decide) | apply cond3 | apply oth3 | intro _)
theorem thBe_3 (c : Int32) (cc : Nat) (ac : Nat → Nat) : thBe c cc ac < 3 := by unfold thBe; repeat (first | decide | exact cond3 (by decide) (by decide) | apply cond3 | apply oth3 | intro _)
theorem thTy_3 (v : Int32) (len : Nat) : thTy v len < 3 := by unfold thTy; repeat (first | decide | exact cond3 (by decide) (by decide) | apply cond3 | apply oth3 | intro _)
theorem thUn_3 (cnt : Nat) : thUn cnt < 3 := by unfold thUn; repeat (first | decide | exact cond3 (by decide) (by decide) | apply cond3 | apply oth3 | intro _)
theorem tIn_AC {cc : Nat} {ac co : Nat → Nat} {rc : Nat} {st an : Nat → Nat} {a b : Int32} (hti : tIn cc ac co rc st an) (h : thAC a b cc = 0) : tIn (cc + 1) (va_up ac cc (a.toNatClampNeg)) (va_up co cc (b.toNatClampNeg)) rc (ordF st rc (fulN (a.toNatClampNeg) <<< (4 * cc))) an := by
  obtain ⟨h1, h2, h3, h4, h5, h6⟩ := hti
  unfold thAC at h
  obtain ⟨e1, e2⟩ := cond_0 h
  have e3 := of_decide_eq_false (cond_20 e2)
  rw [Bool.and_eq_true] at e1
  obtain ⟨e4, e5⟩ := e1
  unfold isAnsB at e4
  rw [Bool.and_eq_true] at e4
  obtain ⟨-, a1, a2⟩ := rng_c (lo := 2) (hi := 4) (by decide) (by decide) (of_decide_eq_true e4.1) (of_decide_eq_true e4.2)
  obtain ⟨-, b1, b2⟩ := isCostB_c e5
  refine ⟨by omega, up_all (P := fun x => 2 ≤ x ∧ x ≤ 4) ⟨a1, a2⟩ h2, up_all (P := fun x => 1 ≤ x ∧ x < 10) ⟨b1, b2⟩ h3, h4, h5, fun j hj => ?_⟩
  have hf := fulN_lt (a := a.toNatClampNeg) a2
  have hm : fulN (a.toNatClampNeg) <<< (4 * cc) < 2 ^ 20 := by
    rw [Nat.shiftLeft_eq]
    rcases (show cc = 0 ∨ cc = 1 ∨ cc = 2 ∨ cc = 3 ∨ cc = 4 by omega) with e | e | e | e | e <;> rw [e] <;> omega
  have e : ordF st rc (fulN (a.toNatClampNeg) <<< (4 * cc)) j = st j ||| (fulN (a.toNatClampNeg) <<< (4 * cc)) := by unfold ordF; rw [if_pos hj]
  rw [e]
  exact Nat.or_lt_two_pow (n := 20) (h6 j hj) hm
theorem up_in {P : Nat → Prop} {f : Nat → Nat} {n k x : Nat} (hx : P x) (h : ∀ j, j < n → P (f j)) : ∀ j, j < n → P (va_up f k x j) := by
  intro j hj
  unfold va_up
  split
  · exact hx
  · exact h j hj
theorem tIn_SC {cc : Nat} {ac co : Nat → Nat} {rc : Nat} {st an : Nat → Nat} {k x : Int32} (hti : tIn cc ac co rc st an) (h : thSC k x cc = 0) : tIn cc ac (va_up co (k.toNatClampNeg) (x.toNatClampNeg)) rc st an := by
  obtain ⟨h1, h2, h3, h4, h5, h6⟩ := hti
  unfold thSC at h
  obtain ⟨e1, e2⟩ := cond_0 h
  obtain ⟨-, b1, b2⟩ := isCostB_c (cond_02 e2)
  exact ⟨h1, h2, up_in (P := fun x => 1 ≤ x ∧ x < 10) ⟨b1, b2⟩ h3, h4, h5, h6⟩
theorem tIn_AR {cc : Nat} {ac co : Nat → Nat} {rc : Nat} {st an : Nat → Nat} {s0 a : Int32} (hti : tIn cc ac co rc st an) (h : thAR s0 a cc ac rc = 0) : tIn cc ac co (rc + 1) (va_up st rc (s0.toNatClampNeg)) (va_up an rc (a.toNatClampNeg)) := by
  obtain ⟨h1, h2, h3, h4, h5, h6⟩ := hti
  unfold thAR at h
  obtain ⟨e1, e2⟩ := cond_0 h
  have e3 := of_decide_eq_false (cond_20 e2)
  rw [Bool.and_eq_true] at e1
  exact ⟨h1, h2, h3, by omega, up_all (P := fun x => x < 10) (isActB_c e1.1).2 h5, up_all (P := fun x => x < 1048576) (areSetsB_c h1 e1.2).2 h6⟩
theorem replN_lt {x k s : Nat} (hx : x < 1048576) (hk : k < 5) (hs : s < 16) : replN x k s < 1048576 := by
  rw [replN_e]
  rcases (show k = 0 ∨ k = 1 ∨ k = 2 ∨ k = 3 ∨ k = 4 by omega) with e | e | e | e | e <;> subst e <;> simp only [Nat.reduceMul, Nat.reducePow, Nat.mul_zero, Nat.pow_zero] <;> omega
theorem tIn_SA {cc : Nat} {ac co : Nat → Nat} {rc : Nat} {nm st an : Nat → Nat} {row k set : Int32} (hti : tIn cc ac co rc st an) (h : thSA row k set cc ac rc nm = 0) : tIn cc ac co rc (va_up st (plc nm row rc) (replN (st (plc nm row rc)) (k.toNatClampNeg) (set.toNatClampNeg))) an := by
  obtain ⟨h1, h2, h3, h4, h5, h6⟩ := hti
  unfold thSA at h
  obtain ⟨p, hp, e⟩ := oth_0 h
  obtain ⟨e1, e2⟩ := cond_0 e
  obtain ⟨-, hk⟩ := inB_c (by omega) e1
  obtain ⟨-, -, hs⟩ := isSetB_c (fulN_lt (h2 _ hk).2) (cond_02 e2)
  rw [plc_s hp]
  exact ⟨h1, h2, h3, h4, h5, up_in (P := fun x => x < 1048576) (replN_lt (h6 _ (placeF_lt hp)) (by omega) hs) h6⟩
theorem tIn_At {cc : Nat} {ac co : Nat → Nat} {rc : Nat} {nm st an : Nat → Nat} {row a : Int32} (hti : tIn cc ac co rc st an) (h : thAt row a rc nm = 0) : tIn cc ac co rc st (va_up an (plc nm row rc) (a.toNatClampNeg)) := by
  obtain ⟨h1, h2, h3, h4, h5, h6⟩ := hti
  unfold thAt at h
  obtain ⟨p, hp, e⟩ := oth_0 h
  exact ⟨h1, h2, h3, h4, up_in (P := fun x => x < 10) (isActB_c (cond_02 e)).2 h5, h6⟩
theorem tIn_Dr {cc : Nat} {ac co : Nat → Nat} {rc : Nat} {st an : Nat → Nat} {p : Nat} (hti : tIn cc ac co rc st an) : tIn cc ac co (rc - 1) (shifF st p rc) (shifF an p rc) := by
  obtain ⟨h1, h2, h3, h4, h5, h6⟩ := hti
  exact ⟨h1, h2, h3, by omega, shifF_all (P := fun x => x < 10) h5, shifF_all (P := fun x => x < 1048576) h6⟩
theorem tIn_Up {cc : Nat} {ac co : Nat → Nat} {rc : Nat} {nm st an : Nat → Nat} {row : Int32} (hti : tIn cc ac co rc st an) (h : thUp row rc nm = 0) : tIn cc ac co rc (liftF st (plc nm row rc)) (liftF an (plc nm row rc)) := by
  obtain ⟨h1, h2, h3, h4, h5, h6⟩ := hti
  unfold thUp at h
  obtain ⟨p, hp, e⟩ := oth_0 h
  rw [plc_s hp]
  exact ⟨h1, h2, h3, h4, liftF_all (P := fun x => x < 10) (placeF_lt hp) h5, liftF_all (P := fun x => x < 1048576) (placeF_lt hp) h6⟩
theorem tIn_Mg {cc : Nat} {ac co : Nat → Nat} {rc : Nat} {nm st an : Nat → Nat} {row : Int32} (hti : tIn cc ac co rc st an) (h : thMg row cc rc nm st an = 0) : tIn cc ac co (rc - 1) (mrgS st (plc nm row rc) rc) (shifF an (plc nm row rc + 1) rc) := by
  obtain ⟨h1, h2, h3, h4, h5, h6⟩ := hti
  unfold thMg at h
  obtain ⟨p, hp, e⟩ := oth_0 h
  have e2 := whyN_0 (of_decide_eq_true (cond_02 e))
  rw [plc_s hp]
  exact ⟨h1, h2, h3, by omega, shifF_all (P := fun x => x < 10) h5, mrgS_lt e2.1 h6⟩
theorem tIn_mA {cc : Nat} {ac co : Nat → Nat} {rc : Nat} {nm st an : Nat → Nat} (hti : tIn cc ac co rc st an) : tIn cc ac co (mgAll cc 20 rc nm st an).2.1 (mgAll cc 20 rc nm st an).2.2.2.1 (mgAll cc 20 rc nm st an).2.2.2.2 := by
  obtain ⟨h1, h2, h3, h4, h5, h6⟩ := hti
  obtain ⟨q1, q2, q3⟩ := mgAll_ok (B := 10) (cc := cc) (n := 20) (nm := nm) h4 h5 h6
  exact ⟨h1, h2, h3, q1, q2, q3⟩
theorem prn_ok (f : Nat → Nat) : ∀ (n : Nat) (x : RSt), x.2.1 ≤ 20 → (∀ j, j < x.2.1 → x.2.2.2.2 j < 10) → (∀ j, j < x.2.1 → x.2.2.2.1 j < 1048576) → (prnF f n x).2.1 ≤ 20 ∧ (∀ j, j < (prnF f n x).2.1 → (prnF f n x).2.2.2.2 j < 10) ∧ (∀ j, j < (prnF f n x).2.1 → (prnF f n x).2.2.2.1 j < 1048576)
  | 0, x, h1, h2, h3 => ⟨h1, h2, h3⟩
  | n + 1, x, h1, h2, h3 => by
    show (prnF f n (prn1 f n x)).2.1 ≤ 20 ∧ (∀ j, j < (prnF f n (prn1 f n x)).2.1 → (prnF f n (prn1 f n x)).2.2.2.2 j < 10) ∧ (∀ j, j < (prnF f n (prn1 f n x)).2.1 → (prnF f n (prn1 f n x)).2.2.2.1 j < 1048576)
    refine prn_ok f n (prn1 f n x) ?_ ?_ ?_
    · unfold prn1; split
      · exact Nat.le_trans (Nat.sub_le _ _) h1
      · exact h1
    · unfold prn1; split
      · exact shifF_all (P := fun x => x < 10) h2
      · exact h2
    · unfold prn1; split
      · exact shifF_all (P := fun x => x < 1048576) h3
      · exact h3
theorem tIn_pr {cc : Nat} {ac co : Nat → Nat} {rc : Nat} {nm st an : Nat → Nat} (hti : tIn cc ac co rc st an) : tIn cc ac co (prF cc ac rc nm st an).2.1 (prF cc ac rc nm st an).2.2.2.1 (prF cc ac rc nm st an).2.2.2.2 := by
  obtain ⟨h1, h2, h3, h4, h5, h6⟩ := hti
  obtain ⟨q1, q2, q3⟩ := prn_ok (ownF cc ac rc st) rc (0, rc, nm, st, an) h4 h5 h6
  exact ⟨h1, h2, h3, q1, q2, q3⟩
theorem tIn_rL {cc : Nat} {ac co : Nat → Nat} {ad rc : Nat} {nm st an tx : Nat → Nat} {len p n : Nat} (hti : tIn cc ac co rc st an) : tIn cc ac co (runL tx len ac cc n p (ad, rc, nm, st, an)).2.2.1 (runL tx len ac cc n p (ad, rc, nm, st, an)).2.2.2.2.1 (runL tx len ac cc n p (ad, rc, nm, st, an)).2.2.2.2.2 := by
  obtain ⟨h1, h2, h3, h4, h5, h6⟩ := hti
  obtain ⟨q1, q2, q3⟩ := runL_ok (B := 10) (tx := tx) (len := len) (Nat.le_refl _) h1 (fun j hj => (h2 j hj).2) (n := n) (p := p) (x := (ad, rc, nm, st, an)) ⟨h4, h5, h6⟩
  exact ⟨h1, h2, h3, q1, q2, q3⟩
/-- a saved table keeps the bounds -/
def tT (t : TCt) : Prop := tIn t.1 t.2.1 t.2.2.1 t.2.2.2.2.1 t.2.2.2.2.2.2.1 t.2.2.2.2.2.2.2
theorem tT_sv {cnt : Nat} {sv : Nat → TSt} {t : TCt} (hcn : cnt ≤ 4) (h : ∀ j, j < cnt → tT ((sv j).2)) (ht : tT t) : ∀ j, j < cntF cnt → tT ((savF cnt sv t j).2) := by
  intro j hj
  rw [show (savF cnt sv t j).2 = keepF cnt (fun j => (sv j).2) t j from congrFun (savF_keep (cnt := cnt) (sv := sv) (t := t)) j]
  unfold cntF at hj
  unfold keepF
  by_cases h4 : cnt < 4
  · rw [if_pos h4] at hj ⊢
    unfold va_up
    split
    · exact ht
    · exact h j (by omega)
  · rw [if_neg h4] at hj ⊢
    unfold va_up
    split
    · exact ht
    · next e =>
      have e3 : Nat.beq j 3 = false := by
        cases hb : Nat.beq j 3 with
        | false => rfl
        | true => exact absurd (Nat.eq_of_beq_eq_true hb) e
      show tT (cond (Nat.beq j 3) _ _)
      rw [e3]
      exact h (j + 1) (by omega)
theorem sm_keep {cnt : Nat} {sv : Nat → TSt} {svm : Nat → TCt} {t : TCt} (h : ∀ j, j < cnt → svm j = (sv j).2) : ∀ j, j < cntF cnt → keepF cnt svm t j = (savF cnt sv t j).2 := by
  intro j hj
  rw [show (savF cnt sv t j).2 = keepF cnt (fun j => (sv j).2) t j from congrFun (savF_keep (cnt := cnt) (sv := sv) (t := t)) j]
  unfold cntF at hj
  unfold keepF
  by_cases h4 : cnt < 4
  · rw [if_pos h4] at hj
    rw [if_pos h4, if_pos h4]
    unfold va_up
    by_cases e : j = cnt
    · rw [if_pos e, if_pos e]
    · rw [if_neg e, if_neg e]; exact h j (by omega)
  · rw [if_neg h4] at hj
    rw [if_neg h4, if_neg h4]
    unfold va_up
    by_cases e : j = 3
    · rw [if_pos e, if_pos e]
    · rw [if_neg e, if_neg e]
      have e3 : Nat.beq j 3 = false := by
        cases hb : Nat.beq j 3 with
        | false => rfl
        | true => exact absurd (Nat.eq_of_beq_eq_true hb) e
      show cond (Nat.beq j 3) _ _ = cond (Nat.beq j 3) _ _
      rw [e3]
      exact h (j + 1) (by omega)
theorem cntF_le {cnt : Nat} (h : cnt ≤ 4) : cntF cnt ≤ 4 := by unfold cntF; split <;> omega
theorem un_cnt {cnt : Nat} : cnd (thUn cnt) (cnt - 1) cnt = cnt - 1 := by
  cases cnt with
  | zero => rfl
  | succ n => rfl
theorem un_0 {cnt : Nat} (h : thUn cnt = 0) : cnt ≠ 0 := by
  intro e; rw [e] at h; exact absurd h (by decide)
theorem ty_0 {v : Int32} {len : Nat} (h : thTy v len = 0) : v.toNatClampNeg < 128 ∧ len < 150 := by
  unfold thTy at h
  obtain ⟨e1, e2⟩ := cond_0 h
  rw [Bool.and_eq_true] at e1
  have e3 := of_decide_eq_false (cond_20 e2)
  obtain ⟨-, -, a2⟩ := rng_c (lo := 0) (hi := 127) (x := v) (by decide) (by decide) (of_decide_eq_true e1.1) (fun h => by
    have h2 := of_decide_eq_true e1.2
    exact absurd (Int32.lt_of_lt_of_le h h2) (Int32.lt_irrefl))
  exact ⟨by omega, by omega⟩
/-! ===== the script ===== -/
theorem law_end {L i : Nat} (hL : L ≤ 2048) (hi : i ≤ 4096) : nI L - nI 4 < nI i ↔ L < i + 4 := by
  by_cases h : 4 ≤ L
  · rw [pk_sub h]
    constructor
    · intro h1
      by_cases h2 : L - 4 < i
      · omega
      · exact absurd h1 (fun h3 => absurd (Int32.lt_of_lt_of_le h3 (nI_le (by omega) (by omega))) Int32.lt_irrefl)
    · intro h1
      exact nI_lt (by omega) (by omega)
  · refine ⟨fun _ => by omega, fun _ => ?_⟩
    have h0 : (0 : Int32) ≤ nI i := nI_pos' (by omega)
    refine Int32.lt_of_lt_of_le ?_ h0
    rcases (show L = 0 ∨ L = 1 ∨ L = 2 ∨ L = 3 by omega) with e | e | e | e <;> rw [e] <;> decide
theorem and_31 (x : Int32) : ∃ z : Nat, x &&& nI 31 = nI z ∧ z < 32 := by
  refine ⟨(x &&& nI 31).toBitVec.toNat, ?_, ?_⟩
  · apply Int32.toBitVec_inj.mp
    show _ = (Int32.ofNat _).toBitVec
    rw [Int32.toBitVec_ofNat']
    simp
  · rw [Int32.toBitVec_and, BitVec.toNat_and]
    exact Nat.lt_succ_of_le Nat.and_le_right

