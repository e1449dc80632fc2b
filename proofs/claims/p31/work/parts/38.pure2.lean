/-! ===== sets made by a number ===== -/
theorem nib_bit (x k j : Nat) : (nibN x k).testBit j = (x.testBit (4 * k + j) && decide (j < 4)) := by
  unfold nibN
  rw [show (15 : Nat) = 2 ^ 4 - 1 from rfl, Nat.testBit_and, Nat.testBit_two_pow_sub_one, Nat.testBit_shiftRight]
theorem bit_ge {s n j : Nat} (h : s < 2 ^ n) (hj : n ≤ j) : s.testBit j = false := Nat.testBit_lt_two_pow (Nat.lt_of_lt_of_le h (Nat.pow_le_pow_right (by decide) hj))
theorem sb_lt {s v i : Nat} (h : s < 2 ^ (4 * i)) (hv : v < 16) : s ||| (v <<< (4 * i)) < 2 ^ (4 * (i + 1)) := by
  refine Nat.or_lt_two_pow (Nat.lt_of_lt_of_le h (Nat.pow_le_pow_right (by decide) (by omega))) ?_
  rw [Nat.shiftLeft_eq, show 4 * (i + 1) = 4 + 4 * i by omega, Nat.pow_add]
  exact Nat.mul_lt_mul_of_pos_right hv (Nat.two_pow_pos _)
theorem sb_nib {s v i : Nat} (h : s < 2 ^ (4 * i)) (hv : v < 16) : nibN (s ||| (v <<< (4 * i))) i = v := by
  refine Nat.eq_of_testBit_eq (fun j => ?_)
  rw [nib_bit, Nat.testBit_or, Nat.testBit_shiftLeft, bit_ge h (by omega)]
  by_cases e : j < 4
  · simp [e]
  · rw [bit_ge (show v < 2 ^ 4 from hv) (show 4 ≤ j by omega)]; simp [e]
theorem sb_lo {s v i j : Nat} (hj : j < i) : nibN (s ||| (v <<< (4 * i))) j = nibN s j := by
  refine Nat.eq_of_testBit_eq (fun b => ?_)
  rw [nib_bit, nib_bit, Nat.testBit_or, Nat.testBit_shiftLeft]
  by_cases e : b < 4
  · simp [e, show ¬ 4 * i ≤ 4 * j + b by omega]
  · simp [e]
theorem ful_3 : ∀ a, a < 5 → 2 ≤ a → 3 ≤ fulN a ∧ fulN a < 16 := by decide
theorem sb_set {a l v : Nat} (ha : 2 ≤ a ∧ a ≤ 4) (h : v = fulN a ∨ v = 1 + l % fulN a) : 0 < v ∧ v ≤ fulN a := by
  have h3 := (ful_3 a (by omega) ha.1).1
  rcases h with h | h
  · omega
  · have := Nat.mod_lt l (show 0 < fulN a by omega)
    omega
/-- sets that are answers alone, i conditions of them -/
def sbI (t : TCt) (i s : Nat) : Prop := s < 2 ^ (4 * i) ∧ ∀ j, j < i → 0 < nibN s j ∧ nibN s j ≤ fulN (acT t j)
theorem sbI_0 (t : TCt) : sbI t 0 0 := ⟨by decide, fun j hj => absurd hj (Nat.not_lt_zero _)⟩
theorem sbI_s {t : TCt} {i s v : Nat} (hac : 2 ≤ acT t i ∧ acT t i ≤ 4) (h : sbI t i s) (hv : 0 < v ∧ v ≤ fulN (acT t i)) : sbI t (i + 1) (s ||| (v <<< (4 * i))) := by
  have hf := (ful_3 (acT t i) (by omega) hac.1).2
  refine ⟨sb_lt h.1 (by omega), fun j hj => ?_⟩
  by_cases e : j = i
  · subst e; rw [sb_nib h.1 (by omega)]; exact hv
  · rw [sb_lo (by omega)]; exact h.2 j (by omega)
theorem sbI_lt {t : TCt} {i s : Nat} (hi : i ≤ 5) (h : sbI t i s) : s < 1048576 := Nat.lt_of_lt_of_le h.1 (Nat.le_trans (Nat.pow_le_pow_right (by decide) (show 4 * i ≤ 20 by omega)) (by decide))
theorem sbI_are {t : TCt} {s : Nat} (h : okT t) (hs : sbI t (ccT t) s) : areSetsB (nI s) (ccT t) (acT t) = true := by
  have h1 := sbI_lt (okT_cc h) hs
  rw [areSets_n rfl (by omega), Nat.shiftRight_eq_div_pow, Nat.div_eq_of_lt hs.1, decide_eq_true rfl, Bool.true_and]
  exact allB_t (fun k hk => isSet_k (hs.2 k hk) (ful_3 _ (by have := (okT_ac h k hk).2; omega) (okT_ac h k hk).1).2)
theorem are_nib {t : TCt} {s : Nat} (h : okT t) (hs2 : s < 1048576) (hs : areSetsB (nI s) (ccT t) (acT t) = true) : ∀ k, k < ccT t → nibN s k ≤ fulN (acT t k) := by
  rw [areSets_n rfl (by omega), Bool.and_eq_true] at hs
  intro k hk
  have h1 := allB_i hs.2 k hk
  unfold isSetB at h1
  rw [Bool.and_eq_true] at h1
  have hf := (ful_3 _ (by have := (okT_ac h k hk).2; omega) (okT_ac h k hk).1).2
  exact (nI_leI (by have := nibN_lt s k; omega) (by omega)).mp (of_decide_eq_true h1.2)
theorem are_no0 {t : TCt} (h : okT t) (hc : 0 < ccT t) : areSetsB (nI 0) (ccT t) (acT t) = false := by
  rw [areSets_n rfl (by decide), allB_f (p := 0) (by show isSetB (nI (nibN 0 0)) _ = false; unfold isSetB; rw [show decide (0 < nI (nibN 0 0)) = false by decide +kernel]; rfl) hc, Bool.and_false]
theorem are_neg {cc : Nat} {ac : Nat → Nat} : areSetsB (oI none) cc ac = false := by
  unfold areSetsB
  rw [show decide ((0 : Int32) ≤ oI none) = false by decide +kernel]; rfl
/-! ===== what is changed keeps okT ===== -/
theorem repl_nib {x k s j : Nat} (hs : s < 16) : nibN (replN x k s) j = if j = k then s else nibN x j := by
  rw [replN_e]
  have hl : x % 2 ^ (4 * k) < 2 ^ (4 * k) := Nat.mod_lt _ (Nat.two_pow_pos _)
  refine Nat.eq_of_testBit_eq (fun b => ?_)
  rw [nib_bit, Nat.testBit_two_pow_mul_add _ hl]
  by_cases e4 : b < 4
  · rw [decide_eq_true e4, Bool.and_true]
    by_cases e : j = k
    · subst e
      rw [if_pos rfl, if_neg (by omega), show 4 * j + b - 4 * j = b by omega, Nat.testBit_two_pow_mul_add _ (show s < 2 ^ 4 from hs), if_pos e4]
    · rw [if_neg e, nib_bit, decide_eq_true e4, Bool.and_true]
      by_cases e2 : j < k
      · rw [if_pos (by omega), Nat.testBit_mod_two_pow, decide_eq_true (by omega), Bool.true_and]
      · rw [if_neg (by omega), Nat.testBit_two_pow_mul_add _ (show s < 2 ^ 4 from hs), if_neg (by omega), Nat.testBit_div_two_pow, Nat.testBit_div_two_pow]
        congr 1; omega
  · rw [decide_eq_false e4, Bool.and_false]
    split
    · exact (bit_ge (show s < 2 ^ 4 from hs) (by omega)).symm
    · rw [nib_bit, decide_eq_false e4, Bool.and_false]
theorem okT_sc {t : TCt} {k x : Nat} (h : okT t) (hx : 1 ≤ x ∧ x < 10) : okT (scO t k x) := by
  refine ⟨⟨h.1.1, h.1.2.1, fun j hj => ?_, h.1.2.2.2⟩, h.2⟩
  show 1 ≤ va_up (coT t) k x j ∧ va_up (coT t) k x j < 10
  by_cases e : j = k
  · subst e; rw [up_s]; exact hx
  · rw [up_n _ _ e]; exact okT_co h j hj
theorem okT_ac0 {t : TCt} {a b : Nat} (h : okT t) (hr : rcT t = 0) (hc : ccT t < 5) (ha : 2 ≤ a ∧ a ≤ 4) (hb : 1 ≤ b ∧ b < 10) : okT (acO t a b) := by
  have h0 : ∀ j, ¬ j < rcT (acO t a b) := fun j hj => by
    have : j < rcT t := hj
    omega
  refine ⟨⟨show ccT t + 1 ≤ 5 by omega, fun j hj => ?_, fun j hj => ?_, h.1.2.2.2.1, fun j hj => absurd hj (h0 j), fun j hj => absurd hj (h0 j)⟩, fun i j hi => absurd hi (h0 i), fun j hj => absurd hj (h0 j), h.2.2.2.1, fun j hj => absurd hj (h0 j)⟩
  · show 2 ≤ va_up (acT t) (ccT t) a j ∧ va_up (acT t) (ccT t) a j ≤ 4
    have hj : j < ccT t + 1 := hj
    by_cases e : j = ccT t
    · subst e; rw [up_s]; exact ha
    · rw [up_n _ _ e]; exact okT_ac h j (by omega)
  · show 1 ≤ va_up (coT t) (ccT t) b j ∧ va_up (coT t) (ccT t) b j < 10
    have hj : j < ccT t + 1 := hj
    by_cases e : j = ccT t
    · subst e; rw [up_s]; exact hb
    · rw [up_n _ _ e]; exact okT_co h j (by omega)
theorem okT_ar {t : TCt} {s a : Nat} (h : okT t) (hr : rcT t < 20) (hs2 : s < 1048576) (hs : areSetsB (nI s) (ccT t) (acT t) = true) (ha : a < 10) (had : adT t < 1000) : okT (arO t s a) := by
  have hn := are_nib h hs2 hs
  refine ⟨⟨h.1.1, h.1.2.1, h.1.2.2.1, show rcT t + 1 ≤ 20 by omega, fun j hj => ?_, fun j hj => ?_⟩, fun i j hi hj e => ?_, fun j hj => ?_, show adT t + 1 ≤ 1000 by omega, fun j hj k hk => ?_⟩
  · show va_up (anT t) (rcT t) a j < 10
    have hj : j < rcT t + 1 := hj
    by_cases e : j = rcT t
    · subst e; rw [up_s]; exact ha
    · rw [up_n _ _ e]; exact okT_an h j (by omega)
  · show va_up (stT t) (rcT t) s j < 1048576
    have hj : j < rcT t + 1 := hj
    by_cases e : j = rcT t
    · subst e; rw [up_s]; exact hs2
    · rw [up_n _ _ e]; exact okT_st h j (by omega)
  · have e : va_up (nmT t) (rcT t) (adT t) i = va_up (nmT t) (rcT t) (adT t) j := e
    have hi : i < rcT t + 1 := hi
    have hj : j < rcT t + 1 := hj
    by_cases ei : i = rcT t
    · by_cases ej : j = rcT t
      · omega
      · rw [ei, up_s, up_n _ _ ej] at e
        have := h.2.2.1 j (by omega); omega
    · by_cases ej : j = rcT t
      · rw [ej, up_s, up_n _ _ ei] at e
        have := h.2.2.1 i (by omega); omega
      · rw [up_n _ _ ei, up_n _ _ ej] at e
        exact h.2.1 i j (by omega) (by omega) e
  · show va_up (nmT t) (rcT t) (adT t) j < adT t + 1
    have hj : j < rcT t + 1 := hj
    by_cases e : j = rcT t
    · subst e; rw [up_s]; omega
    · rw [up_n _ _ e]; have := h.2.2.1 j (by omega); omega
  · show nibN (va_up (stT t) (rcT t) s j) k ≤ fulN (acT t k)
    have hj : j < rcT t + 1 := hj
    by_cases e : j = rcT t
    · subst e; rw [up_s]; exact hn k hk
    · rw [up_n _ _ e]; exact h.2.2.2.2 j (by omega) k hk
theorem okT_sa {t : TCt} {p k s : Nat} (h : okT t) (hp : p < rcT t) (hk : k < ccT t) (hs : 0 < s ∧ s ≤ fulN (acT t k)) : okT (saO t p k s) := by
  have hcc := okT_cc h
  have hf := (ful_3 _ (by have := (okT_ac h k hk).2; omega) (okT_ac h k hk).1).2
  refine ⟨⟨h.1.1, h.1.2.1, h.1.2.2.1, h.1.2.2.2.1, h.1.2.2.2.2.1, fun j hj => ?_⟩, h.2.1, h.2.2.1, h.2.2.2.1, fun j hj k' hk' => ?_⟩
  · show va_up (stT t) p (replN (stT t p) k s) j < 1048576
    by_cases e : j = p
    · subst e; rw [up_s, replN_e]
      have hx := okT_st h j hj
      rcases (show k = 0 ∨ k = 1 ∨ k = 2 ∨ k = 3 ∨ k = 4 by omega) with e | e | e | e | e <;> subst e <;> simp only [Nat.reduceMul, Nat.reducePow, Nat.mul_zero, Nat.pow_zero] <;> omega
    · rw [up_n _ _ e]; exact okT_st h j hj
  · show nibN (va_up (stT t) p (replN (stT t p) k s) j) k' ≤ fulN (acT t k')
    by_cases e : j = p
    · subst e
      rw [up_s, repl_nib (by omega)]
      split
      · next e2 => subst e2; exact hs.2
      · exact h.2.2.2.2 j hj k' hk'
    · rw [up_n _ _ e]; exact h.2.2.2.2 j hj k' hk'
theorem okT_at {t : TCt} {p a : Nat} (h : okT t) (ha : a < 10) : okT (atO t p a) := by
  refine ⟨⟨h.1.1, h.1.2.1, h.1.2.2.1, h.1.2.2.2.1, fun j hj => ?_, h.1.2.2.2.2.2⟩, h.2⟩
  show va_up (anT t) p a j < 10
  by_cases e : j = p
  · subst e; rw [up_s]; exact ha
  · rw [up_n _ _ e]; exact okT_an h j hj
/-- rows in another order, or fewer of them -/
theorem okT_map {t t' : TCt} (g : Nat → Nat) (h : okT t) (hcc : ccT t' = ccT t) (hac : acT t' = acT t) (hco : coT t' = coT t) (had : adT t' = adT t) (hrc : rcT t' ≤ rcT t) (hg : ∀ j, j < rcT t' → g j < rcT t) (hi : ∀ i j, i < rcT t' → j < rcT t' → g i = g j → i = j)
    (hnm : ∀ j, j < rcT t' → nmT t' j = nmT t (g j)) (hst : ∀ j, j < rcT t' → stT t' j = stT t (g j)) (han : ∀ j, j < rcT t' → anT t' j = anT t (g j)) : okT t' := by
  have hrc2 := okT_rc h
  refine ⟨⟨by rw [hcc]; exact h.1.1, by rw [hcc, hac]; exact h.1.2.1, by rw [hcc, hco]; exact h.1.2.2.1, by omega, fun j hj => by rw [han j hj]; exact okT_an h _ (hg j hj), fun j hj => by rw [hst j hj]; exact okT_st h _ (hg j hj)⟩, fun i j a b e => ?_, fun j hj => by rw [hnm j hj, had]; exact h.2.2.1 _ (hg j hj), by rw [had]; exact h.2.2.2.1, fun j hj k hk => by rw [hst j hj, hac]; exact h.2.2.2.2 _ (hg j hj) k (by rw [← hcc]; exact hk)⟩
  rw [hnm i a, hnm j b] at e
  exact hi i j a b (h.2.1 _ _ (hg i a) (hg j b) e)
def sgF (p j : Nat) : Nat := if p ≤ j then j + 1 else j
theorem shif_sg (f : Nat → Nat) {p rc j : Nat} (hj : j < rc - 1) : shifF f p rc j = f (sgF p j) := by
  unfold shifF sgF
  by_cases e : p ≤ j
  · rw [if_pos ⟨e, by omega⟩, if_pos e]
  · rw [if_neg (fun h => e h.1), if_neg e]
theorem okT_dr {t : TCt} {p : Nat} (h : okT t) : okT (drO t p) := by
  refine okT_map (sgF p) h rfl rfl rfl rfl (Nat.sub_le _ _) (fun j hj => ?_) (fun i j hi hj e => ?_) (fun j hj => shif_sg _ hj) (fun j hj => shif_sg _ hj) (fun j hj => shif_sg _ hj)
  · have hj : j < rcT t - 1 := hj
    unfold sgF; split <;> omega
  · unfold sgF at e
    revert e
    split <;> split <;> omega
def swF (p j : Nat) : Nat := if j = p - 1 then p else if j = p then p - 1 else j
theorem lift_sw (f : Nat → Nat) {p j : Nat} : liftF f p j = f (swF p j) := by
  unfold liftF swF va_up
  split
  · rfl
  · split <;> rfl
theorem okT_up {t : TCt} {p : Nat} (h : okT t) (hp : p < rcT t) (h0 : 0 < p) : okT (upO t p) := by
  refine okT_map (swF p) h rfl rfl rfl rfl (Nat.le_refl _) (fun j hj => ?_) (fun i j hi hj e => ?_) (fun j hj => lift_sw _) (fun j hj => lift_sw _) (fun j hj => lift_sw _)
  · have hj : j < rcT t := hj
    unfold swF; split <;> (try split) <;> omega
  · unfold swF at e
    revert e
    (repeat' split) <;> omega
theorem un_back {cnt : Nat} {sv : Nat → TSt} {t : TCt} (h : cnt ≤ 4) : (savF cnt sv t (cntF cnt - 1)).2 = t := by
  rcases (show cnt = 0 ∨ cnt = 1 ∨ cnt = 2 ∨ cnt = 3 ∨ cnt = 4 by omega) with e | e | e | e | e <;> subst e <;> rfl
theorem cntF_le {cnt : Nat} (h : cnt ≤ 4) : cntF cnt ≤ 4 := by unfold cntF; split <;> omega
theorem cntF_pos {cnt : Nat} : 0 < cntF cnt := by unfold cntF; split <;> omega
theorem and_m (x : Int32) : ∃ z : Nat, x &&& nI 2147483647 = nI z ∧ z < 2147483648 := by
  refine ⟨(x &&& nI 2147483647).toBitVec.toNat, ?_, ?_⟩
  · apply Int32.toBitVec_inj.mp
    show _ = (Int32.ofNat _).toBitVec
    rw [Int32.toBitVec_ofNat']
    simp
  · rw [Int32.toBitVec_and, BitVec.toNat_and]
    exact Nat.lt_succ_of_le Nat.and_le_right
