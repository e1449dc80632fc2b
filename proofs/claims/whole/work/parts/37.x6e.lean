
/-! ===== the reference's rows ===== -/
theorem inI_set {x : Int32} {f : Nat} : inI x (nI 1) (nI f) = isSetB x f := by
  unfold inI isSetB
  have h1 : (¬ x < nI 1) ↔ 0 < x := by
    rw [Int32.lt_iff_toInt_lt, Int32.lt_iff_toInt_lt, show (nI 1).toInt = 1 by decide, show (0 : Int32).toInt = 0 by decide]; omega
  rw [show decide (¬ x < nI 1) = decide (0 < x) from decide_eq_decide.mpr h1, show decide (¬ nI f < x) = decide (x ≤ nI f) from decide_eq_decide.mpr i_not_lt]
theorem inI_127 {x : Int32} : inI x (nI 0) (nI 127) = (decide (¬ x < 0) && decide (x ≤ nI 127)) := by
  unfold inI
  rw [show decide (¬ nI 127 < x) = decide (x ≤ nI 127) from decide_eq_decide.mpr i_not_lt]
  rfl
def keepF (cnt : Nat) (sv : Nat → TCt) (t : TCt) : Nat → TCt := if cnt < 4 then va_up sv cnt t else va_up (fun x => cond (Nat.beq x 3) (sv 0) (sv (x + 1))) 3 t
theorem savF_keep {cnt : Nat} {sv : Nat → TSt} {t : TCt} : (fun j => (savF cnt sv t j).2) = keepF cnt (fun j => (sv j).2) t := by
  funext j
  unfold savF keepF
  by_cases h : cnt < 4
  · rw [if_pos h, if_pos h]
    unfold setS va_up
    by_cases e : j = cnt
    · rw [if_pos e, show Nat.beq j cnt = true from by rw [e]; exact Nat.beq_refl cnt]; rfl
    · rw [if_neg e]
      cases e2 : Nat.beq j cnt with
      | true => exact absurd (Nat.eq_of_beq_eq_true e2) e
      | false => rfl
  · rw [if_neg h, if_neg h]
    unfold setS va_up
    by_cases e : j = 3
    · subst e; rfl
    · rw [if_neg e]
      cases e2 : Nat.beq j 3 with
      | true => exact absurd (Nat.eq_of_beq_eq_true e2) e
      | false =>
        show (rotF sv j).2 = cond (Nat.beq j 3) (sv 0).2 (sv (j + 1)).2
        unfold rotF
        rw [e2]; rfl
section SHF
variable {cc ad rc p : Nat} {ac co nm st an : Nat → Nat}
theorem tab_lo {nm' st' an' : Nat → Nat} {j : Nat} (h : j < 13) : tabF cc ac co ad rc nm st an j = tabF cc ac co ad rc nm' st' an' j := by
  unfold tabF; rw [if_pos h, if_pos h]
theorem tab_shift {n : Nat} (hp : p < n) (j : Nat) : (if 13 + 3 * p ≤ j ∧ j < 13 + 3 * (n - 1) then tabF cc ac co ad rc nm st an (j + 3) else tabF cc ac co ad rc nm st an j) = tabF cc ac co ad rc (shifF nm p n) (shifF st p n) (shifF an p n) j := by
  by_cases h : j < 13
  · rw [if_neg (by omega)]; exact tab_lo h
  · obtain ⟨q, hq⟩ : ∃ q, q = (j - 13) / 3 := ⟨_, rfl⟩
    obtain ⟨w, hw⟩ : ∃ w, w = (j - 13) % 3 := ⟨_, rfl⟩
    have hj : j = 13 + 3 * q + w := by have := Nat.div_add_mod (j - 13) 3; omega
    have hw3 : w < 3 := by rw [hw]; exact Nat.mod_lt _ (by decide)
    have hsh : ∀ f : Nat → Nat, shifF f p n q = if 13 + 3 * p ≤ j ∧ j < 13 + 3 * (n - 1) then f (q + 1) else f q := fun f => by
      unfold shifF
      by_cases e : p ≤ q ∧ q + 1 < n
      · rw [if_pos e, if_pos (by omega)]
      · rw [if_neg e, if_neg (by omega)]
    rcases (show w = 0 ∨ w = 1 ∨ w = 2 by omega) with e | e | e
    · subst e
      rw [show j + 3 = 13 + 3 * (q + 1) + 0 by omega, tab_nm]
      conv => rhs; rw [hj, tab_nm, hsh nm]
      conv => lhs; rw [show tabF cc ac co ad rc nm st an j = nm q from by rw [hj, tab_nm]]
    · subst e
      rw [show j + 3 = 13 + 3 * (q + 1) + 1 by omega, tab_an]
      conv => rhs; rw [hj, tab_an, hsh an]
      conv => lhs; rw [show tabF cc ac co ad rc nm st an j = an q from by rw [hj, tab_an]]
    · subst e
      rw [show j + 3 = 13 + 3 * (q + 1) + 2 by omega, tab_st]
      conv => rhs; rw [hj, tab_st, hsh st]
      conv => lhs; rw [show tabF cc ac co ad rc nm st an j = st q from by rw [hj, tab_st]]
end SHF
theorem sub_n : ∀ s, s < 16 → ∀ w, w < 16 → nI s - nI w = nI (s + (4294967296 - w)) := by decide +kernel
theorem nI_wrap (a m : Nat) : nI (a + 4294967296 * m) = nI a := by
  apply Int32.toBitVec_inj.mp
  show BitVec.ofNat 32 (a + 4294967296 * m) = BitVec.ofNat 32 a
  apply BitVec.eq_of_toNat_eq
  rw [BitVec.toNat_ofNat, BitVec.toNat_ofNat]
  exact Nat.add_mul_mod_self_left a (2 ^ 32) m
theorem replN_add {x k s : Nat} (hk : k < 5) (hs : s < 16) : nI x + (nI s - nI (nibN x k)) <<< (nI (4 * k) &&& 31) = nI (replN x k s) := by
  rw [sub_n s hs _ (nibN_lt x k), nN_shl _ (show 4 * k < 32 by omega), nI_add, replN_e, Nat.shiftLeft_eq]
  have h1 := Nat.div_add_mod x (2 ^ (4 * k))
  have h2 := Nat.div_add_mod (x / 2 ^ (4 * k)) (2 ^ 4)
  have h3 : nibN x k = x / 2 ^ (4 * k) % 2 ^ 4 := by
    unfold nibN
    rw [Nat.shiftRight_eq_div_pow, show (15 : Nat) = 2 ^ 4 - 1 from rfl, Nat.and_two_pow_sub_one_eq_mod]
  have hw := nibN_lt x k
  rw [h3] at hw ⊢
  generalize 2 ^ (4 * k) = P at h1 h2 hw ⊢
  generalize x % P = lo at h1 ⊢
  generalize x / P = A at h1 h2 hw ⊢
  generalize A % 2 ^ 4 = w at h2 hw ⊢
  generalize A / 2 ^ 4 = hi at h2 ⊢
  have e : x + (s + (4294967296 - w)) * P = P * (2 ^ 4 * hi + s) + lo + 4294967296 * P := by
    have e1 : (s + (4294967296 - w)) * P + w * P = s * P + 4294967296 * P := by rw [← Nat.add_mul, ← Nat.add_mul]; congr 1; omega
    have e2 : P * A = P * (2 ^ 4 * hi) + P * w := by rw [← Nat.mul_add, h2]
    rw [Nat.mul_add, Nat.mul_comm P s, ← h1, e2, Nat.mul_comm P w]
    omega
  rw [e, nI_wrap]
theorem hole_iff {cc : Nat} {ac : Nat → Nat} {rc : Nat} {st an : Nat → Nat} {c : Nat} (han10 : ∀ j, j < rc → an j < 10) : axN cc ac rc st an c = 10 ↔ cntB (tlW st (bitC ac c cc)) rc = 0 := by
  unfold axN
  rw [cnt_first]
  cases h : firstF (tlW st (bitC ac c cc)) rc with
  | none => exact ⟨fun _ => rfl, fun _ => rfl⟩
  | some q =>
    have := han10 q (firstF_spec h).1
    exact ⟨fun h9 => by have h9 : an q = 10 := h9; omega, fun h9 => by cases h9⟩

set_option maxHeartbeats 4000000 in
set_option maxRecDepth 100000 in
theorem c_X6_isSets (lQ : Launch) (D : va_G) (kA : Nat → ClassId) (qr : Nat → Nat) (cc : Nat) (ac : Nat → Nat) (co : Nat → Nat) (ad : Nat) (rc : Nat) (nm : Nat → Nat) (st : Nat → Nat) (an : Nat → Nat) (svm : Nat → TCt) (cnt : Nat) (tx : Nat → Nat) (len : Nat) (th : Nat) (xf : Nat → Option Nat) (xt : Nat → Nat) (xs : Nat → Option Nat) (xa : Nat → Nat) (xw : Nat → Nat) (xc : Nat → Nat) (xk : Nat → Option Nat) (xp : Nat → Nat) (pt : Nat) (wr : Option Nat) (xm : Nat → Nat) (mny : Nat) (x : Int32) (hcc : cc ≤ 5) (hac : ∀ k, k < cc → 2 ≤ ac k ∧ ac k ≤ 4) : Met lQ yX6_isSets wsX6_isSets (rmN 1 22) (rd_Pc D vwCl [.ref (qr 0), .int x] (wR kA qr cc ac co ad rc nm st an svm cnt tx len th xf xt xs xa xw xc xk xp pt wr xm mny) (tyK kA)) (vp_Si (fun r : Int32 => r = (bI (areSetsB x cc ac)))) 0 0 (fun _ => False) := by
  refine Met.ofW (cc := cX6_isSets) (maxL := 3) (ret := (some .boolean)) (by decide) rfl ?_
  intro pQ eQ s mQ args below meth cQ s₁ B hml hv
  obtain ⟨rfl, hP, hK⟩ := hv
  have hx := B.exec
  have hb := B.bytes
  have hr := B.returns
  have hts := atoms_spec (ws := wsX6_isSets) B.pre
  have hown : s.vm.findClass RX6 = some mQ.cls := findClass_of_methodNamed B.named
  have hlocks : meth.locks = false := B.notSynchronized
  have hS0 : CallFix pQ mQ cQ cX6_isSets 3 s ([.ref (qr 0), .int x] : List Value).toArray wsX6_isSets RX6 := ⟨hx, hb, hml, hown, hts⟩
  have f7 : (Cond.fieldLink RX6 7 "AskedRulesModel" "now" "[I").before ([.ref (qr 0), .int x] : List Value).toArray s = true := hts _ (by decide +kernel)
  have hinX6 : ∀ w ∈ wsX60, w ∈ wsX6_isSets := by decide +kernel
  have hl := lv_entry ([.ref (qr 0), .int x]) (n := 3) (Nat.le_of_ble_eq_true rfl)
  rw [lg_entry_eq]
  generalize (lg_sl ([.ref (qr 0), .int x]) ++ List.replicate (3 - (lg_sl ([.ref (qr 0), .int x])).length) Slot.unset).toArray = ls at hl ⊢
  have hl : lv_has ls 3 [(0, .ref (qr 0)), (1, .int x)] := hl
  have hP : va_P D vwCl (wR kA qr cc ac co ad rc nm st an svm cnt tx len th xf xt xs xa xw xc xk xp pt wr xm mny) s.heap := hP
  refine lv_iload_n hx hb dX6_isSets_0 rfl (lv_at hl 1 rfl) ?_
  refine lv_if_lt (tgt := 17) hx hb dX6_isSets_1 (by decide) (fun c1 => ?_) (fun c1 => ?_)
  · refine lv_iconst (v := (nI 0)) hx hb dX6_isSets_17 (by decide) ?_
    exact n_retz hx hb hr hlocks (post := fun r : Int32 => r = (bI (areSetsB x cc ac))) rfl (by first | (unfold areSetsB; rw [decide_eq_false (i_not_le.mpr c1)]; rfl) | (rw [areSets_n hx1 hx2, decide_eq_false (by omega)]; rfl)) rfl dX6_isSets_18
  · obtain ⟨hx1, hx2⟩ := ng_c c1
    have hl : lv_has ls 3 [(0, .ref (qr 0)), (1, .int (nI x.toNatClampNeg))] := by rw [← hx1]; exact hl
    refine lv_iload_n hx hb dX6_isSets_4 rfl (lv_at hl 1 rfl) ?_
    refine lv_iconst (v := (nI 4)) hx hb dX6_isSets_5 (by decide) ?_
    refine lv_aload_n hx hb dX6_isSets_6 rfl (lv_at hl 0 rfl) ?_
    refine n_get (ci := 6) (v := .ref (qr 1)) (C := RX6) (T := TX6) (N := 18) hx hb hts hinX6 hown hK hP 0 rfl rfl 0 rfl ⟨rfl, rfl, rfl⟩ f7 rfl dX6_isSets_7 ?_
    refine lv_iconst (v := (nI 0)) hx hb dX6_isSets_10 (by decide) ?_
    refine n_iald (i := 0) (v := (nI cc)) hx hb hK hP 1 0 rfl rfl (by omega) (Nat.le_of_ble_eq_true rfl) rfl dX6_isSets_11 ?_
    refine n_imul (v := (nI (4 * cc))) hx hb (pk_mul _ _) dX6_isSets_12 ?_
    refine n_ishr (v := (nI (x.toNatClampNeg >>> (4 * cc)))) hx hb (nN_shr (by omega) (by omega)) dX6_isSets_13 ?_
    refine n_if_eq (a := x.toNatClampNeg >>> (4 * cc)) (tgt := 19) hx hb (Nat.lt_of_le_of_lt (shr_le _ _) hx2) dX6_isSets_14 (by decide) (fun c14 => ?_) (fun c14 => ?_)
    · refine lv_iconst (v := (nI 0)) hx hb dX6_isSets_19 (by decide) ?_
      refine lv_istore_n (lv' := [(2, .int (nI 0)), (0, .ref (qr 0)), (1, .int (nI x.toNatClampNeg))]) hx hb dX6_isSets_20 rfl hl (by decide) rfl (fun ls hl => ?_)
      have L21 : ∀ (nQ : Nat) (i : Nat), cc - i < nQ → (i ≤ cc) → (∀ j, j < i → isSetB (nI (nibN x.toNatClampNeg j)) (fulN (ac j)) = true) → ∀ (ls : Array Slot), lv_has ls 3 [(2, .int (nI i)), (0, .ref (qr 0)), (1, .int (nI x.toNatClampNeg))] → W pQ lQ eQ (headSpec wsX6_isSets (rmN 1 22)).room s mQ ([.ref (qr 0), .int x] : List Value).toArray below meth cQ s.heap [] 0 0 (MQ below (vp_Si (fun r : Int32 => r = (bI (areSetsB x cc ac)))) ([.ref (qr 0), .int x] : List Value).toArray s 0 0 (fun _ => False)) (F0 mQ 21 ls []) := by
        intro nQ
        induction nQ with
        | zero => intro i hn; exact absurd hn (Nat.not_lt_zero _)
        | succ nQ ih21 =>
          intro i hm21 hi hn ls hl
          refine lv_iload_n hx hb dX6_isSets_21 rfl (lv_at hl 0 rfl) ?_
          refine lv_aload_n hx hb dX6_isSets_22 rfl (lv_at hl 1 rfl) ?_
          refine n_get (ci := 6) (v := .ref (qr 1)) (C := RX6) (T := TX6) (N := 18) hx hb hts hinX6 hown hK hP 0 rfl rfl 0 rfl ⟨rfl, rfl, rfl⟩ f7 rfl dX6_isSets_23 ?_
          refine lv_iconst (v := (nI 0)) hx hb dX6_isSets_26 (by decide) ?_
          refine n_iald (i := 0) (v := (nI cc)) hx hb hK hP 1 0 rfl rfl (by omega) (Nat.le_of_ble_eq_true rfl) rfl dX6_isSets_27 ?_
          refine n_icmp_ge (a := i) (b := cc) (tgt := 63) hx hb (by omega) (by omega) dX6_isSets_28 (by decide) (fun c28 => ?_) (fun c28 => ?_)
          · refine lv_iconst (v := (nI 1)) hx hb dX6_isSets_63 (by decide) ?_
            exact n_retz hx hb hr hlocks (post := fun r : Int32 => r = (bI (areSetsB x cc ac))) rfl (by rw [areSets_n hx1 hx2, decide_eq_true c14, allB_t (fun j hj => hn j (by omega))]; rfl) rfl dX6_isSets_64
          · refine lv_iload_n hx hb dX6_isSets_31 rfl (lv_at hl 2 rfl) ?_
            refine lv_iconst (v := (nI 4)) hx hb dX6_isSets_32 (by decide) ?_
            refine lv_iload_n hx hb dX6_isSets_33 rfl (lv_at hl 0 rfl) ?_
            refine n_imul (v := (nI (4 * i))) hx hb (pk_mul _ _) dX6_isSets_34 ?_
            refine n_ishr (v := (nI (x.toNatClampNeg >>> (4 * i)))) hx hb (nN_shr (by omega) (by omega)) dX6_isSets_35 ?_
            refine lv_bipush (v := (nI 15)) hx hb dX6_isSets_36 (by decide) ?_
            refine n_iand (v := (nI ((x.toNatClampNeg >>> (4 * i)) &&& 15))) hx hb (nN_and _ _) dX6_isSets_38 ?_
            refine lv_iconst (v := (nI 1)) hx hb dX6_isSets_39 (by decide) ?_
            refine lv_iconst (v := (nI 1)) hx hb dX6_isSets_40 (by decide) ?_
            refine lv_aload_n hx hb dX6_isSets_41 rfl (lv_at hl 1 rfl) ?_
            refine lv_iload_n hx hb dX6_isSets_42 rfl (lv_at hl 0 rfl) ?_
            refine n_cV (b := qr 0) (As := [.int (nI i)]) (rest := [.int (nI 1), .int (nI 1), .int (nI ((x.toNatClampNeg >>> (4 * i)) &&& 15))]) (wc := (wR kA qr cc ac co ad rc nm st an svm cnt tx len th xf xt xs xa xw xc xk xp pt wr xm mny)) hS0 (c_X6_answersOf lQ D kA qr cc ac co ad rc nm st an svm cnt tx len th xf xt xs xa xw xc xk xp pt wr xm mny i (by first | assumption | omega)) (cwV 1 hts gX6_isSets_X6_answersOf rfl rfl rfl (by decide +kernel) ⟨Nat.le_of_ble_eq_true rfl, Nat.le_of_ble_eq_true rfl⟩) hP hK (q0 := 0) rfl rfl rfl rfl rfl hl.1 (Nat.le_of_ble_eq_true rfl) dX6_isSets_43 ⟨Nat.le_refl _, Nat.le_refl _⟩ (fun r43 h43 => ?_)
            subst h43
            refine n_ishl (v := (nI (1 <<< (ac i)))) hx hb (nN_shl _ (by have := (hac i (by omega)).2; omega)) dX6_isSets_46 ?_
            refine lv_iconst (v := (nI 1)) hx hb dX6_isSets_47 (by decide) ?_
            refine n_isub (v := (nI ((1 <<< (ac i)) - 1))) hx hb (pk_sub (one_shl _)) dX6_isSets_48 ?_
            refine n_cS (As := [.int (nI ((x.toNatClampNeg >>> (4 * i)) &&& 15)), .int (nI 1), .int (nI ((1 <<< (ac i)) - 1))]) (rest := []) (wc := []) hS0 (c_X6_in lQ D kA (nI ((x.toNatClampNeg >>> (4 * i)) &&& 15)) (nI 1) (nI ((1 <<< (ac i)) - 1)) ) (va_cwS 3 hts gX6_isSets_X6_in rfl rfl rfl (by decide +kernel) ⟨Nat.le_of_ble_eq_true rfl, Nat.le_of_ble_eq_true rfl⟩) (hP.mem (ws' := []) (fun qQ h => absurd h List.not_mem_nil)) hK rfl rfl hl.1 (Nat.le_of_ble_eq_true rfl) dX6_isSets_49 ⟨Nat.le_refl _, Nat.le_refl _⟩ (fun r49 h49 => ?_)
            subst h49
            refine n_ifb_ne (b := inI (nI ((x.toNatClampNeg >>> (4 * i)) &&& 15)) (nI 1) (nI ((1 <<< (ac i)) - 1))) (tgt := 57) hx hb dX6_isSets_52 (by decide) (fun c52 => ?_) (fun c52 => ?_)
            · rw [inI_set] at c52
              refine lv_iinc (v := (nI (i + 1))) (lv' := [(2, .int (nI (i + 1))), (0, .ref (qr 0)), (1, .int (nI x.toNatClampNeg))]) hx hb dX6_isSets_57 hl (k := 0) rfl (nI_inc _) (by decide) rfl (fun ls hl => ?_)
              refine lv_goto (tgt := 21) hx hb dX6_isSets_60 (by decide) ?_
              exact ih21 (i + 1) (by omega) (by first | assumption | omega) (fun j hj => by by_cases e : j = i; (subst e; exact c52); exact hn j (by omega)) _ (lv_sub hl [0, 1, 2] rfl)
            · rw [inI_set] at c52
              refine lv_iconst (v := (nI 0)) hx hb dX6_isSets_55 (by decide) ?_
              exact n_retz hx hb hr hlocks (post := fun r : Int32 => r = (bI (areSetsB x cc ac))) rfl (by rw [areSets_n hx1 hx2, allB_f (p := i) c52 (by omega), Bool.and_false]; rfl) rfl dX6_isSets_56
      exact L21 ((cc - 0) + 1) 0 (Nat.lt_succ_self _) (by first | assumption | omega) (fun j hj => absurd hj (Nat.not_lt_zero _)) _ (lv_sub hl [0, 1, 2] rfl)
    · refine lv_iconst (v := (nI 0)) hx hb dX6_isSets_17 (by decide) ?_
      exact n_retz hx hb hr hlocks (post := fun r : Int32 => r = (bI (areSetsB x cc ac))) rfl (by first | (unfold areSetsB; rw [decide_eq_false (i_not_le.mpr c1)]; rfl) | (rw [areSets_n hx1 hx2, decide_eq_false (by omega)]; rfl)) rfl dX6_isSets_18

set_option maxHeartbeats 4000000 in
set_option maxRecDepth 100000 in
theorem c_X6_adds (lQ : Launch) (D : va_G) (kA : Nat → ClassId) (qr : Nat → Nat) (cc : Nat) (ac : Nat → Nat) (co : Nat → Nat) (ad : Nat) (rc : Nat) (nm : Nat → Nat) (st : Nat → Nat) (an : Nat → Nat) (svm : Nat → TCt) (cnt : Nat) (tx : Nat → Nat) (len : Nat) (th : Nat) (xf : Nat → Option Nat) (xt : Nat → Nat) (xs : Nat → Option Nat) (xa : Nat → Nat) (xw : Nat → Nat) (xc : Nat → Nat) (xk : Nat → Option Nat) (xp : Nat → Nat) (pt : Nat) (wr : Option Nat) (xm : Nat → Nat) (mny : Nat) (s0 : Nat) (a : Nat) (sz : Nat) (hrc : rc < 20) : Met lQ yX6_adds wsX6_adds (rmN 1 21) (wr_Pc D vwCl [.ref (qr 0), .int (nI s0), .int (nI a)] (wR kA qr cc ac co ad rc nm st an svm cnt tx len th xf xt xs xa xw xc xk xp pt wr xm mny) (tyK kA) sz) (va_Qi (S := Unit) (fun (r : Int32) (u : Unit) => r = (nI ad)) (wr_B D vwCl (wR kA qr cc ac co ad rc nm st an svm cnt tx len th xf xt xs xa xw xc xk xp pt wr xm mny) (tyK kA) sz (fun u => (wR kA qr cc ac co (ad + 1) (rc + 1) (va_up nm rc ad) (va_up st rc s0) (va_up an rc a) svm cnt tx len th xf xt xs xa xw xc xk xp pt wr xm mny))) (va_A (wR kA qr cc ac co ad rc nm st an svm cnt tx len th xf xt xs xa xw xc xk xp pt wr xm mny) sz)) 0 0 (va_A (wR kA qr cc ac co ad rc nm st an svm cnt tx len th xf xt xs xa xw xc xk xp pt wr xm mny) sz) := by
  refine Met.ofW (cc := cX6_adds) (maxL := 4) (ret := (some .int)) (by decide) rfl ?_
  intro pQ eQ s mQ args below meth cQ s₁ B hml hv
  obtain ⟨rfl, hsz, hP, hK, hD0⟩ := hv
  have hx := B.exec
  have hb := B.bytes
  have hr := B.returns
  have hts := atoms_spec (ws := wsX6_adds) B.pre
  have hown : s.vm.findClass RX6 = some mQ.cls := findClass_of_methodNamed B.named
  have hlocks : meth.locks = false := B.notSynchronized
  have hS0 : CallFix pQ mQ cQ cX6_adds 4 s ([.ref (qr 0), .int (nI s0), .int (nI a)] : List Value).toArray wsX6_adds RX6 := ⟨hx, hb, hml, hown, hts⟩
  subst hsz
  have hD := hD0.self (sz := s.heap.size)
  generalize hAe : va_A (wR kA qr cc ac co ad rc nm st an svm cnt tx len th xf xt xs xa xw xc xk xp pt wr xm mny) s.heap.size = A at hD ⊢
  have hA : ∀ q : Nat, s.heap.size ≤ q → A q := fun q h => by rw [← hAe]; exact Or.inr h
  have hS : va_S A s.heap s.heap [] := va_S.rf
  have f7 : (Cond.fieldLink RX6 7 "AskedRulesModel" "now" "[I").before ([.ref (qr 0), .int (nI s0), .int (nI a)] : List Value).toArray s = true := hts _ (by decide +kernel)
  have hinX6 : ∀ w ∈ wsX60, w ∈ wsX6_adds := by decide +kernel
  have hl := lv_entry ([.ref (qr 0), .int (nI s0), .int (nI a)]) (n := 4) (Nat.le_of_ble_eq_true rfl)
  rw [lg_entry_eq]
  generalize (lg_sl ([.ref (qr 0), .int (nI s0), .int (nI a)]) ++ List.replicate (4 - (lg_sl ([.ref (qr 0), .int (nI s0), .int (nI a)])).length) Slot.unset).toArray = ls at hl ⊢
  have hl : lv_has ls 4 [(0, .ref (qr 0)), (1, .int (nI s0)), (2, .int (nI a))] := hl
  have hP : va_P D vwCl (wR kA qr cc ac co ad rc nm st an svm cnt tx len th xf xt xs xa xw xc xk xp pt wr xm mny) s.heap := hP
  have hD : va_D A (wR kA qr cc ac co ad rc nm st an svm cnt tx len th xf xt xs xa xw xc xk xp pt wr xm mny) := hD
  refine lv_aload_n hx hb dX6_adds_0 rfl (lv_at hl 0 rfl) ?_
  refine n_get (ci := 6) (v := .ref (qr 1)) (C := RX6) (T := TX6) (N := 18) hx hb hts hinX6 hown hK hP 0 rfl rfl 0 rfl ⟨rfl, rfl, rfl⟩ f7 rfl dX6_adds_1 ?_
  refine lv_iconst (v := (nI 1)) hx hb dX6_adds_4 (by decide) ?_
  refine n_iald (i := 1) (v := (nI rc)) hx hb hK hP 1 0 rfl rfl (by omega) (Nat.le_of_ble_eq_true rfl) rfl dX6_adds_5 ?_
  refine lv_istore_n (lv' := [(3, .int (nI rc)), (0, .ref (qr 0)), (1, .int (nI s0)), (2, .int (nI a))]) hx hb dX6_adds_6 rfl hl (by decide) rfl (fun ls hl => ?_)
  refine lv_aload_n hx hb dX6_adds_7 rfl (lv_at hl 1 rfl) ?_
  refine n_get (ci := 6) (v := .ref (qr 1)) (C := RX6) (T := TX6) (N := 18) hx hb hts hinX6 hown hK hP 0 rfl rfl 0 rfl ⟨rfl, rfl, rfl⟩ f7 rfl dX6_adds_8 ?_
  refine lv_iload_n hx hb dX6_adds_11 rfl (lv_at hl 0 rfl) ?_
  refine lv_iconst (v := (nI 0)) hx hb dX6_adds_12 (by decide) ?_
  refine n_cS (As := [.int (nI rc), .int (nI 0)]) (rest := [.ref (qr 1)]) (wc := []) hS0 (c_X6_r lQ D kA rc 0 ) (va_cwS 2 hts gX6_adds_X6_r rfl rfl rfl (by decide +kernel) ⟨Nat.le_of_ble_eq_true rfl, Nat.le_of_ble_eq_true rfl⟩) (hP.mem (ws' := []) (fun qQ h => absurd h List.not_mem_nil)) hK rfl rfl hl.1 (Nat.le_of_ble_eq_true rfl) dX6_adds_13 ⟨Nat.le_refl _, Nat.le_refl _⟩ (fun r13 h13 => ?_)
  subst h13
  refine lv_aload_n hx hb dX6_adds_16 rfl (lv_at hl 1 rfl) ?_
  refine n_get (ci := 6) (v := .ref (qr 1)) (C := RX6) (T := TX6) (N := 18) hx hb hts hinX6 hown hK hP 0 rfl rfl 0 rfl ⟨rfl, rfl, rfl⟩ f7 rfl dX6_adds_17 ?_
  refine lv_iconst (v := (nI 2)) hx hb dX6_adds_20 (by decide) ?_
  refine n_iald (i := 2) (v := (nI ad)) hx hb hK hP 1 0 rfl rfl (by omega) (Nat.le_of_ble_eq_true rfl) rfl dX6_adds_21 ?_
  refine n_iast (i := 13 + 3 * rc + 0) (x := (nI ad)) (g := aN (tabF cc ac co ad rc (va_up nm rc ad) st an)) (ws' := (wR kA qr cc ac co ad rc (va_up nm rc ad) st an svm cnt tx len th xf xt xs xa xw xc xk xp pt wr xm mny)) hx hb hK hP hD hS 1 0 rfl rfl (by omega) (Nat.le_of_ble_eq_true rfl) (tabU_nm ) rfl dX6_adds_22 (fun H locs hP hD hS => ?_)
  refine lv_aload_n hx hb dX6_adds_23 rfl (lv_at hl 1 rfl) ?_
  refine n_get (ci := 6) (v := .ref (qr 1)) (C := RX6) (T := TX6) (N := 18) hx hb hts hinX6 hown hK hP 0 rfl rfl 0 rfl ⟨rfl, rfl, rfl⟩ f7 rfl dX6_adds_24 ?_
  refine lv_iload_n hx hb dX6_adds_27 rfl (lv_at hl 0 rfl) ?_
  refine lv_iconst (v := (nI 1)) hx hb dX6_adds_28 (by decide) ?_
  refine n_cS (As := [.int (nI rc), .int (nI 1)]) (rest := [.ref (qr 1)]) (wc := []) hS0 (c_X6_r lQ D kA rc 1 ) (va_cwS 2 hts gX6_adds_X6_r rfl rfl rfl (by decide +kernel) ⟨Nat.le_of_ble_eq_true rfl, Nat.le_of_ble_eq_true rfl⟩) (hP.mem (ws' := []) (fun qQ h => absurd h List.not_mem_nil)) hK rfl rfl hl.1 (Nat.le_of_ble_eq_true rfl) dX6_adds_29 ⟨Nat.le_refl _, Nat.le_refl _⟩ (fun r29 h29 => ?_)
  subst h29
  refine lv_iload_n hx hb dX6_adds_32 rfl (lv_at hl 3 rfl) ?_
  refine n_iast (i := 13 + 3 * rc + 1) (x := (nI a)) (g := aN (tabF cc ac co ad rc (va_up nm rc ad) st (va_up an rc a))) (ws' := (wR kA qr cc ac co ad rc (va_up nm rc ad) st (va_up an rc a) svm cnt tx len th xf xt xs xa xw xc xk xp pt wr xm mny)) hx hb hK hP hD hS 1 0 rfl rfl (by omega) (Nat.le_of_ble_eq_true rfl) (tabU_an ) rfl dX6_adds_33 (fun H locs hP hD hS => ?_)
  refine lv_aload_n hx hb dX6_adds_34 rfl (lv_at hl 1 rfl) ?_
  refine n_get (ci := 6) (v := .ref (qr 1)) (C := RX6) (T := TX6) (N := 18) hx hb hts hinX6 hown hK hP 0 rfl rfl 0 rfl ⟨rfl, rfl, rfl⟩ f7 rfl dX6_adds_35 ?_
  refine lv_iload_n hx hb dX6_adds_38 rfl (lv_at hl 0 rfl) ?_
  refine lv_iconst (v := (nI 2)) hx hb dX6_adds_39 (by decide) ?_
  refine n_cS (As := [.int (nI rc), .int (nI 2)]) (rest := [.ref (qr 1)]) (wc := []) hS0 (c_X6_r lQ D kA rc 2 ) (va_cwS 2 hts gX6_adds_X6_r rfl rfl rfl (by decide +kernel) ⟨Nat.le_of_ble_eq_true rfl, Nat.le_of_ble_eq_true rfl⟩) (hP.mem (ws' := []) (fun qQ h => absurd h List.not_mem_nil)) hK rfl rfl hl.1 (Nat.le_of_ble_eq_true rfl) dX6_adds_40 ⟨Nat.le_refl _, Nat.le_refl _⟩ (fun r40 h40 => ?_)
  subst h40
  refine lv_iload_n hx hb dX6_adds_43 rfl (lv_at hl 2 rfl) ?_
  refine n_iast (i := 13 + 3 * rc + 2) (x := (nI s0)) (g := aN (tabF cc ac co ad rc (va_up nm rc ad) (va_up st rc s0) (va_up an rc a))) (ws' := (wR kA qr cc ac co ad rc (va_up nm rc ad) (va_up st rc s0) (va_up an rc a) svm cnt tx len th xf xt xs xa xw xc xk xp pt wr xm mny)) hx hb hK hP hD hS 1 0 rfl rfl (by omega) (Nat.le_of_ble_eq_true rfl) (tabU_st ) rfl dX6_adds_44 (fun H locs hP hD hS => ?_)
  refine lv_aload_n hx hb dX6_adds_45 rfl (lv_at hl 1 rfl) ?_
  refine n_get (ci := 6) (v := .ref (qr 1)) (C := RX6) (T := TX6) (N := 18) hx hb hts hinX6 hown hK hP 0 rfl rfl 0 rfl ⟨rfl, rfl, rfl⟩ f7 rfl dX6_adds_46 ?_
  refine lv_iconst (v := (nI 1)) hx hb dX6_adds_49 (by decide) ?_
  refine lv_dup2_11 hx hb dX6_adds_50 rfl rfl ?_
  refine n_iald (i := 1) (v := (nI rc)) hx hb hK hP 1 0 rfl rfl (by omega) (Nat.le_of_ble_eq_true rfl) rfl dX6_adds_51 ?_
  refine lv_iconst (v := (nI 1)) hx hb dX6_adds_52 (by decide) ?_
  refine n_iadd (v := (nI (rc + 1))) hx hb (nI_add _ _) dX6_adds_53 ?_
  refine n_iast (i := 1) (x := (nI (rc + 1))) (g := aN (tabF cc ac co ad (rc + 1) (va_up nm rc ad) (va_up st rc s0) (va_up an rc a))) (ws' := (wR kA qr cc ac co ad (rc + 1) (va_up nm rc ad) (va_up st rc s0) (va_up an rc a) svm cnt tx len th xf xt xs xa xw xc xk xp pt wr xm mny)) hx hb hK hP hD hS 1 0 rfl rfl (by omega) (Nat.le_of_ble_eq_true rfl) (tabU_rc ) rfl dX6_adds_54 (fun H locs hP hD hS => ?_)
  refine lv_aload_n hx hb dX6_adds_55 rfl (lv_at hl 1 rfl) ?_
  refine n_get (ci := 6) (v := .ref (qr 1)) (C := RX6) (T := TX6) (N := 18) hx hb hts hinX6 hown hK hP 0 rfl rfl 0 rfl ⟨rfl, rfl, rfl⟩ f7 rfl dX6_adds_56 ?_
  refine lv_iconst (v := (nI 2)) hx hb dX6_adds_59 (by decide) ?_
  refine lv_dup2_11 hx hb dX6_adds_60 rfl rfl ?_
  refine n_iald (i := 2) (v := (nI ad)) hx hb hK hP 1 0 rfl rfl (by omega) (Nat.le_of_ble_eq_true rfl) rfl dX6_adds_61 ?_
  refine lv_iconst (v := (nI 1)) hx hb dX6_adds_62 (by decide) ?_
  refine n_iadd (v := (nI (ad + 1))) hx hb (nI_add _ _) dX6_adds_63 ?_
  refine n_iast (i := 2) (x := (nI (ad + 1))) (g := aN (tabF cc ac co (ad + 1) (rc + 1) (va_up nm rc ad) (va_up st rc s0) (va_up an rc a))) (ws' := (wR kA qr cc ac co (ad + 1) (rc + 1) (va_up nm rc ad) (va_up st rc s0) (va_up an rc a) svm cnt tx len th xf xt xs xa xw xc xk xp pt wr xm mny)) hx hb hK hP hD hS 1 0 rfl rfl (by omega) (Nat.le_of_ble_eq_true rfl) (tabU_ad ) rfl dX6_adds_64 (fun H locs hP hD hS => ?_)
  refine lv_aload_n hx hb dX6_adds_65 rfl (lv_at hl 1 rfl) ?_
  refine n_get (ci := 6) (v := .ref (qr 1)) (C := RX6) (T := TX6) (N := 18) hx hb hts hinX6 hown hK hP 0 rfl rfl 0 rfl ⟨rfl, rfl, rfl⟩ f7 rfl dX6_adds_66 ?_
  refine lv_iconst (v := (nI 2)) hx hb dX6_adds_69 (by decide) ?_
  refine n_iald (i := 2) (v := (nI (ad + 1))) hx hb hK hP 1 0 rfl rfl (by omega) (Nat.le_of_ble_eq_true rfl) rfl dX6_adds_70 ?_
  refine lv_iconst (v := (nI 1)) hx hb dX6_adds_71 (by decide) ?_
  refine n_isub (v := (nI ((ad + 1) - 1))) hx hb (pk_sub (by omega)) dX6_adds_72 ?_
  exact n_wreti hx hb hr hlocks (post := fun (r : Int32) (u : Unit) => r = (nI ad)) (w1 := fun u => (wR kA qr cc ac co (ad + 1) (rc + 1) (va_up nm rc ad) (va_up st rc s0) (va_up an rc a) svm cnt tx len th xf xt xs xa xw xc xk xp pt wr xm mny)) () (by rw [Nat.add_sub_cancel]) hP hD hK hS hAe dX6_adds_73

set_option maxHeartbeats 4000000 in
set_option maxRecDepth 100000 in
theorem c_X6_drops (lQ : Launch) (D : va_G) (kA : Nat → ClassId) (qr : Nat → Nat) (cc : Nat) (ac : Nat → Nat) (co : Nat → Nat) (ad : Nat) (rc : Nat) (nm : Nat → Nat) (st : Nat → Nat) (an : Nat → Nat) (svm : Nat → TCt) (cnt : Nat) (tx : Nat → Nat) (len : Nat) (th : Nat) (xf : Nat → Option Nat) (xt : Nat → Nat) (xs : Nat → Option Nat) (xa : Nat → Nat) (xw : Nat → Nat) (xc : Nat → Nat) (xk : Nat → Option Nat) (xp : Nat → Nat) (pt : Nat) (wr : Option Nat) (xm : Nat → Nat) (mny : Nat) (p : Nat) (sz : Nat) (hp : p < rc) (hrc : rc ≤ 20) : Met lQ yX6_drops wsX6_drops (rmN 1 21) (wr_Pc D vwCl [.ref (qr 0), .int (nI p)] (wR kA qr cc ac co ad rc nm st an svm cnt tx len th xf xt xs xa xw xc xk xp pt wr xm mny) (tyK kA) sz) (va_Qv (S := Unit) (fun (u : Unit) => True) (wr_B D vwCl (wR kA qr cc ac co ad rc nm st an svm cnt tx len th xf xt xs xa xw xc xk xp pt wr xm mny) (tyK kA) sz (fun u => (wR kA qr cc ac co ad (rc - 1) (shifF nm p rc) (shifF st p rc) (shifF an p rc) svm cnt tx len th xf xt xs xa xw xc xk xp pt wr xm mny))) (va_A (wR kA qr cc ac co ad rc nm st an svm cnt tx len th xf xt xs xa xw xc xk xp pt wr xm mny) sz)) 0 0 (va_A (wR kA qr cc ac co ad rc nm st an svm cnt tx len th xf xt xs xa xw xc xk xp pt wr xm mny) sz) := by
  refine Met.ofW (cc := cX6_drops) (maxL := 3) (ret := none) (by decide) rfl ?_
  intro pQ eQ s mQ args below meth cQ s₁ B hml hv
  obtain ⟨rfl, hsz, hP, hK, hD0⟩ := hv
  have hx := B.exec
  have hb := B.bytes
  have hr := B.returns
  have hts := atoms_spec (ws := wsX6_drops) B.pre
  have hown : s.vm.findClass RX6 = some mQ.cls := findClass_of_methodNamed B.named
  have hlocks : meth.locks = false := B.notSynchronized
  have hS0 : CallFix pQ mQ cQ cX6_drops 3 s ([.ref (qr 0), .int (nI p)] : List Value).toArray wsX6_drops RX6 := ⟨hx, hb, hml, hown, hts⟩
  subst hsz
  have hD := hD0.self (sz := s.heap.size)
  generalize hAe : va_A (wR kA qr cc ac co ad rc nm st an svm cnt tx len th xf xt xs xa xw xc xk xp pt wr xm mny) s.heap.size = A at hD ⊢
  have hA : ∀ q : Nat, s.heap.size ≤ q → A q := fun q h => by rw [← hAe]; exact Or.inr h
  have hS : va_S A s.heap s.heap [] := va_S.rf
  have f7 : (Cond.fieldLink RX6 7 "AskedRulesModel" "now" "[I").before ([.ref (qr 0), .int (nI p)] : List Value).toArray s = true := hts _ (by decide +kernel)
  have hinX6 : ∀ w ∈ wsX60, w ∈ wsX6_drops := by decide +kernel
  have hl := lv_entry ([.ref (qr 0), .int (nI p)]) (n := 3) (Nat.le_of_ble_eq_true rfl)
  rw [lg_entry_eq]
  generalize (lg_sl ([.ref (qr 0), .int (nI p)]) ++ List.replicate (3 - (lg_sl ([.ref (qr 0), .int (nI p)])).length) Slot.unset).toArray = ls at hl ⊢
  have hl : lv_has ls 3 [(0, .ref (qr 0)), (1, .int (nI p))] := hl
  have hP : va_P D vwCl (wR kA qr cc ac co ad rc nm st an svm cnt tx len th xf xt xs xa xw xc xk xp pt wr xm mny) s.heap := hP
  have hD : va_D A (wR kA qr cc ac co ad rc nm st an svm cnt tx len th xf xt xs xa xw xc xk xp pt wr xm mny) := hD
  refine lv_aload_n hx hb dX6_drops_0 rfl (lv_at hl 0 rfl) ?_
  refine n_get (ci := 6) (v := .ref (qr 1)) (C := RX6) (T := TX6) (N := 18) hx hb hts hinX6 hown hK hP 0 rfl rfl 0 rfl ⟨rfl, rfl, rfl⟩ f7 rfl dX6_drops_1 ?_
  refine lv_iconst (v := (nI 1)) hx hb dX6_drops_4 (by decide) ?_
  refine lv_dup2_11 hx hb dX6_drops_5 rfl rfl ?_
  refine n_iald (i := 1) (v := (nI rc)) hx hb hK hP 1 0 rfl rfl (by omega) (Nat.le_of_ble_eq_true rfl) rfl dX6_drops_6 ?_
  refine lv_iconst (v := (nI 1)) hx hb dX6_drops_7 (by decide) ?_
  refine n_isub (v := (nI (rc - 1))) hx hb (pk_sub (by omega)) dX6_drops_8 ?_
  refine n_iast (i := 1) (x := (nI (rc - 1))) (g := aN (tabF cc ac co ad (rc - 1) nm st an)) (ws' := (wR kA qr cc ac co ad (rc - 1) nm st an svm cnt tx len th xf xt xs xa xw xc xk xp pt wr xm mny)) hx hb hK hP hD hS 1 0 rfl rfl (by omega) (Nat.le_of_ble_eq_true rfl) (tabU_rc ) rfl dX6_drops_9 (fun H locs hP hD hS => ?_)
  refine lv_iload_n hx hb dX6_drops_10 rfl (lv_at hl 1 rfl) ?_
  refine lv_iconst (v := (nI 0)) hx hb dX6_drops_11 (by decide) ?_
  refine n_cS (As := [.int (nI p), .int (nI 0)]) (rest := []) (wc := []) hS0 (c_X6_r lQ D kA p 0 ) (va_cwS 2 hts gX6_drops_X6_r rfl rfl rfl (by decide +kernel) ⟨Nat.le_of_ble_eq_true rfl, Nat.le_of_ble_eq_true rfl⟩) (hP.mem (ws' := []) (fun qQ h => absurd h List.not_mem_nil)) hK rfl rfl hl.1 (Nat.le_of_ble_eq_true rfl) dX6_drops_12 ⟨Nat.le_refl _, Nat.le_refl _⟩ (fun r12 h12 => ?_)
  subst h12
  have hP : va_P D vwCl (wRr kA qr (tabF cc ac co ad (rc - 1) nm st an) (savT svm) cnt tx len th xf xt xs xa xw xc xk xp pt wr xm mny) H := hP
  have hD : va_D A (wRr kA qr (tabF cc ac co ad (rc - 1) nm st an) (savT svm) cnt tx len th xf xt xs xa xw xc xk xp pt wr xm mny) := hD
  refine lv_istore_n (lv' := [(2, .int (nI (13 + 3 * p + 0))), (0, .ref (qr 0)), (1, .int (nI p))]) hx hb dX6_drops_15 rfl hl (by decide) rfl (fun ls hl => ?_)
  have L16 : ∀ (nQ : Nat) (k : Nat) (tbx : Nat → Nat), 13 + 3 * (rc - 1) - k < nQ → (13 + 3 * p ≤ k) → (k ≤ 13 + 3 * (rc - 1)) → (tbx 1 = rc - 1) → (∀ j, tbx j = if 13 + 3 * p ≤ j ∧ j < k then tabF cc ac co ad (rc - 1) nm st an (j + 3) else tabF cc ac co ad (rc - 1) nm st an j) → ∀ (H : Heap) (locs : List Loc), va_P D vwCl (wRr kA qr tbx (savT svm) cnt tx len th xf xt xs xa xw xc xk xp pt wr xm mny) H → va_D A (wRr kA qr tbx (savT svm) cnt tx len th xf xt xs xa xw xc xk xp pt wr xm mny) → va_S A s.heap H locs → ∀ (ls : Array Slot), lv_has ls 3 [(2, .int (nI k)), (0, .ref (qr 0)), (1, .int (nI p))] → W pQ lQ eQ (headSpec wsX6_drops (rmN 1 21)).room s mQ ([.ref (qr 0), .int (nI p)] : List Value).toArray below meth cQ H locs 0 0 (MQ below (va_Qv (S := Unit) (fun (u : Unit) => True) (wr_B D vwCl (wR kA qr cc ac co ad rc nm st an svm cnt tx len th xf xt xs xa xw xc xk xp pt wr xm mny) (tyK kA) s.heap.size (fun u => (wR kA qr cc ac co ad (rc - 1) (shifF nm p rc) (shifF st p rc) (shifF an p rc) svm cnt tx len th xf xt xs xa xw xc xk xp pt wr xm mny))) A) ([.ref (qr 0), .int (nI p)] : List Value).toArray s 0 0 A) (F0 mQ 16 ls []) := by
    intro nQ
    induction nQ with
    | zero => intro k tbx hn; exact absurd hn (Nat.not_lt_zero _)
    | succ nQ ih16 =>
      intro k tbx hm16 hk1 hk2 ht1 htb H locs hP hD hS ls hl
      refine lv_iload_n hx hb dX6_drops_16 rfl (lv_at hl 0 rfl) ?_
      refine lv_aload_n hx hb dX6_drops_17 rfl (lv_at hl 1 rfl) ?_
      refine n_get (ci := 6) (v := .ref (qr 1)) (C := RX6) (T := TX6) (N := 18) hx hb hts hinX6 hown hK hP 0 rfl rfl 0 rfl ⟨rfl, rfl, rfl⟩ f7 rfl dX6_drops_18 ?_
      refine lv_iconst (v := (nI 1)) hx hb dX6_drops_21 (by decide) ?_
      refine n_iald (i := 1) (v := (nI (tbx 1))) hx hb hK hP 1 0 rfl rfl (by omega) (Nat.le_of_ble_eq_true rfl) rfl dX6_drops_22 ?_
      refine lv_iconst (v := (nI 0)) hx hb dX6_drops_23 (by decide) ?_
      refine n_cS (As := [.int (nI (tbx 1)), .int (nI 0)]) (rest := [.int (nI k)]) (wc := []) hS0 (c_X6_r lQ D kA (tbx 1) 0 ) (va_cwS 2 hts gX6_drops_X6_r rfl rfl rfl (by decide +kernel) ⟨Nat.le_of_ble_eq_true rfl, Nat.le_of_ble_eq_true rfl⟩) (hP.mem (ws' := []) (fun qQ h => absurd h List.not_mem_nil)) hK rfl rfl hl.1 (Nat.le_of_ble_eq_true rfl) dX6_drops_24 ⟨Nat.le_refl _, Nat.le_refl _⟩ (fun r24 h24 => ?_)
      subst h24
      refine n_icmp_ge (a := k) (b := 13 + 3 * (tbx 1) + 0) (tgt := 50) hx hb (by omega) (by omega) dX6_drops_27 (by decide) (fun c27 => ?_) (fun c27 => ?_)
      · have hke : k = 13 + 3 * (rc - 1) := by omega
        subst hke
        have hP : va_P D vwCl (wR kA qr cc ac co ad (rc - 1) (shifF nm p rc) (shifF st p rc) (shifF an p rc) svm cnt tx len th xf xt xs xa xw xc xk xp pt wr xm mny) H := wRr_P hP (fun j _ => (htb j).trans (tab_shift hp j)) (fun _ _ => rfl)
        have hD : va_D A (wR kA qr cc ac co ad (rc - 1) (shifF nm p rc) (shifF st p rc) (shifF an p rc) svm cnt tx len th xf xt xs xa xw xc xk xp pt wr xm mny) := va_D_cong hD rfl
        exact n_wretv hx hb hr hlocks (post := fun (u : Unit) => True) (w1 := fun u => (wR kA qr cc ac co ad (rc - 1) (shifF nm p rc) (shifF st p rc) (shifF an p rc) svm cnt tx len th xf xt xs xa xw xc xk xp pt wr xm mny)) () trivial hP hD hK hS hAe dX6_drops_50
      · refine lv_aload_n hx hb dX6_drops_30 rfl (lv_at hl 1 rfl) ?_
        refine n_get (ci := 6) (v := .ref (qr 1)) (C := RX6) (T := TX6) (N := 18) hx hb hts hinX6 hown hK hP 0 rfl rfl 0 rfl ⟨rfl, rfl, rfl⟩ f7 rfl dX6_drops_31 ?_
        refine lv_iload_n hx hb dX6_drops_34 rfl (lv_at hl 0 rfl) ?_
        refine lv_aload_n hx hb dX6_drops_35 rfl (lv_at hl 1 rfl) ?_
        refine n_get (ci := 6) (v := .ref (qr 1)) (C := RX6) (T := TX6) (N := 18) hx hb hts hinX6 hown hK hP 0 rfl rfl 0 rfl ⟨rfl, rfl, rfl⟩ f7 rfl dX6_drops_36 ?_
        refine lv_iload_n hx hb dX6_drops_39 rfl (lv_at hl 0 rfl) ?_
        refine lv_iconst (v := (nI 3)) hx hb dX6_drops_40 (by decide) ?_
        refine n_iadd (v := (nI (k + 3))) hx hb (nI_add _ _) dX6_drops_41 ?_
        refine n_iald (i := k + 3) (v := (nI (tbx (k + 3)))) hx hb hK hP 1 0 rfl rfl (by omega) (Nat.le_of_ble_eq_true rfl) rfl dX6_drops_42 ?_
        refine n_iast (i := k) (x := (nI (tbx (k + 3)))) (g := aN (va_up tbx k (tbx (k + 3)))) (ws' := (wRr kA qr (va_up tbx k (tbx (k + 3))) (savT svm) cnt tx len th xf xt xs xa xw xc xk xp pt wr xm mny)) hx hb hK hP hD hS 1 0 rfl rfl (by omega) (Nat.le_of_ble_eq_true rfl) (aN_up _ _ _) rfl dX6_drops_43 (fun H locs hP hD hS => ?_)
        refine lv_iinc (v := (nI (k + 1))) (lv' := [(2, .int (nI (k + 1))), (0, .ref (qr 0)), (1, .int (nI p))]) hx hb dX6_drops_44 hl (k := 0) rfl (nI_inc _) (by decide) rfl (fun ls hl => ?_)
        refine lv_goto (tgt := 16) hx hb dX6_drops_47 (by decide) ?_
        exact ih16 (k + 1) (va_up tbx k (tbx (k + 3))) (by omega) (by first | assumption | omega) (by first | assumption | omega) (by rw [up_n _ _ (by omega)]; exact ht1) (fun j => by by_cases e : j = k; (subst e; rw [up_s, if_pos (by omega), htb, if_neg (by omega)]); rw [up_n _ _ e, htb]; by_cases e2 : 13 + 3 * p ≤ j ∧ j < k; (rw [if_pos e2, if_pos (by omega)]); rw [if_neg e2, if_neg (by omega)]) _ _ hP hD hS _ (lv_sub hl [0, 1, 2] rfl)
  exact L16 ((13 + 3 * (rc - 1) - (13 + 3 * p + 0)) + 1) (13 + 3 * p + 0) (tabF cc ac co ad (rc - 1) nm st an) (Nat.lt_succ_self _) (by first | assumption | omega) (by first | assumption | omega) rfl (fun j => by rw [if_neg (by omega)]) _ _ hP hD hS _ (lv_sub hl [0, 1, 2] rfl)

set_option maxHeartbeats 4000000 in
set_option maxRecDepth 100000 in
theorem c_X6_ups (lQ : Launch) (D : va_G) (kA : Nat → ClassId) (qr : Nat → Nat) (cc : Nat) (ac : Nat → Nat) (co : Nat → Nat) (ad : Nat) (rc : Nat) (nm : Nat → Nat) (st : Nat → Nat) (an : Nat → Nat) (svm : Nat → TCt) (cnt : Nat) (tx : Nat → Nat) (len : Nat) (th : Nat) (xf : Nat → Option Nat) (xt : Nat → Nat) (xs : Nat → Option Nat) (xa : Nat → Nat) (xw : Nat → Nat) (xc : Nat → Nat) (xk : Nat → Option Nat) (xp : Nat → Nat) (pt : Nat) (wr : Option Nat) (xm : Nat → Nat) (mny : Nat) (p : Nat) (sz : Nat) (hp : 1 ≤ p) (hp2 : p < 20) : Met lQ yX6_ups wsX6_ups (rmN 1 21) (wr_Pc D vwCl [.ref (qr 0), .int (nI p)] (wR kA qr cc ac co ad rc nm st an svm cnt tx len th xf xt xs xa xw xc xk xp pt wr xm mny) (tyK kA) sz) (va_Qv (S := Unit) (fun (u : Unit) => True) (wr_B D vwCl (wR kA qr cc ac co ad rc nm st an svm cnt tx len th xf xt xs xa xw xc xk xp pt wr xm mny) (tyK kA) sz (fun u => (wR kA qr cc ac co ad rc (liftF nm p) (liftF st p) (liftF an p) svm cnt tx len th xf xt xs xa xw xc xk xp pt wr xm mny))) (va_A (wR kA qr cc ac co ad rc nm st an svm cnt tx len th xf xt xs xa xw xc xk xp pt wr xm mny) sz)) 0 0 (va_A (wR kA qr cc ac co ad rc nm st an svm cnt tx len th xf xt xs xa xw xc xk xp pt wr xm mny) sz) := by
  refine Met.ofW (cc := cX6_ups) (maxL := 4) (ret := none) (by decide) rfl ?_
  intro pQ eQ s mQ args below meth cQ s₁ B hml hv
  obtain ⟨rfl, hsz, hP, hK, hD0⟩ := hv
  have hx := B.exec
  have hb := B.bytes
  have hr := B.returns
  have hts := atoms_spec (ws := wsX6_ups) B.pre
  have hown : s.vm.findClass RX6 = some mQ.cls := findClass_of_methodNamed B.named
  have hlocks : meth.locks = false := B.notSynchronized
  have hS0 : CallFix pQ mQ cQ cX6_ups 4 s ([.ref (qr 0), .int (nI p)] : List Value).toArray wsX6_ups RX6 := ⟨hx, hb, hml, hown, hts⟩
  subst hsz
  have hD := hD0.self (sz := s.heap.size)
  generalize hAe : va_A (wR kA qr cc ac co ad rc nm st an svm cnt tx len th xf xt xs xa xw xc xk xp pt wr xm mny) s.heap.size = A at hD ⊢
  have hA : ∀ q : Nat, s.heap.size ≤ q → A q := fun q h => by rw [← hAe]; exact Or.inr h
  have hS : va_S A s.heap s.heap [] := va_S.rf
  have f7 : (Cond.fieldLink RX6 7 "AskedRulesModel" "now" "[I").before ([.ref (qr 0), .int (nI p)] : List Value).toArray s = true := hts _ (by decide +kernel)
  have hinX6 : ∀ w ∈ wsX60, w ∈ wsX6_ups := by decide +kernel
  have hl := lv_entry ([.ref (qr 0), .int (nI p)]) (n := 4) (Nat.le_of_ble_eq_true rfl)
  rw [lg_entry_eq]
  generalize (lg_sl ([.ref (qr 0), .int (nI p)]) ++ List.replicate (4 - (lg_sl ([.ref (qr 0), .int (nI p)])).length) Slot.unset).toArray = ls at hl ⊢
  have hl : lv_has ls 4 [(0, .ref (qr 0)), (1, .int (nI p))] := hl
  have hP : va_P D vwCl (wR kA qr cc ac co ad rc nm st an svm cnt tx len th xf xt xs xa xw xc xk xp pt wr xm mny) s.heap := hP
  have hD : va_D A (wR kA qr cc ac co ad rc nm st an svm cnt tx len th xf xt xs xa xw xc xk xp pt wr xm mny) := hD
  refine lv_iconst (v := (nI 0)) hx hb dX6_ups_0 (by decide) ?_
  refine lv_istore_n (lv' := [(2, .int (nI 0)), (0, .ref (qr 0)), (1, .int (nI p))]) hx hb dX6_ups_1 rfl hl (by decide) rfl (fun ls hl => ?_)
  refine lv_iload_n hx hb dX6_ups_2 rfl (lv_at hl 0 rfl) ?_
  refine lv_iconst (v := (nI 3)) hx hb dX6_ups_3 (by decide) ?_
  refine lv_icmp_ge (tgt := 59) hx hb dX6_ups_4 (by decide) (fun h => absurd h (by decide)) (fun _ => ?_)
  refine lv_aload_n hx hb dX6_ups_7 rfl (lv_at hl 1 rfl) ?_
  refine n_get (ci := 6) (v := .ref (qr 1)) (C := RX6) (T := TX6) (N := 18) hx hb hts hinX6 hown hK hP 0 rfl rfl 0 rfl ⟨rfl, rfl, rfl⟩ f7 rfl dX6_ups_8 ?_
  refine lv_iload_n hx hb dX6_ups_11 rfl (lv_at hl 2 rfl) ?_
  refine lv_iload_n hx hb dX6_ups_12 rfl (lv_at hl 0 rfl) ?_
  refine n_cS (As := [.int (nI p), .int (nI 0)]) (rest := [.ref (qr 1)]) (wc := []) hS0 (c_X6_r lQ D kA p 0 ) (va_cwS 2 hts gX6_ups_X6_r rfl rfl rfl (by decide +kernel) ⟨Nat.le_of_ble_eq_true rfl, Nat.le_of_ble_eq_true rfl⟩) (hP.mem (ws' := []) (fun qQ h => absurd h List.not_mem_nil)) hK rfl rfl hl.1 (Nat.le_of_ble_eq_true rfl) dX6_ups_13 ⟨Nat.le_refl _, Nat.le_refl _⟩ (fun r13 h13 => ?_)
  subst h13
  refine n_iald (i := 13 + 3 * p + 0) (v := (nI (nm p))) hx hb hK hP 1 0 rfl rfl (by omega) (Nat.le_of_ble_eq_true rfl) (congrArg nI (tab_nm )) dX6_ups_16 ?_
  refine lv_istore_n (lv' := [(3, .int (nI (nm p))), (2, .int (nI 0)), (0, .ref (qr 0)), (1, .int (nI p))]) hx hb dX6_ups_17 rfl hl (by decide) rfl (fun ls hl => ?_)
  refine lv_aload_n hx hb dX6_ups_18 rfl (lv_at hl 2 rfl) ?_
  refine n_get (ci := 6) (v := .ref (qr 1)) (C := RX6) (T := TX6) (N := 18) hx hb hts hinX6 hown hK hP 0 rfl rfl 0 rfl ⟨rfl, rfl, rfl⟩ f7 rfl dX6_ups_19 ?_
  refine lv_iload_n hx hb dX6_ups_22 rfl (lv_at hl 3 rfl) ?_
  refine lv_iload_n hx hb dX6_ups_23 rfl (lv_at hl 1 rfl) ?_
  refine n_cS (As := [.int (nI p), .int (nI 0)]) (rest := [.ref (qr 1)]) (wc := []) hS0 (c_X6_r lQ D kA p 0 ) (va_cwS 2 hts gX6_ups_X6_r rfl rfl rfl (by decide +kernel) ⟨Nat.le_of_ble_eq_true rfl, Nat.le_of_ble_eq_true rfl⟩) (hP.mem (ws' := []) (fun qQ h => absurd h List.not_mem_nil)) hK rfl rfl hl.1 (Nat.le_of_ble_eq_true rfl) dX6_ups_24 ⟨Nat.le_refl _, Nat.le_refl _⟩ (fun r24 h24 => ?_)
  subst h24
  refine lv_aload_n hx hb dX6_ups_27 rfl (lv_at hl 2 rfl) ?_
  refine n_get (ci := 6) (v := .ref (qr 1)) (C := RX6) (T := TX6) (N := 18) hx hb hts hinX6 hown hK hP 0 rfl rfl 0 rfl ⟨rfl, rfl, rfl⟩ f7 rfl dX6_ups_28 ?_
  refine lv_iload_n hx hb dX6_ups_31 rfl (lv_at hl 3 rfl) ?_
  refine lv_iconst (v := (nI 1)) hx hb dX6_ups_32 (by decide) ?_
  refine n_isub (v := (nI (p - 1))) hx hb (pk_sub (by omega)) dX6_ups_33 ?_
  refine lv_iload_n hx hb dX6_ups_34 rfl (lv_at hl 1 rfl) ?_
  refine n_cS (As := [.int (nI (p - 1)), .int (nI 0)]) (rest := [.ref (qr 1), .int (nI (13 + 3 * p + 0)), .ref (qr 1)]) (wc := []) hS0 (c_X6_r lQ D kA (p - 1) 0 ) (va_cwS 2 hts gX6_ups_X6_r rfl rfl rfl (by decide +kernel) ⟨Nat.le_of_ble_eq_true rfl, Nat.le_of_ble_eq_true rfl⟩) (hP.mem (ws' := []) (fun qQ h => absurd h List.not_mem_nil)) hK rfl rfl hl.1 (Nat.le_of_ble_eq_true rfl) dX6_ups_35 ⟨Nat.le_refl _, Nat.le_refl _⟩ (fun r35 h35 => ?_)
  subst h35
  refine n_iald (i := 13 + 3 * (p - 1) + 0) (v := (nI (nm (p - 1)))) hx hb hK hP 1 0 rfl rfl (by omega) (Nat.le_of_ble_eq_true rfl) (congrArg nI (tab_nm )) dX6_ups_38 ?_
  refine n_iast (i := 13 + 3 * p + 0) (x := (nI (nm (p - 1)))) (g := aN (tabF cc ac co ad rc (va_up nm p (nm (p - 1))) st an)) (ws' := (wR kA qr cc ac co ad rc (va_up nm p (nm (p - 1))) st an svm cnt tx len th xf xt xs xa xw xc xk xp pt wr xm mny)) hx hb hK hP hD hS 1 0 rfl rfl (by omega) (Nat.le_of_ble_eq_true rfl) (tabU_nm ) rfl dX6_ups_39 (fun H locs hP hD hS => ?_)
  refine lv_aload_n hx hb dX6_ups_40 rfl (lv_at hl 2 rfl) ?_
  refine n_get (ci := 6) (v := .ref (qr 1)) (C := RX6) (T := TX6) (N := 18) hx hb hts hinX6 hown hK hP 0 rfl rfl 0 rfl ⟨rfl, rfl, rfl⟩ f7 rfl dX6_ups_41 ?_
  refine lv_iload_n hx hb dX6_ups_44 rfl (lv_at hl 3 rfl) ?_
  refine lv_iconst (v := (nI 1)) hx hb dX6_ups_45 (by decide) ?_
  refine n_isub (v := (nI (p - 1))) hx hb (pk_sub (by omega)) dX6_ups_46 ?_
  refine lv_iload_n hx hb dX6_ups_47 rfl (lv_at hl 1 rfl) ?_
  refine n_cS (As := [.int (nI (p - 1)), .int (nI 0)]) (rest := [.ref (qr 1)]) (wc := []) hS0 (c_X6_r lQ D kA (p - 1) 0 ) (va_cwS 2 hts gX6_ups_X6_r rfl rfl rfl (by decide +kernel) ⟨Nat.le_of_ble_eq_true rfl, Nat.le_of_ble_eq_true rfl⟩) (hP.mem (ws' := []) (fun qQ h => absurd h List.not_mem_nil)) hK rfl rfl hl.1 (Nat.le_of_ble_eq_true rfl) dX6_ups_48 ⟨Nat.le_refl _, Nat.le_refl _⟩ (fun r48 h48 => ?_)
  subst h48
  refine lv_iload_n hx hb dX6_ups_51 rfl (lv_at hl 0 rfl) ?_
  refine n_iast (i := 13 + 3 * (p - 1) + 0) (x := (nI (nm p))) (g := aN (tabF cc ac co ad rc (va_up (va_up nm p (nm (p - 1))) (p - 1) (nm p)) st an)) (ws' := (wR kA qr cc ac co ad rc (va_up (va_up nm p (nm (p - 1))) (p - 1) (nm p)) st an svm cnt tx len th xf xt xs xa xw xc xk xp pt wr xm mny)) hx hb hK hP hD hS 1 0 rfl rfl (by omega) (Nat.le_of_ble_eq_true rfl) (tabU_nm ) rfl dX6_ups_52 (fun H locs hP hD hS => ?_)
  refine lv_iinc (v := (nI 1)) (lv' := [(2, .int (nI 1)), (3, .int (nI (nm p))), (0, .ref (qr 0)), (1, .int (nI p))]) hx hb dX6_ups_53 hl (k := 1) rfl (nI_inc _) (by decide) rfl (fun ls hl => ?_)
  refine lv_goto (tgt := 2) hx hb dX6_ups_56 (by decide) ?_
  refine lv_iload_n hx hb dX6_ups_2 rfl (lv_at hl 0 rfl) ?_
  refine lv_iconst (v := (nI 3)) hx hb dX6_ups_3 (by decide) ?_
  refine lv_icmp_ge (tgt := 59) hx hb dX6_ups_4 (by decide) (fun h => absurd h (by decide)) (fun _ => ?_)
  refine lv_aload_n hx hb dX6_ups_7 rfl (lv_at hl 2 rfl) ?_
  refine n_get (ci := 6) (v := .ref (qr 1)) (C := RX6) (T := TX6) (N := 18) hx hb hts hinX6 hown hK hP 0 rfl rfl 0 rfl ⟨rfl, rfl, rfl⟩ f7 rfl dX6_ups_8 ?_
  refine lv_iload_n hx hb dX6_ups_11 rfl (lv_at hl 3 rfl) ?_
  refine lv_iload_n hx hb dX6_ups_12 rfl (lv_at hl 0 rfl) ?_
  refine n_cS (As := [.int (nI p), .int (nI 1)]) (rest := [.ref (qr 1)]) (wc := []) hS0 (c_X6_r lQ D kA p 1 ) (va_cwS 2 hts gX6_ups_X6_r rfl rfl rfl (by decide +kernel) ⟨Nat.le_of_ble_eq_true rfl, Nat.le_of_ble_eq_true rfl⟩) (hP.mem (ws' := []) (fun qQ h => absurd h List.not_mem_nil)) hK rfl rfl hl.1 (Nat.le_of_ble_eq_true rfl) dX6_ups_13 ⟨Nat.le_refl _, Nat.le_refl _⟩ (fun r13 h13 => ?_)
  subst h13
  refine n_iald (i := 13 + 3 * p + 1) (v := (nI (an p))) hx hb hK hP 1 0 rfl rfl (by omega) (Nat.le_of_ble_eq_true rfl) (congrArg nI (tab_an )) dX6_ups_16 ?_
  refine lv_istore_n (lv' := [(3, .int (nI (an p))), (2, .int (nI 1)), (0, .ref (qr 0)), (1, .int (nI p))]) hx hb dX6_ups_17 rfl hl (by decide) rfl (fun ls hl => ?_)
  refine lv_aload_n hx hb dX6_ups_18 rfl (lv_at hl 2 rfl) ?_
  refine n_get (ci := 6) (v := .ref (qr 1)) (C := RX6) (T := TX6) (N := 18) hx hb hts hinX6 hown hK hP 0 rfl rfl 0 rfl ⟨rfl, rfl, rfl⟩ f7 rfl dX6_ups_19 ?_
  refine lv_iload_n hx hb dX6_ups_22 rfl (lv_at hl 3 rfl) ?_
  refine lv_iload_n hx hb dX6_ups_23 rfl (lv_at hl 1 rfl) ?_
  refine n_cS (As := [.int (nI p), .int (nI 1)]) (rest := [.ref (qr 1)]) (wc := []) hS0 (c_X6_r lQ D kA p 1 ) (va_cwS 2 hts gX6_ups_X6_r rfl rfl rfl (by decide +kernel) ⟨Nat.le_of_ble_eq_true rfl, Nat.le_of_ble_eq_true rfl⟩) (hP.mem (ws' := []) (fun qQ h => absurd h List.not_mem_nil)) hK rfl rfl hl.1 (Nat.le_of_ble_eq_true rfl) dX6_ups_24 ⟨Nat.le_refl _, Nat.le_refl _⟩ (fun r24 h24 => ?_)
  subst h24
  refine lv_aload_n hx hb dX6_ups_27 rfl (lv_at hl 2 rfl) ?_
  refine n_get (ci := 6) (v := .ref (qr 1)) (C := RX6) (T := TX6) (N := 18) hx hb hts hinX6 hown hK hP 0 rfl rfl 0 rfl ⟨rfl, rfl, rfl⟩ f7 rfl dX6_ups_28 ?_
  refine lv_iload_n hx hb dX6_ups_31 rfl (lv_at hl 3 rfl) ?_
  refine lv_iconst (v := (nI 1)) hx hb dX6_ups_32 (by decide) ?_
  refine n_isub (v := (nI (p - 1))) hx hb (pk_sub (by omega)) dX6_ups_33 ?_
  refine lv_iload_n hx hb dX6_ups_34 rfl (lv_at hl 1 rfl) ?_
  refine n_cS (As := [.int (nI (p - 1)), .int (nI 1)]) (rest := [.ref (qr 1), .int (nI (13 + 3 * p + 1)), .ref (qr 1)]) (wc := []) hS0 (c_X6_r lQ D kA (p - 1) 1 ) (va_cwS 2 hts gX6_ups_X6_r rfl rfl rfl (by decide +kernel) ⟨Nat.le_of_ble_eq_true rfl, Nat.le_of_ble_eq_true rfl⟩) (hP.mem (ws' := []) (fun qQ h => absurd h List.not_mem_nil)) hK rfl rfl hl.1 (Nat.le_of_ble_eq_true rfl) dX6_ups_35 ⟨Nat.le_refl _, Nat.le_refl _⟩ (fun r35 h35 => ?_)
  subst h35
  refine n_iald (i := 13 + 3 * (p - 1) + 1) (v := (nI (an (p - 1)))) hx hb hK hP 1 0 rfl rfl (by omega) (Nat.le_of_ble_eq_true rfl) (congrArg nI (tab_an )) dX6_ups_38 ?_
  refine n_iast (i := 13 + 3 * p + 1) (x := (nI (an (p - 1)))) (g := aN (tabF cc ac co ad rc (va_up (va_up nm p (nm (p - 1))) (p - 1) (nm p)) st (va_up an p (an (p - 1))))) (ws' := (wR kA qr cc ac co ad rc (va_up (va_up nm p (nm (p - 1))) (p - 1) (nm p)) st (va_up an p (an (p - 1))) svm cnt tx len th xf xt xs xa xw xc xk xp pt wr xm mny)) hx hb hK hP hD hS 1 0 rfl rfl (by omega) (Nat.le_of_ble_eq_true rfl) (tabU_an ) rfl dX6_ups_39 (fun H locs hP hD hS => ?_)
  refine lv_aload_n hx hb dX6_ups_40 rfl (lv_at hl 2 rfl) ?_
  refine n_get (ci := 6) (v := .ref (qr 1)) (C := RX6) (T := TX6) (N := 18) hx hb hts hinX6 hown hK hP 0 rfl rfl 0 rfl ⟨rfl, rfl, rfl⟩ f7 rfl dX6_ups_41 ?_
  refine lv_iload_n hx hb dX6_ups_44 rfl (lv_at hl 3 rfl) ?_
  refine lv_iconst (v := (nI 1)) hx hb dX6_ups_45 (by decide) ?_
  refine n_isub (v := (nI (p - 1))) hx hb (pk_sub (by omega)) dX6_ups_46 ?_
  refine lv_iload_n hx hb dX6_ups_47 rfl (lv_at hl 1 rfl) ?_
  refine n_cS (As := [.int (nI (p - 1)), .int (nI 1)]) (rest := [.ref (qr 1)]) (wc := []) hS0 (c_X6_r lQ D kA (p - 1) 1 ) (va_cwS 2 hts gX6_ups_X6_r rfl rfl rfl (by decide +kernel) ⟨Nat.le_of_ble_eq_true rfl, Nat.le_of_ble_eq_true rfl⟩) (hP.mem (ws' := []) (fun qQ h => absurd h List.not_mem_nil)) hK rfl rfl hl.1 (Nat.le_of_ble_eq_true rfl) dX6_ups_48 ⟨Nat.le_refl _, Nat.le_refl _⟩ (fun r48 h48 => ?_)
  subst h48
  refine lv_iload_n hx hb dX6_ups_51 rfl (lv_at hl 0 rfl) ?_
  refine n_iast (i := 13 + 3 * (p - 1) + 1) (x := (nI (an p))) (g := aN (tabF cc ac co ad rc (va_up (va_up nm p (nm (p - 1))) (p - 1) (nm p)) st (va_up (va_up an p (an (p - 1))) (p - 1) (an p)))) (ws' := (wR kA qr cc ac co ad rc (va_up (va_up nm p (nm (p - 1))) (p - 1) (nm p)) st (va_up (va_up an p (an (p - 1))) (p - 1) (an p)) svm cnt tx len th xf xt xs xa xw xc xk xp pt wr xm mny)) hx hb hK hP hD hS 1 0 rfl rfl (by omega) (Nat.le_of_ble_eq_true rfl) (tabU_an ) rfl dX6_ups_52 (fun H locs hP hD hS => ?_)
  refine lv_iinc (v := (nI 2)) (lv' := [(2, .int (nI 2)), (3, .int (nI (an p))), (0, .ref (qr 0)), (1, .int (nI p))]) hx hb dX6_ups_53 hl (k := 1) rfl (nI_inc _) (by decide) rfl (fun ls hl => ?_)
  refine lv_goto (tgt := 2) hx hb dX6_ups_56 (by decide) ?_
  refine lv_iload_n hx hb dX6_ups_2 rfl (lv_at hl 0 rfl) ?_
  refine lv_iconst (v := (nI 3)) hx hb dX6_ups_3 (by decide) ?_
  refine lv_icmp_ge (tgt := 59) hx hb dX6_ups_4 (by decide) (fun h => absurd h (by decide)) (fun _ => ?_)
  refine lv_aload_n hx hb dX6_ups_7 rfl (lv_at hl 2 rfl) ?_
  refine n_get (ci := 6) (v := .ref (qr 1)) (C := RX6) (T := TX6) (N := 18) hx hb hts hinX6 hown hK hP 0 rfl rfl 0 rfl ⟨rfl, rfl, rfl⟩ f7 rfl dX6_ups_8 ?_
  refine lv_iload_n hx hb dX6_ups_11 rfl (lv_at hl 3 rfl) ?_
  refine lv_iload_n hx hb dX6_ups_12 rfl (lv_at hl 0 rfl) ?_
  refine n_cS (As := [.int (nI p), .int (nI 2)]) (rest := [.ref (qr 1)]) (wc := []) hS0 (c_X6_r lQ D kA p 2 ) (va_cwS 2 hts gX6_ups_X6_r rfl rfl rfl (by decide +kernel) ⟨Nat.le_of_ble_eq_true rfl, Nat.le_of_ble_eq_true rfl⟩) (hP.mem (ws' := []) (fun qQ h => absurd h List.not_mem_nil)) hK rfl rfl hl.1 (Nat.le_of_ble_eq_true rfl) dX6_ups_13 ⟨Nat.le_refl _, Nat.le_refl _⟩ (fun r13 h13 => ?_)
  subst h13
  refine n_iald (i := 13 + 3 * p + 2) (v := (nI (st p))) hx hb hK hP 1 0 rfl rfl (by omega) (Nat.le_of_ble_eq_true rfl) (congrArg nI (tab_st )) dX6_ups_16 ?_
  refine lv_istore_n (lv' := [(3, .int (nI (st p))), (2, .int (nI 2)), (0, .ref (qr 0)), (1, .int (nI p))]) hx hb dX6_ups_17 rfl hl (by decide) rfl (fun ls hl => ?_)
  refine lv_aload_n hx hb dX6_ups_18 rfl (lv_at hl 2 rfl) ?_
  refine n_get (ci := 6) (v := .ref (qr 1)) (C := RX6) (T := TX6) (N := 18) hx hb hts hinX6 hown hK hP 0 rfl rfl 0 rfl ⟨rfl, rfl, rfl⟩ f7 rfl dX6_ups_19 ?_
  refine lv_iload_n hx hb dX6_ups_22 rfl (lv_at hl 3 rfl) ?_
  refine lv_iload_n hx hb dX6_ups_23 rfl (lv_at hl 1 rfl) ?_
  refine n_cS (As := [.int (nI p), .int (nI 2)]) (rest := [.ref (qr 1)]) (wc := []) hS0 (c_X6_r lQ D kA p 2 ) (va_cwS 2 hts gX6_ups_X6_r rfl rfl rfl (by decide +kernel) ⟨Nat.le_of_ble_eq_true rfl, Nat.le_of_ble_eq_true rfl⟩) (hP.mem (ws' := []) (fun qQ h => absurd h List.not_mem_nil)) hK rfl rfl hl.1 (Nat.le_of_ble_eq_true rfl) dX6_ups_24 ⟨Nat.le_refl _, Nat.le_refl _⟩ (fun r24 h24 => ?_)
  subst h24
  refine lv_aload_n hx hb dX6_ups_27 rfl (lv_at hl 2 rfl) ?_
  refine n_get (ci := 6) (v := .ref (qr 1)) (C := RX6) (T := TX6) (N := 18) hx hb hts hinX6 hown hK hP 0 rfl rfl 0 rfl ⟨rfl, rfl, rfl⟩ f7 rfl dX6_ups_28 ?_
  refine lv_iload_n hx hb dX6_ups_31 rfl (lv_at hl 3 rfl) ?_
  refine lv_iconst (v := (nI 1)) hx hb dX6_ups_32 (by decide) ?_
  refine n_isub (v := (nI (p - 1))) hx hb (pk_sub (by omega)) dX6_ups_33 ?_
  refine lv_iload_n hx hb dX6_ups_34 rfl (lv_at hl 1 rfl) ?_
  refine n_cS (As := [.int (nI (p - 1)), .int (nI 2)]) (rest := [.ref (qr 1), .int (nI (13 + 3 * p + 2)), .ref (qr 1)]) (wc := []) hS0 (c_X6_r lQ D kA (p - 1) 2 ) (va_cwS 2 hts gX6_ups_X6_r rfl rfl rfl (by decide +kernel) ⟨Nat.le_of_ble_eq_true rfl, Nat.le_of_ble_eq_true rfl⟩) (hP.mem (ws' := []) (fun qQ h => absurd h List.not_mem_nil)) hK rfl rfl hl.1 (Nat.le_of_ble_eq_true rfl) dX6_ups_35 ⟨Nat.le_refl _, Nat.le_refl _⟩ (fun r35 h35 => ?_)
  subst h35
  refine n_iald (i := 13 + 3 * (p - 1) + 2) (v := (nI (st (p - 1)))) hx hb hK hP 1 0 rfl rfl (by omega) (Nat.le_of_ble_eq_true rfl) (congrArg nI (tab_st )) dX6_ups_38 ?_
  refine n_iast (i := 13 + 3 * p + 2) (x := (nI (st (p - 1)))) (g := aN (tabF cc ac co ad rc (va_up (va_up nm p (nm (p - 1))) (p - 1) (nm p)) (va_up st p (st (p - 1))) (va_up (va_up an p (an (p - 1))) (p - 1) (an p)))) (ws' := (wR kA qr cc ac co ad rc (va_up (va_up nm p (nm (p - 1))) (p - 1) (nm p)) (va_up st p (st (p - 1))) (va_up (va_up an p (an (p - 1))) (p - 1) (an p)) svm cnt tx len th xf xt xs xa xw xc xk xp pt wr xm mny)) hx hb hK hP hD hS 1 0 rfl rfl (by omega) (Nat.le_of_ble_eq_true rfl) (tabU_st ) rfl dX6_ups_39 (fun H locs hP hD hS => ?_)
  refine lv_aload_n hx hb dX6_ups_40 rfl (lv_at hl 2 rfl) ?_
  refine n_get (ci := 6) (v := .ref (qr 1)) (C := RX6) (T := TX6) (N := 18) hx hb hts hinX6 hown hK hP 0 rfl rfl 0 rfl ⟨rfl, rfl, rfl⟩ f7 rfl dX6_ups_41 ?_
  refine lv_iload_n hx hb dX6_ups_44 rfl (lv_at hl 3 rfl) ?_
  refine lv_iconst (v := (nI 1)) hx hb dX6_ups_45 (by decide) ?_
  refine n_isub (v := (nI (p - 1))) hx hb (pk_sub (by omega)) dX6_ups_46 ?_
  refine lv_iload_n hx hb dX6_ups_47 rfl (lv_at hl 1 rfl) ?_
  refine n_cS (As := [.int (nI (p - 1)), .int (nI 2)]) (rest := [.ref (qr 1)]) (wc := []) hS0 (c_X6_r lQ D kA (p - 1) 2 ) (va_cwS 2 hts gX6_ups_X6_r rfl rfl rfl (by decide +kernel) ⟨Nat.le_of_ble_eq_true rfl, Nat.le_of_ble_eq_true rfl⟩) (hP.mem (ws' := []) (fun qQ h => absurd h List.not_mem_nil)) hK rfl rfl hl.1 (Nat.le_of_ble_eq_true rfl) dX6_ups_48 ⟨Nat.le_refl _, Nat.le_refl _⟩ (fun r48 h48 => ?_)
  subst h48
  refine lv_iload_n hx hb dX6_ups_51 rfl (lv_at hl 0 rfl) ?_
  refine n_iast (i := 13 + 3 * (p - 1) + 2) (x := (nI (st p))) (g := aN (tabF cc ac co ad rc (va_up (va_up nm p (nm (p - 1))) (p - 1) (nm p)) (va_up (va_up st p (st (p - 1))) (p - 1) (st p)) (va_up (va_up an p (an (p - 1))) (p - 1) (an p)))) (ws' := (wR kA qr cc ac co ad rc (va_up (va_up nm p (nm (p - 1))) (p - 1) (nm p)) (va_up (va_up st p (st (p - 1))) (p - 1) (st p)) (va_up (va_up an p (an (p - 1))) (p - 1) (an p)) svm cnt tx len th xf xt xs xa xw xc xk xp pt wr xm mny)) hx hb hK hP hD hS 1 0 rfl rfl (by omega) (Nat.le_of_ble_eq_true rfl) (tabU_st ) rfl dX6_ups_52 (fun H locs hP hD hS => ?_)
  refine lv_iinc (v := (nI 3)) (lv' := [(2, .int (nI 3)), (3, .int (nI (st p))), (0, .ref (qr 0)), (1, .int (nI p))]) hx hb dX6_ups_53 hl (k := 1) rfl (nI_inc _) (by decide) rfl (fun ls hl => ?_)
  refine lv_goto (tgt := 2) hx hb dX6_ups_56 (by decide) ?_
  refine lv_iload_n hx hb dX6_ups_2 rfl (lv_at hl 0 rfl) ?_
  refine lv_iconst (v := (nI 3)) hx hb dX6_ups_3 (by decide) ?_
  refine lv_icmp_ge (tgt := 59) hx hb dX6_ups_4 (by decide) (fun _ => ?_) (fun h => absurd (by decide) h)
  have hP : va_P D vwCl (wR kA qr cc ac co ad rc (liftF nm p) (liftF st p) (liftF an p) svm cnt tx len th xf xt xs xa xw xc xk xp pt wr xm mny) H := hP
  have hD : va_D A (wR kA qr cc ac co ad rc (liftF nm p) (liftF st p) (liftF an p) svm cnt tx len th xf xt xs xa xw xc xk xp pt wr xm mny) := hD
  exact n_wretv hx hb hr hlocks (post := fun (u : Unit) => True) (w1 := fun u => (wR kA qr cc ac co ad rc (liftF nm p) (liftF st p) (liftF an p) svm cnt tx len th xf xt xs xa xw xc xk xp pt wr xm mny)) () trivial hP hD hK hS hAe dX6_ups_59

set_option maxHeartbeats 4000000 in
set_option maxRecDepth 100000 in
theorem c_X6_reasonOf (lQ : Launch) (D : va_G) (kA : Nat → ClassId) (qr : Nat → Nat) (cc : Nat) (ac : Nat → Nat) (co : Nat → Nat) (ad : Nat) (rc : Nat) (nm : Nat → Nat) (st : Nat → Nat) (an : Nat → Nat) (svm : Nat → TCt) (cnt : Nat) (tx : Nat → Nat) (len : Nat) (th : Nat) (xf : Nat → Option Nat) (xt : Nat → Nat) (xs : Nat → Option Nat) (xa : Nat → Nat) (xw : Nat → Nat) (xc : Nat → Nat) (xk : Nat → Option Nat) (xp : Nat → Nat) (pt : Nat) (wr : Option Nat) (xm : Nat → Nat) (mny : Nat) (p : Nat) (hcc : cc ≤ 5) (hrc : rc ≤ 20) (han : ∀ j, j < rc → an j < 11) (hst : ∀ j, j < rc → st j < 1048576) (hp : p < rc) : Met lQ yX6_reasonOf wsX6_reasonOf (rmN 2 43) (rd_Pc D vwCl [.ref (qr 0), .int (nI p)] (wR kA qr cc ac co ad rc nm st an svm cnt tx len th xf xt xs xa xw xc xk xp pt wr xm mny) (tyK kA)) (vp_Si (fun r : Int32 => r = (nI (whyN cc rc st an p)))) 0 0 (fun _ => False) := by
  refine Met.ofW (cc := cX6_reasonOf) (maxL := 4) (ret := (some .int)) (by decide) rfl ?_
  intro pQ eQ s mQ args below meth cQ s₁ B hml hv
  obtain ⟨rfl, hP, hK⟩ := hv
  have hx := B.exec
  have hb := B.bytes
  have hr := B.returns
  have hts := atoms_spec (ws := wsX6_reasonOf) B.pre
  have hown : s.vm.findClass RX6 = some mQ.cls := findClass_of_methodNamed B.named
  have hlocks : meth.locks = false := B.notSynchronized
  have hS0 : CallFix pQ mQ cQ cX6_reasonOf 4 s ([.ref (qr 0), .int (nI p)] : List Value).toArray wsX6_reasonOf RX6 := ⟨hx, hb, hml, hown, hts⟩
  have f7 : (Cond.fieldLink RX6 7 "AskedRulesModel" "now" "[I").before ([.ref (qr 0), .int (nI p)] : List Value).toArray s = true := hts _ (by decide +kernel)
  have hinX6 : ∀ w ∈ wsX60, w ∈ wsX6_reasonOf := by decide +kernel
  have hl := lv_entry ([.ref (qr 0), .int (nI p)]) (n := 4) (Nat.le_of_ble_eq_true rfl)
  rw [lg_entry_eq]
  generalize (lg_sl ([.ref (qr 0), .int (nI p)]) ++ List.replicate (4 - (lg_sl ([.ref (qr 0), .int (nI p)])).length) Slot.unset).toArray = ls at hl ⊢
  have hl : lv_has ls 4 [(0, .ref (qr 0)), (1, .int (nI p))] := hl
  have hP : va_P D vwCl (wR kA qr cc ac co ad rc nm st an svm cnt tx len th xf xt xs xa xw xc xk xp pt wr xm mny) s.heap := hP
  refine lv_iload_n hx hb dX6_reasonOf_0 rfl (lv_at hl 1 rfl) ?_
  refine lv_iconst (v := (nI 1)) hx hb dX6_reasonOf_1 (by decide) ?_
  refine n_iadd (v := (nI (p + 1))) hx hb (nI_add _ _) dX6_reasonOf_2 ?_
  refine lv_aload_n hx hb dX6_reasonOf_3 rfl (lv_at hl 0 rfl) ?_
  refine n_get (ci := 6) (v := .ref (qr 1)) (C := RX6) (T := TX6) (N := 18) hx hb hts hinX6 hown hK hP 0 rfl rfl 0 rfl ⟨rfl, rfl, rfl⟩ f7 rfl dX6_reasonOf_4 ?_
  refine lv_iconst (v := (nI 1)) hx hb dX6_reasonOf_7 (by decide) ?_
  refine n_iald (i := 1) (v := (nI rc)) hx hb hK hP 1 0 rfl rfl (by omega) (Nat.le_of_ble_eq_true rfl) rfl dX6_reasonOf_8 ?_
  refine n_icmp_ne (a := p + 1) (b := rc) (tgt := 14) hx hb (by omega) (by omega) dX6_reasonOf_9 (by decide) (fun c9 => ?_) (fun c9 => ?_)
  · refine lv_aload_n hx hb dX6_reasonOf_14 rfl (lv_at hl 0 rfl) ?_
    refine n_get (ci := 6) (v := .ref (qr 1)) (C := RX6) (T := TX6) (N := 18) hx hb hts hinX6 hown hK hP 0 rfl rfl 0 rfl ⟨rfl, rfl, rfl⟩ f7 rfl dX6_reasonOf_15 ?_
    refine lv_iload_n hx hb dX6_reasonOf_18 rfl (lv_at hl 1 rfl) ?_
    refine lv_iconst (v := (nI 1)) hx hb dX6_reasonOf_19 (by decide) ?_
    refine n_cS (As := [.int (nI p), .int (nI 1)]) (rest := [.ref (qr 1)]) (wc := []) hS0 (c_X6_r lQ D kA p 1 ) (va_cwS 2 hts gX6_reasonOf_X6_r rfl rfl rfl (by decide +kernel) ⟨Nat.le_of_ble_eq_true rfl, Nat.le_of_ble_eq_true rfl⟩) (hP.mem (ws' := []) (fun qQ h => absurd h List.not_mem_nil)) hK rfl rfl hl.1 (Nat.le_of_ble_eq_true rfl) dX6_reasonOf_20 ⟨Nat.le_refl _, Nat.le_refl _⟩ (fun r20 h20 => ?_)
    subst h20
    refine n_iald (i := 13 + 3 * p + 1) (v := (nI (an p))) hx hb hK hP 1 0 rfl rfl (by omega) (Nat.le_of_ble_eq_true rfl) (congrArg nI (tab_an )) dX6_reasonOf_23 ?_
    refine lv_aload_n hx hb dX6_reasonOf_24 rfl (lv_at hl 0 rfl) ?_
    refine n_get (ci := 6) (v := .ref (qr 1)) (C := RX6) (T := TX6) (N := 18) hx hb hts hinX6 hown hK hP 0 rfl rfl 0 rfl ⟨rfl, rfl, rfl⟩ f7 rfl dX6_reasonOf_25 ?_
    refine lv_iload_n hx hb dX6_reasonOf_28 rfl (lv_at hl 1 rfl) ?_
    refine lv_iconst (v := (nI 1)) hx hb dX6_reasonOf_29 (by decide) ?_
    refine n_iadd (v := (nI (p + 1))) hx hb (nI_add _ _) dX6_reasonOf_30 ?_
    refine lv_iconst (v := (nI 1)) hx hb dX6_reasonOf_31 (by decide) ?_
    refine n_cS (As := [.int (nI (p + 1)), .int (nI 1)]) (rest := [.ref (qr 1), .int (nI (an p))]) (wc := []) hS0 (c_X6_r lQ D kA (p + 1) 1 ) (va_cwS 2 hts gX6_reasonOf_X6_r rfl rfl rfl (by decide +kernel) ⟨Nat.le_of_ble_eq_true rfl, Nat.le_of_ble_eq_true rfl⟩) (hP.mem (ws' := []) (fun qQ h => absurd h List.not_mem_nil)) hK rfl rfl hl.1 (Nat.le_of_ble_eq_true rfl) dX6_reasonOf_32 ⟨Nat.le_refl _, Nat.le_refl _⟩ (fun r32 h32 => ?_)
    subst h32
    refine n_iald (i := 13 + 3 * (p + 1) + 1) (v := (nI (an (p + 1)))) hx hb hK hP 1 0 rfl rfl (by omega) (Nat.le_of_ble_eq_true rfl) (congrArg nI (tab_an )) dX6_reasonOf_35 ?_
    refine n_icmp_eq (a := an p) (b := an (p + 1)) (tgt := 41) hx hb (Nat.lt_trans (han _ (by omega)) (by decide)) (Nat.lt_trans (han _ (by omega)) (by decide)) dX6_reasonOf_36 (by decide) (fun c36 => ?_) (fun c36 => ?_)
    · refine lv_iconst (v := (nI 0)) hx hb dX6_reasonOf_41 (by decide) ?_
      refine lv_istore_n (lv' := [(2, .int (nI 0)), (0, .ref (qr 0)), (1, .int (nI p))]) hx hb dX6_reasonOf_42 rfl hl (by decide) rfl (fun ls hl => ?_)
      refine lv_iconst (v := (nI 0)) hx hb dX6_reasonOf_43 (by decide) ?_
      refine lv_istore_n (lv' := [(3, .int (nI 0)), (2, .int (nI 0)), (0, .ref (qr 0)), (1, .int (nI p))]) hx hb dX6_reasonOf_44 rfl hl (by decide) rfl (fun ls hl => ?_)
      have L45 : ∀ (nQ : Nat) (k : Nat) (u : Nat), cc - k < nQ → (k ≤ cc) → (u ≤ k) → (u = cntB (fun k => decide (nibN (st p) k ≠ nibN (st (p + 1)) k)) k) → ∀ (ls : Array Slot), lv_has ls 4 [(3, .int (nI k)), (2, .int (nI u)), (0, .ref (qr 0)), (1, .int (nI p))] → W pQ lQ eQ (headSpec wsX6_reasonOf (rmN 2 43)).room s mQ ([.ref (qr 0), .int (nI p)] : List Value).toArray below meth cQ s.heap [] 0 0 (MQ below (vp_Si (fun r : Int32 => r = (nI (whyN cc rc st an p)))) ([.ref (qr 0), .int (nI p)] : List Value).toArray s 0 0 (fun _ => False)) (F0 mQ 45 ls []) := by
        intro nQ
        induction nQ with
        | zero => intro k u hn; exact absurd hn (Nat.not_lt_zero _)
        | succ nQ ih45 =>
          intro k u hm45 hk hub hu ls hl
          refine lv_iload_n hx hb dX6_reasonOf_45 rfl (lv_at hl 0 rfl) ?_
          refine lv_aload_n hx hb dX6_reasonOf_46 rfl (lv_at hl 2 rfl) ?_
          refine n_get (ci := 6) (v := .ref (qr 1)) (C := RX6) (T := TX6) (N := 18) hx hb hts hinX6 hown hK hP 0 rfl rfl 0 rfl ⟨rfl, rfl, rfl⟩ f7 rfl dX6_reasonOf_47 ?_
          refine lv_iconst (v := (nI 0)) hx hb dX6_reasonOf_50 (by decide) ?_
          refine n_iald (i := 0) (v := (nI cc)) hx hb hK hP 1 0 rfl rfl (by omega) (Nat.le_of_ble_eq_true rfl) rfl dX6_reasonOf_51 ?_
          refine n_icmp_ge (a := k) (b := cc) (tgt := 86) hx hb (by omega) (by omega) dX6_reasonOf_52 (by decide) (fun c52 => ?_) (fun c52 => ?_)
          · refine lv_iload_n hx hb dX6_reasonOf_86 rfl (lv_at hl 1 rfl) ?_
            refine lv_iconst (v := (nI 1)) hx hb dX6_reasonOf_87 (by decide) ?_
            refine n_icmp_le (a := u) (b := 1) (tgt := 95) hx hb (by omega) (by decide) dX6_reasonOf_88 (by decide) (fun c88 => ?_) (fun c88 => ?_)
            · refine lv_iconst (v := (nI 0)) hx hb dX6_reasonOf_95 (by decide) ?_
              have e9 : cc = k := by omega
              subst e9
              exact n_reti hx hb hr hlocks (post := fun r : Int32 => r = (nI (whyN cc rc st an p))) (by unfold whyN; rw [if_pos (by omega), if_pos c36, ← hu]; first | rw [if_pos (by omega)] | rw [if_neg (by omega)]) rfl dX6_reasonOf_96
            · refine lv_iconst (v := (nI 3)) hx hb dX6_reasonOf_91 (by decide) ?_
              refine lv_goto (tgt := 96) hx hb dX6_reasonOf_92 (by decide) ?_
              have e9 : cc = k := by omega
              subst e9
              exact n_reti hx hb hr hlocks (post := fun r : Int32 => r = (nI (whyN cc rc st an p))) (by unfold whyN; rw [if_pos (by omega), if_pos c36, ← hu]; first | rw [if_pos (by omega)] | rw [if_neg (by omega)]) rfl dX6_reasonOf_96
          · refine lv_iload_n hx hb dX6_reasonOf_55 rfl (lv_at hl 1 rfl) ?_
            refine lv_aload_n hx hb dX6_reasonOf_56 rfl (lv_at hl 2 rfl) ?_
            refine lv_iload_n hx hb dX6_reasonOf_57 rfl (lv_at hl 3 rfl) ?_
            refine lv_iload_n hx hb dX6_reasonOf_58 rfl (lv_at hl 0 rfl) ?_
            refine n_cV (b := qr 0) (As := [.int (nI p), .int (nI k)]) (rest := [.int (nI u)]) (wc := (wR kA qr cc ac co ad rc nm st an svm cnt tx len th xf xt xs xa xw xc xk xp pt wr xm mny)) hS0 (c_X6_setOf lQ D kA qr cc ac co ad rc nm st an svm cnt tx len th xf xt xs xa xw xc xk xp pt wr xm mny p k (by first | assumption | omega) (by first | assumption | omega) (hst _ (by omega))) (cwV 2 hts gX6_reasonOf_X6_setOf rfl rfl rfl (by decide +kernel) ⟨Nat.le_of_ble_eq_true rfl, Nat.le_of_ble_eq_true rfl⟩) hP hK (q0 := 0) rfl rfl rfl rfl rfl hl.1 (Nat.le_of_ble_eq_true rfl) dX6_reasonOf_59 ⟨Nat.le_refl _, Nat.le_refl _⟩ (fun r59 h59 => ?_)
            subst h59
            refine lv_aload_n hx hb dX6_reasonOf_62 rfl (lv_at hl 2 rfl) ?_
            refine lv_iload_n hx hb dX6_reasonOf_63 rfl (lv_at hl 3 rfl) ?_
            refine lv_iconst (v := (nI 1)) hx hb dX6_reasonOf_64 (by decide) ?_
            refine n_iadd (v := (nI (p + 1))) hx hb (nI_add _ _) dX6_reasonOf_65 ?_
            refine lv_iload_n hx hb dX6_reasonOf_66 rfl (lv_at hl 0 rfl) ?_
            refine n_cV (b := qr 0) (As := [.int (nI (p + 1)), .int (nI k)]) (rest := [.int (nI (nibN (st p) k)), .int (nI u)]) (wc := (wR kA qr cc ac co ad rc nm st an svm cnt tx len th xf xt xs xa xw xc xk xp pt wr xm mny)) hS0 (c_X6_setOf lQ D kA qr cc ac co ad rc nm st an svm cnt tx len th xf xt xs xa xw xc xk xp pt wr xm mny (p + 1) k (by first | assumption | omega) (by first | assumption | omega) (hst _ (by omega))) (cwV 2 hts gX6_reasonOf_X6_setOf rfl rfl rfl (by decide +kernel) ⟨Nat.le_of_ble_eq_true rfl, Nat.le_of_ble_eq_true rfl⟩) hP hK (q0 := 0) rfl rfl rfl rfl rfl hl.1 (Nat.le_of_ble_eq_true rfl) dX6_reasonOf_67 ⟨Nat.le_refl _, Nat.le_refl _⟩ (fun r67 h67 => ?_)
            subst h67
            refine n_icmp_ne (a := nibN (st p) k) (b := nibN (st (p + 1)) k) (tgt := 77) hx hb (Nat.lt_trans (nibN_lt _ _) (by decide)) (Nat.lt_trans (nibN_lt _ _) (by decide)) dX6_reasonOf_70 (by decide) (fun c70 => ?_) (fun c70 => ?_)
            · refine lv_iconst (v := (nI 1)) hx hb dX6_reasonOf_77 (by decide) ?_
              refine n_iadd (v := (nI (u + 1))) hx hb (nI_add _ _) dX6_reasonOf_78 ?_
              refine lv_istore_n (lv' := [(2, .int (nI (u + 1))), (3, .int (nI k)), (0, .ref (qr 0)), (1, .int (nI p))]) hx hb dX6_reasonOf_79 rfl hl (by decide) rfl (fun ls hl => ?_)
              refine lv_iinc (v := (nI (k + 1))) (lv' := [(3, .int (nI (k + 1))), (2, .int (nI (u + 1))), (0, .ref (qr 0)), (1, .int (nI p))]) hx hb dX6_reasonOf_80 hl (k := 1) rfl (nI_inc _) (by decide) rfl (fun ls hl => ?_)
              refine lv_goto (tgt := 45) hx hb dX6_reasonOf_83 (by decide) ?_
              exact ih45 (k + 1) (u + 1) (by omega) (by first | assumption | omega) (by first | assumption | omega) (by unfold cntB; first | (rw [← hu, decide_eq_true c70]; rfl) | (rw [← hu, decide_eq_false (fun h => h c70)]; rfl)) _ (lv_sub hl [0, 1, 2, 3] rfl)
            · refine lv_iconst (v := (nI 0)) hx hb dX6_reasonOf_73 (by decide) ?_
              refine lv_goto (tgt := 78) hx hb dX6_reasonOf_74 (by decide) ?_
              refine n_iadd (v := (nI u)) hx hb (nI_add _ _) dX6_reasonOf_78 ?_
              refine lv_istore_n (lv' := [(2, .int (nI u)), (3, .int (nI k)), (0, .ref (qr 0)), (1, .int (nI p))]) hx hb dX6_reasonOf_79 rfl hl (by decide) rfl (fun ls hl => ?_)
              refine lv_iinc (v := (nI (k + 1))) (lv' := [(3, .int (nI (k + 1))), (2, .int (nI u)), (0, .ref (qr 0)), (1, .int (nI p))]) hx hb dX6_reasonOf_80 hl (k := 1) rfl (nI_inc _) (by decide) rfl (fun ls hl => ?_)
              refine lv_goto (tgt := 45) hx hb dX6_reasonOf_83 (by decide) ?_
              exact ih45 (k + 1) u (by omega) (by first | assumption | omega) (by first | assumption | omega) (by unfold cntB; first | (rw [← hu, decide_eq_true c70]; rfl) | (rw [← hu, decide_eq_false (fun h => h c70)]; rfl)) _ (lv_sub hl [0, 1, 2, 3] rfl)
      exact L45 ((cc - 0) + 1) 0 0 (Nat.lt_succ_self _) (by first | assumption | omega) (by first | assumption | omega) rfl _ (lv_sub hl [0, 1, 2, 3] rfl)
    · refine lv_iconst (v := (nI 2)) hx hb dX6_reasonOf_39 (by decide) ?_
      exact n_reti hx hb hr hlocks (post := fun r : Int32 => r = (nI (whyN cc rc st an p))) (by unfold whyN; rw [if_pos (by omega), if_neg c36]) rfl dX6_reasonOf_40
  · refine lv_iconst (v := (nI 1)) hx hb dX6_reasonOf_12 (by decide) ?_
    exact n_reti hx hb hr hlocks (post := fun r : Int32 => r = (nI (whyN cc rc st an p))) (by unfold whyN; rw [if_neg (by omega)]) rfl dX6_reasonOf_13

set_option maxHeartbeats 4000000 in
set_option maxRecDepth 100000 in
theorem c_X6_merges (lQ : Launch) (D : va_G) (kA : Nat → ClassId) (qr : Nat → Nat) (cc : Nat) (ac : Nat → Nat) (co : Nat → Nat) (ad : Nat) (rc : Nat) (nm : Nat → Nat) (st : Nat → Nat) (an : Nat → Nat) (svm : Nat → TCt) (cnt : Nat) (tx : Nat → Nat) (len : Nat) (th : Nat) (xf : Nat → Option Nat) (xt : Nat → Nat) (xs : Nat → Option Nat) (xa : Nat → Nat) (xw : Nat → Nat) (xc : Nat → Nat) (xk : Nat → Option Nat) (xp : Nat → Nat) (pt : Nat) (wr : Option Nat) (xm : Nat → Nat) (mny : Nat) (p : Nat) (sz : Nat) (hp : p + 1 < rc) (hrc : rc ≤ 20) : Met lQ yX6_merges wsX6_merges (rmN 2 43) (wr_Pc D vwCl [.ref (qr 0), .int (nI p)] (wR kA qr cc ac co ad rc nm st an svm cnt tx len th xf xt xs xa xw xc xk xp pt wr xm mny) (tyK kA) sz) (va_Qv (S := Unit) (fun (u : Unit) => True) (wr_B D vwCl (wR kA qr cc ac co ad rc nm st an svm cnt tx len th xf xt xs xa xw xc xk xp pt wr xm mny) (tyK kA) sz (fun u => (wR kA qr cc ac co ad (rc - 1) (shifF nm (p + 1) rc) (mrgS st p rc) (shifF an (p + 1) rc) svm cnt tx len th xf xt xs xa xw xc xk xp pt wr xm mny))) (va_A (wR kA qr cc ac co ad rc nm st an svm cnt tx len th xf xt xs xa xw xc xk xp pt wr xm mny) sz)) 0 0 (va_A (wR kA qr cc ac co ad rc nm st an svm cnt tx len th xf xt xs xa xw xc xk xp pt wr xm mny) sz) := by
  refine Met.ofW (cc := cX6_merges) (maxL := 2) (ret := none) (by decide) rfl ?_
  intro pQ eQ s mQ args below meth cQ s₁ B hml hv
  obtain ⟨rfl, hsz, hP, hK, hD0⟩ := hv
  have hx := B.exec
  have hb := B.bytes
  have hr := B.returns
  have hts := atoms_spec (ws := wsX6_merges) B.pre
  have hown : s.vm.findClass RX6 = some mQ.cls := findClass_of_methodNamed B.named
  have hlocks : meth.locks = false := B.notSynchronized
  have hS0 : CallFix pQ mQ cQ cX6_merges 2 s ([.ref (qr 0), .int (nI p)] : List Value).toArray wsX6_merges RX6 := ⟨hx, hb, hml, hown, hts⟩
  subst hsz
  have hD := hD0.self (sz := s.heap.size)
  generalize hAe : va_A (wR kA qr cc ac co ad rc nm st an svm cnt tx len th xf xt xs xa xw xc xk xp pt wr xm mny) s.heap.size = A at hD ⊢
  have hA : ∀ q : Nat, s.heap.size ≤ q → A q := fun q h => by rw [← hAe]; exact Or.inr h
  have hS : va_S A s.heap s.heap [] := va_S.rf
  have f7 : (Cond.fieldLink RX6 7 "AskedRulesModel" "now" "[I").before ([.ref (qr 0), .int (nI p)] : List Value).toArray s = true := hts _ (by decide +kernel)
  have hinX6 : ∀ w ∈ wsX60, w ∈ wsX6_merges := by decide +kernel
  have hl := lv_entry ([.ref (qr 0), .int (nI p)]) (n := 2) (Nat.le_of_ble_eq_true rfl)
  rw [lg_entry_eq]
  generalize (lg_sl ([.ref (qr 0), .int (nI p)]) ++ List.replicate (2 - (lg_sl ([.ref (qr 0), .int (nI p)])).length) Slot.unset).toArray = ls at hl ⊢
  have hl : lv_has ls 2 [(0, .ref (qr 0)), (1, .int (nI p))] := hl
  have hP : va_P D vwCl (wR kA qr cc ac co ad rc nm st an svm cnt tx len th xf xt xs xa xw xc xk xp pt wr xm mny) s.heap := hP
  have hD : va_D A (wR kA qr cc ac co ad rc nm st an svm cnt tx len th xf xt xs xa xw xc xk xp pt wr xm mny) := hD
  refine lv_aload_n hx hb dX6_merges_0 rfl (lv_at hl 0 rfl) ?_
  refine n_get (ci := 6) (v := .ref (qr 1)) (C := RX6) (T := TX6) (N := 18) hx hb hts hinX6 hown hK hP 0 rfl rfl 0 rfl ⟨rfl, rfl, rfl⟩ f7 rfl dX6_merges_1 ?_
  refine lv_iload_n hx hb dX6_merges_4 rfl (lv_at hl 1 rfl) ?_
  refine lv_iconst (v := (nI 2)) hx hb dX6_merges_5 (by decide) ?_
  refine n_cS (As := [.int (nI p), .int (nI 2)]) (rest := [.ref (qr 1)]) (wc := []) hS0 (c_X6_r lQ D kA p 2 ) (va_cwS 2 hts gX6_merges_X6_r rfl rfl rfl (by decide +kernel) ⟨Nat.le_of_ble_eq_true rfl, Nat.le_of_ble_eq_true rfl⟩) (hP.mem (ws' := []) (fun qQ h => absurd h List.not_mem_nil)) hK rfl rfl hl.1 (Nat.le_of_ble_eq_true rfl) dX6_merges_6 ⟨Nat.le_refl _, Nat.le_refl _⟩ (fun r6 h6 => ?_)
  subst h6
  refine lv_dup2_11 hx hb dX6_merges_9 rfl rfl ?_
  refine n_iald (i := 13 + 3 * p + 2) (v := (nI (st p))) hx hb hK hP 1 0 rfl rfl (by omega) (Nat.le_of_ble_eq_true rfl) (congrArg nI (tab_st )) dX6_merges_10 ?_
  refine lv_aload_n hx hb dX6_merges_11 rfl (lv_at hl 0 rfl) ?_
  refine n_get (ci := 6) (v := .ref (qr 1)) (C := RX6) (T := TX6) (N := 18) hx hb hts hinX6 hown hK hP 0 rfl rfl 0 rfl ⟨rfl, rfl, rfl⟩ f7 rfl dX6_merges_12 ?_
  refine lv_iload_n hx hb dX6_merges_15 rfl (lv_at hl 1 rfl) ?_
  refine lv_iconst (v := (nI 1)) hx hb dX6_merges_16 (by decide) ?_
  refine n_iadd (v := (nI (p + 1))) hx hb (nI_add _ _) dX6_merges_17 ?_
  refine lv_iconst (v := (nI 2)) hx hb dX6_merges_18 (by decide) ?_
  refine n_cS (As := [.int (nI (p + 1)), .int (nI 2)]) (rest := [.ref (qr 1), .int (nI (st p)), .int (nI (13 + 3 * p + 2)), .ref (qr 1)]) (wc := []) hS0 (c_X6_r lQ D kA (p + 1) 2 ) (va_cwS 2 hts gX6_merges_X6_r rfl rfl rfl (by decide +kernel) ⟨Nat.le_of_ble_eq_true rfl, Nat.le_of_ble_eq_true rfl⟩) (hP.mem (ws' := []) (fun qQ h => absurd h List.not_mem_nil)) hK rfl rfl hl.1 (Nat.le_of_ble_eq_true rfl) dX6_merges_19 ⟨Nat.le_refl _, Nat.le_refl _⟩ (fun r19 h19 => ?_)
  subst h19
  refine n_iald (i := 13 + 3 * (p + 1) + 2) (v := (nI (st (p + 1)))) hx hb hK hP 1 0 rfl rfl (by omega) (Nat.le_of_ble_eq_true rfl) (congrArg nI (tab_st )) dX6_merges_22 ?_
  refine n_ior (v := (nI ((st p) ||| (st (p + 1))))) hx hb (nN_or _ _) dX6_merges_23 ?_
  refine n_iast (i := 13 + 3 * p + 2) (x := (nI ((st p) ||| (st (p + 1))))) (g := aN (tabF cc ac co ad rc nm (va_up st p ((st p) ||| (st (p + 1)))) an)) (ws' := (wR kA qr cc ac co ad rc nm (va_up st p ((st p) ||| (st (p + 1)))) an svm cnt tx len th xf xt xs xa xw xc xk xp pt wr xm mny)) hx hb hK hP hD hS 1 0 rfl rfl (by omega) (Nat.le_of_ble_eq_true rfl) (tabU_st ) rfl dX6_merges_24 (fun H locs hP hD hS => ?_)
  refine lv_aload_n hx hb dX6_merges_25 rfl (lv_at hl 0 rfl) ?_
  refine lv_iload_n hx hb dX6_merges_26 rfl (lv_at hl 1 rfl) ?_
  refine lv_iconst (v := (nI 1)) hx hb dX6_merges_27 (by decide) ?_
  refine n_iadd (v := (nI (p + 1))) hx hb (nI_add _ _) dX6_merges_28 ?_
  refine n_wVv (b := qr 0) (As := [.int (nI (p + 1))]) (rest := []) (wr := []) (ws' := fun u => (wR kA qr cc ac co ad (rc - 1) (shifF nm (p + 1) rc) (shifF (va_up st p ((st p) ||| (st (p + 1)))) (p + 1) rc) (shifF an (p + 1) rc) svm cnt tx len th xf xt xs xa xw xc xk xp pt wr xm mny)) hS0 (c_X6_drops lQ D kA qr cc ac co ad rc nm (va_up st p ((st p) ||| (st (p + 1)))) an svm cnt tx len th xf xt xs xa xw xc xk xp pt wr xm mny (p + 1) H.size (by first | assumption | omega) (by first | assumption | omega)) (cwV 1 hts gX6_merges_X6_drops rfl rfl rfl (by decide +kernel) ⟨Nat.le_of_ble_eq_true rfl, Nat.le_of_ble_eq_true rfl⟩) hP hD hS hA hK hK (by simpa only [List.append_assoc, List.append_nil] using (List.Perm.of_eq (List.append_nil _).symm)) (fun u => List.Perm.symm (by simpa only [List.append_assoc, List.append_nil] using (List.Perm.of_eq (List.append_nil _).symm))) (q0 := 0) rfl rfl rfl rfl rfl hl.1 (Nat.le_of_ble_eq_true rfl) dX6_merges_29 ⟨Nat.le_refl _, Nat.le_refl _⟩ (fun u29 H locs h29 hP hD hS => ?_)
  have hP : va_P D vwCl (wR kA qr cc ac co ad (rc - 1) (shifF nm (p + 1) rc) (shifF (va_up st p ((st p) ||| (st (p + 1)))) (p + 1) rc) (shifF an (p + 1) rc) svm cnt tx len th xf xt xs xa xw xc xk xp pt wr xm mny) H := hP
  have hD : va_D A (wR kA qr cc ac co ad (rc - 1) (shifF nm (p + 1) rc) (shifF (va_up st p ((st p) ||| (st (p + 1)))) (p + 1) rc) (shifF an (p + 1) rc) svm cnt tx len th xf xt xs xa xw xc xk xp pt wr xm mny) := hD
  have hP : va_P D vwCl (wR kA qr cc ac co ad (rc - 1) (shifF nm (p + 1) rc) (mrgS st p rc) (shifF an (p + 1) rc) svm cnt tx len th xf xt xs xa xw xc xk xp pt wr xm mny) H := hP
  have hD : va_D A (wR kA qr cc ac co ad (rc - 1) (shifF nm (p + 1) rc) (mrgS st p rc) (shifF an (p + 1) rc) svm cnt tx len th xf xt xs xa xw xc xk xp pt wr xm mny) := hD
  exact n_wretv hx hb hr hlocks (post := fun (u : Unit) => True) (w1 := fun u => (wR kA qr cc ac co ad (rc - 1) (shifF nm (p + 1) rc) (mrgS st p rc) (shifF an (p + 1) rc) svm cnt tx len th xf xt xs xa xw xc xk xp pt wr xm mny)) () trivial hP hD hK hS hAe dX6_merges_32

set_option maxHeartbeats 4000000 in
set_option maxRecDepth 100000 in
theorem c_X6_mergesAll (lQ : Launch) (D : va_G) (kA : Nat → ClassId) (qr : Nat → Nat) (cc : Nat) (ac : Nat → Nat) (co : Nat → Nat) (ad : Nat) (rc : Nat) (nm : Nat → Nat) (st : Nat → Nat) (an : Nat → Nat) (svm : Nat → TCt) (cnt : Nat) (tx : Nat → Nat) (len : Nat) (th : Nat) (xf : Nat → Option Nat) (xt : Nat → Nat) (xs : Nat → Option Nat) (xa : Nat → Nat) (xw : Nat → Nat) (xc : Nat → Nat) (xk : Nat → Option Nat) (xp : Nat → Nat) (pt : Nat) (wr : Option Nat) (xm : Nat → Nat) (mny : Nat) (sz : Nat) (hcc : cc ≤ 5) (hrc : rc ≤ 20) (han : ∀ j, j < rc → an j < 11) (hst : ∀ j, j < rc → st j < 1048576) : Met lQ yX6_mergesAll wsX6_mergesAll (rmN 3 66) (wr_Pc D vwCl [.ref (qr 0)] (wR kA qr cc ac co ad rc nm st an svm cnt tx len th xf xt xs xa xw xc xk xp pt wr xm mny) (tyK kA) sz) (va_Qi (S := Unit) (fun (r : Int32) (u : Unit) => r = (nI ((mgAll cc 20 rc nm st an).1))) (wr_B D vwCl (wR kA qr cc ac co ad rc nm st an svm cnt tx len th xf xt xs xa xw xc xk xp pt wr xm mny) (tyK kA) sz (fun u => (wR kA qr cc ac co ad ((mgAll cc 20 rc nm st an).2.1) ((mgAll cc 20 rc nm st an).2.2.1) ((mgAll cc 20 rc nm st an).2.2.2.1) ((mgAll cc 20 rc nm st an).2.2.2.2) svm cnt tx len th xf xt xs xa xw xc xk xp pt wr xm mny))) (va_A (wR kA qr cc ac co ad rc nm st an svm cnt tx len th xf xt xs xa xw xc xk xp pt wr xm mny) sz)) 0 0 (va_A (wR kA qr cc ac co ad rc nm st an svm cnt tx len th xf xt xs xa xw xc xk xp pt wr xm mny) sz) := by
  refine Met.ofW (cc := cX6_mergesAll) (maxL := 3) (ret := (some .int)) (by decide) rfl ?_
  intro pQ eQ s mQ args below meth cQ s₁ B hml hv
  obtain ⟨rfl, hsz, hP, hK, hD0⟩ := hv
  have hx := B.exec
  have hb := B.bytes
  have hr := B.returns
  have hts := atoms_spec (ws := wsX6_mergesAll) B.pre
  have hown : s.vm.findClass RX6 = some mQ.cls := findClass_of_methodNamed B.named
  have hlocks : meth.locks = false := B.notSynchronized
  have hS0 : CallFix pQ mQ cQ cX6_mergesAll 3 s ([.ref (qr 0)] : List Value).toArray wsX6_mergesAll RX6 := ⟨hx, hb, hml, hown, hts⟩
  subst hsz
  have hD := hD0.self (sz := s.heap.size)
  generalize hAe : va_A (wR kA qr cc ac co ad rc nm st an svm cnt tx len th xf xt xs xa xw xc xk xp pt wr xm mny) s.heap.size = A at hD ⊢
  have hA : ∀ q : Nat, s.heap.size ≤ q → A q := fun q h => by rw [← hAe]; exact Or.inr h
  have hS : va_S A s.heap s.heap [] := va_S.rf
  have f7 : (Cond.fieldLink RX6 7 "AskedRulesModel" "now" "[I").before ([.ref (qr 0)] : List Value).toArray s = true := hts _ (by decide +kernel)
  have hinX6 : ∀ w ∈ wsX60, w ∈ wsX6_mergesAll := by decide +kernel
  have hl := lv_entry ([.ref (qr 0)]) (n := 3) (Nat.le_of_ble_eq_true rfl)
  rw [lg_entry_eq]
  generalize (lg_sl ([.ref (qr 0)]) ++ List.replicate (3 - (lg_sl ([.ref (qr 0)])).length) Slot.unset).toArray = ls at hl ⊢
  have hl : lv_has ls 3 [(0, .ref (qr 0))] := hl
  have hP : va_P D vwCl (wR kA qr cc ac co ad rc nm st an svm cnt tx len th xf xt xs xa xw xc xk xp pt wr xm mny) s.heap := hP
  have hD : va_D A (wR kA qr cc ac co ad rc nm st an svm cnt tx len th xf xt xs xa xw xc xk xp pt wr xm mny) := hD
  refine lv_iconst (v := (nI 0)) hx hb dX6_mergesAll_0 (by decide) ?_
  refine lv_istore_n (lv' := [(1, .int (nI 0)), (0, .ref (qr 0))]) hx hb dX6_mergesAll_1 rfl hl (by decide) rfl (fun ls hl => ?_)
  refine lv_iconst (v := (nI 0)) hx hb dX6_mergesAll_2 (by decide) ?_
  refine lv_istore_n (lv' := [(2, .int (nI 0)), (1, .int (nI 0)), (0, .ref (qr 0))]) hx hb dX6_mergesAll_3 rfl hl (by decide) rfl (fun ls hl => ?_)
  have L4 : ∀ (nQ : Nat) (p : Nat) (d : Nat) (rcx : Nat) (nmx : Nat → Nat) (stx : Nat → Nat) (anx : Nat → Nat), rcx * 22 + (21 - p) < nQ → (p ≤ rcx) → (rcx + d = rc) → (rcx ≤ 20) → (∀ j, j < rcx → anx j < 11) → (∀ j, j < rcx → stx j < 1048576) → (∀ j, j < p → decide (whyN cc rcx stx anx j = 0) = false) → (mgAll cc 20 rc nm st an = ((mgAll cc (20 - d) rcx nmx stx anx).1 + d, (mgAll cc (20 - d) rcx nmx stx anx).2)) → ∀ (H : Heap) (locs : List Loc), va_P D vwCl (wR kA qr cc ac co ad rcx nmx stx anx svm cnt tx len th xf xt xs xa xw xc xk xp pt wr xm mny) H → va_D A (wR kA qr cc ac co ad rcx nmx stx anx svm cnt tx len th xf xt xs xa xw xc xk xp pt wr xm mny) → va_S A s.heap H locs → ∀ (ls : Array Slot), lv_has ls 3 [(2, .int (nI p)), (1, .int (nI d)), (0, .ref (qr 0))] → W pQ lQ eQ (headSpec wsX6_mergesAll (rmN 3 66)).room s mQ ([.ref (qr 0)] : List Value).toArray below meth cQ H locs 0 0 (MQ below (va_Qi (S := Unit) (fun (r : Int32) (u : Unit) => r = (nI ((mgAll cc 20 rc nm st an).1))) (wr_B D vwCl (wR kA qr cc ac co ad rc nm st an svm cnt tx len th xf xt xs xa xw xc xk xp pt wr xm mny) (tyK kA) s.heap.size (fun u => (wR kA qr cc ac co ad ((mgAll cc 20 rc nm st an).2.1) ((mgAll cc 20 rc nm st an).2.2.1) ((mgAll cc 20 rc nm st an).2.2.2.1) ((mgAll cc 20 rc nm st an).2.2.2.2) svm cnt tx len th xf xt xs xa xw xc xk xp pt wr xm mny))) A) ([.ref (qr 0)] : List Value).toArray s 0 0 A) (F0 mQ 4 ls []) := by
    intro nQ
    induction nQ with
    | zero => intro p d rcx nmx stx anx hn; exact absurd hn (Nat.not_lt_zero _)
    | succ nQ ih4 =>
      intro p d rcx nmx stx anx hm4 hp hd9 hrx hax hsx hn h1 H locs hP hD hS ls hl
      refine lv_iload_n hx hb dX6_mergesAll_4 rfl (lv_at hl 0 rfl) ?_
      refine lv_aload_n hx hb dX6_mergesAll_5 rfl (lv_at hl 2 rfl) ?_
      refine n_get (ci := 6) (v := .ref (qr 1)) (C := RX6) (T := TX6) (N := 18) hx hb hts hinX6 hown hK hP 0 rfl rfl 0 rfl ⟨rfl, rfl, rfl⟩ f7 rfl dX6_mergesAll_6 ?_
      refine lv_iconst (v := (nI 1)) hx hb dX6_mergesAll_9 (by decide) ?_
      refine n_iald (i := 1) (v := (nI rcx)) hx hb hK hP 1 0 rfl rfl (by omega) (Nat.le_of_ble_eq_true rfl) rfl dX6_mergesAll_10 ?_
      refine n_icmp_ge (a := p) (b := rcx) (tgt := 41) hx hb (by omega) (by omega) dX6_mergesAll_11 (by decide) (fun c11 => ?_) (fun c11 => ?_)
      · refine lv_iload_n hx hb dX6_mergesAll_41 rfl (lv_at hl 1 rfl) ?_
        have e9 : mgAll cc 20 rc nm st an = (d, rcx, nmx, stx, anx) := by
          rw [h1, mgAll_none (firstF_none (fun j hj => hn j (by omega)))]
          exact Prod.ext (Nat.zero_add _) rfl
        have hP : va_P D vwCl (wR kA qr cc ac co ad ((mgAll cc 20 rc nm st an).2.1) ((mgAll cc 20 rc nm st an).2.2.1) ((mgAll cc 20 rc nm st an).2.2.2.1) ((mgAll cc 20 rc nm st an).2.2.2.2) svm cnt tx len th xf xt xs xa xw xc xk xp pt wr xm mny) H := by rw [e9]; exact hP
        have hD : va_D A (wR kA qr cc ac co ad ((mgAll cc 20 rc nm st an).2.1) ((mgAll cc 20 rc nm st an).2.2.1) ((mgAll cc 20 rc nm st an).2.2.2.1) ((mgAll cc 20 rc nm st an).2.2.2.2) svm cnt tx len th xf xt xs xa xw xc xk xp pt wr xm mny) := by rw [e9]; exact hD
        have hP : va_P D vwCl (wR kA qr cc ac co ad ((mgAll cc 20 rc nm st an).2.1) ((mgAll cc 20 rc nm st an).2.2.1) ((mgAll cc 20 rc nm st an).2.2.2.1) ((mgAll cc 20 rc nm st an).2.2.2.2) svm cnt tx len th xf xt xs xa xw xc xk xp pt wr xm mny) H := hP
        have hD : va_D A (wR kA qr cc ac co ad ((mgAll cc 20 rc nm st an).2.1) ((mgAll cc 20 rc nm st an).2.2.1) ((mgAll cc 20 rc nm st an).2.2.2.1) ((mgAll cc 20 rc nm st an).2.2.2.2) svm cnt tx len th xf xt xs xa xw xc xk xp pt wr xm mny) := hD
        exact n_wreti hx hb hr hlocks (post := fun (r : Int32) (u : Unit) => r = (nI ((mgAll cc 20 rc nm st an).1))) (w1 := fun u => (wR kA qr cc ac co ad ((mgAll cc 20 rc nm st an).2.1) ((mgAll cc 20 rc nm st an).2.2.1) ((mgAll cc 20 rc nm st an).2.2.2.1) ((mgAll cc 20 rc nm st an).2.2.2.2) svm cnt tx len th xf xt xs xa xw xc xk xp pt wr xm mny)) () (by rw [e9]) hP hD hK hS hAe dX6_mergesAll_42
      · refine lv_aload_n hx hb dX6_mergesAll_14 rfl (lv_at hl 2 rfl) ?_
        refine lv_iload_n hx hb dX6_mergesAll_15 rfl (lv_at hl 0 rfl) ?_
        refine n_cV (b := qr 0) (As := [.int (nI p)]) (rest := []) (wc := (wR kA qr cc ac co ad rcx nmx stx anx svm cnt tx len th xf xt xs xa xw xc xk xp pt wr xm mny)) hS0 (c_X6_reasonOf lQ D kA qr cc ac co ad rcx nmx stx anx svm cnt tx len th xf xt xs xa xw xc xk xp pt wr xm mny p (by first | assumption | omega) (by first | assumption | omega) (by first | assumption | omega) (by first | assumption | omega) (by first | assumption | omega)) (cwV 1 hts gX6_mergesAll_X6_reasonOf rfl rfl rfl (by decide +kernel) ⟨Nat.le_of_ble_eq_true rfl, Nat.le_of_ble_eq_true rfl⟩) hP hK (q0 := 0) rfl rfl rfl rfl rfl hl.1 (Nat.le_of_ble_eq_true rfl) dX6_mergesAll_16 ⟨Nat.le_refl _, Nat.le_refl _⟩ (fun r16 h16 => ?_)
        subst h16
        refine n_if_ne (a := whyN cc rcx stx anx p) (tgt := 35) hx hb (Nat.lt_of_le_of_lt (whyN_le _ _ _ _ _) (by decide)) dX6_mergesAll_19 (by decide) (fun c19 => ?_) (fun c19 => ?_)
        · refine lv_iinc (v := (nI (p + 1))) (lv' := [(2, .int (nI (p + 1))), (1, .int (nI d)), (0, .ref (qr 0))]) hx hb dX6_mergesAll_35 hl (k := 0) rfl (nI_inc _) (by decide) rfl (fun ls hl => ?_)
          refine lv_goto (tgt := 4) hx hb dX6_mergesAll_38 (by decide) ?_
          exact ih4 (p + 1) d rcx nmx stx anx (by omega) (by first | assumption | omega) (by first | assumption | omega) (by first | assumption | omega) (by first | exact hax | exact shifF_all (P := fun z => z < 11) hax) (by first | exact hsx | exact mrgS_lt hw9.1 hsx) (fun j hj => by first | exact absurd hj (Nat.not_lt_zero _) | (by_cases e : j = p; (subst e; exact decide_eq_false (by omega)); exact hn j (by omega))) (by first | exact h1 | (rw [h1, show 20 - d = (20 - (d + 1)) + 1 by omega, mgAll_some hf9]; exact Prod.ext (Nat.add_right_comm _ 1 d) rfl)) _ _ hP hD hS _ (lv_sub hl [0, 1, 2] rfl)
        · have hw9 := whyN_0 c19
          have hf9 : firstF (fun p => decide (whyN cc rcx stx anx p = 0)) rcx = some p := firstF_some hn (decide_eq_true c19) (by omega)
          refine lv_aload_n hx hb dX6_mergesAll_22 rfl (lv_at hl 2 rfl) ?_
          refine lv_iload_n hx hb dX6_mergesAll_23 rfl (lv_at hl 0 rfl) ?_
          refine n_wVv (b := qr 0) (As := [.int (nI p)]) (rest := []) (wr := []) (ws' := fun u => (wR kA qr cc ac co ad (rcx - 1) (shifF nmx (p + 1) rcx) (mrgS stx p rcx) (shifF anx (p + 1) rcx) svm cnt tx len th xf xt xs xa xw xc xk xp pt wr xm mny)) hS0 (c_X6_merges lQ D kA qr cc ac co ad rcx nmx stx anx svm cnt tx len th xf xt xs xa xw xc xk xp pt wr xm mny p H.size (by first | assumption | omega) (by first | assumption | omega)) (cwV 1 hts gX6_mergesAll_X6_merges rfl rfl rfl (by decide +kernel) ⟨Nat.le_of_ble_eq_true rfl, Nat.le_of_ble_eq_true rfl⟩) hP hD hS hA hK hK (by simpa only [List.append_assoc, List.append_nil] using (List.Perm.of_eq (List.append_nil _).symm)) (fun u => List.Perm.symm (by simpa only [List.append_assoc, List.append_nil] using (List.Perm.of_eq (List.append_nil _).symm))) (q0 := 0) rfl rfl rfl rfl rfl hl.1 (Nat.le_of_ble_eq_true rfl) dX6_mergesAll_24 ⟨Nat.le_refl _, Nat.le_refl _⟩ (fun u24 H locs h24 hP hD hS => ?_)
          have hP : va_P D vwCl (wR kA qr cc ac co ad (rcx - 1) (shifF nmx (p + 1) rcx) (mrgS stx p rcx) (shifF anx (p + 1) rcx) svm cnt tx len th xf xt xs xa xw xc xk xp pt wr xm mny) H := hP
          have hD : va_D A (wR kA qr cc ac co ad (rcx - 1) (shifF nmx (p + 1) rcx) (mrgS stx p rcx) (shifF anx (p + 1) rcx) svm cnt tx len th xf xt xs xa xw xc xk xp pt wr xm mny) := hD
          refine lv_iinc (v := (nI (d + 1))) (lv' := [(1, .int (nI (d + 1))), (2, .int (nI p)), (0, .ref (qr 0))]) hx hb dX6_mergesAll_27 hl (k := 1) rfl (nI_inc _) (by decide) rfl (fun ls hl => ?_)
          refine lv_iconst (v := (nI 0)) hx hb dX6_mergesAll_30 (by decide) ?_
          refine lv_istore_n (lv' := [(2, .int (nI 0)), (1, .int (nI (d + 1))), (0, .ref (qr 0))]) hx hb dX6_mergesAll_31 rfl hl (by decide) rfl (fun ls hl => ?_)
          refine lv_goto (tgt := 4) hx hb dX6_mergesAll_32 (by decide) ?_
          exact ih4 0 (d + 1) (rcx - 1) (shifF nmx (p + 1) rcx) (mrgS stx p rcx) (shifF anx (p + 1) rcx) (by omega) (by first | assumption | omega) (by first | assumption | omega) (by first | assumption | omega) (by first | exact hax | exact shifF_all (P := fun z => z < 11) hax) (by first | exact hsx | exact mrgS_lt hw9.1 hsx) (fun j hj => by first | exact absurd hj (Nat.not_lt_zero _) | (by_cases e : j = p; (subst e; exact decide_eq_false (by omega)); exact hn j (by omega))) (by first | exact h1 | (rw [h1, show 20 - d = (20 - (d + 1)) + 1 by omega, mgAll_some hf9]; exact Prod.ext (Nat.add_right_comm _ 1 d) rfl)) _ _ hP hD hS _ (lv_sub hl [0, 1, 2] rfl)
  exact L4 ((rc * 22 + (21 - 0)) + 1) 0 0 rc nm st an (Nat.lt_succ_self _) (by first | assumption | omega) (by first | assumption | omega) (by first | assumption | omega) han hst (fun j hj => absurd hj (Nat.not_lt_zero _)) rfl _ _ hP hD hS _ (lv_sub hl [0, 1, 2] rfl)


section KEP
variable {cnt : Nat} {sv : Nat → TCt} {t : TCt}
def tabT (t : TCt) : Nat → Nat := tabF t.1 t.2.1 t.2.2.1 t.2.2.2.1 t.2.2.2.2.1 t.2.2.2.2.2.1 t.2.2.2.2.2.2.1 t.2.2.2.2.2.2.2
theorem savT_at (j : Nat) : savT sv j = tabT (sv (j / 73)) (j % 73) := rfl
theorem keep_lo (h : cnt < 4) {j : Nat} (hj : j / 73 ≠ cnt) : savT sv j = savT (keepF cnt sv t) j := by
  rw [savT_at, savT_at]; unfold keepF; rw [if_pos h, up_n _ _ hj]
theorem keep_hi (h : ¬ cnt < 4) {j : Nat} (hj : j < 219) : savT sv (j + 73) = savT (keepF cnt sv t) j := by
  rw [savT_at, savT_at]; unfold keepF
  rw [if_neg h, up_n _ _ (show j / 73 ≠ 3 by omega), show (j + 73) / 73 = j / 73 + 1 by omega, show (j + 73) % 73 = j % 73 by omega]
  have e : Nat.beq (j / 73) 3 = false := by
    cases e2 : Nat.beq (j / 73) 3 with
    | true => have := Nat.eq_of_beq_eq_true e2; omega
    | false => rfl
  show tabT (sv (j / 73 + 1)) (j % 73) = tabT (cond (Nat.beq (j / 73) 3) (sv 0) (sv (j / 73 + 1))) (j % 73)
  rw [e]; rfl
theorem keep_at {c : Nat} (hc : cntF cnt = c + 1) (h4 : cnt ≤ 4) {k : Nat} (hk : k < 73) : tabT t k = savT (keepF cnt sv t) (73 * c + k) := by
  rw [savT_at, show (73 * c + k) / 73 = c by omega, show (73 * c + k) % 73 = k by omega]
  unfold cntF at hc
  unfold keepF
  by_cases h : cnt < 4
  · rw [if_pos h] at hc ⊢
    rw [show c = cnt by omega, up_s]
  · rw [if_neg h] at hc ⊢
    rw [show c = 3 by omega, up_s]
end KEP

set_option maxHeartbeats 4000000 in
set_option maxRecDepth 100000 in
theorem c_X6_keeps (lQ : Launch) (D : va_G) (kA : Nat → ClassId) (qr : Nat → Nat) (cc : Nat) (ac : Nat → Nat) (co : Nat → Nat) (ad : Nat) (rc : Nat) (nm : Nat → Nat) (st : Nat → Nat) (an : Nat → Nat) (svm : Nat → TCt) (cnt : Nat) (tx : Nat → Nat) (len : Nat) (th : Nat) (xf : Nat → Option Nat) (xt : Nat → Nat) (xs : Nat → Option Nat) (xa : Nat → Nat) (xw : Nat → Nat) (xc : Nat → Nat) (xk : Nat → Option Nat) (xp : Nat → Nat) (pt : Nat) (wr : Option Nat) (xm : Nat → Nat) (mny : Nat) (sz : Nat) (hcn : cnt ≤ 4) : Met lQ yX6_keeps wsX6_keeps (rmN 0 0) (wr_Pc D vwCl [.ref (qr 0)] (wR kA qr cc ac co ad rc nm st an svm cnt tx len th xf xt xs xa xw xc xk xp pt wr xm mny) (tyK kA) sz) (va_Qv (S := Unit) (fun (u : Unit) => True) (wr_B D vwCl (wR kA qr cc ac co ad rc nm st an svm cnt tx len th xf xt xs xa xw xc xk xp pt wr xm mny) (tyK kA) sz (fun u => (wR kA qr cc ac co ad rc nm st an (keepF cnt svm (cc, ac, co, ad, rc, nm, st, an)) (cntF cnt) tx len th xf xt xs xa xw xc xk xp pt wr xm mny))) (va_A (wR kA qr cc ac co ad rc nm st an svm cnt tx len th xf xt xs xa xw xc xk xp pt wr xm mny) sz)) 0 0 (va_A (wR kA qr cc ac co ad rc nm st an svm cnt tx len th xf xt xs xa xw xc xk xp pt wr xm mny) sz) := by
  refine Met.ofW (cc := cX6_keeps) (maxL := 2) (ret := none) (by decide) rfl ?_
  intro pQ eQ s mQ args below meth cQ s₁ B hml hv
  obtain ⟨rfl, hsz, hP, hK, hD0⟩ := hv
  have hx := B.exec
  have hb := B.bytes
  have hr := B.returns
  have hts := atoms_spec (ws := wsX6_keeps) B.pre
  have hown : s.vm.findClass RX6 = some mQ.cls := findClass_of_methodNamed B.named
  have hlocks : meth.locks = false := B.notSynchronized
  have hS0 : CallFix pQ mQ cQ cX6_keeps 2 s ([.ref (qr 0)] : List Value).toArray wsX6_keeps RX6 := ⟨hx, hb, hml, hown, hts⟩
  subst hsz
  have hD := hD0.self (sz := s.heap.size)
  generalize hAe : va_A (wR kA qr cc ac co ad rc nm st an svm cnt tx len th xf xt xs xa xw xc xk xp pt wr xm mny) s.heap.size = A at hD ⊢
  have hA : ∀ q : Nat, s.heap.size ≤ q → A q := fun q h => by rw [← hAe]; exact Or.inr h
  have hS : va_S A s.heap s.heap [] := va_S.rf
  have f62 : (Cond.fieldLink RX6 62 "AskedRulesModel" "states" "I").before ([.ref (qr 0)] : List Value).toArray s = true := hts _ (by decide +kernel)
  have hinX6 : ∀ w ∈ wsX60, w ∈ wsX6_keeps := by decide +kernel
  have f13 : (Cond.fieldLink RX6 13 "AskedRulesModel" "saved" "[I").before ([.ref (qr 0)] : List Value).toArray s = true := hts _ (by decide +kernel)
  have f7 : (Cond.fieldLink RX6 7 "AskedRulesModel" "now" "[I").before ([.ref (qr 0)] : List Value).toArray s = true := hts _ (by decide +kernel)
  have hl := lv_entry ([.ref (qr 0)]) (n := 2) (Nat.le_of_ble_eq_true rfl)
  rw [lg_entry_eq]
  generalize (lg_sl ([.ref (qr 0)]) ++ List.replicate (2 - (lg_sl ([.ref (qr 0)])).length) Slot.unset).toArray = ls at hl ⊢
  have hl : lv_has ls 2 [(0, .ref (qr 0))] := hl
  have hP : va_P D vwCl (wR kA qr cc ac co ad rc nm st an svm cnt tx len th xf xt xs xa xw xc xk xp pt wr xm mny) s.heap := hP
  have hD : va_D A (wR kA qr cc ac co ad rc nm st an svm cnt tx len th xf xt xs xa xw xc xk xp pt wr xm mny) := hD
  have hP : va_P D vwCl (wRr kA qr (tabF cc ac co ad rc nm st an) (savT svm) cnt tx len th xf xt xs xa xw xc xk xp pt wr xm mny) s.heap := hP
  have hD : va_D A (wRr kA qr (tabF cc ac co ad rc nm st an) (savT svm) cnt tx len th xf xt xs xa xw xc xk xp pt wr xm mny) := hD
  refine lv_aload_n hx hb dX6_keeps_0 rfl (lv_at hl 0 rfl) ?_
  refine n_get (ci := 6) (v := .int (nI cnt)) (C := RX6) (T := TX6) (N := 18) hx hb hts hinX6 hown hK hP 0 rfl rfl 2 rfl ⟨rfl, rfl, rfl⟩ f62 rfl dX6_keeps_1 ?_
  refine lv_iconst (v := (nI 4)) hx hb dX6_keeps_4 (by decide) ?_
  have J48 : ∀ (c1 : Nat) (sb1 : Nat → Nat), (c1 < 4) → (cntF cnt = c1 + 1) → (∀ j, j < 292 → j / 73 ≠ c1 → sb1 j = savT (keepF cnt svm (cc, ac, co, ad, rc, nm, st, an)) j) → ∀ (H : Heap) (locs : List Loc), va_P D vwCl (wRr kA qr (tabF cc ac co ad rc nm st an) sb1 c1 tx len th xf xt xs xa xw xc xk xp pt wr xm mny) H → va_D A (wRr kA qr (tabF cc ac co ad rc nm st an) sb1 c1 tx len th xf xt xs xa xw xc xk xp pt wr xm mny) → va_S A s.heap H locs → ∀ (ls : Array Slot), lv_has ls 2 [(0, .ref (qr 0))] → W pQ lQ eQ (headSpec wsX6_keeps (rmN 0 0)).room s mQ ([.ref (qr 0)] : List Value).toArray below meth cQ H locs 0 0 (MQ below (va_Qv (S := Unit) (fun (u : Unit) => True) (wr_B D vwCl (wR kA qr cc ac co ad rc nm st an svm cnt tx len th xf xt xs xa xw xc xk xp pt wr xm mny) (tyK kA) s.heap.size (fun u => (wR kA qr cc ac co ad rc nm st an (keepF cnt svm (cc, ac, co, ad, rc, nm, st, an)) (cntF cnt) tx len th xf xt xs xa xw xc xk xp pt wr xm mny))) A) ([.ref (qr 0)] : List Value).toArray s 0 0 A) (F0 mQ 48 ls []) := by
    intro c1 sb1 hc1 hc2 hsb H locs hP hD hS ls hl
    refine lv_iconst (v := (nI 0)) hx hb dX6_keeps_48 (by decide) ?_
    refine lv_istore_n (lv' := [(1, .int (nI 0)), (0, .ref (qr 0))]) hx hb dX6_keeps_49 rfl hl (by decide) rfl (fun ls hl => ?_)
    have L50 : ∀ (nQ : Nat) (k : Nat) (sbx : Nat → Nat), 73 - k < nQ → (k ≤ 73) → (∀ j, j < 292 → sbx j = if 73 * c1 ≤ j ∧ j < 73 * c1 + k then tabT (cc, ac, co, ad, rc, nm, st, an) (j - 73 * c1) else sb1 j) → ∀ (H : Heap) (locs : List Loc), va_P D vwCl (wRr kA qr (tabF cc ac co ad rc nm st an) sbx c1 tx len th xf xt xs xa xw xc xk xp pt wr xm mny) H → va_D A (wRr kA qr (tabF cc ac co ad rc nm st an) sbx c1 tx len th xf xt xs xa xw xc xk xp pt wr xm mny) → va_S A s.heap H locs → ∀ (ls : Array Slot), lv_has ls 2 [(1, .int (nI k)), (0, .ref (qr 0))] → W pQ lQ eQ (headSpec wsX6_keeps (rmN 0 0)).room s mQ ([.ref (qr 0)] : List Value).toArray below meth cQ H locs 0 0 (MQ below (va_Qv (S := Unit) (fun (u : Unit) => True) (wr_B D vwCl (wR kA qr cc ac co ad rc nm st an svm cnt tx len th xf xt xs xa xw xc xk xp pt wr xm mny) (tyK kA) s.heap.size (fun u => (wR kA qr cc ac co ad rc nm st an (keepF cnt svm (cc, ac, co, ad, rc, nm, st, an)) (cntF cnt) tx len th xf xt xs xa xw xc xk xp pt wr xm mny))) A) ([.ref (qr 0)] : List Value).toArray s 0 0 A) (F0 mQ 50 ls []) := by
      intro nQ
      induction nQ with
      | zero => intro k sbx hn; exact absurd hn (Nat.not_lt_zero _)
      | succ nQ ih50 =>
        intro k sbx hm50 hk hsx H locs hP hD hS ls hl
        refine lv_iload_n hx hb dX6_keeps_50 rfl (lv_at hl 0 rfl) ?_
        refine lv_bipush (v := (nI 73)) hx hb dX6_keeps_51 (by decide) ?_
        refine n_icmp_ge (a := k) (b := 73) (tgt := 82) hx hb (by omega) (by omega) dX6_keeps_53 (by decide) (fun c53 => ?_) (fun c53 => ?_)
        · refine lv_aload_n hx hb dX6_keeps_82 rfl (lv_at hl 1 rfl) ?_
          refine lv_dup hx hb dX6_keeps_83 rfl ?_
          refine n_get (ci := 6) (v := .int (nI c1)) (C := RX6) (T := TX6) (N := 18) hx hb hts hinX6 hown hK hP 0 rfl rfl 2 rfl ⟨rfl, rfl, rfl⟩ f62 rfl dX6_keeps_84 ?_
          refine lv_iconst (v := (nI 1)) hx hb dX6_keeps_87 (by decide) ?_
          refine n_iadd (v := (nI (c1 + 1))) hx hb (nI_add _ _) dX6_keeps_88 ?_
          refine n_put (ci := 6) (v := .int (nI (c1 + 1))) (C := RX6) (T := TX6) (N := 18) (ws' := (wRr kA qr (tabF cc ac co ad rc nm st an) sbx (c1 + 1) tx len th xf xt xs xa xw xc xk xp pt wr xm mny)) hx hb hts hinX6 tyX6 tyX6_ok nmX6 hown hK hP hD hS 0 rfl rfl 2 rfl ⟨rfl, rfl, rfl, rfl⟩ f62 rfl rfl rfl rfl dX6_keeps_89 (fun H locs hP hD hS => ?_)
          rw [show c1 + 1 = cntF cnt from hc2.symm] at hP hD
          have hP : va_P D vwCl (wR kA qr cc ac co ad rc nm st an (keepF cnt svm (cc, ac, co, ad, rc, nm, st, an)) (cntF cnt) tx len th xf xt xs xa xw xc xk xp pt wr xm mny) H := wRr_P hP (fun _ _ => rfl) (fun j hj => by
            rw [hsx j hj]
            by_cases e : 73 * c1 ≤ j ∧ j < 73 * c1 + k
            · rw [if_pos e]
              have h9 := keep_at (sv := svm) (t := (cc, ac, co, ad, rc, nm, st, an)) hc2 hcn (k := j - 73 * c1) (by omega)
              rw [show 73 * c1 + (j - 73 * c1) = j by omega] at h9
              exact h9
            · rw [if_neg e]; exact hsb j hj (by omega))
          have hD : va_D A (wR kA qr cc ac co ad rc nm st an (keepF cnt svm (cc, ac, co, ad, rc, nm, st, an)) (cntF cnt) tx len th xf xt xs xa xw xc xk xp pt wr xm mny) := va_D_cong hD rfl
          exact n_wretv hx hb hr hlocks (post := fun (u : Unit) => True) (w1 := fun u => (wR kA qr cc ac co ad rc nm st an (keepF cnt svm (cc, ac, co, ad, rc, nm, st, an)) (cntF cnt) tx len th xf xt xs xa xw xc xk xp pt wr xm mny)) () trivial hP hD hK hS hAe dX6_keeps_92
        · refine lv_aload_n hx hb dX6_keeps_56 rfl (lv_at hl 1 rfl) ?_
          refine n_get (ci := 6) (v := .ref (qr 2)) (C := RX6) (T := TX6) (N := 18) hx hb hts hinX6 hown hK hP 0 rfl rfl 1 rfl ⟨rfl, rfl, rfl⟩ f13 rfl dX6_keeps_57 ?_
          refine lv_bipush (v := (nI 73)) hx hb dX6_keeps_60 (by decide) ?_
          refine lv_aload_n hx hb dX6_keeps_62 rfl (lv_at hl 1 rfl) ?_
          refine n_get (ci := 6) (v := .int (nI c1)) (C := RX6) (T := TX6) (N := 18) hx hb hts hinX6 hown hK hP 0 rfl rfl 2 rfl ⟨rfl, rfl, rfl⟩ f62 rfl dX6_keeps_63 ?_
          refine n_imul (v := (nI (73 * c1))) hx hb (pk_mul _ _) dX6_keeps_66 ?_
          refine lv_iload_n hx hb dX6_keeps_67 rfl (lv_at hl 0 rfl) ?_
          refine n_iadd (v := (nI ((73 * c1) + k))) hx hb (nI_add _ _) dX6_keeps_68 ?_
          refine lv_aload_n hx hb dX6_keeps_69 rfl (lv_at hl 1 rfl) ?_
          refine n_get (ci := 6) (v := .ref (qr 1)) (C := RX6) (T := TX6) (N := 18) hx hb hts hinX6 hown hK hP 0 rfl rfl 0 rfl ⟨rfl, rfl, rfl⟩ f7 rfl dX6_keeps_70 ?_
          refine lv_iload_n hx hb dX6_keeps_73 rfl (lv_at hl 0 rfl) ?_
          refine n_iald (i := k) (v := (nI ((tabF cc ac co ad rc nm st an) k))) hx hb hK hP 1 0 rfl rfl (by omega) (Nat.le_of_ble_eq_true rfl) rfl dX6_keeps_74 ?_
          refine n_iast (i := (73 * c1) + k) (x := (nI ((tabF cc ac co ad rc nm st an) k))) (g := aN (va_up sbx ((73 * c1) + k) ((tabF cc ac co ad rc nm st an) k))) (ws' := (wRr kA qr (tabF cc ac co ad rc nm st an) (va_up sbx ((73 * c1) + k) ((tabF cc ac co ad rc nm st an) k)) c1 tx len th xf xt xs xa xw xc xk xp pt wr xm mny)) hx hb hK hP hD hS 2 0 rfl rfl (by omega) (Nat.le_of_ble_eq_true rfl) (aN_up _ _ _) rfl dX6_keeps_75 (fun H locs hP hD hS => ?_)
          refine lv_iinc (v := (nI (k + 1))) (lv' := [(1, .int (nI (k + 1))), (0, .ref (qr 0))]) hx hb dX6_keeps_76 hl (k := 0) rfl (nI_inc _) (by decide) rfl (fun ls hl => ?_)
          refine lv_goto (tgt := 50) hx hb dX6_keeps_79 (by decide) ?_
          exact ih50 (k + 1) (va_up sbx ((73 * c1) + k) ((tabF cc ac co ad rc nm st an) k)) (by omega) (by first | assumption | omega) (fun j hj => by by_cases e : j = 73 * c1 + k; (subst e; rw [up_s, if_pos (by omega), Nat.add_sub_cancel_left]; rfl); rw [up_n _ _ e, hsx j hj]; by_cases e2 : 73 * c1 ≤ j ∧ j < 73 * c1 + k; (rw [if_pos e2, if_pos (by omega)]); rw [if_neg e2, if_neg (by omega)]) _ _ hP hD hS _ (lv_sub hl [0, 1] rfl)
    exact L50 ((73 - 0) + 1) 0 sb1 (Nat.lt_succ_self _) (by first | assumption | omega) (fun j hj => by rw [if_neg (by omega)]) _ _ hP hD hS _ (lv_sub hl [0, 1] rfl)
  refine n_icmp_ne (a := cnt) (b := 4) (tgt := 48) hx hb (by omega) (by omega) dX6_keeps_5 (by decide) (fun c5 => ?_) (fun c5 => ?_)
  · have hn4 : cnt < 4 := by omega
    exact J48 cnt (savT svm)  (by first | omega | decide) (by unfold cntF; first | (rw [if_pos hn4]; done) | (rw [if_neg hn4]; omega)) (fun j hj hne => by first | exact keep_lo hn4 hne | (rw [hsy j, if_pos (by omega)]; exact keep_hi hn4 (by omega))) _ _ hP hD hS _ (lv_sub hl [0] rfl)
  · have hn4 : ¬ cnt < 4 := by omega
    refine lv_iconst (v := (nI 0)) hx hb dX6_keeps_8 (by decide) ?_
    refine lv_istore_n (lv' := [(1, .int (nI 0)), (0, .ref (qr 0))]) hx hb dX6_keeps_9 rfl hl (by decide) rfl (fun ls hl => ?_)
    have L10 : ∀ (nQ : Nat) (k : Nat) (sby : Nat → Nat), 219 - k < nQ → (k ≤ 219) → (∀ j, sby j = if j < k then savT svm (j + 73) else savT svm j) → ∀ (H : Heap) (locs : List Loc), va_P D vwCl (wRr kA qr (tabF cc ac co ad rc nm st an) sby cnt tx len th xf xt xs xa xw xc xk xp pt wr xm mny) H → va_D A (wRr kA qr (tabF cc ac co ad rc nm st an) sby cnt tx len th xf xt xs xa xw xc xk xp pt wr xm mny) → va_S A s.heap H locs → ∀ (ls : Array Slot), lv_has ls 2 [(1, .int (nI k)), (0, .ref (qr 0))] → W pQ lQ eQ (headSpec wsX6_keeps (rmN 0 0)).room s mQ ([.ref (qr 0)] : List Value).toArray below meth cQ H locs 0 0 (MQ below (va_Qv (S := Unit) (fun (u : Unit) => True) (wr_B D vwCl (wR kA qr cc ac co ad rc nm st an svm cnt tx len th xf xt xs xa xw xc xk xp pt wr xm mny) (tyK kA) s.heap.size (fun u => (wR kA qr cc ac co ad rc nm st an (keepF cnt svm (cc, ac, co, ad, rc, nm, st, an)) (cntF cnt) tx len th xf xt xs xa xw xc xk xp pt wr xm mny))) A) ([.ref (qr 0)] : List Value).toArray s 0 0 A) (F0 mQ 10 ls []) := by
      intro nQ
      induction nQ with
      | zero => intro k sby hn; exact absurd hn (Nat.not_lt_zero _)
      | succ nQ ih10 =>
        intro k sby hm10 hk hsy H locs hP hD hS ls hl
        refine lv_iload_n hx hb dX6_keeps_10 rfl (lv_at hl 0 rfl) ?_
        refine lv_sipush (v := (nI 219)) hx hb dX6_keeps_11 (by decide) ?_
        refine n_icmp_ge (a := k) (b := 219) (tgt := 38) hx hb (by omega) (by omega) dX6_keeps_14 (by decide) (fun c14 => ?_) (fun c14 => ?_)
        · refine lv_aload_n hx hb dX6_keeps_38 rfl (lv_at hl 1 rfl) ?_
          refine lv_dup hx hb dX6_keeps_39 rfl ?_
          refine n_get (ci := 6) (v := .int (nI cnt)) (C := RX6) (T := TX6) (N := 18) hx hb hts hinX6 hown hK hP 0 rfl rfl 2 rfl ⟨rfl, rfl, rfl⟩ f62 rfl dX6_keeps_40 ?_
          refine lv_iconst (v := (nI 1)) hx hb dX6_keeps_43 (by decide) ?_
          refine n_isub (v := (nI (cnt - 1))) hx hb (pk_sub (by omega)) dX6_keeps_44 ?_
          refine n_put (ci := 6) (v := .int (nI (cnt - 1))) (C := RX6) (T := TX6) (N := 18) (ws' := (wRr kA qr (tabF cc ac co ad rc nm st an) sby (cnt - 1) tx len th xf xt xs xa xw xc xk xp pt wr xm mny)) hx hb hts hinX6 tyX6 tyX6_ok nmX6 hown hK hP hD hS 0 rfl rfl 2 rfl ⟨rfl, rfl, rfl, rfl⟩ f62 rfl rfl rfl rfl dX6_keeps_45 (fun H locs hP hD hS => ?_)
          exact J48 (cnt - 1) sby  (by first | omega | decide) (by unfold cntF; first | (rw [if_pos hn4]; done) | (rw [if_neg hn4]; omega)) (fun j hj hne => by first | exact keep_lo hn4 hne | (rw [hsy j, if_pos (by omega)]; exact keep_hi hn4 (by omega))) _ _ hP hD hS _ (lv_sub hl [1] rfl)
        · refine lv_aload_n hx hb dX6_keeps_17 rfl (lv_at hl 1 rfl) ?_
          refine n_get (ci := 6) (v := .ref (qr 2)) (C := RX6) (T := TX6) (N := 18) hx hb hts hinX6 hown hK hP 0 rfl rfl 1 rfl ⟨rfl, rfl, rfl⟩ f13 rfl dX6_keeps_18 ?_
          refine lv_iload_n hx hb dX6_keeps_21 rfl (lv_at hl 0 rfl) ?_
          refine lv_aload_n hx hb dX6_keeps_22 rfl (lv_at hl 1 rfl) ?_
          refine n_get (ci := 6) (v := .ref (qr 2)) (C := RX6) (T := TX6) (N := 18) hx hb hts hinX6 hown hK hP 0 rfl rfl 1 rfl ⟨rfl, rfl, rfl⟩ f13 rfl dX6_keeps_23 ?_
          refine lv_iload_n hx hb dX6_keeps_26 rfl (lv_at hl 0 rfl) ?_
          refine lv_bipush (v := (nI 73)) hx hb dX6_keeps_27 (by decide) ?_
          refine n_iadd (v := (nI (k + 73))) hx hb (nI_add _ _) dX6_keeps_29 ?_
          refine n_iald (i := k + 73) (v := (nI (sby (k + 73)))) hx hb hK hP 2 0 rfl rfl (by omega) (Nat.le_of_ble_eq_true rfl) rfl dX6_keeps_30 ?_
          refine n_iast (i := k) (x := (nI (sby (k + 73)))) (g := aN (va_up sby k (sby (k + 73)))) (ws' := (wRr kA qr (tabF cc ac co ad rc nm st an) (va_up sby k (sby (k + 73))) cnt tx len th xf xt xs xa xw xc xk xp pt wr xm mny)) hx hb hK hP hD hS 2 0 rfl rfl (by omega) (Nat.le_of_ble_eq_true rfl) (aN_up _ _ _) rfl dX6_keeps_31 (fun H locs hP hD hS => ?_)
          refine lv_iinc (v := (nI (k + 1))) (lv' := [(1, .int (nI (k + 1))), (0, .ref (qr 0))]) hx hb dX6_keeps_32 hl (k := 0) rfl (nI_inc _) (by decide) rfl (fun ls hl => ?_)
          refine lv_goto (tgt := 10) hx hb dX6_keeps_35 (by decide) ?_
          exact ih10 (k + 1) (va_up sby k (sby (k + 73))) (by omega) (by first | assumption | omega) (fun j => by by_cases e : j = k; (subst e; rw [up_s, if_pos (by omega), hsy, if_neg (by omega)]); rw [up_n _ _ e, hsy]; by_cases e2 : j < k; (rw [if_pos e2, if_pos (by omega)]); rw [if_neg e2, if_neg (by omega)]) _ _ hP hD hS _ (lv_sub hl [0, 1] rfl)
    exact L10 ((219 - 0) + 1) 0 (savT svm) (Nat.lt_succ_self _) (by first | assumption | omega) (fun j => by rw [if_neg (by omega)]) _ _ hP hD hS _ (lv_sub hl [0, 1] rfl)

