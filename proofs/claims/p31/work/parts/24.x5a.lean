
/-! ===== AskedRules: what is said of its arguments ===== -/
def isCostB (x : Int32) : Bool := decide (¬ x < nI 1) && decide (¬ nI 9 < x)
def isActB (x : Int32) : Bool := decide (¬ x < 0) && decide (¬ nI 9 < x)
def inB (x : Int32) (n : Nat) : Bool := decide (¬ x < 0) && decide (¬ nI n ≤ x)
theorem and_t {a b : Prop} [Decidable a] [Decidable b] (h1 : a) (h2 : b) : (decide a && decide b) = true := by rw [decide_eq_true h1, decide_eq_true h2]; rfl
theorem and_f1 {a b : Prop} [Decidable a] [Decidable b] (h : a) : (decide (¬ a) && decide (¬ b)) = false := by rw [decide_eq_false (fun h2 => h2 h)]; rfl
theorem and_f2 {a b : Prop} [Decidable a] [Decidable b] (h : b) : (decide (¬ a) && decide (¬ b)) = false := by rw [decide_eq_false (p := ¬ b) (fun h2 => h2 h), Bool.and_false]
theorem isCostB_n {x : Int32} (h : isCostB x = true) : ∃ n, x = nI n ∧ 1 ≤ n ∧ n < 10 := by
  unfold isCostB at h
  simp only [Bool.and_eq_true, decide_eq_true_eq] at h
  obtain ⟨h1, h2⟩ := h
  have h0 : ¬ x < 0 := fun h => h1 (Int32.lt_of_lt_of_le h (by decide))
  obtain ⟨n, rfl, hn⟩ := i_num h0
  refine ⟨n, rfl, ?_, ?_⟩
  · by_cases e : 1 ≤ n
    · exact e
    · exact absurd (nI_lt (show n < 1 by omega) (by decide)) h1
  · by_cases e : 9 < n
    · exact absurd (nI_lt e hn) h2
    · omega
theorem isActB_n {x : Int32} (h : isActB x = true) : ∃ n, x = nI n ∧ n < 10 := by
  unfold isActB at h
  simp only [Bool.and_eq_true, decide_eq_true_eq] at h
  obtain ⟨h1, h2⟩ := h
  obtain ⟨n, rfl, hn⟩ := i_num h1
  refine ⟨n, rfl, ?_⟩
  by_cases e : 9 < n
  · exact absurd (nI_lt e hn) h2
  · omega
theorem inB_n {x : Int32} {k : Nat} (h : inB x k = true) : ∃ n, x = nI n ∧ n < k := by
  unfold inB at h
  simp only [Bool.and_eq_true, decide_eq_true_eq] at h
  obtain ⟨h1, h2⟩ := h
  obtain ⟨n, rfl, hn⟩ := i_num h1
  refine ⟨n, rfl, ?_⟩
  by_cases e : k ≤ n
  · exact absurd (nI_le e hn) h2
  · omega
theorem isSetB_n {x : Int32} {f : Nat} (hf : f < 16) (h : isSetB x f = true) : ∃ n, x = nI n ∧ 0 < n ∧ n ≤ f := by
  unfold isSetB at h
  simp only [Bool.and_eq_true, decide_eq_true_eq] at h
  obtain ⟨h1, h2⟩ := h
  have h0 : ¬ x < 0 := fun h => i_not_lt.mpr (Int32.le_of_lt h1) h
  obtain ⟨n, rfl, hn⟩ := i_num h0
  refine ⟨n, rfl, ?_, ?_⟩
  · by_cases e : n = 0
    · subst e; exact absurd h1 (by decide)
    · omega
  · by_cases e : f < n
    · exact absurd h2 (i_not_le.mpr (nI_lt e hn))
    · omega
/-- the number of the row that stands there -/
def numF (rc : Nat) (nm : Nat → Nat) (o : Option Nat) : Option Nat := match o with
  | none => none
  | some q => if q < rc then some (nm q) else none

set_option maxHeartbeats 4000000 in
set_option maxRecDepth 100000 in
theorem c_X5_isCost (lQ : Launch) (D : va_G) (kA : Nat → ClassId) (x : Int32)  : Met lQ yX5_isCost wsX5_isCost (rmN 0 0) (rd_Pc D vwCl [.int x] [] (tyK kA)) (vp_Si (fun r : Int32 => r = (bI (isCostB x)))) 0 0 (fun _ => False) := by
  refine Met.ofW (cc := cX5_isCost) (maxL := 1) (ret := (some .boolean)) (by decide) rfl ?_
  intro pQ eQ s mQ args below meth cQ s₁ B hml hv
  obtain ⟨rfl, hP, hK⟩ := hv
  have hx := B.exec
  have hb := B.bytes
  have hr := B.returns
  have hts := atoms_spec (ws := wsX5_isCost) B.pre
  have hown : s.vm.findClass RX5 = some mQ.cls := findClass_of_methodNamed B.named
  have hlocks : meth.locks = false := B.notSynchronized
  have hS0 : CallFix pQ mQ cQ cX5_isCost 1 s ([.int x] : List Value).toArray wsX5_isCost RX5 := ⟨hx, hb, hml, hown, hts⟩
  skip
  have hl := lv_entry ([.int x]) (n := 1) (Nat.le_of_ble_eq_true rfl)
  rw [lg_entry_eq]
  generalize (lg_sl ([.int x]) ++ List.replicate (1 - (lg_sl ([.int x])).length) Slot.unset).toArray = ls at hl ⊢
  have hl : lv_has ls 1 [(0, .int x)] := hl
  have hP : va_P D vwCl [] s.heap := hP
  refine lv_iload_n hx hb dX5_isCost_0 rfl (lv_at hl 0 rfl) ?_
  refine lv_iconst (v := (nI 1)) hx hb dX5_isCost_1 (by decide) ?_
  refine lv_icmp_lt (tgt := 15) hx hb dX5_isCost_2 (by decide) (fun c2 => ?_) (fun c2 => ?_)
  · refine lv_iconst (v := (nI 0)) hx hb dX5_isCost_15 (by decide) ?_
    exact n_retz hx hb hr hlocks (post := fun r : Int32 => r = (bI (isCostB x))) rfl (by unfold isCostB; first | (rw [and_t c2 c8]; rfl) | (rw [and_f1 c2]; rfl) | (rw [and_f2 c8]; rfl)) rfl dX5_isCost_16
  · refine lv_iload_n hx hb dX5_isCost_5 rfl (lv_at hl 0 rfl) ?_
    refine lv_bipush (v := (nI 9)) hx hb dX5_isCost_6 (by decide) ?_
    refine lv_icmp_gt (tgt := 15) hx hb dX5_isCost_8 (by decide) (fun c8 => ?_) (fun c8 => ?_)
    · refine lv_iconst (v := (nI 0)) hx hb dX5_isCost_15 (by decide) ?_
      exact n_retz hx hb hr hlocks (post := fun r : Int32 => r = (bI (isCostB x))) rfl (by unfold isCostB; first | (rw [and_t c2 c8]; rfl) | (rw [and_f1 c2]; rfl) | (rw [and_f2 c8]; rfl)) rfl dX5_isCost_16
    · refine lv_iconst (v := (nI 1)) hx hb dX5_isCost_11 (by decide) ?_
      refine lv_goto (tgt := 16) hx hb dX5_isCost_12 (by decide) ?_
      exact n_retz hx hb hr hlocks (post := fun r : Int32 => r = (bI (isCostB x))) rfl (by unfold isCostB; first | (rw [and_t c2 c8]; rfl) | (rw [and_f1 c2]; rfl) | (rw [and_f2 c8]; rfl)) rfl dX5_isCost_16

set_option maxHeartbeats 4000000 in
set_option maxRecDepth 100000 in
theorem c_X5_isAction (lQ : Launch) (D : va_G) (kA : Nat → ClassId) (x : Int32)  : Met lQ yX5_isAction wsX5_isAction (rmN 0 0) (rd_Pc D vwCl [.int x] [] (tyK kA)) (vp_Si (fun r : Int32 => r = (bI (isActB x)))) 0 0 (fun _ => False) := by
  refine Met.ofW (cc := cX5_isAction) (maxL := 1) (ret := (some .boolean)) (by decide) rfl ?_
  intro pQ eQ s mQ args below meth cQ s₁ B hml hv
  obtain ⟨rfl, hP, hK⟩ := hv
  have hx := B.exec
  have hb := B.bytes
  have hr := B.returns
  have hts := atoms_spec (ws := wsX5_isAction) B.pre
  have hown : s.vm.findClass RX5 = some mQ.cls := findClass_of_methodNamed B.named
  have hlocks : meth.locks = false := B.notSynchronized
  have hS0 : CallFix pQ mQ cQ cX5_isAction 1 s ([.int x] : List Value).toArray wsX5_isAction RX5 := ⟨hx, hb, hml, hown, hts⟩
  skip
  have hl := lv_entry ([.int x]) (n := 1) (Nat.le_of_ble_eq_true rfl)
  rw [lg_entry_eq]
  generalize (lg_sl ([.int x]) ++ List.replicate (1 - (lg_sl ([.int x])).length) Slot.unset).toArray = ls at hl ⊢
  have hl : lv_has ls 1 [(0, .int x)] := hl
  have hP : va_P D vwCl [] s.heap := hP
  refine lv_iload_n hx hb dX5_isAction_0 rfl (lv_at hl 0 rfl) ?_
  refine lv_if_lt (tgt := 14) hx hb dX5_isAction_1 (by decide) (fun c1 => ?_) (fun c1 => ?_)
  · refine lv_iconst (v := (nI 0)) hx hb dX5_isAction_14 (by decide) ?_
    exact n_retz hx hb hr hlocks (post := fun r : Int32 => r = (bI (isActB x))) rfl (by unfold isActB; first | (rw [and_t c1 c7]; rfl) | (rw [and_f1 c1]; rfl) | (rw [and_f2 c7]; rfl)) rfl dX5_isAction_15
  · refine lv_iload_n hx hb dX5_isAction_4 rfl (lv_at hl 0 rfl) ?_
    refine lv_bipush (v := (nI 9)) hx hb dX5_isAction_5 (by decide) ?_
    refine lv_icmp_gt (tgt := 14) hx hb dX5_isAction_7 (by decide) (fun c7 => ?_) (fun c7 => ?_)
    · refine lv_iconst (v := (nI 0)) hx hb dX5_isAction_14 (by decide) ?_
      exact n_retz hx hb hr hlocks (post := fun r : Int32 => r = (bI (isActB x))) rfl (by unfold isActB; first | (rw [and_t c1 c7]; rfl) | (rw [and_f1 c1]; rfl) | (rw [and_f2 c7]; rfl)) rfl dX5_isAction_15
    · refine lv_iconst (v := (nI 1)) hx hb dX5_isAction_10 (by decide) ?_
      refine lv_goto (tgt := 15) hx hb dX5_isAction_11 (by decide) ?_
      exact n_retz hx hb hr hlocks (post := fun r : Int32 => r = (bI (isActB x))) rfl (by unfold isActB; first | (rw [and_t c1 c7]; rfl) | (rw [and_f1 c1]; rfl) | (rw [and_f2 c7]; rfl)) rfl dX5_isAction_15

set_option maxHeartbeats 4000000 in
set_option maxRecDepth 100000 in
theorem c_X5_isCondition (lQ : Launch) (D : va_G) (kA : Nat → ClassId) (mq : Nat) (s1 : Bool) (s2 : Bool) (q : Nat → Nat) (cc : Nat) (ac : Nat → Nat) (co : Nat → Nat) (ad : Nat) (rc : Nat) (nm : Nat → Nat) (st : Nat → Nat) (an : Nat → Nat) (qc : Nat → Nat) (cn : Nat) (sd : Nat → Nat) (bt : Nat → Nat) (fi : Nat → Option Nat) (se : Nat → Option Nat) (tl : Nat → Nat) (ax : Nat → Nat) (cf : Nat → Bool) (ow : Nat → Nat) (ho : Nat) (ov : Nat) (cs : Nat) (qp : Nat → Nat) (cm : Nat → Nat) (wo : Nat → Nat) (dg : Nat → Nat) (hq : Nat → Nat) (cnt : Nat) (sv : Nat → TSt) (qs : Nat → Nat) (tx : Nat → Nat) (len : Nat) (pos : Nat) (kd : Option Nat) (rw0 : Nat) (ss : Nat) (av : Option Nat) (x : Int32)  : Met lQ yX5_isCondition wsX5_isCondition (rmN 0 0) (rd_Pc D vwCl [.ref mq, .int x] ((wM kA mq q qc qp hq qs s1 s2) ++ ((wT kA q cc ac co ad rc nm st an) ++ ((wC kA qc q cn sd bt fi se tl ax cf ow ho ov cs) ++ ((wP kA qp q qc cm wo dg) ++ ((wH kA hq cnt sv) ++ (wS kA qs q tx len pos kd rw0 ss av)))))) (tyK kA)) (vp_Si (fun r : Int32 => r = (bI (inB x cc)))) 0 0 (fun _ => False) := by
  refine Met.ofW (cc := cX5_isCondition) (maxL := 2) (ret := (some .boolean)) (by decide) rfl ?_
  intro pQ eQ s mQ args below meth cQ s₁ B hml hv
  obtain ⟨rfl, hP, hK⟩ := hv
  have hx := B.exec
  have hb := B.bytes
  have hr := B.returns
  have hts := atoms_spec (ws := wsX5_isCondition) B.pre
  have hown : s.vm.findClass RX5 = some mQ.cls := findClass_of_methodNamed B.named
  have hlocks : meth.locks = false := B.notSynchronized
  have hS0 : CallFix pQ mQ cQ cX5_isCondition 2 s ([.ref mq, .int x] : List Value).toArray wsX5_isCondition RX5 := ⟨hx, hb, hml, hown, hts⟩
  have f10 : (Cond.fieldLink RX5 10 "AskedRules" "table" "LAskedRules$Table;").before ([.ref mq, .int x] : List Value).toArray s = true := hts _ (by decide +kernel)
  have hinX5 : ∀ w ∈ wsX50, w ∈ wsX5_isCondition := by decide +kernel
  have f66 : (Cond.fieldLink RX5 66 "AskedRules$Table" "conditionCount" "I").before ([.ref mq, .int x] : List Value).toArray s = true := hts _ (by decide +kernel)
  have hinX4 : ∀ w ∈ wsX40, w ∈ wsX5_isCondition := by decide +kernel
  have hl := lv_entry ([.ref mq, .int x]) (n := 2) (Nat.le_of_ble_eq_true rfl)
  rw [lg_entry_eq]
  generalize (lg_sl ([.ref mq, .int x]) ++ List.replicate (2 - (lg_sl ([.ref mq, .int x])).length) Slot.unset).toArray = ls at hl ⊢
  have hl : lv_has ls 2 [(0, .ref mq), (1, .int x)] := hl
  have hP : va_P D vwCl ((wM kA mq q qc qp hq qs s1 s2) ++ ((wT kA q cc ac co ad rc nm st an) ++ ((wC kA qc q cn sd bt fi se tl ax cf ow ho ov cs) ++ ((wP kA qp q qc cm wo dg) ++ ((wH kA hq cnt sv) ++ (wS kA qs q tx len pos kd rw0 ss av)))))) s.heap := hP
  refine lv_iload_n hx hb dX5_isCondition_0 rfl (lv_at hl 1 rfl) ?_
  refine lv_if_lt (tgt := 19) hx hb dX5_isCondition_1 (by decide) (fun c1 => ?_) (fun c1 => ?_)
  · refine lv_iconst (v := (nI 0)) hx hb dX5_isCondition_19 (by decide) ?_
    exact n_retz hx hb hr hlocks (post := fun r : Int32 => r = (bI (inB x cc))) rfl (by unfold inB; first | (rw [and_t c1 c12]; rfl) | (rw [and_f1 c1]; rfl) | (rw [and_f2 c12]; rfl)) rfl dX5_isCondition_20
  · refine lv_iload_n hx hb dX5_isCondition_4 rfl (lv_at hl 1 rfl) ?_
    refine lv_aload_n hx hb dX5_isCondition_5 rfl (lv_at hl 0 rfl) ?_
    refine n_get (ci := 5) (v := .ref (q 0)) (C := RX5) (T := TX5) (N := 7) hx hb hts hinX5 hown hK hP 0 rfl rfl 0 rfl ⟨rfl, rfl, rfl⟩ f10 rfl dX5_isCondition_6 ?_
    refine n_get (ci := 4) (v := .int (nI cc)) (C := RX4) (T := TX4) (N := 8) hx hb hts hinX4 hown hK hP 1 rfl rfl 0 rfl ⟨rfl, rfl, rfl⟩ f66 rfl dX5_isCondition_9 ?_
    refine lv_icmp_ge (tgt := 19) hx hb dX5_isCondition_12 (by decide) (fun c12 => ?_) (fun c12 => ?_)
    · refine lv_iconst (v := (nI 0)) hx hb dX5_isCondition_19 (by decide) ?_
      exact n_retz hx hb hr hlocks (post := fun r : Int32 => r = (bI (inB x cc))) rfl (by unfold inB; first | (rw [and_t c1 c12]; rfl) | (rw [and_f1 c1]; rfl) | (rw [and_f2 c12]; rfl)) rfl dX5_isCondition_20
    · refine lv_iconst (v := (nI 1)) hx hb dX5_isCondition_15 (by decide) ?_
      refine lv_goto (tgt := 20) hx hb dX5_isCondition_16 (by decide) ?_
      exact n_retz hx hb hr hlocks (post := fun r : Int32 => r = (bI (inB x cc))) rfl (by unfold inB; first | (rw [and_t c1 c12]; rfl) | (rw [and_f1 c1]; rfl) | (rw [and_f2 c12]; rfl)) rfl dX5_isCondition_20

set_option maxHeartbeats 4000000 in
set_option maxRecDepth 100000 in
theorem c_X5_isCase (lQ : Launch) (D : va_G) (kA : Nat → ClassId) (mq : Nat) (s1 : Bool) (s2 : Bool) (q : Nat → Nat) (cc : Nat) (ac : Nat → Nat) (co : Nat → Nat) (ad : Nat) (rc : Nat) (nm : Nat → Nat) (st : Nat → Nat) (an : Nat → Nat) (qc : Nat → Nat) (cn : Nat) (sd : Nat → Nat) (bt : Nat → Nat) (fi : Nat → Option Nat) (se : Nat → Option Nat) (tl : Nat → Nat) (ax : Nat → Nat) (cf : Nat → Bool) (ow : Nat → Nat) (ho : Nat) (ov : Nat) (cs : Nat) (qp : Nat → Nat) (cm : Nat → Nat) (wo : Nat → Nat) (dg : Nat → Nat) (hq : Nat → Nat) (cnt : Nat) (sv : Nat → TSt) (qs : Nat → Nat) (tx : Nat → Nat) (len : Nat) (pos : Nat) (kd : Option Nat) (rw0 : Nat) (ss : Nat) (av : Option Nat) (x : Int32)  : Met lQ yX5_isCase wsX5_isCase (rmN 0 0) (rd_Pc D vwCl [.ref mq, .int x] ((wM kA mq q qc qp hq qs s1 s2) ++ ((wT kA q cc ac co ad rc nm st an) ++ ((wC kA qc q cn sd bt fi se tl ax cf ow ho ov cs) ++ ((wP kA qp q qc cm wo dg) ++ ((wH kA hq cnt sv) ++ (wS kA qs q tx len pos kd rw0 ss av)))))) (tyK kA)) (vp_Si (fun r : Int32 => r = (bI (inB x cn)))) 0 0 (fun _ => False) := by
  refine Met.ofW (cc := cX5_isCase) (maxL := 2) (ret := (some .boolean)) (by decide) rfl ?_
  intro pQ eQ s mQ args below meth cQ s₁ B hml hv
  obtain ⟨rfl, hP, hK⟩ := hv
  have hx := B.exec
  have hb := B.bytes
  have hr := B.returns
  have hts := atoms_spec (ws := wsX5_isCase) B.pre
  have hown : s.vm.findClass RX5 = some mQ.cls := findClass_of_methodNamed B.named
  have hlocks : meth.locks = false := B.notSynchronized
  have hS0 : CallFix pQ mQ cQ cX5_isCase 2 s ([.ref mq, .int x] : List Value).toArray wsX5_isCase RX5 := ⟨hx, hb, hml, hown, hts⟩
  have f21 : (Cond.fieldLink RX5 21 "AskedRules" "cases" "LAskedRules$Cases;").before ([.ref mq, .int x] : List Value).toArray s = true := hts _ (by decide +kernel)
  have hinX5 : ∀ w ∈ wsX50, w ∈ wsX5_isCase := by decide +kernel
  have f263 : (Cond.fieldLink RX5 263 "AskedRules$Cases" "count" "I").before ([.ref mq, .int x] : List Value).toArray s = true := hts _ (by decide +kernel)
  have hinX0 : ∀ w ∈ wsX00, w ∈ wsX5_isCase := by decide +kernel
  have hl := lv_entry ([.ref mq, .int x]) (n := 2) (Nat.le_of_ble_eq_true rfl)
  rw [lg_entry_eq]
  generalize (lg_sl ([.ref mq, .int x]) ++ List.replicate (2 - (lg_sl ([.ref mq, .int x])).length) Slot.unset).toArray = ls at hl ⊢
  have hl : lv_has ls 2 [(0, .ref mq), (1, .int x)] := hl
  have hP : va_P D vwCl ((wM kA mq q qc qp hq qs s1 s2) ++ ((wT kA q cc ac co ad rc nm st an) ++ ((wC kA qc q cn sd bt fi se tl ax cf ow ho ov cs) ++ ((wP kA qp q qc cm wo dg) ++ ((wH kA hq cnt sv) ++ (wS kA qs q tx len pos kd rw0 ss av)))))) s.heap := hP
  refine lv_iload_n hx hb dX5_isCase_0 rfl (lv_at hl 1 rfl) ?_
  refine lv_if_lt (tgt := 19) hx hb dX5_isCase_1 (by decide) (fun c1 => ?_) (fun c1 => ?_)
  · refine lv_iconst (v := (nI 0)) hx hb dX5_isCase_19 (by decide) ?_
    exact n_retz hx hb hr hlocks (post := fun r : Int32 => r = (bI (inB x cn))) rfl (by unfold inB; first | (rw [and_t c1 c12]; rfl) | (rw [and_f1 c1]; rfl) | (rw [and_f2 c12]; rfl)) rfl dX5_isCase_20
  · refine lv_iload_n hx hb dX5_isCase_4 rfl (lv_at hl 1 rfl) ?_
    refine lv_aload_n hx hb dX5_isCase_5 rfl (lv_at hl 0 rfl) ?_
    refine n_get (ci := 5) (v := .ref (qc 0)) (C := RX5) (T := TX5) (N := 7) hx hb hts hinX5 hown hK hP 0 rfl rfl 1 rfl ⟨rfl, rfl, rfl⟩ f21 rfl dX5_isCase_6 ?_
    refine n_get (ci := 0) (v := .int (nI cn)) (C := RX0) (T := TX0) (N := 13) hx hb hts hinX0 hown hK hP 7 rfl rfl 1 rfl ⟨rfl, rfl, rfl⟩ f263 rfl dX5_isCase_9 ?_
    refine lv_icmp_ge (tgt := 19) hx hb dX5_isCase_12 (by decide) (fun c12 => ?_) (fun c12 => ?_)
    · refine lv_iconst (v := (nI 0)) hx hb dX5_isCase_19 (by decide) ?_
      exact n_retz hx hb hr hlocks (post := fun r : Int32 => r = (bI (inB x cn))) rfl (by unfold inB; first | (rw [and_t c1 c12]; rfl) | (rw [and_f1 c1]; rfl) | (rw [and_f2 c12]; rfl)) rfl dX5_isCase_20
    · refine lv_iconst (v := (nI 1)) hx hb dX5_isCase_15 (by decide) ?_
      refine lv_goto (tgt := 20) hx hb dX5_isCase_16 (by decide) ?_
      exact n_retz hx hb hr hlocks (post := fun r : Int32 => r = (bI (inB x cn))) rfl (by unfold inB; first | (rw [and_t c1 c12]; rfl) | (rw [and_f1 c1]; rfl) | (rw [and_f2 c12]; rfl)) rfl dX5_isCase_20

set_option maxHeartbeats 4000000 in
set_option maxRecDepth 100000 in
theorem c_X5_saveForChange (lQ : Launch) (D : va_G) (kA : Nat → ClassId) (mq : Nat) (s1 : Bool) (s2 : Bool) (q : Nat → Nat) (cc : Nat) (ac : Nat → Nat) (co : Nat → Nat) (ad : Nat) (rc : Nat) (nm : Nat → Nat) (st : Nat → Nat) (an : Nat → Nat) (qc : Nat → Nat) (cn : Nat) (sd : Nat → Nat) (bt : Nat → Nat) (fi : Nat → Option Nat) (se : Nat → Option Nat) (tl : Nat → Nat) (ax : Nat → Nat) (cf : Nat → Bool) (ow : Nat → Nat) (ho : Nat) (ov : Nat) (cs : Nat) (qp : Nat → Nat) (cm : Nat → Nat) (wo : Nat → Nat) (dg : Nat → Nat) (hq : Nat → Nat) (cnt : Nat) (sv : Nat → TSt) (qs : Nat → Nat) (tx : Nat → Nat) (len : Nat) (pos : Nat) (kd : Option Nat) (rw0 : Nat) (ss : Nat) (av : Option Nat) (sz : Nat) (hcn : cnt ≤ 4) : Met lQ yX5_saveForChange wsX5_saveForChange (rmN 3 83) (wr_Pc D vwCl [.ref mq] ((wM kA mq q qc qp hq qs s1 s2) ++ ((wT kA q cc ac co ad rc nm st an) ++ ((wC kA qc q cn sd bt fi se tl ax cf ow ho ov cs) ++ ((wP kA qp q qc cm wo dg) ++ ((wH kA hq cnt sv) ++ (wS kA qs q tx len pos kd rw0 ss av)))))) (tyK kA) sz) (va_Qv (S := Unit) (fun (u : Unit) => True) (wr_B D vwCl ((wM kA mq q qc qp hq qs s1 s2) ++ ((wT kA q cc ac co ad rc nm st an) ++ ((wC kA qc q cn sd bt fi se tl ax cf ow ho ov cs) ++ ((wP kA qp q qc cm wo dg) ++ ((wH kA hq cnt sv) ++ (wS kA qs q tx len pos kd rw0 ss av)))))) (tyK kA) sz (fun u => ((wM kA mq q qc qp hq qs true true) ++ ((wT kA q cc ac co ad rc nm st an) ++ ((wC kA qc q cn sd bt fi se tl ax cf ow ho ov cs) ++ ((wP kA qp q qc cm wo dg) ++ ((wH kA hq (cntF cnt) (savF cnt sv (cc, ac, co, ad, rc, nm, st, an))) ++ (wS kA qs q tx len pos kd rw0 ss av)))))))) (va_A ((wM kA mq q qc qp hq qs s1 s2) ++ ((wT kA q cc ac co ad rc nm st an) ++ ((wC kA qc q cn sd bt fi se tl ax cf ow ho ov cs) ++ ((wP kA qp q qc cm wo dg) ++ ((wH kA hq cnt sv) ++ (wS kA qs q tx len pos kd rw0 ss av)))))) sz)) 0 0 (va_A ((wM kA mq q qc qp hq qs s1 s2) ++ ((wT kA q cc ac co ad rc nm st an) ++ ((wC kA qc q cn sd bt fi se tl ax cf ow ho ov cs) ++ ((wP kA qp q qc cm wo dg) ++ ((wH kA hq cnt sv) ++ (wS kA qs q tx len pos kd rw0 ss av)))))) sz) := by
  refine Met.ofW (cc := cX5_saveForChange) (maxL := 1) (ret := none) (by decide) rfl ?_
  intro pQ eQ s mQ args below meth cQ s₁ B hml hv
  obtain ⟨rfl, hsz, hP, hK, hD0⟩ := hv
  have hx := B.exec
  have hb := B.bytes
  have hr := B.returns
  have hts := atoms_spec (ws := wsX5_saveForChange) B.pre
  have hown : s.vm.findClass RX5 = some mQ.cls := findClass_of_methodNamed B.named
  have hlocks : meth.locks = false := B.notSynchronized
  have hS0 : CallFix pQ mQ cQ cX5_saveForChange 1 s ([.ref mq] : List Value).toArray wsX5_saveForChange RX5 := ⟨hx, hb, hml, hown, hts⟩
  subst hsz
  have hD := hD0.self (sz := s.heap.size)
  generalize hAe : va_A ((wM kA mq q qc qp hq qs s1 s2) ++ ((wT kA q cc ac co ad rc nm st an) ++ ((wC kA qc q cn sd bt fi se tl ax cf ow ho ov cs) ++ ((wP kA qp q qc cm wo dg) ++ ((wH kA hq cnt sv) ++ (wS kA qs q tx len pos kd rw0 ss av)))))) s.heap.size = A at hD ⊢
  have hA : ∀ q : Nat, s.heap.size ≤ q → A q := fun q h => by rw [← hAe]; exact Or.inr h
  have hS : va_S A s.heap s.heap [] := va_S.rf
  have f37 : (Cond.fieldLink RX5 37 "AskedRules" "history" "LAskedRules$History;").before ([.ref mq] : List Value).toArray s = true := hts _ (by decide +kernel)
  have hinX5 : ∀ w ∈ wsX50, w ∈ wsX5_saveForChange := by decide +kernel
  have f10 : (Cond.fieldLink RX5 10 "AskedRules" "table" "LAskedRules$Table;").before ([.ref mq] : List Value).toArray s = true := hts _ (by decide +kernel)
  have f48 : (Cond.fieldLink RX5 48 "AskedRules" "casesStale" "Z").before ([.ref mq] : List Value).toArray s = true := hts _ (by decide +kernel)
  have f52 : (Cond.fieldLink RX5 52 "AskedRules" "plansStale" "Z").before ([.ref mq] : List Value).toArray s = true := hts _ (by decide +kernel)
  have hl := lv_entry ([.ref mq]) (n := 1) (Nat.le_of_ble_eq_true rfl)
  rw [lg_entry_eq]
  generalize (lg_sl ([.ref mq]) ++ List.replicate (1 - (lg_sl ([.ref mq])).length) Slot.unset).toArray = ls at hl ⊢
  have hl : lv_has ls 1 [(0, .ref mq)] := hl
  have hP : va_P D vwCl ((wM kA mq q qc qp hq qs s1 s2) ++ ((wT kA q cc ac co ad rc nm st an) ++ ((wC kA qc q cn sd bt fi se tl ax cf ow ho ov cs) ++ ((wP kA qp q qc cm wo dg) ++ ((wH kA hq cnt sv) ++ (wS kA qs q tx len pos kd rw0 ss av)))))) s.heap := hP
  have hD : va_D A ((wM kA mq q qc qp hq qs s1 s2) ++ ((wT kA q cc ac co ad rc nm st an) ++ ((wC kA qc q cn sd bt fi se tl ax cf ow ho ov cs) ++ ((wP kA qp q qc cm wo dg) ++ ((wH kA hq cnt sv) ++ (wS kA qs q tx len pos kd rw0 ss av)))))) := hD
  refine lv_aload_n hx hb dX5_saveForChange_0 rfl (lv_at hl 0 rfl) ?_
  refine n_get (ci := 5) (v := .ref (hq 0)) (C := RX5) (T := TX5) (N := 7) hx hb hts hinX5 hown hK hP 0 rfl rfl 3 rfl ⟨rfl, rfl, rfl⟩ f37 rfl dX5_saveForChange_1 ?_
  refine lv_aload_n hx hb dX5_saveForChange_4 rfl (lv_at hl 0 rfl) ?_
  refine n_get (ci := 5) (v := .ref (q 0)) (C := RX5) (T := TX5) (N := 7) hx hb hts hinX5 hown hK hP 0 rfl rfl 0 rfl ⟨rfl, rfl, rfl⟩ f10 rfl dX5_saveForChange_5 ?_
  refine n_wVv (b := hq 0) (As := [.ref (q 0)]) (rest := []) (wr := ((wM kA mq q qc qp hq qs s1 s2) ++ ((wC kA qc q cn sd bt fi se tl ax cf ow ho ov cs) ++ ((wP kA qp q qc cm wo dg) ++ (wS kA qs q tx len pos kd rw0 ss av))))) (ws' := fun u => ((wM kA mq q qc qp hq qs s1 s2) ++ ((wT kA q cc ac co ad rc nm st an) ++ ((wC kA qc q cn sd bt fi se tl ax cf ow ho ov cs) ++ ((wP kA qp q qc cm wo dg) ++ ((wH kA hq (cntF cnt) (savF cnt sv (cc, ac, co, ad, rc, nm, st, an))) ++ (wS kA qs q tx len pos kd rw0 ss av))))))) hS0 (c_X1_save lQ D kA hq cnt sv q cc ac co ad rc nm st an s.heap.size (by first | assumption | omega)) (cwV 1 hts gX5_saveForChange_X1_save rfl rfl rfl (by decide +kernel) ⟨Nat.le_of_ble_eq_true rfl, Nat.le_of_ble_eq_true rfl⟩) hP hD hS hA hK hK (by simpa only [List.append_assoc, List.append_nil] using (((List.Perm.append_left _ ((List.Perm.append_left _ ((List.Perm.append_left _ ((List.Perm.append_left _ (List.Perm.refl _)).trans (List.perm_append_comm_assoc _ _ _))).trans (List.perm_append_comm_assoc _ _ _))).trans (List.perm_append_comm_assoc _ _ _))).trans (List.perm_append_comm_assoc _ _ _)).trans (List.Perm.append_left _ ((List.Perm.append_left _ (List.Perm.refl _)).trans (List.perm_append_comm_assoc _ _ _))))) (fun u => List.Perm.symm (by simpa only [List.append_assoc, List.append_nil] using (((List.Perm.append_left _ ((List.Perm.append_left _ ((List.Perm.append_left _ ((List.Perm.append_left _ (List.Perm.refl _)).trans (List.perm_append_comm_assoc _ _ _))).trans (List.perm_append_comm_assoc _ _ _))).trans (List.perm_append_comm_assoc _ _ _))).trans (List.perm_append_comm_assoc _ _ _)).trans (List.Perm.append_left _ ((List.Perm.append_left _ (List.Perm.refl _)).trans (List.perm_append_comm_assoc _ _ _)))))) (q0 := 0) rfl rfl rfl rfl rfl hl.1 (Nat.le_of_ble_eq_true rfl) dX5_saveForChange_8 ⟨Nat.le_refl _, Nat.le_refl _⟩ (fun u8 H locs h8 hP hD hS => ?_)
  have hP : va_P D vwCl ((wM kA mq q qc qp hq qs s1 s2) ++ ((wT kA q cc ac co ad rc nm st an) ++ ((wC kA qc q cn sd bt fi se tl ax cf ow ho ov cs) ++ ((wP kA qp q qc cm wo dg) ++ ((wH kA hq (cntF cnt) (savF cnt sv (cc, ac, co, ad, rc, nm, st, an))) ++ (wS kA qs q tx len pos kd rw0 ss av)))))) H := hP
  have hD : va_D A ((wM kA mq q qc qp hq qs s1 s2) ++ ((wT kA q cc ac co ad rc nm st an) ++ ((wC kA qc q cn sd bt fi se tl ax cf ow ho ov cs) ++ ((wP kA qp q qc cm wo dg) ++ ((wH kA hq (cntF cnt) (savF cnt sv (cc, ac, co, ad, rc, nm, st, an))) ++ (wS kA qs q tx len pos kd rw0 ss av)))))) := hD
  refine lv_aload_n hx hb dX5_saveForChange_11 rfl (lv_at hl 0 rfl) ?_
  refine lv_iconst (v := (nI 1)) hx hb dX5_saveForChange_12 (by decide) ?_
  refine n_put (ci := 5) (v := .int (bI true)) (C := RX5) (T := TX5) (N := 7) (ws' := ((wM kA mq q qc qp hq qs true s2) ++ ((wT kA q cc ac co ad rc nm st an) ++ ((wC kA qc q cn sd bt fi se tl ax cf ow ho ov cs) ++ ((wP kA qp q qc cm wo dg) ++ ((wH kA hq (cntF cnt) (savF cnt sv (cc, ac, co, ad, rc, nm, st, an))) ++ (wS kA qs q tx len pos kd rw0 ss av))))))) hx hb hts hinX5 tyX5 tyX5_ok nmX5 hown hK hP hD hS 0 rfl rfl 5 rfl ⟨rfl, rfl, rfl, rfl⟩ f48 (narrow_bI _) (fits_bI _) rfl rfl dX5_saveForChange_13 (fun H locs hP hD hS => ?_)
  refine lv_aload_n hx hb dX5_saveForChange_16 rfl (lv_at hl 0 rfl) ?_
  refine lv_iconst (v := (nI 1)) hx hb dX5_saveForChange_17 (by decide) ?_
  refine n_put (ci := 5) (v := .int (bI true)) (C := RX5) (T := TX5) (N := 7) (ws' := ((wM kA mq q qc qp hq qs true true) ++ ((wT kA q cc ac co ad rc nm st an) ++ ((wC kA qc q cn sd bt fi se tl ax cf ow ho ov cs) ++ ((wP kA qp q qc cm wo dg) ++ ((wH kA hq (cntF cnt) (savF cnt sv (cc, ac, co, ad, rc, nm, st, an))) ++ (wS kA qs q tx len pos kd rw0 ss av))))))) hx hb hts hinX5 tyX5 tyX5_ok nmX5 hown hK hP hD hS 0 rfl rfl 6 rfl ⟨rfl, rfl, rfl, rfl⟩ f52 (narrow_bI _) (fits_bI _) rfl rfl dX5_saveForChange_18 (fun H locs hP hD hS => ?_)
  exact n_wretv hx hb hr hlocks (post := fun (u : Unit) => True) (w1 := fun u => ((wM kA mq q qc qp hq qs true true) ++ ((wT kA q cc ac co ad rc nm st an) ++ ((wC kA qc q cn sd bt fi se tl ax cf ow ho ov cs) ++ ((wP kA qp q qc cm wo dg) ++ ((wH kA hq (cntF cnt) (savF cnt sv (cc, ac, co, ad, rc, nm, st, an))) ++ (wS kA qs q tx len pos kd rw0 ss av))))))) () trivial hP hD hK hS hAe dX5_saveForChange_21

set_option maxHeartbeats 4000000 in
set_option maxRecDepth 100000 in
theorem c_X5_freshCases (lQ : Launch) (D : va_G) (kA : Nat → ClassId) (mq : Nat) (s1 : Bool) (s2 : Bool) (q : Nat → Nat) (cc : Nat) (ac : Nat → Nat) (co : Nat → Nat) (ad : Nat) (rc : Nat) (nm : Nat → Nat) (st : Nat → Nat) (an : Nat → Nat) (qc : Nat → Nat) (cn : Nat) (sd : Nat → Nat) (bt : Nat → Nat) (fi : Nat → Option Nat) (se : Nat → Option Nat) (tl : Nat → Nat) (ax : Nat → Nat) (cf : Nat → Bool) (ow : Nat → Nat) (ho : Nat) (ov : Nat) (cs : Nat) (qp : Nat → Nat) (cm : Nat → Nat) (wo : Nat → Nat) (dg : Nat → Nat) (hq : Nat → Nat) (cnt : Nat) (sv : Nat → TSt) (qs : Nat → Nat) (tx : Nat → Nat) (len : Nat) (pos : Nat) (kd : Option Nat) (rw0 : Nat) (ss : Nat) (av : Option Nat) (sz : Nat) (hcc : cc ≤ 5) (hac : ∀ k, k < cc → 2 ≤ ac k ∧ ac k ≤ 4) (hrc : rc ≤ 20) (han : ∀ j, j < rc → an j < 11) (hst : ∀ j, j < rc → st j < 1048576) (hcp : s1 = false → cOK cc ac rc st an cn sd bt fi se tl ax cf ow ho ov cs) : Met lQ yX5_freshCases wsX5_freshCases (rmN 2 45) (wr_Pc D vwCl [.ref mq] ((wM kA mq q qc qp hq qs s1 s2) ++ ((wT kA q cc ac co ad rc nm st an) ++ ((wC kA qc q cn sd bt fi se tl ax cf ow ho ov cs) ++ ((wP kA qp q qc cm wo dg) ++ ((wH kA hq cnt sv) ++ (wS kA qs q tx len pos kd rw0 ss av)))))) (tyK kA) sz) (va_Qv (S := Nat × (Nat → Nat) × (Nat → Nat) × (Nat → Option Nat) × (Nat → Option Nat) × (Nat → Nat) × (Nat → Nat) × (Nat → Bool) × (Nat → Nat) × Nat × Nat × Nat) (fun (u : Nat × (Nat → Nat) × (Nat → Nat) × (Nat → Option Nat) × (Nat → Option Nat) × (Nat → Nat) × (Nat → Nat) × (Nat → Bool) × (Nat → Nat) × Nat × Nat × Nat) => cOK cc ac rc st an u.1 u.2.1 u.2.2.1 u.2.2.2.1 u.2.2.2.2.1 u.2.2.2.2.2.1 u.2.2.2.2.2.2.1 u.2.2.2.2.2.2.2.1 u.2.2.2.2.2.2.2.2.1 u.2.2.2.2.2.2.2.2.2.1 u.2.2.2.2.2.2.2.2.2.2.1 u.2.2.2.2.2.2.2.2.2.2.2 ∧ (s1 = false → u.2.1 = sd ∧ u.2.2.2.2.2.2.1 = ax)) (wr_B D vwCl ((wM kA mq q qc qp hq qs s1 s2) ++ ((wT kA q cc ac co ad rc nm st an) ++ ((wC kA qc q cn sd bt fi se tl ax cf ow ho ov cs) ++ ((wP kA qp q qc cm wo dg) ++ ((wH kA hq cnt sv) ++ (wS kA qs q tx len pos kd rw0 ss av)))))) (tyK kA) sz (fun u => ((wM kA mq q qc qp hq qs false s2) ++ ((wT kA q cc ac co ad rc nm st an) ++ ((wC kA qc q u.1 u.2.1 u.2.2.1 u.2.2.2.1 u.2.2.2.2.1 u.2.2.2.2.2.1 u.2.2.2.2.2.2.1 u.2.2.2.2.2.2.2.1 u.2.2.2.2.2.2.2.2.1 u.2.2.2.2.2.2.2.2.2.1 u.2.2.2.2.2.2.2.2.2.2.1 u.2.2.2.2.2.2.2.2.2.2.2) ++ ((wP kA qp q qc cm wo dg) ++ ((wH kA hq cnt sv) ++ (wS kA qs q tx len pos kd rw0 ss av)))))))) (va_A ((wM kA mq q qc qp hq qs s1 s2) ++ ((wT kA q cc ac co ad rc nm st an) ++ ((wC kA qc q cn sd bt fi se tl ax cf ow ho ov cs) ++ ((wP kA qp q qc cm wo dg) ++ ((wH kA hq cnt sv) ++ (wS kA qs q tx len pos kd rw0 ss av)))))) sz)) 0 0 (va_A ((wM kA mq q qc qp hq qs s1 s2) ++ ((wT kA q cc ac co ad rc nm st an) ++ ((wC kA qc q cn sd bt fi se tl ax cf ow ho ov cs) ++ ((wP kA qp q qc cm wo dg) ++ ((wH kA hq cnt sv) ++ (wS kA qs q tx len pos kd rw0 ss av)))))) sz) := by
  refine Met.ofW (cc := cX5_freshCases) (maxL := 1) (ret := none) (by decide) rfl ?_
  intro pQ eQ s mQ args below meth cQ s₁ B hml hv
  obtain ⟨rfl, hsz, hP, hK, hD0⟩ := hv
  have hx := B.exec
  have hb := B.bytes
  have hr := B.returns
  have hts := atoms_spec (ws := wsX5_freshCases) B.pre
  have hown : s.vm.findClass RX5 = some mQ.cls := findClass_of_methodNamed B.named
  have hlocks : meth.locks = false := B.notSynchronized
  have hS0 : CallFix pQ mQ cQ cX5_freshCases 1 s ([.ref mq] : List Value).toArray wsX5_freshCases RX5 := ⟨hx, hb, hml, hown, hts⟩
  subst hsz
  have hD := hD0.self (sz := s.heap.size)
  generalize hAe : va_A ((wM kA mq q qc qp hq qs s1 s2) ++ ((wT kA q cc ac co ad rc nm st an) ++ ((wC kA qc q cn sd bt fi se tl ax cf ow ho ov cs) ++ ((wP kA qp q qc cm wo dg) ++ ((wH kA hq cnt sv) ++ (wS kA qs q tx len pos kd rw0 ss av)))))) s.heap.size = A at hD ⊢
  have hA : ∀ q : Nat, s.heap.size ≤ q → A q := fun q h => by rw [← hAe]; exact Or.inr h
  have hS : va_S A s.heap s.heap [] := va_S.rf
  have f48 : (Cond.fieldLink RX5 48 "AskedRules" "casesStale" "Z").before ([.ref mq] : List Value).toArray s = true := hts _ (by decide +kernel)
  have hinX5 : ∀ w ∈ wsX50, w ∈ wsX5_freshCases := by decide +kernel
  have f21 : (Cond.fieldLink RX5 21 "AskedRules" "cases" "LAskedRules$Cases;").before ([.ref mq] : List Value).toArray s = true := hts _ (by decide +kernel)
  have hl := lv_entry ([.ref mq]) (n := 1) (Nat.le_of_ble_eq_true rfl)
  rw [lg_entry_eq]
  generalize (lg_sl ([.ref mq]) ++ List.replicate (1 - (lg_sl ([.ref mq])).length) Slot.unset).toArray = ls at hl ⊢
  have hl : lv_has ls 1 [(0, .ref mq)] := hl
  have hP : va_P D vwCl ((wM kA mq q qc qp hq qs s1 s2) ++ ((wT kA q cc ac co ad rc nm st an) ++ ((wC kA qc q cn sd bt fi se tl ax cf ow ho ov cs) ++ ((wP kA qp q qc cm wo dg) ++ ((wH kA hq cnt sv) ++ (wS kA qs q tx len pos kd rw0 ss av)))))) s.heap := hP
  have hD : va_D A ((wM kA mq q qc qp hq qs s1 s2) ++ ((wT kA q cc ac co ad rc nm st an) ++ ((wC kA qc q cn sd bt fi se tl ax cf ow ho ov cs) ++ ((wP kA qp q qc cm wo dg) ++ ((wH kA hq cnt sv) ++ (wS kA qs q tx len pos kd rw0 ss av)))))) := hD
  refine lv_aload_n hx hb dX5_freshCases_0 rfl (lv_at hl 0 rfl) ?_
  refine n_get (ci := 5) (v := .int (bI s1)) (C := RX5) (T := TX5) (N := 7) hx hb hts hinX5 hown hK hP 0 rfl rfl 5 rfl ⟨rfl, rfl, rfl⟩ f48 rfl dX5_freshCases_1 ?_
  refine n_ifb_eq (b := s1) (tgt := 19) hx hb dX5_freshCases_4 (by decide) (fun c4 => ?_) (fun c4 => ?_)
  · rw [c4] at hP hD
    exact n_wretv hx hb hr hlocks (post := fun (u : Nat × (Nat → Nat) × (Nat → Nat) × (Nat → Option Nat) × (Nat → Option Nat) × (Nat → Nat) × (Nat → Nat) × (Nat → Bool) × (Nat → Nat) × Nat × Nat × Nat) => cOK cc ac rc st an u.1 u.2.1 u.2.2.1 u.2.2.2.1 u.2.2.2.2.1 u.2.2.2.2.2.1 u.2.2.2.2.2.2.1 u.2.2.2.2.2.2.2.1 u.2.2.2.2.2.2.2.2.1 u.2.2.2.2.2.2.2.2.2.1 u.2.2.2.2.2.2.2.2.2.2.1 u.2.2.2.2.2.2.2.2.2.2.2 ∧ (s1 = false → u.2.1 = sd ∧ u.2.2.2.2.2.2.1 = ax)) (w1 := fun u => ((wM kA mq q qc qp hq qs false s2) ++ ((wT kA q cc ac co ad rc nm st an) ++ ((wC kA qc q u.1 u.2.1 u.2.2.1 u.2.2.2.1 u.2.2.2.2.1 u.2.2.2.2.2.1 u.2.2.2.2.2.2.1 u.2.2.2.2.2.2.2.1 u.2.2.2.2.2.2.2.2.1 u.2.2.2.2.2.2.2.2.2.1 u.2.2.2.2.2.2.2.2.2.2.1 u.2.2.2.2.2.2.2.2.2.2.2) ++ ((wP kA qp q qc cm wo dg) ++ ((wH kA hq cnt sv) ++ (wS kA qs q tx len pos kd rw0 ss av))))))) (cn, sd, bt, fi, se, tl, ax, cf, ow, ho, ov, cs) (by first | exact ⟨hcp c4, fun _ => ⟨rfl, rfl⟩⟩ | exact ⟨h11, fun h => absurd (h.symm.trans c4) (by decide)⟩) hP hD hK hS hAe dX5_freshCases_19
  · refine lv_aload_n hx hb dX5_freshCases_7 rfl (lv_at hl 0 rfl) ?_
    refine n_get (ci := 5) (v := .ref (qc 0)) (C := RX5) (T := TX5) (N := 7) hx hb hts hinX5 hown hK hP 0 rfl rfl 1 rfl ⟨rfl, rfl, rfl⟩ f21 rfl dX5_freshCases_8 ?_
    refine n_wVv (b := qc 0) (As := []) (rest := []) (wr := ((wM kA mq q qc qp hq qs s1 s2) ++ ((wP kA qp q qc cm wo dg) ++ ((wH kA hq cnt sv) ++ (wS kA qs q tx len pos kd rw0 ss av))))) (ws' := fun u => ((wM kA mq q qc qp hq qs s1 s2) ++ ((wT kA q cc ac co ad rc nm st an) ++ ((wC kA qc q u.1 u.2.1 u.2.2.1 u.2.2.2.1 u.2.2.2.2.1 u.2.2.2.2.2.1 u.2.2.2.2.2.2.1 u.2.2.2.2.2.2.2.1 u.2.2.2.2.2.2.2.2.1 u.2.2.2.2.2.2.2.2.2.1 u.2.2.2.2.2.2.2.2.2.2.1 u.2.2.2.2.2.2.2.2.2.2.2) ++ ((wP kA qp q qc cm wo dg) ++ ((wH kA hq cnt sv) ++ (wS kA qs q tx len pos kd rw0 ss av))))))) hS0 (c_X0_refresh lQ D kA qc cn sd bt fi se tl ax cf ow ho ov cs q cc ac co ad rc nm st an s.heap.size (by first | assumption | omega) (by first | assumption | omega) (by first | assumption | omega) (by first | assumption | omega) (by first | assumption | omega)) (cwV 0 hts gX5_freshCases_X0_refresh rfl rfl rfl (by decide +kernel) ⟨Nat.le_of_ble_eq_true rfl, Nat.le_of_ble_eq_true rfl⟩) hP hD hS hA hK hK (by simpa only [List.append_assoc, List.append_nil] using (((List.Perm.append_left _ ((List.Perm.append_left _ (List.Perm.refl _)).trans (List.perm_append_comm_assoc _ _ _))).trans (List.perm_append_comm_assoc _ _ _)).trans (List.Perm.append_left _ ((List.Perm.append_left _ (List.Perm.refl _)).trans (List.perm_append_comm_assoc _ _ _))))) (fun u => List.Perm.symm (by simpa only [List.append_assoc, List.append_nil] using (((List.Perm.append_left _ ((List.Perm.append_left _ (List.Perm.refl _)).trans (List.perm_append_comm_assoc _ _ _))).trans (List.perm_append_comm_assoc _ _ _)).trans (List.Perm.append_left _ ((List.Perm.append_left _ (List.Perm.refl _)).trans (List.perm_append_comm_assoc _ _ _)))))) (q0 := 0) rfl rfl rfl rfl rfl hl.1 (Nat.le_of_ble_eq_true rfl) dX5_freshCases_11 ⟨Nat.le_refl _, Nat.le_refl _⟩ (fun u11 H locs h11 hP hD hS => ?_)
    obtain ⟨cn1_11, sd1_11, bt1_11, fi1_11, se1_11, tl1_11, ax1_11, cf1_11, ow1_11, ho1_11, ov1_11, cs1_11⟩ := u11
    have h11_1 := h11
    try dsimp only at h11_1
    have hP : va_P D vwCl ((wM kA mq q qc qp hq qs s1 s2) ++ ((wT kA q cc ac co ad rc nm st an) ++ ((wC kA qc q cn1_11 sd1_11 bt1_11 fi1_11 se1_11 tl1_11 ax1_11 cf1_11 ow1_11 ho1_11 ov1_11 cs1_11) ++ ((wP kA qp q qc cm wo dg) ++ ((wH kA hq cnt sv) ++ (wS kA qs q tx len pos kd rw0 ss av)))))) H := hP
    have hD : va_D A ((wM kA mq q qc qp hq qs s1 s2) ++ ((wT kA q cc ac co ad rc nm st an) ++ ((wC kA qc q cn1_11 sd1_11 bt1_11 fi1_11 se1_11 tl1_11 ax1_11 cf1_11 ow1_11 ho1_11 ov1_11 cs1_11) ++ ((wP kA qp q qc cm wo dg) ++ ((wH kA hq cnt sv) ++ (wS kA qs q tx len pos kd rw0 ss av)))))) := hD
    refine lv_aload_n hx hb dX5_freshCases_14 rfl (lv_at hl 0 rfl) ?_
    refine lv_iconst (v := (nI 0)) hx hb dX5_freshCases_15 (by decide) ?_
    refine n_put (ci := 5) (v := .int (bI false)) (C := RX5) (T := TX5) (N := 7) (ws' := ((wM kA mq q qc qp hq qs false s2) ++ ((wT kA q cc ac co ad rc nm st an) ++ ((wC kA qc q cn1_11 sd1_11 bt1_11 fi1_11 se1_11 tl1_11 ax1_11 cf1_11 ow1_11 ho1_11 ov1_11 cs1_11) ++ ((wP kA qp q qc cm wo dg) ++ ((wH kA hq cnt sv) ++ (wS kA qs q tx len pos kd rw0 ss av))))))) hx hb hts hinX5 tyX5 tyX5_ok nmX5 hown hK hP hD hS 0 rfl rfl 5 rfl ⟨rfl, rfl, rfl, rfl⟩ f48 (narrow_bI _) (fits_bI _) rfl rfl dX5_freshCases_16 (fun H locs hP hD hS => ?_)
    exact n_wretv hx hb hr hlocks (post := fun (u : Nat × (Nat → Nat) × (Nat → Nat) × (Nat → Option Nat) × (Nat → Option Nat) × (Nat → Nat) × (Nat → Nat) × (Nat → Bool) × (Nat → Nat) × Nat × Nat × Nat) => cOK cc ac rc st an u.1 u.2.1 u.2.2.1 u.2.2.2.1 u.2.2.2.2.1 u.2.2.2.2.2.1 u.2.2.2.2.2.2.1 u.2.2.2.2.2.2.2.1 u.2.2.2.2.2.2.2.2.1 u.2.2.2.2.2.2.2.2.2.1 u.2.2.2.2.2.2.2.2.2.2.1 u.2.2.2.2.2.2.2.2.2.2.2 ∧ (s1 = false → u.2.1 = sd ∧ u.2.2.2.2.2.2.1 = ax)) (w1 := fun u => ((wM kA mq q qc qp hq qs false s2) ++ ((wT kA q cc ac co ad rc nm st an) ++ ((wC kA qc q u.1 u.2.1 u.2.2.1 u.2.2.2.1 u.2.2.2.2.1 u.2.2.2.2.2.1 u.2.2.2.2.2.2.1 u.2.2.2.2.2.2.2.1 u.2.2.2.2.2.2.2.2.1 u.2.2.2.2.2.2.2.2.2.1 u.2.2.2.2.2.2.2.2.2.2.1 u.2.2.2.2.2.2.2.2.2.2.2) ++ ((wP kA qp q qc cm wo dg) ++ ((wH kA hq cnt sv) ++ (wS kA qs q tx len pos kd rw0 ss av))))))) (cn1_11, sd1_11, bt1_11, fi1_11, se1_11, tl1_11, ax1_11, cf1_11, ow1_11, ho1_11, ov1_11, cs1_11) (by first | exact ⟨hcp c4, fun _ => ⟨rfl, rfl⟩⟩ | exact ⟨h11, fun h => absurd (h.symm.trans c4) (by decide)⟩) hP hD hK hS hAe dX5_freshCases_19


theorem cOK_sd {cc : Nat} {ac : Nat → Nat} {rc : Nat} {st an : Nat → Nat} {cn : Nat} {sd bt : Nat → Nat} {fi se : Nat → Option Nat} {tl ax : Nat → Nat} {cf : Nat → Bool} {ow : Nat → Nat} {ho ov cs : Nat} (h : cOK cc ac rc st an cn sd bt fi se tl ax cf ow ho ov cs) : ∀ k, k < cc → sd k = prodF ac k := h.2.1
theorem cOK_cn {cc : Nat} {ac : Nat → Nat} {rc : Nat} {st an : Nat → Nat} {cn : Nat} {sd bt : Nat → Nat} {fi se : Nat → Option Nat} {tl ax : Nat → Nat} {cf : Nat → Bool} {ow : Nat → Nat} {ho ov cs : Nat} (h : cOK cc ac rc st an cn sd bt fi se tl ax cf ow ho ov cs) : cn = prodF ac cc := h.1
theorem actO_lt {an : Nat → Nat} {rc : Nat} {f : Nat → Bool} (han : ∀ j, j < rc → an j < 11) : actO an (firstF f rc) < 11 := by
  cases h : firstF f rc with
  | none => show 10 < 11; decide
  | some q => exact han q (firstF_spec h).1
theorem cOK_ax {cc : Nat} {ac : Nat → Nat} {rc : Nat} {st an : Nat → Nat} {cn : Nat} {sd bt : Nat → Nat} {fi se : Nat → Option Nat} {tl ax : Nat → Nat} {cf : Nat → Bool} {ow : Nat → Nat} {ho ov cs : Nat} (h : cOK cc ac rc st an cn sd bt fi se tl ax cf ow ho ov cs) (han : ∀ j, j < rc → an j < 11) : ∀ c, c < prodF ac cc → ax c < 11 := fun c hc => by
  rw [h.2.2.2.2.2.2.1 c (by rw [h.1]; exact hc)]; exact actO_lt han

set_option maxHeartbeats 4000000 in
set_option maxRecDepth 100000 in
theorem c_X5_freshPlans (lQ : Launch) (D : va_G) (kA : Nat → ClassId) (adK adV : Nat → Nat) (mq : Nat) (s1 : Bool) (s2 : Bool) (q : Nat → Nat) (cc : Nat) (ac : Nat → Nat) (co : Nat → Nat) (ad : Nat) (rc : Nat) (nm : Nat → Nat) (st : Nat → Nat) (an : Nat → Nat) (qc : Nat → Nat) (cn : Nat) (sd : Nat → Nat) (bt : Nat → Nat) (fi : Nat → Option Nat) (se : Nat → Option Nat) (tl : Nat → Nat) (ax : Nat → Nat) (cf : Nat → Bool) (ow : Nat → Nat) (ho : Nat) (ov : Nat) (cs : Nat) (qp : Nat → Nat) (cm : Nat → Nat) (wo : Nat → Nat) (dg : Nat → Nat) (hq : Nat → Nat) (cnt : Nat) (sv : Nat → TSt) (qs : Nat → Nat) (tx : Nat → Nat) (len : Nat) (pos : Nat) (kd : Option Nat) (rw0 : Nat) (ss : Nat) (av : Option Nat) (sz : Nat) (hcc : cc ≤ 5) (hac : ∀ k, k < cc → 2 ≤ ac k ∧ ac k ≤ 4) (hrc : rc ≤ 20) (han : ∀ j, j < rc → an j < 11) (hst : ∀ j, j < rc → st j < 1048576) (hco : ∀ k, k < cc → co k < 10) (hcm : ∀ y, y < 3125 → cm y < 12) (hwo : ∀ y, y < 3125 → wo y ≤ 100) (hcp : s1 = false → cOK cc ac rc st an cn sd bt fi se tl ax cf ow ho ov cs) (hpp : s2 = false → s1 = false ∧ plOK cc ac co sd ax cm wo) : Met lQ yX5_freshPlans wsX5_freshPlans (rmN 4 92) (wrE_Pc D vwCl adK adV [.ref mq] ((wM kA mq q qc qp hq qs s1 s2) ++ ((wT kA q cc ac co ad rc nm st an) ++ ((wC kA qc q cn sd bt fi se tl ax cf ow ho ov cs) ++ ((wP kA qp q qc cm wo dg) ++ ((wH kA hq cnt sv) ++ (wS kA qs q tx len pos kd rw0 ss av)))))) (tyK kA) sz) (va_Qv (S := Nat × (Nat → Nat) × (Nat → Nat) × (Nat → Option Nat) × (Nat → Option Nat) × (Nat → Nat) × (Nat → Nat) × (Nat → Bool) × (Nat → Nat) × Nat × Nat × Nat × (Nat → Nat) × (Nat → Nat) × (Nat → Nat)) (fun (u : Nat × (Nat → Nat) × (Nat → Nat) × (Nat → Option Nat) × (Nat → Option Nat) × (Nat → Nat) × (Nat → Nat) × (Nat → Bool) × (Nat → Nat) × Nat × Nat × Nat × (Nat → Nat) × (Nat → Nat) × (Nat → Nat)) => cOK cc ac rc st an u.1 u.2.1 u.2.2.1 u.2.2.2.1 u.2.2.2.2.1 u.2.2.2.2.2.1 u.2.2.2.2.2.2.1 u.2.2.2.2.2.2.2.1 u.2.2.2.2.2.2.2.2.1 u.2.2.2.2.2.2.2.2.2.1 u.2.2.2.2.2.2.2.2.2.2.1 u.2.2.2.2.2.2.2.2.2.2.2.1 ∧ plOK cc ac co u.2.1 u.2.2.2.2.2.2.1 u.2.2.2.2.2.2.2.2.2.2.2.2.1 u.2.2.2.2.2.2.2.2.2.2.2.2.2.1 ∧ (∀ y, y < 3125 → u.2.2.2.2.2.2.2.2.2.2.2.2.1 y < 12) ∧ (∀ y, y < 3125 → u.2.2.2.2.2.2.2.2.2.2.2.2.2.1 y ≤ 100)) (wr_B D vwCl ((wM kA mq q qc qp hq qs s1 s2) ++ ((wT kA q cc ac co ad rc nm st an) ++ ((wC kA qc q cn sd bt fi se tl ax cf ow ho ov cs) ++ ((wP kA qp q qc cm wo dg) ++ ((wH kA hq cnt sv) ++ (wS kA qs q tx len pos kd rw0 ss av)))))) (tyK kA) sz (fun u => ((wM kA mq q qc qp hq qs false false) ++ ((wT kA q cc ac co ad rc nm st an) ++ ((wC kA qc q u.1 u.2.1 u.2.2.1 u.2.2.2.1 u.2.2.2.2.1 u.2.2.2.2.2.1 u.2.2.2.2.2.2.1 u.2.2.2.2.2.2.2.1 u.2.2.2.2.2.2.2.2.1 u.2.2.2.2.2.2.2.2.2.1 u.2.2.2.2.2.2.2.2.2.2.1 u.2.2.2.2.2.2.2.2.2.2.2.1) ++ ((wP kA qp q qc u.2.2.2.2.2.2.2.2.2.2.2.2.1 u.2.2.2.2.2.2.2.2.2.2.2.2.2.1 u.2.2.2.2.2.2.2.2.2.2.2.2.2.2) ++ ((wH kA hq cnt sv) ++ (wS kA qs q tx len pos kd rw0 ss av)))))))) (va_A ((wM kA mq q qc qp hq qs s1 s2) ++ ((wT kA q cc ac co ad rc nm st an) ++ ((wC kA qc q cn sd bt fi se tl ax cf ow ho ov cs) ++ ((wP kA qp q qc cm wo dg) ++ ((wH kA hq cnt sv) ++ (wS kA qs q tx len pos kd rw0 ss av)))))) sz)) 0 0 (va_A ((wM kA mq q qc qp hq qs s1 s2) ++ ((wT kA q cc ac co ad rc nm st an) ++ ((wC kA qc q cn sd bt fi se tl ax cf ow ho ov cs) ++ ((wP kA qp q qc cm wo dg) ++ ((wH kA hq cnt sv) ++ (wS kA qs q tx len pos kd rw0 ss av)))))) sz) := by
  refine Met.ofW (cc := cX5_freshPlans) (maxL := 1) (ret := none) (by decide) rfl ?_
  intro pQ eQ s mQ args below meth cQ s₁ B hml hv
  obtain ⟨rfl, hsz, hP, hK, hD0, hE⟩ := hv
  have hx := B.exec
  have hb := B.bytes
  have hr := B.returns
  have hts := atoms_spec (ws := wsX5_freshPlans) B.pre
  have hown : s.vm.findClass RX5 = some mQ.cls := findClass_of_methodNamed B.named
  have hlocks : meth.locks = false := B.notSynchronized
  have hS0 : CallFix pQ mQ cQ cX5_freshPlans 1 s ([.ref mq] : List Value).toArray wsX5_freshPlans RX5 := ⟨hx, hb, hml, hown, hts⟩
  subst hsz
  have hD := hD0.self (sz := s.heap.size)
  generalize hAe : va_A ((wM kA mq q qc qp hq qs s1 s2) ++ ((wT kA q cc ac co ad rc nm st an) ++ ((wC kA qc q cn sd bt fi se tl ax cf ow ho ov cs) ++ ((wP kA qp q qc cm wo dg) ++ ((wH kA hq cnt sv) ++ (wS kA qs q tx len pos kd rw0 ss av)))))) s.heap.size = A at hD hE ⊢
  have hA : ∀ q : Nat, s.heap.size ≤ q → A q := fun q h => by rw [← hAe]; exact Or.inr h
  have hS : va_S A s.heap s.heap [] := va_S.rf
  have f52 : (Cond.fieldLink RX5 52 "AskedRules" "plansStale" "Z").before ([.ref mq] : List Value).toArray s = true := hts _ (by decide +kernel)
  have hinX5 : ∀ w ∈ wsX50, w ∈ wsX5_freshPlans := by decide +kernel
  have f30 : (Cond.fieldLink RX5 30 "AskedRules" "plans" "LAskedRules$Plans;").before ([.ref mq] : List Value).toArray s = true := hts _ (by decide +kernel)
  have hl := lv_entry ([.ref mq]) (n := 1) (Nat.le_of_ble_eq_true rfl)
  rw [lg_entry_eq]
  generalize (lg_sl ([.ref mq]) ++ List.replicate (1 - (lg_sl ([.ref mq])).length) Slot.unset).toArray = ls at hl ⊢
  have hl : lv_has ls 1 [(0, .ref mq)] := hl
  have hP : va_P D vwCl ((wM kA mq q qc qp hq qs s1 s2) ++ ((wT kA q cc ac co ad rc nm st an) ++ ((wC kA qc q cn sd bt fi se tl ax cf ow ho ov cs) ++ ((wP kA qp q qc cm wo dg) ++ ((wH kA hq cnt sv) ++ (wS kA qs q tx len pos kd rw0 ss av)))))) s.heap := hP
  have hD : va_D A ((wM kA mq q qc qp hq qs s1 s2) ++ ((wT kA q cc ac co ad rc nm st an) ++ ((wC kA qc q cn sd bt fi se tl ax cf ow ho ov cs) ++ ((wP kA qp q qc cm wo dg) ++ ((wH kA hq cnt sv) ++ (wS kA qs q tx len pos kd rw0 ss av)))))) := hD
  obtain ⟨tP, hZP, hTP⟩ := hE.1
  refine lv_aload_n hx hb dX5_freshPlans_0 rfl (lv_at hl 0 rfl) ?_
  refine n_wVv (b := mq) (As := []) (rest := []) (wr := []) (ws' := fun u => ((wM kA mq q qc qp hq qs false s2) ++ ((wT kA q cc ac co ad rc nm st an) ++ ((wC kA qc q u.1 u.2.1 u.2.2.1 u.2.2.2.1 u.2.2.2.2.1 u.2.2.2.2.2.1 u.2.2.2.2.2.2.1 u.2.2.2.2.2.2.2.1 u.2.2.2.2.2.2.2.2.1 u.2.2.2.2.2.2.2.2.2.1 u.2.2.2.2.2.2.2.2.2.2.1 u.2.2.2.2.2.2.2.2.2.2.2) ++ ((wP kA qp q qc cm wo dg) ++ ((wH kA hq cnt sv) ++ (wS kA qs q tx len pos kd rw0 ss av))))))) hS0 (c_X5_freshCases lQ D kA mq s1 s2 q cc ac co ad rc nm st an qc cn sd bt fi se tl ax cf ow ho ov cs qp cm wo dg hq cnt sv qs tx len pos kd rw0 ss av s.heap.size (by first | assumption | omega) (by first | assumption | omega) (by first | assumption | omega) (by first | assumption | omega) (by first | assumption | omega) (by first | assumption | omega)) (cwV 0 hts gX5_freshPlans_X5_freshCases rfl rfl rfl (by decide +kernel) ⟨Nat.le_of_ble_eq_true rfl, Nat.le_of_ble_eq_true rfl⟩) hP hD hS hA hK hK (by simpa only [List.append_assoc, List.append_nil] using ((List.Perm.refl _).trans (List.Perm.append_left _ ((List.Perm.refl _).trans (List.Perm.append_left _ ((List.Perm.refl _).trans (List.Perm.append_left _ ((List.Perm.refl _).trans (List.Perm.append_left _ ((List.Perm.refl _).trans (List.Perm.append_left _ (List.Perm.of_eq (List.append_nil _).symm)))))))))))) (fun u => List.Perm.symm (by simpa only [List.append_assoc, List.append_nil] using ((List.Perm.refl _).trans (List.Perm.append_left _ ((List.Perm.refl _).trans (List.Perm.append_left _ ((List.Perm.refl _).trans (List.Perm.append_left _ ((List.Perm.refl _).trans (List.Perm.append_left _ ((List.Perm.refl _).trans (List.Perm.append_left _ (List.Perm.of_eq (List.append_nil _).symm))))))))))))) (q0 := 0) rfl rfl rfl rfl rfl hl.1 (Nat.le_of_ble_eq_true rfl) dX5_freshPlans_1 ⟨Nat.le_refl _, Nat.le_refl _⟩ (fun u1 H locs h1 hP hD hS => ?_)
  obtain ⟨cn1_1, sd1_1, bt1_1, fi1_1, se1_1, tl1_1, ax1_1, cf1_1, ow1_1, ho1_1, ov1_1, cs1_1⟩ := u1
  obtain ⟨h1_1, h1_2⟩ := h1
  try dsimp only at h1_1 h1_2
  have hP : va_P D vwCl ((wM kA mq q qc qp hq qs false s2) ++ ((wT kA q cc ac co ad rc nm st an) ++ ((wC kA qc q cn1_1 sd1_1 bt1_1 fi1_1 se1_1 tl1_1 ax1_1 cf1_1 ow1_1 ho1_1 ov1_1 cs1_1) ++ ((wP kA qp q qc cm wo dg) ++ ((wH kA hq cnt sv) ++ (wS kA qs q tx len pos kd rw0 ss av)))))) H := hP
  have hD : va_D A ((wM kA mq q qc qp hq qs false s2) ++ ((wT kA q cc ac co ad rc nm st an) ++ ((wC kA qc q cn1_1 sd1_1 bt1_1 fi1_1 se1_1 tl1_1 ax1_1 cf1_1 ow1_1 ho1_1 ov1_1 cs1_1) ++ ((wP kA qp q qc cm wo dg) ++ ((wH kA hq cnt sv) ++ (wS kA qs q tx len pos kd rw0 ss av)))))) := hD
  refine lv_aload_n hx hb dX5_freshPlans_4 rfl (lv_at hl 0 rfl) ?_
  refine n_get (ci := 5) (v := .int (bI s2)) (C := RX5) (T := TX5) (N := 7) hx hb hts hinX5 hown hK hP 0 rfl rfl 6 rfl ⟨rfl, rfl, rfl⟩ f52 rfl dX5_freshPlans_5 ?_
  refine n_ifb_eq (b := s2) (tgt := 23) hx hb dX5_freshPlans_8 (by decide) (fun c8 => ?_) (fun c8 => ?_)
  · rw [c8] at hP hD
    have hpo := hpp c8
    have hpo2 := h1_2 hpo.1
    exact n_wretv hx hb hr hlocks (post := fun (u : Nat × (Nat → Nat) × (Nat → Nat) × (Nat → Option Nat) × (Nat → Option Nat) × (Nat → Nat) × (Nat → Nat) × (Nat → Bool) × (Nat → Nat) × Nat × Nat × Nat × (Nat → Nat) × (Nat → Nat) × (Nat → Nat)) => cOK cc ac rc st an u.1 u.2.1 u.2.2.1 u.2.2.2.1 u.2.2.2.2.1 u.2.2.2.2.2.1 u.2.2.2.2.2.2.1 u.2.2.2.2.2.2.2.1 u.2.2.2.2.2.2.2.2.1 u.2.2.2.2.2.2.2.2.2.1 u.2.2.2.2.2.2.2.2.2.2.1 u.2.2.2.2.2.2.2.2.2.2.2.1 ∧ plOK cc ac co u.2.1 u.2.2.2.2.2.2.1 u.2.2.2.2.2.2.2.2.2.2.2.2.1 u.2.2.2.2.2.2.2.2.2.2.2.2.2.1 ∧ (∀ y, y < 3125 → u.2.2.2.2.2.2.2.2.2.2.2.2.1 y < 12) ∧ (∀ y, y < 3125 → u.2.2.2.2.2.2.2.2.2.2.2.2.2.1 y ≤ 100)) (w1 := fun u => ((wM kA mq q qc qp hq qs false false) ++ ((wT kA q cc ac co ad rc nm st an) ++ ((wC kA qc q u.1 u.2.1 u.2.2.1 u.2.2.2.1 u.2.2.2.2.1 u.2.2.2.2.2.1 u.2.2.2.2.2.2.1 u.2.2.2.2.2.2.2.1 u.2.2.2.2.2.2.2.2.1 u.2.2.2.2.2.2.2.2.2.1 u.2.2.2.2.2.2.2.2.2.2.1 u.2.2.2.2.2.2.2.2.2.2.2.1) ++ ((wP kA qp q qc u.2.2.2.2.2.2.2.2.2.2.2.2.1 u.2.2.2.2.2.2.2.2.2.2.2.2.2.1 u.2.2.2.2.2.2.2.2.2.2.2.2.2.2) ++ ((wH kA hq cnt sv) ++ (wS kA qs q tx len pos kd rw0 ss av))))))) (cn1_1, sd1_1, bt1_1, fi1_1, se1_1, tl1_1, ax1_1, cf1_1, ow1_1, ho1_1, ov1_1, cs1_1, cm, wo, dg) (by first | exact ⟨h1_1, (by rw [hpo2.1, hpo2.2]; exact hpo.2), hcm, hwo⟩ | exact ⟨h1_1, h15_1, h15_2, h15_3⟩) hP hD hK hS hAe dX5_freshPlans_23
  · refine lv_aload_n hx hb dX5_freshPlans_11 rfl (lv_at hl 0 rfl) ?_
    refine n_get (ci := 5) (v := .ref (qp 0)) (C := RX5) (T := TX5) (N := 7) hx hb hts hinX5 hown hK hP 0 rfl rfl 2 rfl ⟨rfl, rfl, rfl⟩ f30 rfl dX5_freshPlans_12 ?_
    refine n_wVvE (b := qp 0) (As := []) (rest := []) (wr := ((wM kA mq q qc qp hq qs false s2) ++ ((wH kA hq cnt sv) ++ (wS kA qs q tx len pos kd rw0 ss av)))) (ws' := fun u => ((wM kA mq q qc qp hq qs false s2) ++ ((wT kA q cc ac co ad rc nm st an) ++ ((wC kA qc q cn1_1 sd1_1 bt1_1 fi1_1 se1_1 tl1_1 ax1_1 cf1_1 ow1_1 ho1_1 ov1_1 cs1_1) ++ ((wP kA qp q qc u.1 u.2.1 u.2.2) ++ ((wH kA hq cnt sv) ++ (wS kA qs q tx len pos kd rw0 ss av))))))) hS0 (c_X2_refresh lQ D kA adK adV qp cm wo dg qc cn1_1 sd1_1 bt1_1 fi1_1 se1_1 tl1_1 ax1_1 cf1_1 ow1_1 ho1_1 ov1_1 cs1_1 q cc ac co ad rc nm st an H.size (by first | assumption | omega) (by first | assumption | omega) (by first | assumption | omega) (by first | assumption | omega) (by first | assumption | omega) (cOK_sd h1_1) (cOK_ax h1_1 han)) (cwV 0 hts gX5_freshPlans_X2_refresh rfl rfl rfl (by decide +kernel) ⟨Nat.le_of_ble_eq_true rfl, Nat.le_of_ble_eq_true rfl⟩) hP hD hS hE hA hK hK (by simpa only [List.append_assoc, List.append_nil] using (((List.Perm.append_left _ ((List.Perm.append_left _ ((List.Perm.append_left _ (List.Perm.refl _)).trans (List.perm_append_comm_assoc _ _ _))).trans (List.perm_append_comm_assoc _ _ _))).trans (List.perm_append_comm_assoc _ _ _)).trans (List.Perm.append_left _ (((List.Perm.append_left _ ((List.Perm.append_left _ (List.Perm.refl _)).trans (List.perm_append_comm_assoc _ _ _))).trans (List.perm_append_comm_assoc _ _ _)).trans (List.Perm.append_left _ ((List.Perm.append_left _ (List.Perm.refl _)).trans (List.perm_append_comm_assoc _ _ _))))))) (fun u => List.Perm.symm (by simpa only [List.append_assoc, List.append_nil] using (((List.Perm.append_left _ ((List.Perm.append_left _ ((List.Perm.append_left _ (List.Perm.refl _)).trans (List.perm_append_comm_assoc _ _ _))).trans (List.perm_append_comm_assoc _ _ _))).trans (List.perm_append_comm_assoc _ _ _)).trans (List.Perm.append_left _ (((List.Perm.append_left _ ((List.Perm.append_left _ (List.Perm.refl _)).trans (List.perm_append_comm_assoc _ _ _))).trans (List.perm_append_comm_assoc _ _ _)).trans (List.Perm.append_left _ ((List.Perm.append_left _ (List.Perm.refl _)).trans (List.perm_append_comm_assoc _ _ _)))))))) (q0 := 0) rfl rfl rfl rfl rfl hl.1 (Nat.le_of_ble_eq_true rfl) dX5_freshPlans_15 ⟨Nat.le_refl _, Nat.le_refl _⟩ (fun u15 H locs h15 hP hD hS => ?_)
    obtain ⟨cm1_15, wo1_15, dg1_15⟩ := u15
    obtain ⟨h15_1, h15_2, h15_3⟩ := h15
    try dsimp only at h15_1 h15_2 h15_3
    have hP : va_P D vwCl ((wM kA mq q qc qp hq qs false s2) ++ ((wT kA q cc ac co ad rc nm st an) ++ ((wC kA qc q cn1_1 sd1_1 bt1_1 fi1_1 se1_1 tl1_1 ax1_1 cf1_1 ow1_1 ho1_1 ov1_1 cs1_1) ++ ((wP kA qp q qc cm1_15 wo1_15 dg1_15) ++ ((wH kA hq cnt sv) ++ (wS kA qs q tx len pos kd rw0 ss av)))))) H := hP
    have hD : va_D A ((wM kA mq q qc qp hq qs false s2) ++ ((wT kA q cc ac co ad rc nm st an) ++ ((wC kA qc q cn1_1 sd1_1 bt1_1 fi1_1 se1_1 tl1_1 ax1_1 cf1_1 ow1_1 ho1_1 ov1_1 cs1_1) ++ ((wP kA qp q qc cm1_15 wo1_15 dg1_15) ++ ((wH kA hq cnt sv) ++ (wS kA qs q tx len pos kd rw0 ss av)))))) := hD
    refine lv_aload_n hx hb dX5_freshPlans_18 rfl (lv_at hl 0 rfl) ?_
    refine lv_iconst (v := (nI 0)) hx hb dX5_freshPlans_19 (by decide) ?_
    refine n_put (ci := 5) (v := .int (bI false)) (C := RX5) (T := TX5) (N := 7) (ws' := ((wM kA mq q qc qp hq qs false false) ++ ((wT kA q cc ac co ad rc nm st an) ++ ((wC kA qc q cn1_1 sd1_1 bt1_1 fi1_1 se1_1 tl1_1 ax1_1 cf1_1 ow1_1 ho1_1 ov1_1 cs1_1) ++ ((wP kA qp q qc cm1_15 wo1_15 dg1_15) ++ ((wH kA hq cnt sv) ++ (wS kA qs q tx len pos kd rw0 ss av))))))) hx hb hts hinX5 tyX5 tyX5_ok nmX5 hown hK hP hD hS 0 rfl rfl 6 rfl ⟨rfl, rfl, rfl, rfl⟩ f52 (narrow_bI _) (fits_bI _) rfl rfl dX5_freshPlans_20 (fun H locs hP hD hS => ?_)
    exact n_wretv hx hb hr hlocks (post := fun (u : Nat × (Nat → Nat) × (Nat → Nat) × (Nat → Option Nat) × (Nat → Option Nat) × (Nat → Nat) × (Nat → Nat) × (Nat → Bool) × (Nat → Nat) × Nat × Nat × Nat × (Nat → Nat) × (Nat → Nat) × (Nat → Nat)) => cOK cc ac rc st an u.1 u.2.1 u.2.2.1 u.2.2.2.1 u.2.2.2.2.1 u.2.2.2.2.2.1 u.2.2.2.2.2.2.1 u.2.2.2.2.2.2.2.1 u.2.2.2.2.2.2.2.2.1 u.2.2.2.2.2.2.2.2.2.1 u.2.2.2.2.2.2.2.2.2.2.1 u.2.2.2.2.2.2.2.2.2.2.2.1 ∧ plOK cc ac co u.2.1 u.2.2.2.2.2.2.1 u.2.2.2.2.2.2.2.2.2.2.2.2.1 u.2.2.2.2.2.2.2.2.2.2.2.2.2.1 ∧ (∀ y, y < 3125 → u.2.2.2.2.2.2.2.2.2.2.2.2.1 y < 12) ∧ (∀ y, y < 3125 → u.2.2.2.2.2.2.2.2.2.2.2.2.2.1 y ≤ 100)) (w1 := fun u => ((wM kA mq q qc qp hq qs false false) ++ ((wT kA q cc ac co ad rc nm st an) ++ ((wC kA qc q u.1 u.2.1 u.2.2.1 u.2.2.2.1 u.2.2.2.2.1 u.2.2.2.2.2.1 u.2.2.2.2.2.2.1 u.2.2.2.2.2.2.2.1 u.2.2.2.2.2.2.2.2.1 u.2.2.2.2.2.2.2.2.2.1 u.2.2.2.2.2.2.2.2.2.2.1 u.2.2.2.2.2.2.2.2.2.2.2.1) ++ ((wP kA qp q qc u.2.2.2.2.2.2.2.2.2.2.2.2.1 u.2.2.2.2.2.2.2.2.2.2.2.2.2.1 u.2.2.2.2.2.2.2.2.2.2.2.2.2.2) ++ ((wH kA hq cnt sv) ++ (wS kA qs q tx len pos kd rw0 ss av))))))) (cn1_1, sd1_1, bt1_1, fi1_1, se1_1, tl1_1, ax1_1, cf1_1, ow1_1, ho1_1, ov1_1, cs1_1, cm1_15, wo1_15, dg1_15) (by first | exact ⟨h1_1, (by rw [hpo2.1, hpo2.2]; exact hpo.2), hcm, hwo⟩ | exact ⟨h1_1, h15_1, h15_2, h15_3⟩) hP hD hK hS hAe dX5_freshPlans_23

set_option maxHeartbeats 4000000 in
set_option maxRecDepth 100000 in
theorem c_X5_numberAt (lQ : Launch) (D : va_G) (kA : Nat → ClassId) (mq : Nat) (s1 : Bool) (s2 : Bool) (q : Nat → Nat) (cc : Nat) (ac : Nat → Nat) (co : Nat → Nat) (ad : Nat) (rc : Nat) (nm : Nat → Nat) (st : Nat → Nat) (an : Nat → Nat) (qc : Nat → Nat) (cn : Nat) (sd : Nat → Nat) (bt : Nat → Nat) (fi : Nat → Option Nat) (se : Nat → Option Nat) (tl : Nat → Nat) (ax : Nat → Nat) (cf : Nat → Bool) (ow : Nat → Nat) (ho : Nat) (ov : Nat) (cs : Nat) (qp : Nat → Nat) (cm : Nat → Nat) (wo : Nat → Nat) (dg : Nat → Nat) (hq : Nat → Nat) (cnt : Nat) (sv : Nat → TSt) (qs : Nat → Nat) (tx : Nat → Nat) (len : Nat) (pos : Nat) (kd : Option Nat) (rw0 : Nat) (ss : Nat) (av : Option Nat) (o : Option Nat) (hrc : rc ≤ 20) (ho9 : ∀ q, o = some q → q < 2147483648) : Met lQ yX5_numberAt wsX5_numberAt (rmN 0 0) (rd_Pc D vwCl [.ref mq, .int (oI o)] ((wM kA mq q qc qp hq qs s1 s2) ++ ((wT kA q cc ac co ad rc nm st an) ++ ((wC kA qc q cn sd bt fi se tl ax cf ow ho ov cs) ++ ((wP kA qp q qc cm wo dg) ++ ((wH kA hq cnt sv) ++ (wS kA qs q tx len pos kd rw0 ss av)))))) (tyK kA)) (vp_Si (fun r : Int32 => r = (oI (numF rc nm o)))) 0 0 (fun _ => False) := by
  refine Met.ofW (cc := cX5_numberAt) (maxL := 2) (ret := (some .int)) (by decide) rfl ?_
  intro pQ eQ s mQ args below meth cQ s₁ B hml hv
  obtain ⟨rfl, hP, hK⟩ := hv
  have hx := B.exec
  have hb := B.bytes
  have hr := B.returns
  have hts := atoms_spec (ws := wsX5_numberAt) B.pre
  have hown : s.vm.findClass RX5 = some mQ.cls := findClass_of_methodNamed B.named
  have hlocks : meth.locks = false := B.notSynchronized
  have hS0 : CallFix pQ mQ cQ cX5_numberAt 2 s ([.ref mq, .int (oI o)] : List Value).toArray wsX5_numberAt RX5 := ⟨hx, hb, hml, hown, hts⟩
  have f10 : (Cond.fieldLink RX5 10 "AskedRules" "table" "LAskedRules$Table;").before ([.ref mq, .int (oI o)] : List Value).toArray s = true := hts _ (by decide +kernel)
  have hinX5 : ∀ w ∈ wsX50, w ∈ wsX5_numberAt := by decide +kernel
  have f104 : (Cond.fieldLink RX5 104 "AskedRules$Table" "rowCount" "I").before ([.ref mq, .int (oI o)] : List Value).toArray s = true := hts _ (by decide +kernel)
  have hinX4 : ∀ w ∈ wsX40, w ∈ wsX5_numberAt := by decide +kernel
  have f175 : (Cond.fieldLink RX5 175 "AskedRules$Table" "number" "[I").before ([.ref mq, .int (oI o)] : List Value).toArray s = true := hts _ (by decide +kernel)
  have hl := lv_entry ([.ref mq, .int (oI o)]) (n := 2) (Nat.le_of_ble_eq_true rfl)
  rw [lg_entry_eq]
  generalize (lg_sl ([.ref mq, .int (oI o)]) ++ List.replicate (2 - (lg_sl ([.ref mq, .int (oI o)])).length) Slot.unset).toArray = ls at hl ⊢
  have hl : lv_has ls 2 [(0, .ref mq), (1, .int (oI o))] := hl
  have hP : va_P D vwCl ((wM kA mq q qc qp hq qs s1 s2) ++ ((wT kA q cc ac co ad rc nm st an) ++ ((wC kA qc q cn sd bt fi se tl ax cf ow ho ov cs) ++ ((wP kA qp q qc cm wo dg) ++ ((wH kA hq cnt sv) ++ (wS kA qs q tx len pos kd rw0 ss av)))))) s.heap := hP
  refine lv_iload_n hx hb dX5_numberAt_0 rfl (lv_at hl 1 rfl) ?_
  refine n_ifo_lt (o := o) (tgt := 27) hx hb ho9 dX5_numberAt_1 (by decide) (fun c1 => ?_) (fun q1 c1 => ?_)
  · have hl : lv_has ls 2 [(0, .ref mq), (1, .int (oI none))] := by rw [c1] at hl; exact hl
    refine lv_iconst (v := (oI none)) hx hb dX5_numberAt_27 (by decide) ?_
    exact n_reti hx hb hr hlocks (post := fun r : Int32 => r = (oI (numF rc nm o))) (by unfold numF; first | (rw [c1]; done) | skip; rw [c1]; first | rfl | (show _ = oI (if _ then _ else _); first | (rw [if_pos c12]; rfl) | (rw [if_neg (by omega)]))) rfl dX5_numberAt_28
  · have hl : lv_has ls 2 [(0, .ref mq), (1, .int (nI q1))] := by rw [c1] at hl; exact hl
    refine lv_iload_n hx hb dX5_numberAt_4 rfl (lv_at hl 1 rfl) ?_
    refine lv_aload_n hx hb dX5_numberAt_5 rfl (lv_at hl 0 rfl) ?_
    refine n_get (ci := 5) (v := .ref (q 0)) (C := RX5) (T := TX5) (N := 7) hx hb hts hinX5 hown hK hP 0 rfl rfl 0 rfl ⟨rfl, rfl, rfl⟩ f10 rfl dX5_numberAt_6 ?_
    refine n_get (ci := 4) (v := .int (nI rc)) (C := RX4) (T := TX4) (N := 8) hx hb hts hinX4 hown hK hP 1 rfl rfl 4 rfl ⟨rfl, rfl, rfl⟩ f104 rfl dX5_numberAt_9 ?_
    refine n_icmp_ge (a := q1) (b := rc) (tgt := 27) hx hb (ho9 _ c1) (by omega) dX5_numberAt_12 (by decide) (fun c12 => ?_) (fun c12 => ?_)
    · refine lv_iconst (v := (oI none)) hx hb dX5_numberAt_27 (by decide) ?_
      exact n_reti hx hb hr hlocks (post := fun r : Int32 => r = (oI (numF rc nm o))) (by unfold numF; first | (rw [c1]; done) | skip; rw [c1]; first | rfl | (show _ = oI (if _ then _ else _); first | (rw [if_pos c12]; rfl) | (rw [if_neg (by omega)]))) rfl dX5_numberAt_28
    · refine lv_aload_n hx hb dX5_numberAt_15 rfl (lv_at hl 0 rfl) ?_
      refine n_get (ci := 5) (v := .ref (q 0)) (C := RX5) (T := TX5) (N := 7) hx hb hts hinX5 hown hK hP 0 rfl rfl 0 rfl ⟨rfl, rfl, rfl⟩ f10 rfl dX5_numberAt_16 ?_
      refine n_get (ci := 4) (v := .ref (q 3)) (C := RX4) (T := TX4) (N := 8) hx hb hts hinX4 hown hK hP 1 rfl rfl 5 rfl ⟨rfl, rfl, rfl⟩ f175 rfl dX5_numberAt_19 ?_
      refine lv_iload_n hx hb dX5_numberAt_22 rfl (lv_at hl 1 rfl) ?_
      refine n_iald (i := q1) (v := (nI (nm q1))) hx hb hK hP 4 0 rfl rfl (by omega) (Nat.le_of_ble_eq_true rfl) rfl dX5_numberAt_23 ?_
      refine lv_goto (tgt := 28) hx hb dX5_numberAt_24 (by decide) ?_
      exact n_reti hx hb hr hlocks (post := fun r : Int32 => r = (oI (numF rc nm o))) (by unfold numF; first | (rw [c1]; done) | skip; rw [c1]; first | rfl | (show _ = oI (if _ then _ else _); first | (rw [if_pos c12]; rfl) | (rw [if_neg (by omega)]))) rfl dX5_numberAt_28

