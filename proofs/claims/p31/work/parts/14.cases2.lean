
theorem ans_bit : ∀ d, d < 4 → ∀ a, a < 4 → (((1 <<< d) >>> a) &&& 1 = 1 ↔ a = d) := by decide
theorem or_lt11 {a b : Nat} (ha : a < 2048) (hb : b < 2048) : a ||| b < 2048 := Nat.or_lt_two_pow (n := 11) ha hb
theorem shl_lt {a : Nat} (h : a < 11) : 1 <<< a < 2048 := by
  have : ∀ a, a < 11 → 1 <<< a < 2048 := by decide
  exact this a h
/-- the bits of the values below n -/
def orN (f : Nat → Nat) : Nat → Nat
  | 0 => 0
  | n + 1 => orN f n ||| (1 <<< f n)
theorem orN_lt {f : Nat → Nat} : ∀ {n : Nat}, (∀ j, j < n → f j < 11) → orN f n < 2048
  | 0, _ => by show 0 < 2048; decide
  | n + 1, h => or_lt11 (orN_lt (fun j hj => h j (by omega))) (shl_lt (h n (by omega)))
/-- the index of the case that f says true of, with idx ahead of it -/
def holF (f : Nat → Bool) (idx : Int32) (n : Nat) : Option Nat := firstF (fun c => f c && decide (nI (cntB f c) = idx)) n
theorem chg_t {a b : Prop} [Decidable a] [Decidable b] (h1 : a) (h2 : b) : (decide a && decide b) = true := by rw [decide_eq_true h1, decide_eq_true h2]; rfl
theorem chg_f1 {a : Prop} {b : Bool} [Decidable a] (h : ¬ a) : (decide a && b) = false := by rw [decide_eq_false h]; rfl
theorem chg_f2 {a : Bool} {x y : Nat} (h : x = y) : (a && decide (x ≠ y)) = false := by rw [decide_eq_false (p := x ≠ y) (fun h2 => h2 h), Bool.and_false]
theorem cntB_sf {f : Nat → Bool} {n : Nat} (h : f n = false) : cntB f (n + 1) = cntB f n := by rw [cntB_s, h]; rfl
theorem cntB_st {f : Nat → Bool} {n : Nat} (h : f n = true) : cntB f (n + 1) = cntB f n + 1 := by rw [cntB_s, h]; rfl

set_option maxHeartbeats 4000000 in
set_option maxRecDepth 100000 in
theorem c_X0_answer (lQ : Launch) (D : va_G) (kA : Nat → ClassId) (qc : Nat → Nat) (cn : Nat) (sd : Nat → Nat) (bt : Nat → Nat) (fi : Nat → Option Nat) (se : Nat → Option Nat) (tl : Nat → Nat) (ax : Nat → Nat) (cf : Nat → Bool) (ow : Nat → Nat) (ho : Nat) (ov : Nat) (cs : Nat) (q : Nat → Nat) (cc : Nat) (ac : Nat → Nat) (co : Nat → Nat) (ad : Nat) (rc : Nat) (nm : Nat → Nat) (st : Nat → Nat) (an : Nat → Nat) (c : Nat) (k : Nat) (d : Nat) (hc : c < 1024) (hk : k < 5) (hbc : bt c < 1048576) (hd : d < 4) (hw : nibN (bt c) k = 1 <<< d) : Met lQ yX0_answer wsX0_answer (rmN 0 0) (rd_Pc D vwCl [.ref (qc 0), .int (nI c), .int (nI k)] ((wC kA qc q cn sd bt fi se tl ax cf ow ho ov cs) ++ (wT kA q cc ac co ad rc nm st an)) (tyK kA)) (vp_Si (fun r : Int32 => r = (nI d))) 0 0 (fun _ => False) := by
  refine Met.ofW (cc := cX0_answer) (maxL := 5) (ret := (some .int)) (by decide) rfl ?_
  intro pQ eQ s mQ args below meth cQ s₁ B hml hv
  obtain ⟨rfl, hP, hK⟩ := hv
  have hx := B.exec
  have hb := B.bytes
  have hr := B.returns
  have hts := atoms_spec (ws := wsX0_answer) B.pre
  have hown : s.vm.findClass RX0 = some mQ.cls := findClass_of_methodNamed B.named
  have hlocks : meth.locks = false := B.notSynchronized
  have hS0 : CallFix pQ mQ cQ cX0_answer 5 s ([.ref (qc 0), .int (nI c), .int (nI k)] : List Value).toArray wsX0_answer RX0 := ⟨hx, hb, hml, hown, hts⟩
  have f15 : (Cond.fieldLink RX0 15 "AskedRules$Cases" "bits" "[I").before ([.ref (qc 0), .int (nI c), .int (nI k)] : List Value).toArray s = true := hts _ (by decide +kernel)
  have hinX0 : ∀ w ∈ wsX00, w ∈ wsX0_answer := by decide +kernel
  have hl := lv_entry ([.ref (qc 0), .int (nI c), .int (nI k)]) (n := 5) (Nat.le_of_ble_eq_true rfl)
  rw [lg_entry_eq]
  generalize (lg_sl ([.ref (qc 0), .int (nI c), .int (nI k)]) ++ List.replicate (5 - (lg_sl ([.ref (qc 0), .int (nI c), .int (nI k)])).length) Slot.unset).toArray = ls at hl ⊢
  have hl : lv_has ls 5 [(0, .ref (qc 0)), (1, .int (nI c)), (2, .int (nI k))] := hl
  have hP : va_P D vwCl ((wC kA qc q cn sd bt fi se tl ax cf ow ho ov cs) ++ (wT kA q cc ac co ad rc nm st an)) s.heap := hP
  refine lv_aload_n hx hb dX0_answer_0 rfl (lv_at hl 0 rfl) ?_
  refine n_get (ci := 0) (v := .ref (qc 2)) (C := RX0) (T := TX0) (N := 13) hx hb hts hinX0 hown hK hP 0 rfl rfl 3 rfl ⟨rfl, rfl, rfl⟩ f15 rfl dX0_answer_1 ?_
  refine lv_iload_n hx hb dX0_answer_4 rfl (lv_at hl 1 rfl) ?_
  refine n_iald (i := c) (v := (nI (bt c))) hx hb hK hP 2 0 rfl rfl (by omega) (Nat.le_of_ble_eq_true rfl) rfl dX0_answer_5 ?_
  refine lv_iconst (v := (nI 4)) hx hb dX0_answer_6 (by decide) ?_
  refine lv_iload_n hx hb dX0_answer_7 rfl (lv_at hl 2 rfl) ?_
  refine n_imul (v := (nI (4 * k))) hx hb (pk_mul _ _) dX0_answer_8 ?_
  refine n_ishr (v := (nI ((bt c) >>> (4 * k)))) hx hb (nN_shr (by omega) (by omega)) dX0_answer_9 ?_
  refine lv_bipush (v := (nI 15)) hx hb dX0_answer_10 (by decide) ?_
  refine n_iand (v := (nI (1 <<< d))) hx hb (by rw [nN_and]; exact congrArg nI hw) dX0_answer_12 ?_
  refine lv_istore_n (lv' := [(3, .int (nI (1 <<< d))), (0, .ref (qc 0)), (1, .int (nI c)), (2, .int (nI k))]) hx hb dX0_answer_13 rfl hl (by decide) rfl (fun ls hl => ?_)
  refine lv_iconst (v := (nI 0)) hx hb dX0_answer_14 (by decide) ?_
  refine lv_istore (lv' := [(4, .int (nI 0)), (3, .int (nI (1 <<< d))), (0, .ref (qc 0)), (1, .int (nI c)), (2, .int (nI k))]) hx hb dX0_answer_15 hl (by decide) rfl (fun ls hl => ?_)
  have L17 : ∀ (nQ : Nat) (i : Nat), 4 - i < nQ → (i ≤ 4) → (∀ j, j < i → j ≠ d) → ∀ (ls : Array Slot), lv_has ls 5 [(4, .int (nI i)), (3, .int (nI (1 <<< d))), (0, .ref (qc 0)), (1, .int (nI c)), (2, .int (nI k))] → W pQ lQ eQ (headSpec wsX0_answer (rmN 0 0)).room s mQ ([.ref (qc 0), .int (nI c), .int (nI k)] : List Value).toArray below meth cQ s.heap [] 0 0 (MQ below (vp_Si (fun r : Int32 => r = (nI d))) ([.ref (qc 0), .int (nI c), .int (nI k)] : List Value).toArray s 0 0 (fun _ => False)) (F0 mQ 17 ls []) := by
    intro nQ
    induction nQ with
    | zero => intro i hn; exact absurd hn (Nat.not_lt_zero _)
    | succ nQ ih17 =>
      intro i hm17 hi hn ls hl
      refine lv_iload hx hb dX0_answer_17 (lv_at hl 0 rfl) ?_
      refine lv_iconst (v := (nI 4)) hx hb dX0_answer_19 (by decide) ?_
      refine n_icmp_ge (a := i) (b := 4) (tgt := 42) hx hb (by omega) (by omega) dX0_answer_20 (by decide) (fun c20 => ?_) (fun c20 => ?_)
      · refine lv_iconst (v := (nI 0)) hx hb dX0_answer_42 (by decide) ?_
        exact n_reti hx hb hr hlocks (post := fun r : Int32 => r = (nI d)) (absurd rfl (hn d (by omega))) rfl dX0_answer_43
      · refine lv_iload_n hx hb dX0_answer_23 rfl (lv_at hl 1 rfl) ?_
        refine lv_iload hx hb dX0_answer_24 (lv_at hl 0 rfl) ?_
        refine n_ishr (v := (nI ((1 <<< d) >>> i))) hx hb (nN_shr (by first | omega | (rw [Nat.shiftLeft_eq, Nat.one_mul]; exact Nat.lt_of_lt_of_le (Nat.pow_lt_pow_right (by decide) hd) (by decide))) (by first | omega | (rw [Nat.shiftLeft_eq, Nat.one_mul]; exact Nat.lt_of_lt_of_le (Nat.pow_lt_pow_right (by decide) hd) (by decide)))) dX0_answer_26 ?_
        refine lv_iconst (v := (nI 1)) hx hb dX0_answer_27 (by decide) ?_
        refine n_iand (v := (nI (((1 <<< d) >>> i) &&& 1))) hx hb (nN_and _ _) dX0_answer_28 ?_
        refine lv_iconst (v := (nI 1)) hx hb dX0_answer_29 (by decide) ?_
        refine n_icmp_ne (a := ((1 <<< d) >>> i) &&& 1) (b := 1) (tgt := 36) hx hb (Nat.lt_of_le_of_lt Nat.and_le_right (by decide)) (by decide) dX0_answer_30 (by decide) (fun c30 => ?_) (fun c30 => ?_)
        · refine lv_iinc (v := (nI (i + 1))) (lv' := [(4, .int (nI (i + 1))), (3, .int (nI (1 <<< d))), (0, .ref (qc 0)), (1, .int (nI c)), (2, .int (nI k))]) hx hb dX0_answer_36 hl (k := 0) rfl (nI_inc _) (by decide) rfl (fun ls hl => ?_)
          refine lv_goto (tgt := 17) hx hb dX0_answer_39 (by decide) ?_
          exact ih17 (i + 1) (by omega) (by first | assumption | omega) (fun j hj => by by_cases e : j = i; (subst e; exact fun h => c30 ((ans_bit d hd j c20).mpr h)); exact hn j (by omega)) _ (lv_sub hl [0, 1, 2, 3, 4] rfl)
        · refine lv_iload hx hb dX0_answer_33 (lv_at hl 0 rfl) ?_
          exact n_reti hx hb hr hlocks (post := fun r : Int32 => r = (nI d)) (congrArg nI ((ans_bit d hd i c20).mp c30)) rfl dX0_answer_35
  exact L17 ((4 - 0) + 1) 0 (Nat.lt_succ_self _) (by first | assumption | omega) (fun j hj => absurd hj (Nat.not_lt_zero _)) _ (lv_sub hl [0, 1, 2, 3, 4] rfl)

set_option maxHeartbeats 4000000 in
set_option maxRecDepth 100000 in
theorem c_X0_holeAt (lQ : Launch) (D : va_G) (kA : Nat → ClassId) (qc : Nat → Nat) (cn : Nat) (sd : Nat → Nat) (bt : Nat → Nat) (fi : Nat → Option Nat) (se : Nat → Option Nat) (tl : Nat → Nat) (ax : Nat → Nat) (cf : Nat → Bool) (ow : Nat → Nat) (ho : Nat) (ov : Nat) (cs : Nat) (q : Nat → Nat) (cc : Nat) (ac : Nat → Nat) (co : Nat → Nat) (ad : Nat) (rc : Nat) (nm : Nat → Nat) (st : Nat → Nat) (an : Nat → Nat) (idx : Int32) (hcn : cn ≤ 1024) (htl : ∀ c, c < cn → tl c < 21) : Met lQ yX0_holeAt wsX0_holeAt (rmN 0 0) (rd_Pc D vwCl [.ref (qc 0), .int idx] ((wC kA qc q cn sd bt fi se tl ax cf ow ho ov cs) ++ (wT kA q cc ac co ad rc nm st an)) (tyK kA)) (vp_Si (fun r : Int32 => r = (oI (holF (fun c => decide (tl c = 0)) idx cn)))) 0 0 (fun _ => False) := by
  refine Met.ofW (cc := cX0_holeAt) (maxL := 4) (ret := (some .int)) (by decide) rfl ?_
  intro pQ eQ s mQ args below meth cQ s₁ B hml hv
  obtain ⟨rfl, hP, hK⟩ := hv
  have hx := B.exec
  have hb := B.bytes
  have hr := B.returns
  have hts := atoms_spec (ws := wsX0_holeAt) B.pre
  have hown : s.vm.findClass RX0 = some mQ.cls := findClass_of_methodNamed B.named
  have hlocks : meth.locks = false := B.notSynchronized
  have hS0 : CallFix pQ mQ cQ cX0_holeAt 4 s ([.ref (qc 0), .int idx] : List Value).toArray wsX0_holeAt RX0 := ⟨hx, hb, hml, hown, hts⟩
  have f54 : (Cond.fieldLink RX0 54 "AskedRules$Cases" "count" "I").before ([.ref (qc 0), .int idx] : List Value).toArray s = true := hts _ (by decide +kernel)
  have hinX0 : ∀ w ∈ wsX00, w ∈ wsX0_holeAt := by decide +kernel
  have f24 : (Cond.fieldLink RX0 24 "AskedRules$Cases" "told" "[I").before ([.ref (qc 0), .int idx] : List Value).toArray s = true := hts _ (by decide +kernel)
  have hl := lv_entry ([.ref (qc 0), .int idx]) (n := 4) (Nat.le_of_ble_eq_true rfl)
  rw [lg_entry_eq]
  generalize (lg_sl ([.ref (qc 0), .int idx]) ++ List.replicate (4 - (lg_sl ([.ref (qc 0), .int idx])).length) Slot.unset).toArray = ls at hl ⊢
  have hl : lv_has ls 4 [(0, .ref (qc 0)), (1, .int idx)] := hl
  have hP : va_P D vwCl ((wC kA qc q cn sd bt fi se tl ax cf ow ho ov cs) ++ (wT kA q cc ac co ad rc nm st an)) s.heap := hP
  refine lv_iconst (v := (nI 0)) hx hb dX0_holeAt_0 (by decide) ?_
  refine lv_istore_n (lv' := [(2, .int (nI 0)), (0, .ref (qc 0)), (1, .int idx)]) hx hb dX0_holeAt_1 rfl hl (by decide) rfl (fun ls hl => ?_)
  refine lv_iconst (v := (nI 0)) hx hb dX0_holeAt_2 (by decide) ?_
  refine lv_istore_n (lv' := [(3, .int (nI 0)), (2, .int (nI 0)), (0, .ref (qc 0)), (1, .int idx)]) hx hb dX0_holeAt_3 rfl hl (by decide) rfl (fun ls hl => ?_)
  have L4 : ∀ (nQ : Nat) (i : Nat) (u : Nat), cn - i < nQ → (i ≤ cn) → (u = cntB (fun c => decide (tl c = 0)) i) → (∀ j, j < i → (decide (tl j = 0) && decide (nI (cntB (fun c => decide (tl c = 0)) j) = idx)) = false) → ∀ (ls : Array Slot), lv_has ls 4 [(3, .int (nI i)), (2, .int (nI u)), (0, .ref (qc 0)), (1, .int idx)] → W pQ lQ eQ (headSpec wsX0_holeAt (rmN 0 0)).room s mQ ([.ref (qc 0), .int idx] : List Value).toArray below meth cQ s.heap [] 0 0 (MQ below (vp_Si (fun r : Int32 => r = (oI (holF (fun c => decide (tl c = 0)) idx cn)))) ([.ref (qc 0), .int idx] : List Value).toArray s 0 0 (fun _ => False)) (F0 mQ 4 ls []) := by
    intro nQ
    induction nQ with
    | zero => intro i u hn; exact absurd hn (Nat.not_lt_zero _)
    | succ nQ ih4 =>
      intro i u hm4 hi hu hn ls hl
      refine lv_iload_n hx hb dX0_holeAt_4 rfl (lv_at hl 0 rfl) ?_
      refine lv_aload_n hx hb dX0_holeAt_5 rfl (lv_at hl 2 rfl) ?_
      refine n_get (ci := 0) (v := .int (nI cn)) (C := RX0) (T := TX0) (N := 13) hx hb hts hinX0 hown hK hP 0 rfl rfl 1 rfl ⟨rfl, rfl, rfl⟩ f54 rfl dX0_holeAt_6 ?_
      refine n_icmp_ge (a := i) (b := cn) (tgt := 37) hx hb (by omega) (by omega) dX0_holeAt_9 (by decide) (fun c9 => ?_) (fun c9 => ?_)
      · refine lv_iconst (v := (oI none)) hx hb dX0_holeAt_37 (by decide) ?_
        exact n_reti hx hb hr hlocks (post := fun r : Int32 => r = (oI (holF (fun c => decide (tl c = 0)) idx cn))) (by rw [show holF (fun c => decide (tl c = 0)) idx cn = none from firstF_none (fun j hj => hn j (by omega))]) rfl dX0_holeAt_38
      · refine lv_aload_n hx hb dX0_holeAt_12 rfl (lv_at hl 2 rfl) ?_
        refine n_get (ci := 0) (v := .ref (qc 5)) (C := RX0) (T := TX0) (N := 13) hx hb hts hinX0 hown hK hP 0 rfl rfl 6 rfl ⟨rfl, rfl, rfl⟩ f24 rfl dX0_holeAt_13 ?_
        refine lv_iload_n hx hb dX0_holeAt_16 rfl (lv_at hl 0 rfl) ?_
        refine n_iald (i := i) (v := (nI (tl i))) hx hb hK hP 5 0 rfl rfl (by omega) (Nat.le_of_ble_eq_true rfl) rfl dX0_holeAt_17 ?_
        refine n_if_ne (a := tl i) (tgt := 31) hx hb (Nat.lt_trans (htl _ (by omega)) (by decide)) dX0_holeAt_18 (by decide) (fun c18 => ?_) (fun c18 => ?_)
        · refine lv_iinc (v := (nI (i + 1))) (lv' := [(3, .int (nI (i + 1))), (2, .int (nI u)), (0, .ref (qc 0)), (1, .int idx)]) hx hb dX0_holeAt_31 hl (k := 0) rfl (nI_inc _) (by decide) rfl (fun ls hl => ?_)
          refine lv_goto (tgt := 4) hx hb dX0_holeAt_34 (by decide) ?_
          exact ih4 (i + 1) u (by omega) (by first | assumption | omega) (by first | (rw [cntB_st (decide_eq_true c18), ← hu]) | (rw [cntB_sf (decide_eq_false (by omega)), ← hu])) (fun j hj => by by_cases e : j = i; (subst e; first | (rw [← hu, decide_eq_false c23, Bool.and_false]) | (rw [decide_eq_false (p := tl j = 0) (by omega)]; rfl)); exact hn j (by omega)) _ (lv_sub hl [0, 1, 2, 3] rfl)
        · refine lv_iload_n hx hb dX0_holeAt_21 rfl (lv_at hl 1 rfl) ?_
          refine lv_iload_n hx hb dX0_holeAt_22 rfl (lv_at hl 3 rfl) ?_
          refine lv_icmp_ne (tgt := 28) hx hb dX0_holeAt_23 (by decide) (fun c23 => ?_) (fun c23 => ?_)
          · refine lv_iinc (v := (nI (u + 1))) (lv' := [(2, .int (nI (u + 1))), (3, .int (nI i)), (0, .ref (qc 0)), (1, .int idx)]) hx hb dX0_holeAt_28 hl (k := 1) rfl (nI_inc _) (by decide) rfl (fun ls hl => ?_)
            refine lv_iinc (v := (nI (i + 1))) (lv' := [(3, .int (nI (i + 1))), (2, .int (nI (u + 1))), (0, .ref (qc 0)), (1, .int idx)]) hx hb dX0_holeAt_31 hl (k := 1) rfl (nI_inc _) (by decide) rfl (fun ls hl => ?_)
            refine lv_goto (tgt := 4) hx hb dX0_holeAt_34 (by decide) ?_
            exact ih4 (i + 1) (u + 1) (by omega) (by first | assumption | omega) (by first | (rw [cntB_st (decide_eq_true c18), ← hu]) | (rw [cntB_sf (decide_eq_false (by omega)), ← hu])) (fun j hj => by by_cases e : j = i; (subst e; first | (rw [← hu, decide_eq_false c23, Bool.and_false]) | (rw [decide_eq_false (p := tl j = 0) (by omega)]; rfl)); exact hn j (by omega)) _ (lv_sub hl [0, 1, 2, 3] rfl)
          · refine lv_iload_n hx hb dX0_holeAt_26 rfl (lv_at hl 0 rfl) ?_
            exact n_reti hx hb hr hlocks (post := fun r : Int32 => r = (oI (holF (fun c => decide (tl c = 0)) idx cn))) (by rw [show holF (fun c => decide (tl c = 0)) idx cn = some i from firstF_some hn (by rw [decide_eq_true c18, ← hu, decide_eq_true c23]; rfl) (by omega)]; rfl) rfl dX0_holeAt_27
  exact L4 ((cn - 0) + 1) 0 0 (Nat.lt_succ_self _) (by first | assumption | omega) rfl (fun j hj => absurd hj (Nat.not_lt_zero _)) _ (lv_sub hl [0, 1, 2, 3] rfl)

set_option maxHeartbeats 4000000 in
set_option maxRecDepth 100000 in
theorem c_X0_neededRows (lQ : Launch) (D : va_G) (kA : Nat → ClassId) (qc : Nat → Nat) (cn : Nat) (sd : Nat → Nat) (bt : Nat → Nat) (fi : Nat → Option Nat) (se : Nat → Option Nat) (tl : Nat → Nat) (ax : Nat → Nat) (cf : Nat → Bool) (ow : Nat → Nat) (ho : Nat) (ov : Nat) (cs : Nat) (q : Nat → Nat) (cc : Nat) (ac : Nat → Nat) (co : Nat → Nat) (ad : Nat) (rc : Nat) (nm : Nat → Nat) (st : Nat → Nat) (an : Nat → Nat) (hrc : rc ≤ 20) (how : ∀ p, p < 20 → ow p < 2000) : Met lQ yX0_neededRows wsX0_neededRows (rmN 0 0) (rd_Pc D vwCl [.ref (qc 0)] ((wC kA qc q cn sd bt fi se tl ax cf ow ho ov cs) ++ (wT kA q cc ac co ad rc nm st an)) (tyK kA)) (vp_Si (fun r : Int32 => r = (nI (cntB (fun p => decide (0 < ow p)) rc)))) 0 0 (fun _ => False) := by
  refine Met.ofW (cc := cX0_neededRows) (maxL := 3) (ret := (some .int)) (by decide) rfl ?_
  intro pQ eQ s mQ args below meth cQ s₁ B hml hv
  obtain ⟨rfl, hP, hK⟩ := hv
  have hx := B.exec
  have hb := B.bytes
  have hr := B.returns
  have hts := atoms_spec (ws := wsX0_neededRows) B.pre
  have hown : s.vm.findClass RX0 = some mQ.cls := findClass_of_methodNamed B.named
  have hlocks : meth.locks = false := B.notSynchronized
  have hS0 : CallFix pQ mQ cQ cX0_neededRows 3 s ([.ref (qc 0)] : List Value).toArray wsX0_neededRows RX0 := ⟨hx, hb, hml, hown, hts⟩
  have f37 : (Cond.fieldLink RX0 37 "AskedRules$Cases" "table" "LAskedRules$Table;").before ([.ref (qc 0)] : List Value).toArray s = true := hts _ (by decide +kernel)
  have hinX0 : ∀ w ∈ wsX00, w ∈ wsX0_neededRows := by decide +kernel
  have f72 : (Cond.fieldLink RX0 72 "AskedRules$Table" "rowCount" "I").before ([.ref (qc 0)] : List Value).toArray s = true := hts _ (by decide +kernel)
  have hinX4 : ∀ w ∈ wsX40, w ∈ wsX0_neededRows := by decide +kernel
  have f34 : (Cond.fieldLink RX0 34 "AskedRules$Cases" "owned" "[I").before ([.ref (qc 0)] : List Value).toArray s = true := hts _ (by decide +kernel)
  have hl := lv_entry ([.ref (qc 0)]) (n := 3) (Nat.le_of_ble_eq_true rfl)
  rw [lg_entry_eq]
  generalize (lg_sl ([.ref (qc 0)]) ++ List.replicate (3 - (lg_sl ([.ref (qc 0)])).length) Slot.unset).toArray = ls at hl ⊢
  have hl : lv_has ls 3 [(0, .ref (qc 0))] := hl
  have hP : va_P D vwCl ((wC kA qc q cn sd bt fi se tl ax cf ow ho ov cs) ++ (wT kA q cc ac co ad rc nm st an)) s.heap := hP
  refine lv_iconst (v := (nI 0)) hx hb dX0_neededRows_0 (by decide) ?_
  refine lv_istore_n (lv' := [(1, .int (nI 0)), (0, .ref (qc 0))]) hx hb dX0_neededRows_1 rfl hl (by decide) rfl (fun ls hl => ?_)
  refine lv_iconst (v := (nI 0)) hx hb dX0_neededRows_2 (by decide) ?_
  refine lv_istore_n (lv' := [(2, .int (nI 0)), (1, .int (nI 0)), (0, .ref (qc 0))]) hx hb dX0_neededRows_3 rfl hl (by decide) rfl (fun ls hl => ?_)
  have L4 : ∀ (nQ : Nat) (i : Nat) (u : Nat), rc - i < nQ → (i ≤ rc) → (u = cntB (fun p => decide (0 < ow p)) i) → ∀ (ls : Array Slot), lv_has ls 3 [(2, .int (nI i)), (1, .int (nI u)), (0, .ref (qc 0))] → W pQ lQ eQ (headSpec wsX0_neededRows (rmN 0 0)).room s mQ ([.ref (qc 0)] : List Value).toArray below meth cQ s.heap [] 0 0 (MQ below (vp_Si (fun r : Int32 => r = (nI (cntB (fun p => decide (0 < ow p)) rc)))) ([.ref (qc 0)] : List Value).toArray s 0 0 (fun _ => False)) (F0 mQ 4 ls []) := by
    intro nQ
    induction nQ with
    | zero => intro i u hn; exact absurd hn (Nat.not_lt_zero _)
    | succ nQ ih4 =>
      intro i u hm4 hi hu ls hl
      refine lv_iload_n hx hb dX0_neededRows_4 rfl (lv_at hl 0 rfl) ?_
      refine lv_aload_n hx hb dX0_neededRows_5 rfl (lv_at hl 2 rfl) ?_
      refine n_get (ci := 0) (v := .ref (q 0)) (C := RX0) (T := TX0) (N := 13) hx hb hts hinX0 hown hK hP 0 rfl rfl 0 rfl ⟨rfl, rfl, rfl⟩ f37 rfl dX0_neededRows_6 ?_
      refine n_get (ci := 4) (v := .int (nI rc)) (C := RX4) (T := TX4) (N := 8) hx hb hts hinX4 hown hK hP 9 rfl rfl 4 rfl ⟨rfl, rfl, rfl⟩ f72 rfl dX0_neededRows_9 ?_
      refine n_icmp_ge (a := i) (b := rc) (tgt := 33) hx hb (by omega) (by omega) dX0_neededRows_12 (by decide) (fun c12 => ?_) (fun c12 => ?_)
      · refine lv_iload_n hx hb dX0_neededRows_33 rfl (lv_at hl 1 rfl) ?_
        have e9 : rc = i := by omega
        subst e9
        exact n_reti hx hb hr hlocks (post := fun r : Int32 => r = (nI (cntB (fun p => decide (0 < ow p)) rc))) (by rw [hu]) rfl dX0_neededRows_34
      · refine lv_aload_n hx hb dX0_neededRows_15 rfl (lv_at hl 2 rfl) ?_
        refine n_get (ci := 0) (v := .ref (qc 8)) (C := RX0) (T := TX0) (N := 13) hx hb hts hinX0 hown hK hP 0 rfl rfl 9 rfl ⟨rfl, rfl, rfl⟩ f34 rfl dX0_neededRows_16 ?_
        refine lv_iload_n hx hb dX0_neededRows_19 rfl (lv_at hl 0 rfl) ?_
        refine n_iald (i := i) (v := (nI (ow i))) hx hb hK hP 8 0 rfl rfl (by omega) (Nat.le_of_ble_eq_true rfl) rfl dX0_neededRows_20 ?_
        refine n_if_le (a := ow i) (tgt := 27) hx hb (Nat.lt_trans (how _ (by omega)) (by decide)) dX0_neededRows_21 (by decide) (fun c21 => ?_) (fun c21 => ?_)
        · refine lv_iinc (v := (nI (i + 1))) (lv' := [(2, .int (nI (i + 1))), (1, .int (nI u)), (0, .ref (qc 0))]) hx hb dX0_neededRows_27 hl (k := 0) rfl (nI_inc _) (by decide) rfl (fun ls hl => ?_)
          refine lv_goto (tgt := 4) hx hb dX0_neededRows_30 (by decide) ?_
          exact ih4 (i + 1) u (by omega) (by first | assumption | omega) (by first | (rw [cntB_st (decide_eq_true c21), ← hu]) | (rw [cntB_sf (decide_eq_false (by omega)), ← hu])) _ (lv_sub hl [0, 1, 2] rfl)
        · refine lv_iinc (v := (nI (u + 1))) (lv' := [(1, .int (nI (u + 1))), (2, .int (nI i)), (0, .ref (qc 0))]) hx hb dX0_neededRows_24 hl (k := 1) rfl (nI_inc _) (by decide) rfl (fun ls hl => ?_)
          refine lv_iinc (v := (nI (i + 1))) (lv' := [(2, .int (nI (i + 1))), (1, .int (nI (u + 1))), (0, .ref (qc 0))]) hx hb dX0_neededRows_27 hl (k := 1) rfl (nI_inc _) (by decide) rfl (fun ls hl => ?_)
          refine lv_goto (tgt := 4) hx hb dX0_neededRows_30 (by decide) ?_
          exact ih4 (i + 1) (u + 1) (by omega) (by first | assumption | omega) (by first | (rw [cntB_st (decide_eq_true c21), ← hu]) | (rw [cntB_sf (decide_eq_false (by omega)), ← hu])) _ (lv_sub hl [0, 1, 2] rfl)
  exact L4 ((rc - 0) + 1) 0 0 (Nat.lt_succ_self _) (by first | assumption | omega) rfl _ (lv_sub hl [0, 1, 2] rfl)

set_option maxHeartbeats 4000000 in
set_option maxRecDepth 100000 in
theorem c_X0_unlikeActions (lQ : Launch) (D : va_G) (kA : Nat → ClassId) (qc : Nat → Nat) (cn : Nat) (sd : Nat → Nat) (bt : Nat → Nat) (fi : Nat → Option Nat) (se : Nat → Option Nat) (tl : Nat → Nat) (ax : Nat → Nat) (cf : Nat → Bool) (ow : Nat → Nat) (ho : Nat) (ov : Nat) (cs : Nat) (q : Nat → Nat) (cc : Nat) (ac : Nat → Nat) (co : Nat → Nat) (ad : Nat) (rc : Nat) (nm : Nat → Nat) (st : Nat → Nat) (an : Nat → Nat) (hcn : cn ≤ 1024) (hax : ∀ c, c < cn → ax c < 11) : Met lQ yX0_unlikeActions wsX0_unlikeActions (rmN 1 20) (rd_Pc D vwCl [.ref (qc 0)] ((wC kA qc q cn sd bt fi se tl ax cf ow ho ov cs) ++ (wT kA q cc ac co ad rc nm st an)) (tyK kA)) (vp_Si (fun r : Int32 => r = (nI (bitsN (orN ax cn) 11)))) 0 0 (fun _ => False) := by
  refine Met.ofW (cc := cX0_unlikeActions) (maxL := 3) (ret := (some .int)) (by decide) rfl ?_
  intro pQ eQ s mQ args below meth cQ s₁ B hml hv
  obtain ⟨rfl, hP, hK⟩ := hv
  have hx := B.exec
  have hb := B.bytes
  have hr := B.returns
  have hts := atoms_spec (ws := wsX0_unlikeActions) B.pre
  have hown : s.vm.findClass RX0 = some mQ.cls := findClass_of_methodNamed B.named
  have hlocks : meth.locks = false := B.notSynchronized
  have hS0 : CallFix pQ mQ cQ cX0_unlikeActions 3 s ([.ref (qc 0)] : List Value).toArray wsX0_unlikeActions RX0 := ⟨hx, hb, hml, hown, hts⟩
  have f54 : (Cond.fieldLink RX0 54 "AskedRules$Cases" "count" "I").before ([.ref (qc 0)] : List Value).toArray s = true := hts _ (by decide +kernel)
  have hinX0 : ∀ w ∈ wsX00, w ∈ wsX0_unlikeActions := by decide +kernel
  have f27 : (Cond.fieldLink RX0 27 "AskedRules$Cases" "action" "[I").before ([.ref (qc 0)] : List Value).toArray s = true := hts _ (by decide +kernel)
  have hl := lv_entry ([.ref (qc 0)]) (n := 3) (Nat.le_of_ble_eq_true rfl)
  rw [lg_entry_eq]
  generalize (lg_sl ([.ref (qc 0)]) ++ List.replicate (3 - (lg_sl ([.ref (qc 0)])).length) Slot.unset).toArray = ls at hl ⊢
  have hl : lv_has ls 3 [(0, .ref (qc 0))] := hl
  have hP : va_P D vwCl ((wC kA qc q cn sd bt fi se tl ax cf ow ho ov cs) ++ (wT kA q cc ac co ad rc nm st an)) s.heap := hP
  refine lv_iconst (v := (nI 0)) hx hb dX0_unlikeActions_0 (by decide) ?_
  refine lv_istore_n (lv' := [(1, .int (nI 0)), (0, .ref (qc 0))]) hx hb dX0_unlikeActions_1 rfl hl (by decide) rfl (fun ls hl => ?_)
  refine lv_iconst (v := (nI 0)) hx hb dX0_unlikeActions_2 (by decide) ?_
  refine lv_istore_n (lv' := [(2, .int (nI 0)), (1, .int (nI 0)), (0, .ref (qc 0))]) hx hb dX0_unlikeActions_3 rfl hl (by decide) rfl (fun ls hl => ?_)
  have L4 : ∀ (nQ : Nat) (i : Nat) (u : Nat), cn - i < nQ → (i ≤ cn) → (u = orN ax i) → ∀ (ls : Array Slot), lv_has ls 3 [(2, .int (nI i)), (1, .int (nI u)), (0, .ref (qc 0))] → W pQ lQ eQ (headSpec wsX0_unlikeActions (rmN 1 20)).room s mQ ([.ref (qc 0)] : List Value).toArray below meth cQ s.heap [] 0 0 (MQ below (vp_Si (fun r : Int32 => r = (nI (bitsN (orN ax cn) 11)))) ([.ref (qc 0)] : List Value).toArray s 0 0 (fun _ => False)) (F0 mQ 4 ls []) := by
    intro nQ
    induction nQ with
    | zero => intro i u hn; exact absurd hn (Nat.not_lt_zero _)
    | succ nQ ih4 =>
      intro i u hm4 hi hu ls hl
      refine lv_iload_n hx hb dX0_unlikeActions_4 rfl (lv_at hl 0 rfl) ?_
      refine lv_aload_n hx hb dX0_unlikeActions_5 rfl (lv_at hl 2 rfl) ?_
      refine n_get (ci := 0) (v := .int (nI cn)) (C := RX0) (T := TX0) (N := 13) hx hb hts hinX0 hown hK hP 0 rfl rfl 1 rfl ⟨rfl, rfl, rfl⟩ f54 rfl dX0_unlikeActions_6 ?_
      refine n_icmp_ge (a := i) (b := cn) (tgt := 29) hx hb (by omega) (by omega) dX0_unlikeActions_9 (by decide) (fun c9 => ?_) (fun c9 => ?_)
      · have e9 : cn = i := by omega
        refine lv_iload_n hx hb dX0_unlikeActions_29 rfl (lv_at hl 1 rfl) ?_
        refine n_cS (As := [.int (nI u)]) (rest := []) (wc := []) hS0 (c_J6_bitCount_0f7a4 lQ D kA u (by rw [hu, ← e9]; exact orN_lt hax)) (va_cwS 1 hts gX0_unlikeActions_J6_bitCount_0f7a4 rfl rfl rfl (by decide +kernel) ⟨Nat.le_of_ble_eq_true rfl, Nat.le_of_ble_eq_true rfl⟩) (hP.mem (ws' := []) (fun qQ h => absurd h List.not_mem_nil)) hK rfl rfl hl.1 (Nat.le_of_ble_eq_true rfl) dX0_unlikeActions_30 ⟨Nat.le_refl _, Nat.le_refl _⟩ (fun r30 h30 => ?_)
        subst h30
        exact n_reti hx hb hr hlocks (post := fun r : Int32 => r = (nI (bitsN (orN ax cn) 11))) (by rw [hu, e9]) rfl dX0_unlikeActions_33
      · refine lv_iload_n hx hb dX0_unlikeActions_12 rfl (lv_at hl 1 rfl) ?_
        refine lv_iconst (v := (nI 1)) hx hb dX0_unlikeActions_13 (by decide) ?_
        refine lv_aload_n hx hb dX0_unlikeActions_14 rfl (lv_at hl 2 rfl) ?_
        refine n_get (ci := 0) (v := .ref (qc 6)) (C := RX0) (T := TX0) (N := 13) hx hb hts hinX0 hown hK hP 0 rfl rfl 7 rfl ⟨rfl, rfl, rfl⟩ f27 rfl dX0_unlikeActions_15 ?_
        refine lv_iload_n hx hb dX0_unlikeActions_18 rfl (lv_at hl 0 rfl) ?_
        refine n_iald (i := i) (v := (nI (ax i))) hx hb hK hP 6 0 rfl rfl (by omega) (Nat.le_of_ble_eq_true rfl) rfl dX0_unlikeActions_19 ?_
        refine n_ishl (v := (nI (1 <<< (ax i)))) hx hb (nN_shl _ (Nat.lt_trans (hax _ (by omega)) (by decide))) dX0_unlikeActions_20 ?_
        refine n_ior (v := (nI (u ||| (1 <<< (ax i))))) hx hb (nN_or _ _) dX0_unlikeActions_21 ?_
        refine lv_istore_n (lv' := [(1, .int (nI (u ||| (1 <<< (ax i))))), (2, .int (nI i)), (0, .ref (qc 0))]) hx hb dX0_unlikeActions_22 rfl hl (by decide) rfl (fun ls hl => ?_)
        refine lv_iinc (v := (nI (i + 1))) (lv' := [(2, .int (nI (i + 1))), (1, .int (nI (u ||| (1 <<< (ax i))))), (0, .ref (qc 0))]) hx hb dX0_unlikeActions_23 hl (k := 1) rfl (nI_inc _) (by decide) rfl (fun ls hl => ?_)
        refine lv_goto (tgt := 4) hx hb dX0_unlikeActions_26 (by decide) ?_
        exact ih4 (i + 1) (u ||| (1 <<< (ax i))) (by omega) (by first | assumption | omega) (by rw [hu]; rfl) _ (lv_sub hl [0, 1, 2] rfl)
  exact L4 ((cn - 0) + 1) 0 0 (Nat.lt_succ_self _) (by first | assumption | omega) rfl _ (lv_sub hl [0, 1, 2] rfl)

set_option maxHeartbeats 4000000 in
set_option maxRecDepth 100000 in
theorem c_X0_matters (lQ : Launch) (D : va_G) (kA : Nat → ClassId) (qc : Nat → Nat) (cn : Nat) (sd : Nat → Nat) (bt : Nat → Nat) (fi : Nat → Option Nat) (se : Nat → Option Nat) (tl : Nat → Nat) (ax : Nat → Nat) (cf : Nat → Bool) (ow : Nat → Nat) (ho : Nat) (ov : Nat) (cs : Nat) (q : Nat → Nat) (cc : Nat) (ac : Nat → Nat) (co : Nat → Nat) (ad : Nat) (rc : Nat) (nm : Nat → Nat) (st : Nat → Nat) (an : Nat → Nat) (k : Nat) (hk : k < 5) (ha : 2 ≤ ac k ∧ ac k ≤ 4) (hcn : cn ≤ 1024) (hsd : sd k ≤ cn) (hbt : ∀ c, c < cn → bt c < 1048576) (hax : ∀ c, c < cn → ax c < 11) : Met lQ yX0_matters wsX0_matters (rmN 0 0) (rd_Pc D vwCl [.ref (qc 0), .int (nI k)] ((wC kA qc q cn sd bt fi se tl ax cf ow ho ov cs) ++ (wT kA q cc ac co ad rc nm st an)) (tyK kA)) (vp_Si (fun r : Int32 => r = (bI ((firstF (fun c => decide (bt c &&& (1 <<< (4 * k + ac k - 1)) = 0) && decide (ax c ≠ ax (c + sd k))) (cn - sd k)).isSome)))) 0 0 (fun _ => False) := by
  refine Met.ofW (cc := cX0_matters) (maxL := 5) (ret := (some .boolean)) (by decide) rfl ?_
  intro pQ eQ s mQ args below meth cQ s₁ B hml hv
  obtain ⟨rfl, hP, hK⟩ := hv
  have hx := B.exec
  have hb := B.bytes
  have hr := B.returns
  have hts := atoms_spec (ws := wsX0_matters) B.pre
  have hown : s.vm.findClass RX0 = some mQ.cls := findClass_of_methodNamed B.named
  have hlocks : meth.locks = false := B.notSynchronized
  have hS0 : CallFix pQ mQ cQ cX0_matters 5 s ([.ref (qc 0), .int (nI k)] : List Value).toArray wsX0_matters RX0 := ⟨hx, hb, hml, hown, hts⟩
  have f9 : (Cond.fieldLink RX0 9 "AskedRules$Cases" "stride" "[I").before ([.ref (qc 0), .int (nI k)] : List Value).toArray s = true := hts _ (by decide +kernel)
  have hinX0 : ∀ w ∈ wsX00, w ∈ wsX0_matters := by decide +kernel
  have f37 : (Cond.fieldLink RX0 37 "AskedRules$Cases" "table" "LAskedRules$Table;").before ([.ref (qc 0), .int (nI k)] : List Value).toArray s = true := hts _ (by decide +kernel)
  have f69 : (Cond.fieldLink RX0 69 "AskedRules$Table" "answerCount" "[I").before ([.ref (qc 0), .int (nI k)] : List Value).toArray s = true := hts _ (by decide +kernel)
  have hinX4 : ∀ w ∈ wsX40, w ∈ wsX0_matters := by decide +kernel
  have f54 : (Cond.fieldLink RX0 54 "AskedRules$Cases" "count" "I").before ([.ref (qc 0), .int (nI k)] : List Value).toArray s = true := hts _ (by decide +kernel)
  have f15 : (Cond.fieldLink RX0 15 "AskedRules$Cases" "bits" "[I").before ([.ref (qc 0), .int (nI k)] : List Value).toArray s = true := hts _ (by decide +kernel)
  have f27 : (Cond.fieldLink RX0 27 "AskedRules$Cases" "action" "[I").before ([.ref (qc 0), .int (nI k)] : List Value).toArray s = true := hts _ (by decide +kernel)
  have hl := lv_entry ([.ref (qc 0), .int (nI k)]) (n := 5) (Nat.le_of_ble_eq_true rfl)
  rw [lg_entry_eq]
  generalize (lg_sl ([.ref (qc 0), .int (nI k)]) ++ List.replicate (5 - (lg_sl ([.ref (qc 0), .int (nI k)])).length) Slot.unset).toArray = ls at hl ⊢
  have hl : lv_has ls 5 [(0, .ref (qc 0)), (1, .int (nI k))] := hl
  have hP : va_P D vwCl ((wC kA qc q cn sd bt fi se tl ax cf ow ho ov cs) ++ (wT kA q cc ac co ad rc nm st an)) s.heap := hP
  refine lv_aload_n hx hb dX0_matters_0 rfl (lv_at hl 0 rfl) ?_
  refine n_get (ci := 0) (v := .ref (qc 1)) (C := RX0) (T := TX0) (N := 13) hx hb hts hinX0 hown hK hP 0 rfl rfl 2 rfl ⟨rfl, rfl, rfl⟩ f9 rfl dX0_matters_1 ?_
  refine lv_iload_n hx hb dX0_matters_4 rfl (lv_at hl 1 rfl) ?_
  refine n_iald (i := k) (v := (nI (sd k))) hx hb hK hP 1 0 rfl rfl (by omega) (Nat.le_of_ble_eq_true rfl) rfl dX0_matters_5 ?_
  refine lv_istore_n (lv' := [(2, .int (nI (sd k))), (0, .ref (qc 0)), (1, .int (nI k))]) hx hb dX0_matters_6 rfl hl (by decide) rfl (fun ls hl => ?_)
  refine lv_iconst (v := (nI 1)) hx hb dX0_matters_7 (by decide) ?_
  refine lv_iconst (v := (nI 4)) hx hb dX0_matters_8 (by decide) ?_
  refine lv_iload_n hx hb dX0_matters_9 rfl (lv_at hl 2 rfl) ?_
  refine n_imul (v := (nI (4 * k))) hx hb (pk_mul _ _) dX0_matters_10 ?_
  refine lv_aload_n hx hb dX0_matters_11 rfl (lv_at hl 1 rfl) ?_
  refine n_get (ci := 0) (v := .ref (q 0)) (C := RX0) (T := TX0) (N := 13) hx hb hts hinX0 hown hK hP 0 rfl rfl 0 rfl ⟨rfl, rfl, rfl⟩ f37 rfl dX0_matters_12 ?_
  refine n_get (ci := 4) (v := .ref (q 1)) (C := RX4) (T := TX4) (N := 8) hx hb hts hinX4 hown hK hP 9 rfl rfl 1 rfl ⟨rfl, rfl, rfl⟩ f69 rfl dX0_matters_15 ?_
  refine lv_iload_n hx hb dX0_matters_18 rfl (lv_at hl 2 rfl) ?_
  refine n_iald (i := k) (v := (nI (ac k))) hx hb hK hP 10 0 rfl rfl (by omega) (Nat.le_of_ble_eq_true rfl) rfl dX0_matters_19 ?_
  refine n_iadd (v := (nI ((4 * k) + (ac k)))) hx hb (nI_add _ _) dX0_matters_20 ?_
  refine lv_iconst (v := (nI 1)) hx hb dX0_matters_21 (by decide) ?_
  refine n_isub (v := (nI (((4 * k) + (ac k)) - 1))) hx hb (pk_sub (by omega)) dX0_matters_22 ?_
  refine n_ishl (v := (nI (1 <<< (((4 * k) + (ac k)) - 1)))) hx hb (nN_shl _ (by omega)) dX0_matters_23 ?_
  refine lv_istore_n (lv' := [(3, .int (nI (1 <<< (((4 * k) + (ac k)) - 1)))), (2, .int (nI (sd k))), (0, .ref (qc 0)), (1, .int (nI k))]) hx hb dX0_matters_24 rfl hl (by decide) rfl (fun ls hl => ?_)
  refine lv_iconst (v := (nI 0)) hx hb dX0_matters_25 (by decide) ?_
  refine lv_istore (lv' := [(4, .int (nI 0)), (3, .int (nI (1 <<< (((4 * k) + (ac k)) - 1)))), (2, .int (nI (sd k))), (0, .ref (qc 0)), (1, .int (nI k))]) hx hb dX0_matters_26 hl (by decide) rfl (fun ls hl => ?_)
  have L28 : ∀ (nQ : Nat) (i : Nat), cn - sd k - i < nQ → (i ≤ cn - sd k) → (∀ j, j < i → (fun c => decide (bt c &&& (1 <<< (4 * k + ac k - 1)) = 0) && decide (ax c ≠ ax (c + sd k))) j = false) → ∀ (ls : Array Slot), lv_has ls 5 [(4, .int (nI i)), (3, .int (nI (1 <<< (((4 * k) + (ac k)) - 1)))), (2, .int (nI (sd k))), (0, .ref (qc 0)), (1, .int (nI k))] → W pQ lQ eQ (headSpec wsX0_matters (rmN 0 0)).room s mQ ([.ref (qc 0), .int (nI k)] : List Value).toArray below meth cQ s.heap [] 0 0 (MQ below (vp_Si (fun r : Int32 => r = (bI ((firstF (fun c => decide (bt c &&& (1 <<< (4 * k + ac k - 1)) = 0) && decide (ax c ≠ ax (c + sd k))) (cn - sd k)).isSome)))) ([.ref (qc 0), .int (nI k)] : List Value).toArray s 0 0 (fun _ => False)) (F0 mQ 28 ls []) := by
    intro nQ
    induction nQ with
    | zero => intro i hn; exact absurd hn (Nat.not_lt_zero _)
    | succ nQ ih28 =>
      intro i hm28 hi hn ls hl
      refine lv_iload hx hb dX0_matters_28 (lv_at hl 0 rfl) ?_
      refine lv_iload_n hx hb dX0_matters_30 rfl (lv_at hl 2 rfl) ?_
      refine n_iadd (v := (nI (i + (sd k)))) hx hb (nI_add _ _) dX0_matters_31 ?_
      refine lv_aload_n hx hb dX0_matters_32 rfl (lv_at hl 3 rfl) ?_
      refine n_get (ci := 0) (v := .int (nI cn)) (C := RX0) (T := TX0) (N := 13) hx hb hts hinX0 hown hK hP 0 rfl rfl 1 rfl ⟨rfl, rfl, rfl⟩ f54 rfl dX0_matters_33 ?_
      refine n_icmp_ge (a := i + (sd k)) (b := cn) (tgt := 78) hx hb (by omega) (by omega) dX0_matters_36 (by decide) (fun c36 => ?_) (fun c36 => ?_)
      · refine lv_iconst (v := (nI 0)) hx hb dX0_matters_78 (by decide) ?_
        exact n_retz hx hb hr hlocks (post := fun r : Int32 => r = (bI ((firstF (fun c => decide (bt c &&& (1 <<< (4 * k + ac k - 1)) = 0) && decide (ax c ≠ ax (c + sd k))) (cn - sd k)).isSome))) rfl (by rw [show firstF (fun c => decide (bt c &&& (1 <<< (4 * k + ac k - 1)) = 0) && decide (ax c ≠ ax (c + sd k))) (cn - sd k) = none from firstF_none (fun j hj => hn j (by omega))]; rfl) rfl dX0_matters_79
      · refine lv_aload_n hx hb dX0_matters_39 rfl (lv_at hl 3 rfl) ?_
        refine n_get (ci := 0) (v := .ref (qc 2)) (C := RX0) (T := TX0) (N := 13) hx hb hts hinX0 hown hK hP 0 rfl rfl 3 rfl ⟨rfl, rfl, rfl⟩ f15 rfl dX0_matters_40 ?_
        refine lv_iload hx hb dX0_matters_43 (lv_at hl 0 rfl) ?_
        refine n_iald (i := i) (v := (nI (bt i))) hx hb hK hP 2 0 rfl rfl (by omega) (Nat.le_of_ble_eq_true rfl) rfl dX0_matters_45 ?_
        refine lv_iload_n hx hb dX0_matters_46 rfl (lv_at hl 1 rfl) ?_
        refine n_iand (v := (nI ((bt i) &&& (1 <<< (((4 * k) + (ac k)) - 1))))) hx hb (nN_and _ _) dX0_matters_47 ?_
        refine n_if_ne (a := (bt i) &&& (1 <<< (((4 * k) + (ac k)) - 1))) (tgt := 72) hx hb (Nat.lt_of_le_of_lt Nat.and_le_left (Nat.lt_trans (hbt _ (by omega)) (by decide))) dX0_matters_48 (by decide) (fun c48 => ?_) (fun c48 => ?_)
        · refine lv_iinc (v := (nI (i + 1))) (lv' := [(4, .int (nI (i + 1))), (3, .int (nI (1 <<< (((4 * k) + (ac k)) - 1)))), (2, .int (nI (sd k))), (0, .ref (qc 0)), (1, .int (nI k))]) hx hb dX0_matters_72 hl (k := 0) rfl (nI_inc _) (by decide) rfl (fun ls hl => ?_)
          refine lv_goto (tgt := 28) hx hb dX0_matters_75 (by decide) ?_
          exact ih28 (i + 1) (by omega) (by first | assumption | omega) (fun j hj => by by_cases e : j = i; (subst e; first | (show (decide _ && decide (ax j ≠ ax (j + sd k))) = false; rw [decide_eq_false (p := ax j ≠ ax (j + sd k)) (fun h => h c67), Bool.and_false]) | (show (decide (bt j &&& (1 <<< (4 * k + ac k - 1)) = 0) && _) = false; rw [decide_eq_false (p := bt j &&& (1 <<< (4 * k + ac k - 1)) = 0) (by omega)]; rfl)); exact hn j (by omega)) _ (lv_sub hl [0, 1, 2, 3, 4] rfl)
        · refine lv_aload_n hx hb dX0_matters_51 rfl (lv_at hl 3 rfl) ?_
          refine n_get (ci := 0) (v := .ref (qc 6)) (C := RX0) (T := TX0) (N := 13) hx hb hts hinX0 hown hK hP 0 rfl rfl 7 rfl ⟨rfl, rfl, rfl⟩ f27 rfl dX0_matters_52 ?_
          refine lv_iload hx hb dX0_matters_55 (lv_at hl 0 rfl) ?_
          refine n_iald (i := i) (v := (nI (ax i))) hx hb hK hP 6 0 rfl rfl (by omega) (Nat.le_of_ble_eq_true rfl) rfl dX0_matters_57 ?_
          refine lv_aload_n hx hb dX0_matters_58 rfl (lv_at hl 3 rfl) ?_
          refine n_get (ci := 0) (v := .ref (qc 6)) (C := RX0) (T := TX0) (N := 13) hx hb hts hinX0 hown hK hP 0 rfl rfl 7 rfl ⟨rfl, rfl, rfl⟩ f27 rfl dX0_matters_59 ?_
          refine lv_iload hx hb dX0_matters_62 (lv_at hl 0 rfl) ?_
          refine lv_iload_n hx hb dX0_matters_64 rfl (lv_at hl 2 rfl) ?_
          refine n_iadd (v := (nI (i + (sd k)))) hx hb (nI_add _ _) dX0_matters_65 ?_
          refine n_iald (i := i + (sd k)) (v := (nI (ax (i + (sd k))))) hx hb hK hP 6 0 rfl rfl (by omega) (Nat.le_of_ble_eq_true rfl) rfl dX0_matters_66 ?_
          refine n_icmp_eq (a := ax i) (b := ax (i + (sd k))) (tgt := 72) hx hb (Nat.lt_trans (hax _ (by omega)) (by decide)) (Nat.lt_trans (hax _ (by omega)) (by decide)) dX0_matters_67 (by decide) (fun c67 => ?_) (fun c67 => ?_)
          · refine lv_iinc (v := (nI (i + 1))) (lv' := [(4, .int (nI (i + 1))), (3, .int (nI (1 <<< (((4 * k) + (ac k)) - 1)))), (2, .int (nI (sd k))), (0, .ref (qc 0)), (1, .int (nI k))]) hx hb dX0_matters_72 hl (k := 0) rfl (nI_inc _) (by decide) rfl (fun ls hl => ?_)
            refine lv_goto (tgt := 28) hx hb dX0_matters_75 (by decide) ?_
            exact ih28 (i + 1) (by omega) (by first | assumption | omega) (fun j hj => by by_cases e : j = i; (subst e; first | (show (decide _ && decide (ax j ≠ ax (j + sd k))) = false; rw [decide_eq_false (p := ax j ≠ ax (j + sd k)) (fun h => h c67), Bool.and_false]) | (show (decide (bt j &&& (1 <<< (4 * k + ac k - 1)) = 0) && _) = false; rw [decide_eq_false (p := bt j &&& (1 <<< (4 * k + ac k - 1)) = 0) (by omega)]; rfl)); exact hn j (by omega)) _ (lv_sub hl [0, 1, 2, 3, 4] rfl)
          · refine lv_iconst (v := (nI 1)) hx hb dX0_matters_70 (by decide) ?_
            exact n_retz hx hb hr hlocks (post := fun r : Int32 => r = (bI ((firstF (fun c => decide (bt c &&& (1 <<< (4 * k + ac k - 1)) = 0) && decide (ax c ≠ ax (c + sd k))) (cn - sd k)).isSome))) rfl (by rw [show firstF (fun c => decide (bt c &&& (1 <<< (4 * k + ac k - 1)) = 0) && decide (ax c ≠ ax (c + sd k))) (cn - sd k) = some i from firstF_some hn (by show (decide (bt i &&& (1 <<< (4 * k + ac k - 1)) = 0) && decide (ax i ≠ ax (i + sd k))) = true; rw [decide_eq_true c48, decide_eq_true c67]; rfl) (by omega)]; rfl) rfl dX0_matters_71
  exact L28 ((cn - sd k - 0) + 1) 0 (Nat.lt_succ_self _) (by first | assumption | omega) (fun j hj => absurd hj (Nat.not_lt_zero _)) _ (lv_sub hl [0, 1, 2, 3, 4] rfl)

set_option maxHeartbeats 4000000 in
set_option maxRecDepth 100000 in
theorem c_X0_changesWithout (lQ : Launch) (D : va_G) (kA : Nat → ClassId) (qc : Nat → Nat) (cn : Nat) (sd : Nat → Nat) (bt : Nat → Nat) (fi : Nat → Option Nat) (se : Nat → Option Nat) (tl : Nat → Nat) (ax : Nat → Nat) (cf : Nat → Bool) (ow : Nat → Nat) (ho : Nat) (ov : Nat) (cs : Nat) (q : Nat → Nat) (cc : Nat) (ac : Nat → Nat) (co : Nat → Nat) (ad : Nat) (rc : Nat) (nm : Nat → Nat) (st : Nat → Nat) (an : Nat → Nat) (p : Nat) (hrc : rc ≤ 20) (han : ∀ j, j < rc → an j < 11) (hp : p < 20) (hcn : cn ≤ 1024) (hfi : ∀ c q, c < cn → fi c = some q → q < rc) (hse : ∀ c q, c < cn → se c = some q → q < rc) (hax : ∀ c, c < cn → ax c < 11) : Met lQ yX0_changesWithout wsX0_changesWithout (rmN 0 0) (rd_Pc D vwCl [.ref (qc 0), .int (nI p)] ((wC kA qc q cn sd bt fi se tl ax cf ow ho ov cs) ++ (wT kA q cc ac co ad rc nm st an)) (tyK kA)) (vp_Si (fun r : Int32 => r = (nI (cntB (fun c => decide (fi c = some p) && decide (actO an (se c) ≠ ax c)) cn)))) 0 0 (fun _ => False) := by
  refine Met.ofW (cc := cX0_changesWithout) (maxL := 6) (ret := (some .int)) (by decide) rfl ?_
  intro pQ eQ s mQ args below meth cQ s₁ B hml hv
  obtain ⟨rfl, hP, hK⟩ := hv
  have hx := B.exec
  have hb := B.bytes
  have hr := B.returns
  have hts := atoms_spec (ws := wsX0_changesWithout) B.pre
  have hown : s.vm.findClass RX0 = some mQ.cls := findClass_of_methodNamed B.named
  have hlocks : meth.locks = false := B.notSynchronized
  have hS0 : CallFix pQ mQ cQ cX0_changesWithout 6 s ([.ref (qc 0), .int (nI p)] : List Value).toArray wsX0_changesWithout RX0 := ⟨hx, hb, hml, hown, hts⟩
  have f54 : (Cond.fieldLink RX0 54 "AskedRules$Cases" "count" "I").before ([.ref (qc 0), .int (nI p)] : List Value).toArray s = true := hts _ (by decide +kernel)
  have hinX0 : ∀ w ∈ wsX00, w ∈ wsX0_changesWithout := by decide +kernel
  have f18 : (Cond.fieldLink RX0 18 "AskedRules$Cases" "first" "[I").before ([.ref (qc 0), .int (nI p)] : List Value).toArray s = true := hts _ (by decide +kernel)
  have f21 : (Cond.fieldLink RX0 21 "AskedRules$Cases" "second" "[I").before ([.ref (qc 0), .int (nI p)] : List Value).toArray s = true := hts _ (by decide +kernel)
  have f37 : (Cond.fieldLink RX0 37 "AskedRules$Cases" "table" "LAskedRules$Table;").before ([.ref (qc 0), .int (nI p)] : List Value).toArray s = true := hts _ (by decide +kernel)
  have f78 : (Cond.fieldLink RX0 78 "AskedRules$Table" "action" "[I").before ([.ref (qc 0), .int (nI p)] : List Value).toArray s = true := hts _ (by decide +kernel)
  have hinX4 : ∀ w ∈ wsX40, w ∈ wsX0_changesWithout := by decide +kernel
  have f27 : (Cond.fieldLink RX0 27 "AskedRules$Cases" "action" "[I").before ([.ref (qc 0), .int (nI p)] : List Value).toArray s = true := hts _ (by decide +kernel)
  have hl := lv_entry ([.ref (qc 0), .int (nI p)]) (n := 6) (Nat.le_of_ble_eq_true rfl)
  rw [lg_entry_eq]
  generalize (lg_sl ([.ref (qc 0), .int (nI p)]) ++ List.replicate (6 - (lg_sl ([.ref (qc 0), .int (nI p)])).length) Slot.unset).toArray = ls at hl ⊢
  have hl : lv_has ls 6 [(0, .ref (qc 0)), (1, .int (nI p))] := hl
  have hP : va_P D vwCl ((wC kA qc q cn sd bt fi se tl ax cf ow ho ov cs) ++ (wT kA q cc ac co ad rc nm st an)) s.heap := hP
  refine lv_iconst (v := (nI 0)) hx hb dX0_changesWithout_0 (by decide) ?_
  refine lv_istore_n (lv' := [(2, .int (nI 0)), (0, .ref (qc 0)), (1, .int (nI p))]) hx hb dX0_changesWithout_1 rfl hl (by decide) rfl (fun ls hl => ?_)
  refine lv_iconst (v := (nI 0)) hx hb dX0_changesWithout_2 (by decide) ?_
  refine lv_istore_n (lv' := [(3, .int (nI 0)), (2, .int (nI 0)), (0, .ref (qc 0)), (1, .int (nI p))]) hx hb dX0_changesWithout_3 rfl hl (by decide) rfl (fun ls hl => ?_)
  have L4 : ∀ (nQ : Nat) (i : Nat) (u : Nat), cn - i < nQ → (i ≤ cn) → (u = cntB (fun c => decide (fi c = some p) && decide (actO an (se c) ≠ ax c)) i) → ∀ (ls : Array Slot), lv_has ls 6 [(3, .int (nI i)), (2, .int (nI u)), (0, .ref (qc 0)), (1, .int (nI p))] → W pQ lQ eQ (headSpec wsX0_changesWithout (rmN 0 0)).room s mQ ([.ref (qc 0), .int (nI p)] : List Value).toArray below meth cQ s.heap [] 0 0 (MQ below (vp_Si (fun r : Int32 => r = (nI (cntB (fun c => decide (fi c = some p) && decide (actO an (se c) ≠ ax c)) cn)))) ([.ref (qc 0), .int (nI p)] : List Value).toArray s 0 0 (fun _ => False)) (F0 mQ 4 ls []) := by
    intro nQ
    induction nQ with
    | zero => intro i u hn; exact absurd hn (Nat.not_lt_zero _)
    | succ nQ ih4 =>
      intro i u hm4 hi hu ls hl
      refine lv_iload_n hx hb dX0_changesWithout_4 rfl (lv_at hl 0 rfl) ?_
      refine lv_aload_n hx hb dX0_changesWithout_5 rfl (lv_at hl 2 rfl) ?_
      refine n_get (ci := 0) (v := .int (nI cn)) (C := RX0) (T := TX0) (N := 13) hx hb hts hinX0 hown hK hP 0 rfl rfl 1 rfl ⟨rfl, rfl, rfl⟩ f54 rfl dX0_changesWithout_6 ?_
      refine n_icmp_ge (a := i) (b := cn) (tgt := 72) hx hb (by omega) (by omega) dX0_changesWithout_9 (by decide) (fun c9 => ?_) (fun c9 => ?_)
      · refine lv_iload_n hx hb dX0_changesWithout_72 rfl (lv_at hl 1 rfl) ?_
        have e9 : cn = i := by omega
        exact n_reti hx hb hr hlocks (post := fun r : Int32 => r = (nI (cntB (fun c => decide (fi c = some p) && decide (actO an (se c) ≠ ax c)) cn))) (by rw [hu, e9]) rfl dX0_changesWithout_73
      · refine lv_aload_n hx hb dX0_changesWithout_12 rfl (lv_at hl 2 rfl) ?_
        refine n_get (ci := 0) (v := .ref (qc 3)) (C := RX0) (T := TX0) (N := 13) hx hb hts hinX0 hown hK hP 0 rfl rfl 4 rfl ⟨rfl, rfl, rfl⟩ f18 rfl dX0_changesWithout_13 ?_
        refine lv_iload_n hx hb dX0_changesWithout_16 rfl (lv_at hl 0 rfl) ?_
        refine n_iald (i := i) (v := (oI (fi i))) hx hb hK hP 3 0 rfl rfl (by omega) (Nat.le_of_ble_eq_true rfl) rfl dX0_changesWithout_17 ?_
        refine lv_iload_n hx hb dX0_changesWithout_18 rfl (lv_at hl 3 rfl) ?_
        refine lv_icmp_ne (tgt := 66) hx hb dX0_changesWithout_19 (by decide) (fun c19 => ?_) (fun c19 => ?_)
        · refine lv_iinc (v := (nI (i + 1))) (lv' := [(3, .int (nI (i + 1))), (2, .int (nI u)), (0, .ref (qc 0)), (1, .int (nI p))]) hx hb dX0_changesWithout_66 hl (k := 0) rfl (nI_inc _) (by decide) rfl (fun ls hl => ?_)
          refine lv_goto (tgt := 4) hx hb dX0_changesWithout_69 (by decide) ?_
          have hoN : oI (fi i) = nI p ↔ fi i = some p := oI_N (fun q h => Nat.lt_trans (hfi _ q c9 h) (by omega)) (by omega)
          exact ih4 (i + 1) u (by omega) (by first | assumption | omega) (by first | (rw [cntB_st (f := (fun c => decide (fi c = some p) && decide (actO an (se c) ≠ ax c))) (n := i) (chg_t (hoN.mp c19) (by rw [c32]; exact c60)), ← hu]) | (rw [cntB_sf (f := (fun c => decide (fi c = some p) && decide (actO an (se c) ≠ ax c))) (n := i) (chg_f2 (by rw [c32]; exact c60)), ← hu]) | (rw [cntB_sf (f := (fun c => decide (fi c = some p) && decide (actO an (se c) ≠ ax c))) (n := i) (chg_f1 (fun h => c19 (hoN.mpr h))), ← hu])) _ (lv_sub hl [0, 1, 2, 3] rfl)
        · refine lv_aload_n hx hb dX0_changesWithout_22 rfl (lv_at hl 2 rfl) ?_
          refine n_get (ci := 0) (v := .ref (qc 4)) (C := RX0) (T := TX0) (N := 13) hx hb hts hinX0 hown hK hP 0 rfl rfl 5 rfl ⟨rfl, rfl, rfl⟩ f21 rfl dX0_changesWithout_23 ?_
          refine lv_iload_n hx hb dX0_changesWithout_26 rfl (lv_at hl 0 rfl) ?_
          refine n_iald (i := i) (v := (oI (se i))) hx hb hK hP 4 0 rfl rfl (by omega) (Nat.le_of_ble_eq_true rfl) rfl dX0_changesWithout_27 ?_
          refine lv_istore (lv' := [(4, .int (oI (se i))), (3, .int (nI i)), (2, .int (nI u)), (0, .ref (qc 0)), (1, .int (nI p))]) hx hb dX0_changesWithout_28 hl (by decide) rfl (fun ls hl => ?_)
          refine lv_iload hx hb dX0_changesWithout_30 (lv_at hl 0 rfl) ?_
          refine n_ifo_ge (o := se i) (tgt := 40) hx hb (fun q h => Nat.lt_trans (hse _ q c9 h) (by omega)) dX0_changesWithout_32 (by decide) (fun q32 c32 => ?_) (fun c32 => ?_)
          · have hl : lv_has ls 6 [(4, .int (nI q32)), (3, .int (nI i)), (2, .int (nI u)), (0, .ref (qc 0)), (1, .int (nI p))] := by rw [c32] at hl; exact hl
            refine lv_aload_n hx hb dX0_changesWithout_40 rfl (lv_at hl 3 rfl) ?_
            refine n_get (ci := 0) (v := .ref (q 0)) (C := RX0) (T := TX0) (N := 13) hx hb hts hinX0 hown hK hP 0 rfl rfl 0 rfl ⟨rfl, rfl, rfl⟩ f37 rfl dX0_changesWithout_41 ?_
            refine n_get (ci := 4) (v := .ref (q 5)) (C := RX4) (T := TX4) (N := 8) hx hb hts hinX4 hown hK hP 9 rfl rfl 7 rfl ⟨rfl, rfl, rfl⟩ f78 rfl dX0_changesWithout_44 ?_
            refine lv_iload hx hb dX0_changesWithout_47 (lv_at hl 0 rfl) ?_
            refine n_iald (i := q32) (v := (nI (an q32))) hx hb hK hP 14 0 rfl rfl (Nat.lt_of_lt_of_le (hse _ _ c9 c32) hrc) (Nat.le_of_ble_eq_true rfl) rfl dX0_changesWithout_49 ?_
            refine lv_istore (lv' := [(5, .int (nI (an q32))), (4, .int (nI q32)), (3, .int (nI i)), (2, .int (nI u)), (0, .ref (qc 0)), (1, .int (nI p))]) hx hb dX0_changesWithout_50 hl (by decide) rfl (fun ls hl => ?_)
            refine lv_iload hx hb dX0_changesWithout_52 (lv_at hl 0 rfl) ?_
            refine lv_aload_n hx hb dX0_changesWithout_54 rfl (lv_at hl 4 rfl) ?_
            refine n_get (ci := 0) (v := .ref (qc 6)) (C := RX0) (T := TX0) (N := 13) hx hb hts hinX0 hown hK hP 0 rfl rfl 7 rfl ⟨rfl, rfl, rfl⟩ f27 rfl dX0_changesWithout_55 ?_
            refine lv_iload_n hx hb dX0_changesWithout_58 rfl (lv_at hl 2 rfl) ?_
            refine n_iald (i := i) (v := (nI (ax i))) hx hb hK hP 6 0 rfl rfl (by omega) (Nat.le_of_ble_eq_true rfl) rfl dX0_changesWithout_59 ?_
            refine n_icmp_eq (a := an q32) (b := ax i) (tgt := 66) hx hb (by first | decide | exact Nat.lt_trans (han _ (hse _ _ c9 c32)) (by decide)) (Nat.lt_trans (hax _ c9) (by decide)) dX0_changesWithout_60 (by decide) (fun c60 => ?_) (fun c60 => ?_)
            · refine lv_iinc (v := (nI (i + 1))) (lv' := [(3, .int (nI (i + 1))), (5, .int (nI (an q32))), (4, .int (nI q32)), (2, .int (nI u)), (0, .ref (qc 0)), (1, .int (nI p))]) hx hb dX0_changesWithout_66 hl (k := 2) rfl (nI_inc _) (by decide) rfl (fun ls hl => ?_)
              refine lv_goto (tgt := 4) hx hb dX0_changesWithout_69 (by decide) ?_
              have hoN : oI (fi i) = nI p ↔ fi i = some p := oI_N (fun q h => Nat.lt_trans (hfi _ q c9 h) (by omega)) (by omega)
              exact ih4 (i + 1) u (by omega) (by first | assumption | omega) (by first | (rw [cntB_st (f := (fun c => decide (fi c = some p) && decide (actO an (se c) ≠ ax c))) (n := i) (chg_t (hoN.mp c19) (by rw [c32]; exact c60)), ← hu]) | (rw [cntB_sf (f := (fun c => decide (fi c = some p) && decide (actO an (se c) ≠ ax c))) (n := i) (chg_f2 (by rw [c32]; exact c60)), ← hu]) | (rw [cntB_sf (f := (fun c => decide (fi c = some p) && decide (actO an (se c) ≠ ax c))) (n := i) (chg_f1 (fun h => c19 (hoN.mpr h))), ← hu])) _ (lv_sub hl [0, 3, 4, 5] rfl)
            · refine lv_iinc (v := (nI (u + 1))) (lv' := [(2, .int (nI (u + 1))), (5, .int (nI (an q32))), (4, .int (nI q32)), (3, .int (nI i)), (0, .ref (qc 0)), (1, .int (nI p))]) hx hb dX0_changesWithout_63 hl (k := 3) rfl (nI_inc _) (by decide) rfl (fun ls hl => ?_)
              refine lv_iinc (v := (nI (i + 1))) (lv' := [(3, .int (nI (i + 1))), (2, .int (nI (u + 1))), (5, .int (nI (an q32))), (4, .int (nI q32)), (0, .ref (qc 0)), (1, .int (nI p))]) hx hb dX0_changesWithout_66 hl (k := 3) rfl (nI_inc _) (by decide) rfl (fun ls hl => ?_)
              refine lv_goto (tgt := 4) hx hb dX0_changesWithout_69 (by decide) ?_
              have hoN : oI (fi i) = nI p ↔ fi i = some p := oI_N (fun q h => Nat.lt_trans (hfi _ q c9 h) (by omega)) (by omega)
              exact ih4 (i + 1) (u + 1) (by omega) (by first | assumption | omega) (by first | (rw [cntB_st (f := (fun c => decide (fi c = some p) && decide (actO an (se c) ≠ ax c))) (n := i) (chg_t (hoN.mp c19) (by rw [c32]; exact c60)), ← hu]) | (rw [cntB_sf (f := (fun c => decide (fi c = some p) && decide (actO an (se c) ≠ ax c))) (n := i) (chg_f2 (by rw [c32]; exact c60)), ← hu]) | (rw [cntB_sf (f := (fun c => decide (fi c = some p) && decide (actO an (se c) ≠ ax c))) (n := i) (chg_f1 (fun h => c19 (hoN.mpr h))), ← hu])) _ (lv_sub hl [0, 1, 4, 5] rfl)
          · have hl : lv_has ls 6 [(4, .int (oI none)), (3, .int (nI i)), (2, .int (nI u)), (0, .ref (qc 0)), (1, .int (nI p))] := by rw [c32] at hl; exact hl
            refine lv_bipush (v := (nI 10)) hx hb dX0_changesWithout_35 (by decide) ?_
            refine lv_goto (tgt := 50) hx hb dX0_changesWithout_37 (by decide) ?_
            refine lv_istore (lv' := [(5, .int (nI 10)), (4, .int (oI none)), (3, .int (nI i)), (2, .int (nI u)), (0, .ref (qc 0)), (1, .int (nI p))]) hx hb dX0_changesWithout_50 hl (by decide) rfl (fun ls hl => ?_)
            refine lv_iload hx hb dX0_changesWithout_52 (lv_at hl 0 rfl) ?_
            refine lv_aload_n hx hb dX0_changesWithout_54 rfl (lv_at hl 4 rfl) ?_
            refine n_get (ci := 0) (v := .ref (qc 6)) (C := RX0) (T := TX0) (N := 13) hx hb hts hinX0 hown hK hP 0 rfl rfl 7 rfl ⟨rfl, rfl, rfl⟩ f27 rfl dX0_changesWithout_55 ?_
            refine lv_iload_n hx hb dX0_changesWithout_58 rfl (lv_at hl 2 rfl) ?_
            refine n_iald (i := i) (v := (nI (ax i))) hx hb hK hP 6 0 rfl rfl (by omega) (Nat.le_of_ble_eq_true rfl) rfl dX0_changesWithout_59 ?_
            refine n_icmp_eq (a := 10) (b := ax i) (tgt := 66) hx hb (by first | decide | exact Nat.lt_trans (han _ (hse _ _ c9 c32)) (by decide)) (Nat.lt_trans (hax _ c9) (by decide)) dX0_changesWithout_60 (by decide) (fun c60 => ?_) (fun c60 => ?_)
            · refine lv_iinc (v := (nI (i + 1))) (lv' := [(3, .int (nI (i + 1))), (5, .int (nI 10)), (4, .int (oI none)), (2, .int (nI u)), (0, .ref (qc 0)), (1, .int (nI p))]) hx hb dX0_changesWithout_66 hl (k := 2) rfl (nI_inc _) (by decide) rfl (fun ls hl => ?_)
              refine lv_goto (tgt := 4) hx hb dX0_changesWithout_69 (by decide) ?_
              have hoN : oI (fi i) = nI p ↔ fi i = some p := oI_N (fun q h => Nat.lt_trans (hfi _ q c9 h) (by omega)) (by omega)
              exact ih4 (i + 1) u (by omega) (by first | assumption | omega) (by first | (rw [cntB_st (f := (fun c => decide (fi c = some p) && decide (actO an (se c) ≠ ax c))) (n := i) (chg_t (hoN.mp c19) (by rw [c32]; exact c60)), ← hu]) | (rw [cntB_sf (f := (fun c => decide (fi c = some p) && decide (actO an (se c) ≠ ax c))) (n := i) (chg_f2 (by rw [c32]; exact c60)), ← hu]) | (rw [cntB_sf (f := (fun c => decide (fi c = some p) && decide (actO an (se c) ≠ ax c))) (n := i) (chg_f1 (fun h => c19 (hoN.mpr h))), ← hu])) _ (lv_sub hl [0, 3, 4, 5] rfl)
            · refine lv_iinc (v := (nI (u + 1))) (lv' := [(2, .int (nI (u + 1))), (5, .int (nI 10)), (4, .int (oI none)), (3, .int (nI i)), (0, .ref (qc 0)), (1, .int (nI p))]) hx hb dX0_changesWithout_63 hl (k := 3) rfl (nI_inc _) (by decide) rfl (fun ls hl => ?_)
              refine lv_iinc (v := (nI (i + 1))) (lv' := [(3, .int (nI (i + 1))), (2, .int (nI (u + 1))), (5, .int (nI 10)), (4, .int (oI none)), (0, .ref (qc 0)), (1, .int (nI p))]) hx hb dX0_changesWithout_66 hl (k := 3) rfl (nI_inc _) (by decide) rfl (fun ls hl => ?_)
              refine lv_goto (tgt := 4) hx hb dX0_changesWithout_69 (by decide) ?_
              have hoN : oI (fi i) = nI p ↔ fi i = some p := oI_N (fun q h => Nat.lt_trans (hfi _ q c9 h) (by omega)) (by omega)
              exact ih4 (i + 1) (u + 1) (by omega) (by first | assumption | omega) (by first | (rw [cntB_st (f := (fun c => decide (fi c = some p) && decide (actO an (se c) ≠ ax c))) (n := i) (chg_t (hoN.mp c19) (by rw [c32]; exact c60)), ← hu]) | (rw [cntB_sf (f := (fun c => decide (fi c = some p) && decide (actO an (se c) ≠ ax c))) (n := i) (chg_f2 (by rw [c32]; exact c60)), ← hu]) | (rw [cntB_sf (f := (fun c => decide (fi c = some p) && decide (actO an (se c) ≠ ax c))) (n := i) (chg_f1 (fun h => c19 (hoN.mpr h))), ← hu])) _ (lv_sub hl [0, 1, 4, 5] rfl)
  exact L4 ((cn - 0) + 1) 0 0 (Nat.lt_succ_self _) (by first | assumption | omega) rfl _ (lv_sub hl [0, 1, 2, 3] rfl)
