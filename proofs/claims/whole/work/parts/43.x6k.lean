
/-! ===== one command ===== -/
def mA (tx : Nat → Nat) (len : Nat) (ac : Nat → Nat) (cc p : Nat) : Nat := if cmK tx len p = 0 then (cmS tx len ac cc p).2.1 else if cmK tx len p = 3 then 0 else cmR tx len p
def mB (tx : Nat → Nat) (len : Nat) (ac : Nat → Nat) (cc p : Nat) : Nat := if cmK tx len p = 0 then cmA tx len ac cc p else 0
def cmU (xm : Nat → Nat) (n : Nat) (tx : Nat → Nat) (len : Nat) (ac : Nat → Nat) (cc p : Nat) : Nat → Nat := va_up (va_up (va_up xm (3 * n) (kwF (cmK tx len p))) (3 * n + 1) (mA tx len ac cc p)) (3 * n + 2) (mB tx len ac cc p)
section RCS
variable {tx : Nat → Nat} {len : Nat} {ac : Nat → Nat} {cc w : Nat}
theorem rc0_32 (h : ¬ hereF tx len w = some 32) : rc0 tx len ac cc w = (false, w) := if_neg h
theorem rc0_ra (h : hereF tx len w = some 32) (h1 : (rasL tx len ac cc 0 0 (w + 1)).1 = false) : rc0 tx len ac cc w = (false, (rasL tx len ac cc 0 0 (w + 1)).2.2) := by
  unfold rc0; rw [if_pos h, if_neg (bF h1)]
theorem raF_62 {p : Nat} (h : hereF tx len p ≠ some 62) : raF tx len p none = (false, p, none) := if_neg h
theorem raF_n {p : Nat} (h : hereF tx len p = some 62) (h1 : digT tx len (p + 1) = none) : raF tx len p none = (false, p + 1, none) := by
  unfold raF; rw [if_pos h, h1]
theorem raF_s {p d : Nat} (h : hereF tx len p = some 62) (h1 : digT tx len (p + 1) = some d) : raF tx len p none = (true, p + 2, some d) := by
  unfold raF; rw [if_pos h, h1]
theorem rc0_62 (h : hereF tx len w = some 32) (h1 : (rasL tx len ac cc 0 0 (w + 1)).1 = true) (h2 : hereF tx len (rasL tx len ac cc 0 0 (w + 1)).2.2 ≠ some 62) : rc0 tx len ac cc w = (false, (rasL tx len ac cc 0 0 (w + 1)).2.2) := by
  unfold rc0; rw [if_pos h, if_pos h1, raF_62 h2]; rfl
theorem rc0_dg (h : hereF tx len w = some 32) (h1 : (rasL tx len ac cc 0 0 (w + 1)).1 = true) (h2 : hereF tx len (rasL tx len ac cc 0 0 (w + 1)).2.2 = some 62) (h3 : digT tx len ((rasL tx len ac cc 0 0 (w + 1)).2.2 + 1) = none) : rc0 tx len ac cc w = (false, (rasL tx len ac cc 0 0 (w + 1)).2.2 + 1) := by
  unfold rc0; rw [if_pos h, if_pos h1, raF_n h2 h3]; rfl
theorem rc0_ok {d : Nat} (h : hereF tx len w = some 32) (h1 : (rasL tx len ac cc 0 0 (w + 1)).1 = true) (h2 : hereF tx len (rasL tx len ac cc 0 0 (w + 1)).2.2 = some 62) (h3 : digT tx len ((rasL tx len ac cc 0 0 (w + 1)).2.2 + 1) = some d) : rc0 tx len ac cc w = (decide (hereF tx len ((rasL tx len ac cc 0 0 (w + 1)).2.2 + 2) = some 59), stpF tx len 59 ((rasL tx len ac cc 0 0 (w + 1)).2.2 + 2)) := by
  unfold rc0; rw [if_pos h, if_pos h1, raF_s h2 h3]; rfl
theorem rc1_32 (h : ¬ hereF tx len w = some 32) : rc1 tx len w = (false, w) := if_neg h
theorem rrF_n {p : Nat} (h : digT tx len p = none) : rrF tx len p 0 = (false, p, 0) := by unfold rrF; rw [h]
theorem rrF_s {p a : Nat} (h : digT tx len p = some a) : rrF tx len p 0 = (true, cond (digT tx len (p + 1)).isSome (p + 2) (p + 1), match digT tx len (p + 1) with | none => a | some b => 10 * a + b) := by
  unfold rrF; rw [h]
  cases digT tx len (p + 1) <;> rfl
theorem rc1_dg (h : hereF tx len w = some 32) (h1 : digT tx len (w + 1) = none) : rc1 tx len w = (false, w + 1) := by
  unfold rc1; rw [if_pos h, rrF_n h1]; rfl
theorem rc1_ok {a : Nat} (h : hereF tx len w = some 32) (h1 : digT tx len (w + 1) = some a) : rc1 tx len w = (decide (hereF tx len (cond (digT tx len (w + 2)).isSome (w + 3) (w + 2)) = some 59), stpF tx len 59 (cond (digT tx len (w + 2)).isSome (w + 3) (w + 2))) := by
  unfold rc1; rw [if_pos h, rrF_s h1]; rfl
theorem stp_t {p : Nat} (h : hereF tx len p = some 59) : stpF tx len 59 p = p + 1 := if_pos h
theorem stp_f {p : Nat} (h : ¬ hereF tx len p = some 59) : stpF tx len 59 p = p := if_neg h
theorem dig_sub48 {p d : Nat} (h : digT tx len p = some d) : oI (hereF tx len p) - nI 48 = nI d := by
  rw [dig_here h]
  show nI (d + 48) - nI 48 = nI d
  rw [pk_sub (by omega), Nat.add_sub_cancel]
theorem rr_val {a : Nat} (h : digT tx len (w + 1) = some a) : (cond (digT tx len (w + 2)).isSome (nI 10 * (oI (hereF tx len (w + 1)) - nI 48) + oI (hereF tx len (w + 2)) - nI 48) (oI (hereF tx len (w + 1)) - nI 48)) = nI (rrF tx len (w + 1) 0).2.2 := by
  rw [rrF_s h, dig_sub48 h]
  show (cond (digT tx len (w + 2)).isSome (nI 10 * nI a + oI (hereF tx len (w + 2)) - nI 48) (nI a)) = nI (match digT tx len (w + 2) with | none => a | some b => 10 * a + b)
  cases h2 : digT tx len (w + 2) with
  | none => rfl
  | some b =>
    show nI 10 * nI a + oI (hereF tx len (w + 2)) - nI 48 = nI (10 * a + b)
    rw [dig_here h2, pk_mul]
    show nI (10 * a) + nI (b + 48) - nI 48 = nI (10 * a + b)
    rw [nI_add, pk_sub (by omega), show 10 * a + (b + 48) - 48 = 10 * a + b by omega]
end RCS

set_option maxHeartbeats 4000000 in
set_option maxRecDepth 100000 in
theorem c_X6_command (lQ : Launch) (D : va_G) (kA : Nat → ClassId) (qr : Nat → Nat) (cc : Nat) (ac : Nat → Nat) (co : Nat → Nat) (ad : Nat) (rc : Nat) (nm : Nat → Nat) (st : Nat → Nat) (an : Nat → Nat) (svm : Nat → TCt) (cnt : Nat) (tx : Nat → Nat) (len : Nat) (th : Nat) (xf : Nat → Option Nat) (xt : Nat → Nat) (xs : Nat → Option Nat) (xa : Nat → Nat) (xw : Nat → Nat) (xc : Nat → Nat) (xk : Nat → Option Nat) (xp : Nat → Nat) (pt : Nat) (wr : Option Nat) (xm : Nat → Nat) (mny : Nat) (sz : Nat) (hlen : len ≤ 150) (htx : ∀ j, j < len → tx j < 128) (hpl : pt < len) (hwr : wr = none) (hcc : cc ≤ 5) (hac : ∀ k, k < cc → 2 ≤ ac k ∧ ac k ≤ 4) (hmn : 4 * mny ≤ pt) : Met lQ yX6_command wsX6_command (rmN 4 88) (wr_Pc D vwCl [.ref (qr 0)] (wR kA qr cc ac co ad rc nm st an svm cnt tx len th xf xt xs xa xw xc xk xp pt wr xm mny) (tyK kA) sz) (va_Qv (S := Nat × (Option Nat) × Nat × (Nat → Nat)) (fun (u : Nat × (Option Nat) × Nat × (Nat → Nat)) => (((rcP tx len ac cc pt).1 = true ∧ u.2.1 = none ∧ u.1 = (rcP tx len ac cc pt).2 ∧ u.2.2.1 = mny + 1 ∧ u.2.2.2 = cmU xm mny tx len ac cc pt) ∨ ((rcP tx len ac cc pt).1 = false ∧ u.2.1 = some (rcP tx len ac cc pt).2 ∧ u.2.2.1 = mny ∧ u.2.2.2 = xm)) ∧ u.1 ≤ 400) (wr_B D vwCl (wR kA qr cc ac co ad rc nm st an svm cnt tx len th xf xt xs xa xw xc xk xp pt wr xm mny) (tyK kA) sz (fun u => (wR kA qr cc ac co ad rc nm st an svm cnt tx len th xf xt xs xa xw xc xk xp u.1 u.2.1 u.2.2.2 u.2.2.1))) (va_A (wR kA qr cc ac co ad rc nm st an svm cnt tx len th xf xt xs xa xw xc xk xp pt wr xm mny) sz)) 0 0 (va_A (wR kA qr cc ac co ad rc nm st an svm cnt tx len th xf xt xs xa xw xc xk xp pt wr xm mny) sz) := by
  refine Met.ofW (cc := cX6_command) (maxL := 6) (ret := none) (by decide) rfl ?_
  intro pQ eQ s mQ args below meth cQ s₁ B hml hv
  obtain ⟨rfl, hsz, hP, hK, hD0⟩ := hv
  have hx := B.exec
  have hb := B.bytes
  have hr := B.returns
  have hts := atoms_spec (ws := wsX6_command) B.pre
  have hown : s.vm.findClass RX6 = some mQ.cls := findClass_of_methodNamed B.named
  have hlocks : meth.locks = false := B.notSynchronized
  have hS0 : CallFix pQ mQ cQ cX6_command 6 s ([.ref (qr 0)] : List Value).toArray wsX6_command RX6 := ⟨hx, hb, hml, hown, hts⟩
  subst hsz
  have hD := hD0.self (sz := s.heap.size)
  generalize hAe : va_A (wR kA qr cc ac co ad rc nm st an svm cnt tx len th xf xt xs xa xw xc xk xp pt wr xm mny) s.heap.size = A at hD ⊢
  have hA : ∀ q : Nat, s.heap.size ≤ q → A q := fun q h => by rw [← hAe]; exact Or.inr h
  have hS : va_S A s.heap s.heap [] := va_S.rf
  have f193 : (Cond.fieldLink RX6 193 "AskedRulesModel" "at" "I").before ([.ref (qr 0)] : List Value).toArray s = true := hts _ (by decide +kernel)
  have hinX6 : ∀ w ∈ wsX60, w ∈ wsX6_command := by decide +kernel
  have f196 : (Cond.fieldLink RX6 196 "AskedRulesModel" "wrong" "I").before ([.ref (qr 0)] : List Value).toArray s = true := hts _ (by decide +kernel)
  have f43 : (Cond.fieldLink RX6 43 "AskedRulesModel" "commands" "[I").before ([.ref (qr 0)] : List Value).toArray s = true := hts _ (by decide +kernel)
  have f230 : (Cond.fieldLink RX6 230 "AskedRulesModel" "many" "I").before ([.ref (qr 0)] : List Value).toArray s = true := hts _ (by decide +kernel)
  have k219 : (Cond.constant RX6 219 (nI 150000)).before ([.ref (qr 0)] : List Value).toArray s = true := hts _ (by decide +kernel)
  have k220 : (Cond.constant RX6 220 (nI 13813989)).before ([.ref (qr 0)] : List Value).toArray s = true := hts _ (by decide +kernel)
  have hl := lv_entry ([.ref (qr 0)]) (n := 6) (Nat.le_of_ble_eq_true rfl)
  rw [lg_entry_eq]
  generalize (lg_sl ([.ref (qr 0)]) ++ List.replicate (6 - (lg_sl ([.ref (qr 0)])).length) Slot.unset).toArray = ls at hl ⊢
  have hl : lv_has ls 6 [(0, .ref (qr 0))] := hl
  have hP : va_P D vwCl (wR kA qr cc ac co ad rc nm st an svm cnt tx len th xf xt xs xa xw xc xk xp pt wr xm mny) s.heap := hP
  have hD : va_D A (wR kA qr cc ac co ad rc nm st an svm cnt tx len th xf xt xs xa xw xc xk xp pt wr xm mny) := hD
  rw [hwr] at hP hD
  refine lv_aload_n hx hb dX6_command_0 rfl (lv_at hl 0 rfl) ?_
  refine n_get (ci := 6) (v := .int (nI pt)) (C := RX6) (T := TX6) (N := 18) hx hb hts hinX6 hown hK hP 0 rfl rfl 14 rfl ⟨rfl, rfl, rfl⟩ f193 rfl dX6_command_1 ?_
  refine lv_istore_n (lv' := [(1, .int (nI pt)), (0, .ref (qr 0))]) hx hb dX6_command_4 rfl hl (by decide) rfl (fun ls hl => ?_)
  refine lv_aload_n hx hb dX6_command_5 rfl (lv_at hl 1 rfl) ?_
  refine n_wVi (b := qr 0) (As := []) (rest := []) (wr := []) (ws' := fun u => (wR kA qr cc ac co ad rc nm st an svm cnt tx len th xf xt xs xa xw xc xk xp (wenF tx len 150 pt) none xm mny)) hS0 (c_X6_word lQ D kA qr cc ac co ad rc nm st an svm cnt tx len th xf xt xs xa xw xc xk xp pt none xm mny s.heap.size (by first | assumption | omega) (by first | assumption | omega) (by first | assumption | omega)) (cwV 0 hts gX6_command_X6_word rfl rfl rfl (by decide +kernel) ⟨Nat.le_of_ble_eq_true rfl, Nat.le_of_ble_eq_true rfl⟩) hP hD hS hA hK hK (by simpa only [List.append_assoc, List.append_nil] using (List.Perm.of_eq (List.append_nil _).symm)) (fun u => List.Perm.symm (by simpa only [List.append_assoc, List.append_nil] using (List.Perm.of_eq (List.append_nil _).symm))) (q0 := 0) rfl rfl rfl rfl rfl hl.1 (Nat.le_of_ble_eq_true rfl) dX6_command_6 ⟨Nat.le_refl _, Nat.le_refl _⟩ (fun r6 u6 H locs h6 hP hD hS => ?_)
  subst h6
  have hP : va_P D vwCl (wR kA qr cc ac co ad rc nm st an svm cnt tx len th xf xt xs xa xw xc xk xp (wenF tx len 150 pt) none xm mny) H := hP
  have hD : va_D A (wR kA qr cc ac co ad rc nm st an svm cnt tx len th xf xt xs xa xw xc xk xp (wenF tx len 150 pt) none xm mny) := hD
  obtain ⟨w9, hw9⟩ : ∃ z, z = wenF tx len 150 pt := ⟨_, rfl⟩
  rw [← hw9] at hP hD
  rw [← hw9]
  show W pQ lQ eQ (headSpec wsX6_command (rmN 4 88)).room s mQ ([.ref (qr 0)] : List Value).toArray below meth cQ H locs 0 0 (MQ below (va_Qv (S := Nat × (Option Nat) × Nat × (Nat → Nat)) (fun (u : Nat × (Option Nat) × Nat × (Nat → Nat)) => (((rcP tx len ac cc pt).1 = true ∧ u.2.1 = none ∧ u.1 = (rcP tx len ac cc pt).2 ∧ u.2.2.1 = mny + 1 ∧ u.2.2.2 = cmU xm mny tx len ac cc pt) ∨ ((rcP tx len ac cc pt).1 = false ∧ u.2.1 = some (rcP tx len ac cc pt).2 ∧ u.2.2.1 = mny ∧ u.2.2.2 = xm)) ∧ u.1 ≤ 400) (wr_B D vwCl (wR kA qr cc ac co ad rc nm st an svm cnt tx len th xf xt xs xa xw xc xk xp pt wr xm mny) (tyK kA) s.heap.size (fun u => (wR kA qr cc ac co ad rc nm st an svm cnt tx len th xf xt xs xa xw xc xk xp u.1 u.2.1 u.2.2.2 u.2.2.1))) A) ([.ref (qr 0)] : List Value).toArray s 0 0 A) (F0 mQ 9 ls [.int (nI (wdF tx pt w9))])
  have hl9 : ∀ j, pt ≤ j → j < w9 → 97 ≤ tx j ∧ tx j ≤ 122 := fun j h1 h2 => by rw [hw9] at h2; exact wenF_let h1 h2
  have hwl : w9 ≤ len := by rw [hw9]; exact wenF_le (Nat.le_of_lt hpl)
  have hwg : pt ≤ w9 := by rw [hw9]; exact wenF_ge
  have hwb := (wd_val hl9).1
  refine lv_istore_n (lv' := [(2, .int (nI (wdF tx pt w9))), (1, .int (nI pt)), (0, .ref (qr 0))]) hx hb dX6_command_9 rfl hl (by decide) rfl (fun ls hl => ?_)
  refine lv_iload_n hx hb dX6_command_10 rfl (lv_at hl 0 rfl) ?_
  refine lv_sipush (v := (nI 294)) hx hb dX6_command_11 (by decide) ?_
  refine n_icmp_eq (a := wdF tx pt w9) (b := 294) (tgt := 36) hx hb (by omega) (by omega) dX6_command_14 (by decide) (fun c14 => ?_) (fun c14 => ?_)
  · have hkd : kndF tx pt w9 = some 0 := wd_kind hl9 (by decide) c14
    have hKc : cmK tx len pt = 0 := by unfold cmK; rw [← hw9, hkd]; rfl
    have hl : lv_has ls 6 [(2, .int (nI 294)), (1, .int (nI pt)), (0, .ref (qr 0))] := by rw [c14] at hl; exact hl
    refine lv_iconst (v := (nI 1)) hx hb dX6_command_36 (by decide) ?_
    refine lv_goto (tgt := 41) hx hb dX6_command_37 (by decide) ?_
    refine lv_istore_n (lv' := [(3, .int (nI 1)), (2, .int (nI 294)), (1, .int (nI pt)), (0, .ref (qr 0))]) hx hb dX6_command_41 rfl hl (by decide) rfl (fun ls hl => ?_)
    refine lv_aload_n hx hb dX6_command_42 rfl (lv_at hl 3 rfl) ?_
    refine lv_iload_n hx hb dX6_command_43 rfl (lv_at hl 0 rfl) ?_
    refine lv_iload_n hx hb dX6_command_44 rfl (lv_at hl 2 rfl) ?_
    refine n_wVv (b := qr 0) (As := [.int (bI true), .int (nI pt)]) (rest := []) (wr := []) (ws' := fun u => (wR kA qr cc ac co ad rc nm st an svm cnt tx len th xf xt xs xa xw xc xk xp w9 (alF none true pt) xm mny)) hS0 (c_X6_allows lQ D kA qr cc ac co ad rc nm st an svm cnt tx len th xf xt xs xa xw xc xk xp w9 none xm mny true pt H.size (fun q h => by cases h)) (cwV 2 hts gX6_command_X6_allows rfl rfl rfl (by decide +kernel) ⟨Nat.le_of_ble_eq_true rfl, Nat.le_of_ble_eq_true rfl⟩) hP hD hS hA hK hK (by simpa only [List.append_assoc, List.append_nil] using (List.Perm.of_eq (List.append_nil _).symm)) (fun u => List.Perm.symm (by simpa only [List.append_assoc, List.append_nil] using (List.Perm.of_eq (List.append_nil _).symm))) (q0 := 0) rfl rfl rfl rfl rfl hl.1 (Nat.le_of_ble_eq_true rfl) dX6_command_45 ⟨Nat.le_refl _, Nat.le_refl _⟩ (fun u45 H locs h45 hP hD hS => ?_)
    have hP : va_P D vwCl (wR kA qr cc ac co ad rc nm st an svm cnt tx len th xf xt xs xa xw xc xk xp w9 (alF none true pt) xm mny) H := hP
    have hD : va_D A (wR kA qr cc ac co ad rc nm st an svm cnt tx len th xf xt xs xa xw xc xk xp w9 (alF none true pt) xm mny) := hD
    have hP : va_P D vwCl (wR kA qr cc ac co ad rc nm st an svm cnt tx len th xf xt xs xa xw xc xk xp w9 none xm mny) H := hP
    have hD : va_D A (wR kA qr cc ac co ad rc nm st an svm cnt tx len th xf xt xs xa xw xc xk xp w9 none xm mny) := hD
    refine lv_iconst (v := (nI 0)) hx hb dX6_command_48 (by decide) ?_
    refine lv_istore (lv' := [(4, .int (nI 0)), (3, .int (nI 1)), (2, .int (nI 294)), (1, .int (nI pt)), (0, .ref (qr 0))]) hx hb dX6_command_49 hl (by decide) rfl (fun ls hl => ?_)
    refine lv_iconst (v := (nI 0)) hx hb dX6_command_51 (by decide) ?_
    refine lv_istore (lv' := [(5, .int (nI 0)), (4, .int (nI 0)), (3, .int (nI 1)), (2, .int (nI 294)), (1, .int (nI pt)), (0, .ref (qr 0))]) hx hb dX6_command_52 hl (by decide) rfl (fun ls hl => ?_)
    refine lv_aload_n hx hb dX6_command_54 rfl (lv_at hl 5 rfl) ?_
    refine n_get (ci := 6) (v := .int (oI none)) (C := RX6) (T := TX6) (N := 18) hx hb hts hinX6 hown hK hP 0 rfl rfl 15 rfl ⟨rfl, rfl, rfl⟩ f196 rfl dX6_command_55 ?_
    refine lv_iconst (v := (oI none)) hx hb dX6_command_58 (by decide) ?_
    refine lv_icmp_ne (tgt := 84) hx hb dX6_command_59 (by decide) (fun h => absurd (by decide) h) (fun _ => ?_)
    refine lv_iload_n hx hb dX6_command_62 rfl (lv_at hl 3 rfl) ?_
    refine lv_sipush (v := (nI 294)) hx hb dX6_command_63 (by decide) ?_
    refine lv_icmp_ne (tgt := 84) hx hb dX6_command_66 (by decide) (fun h => absurd (by decide) h) (fun _ => ?_)
    refine lv_aload_n hx hb dX6_command_69 rfl (lv_at hl 5 rfl) ?_
    refine n_wVi (b := qr 0) (As := []) (rest := []) (wr := []) (ws' := fun u => (wR kA qr cc ac co ad rc nm st an svm cnt tx len th xf xt xs xa xw xc xk xp u.1 u.2 xm mny)) hS0 (c_X6_sets lQ D kA qr cc ac co ad rc nm st an svm cnt tx len th xf xt xs xa xw xc xk xp w9 none xm mny H.size (by first | assumption | omega) (by first | assumption | omega) hwl rfl (by first | assumption | omega) (by first | assumption | omega)) (cwV 0 hts gX6_command_X6_sets rfl rfl rfl (by decide +kernel) ⟨Nat.le_of_ble_eq_true rfl, Nat.le_of_ble_eq_true rfl⟩) hP hD hS hA hK hK (by simpa only [List.append_assoc, List.append_nil] using (List.Perm.of_eq (List.append_nil _).symm)) (fun u => List.Perm.symm (by simpa only [List.append_assoc, List.append_nil] using (List.Perm.of_eq (List.append_nil _).symm))) (q0 := 0) rfl rfl rfl rfl rfl hl.1 (Nat.le_of_ble_eq_true rfl) dX6_command_70 ⟨Nat.le_refl _, Nat.le_refl _⟩ (fun r70 u70 H locs h70 hP hD hS => ?_)
    obtain ⟨pt9_70, wr9_70⟩ := u70
    obtain ⟨h70_1, h70_2, h70_3⟩ := h70
    try dsimp only at h70_1 h70_2 h70_3
    have hP : va_P D vwCl (wR kA qr cc ac co ad rc nm st an svm cnt tx len th xf xt xs xa xw xc xk xp pt9_70 wr9_70 xm mny) H := hP
    have hD : va_D A (wR kA qr cc ac co ad rc nm st an svm cnt tx len th xf xt xs xa xw xc xk xp pt9_70 wr9_70 xm mny) := hD
    have hob : ∀ q, ((¬ hereF tx len w9 = some 32 ∧ q = w9) ∨ (hereF tx len w9 = some 32 ∧ (rasL tx len ac cc 0 0 (w9 + 1)).1 = false ∧ q = (rasL tx len ac cc 0 0 (w9 + 1)).2.2) ∨ (hereF tx len w9 = some 32 ∧ (rasL tx len ac cc 0 0 (w9 + 1)).1 = true ∧ q = (rasL tx len ac cc 0 0 (w9 + 1)).2.2 ∧ hereF tx len q ≠ some 62)) → q < 2147483648 := fun q h8 => by
      have h9 := rasL_le (tx := tx) (len := len) (ac := ac) (n := cc) (k := 0) (sets := 0) (p := w9 + 1)
      rcases h8 with ⟨-, h7⟩ | ⟨h6, -, h7⟩ | ⟨h6, -, h7, -⟩
      · omega
      · have := h9 (hereF_lt h6).1; omega
      · have := h9 (hereF_lt h6).1; omega
    refine lv_istore (lv' := [(4, .int r70), (5, .int (nI 0)), (3, .int (nI 1)), (2, .int (nI 294)), (1, .int (nI pt)), (0, .ref (qr 0))]) hx hb dX6_command_73 hl (by decide) rfl (fun ls hl => ?_)
    refine lv_aload_n hx hb dX6_command_75 rfl (lv_at hl 5 rfl) ?_
    refine n_wVi (b := qr 0) (As := []) (rest := []) (wr := []) (ws' := fun u => (wR kA qr cc ac co ad rc nm st an svm cnt tx len th xf xt xs xa xw xc xk xp (pt9_70 + 2) (alF (alF wr9_70 (decide (hereF tx len pt9_70 = some 62)) pt9_70) (digT tx len (pt9_70 + 1)).isSome (pt9_70 + 1)) xm mny)) hS0 (c_X6_action lQ D kA qr cc ac co ad rc nm st an svm cnt tx len th xf xt xs xa xw xc xk xp pt9_70 wr9_70 xm mny H.size (by first | assumption | omega) (by first | assumption | omega) (by first | assumption | omega) (fun q h => hob q (h70_2 q h)) (by first | assumption | omega)) (cwV 0 hts gX6_command_X6_action rfl rfl rfl (by decide +kernel) ⟨Nat.le_of_ble_eq_true rfl, Nat.le_of_ble_eq_true rfl⟩) hP hD hS hA hK hK (by simpa only [List.append_assoc, List.append_nil] using (List.Perm.of_eq (List.append_nil _).symm)) (fun u => List.Perm.symm (by simpa only [List.append_assoc, List.append_nil] using (List.Perm.of_eq (List.append_nil _).symm))) (q0 := 0) rfl rfl rfl rfl rfl hl.1 (Nat.le_of_ble_eq_true rfl) dX6_command_76 ⟨Nat.le_refl _, Nat.le_refl _⟩ (fun r76 u76 H locs h76 hP hD hS => ?_)
    subst h76
    have hP : va_P D vwCl (wR kA qr cc ac co ad rc nm st an svm cnt tx len th xf xt xs xa xw xc xk xp (pt9_70 + 2) (alF (alF wr9_70 (decide (hereF tx len pt9_70 = some 62)) pt9_70) (digT tx len (pt9_70 + 1)).isSome (pt9_70 + 1)) xm mny) H := hP
    have hD : va_D A (wR kA qr cc ac co ad rc nm st an svm cnt tx len th xf xt xs xa xw xc xk xp (pt9_70 + 2) (alF (alF wr9_70 (decide (hereF tx len pt9_70 = some 62)) pt9_70) (digT tx len (pt9_70 + 1)).isSome (pt9_70 + 1)) xm mny) := hD
    refine lv_istore (lv' := [(5, .int (oI (hereF tx len (pt9_70 + 1)) - nI 48)), (4, .int r70), (3, .int (nI 1)), (2, .int (nI 294)), (1, .int (nI pt)), (0, .ref (qr 0))]) hx hb dX6_command_79 hl (by decide) rfl (fun ls hl => ?_)
    refine lv_goto (tgt := 104) hx hb dX6_command_81 (by decide) ?_
    refine lv_aload_n hx hb dX6_command_104 rfl (lv_at hl 5 rfl) ?_
    refine lv_bipush (v := (nI 59)) hx hb dX6_command_105 (by decide) ?_
    refine n_wVv (b := qr 0) (As := [.int (nI 59)]) (rest := []) (wr := []) (ws' := fun u => (wR kA qr cc ac co ad rc nm st an svm cnt tx len th xf xt xs xa xw xc xk xp ((pt9_70 + 2) + 1) (alF (alF (alF wr9_70 (decide (hereF tx len pt9_70 = some 62)) pt9_70) (digT tx len (pt9_70 + 1)).isSome (pt9_70 + 1)) (decide (hereF tx len (pt9_70 + 2) = some 59)) (pt9_70 + 2)) xm mny)) hS0 (c_X6_sign lQ D kA qr cc ac co ad rc nm st an svm cnt tx len th xf xt xs xa xw xc xk xp (pt9_70 + 2) (alF (alF wr9_70 (decide (hereF tx len pt9_70 = some 62)) pt9_70) (digT tx len (pt9_70 + 1)).isSome (pt9_70 + 1)) xm mny 59 H.size (by first | assumption | omega) (by first | assumption | omega) (by first | assumption | omega) (by first | exact (fun q h => by cases h <;> omega) | exact alF_bd (alF_bd (fun q h => hob q (h70_2 q h)) (by omega)) (by omega) | exact alF_bd (alF_bd (fun q h => by cases h) (by omega)) (by omega)) (by first | assumption | omega)) (cwV 1 hts gX6_command_X6_sign rfl rfl rfl (by decide +kernel) ⟨Nat.le_of_ble_eq_true rfl, Nat.le_of_ble_eq_true rfl⟩) hP hD hS hA hK hK (by simpa only [List.append_assoc, List.append_nil] using (List.Perm.of_eq (List.append_nil _).symm)) (fun u => List.Perm.symm (by simpa only [List.append_assoc, List.append_nil] using (List.Perm.of_eq (List.append_nil _).symm))) (q0 := 0) rfl rfl rfl rfl rfl hl.1 (Nat.le_of_ble_eq_true rfl) dX6_command_107 ⟨Nat.le_refl _, Nat.le_refl _⟩ (fun u107 H locs h107 hP hD hS => ?_)
    have hP : va_P D vwCl (wR kA qr cc ac co ad rc nm st an svm cnt tx len th xf xt xs xa xw xc xk xp ((pt9_70 + 2) + 1) (alF (alF (alF wr9_70 (decide (hereF tx len pt9_70 = some 62)) pt9_70) (digT tx len (pt9_70 + 1)).isSome (pt9_70 + 1)) (decide (hereF tx len (pt9_70 + 2) = some 59)) (pt9_70 + 2)) xm mny) H := hP
    have hD : va_D A (wR kA qr cc ac co ad rc nm st an svm cnt tx len th xf xt xs xa xw xc xk xp ((pt9_70 + 2) + 1) (alF (alF (alF wr9_70 (decide (hereF tx len pt9_70 = some 62)) pt9_70) (digT tx len (pt9_70 + 1)).isSome (pt9_70 + 1)) (decide (hereF tx len (pt9_70 + 2) = some 59)) (pt9_70 + 2)) xm mny) := hD
    refine lv_aload_n hx hb dX6_command_110 rfl (lv_at hl 5 rfl) ?_
    refine n_get (ci := 6) (v := .int (oI (alF (alF (alF wr9_70 (decide (hereF tx len pt9_70 = some 62)) pt9_70) (digT tx len (pt9_70 + 1)).isSome (pt9_70 + 1)) (decide (hereF tx len (pt9_70 + 2) = some 59)) (pt9_70 + 2)))) (C := RX6) (T := TX6) (N := 18) hx hb hts hinX6 hown hK hP 0 rfl rfl 15 rfl ⟨rfl, rfl, rfl⟩ f196 rfl dX6_command_111 ?_
    refine lv_iconst (v := (oI none)) hx hb dX6_command_114 (by decide) ?_
    refine n_icmpo_ne (o := alF (alF (alF wr9_70 (decide (hereF tx len pt9_70 = some 62)) pt9_70) (digT tx len (pt9_70 + 1)).isSome (pt9_70 + 1)) (decide (hereF tx len (pt9_70 + 2) = some 59)) (pt9_70 + 2)) (tgt := 170) hx hb (by first | exact alF_bd (fun q h => by cases h <;> omega) (by omega) | exact alF_bd (alF_bd (alF_bd (fun q h => hob q (h70_2 q h)) (by omega)) (by omega)) (by omega) | exact alF_bd (alF_bd (alF_bd (fun q h => by cases h) (by omega)) (by omega)) (by omega)) dX6_command_115 (by decide) (fun q115 c115 => ?_) (fun c115 => ?_)
    · have hrk : rcP tx len ac cc pt = rc0 tx len ac cc w9 := by unfold rcP; rw [← hw9, hkd]; rfl
      have hrc : rcP tx len ac cc pt = (false, q115) := by
        rw [hrk]
        rcases alF_some c115 with h1 | ⟨h1, h2, h3⟩
        · rcases alF_some h1 with h4 | ⟨h4, h5, h6⟩
          · rcases alF_some h4 with h7 | ⟨h7, h8, h9⟩
            · rcases h70_2 _ h7 with ⟨g1, g2⟩ | ⟨g1, g2, g3⟩ | ⟨g1, g2, g3, g4⟩
              · rw [rc0_32 g1, g2]
              · rw [rc0_ra g1 g2, g3]
              · rw [rc0_62 g1 g2 (by rw [← g3]; exact g4), g3]
            · obtain ⟨g1, g2, g3, g4⟩ := h70_1 h7
              rw [rc0_62 g1 g2 (by rw [← g3]; exact of_decide_eq_false h8), h9, g3]
          · obtain ⟨h7, h8⟩ := alF_none.mp h4
            obtain ⟨g1, g2, g3, g4⟩ := h70_1 h7
            have hd : digT tx len (pt9_70 + 1) = none := by cases h : digT tx len (pt9_70 + 1) with | none => rfl | some d => (rw [h] at h5; cases h5)
            rw [rc0_dg g1 g2 (by rw [← g3]; exact of_decide_eq_true h8) (by rw [← g3]; exact hd), h6, g3]
        · obtain ⟨h4, h5⟩ := alF_none.mp h1
          obtain ⟨h7, h8⟩ := alF_none.mp h4
          obtain ⟨g1, g2, g3, g4⟩ := h70_1 h7
          obtain ⟨d, hd⟩ := Option.isSome_iff_exists.mp h5
          have h9 := of_decide_eq_false h2
          rw [rc0_ok (d := d) g1 g2 (by rw [← g3]; exact of_decide_eq_true h8) (by rw [← g3]; exact hd), ← g3, decide_eq_false h9, stp_f h9, h3]
      exact n_wretv hx hb hr hlocks (post := fun (u : Nat × (Option Nat) × Nat × (Nat → Nat)) => (((rcP tx len ac cc pt).1 = true ∧ u.2.1 = none ∧ u.1 = (rcP tx len ac cc pt).2 ∧ u.2.2.1 = mny + 1 ∧ u.2.2.2 = cmU xm mny tx len ac cc pt) ∨ ((rcP tx len ac cc pt).1 = false ∧ u.2.1 = some (rcP tx len ac cc pt).2 ∧ u.2.2.1 = mny ∧ u.2.2.2 = xm)) ∧ u.1 ≤ 400) (w1 := fun u => (wR kA qr cc ac co ad rc nm st an svm cnt tx len th xf xt xs xa xw xc xk xp u.1 u.2.1 u.2.2.2 u.2.2.1)) ((pt9_70 + 2) + 1, alF (alF (alF wr9_70 (decide (hereF tx len pt9_70 = some 62)) pt9_70) (digT tx len (pt9_70 + 1)).isSome (pt9_70 + 1)) (decide (hereF tx len (pt9_70 + 2) = some 59)) (pt9_70 + 2), mny, xm) (by first | exact ⟨Or.inl ⟨(by rw [hrc]), c115, (by rw [hrc]), rfl, hxm⟩, (by omega)⟩ | exact ⟨Or.inr ⟨(by rw [hrc]), (by rw [hrc]; exact c115), rfl, rfl⟩, (by omega)⟩) hP hD hK hS hAe dX6_command_170
    · have hrk : rcP tx len ac cc pt = rc0 tx len ac cc w9 := by unfold rcP; rw [← hw9, hkd]; rfl
      have hn1 := alF_none.mp c115
      have h59 := of_decide_eq_true hn1.2
      have hn2 := alF_none.mp hn1.1
      have hn3 := alF_none.mp hn2.1
      obtain ⟨d9, hd9⟩ := Option.isSome_iff_exists.mp hn2.2
      have h62 := of_decide_eq_true hn3.2
      obtain ⟨g1, g2, g3, g4⟩ := h70_1 hn3.1
      have hd8 := hd9
      rw [g3] at h62 hd8 h59
      have hrc : rcP tx len ac cc pt = (true, pt9_70 + 3) := by rw [hrk, rc0_ok g1 g2 h62 hd8, decide_eq_true h59, stp_t h59, g3]
      have he4 : r70 = nI (cmS tx len ac cc pt).2.1 := by rw [g4]; unfold cmS; rw [← hw9]
      have he5 : (oI (hereF tx len (pt9_70 + 1)) - nI 48) = nI (cmA tx len ac cc pt) := by rw [dig_sub48 hd9]; unfold cmA cmS; rw [← hw9, raF_s h62 hd8]; rfl
      have hl : lv_has ls 6 [(5, .int (nI (cmA tx len ac cc pt))), (4, .int (nI ((cmS tx len ac cc pt).2.1))), (3, .int (nI 1)), (2, .int (nI 294)), (1, .int (nI pt)), (0, .ref (qr 0))] := by rw [← he4, ← he5]; exact hl
      have hxm : va_up (va_up (va_up xm (3 * mny) 294) (3 * mny + 1) (cmS tx len ac cc pt).2.1) (3 * mny + 2) (cmA tx len ac cc pt) = cmU xm mny tx len ac cc pt := by unfold cmU mA mB; rw [hKc]; rfl
      refine lv_aload_n hx hb dX6_command_118 rfl (lv_at hl 5 rfl) ?_
      refine n_get (ci := 6) (v := .ref (qr 12)) (C := RX6) (T := TX6) (N := 18) hx hb hts hinX6 hown hK hP 0 rfl rfl 16 rfl ⟨rfl, rfl, rfl⟩ f43 rfl dX6_command_119 ?_
      refine lv_iconst (v := (nI 3)) hx hb dX6_command_122 (by decide) ?_
      refine lv_aload_n hx hb dX6_command_123 rfl (lv_at hl 5 rfl) ?_
      refine n_get (ci := 6) (v := .int (nI mny)) (C := RX6) (T := TX6) (N := 18) hx hb hts hinX6 hown hK hP 0 rfl rfl 17 rfl ⟨rfl, rfl, rfl⟩ f230 rfl dX6_command_124 ?_
      refine n_imul (v := (nI (3 * mny))) hx hb (pk_mul _ _) dX6_command_127 ?_
      refine lv_iload_n hx hb dX6_command_128 rfl (lv_at hl 3 rfl) ?_
      refine n_iast (i := 3 * mny) (x := (nI 294)) (g := aN (va_up xm (3 * mny) 294)) (ws' := (wR kA qr cc ac co ad rc nm st an svm cnt tx len th xf xt xs xa xw xc xk xp ((pt9_70 + 2) + 1) (alF (alF (alF wr9_70 (decide (hereF tx len pt9_70 = some 62)) pt9_70) (digT tx len (pt9_70 + 1)).isSome (pt9_70 + 1)) (decide (hereF tx len (pt9_70 + 2) = some 59)) (pt9_70 + 2)) (va_up xm (3 * mny) 294) mny)) hx hb hK hP hD hS 12 0 rfl rfl (by omega) (Nat.le_of_ble_eq_true rfl) (aN_up _ _ _) rfl dX6_command_129 (fun H locs hP hD hS => ?_)
      refine lv_aload_n hx hb dX6_command_130 rfl (lv_at hl 5 rfl) ?_
      refine n_get (ci := 6) (v := .ref (qr 12)) (C := RX6) (T := TX6) (N := 18) hx hb hts hinX6 hown hK hP 0 rfl rfl 16 rfl ⟨rfl, rfl, rfl⟩ f43 rfl dX6_command_131 ?_
      refine lv_iconst (v := (nI 3)) hx hb dX6_command_134 (by decide) ?_
      refine lv_aload_n hx hb dX6_command_135 rfl (lv_at hl 5 rfl) ?_
      refine n_get (ci := 6) (v := .int (nI mny)) (C := RX6) (T := TX6) (N := 18) hx hb hts hinX6 hown hK hP 0 rfl rfl 17 rfl ⟨rfl, rfl, rfl⟩ f230 rfl dX6_command_136 ?_
      refine n_imul (v := (nI (3 * mny))) hx hb (pk_mul _ _) dX6_command_139 ?_
      refine lv_iconst (v := (nI 1)) hx hb dX6_command_140 (by decide) ?_
      refine n_iadd (v := (nI ((3 * mny) + 1))) hx hb (nI_add _ _) dX6_command_141 ?_
      refine lv_iload hx hb dX6_command_142 (lv_at hl 1 rfl) ?_
      refine n_iast (i := (3 * mny) + 1) (x := (nI ((cmS tx len ac cc pt).2.1))) (g := aN (va_up (va_up xm (3 * mny) 294) ((3 * mny) + 1) ((cmS tx len ac cc pt).2.1))) (ws' := (wR kA qr cc ac co ad rc nm st an svm cnt tx len th xf xt xs xa xw xc xk xp ((pt9_70 + 2) + 1) (alF (alF (alF wr9_70 (decide (hereF tx len pt9_70 = some 62)) pt9_70) (digT tx len (pt9_70 + 1)).isSome (pt9_70 + 1)) (decide (hereF tx len (pt9_70 + 2) = some 59)) (pt9_70 + 2)) (va_up (va_up xm (3 * mny) 294) ((3 * mny) + 1) ((cmS tx len ac cc pt).2.1)) mny)) hx hb hK hP hD hS 12 0 rfl rfl (by omega) (Nat.le_of_ble_eq_true rfl) (aN_up _ _ _) rfl dX6_command_144 (fun H locs hP hD hS => ?_)
      refine lv_aload_n hx hb dX6_command_145 rfl (lv_at hl 5 rfl) ?_
      refine n_get (ci := 6) (v := .ref (qr 12)) (C := RX6) (T := TX6) (N := 18) hx hb hts hinX6 hown hK hP 0 rfl rfl 16 rfl ⟨rfl, rfl, rfl⟩ f43 rfl dX6_command_146 ?_
      refine lv_iconst (v := (nI 3)) hx hb dX6_command_149 (by decide) ?_
      refine lv_aload_n hx hb dX6_command_150 rfl (lv_at hl 5 rfl) ?_
      refine n_get (ci := 6) (v := .int (nI mny)) (C := RX6) (T := TX6) (N := 18) hx hb hts hinX6 hown hK hP 0 rfl rfl 17 rfl ⟨rfl, rfl, rfl⟩ f230 rfl dX6_command_151 ?_
      refine n_imul (v := (nI (3 * mny))) hx hb (pk_mul _ _) dX6_command_154 ?_
      refine lv_iconst (v := (nI 2)) hx hb dX6_command_155 (by decide) ?_
      refine n_iadd (v := (nI ((3 * mny) + 2))) hx hb (nI_add _ _) dX6_command_156 ?_
      refine lv_iload hx hb dX6_command_157 (lv_at hl 0 rfl) ?_
      refine n_iast (i := (3 * mny) + 2) (x := (nI (cmA tx len ac cc pt))) (g := aN (va_up (va_up (va_up xm (3 * mny) 294) ((3 * mny) + 1) ((cmS tx len ac cc pt).2.1)) ((3 * mny) + 2) (cmA tx len ac cc pt))) (ws' := (wR kA qr cc ac co ad rc nm st an svm cnt tx len th xf xt xs xa xw xc xk xp ((pt9_70 + 2) + 1) (alF (alF (alF wr9_70 (decide (hereF tx len pt9_70 = some 62)) pt9_70) (digT tx len (pt9_70 + 1)).isSome (pt9_70 + 1)) (decide (hereF tx len (pt9_70 + 2) = some 59)) (pt9_70 + 2)) (va_up (va_up (va_up xm (3 * mny) 294) ((3 * mny) + 1) ((cmS tx len ac cc pt).2.1)) ((3 * mny) + 2) (cmA tx len ac cc pt)) mny)) hx hb hK hP hD hS 12 0 rfl rfl (by omega) (Nat.le_of_ble_eq_true rfl) (aN_up _ _ _) rfl dX6_command_159 (fun H locs hP hD hS => ?_)
      refine lv_aload_n hx hb dX6_command_160 rfl (lv_at hl 5 rfl) ?_
      refine lv_dup hx hb dX6_command_161 rfl ?_
      refine n_get (ci := 6) (v := .int (nI mny)) (C := RX6) (T := TX6) (N := 18) hx hb hts hinX6 hown hK hP 0 rfl rfl 17 rfl ⟨rfl, rfl, rfl⟩ f230 rfl dX6_command_162 ?_
      refine lv_iconst (v := (nI 1)) hx hb dX6_command_165 (by decide) ?_
      refine n_iadd (v := (nI (mny + 1))) hx hb (nI_add _ _) dX6_command_166 ?_
      refine n_put (ci := 6) (v := .int (nI (mny + 1))) (C := RX6) (T := TX6) (N := 18) (ws' := (wR kA qr cc ac co ad rc nm st an svm cnt tx len th xf xt xs xa xw xc xk xp ((pt9_70 + 2) + 1) (alF (alF (alF wr9_70 (decide (hereF tx len pt9_70 = some 62)) pt9_70) (digT tx len (pt9_70 + 1)).isSome (pt9_70 + 1)) (decide (hereF tx len (pt9_70 + 2) = some 59)) (pt9_70 + 2)) (va_up (va_up (va_up xm (3 * mny) 294) ((3 * mny) + 1) ((cmS tx len ac cc pt).2.1)) ((3 * mny) + 2) (cmA tx len ac cc pt)) (mny + 1))) hx hb hts hinX6 tyX6 tyX6_ok nmX6 hown hK hP hD hS 0 rfl rfl 17 rfl ⟨rfl, rfl, rfl, rfl⟩ f230 rfl rfl rfl rfl dX6_command_167 (fun H locs hP hD hS => ?_)
      exact n_wretv hx hb hr hlocks (post := fun (u : Nat × (Option Nat) × Nat × (Nat → Nat)) => (((rcP tx len ac cc pt).1 = true ∧ u.2.1 = none ∧ u.1 = (rcP tx len ac cc pt).2 ∧ u.2.2.1 = mny + 1 ∧ u.2.2.2 = cmU xm mny tx len ac cc pt) ∨ ((rcP tx len ac cc pt).1 = false ∧ u.2.1 = some (rcP tx len ac cc pt).2 ∧ u.2.2.1 = mny ∧ u.2.2.2 = xm)) ∧ u.1 ≤ 400) (w1 := fun u => (wR kA qr cc ac co ad rc nm st an svm cnt tx len th xf xt xs xa xw xc xk xp u.1 u.2.1 u.2.2.2 u.2.2.1)) ((pt9_70 + 2) + 1, alF (alF (alF wr9_70 (decide (hereF tx len pt9_70 = some 62)) pt9_70) (digT tx len (pt9_70 + 1)).isSome (pt9_70 + 1)) (decide (hereF tx len (pt9_70 + 2) = some 59)) (pt9_70 + 2), mny + 1, va_up (va_up (va_up xm (3 * mny) 294) ((3 * mny) + 1) ((cmS tx len ac cc pt).2.1)) ((3 * mny) + 2) (cmA tx len ac cc pt)) (by first | exact ⟨Or.inl ⟨(by rw [hrc]), c115, (by rw [hrc]), rfl, hxm⟩, (by omega)⟩ | exact ⟨Or.inr ⟨(by rw [hrc]), (by rw [hrc]; exact c115), rfl, rfl⟩, (by omega)⟩) hP hD hK hS hAe dX6_command_170
  · refine lv_iload_n hx hb dX6_command_17 rfl (lv_at hl 0 rfl) ?_
    refine lv_ldc (v := (nI 150000)) hx hb hown k219 dX6_command_18 ?_
    refine n_icmp_eq (a := wdF tx pt w9) (b := 150000) (tgt := 36) hx hb (by omega) (by omega) dX6_command_20 (by decide) (fun c20 => ?_) (fun c20 => ?_)
    · have hkd : kndF tx pt w9 = some 1 := wd_kind hl9 (by decide) c20
      have hKc : cmK tx len pt = 1 := by unfold cmK; rw [← hw9, hkd]; rfl
      have hl : lv_has ls 6 [(2, .int (nI 150000)), (1, .int (nI pt)), (0, .ref (qr 0))] := by rw [c20] at hl; exact hl
      refine lv_iconst (v := (nI 1)) hx hb dX6_command_36 (by decide) ?_
      refine lv_goto (tgt := 41) hx hb dX6_command_37 (by decide) ?_
      refine lv_istore_n (lv' := [(3, .int (nI 1)), (2, .int (nI 150000)), (1, .int (nI pt)), (0, .ref (qr 0))]) hx hb dX6_command_41 rfl hl (by decide) rfl (fun ls hl => ?_)
      refine lv_aload_n hx hb dX6_command_42 rfl (lv_at hl 3 rfl) ?_
      refine lv_iload_n hx hb dX6_command_43 rfl (lv_at hl 0 rfl) ?_
      refine lv_iload_n hx hb dX6_command_44 rfl (lv_at hl 2 rfl) ?_
      refine n_wVv (b := qr 0) (As := [.int (bI true), .int (nI pt)]) (rest := []) (wr := []) (ws' := fun u => (wR kA qr cc ac co ad rc nm st an svm cnt tx len th xf xt xs xa xw xc xk xp w9 (alF none true pt) xm mny)) hS0 (c_X6_allows lQ D kA qr cc ac co ad rc nm st an svm cnt tx len th xf xt xs xa xw xc xk xp w9 none xm mny true pt H.size (fun q h => by cases h)) (cwV 2 hts gX6_command_X6_allows rfl rfl rfl (by decide +kernel) ⟨Nat.le_of_ble_eq_true rfl, Nat.le_of_ble_eq_true rfl⟩) hP hD hS hA hK hK (by simpa only [List.append_assoc, List.append_nil] using (List.Perm.of_eq (List.append_nil _).symm)) (fun u => List.Perm.symm (by simpa only [List.append_assoc, List.append_nil] using (List.Perm.of_eq (List.append_nil _).symm))) (q0 := 0) rfl rfl rfl rfl rfl hl.1 (Nat.le_of_ble_eq_true rfl) dX6_command_45 ⟨Nat.le_refl _, Nat.le_refl _⟩ (fun u45 H locs h45 hP hD hS => ?_)
      have hP : va_P D vwCl (wR kA qr cc ac co ad rc nm st an svm cnt tx len th xf xt xs xa xw xc xk xp w9 (alF none true pt) xm mny) H := hP
      have hD : va_D A (wR kA qr cc ac co ad rc nm st an svm cnt tx len th xf xt xs xa xw xc xk xp w9 (alF none true pt) xm mny) := hD
      have hP : va_P D vwCl (wR kA qr cc ac co ad rc nm st an svm cnt tx len th xf xt xs xa xw xc xk xp w9 none xm mny) H := hP
      have hD : va_D A (wR kA qr cc ac co ad rc nm st an svm cnt tx len th xf xt xs xa xw xc xk xp w9 none xm mny) := hD
      refine lv_iconst (v := (nI 0)) hx hb dX6_command_48 (by decide) ?_
      refine lv_istore (lv' := [(4, .int (nI 0)), (3, .int (nI 1)), (2, .int (nI 150000)), (1, .int (nI pt)), (0, .ref (qr 0))]) hx hb dX6_command_49 hl (by decide) rfl (fun ls hl => ?_)
      refine lv_iconst (v := (nI 0)) hx hb dX6_command_51 (by decide) ?_
      refine lv_istore (lv' := [(5, .int (nI 0)), (4, .int (nI 0)), (3, .int (nI 1)), (2, .int (nI 150000)), (1, .int (nI pt)), (0, .ref (qr 0))]) hx hb dX6_command_52 hl (by decide) rfl (fun ls hl => ?_)
      refine lv_aload_n hx hb dX6_command_54 rfl (lv_at hl 5 rfl) ?_
      refine n_get (ci := 6) (v := .int (oI none)) (C := RX6) (T := TX6) (N := 18) hx hb hts hinX6 hown hK hP 0 rfl rfl 15 rfl ⟨rfl, rfl, rfl⟩ f196 rfl dX6_command_55 ?_
      refine lv_iconst (v := (oI none)) hx hb dX6_command_58 (by decide) ?_
      refine lv_icmp_ne (tgt := 84) hx hb dX6_command_59 (by decide) (fun h => absurd (by decide) h) (fun _ => ?_)
      refine lv_iload_n hx hb dX6_command_62 rfl (lv_at hl 3 rfl) ?_
      refine lv_sipush (v := (nI 294)) hx hb dX6_command_63 (by decide) ?_
      refine lv_icmp_ne (tgt := 84) hx hb dX6_command_66 (by decide) (fun _ => ?_) (fun h => absurd h (by decide))
      refine lv_aload_n hx hb dX6_command_84 rfl (lv_at hl 5 rfl) ?_
      refine n_get (ci := 6) (v := .int (oI none)) (C := RX6) (T := TX6) (N := 18) hx hb hts hinX6 hown hK hP 0 rfl rfl 15 rfl ⟨rfl, rfl, rfl⟩ f196 rfl dX6_command_85 ?_
      refine lv_iconst (v := (oI none)) hx hb dX6_command_88 (by decide) ?_
      refine lv_icmp_ne (tgt := 104) hx hb dX6_command_89 (by decide) (fun h => absurd (by decide) h) (fun _ => ?_)
      refine lv_iload_n hx hb dX6_command_92 rfl (lv_at hl 3 rfl) ?_
      refine lv_ldc (v := (nI 13813989)) hx hb hown k220 dX6_command_93 ?_
      refine lv_icmp_eq (tgt := 104) hx hb dX6_command_95 (by decide) (fun h => absurd h (by decide)) (fun _ => ?_)
      refine lv_aload_n hx hb dX6_command_98 rfl (lv_at hl 5 rfl) ?_
      refine n_wVi (b := qr 0) (As := []) (rest := []) (wr := []) (ws' := fun u => (wR kA qr cc ac co ad rc nm st an svm cnt tx len th xf xt xs xa xw xc xk xp (cond (digT tx len (w9 + 2)).isSome (w9 + 3) (w9 + 2)) (alF (alF none (decide (hereF tx len w9 = some 32)) w9) (digT tx len (w9 + 1)).isSome (w9 + 1)) xm mny)) hS0 (c_X6_rowNumber lQ D kA qr cc ac co ad rc nm st an svm cnt tx len th xf xt xs xa xw xc xk xp w9 none xm mny H.size (by first | assumption | omega) (by first | assumption | omega) (by first | assumption | omega) (fun q h => by cases h) (by first | assumption | omega)) (cwV 0 hts gX6_command_X6_rowNumber rfl rfl rfl (by decide +kernel) ⟨Nat.le_of_ble_eq_true rfl, Nat.le_of_ble_eq_true rfl⟩) hP hD hS hA hK hK (by simpa only [List.append_assoc, List.append_nil] using (List.Perm.of_eq (List.append_nil _).symm)) (fun u => List.Perm.symm (by simpa only [List.append_assoc, List.append_nil] using (List.Perm.of_eq (List.append_nil _).symm))) (q0 := 0) rfl rfl rfl rfl rfl hl.1 (Nat.le_of_ble_eq_true rfl) dX6_command_99 ⟨Nat.le_refl _, Nat.le_refl _⟩ (fun r99 u99 H locs h99 hP hD hS => ?_)
      subst h99
      have hP : va_P D vwCl (wR kA qr cc ac co ad rc nm st an svm cnt tx len th xf xt xs xa xw xc xk xp (cond (digT tx len (w9 + 2)).isSome (w9 + 3) (w9 + 2)) (alF (alF none (decide (hereF tx len w9 = some 32)) w9) (digT tx len (w9 + 1)).isSome (w9 + 1)) xm mny) H := hP
      have hD : va_D A (wR kA qr cc ac co ad rc nm st an svm cnt tx len th xf xt xs xa xw xc xk xp (cond (digT tx len (w9 + 2)).isSome (w9 + 3) (w9 + 2)) (alF (alF none (decide (hereF tx len w9 = some 32)) w9) (digT tx len (w9 + 1)).isSome (w9 + 1)) xm mny) := hD
      obtain ⟨t9, ht9⟩ : ∃ z, z = cond (digT tx len (w9 + 2)).isSome (w9 + 3) (w9 + 2) := ⟨_, rfl⟩
      rw [← ht9] at hP hD
      have htl9 : t9 ≤ w9 + 3 := by rw [ht9]; cases (digT tx len (w9 + 2)).isSome with | true => exact Nat.le_refl _ | false => exact Nat.le_succ _
      refine lv_istore (lv' := [(4, .int (cond (digT tx len (w9 + 2)).isSome (nI 10 * (oI (hereF tx len (w9 + 1)) - nI 48) + oI (hereF tx len (w9 + 2)) - nI 48) (oI (hereF tx len (w9 + 1)) - nI 48))), (5, .int (nI 0)), (3, .int (nI 1)), (2, .int (nI 150000)), (1, .int (nI pt)), (0, .ref (qr 0))]) hx hb dX6_command_102 hl (by decide) rfl (fun ls hl => ?_)
      refine lv_aload_n hx hb dX6_command_104 rfl (lv_at hl 5 rfl) ?_
      refine lv_bipush (v := (nI 59)) hx hb dX6_command_105 (by decide) ?_
      refine n_wVv (b := qr 0) (As := [.int (nI 59)]) (rest := []) (wr := []) (ws' := fun u => (wR kA qr cc ac co ad rc nm st an svm cnt tx len th xf xt xs xa xw xc xk xp (t9 + 1) (alF (alF (alF none (decide (hereF tx len w9 = some 32)) w9) (digT tx len (w9 + 1)).isSome (w9 + 1)) (decide (hereF tx len t9 = some 59)) t9) xm mny)) hS0 (c_X6_sign lQ D kA qr cc ac co ad rc nm st an svm cnt tx len th xf xt xs xa xw xc xk xp t9 (alF (alF none (decide (hereF tx len w9 = some 32)) w9) (digT tx len (w9 + 1)).isSome (w9 + 1)) xm mny 59 H.size (by first | assumption | omega) (by first | assumption | omega) (by first | assumption | omega) (by first | exact (fun q h => by cases h <;> omega) | exact alF_bd (alF_bd (fun q h => hob q (h70_2 q h)) (by omega)) (by omega) | exact alF_bd (alF_bd (fun q h => by cases h) (by omega)) (by omega)) (by first | assumption | omega)) (cwV 1 hts gX6_command_X6_sign rfl rfl rfl (by decide +kernel) ⟨Nat.le_of_ble_eq_true rfl, Nat.le_of_ble_eq_true rfl⟩) hP hD hS hA hK hK (by simpa only [List.append_assoc, List.append_nil] using (List.Perm.of_eq (List.append_nil _).symm)) (fun u => List.Perm.symm (by simpa only [List.append_assoc, List.append_nil] using (List.Perm.of_eq (List.append_nil _).symm))) (q0 := 0) rfl rfl rfl rfl rfl hl.1 (Nat.le_of_ble_eq_true rfl) dX6_command_107 ⟨Nat.le_refl _, Nat.le_refl _⟩ (fun u107 H locs h107 hP hD hS => ?_)
      have hP : va_P D vwCl (wR kA qr cc ac co ad rc nm st an svm cnt tx len th xf xt xs xa xw xc xk xp (t9 + 1) (alF (alF (alF none (decide (hereF tx len w9 = some 32)) w9) (digT tx len (w9 + 1)).isSome (w9 + 1)) (decide (hereF tx len t9 = some 59)) t9) xm mny) H := hP
      have hD : va_D A (wR kA qr cc ac co ad rc nm st an svm cnt tx len th xf xt xs xa xw xc xk xp (t9 + 1) (alF (alF (alF none (decide (hereF tx len w9 = some 32)) w9) (digT tx len (w9 + 1)).isSome (w9 + 1)) (decide (hereF tx len t9 = some 59)) t9) xm mny) := hD
      refine lv_aload_n hx hb dX6_command_110 rfl (lv_at hl 5 rfl) ?_
      refine n_get (ci := 6) (v := .int (oI (alF (alF (alF none (decide (hereF tx len w9 = some 32)) w9) (digT tx len (w9 + 1)).isSome (w9 + 1)) (decide (hereF tx len t9 = some 59)) t9))) (C := RX6) (T := TX6) (N := 18) hx hb hts hinX6 hown hK hP 0 rfl rfl 15 rfl ⟨rfl, rfl, rfl⟩ f196 rfl dX6_command_111 ?_
      refine lv_iconst (v := (oI none)) hx hb dX6_command_114 (by decide) ?_
      refine n_icmpo_ne (o := alF (alF (alF none (decide (hereF tx len w9 = some 32)) w9) (digT tx len (w9 + 1)).isSome (w9 + 1)) (decide (hereF tx len t9 = some 59)) t9) (tgt := 170) hx hb (by first | exact alF_bd (fun q h => by cases h <;> omega) (by omega) | exact alF_bd (alF_bd (alF_bd (fun q h => hob q (h70_2 q h)) (by omega)) (by omega)) (by omega) | exact alF_bd (alF_bd (alF_bd (fun q h => by cases h) (by omega)) (by omega)) (by omega)) dX6_command_115 (by decide) (fun q115 c115 => ?_) (fun c115 => ?_)
      · have hrk : rcP tx len ac cc pt = rc1 tx len w9 := by unfold rcP; rw [← hw9, hkd]; rfl
        have hrc : rcP tx len ac cc pt = (false, q115) := by
          rw [hrk]
          rcases alF_some c115 with h1 | ⟨h1, h2, h3⟩
          · rcases alF_some h1 with h4 | ⟨h4, h5, h6⟩
            · rcases alF_some h4 with h7 | ⟨h7, h8, h9⟩
              · cases h7
              · rw [rc1_32 (of_decide_eq_false h8), h9]
            · obtain ⟨h7, h8⟩ := alF_none.mp h4
              have hd : digT tx len (w9 + 1) = none := by cases h : digT tx len (w9 + 1) with | none => rfl | some d => (rw [h] at h5; cases h5)
              rw [rc1_dg (of_decide_eq_true h8) hd, h6]
          · obtain ⟨h4, h5⟩ := alF_none.mp h1
            obtain ⟨h7, h8⟩ := alF_none.mp h4
            obtain ⟨d, hd⟩ := Option.isSome_iff_exists.mp h5
            have h9 := of_decide_eq_false h2
            rw [rc1_ok (of_decide_eq_true h8) hd, ← ht9, decide_eq_false h9, stp_f h9, h3]
        exact n_wretv hx hb hr hlocks (post := fun (u : Nat × (Option Nat) × Nat × (Nat → Nat)) => (((rcP tx len ac cc pt).1 = true ∧ u.2.1 = none ∧ u.1 = (rcP tx len ac cc pt).2 ∧ u.2.2.1 = mny + 1 ∧ u.2.2.2 = cmU xm mny tx len ac cc pt) ∨ ((rcP tx len ac cc pt).1 = false ∧ u.2.1 = some (rcP tx len ac cc pt).2 ∧ u.2.2.1 = mny ∧ u.2.2.2 = xm)) ∧ u.1 ≤ 400) (w1 := fun u => (wR kA qr cc ac co ad rc nm st an svm cnt tx len th xf xt xs xa xw xc xk xp u.1 u.2.1 u.2.2.2 u.2.2.1)) (t9 + 1, alF (alF (alF none (decide (hereF tx len w9 = some 32)) w9) (digT tx len (w9 + 1)).isSome (w9 + 1)) (decide (hereF tx len t9 = some 59)) t9, mny, xm) (by first | exact ⟨Or.inl ⟨(by rw [hrc]), c115, (by rw [hrc]), rfl, hxm⟩, (by omega)⟩ | exact ⟨Or.inr ⟨(by rw [hrc]), (by rw [hrc]; exact c115), rfl, rfl⟩, (by omega)⟩) hP hD hK hS hAe dX6_command_170
      · have hrk : rcP tx len ac cc pt = rc1 tx len w9 := by unfold rcP; rw [← hw9, hkd]; rfl
        have hn1 := alF_none.mp c115
        have h59 := of_decide_eq_true hn1.2
        have hn2 := alF_none.mp hn1.1
        have hn3 := alF_none.mp hn2.1
        obtain ⟨d9, hd9⟩ := Option.isSome_iff_exists.mp hn2.2
        have h32 := of_decide_eq_true hn3.2
        have hrc : rcP tx len ac cc pt = (true, t9 + 1) := by rw [hrk, rc1_ok h32 hd9, ← ht9, decide_eq_true h59, stp_t h59]
        have he4 : (cond (digT tx len (w9 + 2)).isSome (nI 10 * (oI (hereF tx len (w9 + 1)) - nI 48) + oI (hereF tx len (w9 + 2)) - nI 48) (oI (hereF tx len (w9 + 1)) - nI 48)) = nI (cmR tx len pt) := by rw [rr_val hd9]; unfold cmR; rw [← hw9]
        have hl : lv_has ls 6 [(4, .int (nI (cmR tx len pt))), (5, .int (nI 0)), (3, .int (nI 1)), (2, .int (nI 150000)), (1, .int (nI pt)), (0, .ref (qr 0))] := by rw [← he4]; exact hl
        have hxm : va_up (va_up (va_up xm (3 * mny) 150000) (3 * mny + 1) (cmR tx len pt)) (3 * mny + 2) 0 = cmU xm mny tx len ac cc pt := by unfold cmU mA mB; rw [hKc]; rfl
        refine lv_aload_n hx hb dX6_command_118 rfl (lv_at hl 5 rfl) ?_
        refine n_get (ci := 6) (v := .ref (qr 12)) (C := RX6) (T := TX6) (N := 18) hx hb hts hinX6 hown hK hP 0 rfl rfl 16 rfl ⟨rfl, rfl, rfl⟩ f43 rfl dX6_command_119 ?_
        refine lv_iconst (v := (nI 3)) hx hb dX6_command_122 (by decide) ?_
        refine lv_aload_n hx hb dX6_command_123 rfl (lv_at hl 5 rfl) ?_
        refine n_get (ci := 6) (v := .int (nI mny)) (C := RX6) (T := TX6) (N := 18) hx hb hts hinX6 hown hK hP 0 rfl rfl 17 rfl ⟨rfl, rfl, rfl⟩ f230 rfl dX6_command_124 ?_
        refine n_imul (v := (nI (3 * mny))) hx hb (pk_mul _ _) dX6_command_127 ?_
        refine lv_iload_n hx hb dX6_command_128 rfl (lv_at hl 3 rfl) ?_
        refine n_iast (i := 3 * mny) (x := (nI 150000)) (g := aN (va_up xm (3 * mny) 150000)) (ws' := (wR kA qr cc ac co ad rc nm st an svm cnt tx len th xf xt xs xa xw xc xk xp (t9 + 1) (alF (alF (alF none (decide (hereF tx len w9 = some 32)) w9) (digT tx len (w9 + 1)).isSome (w9 + 1)) (decide (hereF tx len t9 = some 59)) t9) (va_up xm (3 * mny) 150000) mny)) hx hb hK hP hD hS 12 0 rfl rfl (by omega) (Nat.le_of_ble_eq_true rfl) (aN_up _ _ _) rfl dX6_command_129 (fun H locs hP hD hS => ?_)
        refine lv_aload_n hx hb dX6_command_130 rfl (lv_at hl 5 rfl) ?_
        refine n_get (ci := 6) (v := .ref (qr 12)) (C := RX6) (T := TX6) (N := 18) hx hb hts hinX6 hown hK hP 0 rfl rfl 16 rfl ⟨rfl, rfl, rfl⟩ f43 rfl dX6_command_131 ?_
        refine lv_iconst (v := (nI 3)) hx hb dX6_command_134 (by decide) ?_
        refine lv_aload_n hx hb dX6_command_135 rfl (lv_at hl 5 rfl) ?_
        refine n_get (ci := 6) (v := .int (nI mny)) (C := RX6) (T := TX6) (N := 18) hx hb hts hinX6 hown hK hP 0 rfl rfl 17 rfl ⟨rfl, rfl, rfl⟩ f230 rfl dX6_command_136 ?_
        refine n_imul (v := (nI (3 * mny))) hx hb (pk_mul _ _) dX6_command_139 ?_
        refine lv_iconst (v := (nI 1)) hx hb dX6_command_140 (by decide) ?_
        refine n_iadd (v := (nI ((3 * mny) + 1))) hx hb (nI_add _ _) dX6_command_141 ?_
        refine lv_iload hx hb dX6_command_142 (lv_at hl 0 rfl) ?_
        refine n_iast (i := (3 * mny) + 1) (x := (nI (cmR tx len pt))) (g := aN (va_up (va_up xm (3 * mny) 150000) ((3 * mny) + 1) (cmR tx len pt))) (ws' := (wR kA qr cc ac co ad rc nm st an svm cnt tx len th xf xt xs xa xw xc xk xp (t9 + 1) (alF (alF (alF none (decide (hereF tx len w9 = some 32)) w9) (digT tx len (w9 + 1)).isSome (w9 + 1)) (decide (hereF tx len t9 = some 59)) t9) (va_up (va_up xm (3 * mny) 150000) ((3 * mny) + 1) (cmR tx len pt)) mny)) hx hb hK hP hD hS 12 0 rfl rfl (by omega) (Nat.le_of_ble_eq_true rfl) (aN_up _ _ _) rfl dX6_command_144 (fun H locs hP hD hS => ?_)
        refine lv_aload_n hx hb dX6_command_145 rfl (lv_at hl 5 rfl) ?_
        refine n_get (ci := 6) (v := .ref (qr 12)) (C := RX6) (T := TX6) (N := 18) hx hb hts hinX6 hown hK hP 0 rfl rfl 16 rfl ⟨rfl, rfl, rfl⟩ f43 rfl dX6_command_146 ?_
        refine lv_iconst (v := (nI 3)) hx hb dX6_command_149 (by decide) ?_
        refine lv_aload_n hx hb dX6_command_150 rfl (lv_at hl 5 rfl) ?_
        refine n_get (ci := 6) (v := .int (nI mny)) (C := RX6) (T := TX6) (N := 18) hx hb hts hinX6 hown hK hP 0 rfl rfl 17 rfl ⟨rfl, rfl, rfl⟩ f230 rfl dX6_command_151 ?_
        refine n_imul (v := (nI (3 * mny))) hx hb (pk_mul _ _) dX6_command_154 ?_
        refine lv_iconst (v := (nI 2)) hx hb dX6_command_155 (by decide) ?_
        refine n_iadd (v := (nI ((3 * mny) + 2))) hx hb (nI_add _ _) dX6_command_156 ?_
        refine lv_iload hx hb dX6_command_157 (lv_at hl 1 rfl) ?_
        refine n_iast (i := (3 * mny) + 2) (x := (nI 0)) (g := aN (va_up (va_up (va_up xm (3 * mny) 150000) ((3 * mny) + 1) (cmR tx len pt)) ((3 * mny) + 2) 0)) (ws' := (wR kA qr cc ac co ad rc nm st an svm cnt tx len th xf xt xs xa xw xc xk xp (t9 + 1) (alF (alF (alF none (decide (hereF tx len w9 = some 32)) w9) (digT tx len (w9 + 1)).isSome (w9 + 1)) (decide (hereF tx len t9 = some 59)) t9) (va_up (va_up (va_up xm (3 * mny) 150000) ((3 * mny) + 1) (cmR tx len pt)) ((3 * mny) + 2) 0) mny)) hx hb hK hP hD hS 12 0 rfl rfl (by omega) (Nat.le_of_ble_eq_true rfl) (aN_up _ _ _) rfl dX6_command_159 (fun H locs hP hD hS => ?_)
        refine lv_aload_n hx hb dX6_command_160 rfl (lv_at hl 5 rfl) ?_
        refine lv_dup hx hb dX6_command_161 rfl ?_
        refine n_get (ci := 6) (v := .int (nI mny)) (C := RX6) (T := TX6) (N := 18) hx hb hts hinX6 hown hK hP 0 rfl rfl 17 rfl ⟨rfl, rfl, rfl⟩ f230 rfl dX6_command_162 ?_
        refine lv_iconst (v := (nI 1)) hx hb dX6_command_165 (by decide) ?_
        refine n_iadd (v := (nI (mny + 1))) hx hb (nI_add _ _) dX6_command_166 ?_
        refine n_put (ci := 6) (v := .int (nI (mny + 1))) (C := RX6) (T := TX6) (N := 18) (ws' := (wR kA qr cc ac co ad rc nm st an svm cnt tx len th xf xt xs xa xw xc xk xp (t9 + 1) (alF (alF (alF none (decide (hereF tx len w9 = some 32)) w9) (digT tx len (w9 + 1)).isSome (w9 + 1)) (decide (hereF tx len t9 = some 59)) t9) (va_up (va_up (va_up xm (3 * mny) 150000) ((3 * mny) + 1) (cmR tx len pt)) ((3 * mny) + 2) 0) (mny + 1))) hx hb hts hinX6 tyX6 tyX6_ok nmX6 hown hK hP hD hS 0 rfl rfl 17 rfl ⟨rfl, rfl, rfl, rfl⟩ f230 rfl rfl rfl rfl dX6_command_167 (fun H locs hP hD hS => ?_)
        exact n_wretv hx hb hr hlocks (post := fun (u : Nat × (Option Nat) × Nat × (Nat → Nat)) => (((rcP tx len ac cc pt).1 = true ∧ u.2.1 = none ∧ u.1 = (rcP tx len ac cc pt).2 ∧ u.2.2.1 = mny + 1 ∧ u.2.2.2 = cmU xm mny tx len ac cc pt) ∨ ((rcP tx len ac cc pt).1 = false ∧ u.2.1 = some (rcP tx len ac cc pt).2 ∧ u.2.2.1 = mny ∧ u.2.2.2 = xm)) ∧ u.1 ≤ 400) (w1 := fun u => (wR kA qr cc ac co ad rc nm st an svm cnt tx len th xf xt xs xa xw xc xk xp u.1 u.2.1 u.2.2.2 u.2.2.1)) (t9 + 1, alF (alF (alF none (decide (hereF tx len w9 = some 32)) w9) (digT tx len (w9 + 1)).isSome (w9 + 1)) (decide (hereF tx len t9 = some 59)) t9, mny + 1, va_up (va_up (va_up xm (3 * mny) 150000) ((3 * mny) + 1) (cmR tx len pt)) ((3 * mny) + 2) 0) (by first | exact ⟨Or.inl ⟨(by rw [hrc]), c115, (by rw [hrc]), rfl, hxm⟩, (by omega)⟩ | exact ⟨Or.inr ⟨(by rw [hrc]), (by rw [hrc]; exact c115), rfl, rfl⟩, (by omega)⟩) hP hD hK hS hAe dX6_command_170
    · refine lv_iload_n hx hb dX6_command_23 rfl (lv_at hl 0 rfl) ?_
      refine lv_sipush (v := (nI 688)) hx hb dX6_command_24 (by decide) ?_
      refine n_icmp_eq (a := wdF tx pt w9) (b := 688) (tgt := 36) hx hb (by omega) (by omega) dX6_command_27 (by decide) (fun c27 => ?_) (fun c27 => ?_)
      · have hkd : kndF tx pt w9 = some 2 := wd_kind hl9 (by decide) c27
        have hKc : cmK tx len pt = 2 := by unfold cmK; rw [← hw9, hkd]; rfl
        have hl : lv_has ls 6 [(2, .int (nI 688)), (1, .int (nI pt)), (0, .ref (qr 0))] := by rw [c27] at hl; exact hl
        refine lv_iconst (v := (nI 1)) hx hb dX6_command_36 (by decide) ?_
        refine lv_goto (tgt := 41) hx hb dX6_command_37 (by decide) ?_
        refine lv_istore_n (lv' := [(3, .int (nI 1)), (2, .int (nI 688)), (1, .int (nI pt)), (0, .ref (qr 0))]) hx hb dX6_command_41 rfl hl (by decide) rfl (fun ls hl => ?_)
        refine lv_aload_n hx hb dX6_command_42 rfl (lv_at hl 3 rfl) ?_
        refine lv_iload_n hx hb dX6_command_43 rfl (lv_at hl 0 rfl) ?_
        refine lv_iload_n hx hb dX6_command_44 rfl (lv_at hl 2 rfl) ?_
        refine n_wVv (b := qr 0) (As := [.int (bI true), .int (nI pt)]) (rest := []) (wr := []) (ws' := fun u => (wR kA qr cc ac co ad rc nm st an svm cnt tx len th xf xt xs xa xw xc xk xp w9 (alF none true pt) xm mny)) hS0 (c_X6_allows lQ D kA qr cc ac co ad rc nm st an svm cnt tx len th xf xt xs xa xw xc xk xp w9 none xm mny true pt H.size (fun q h => by cases h)) (cwV 2 hts gX6_command_X6_allows rfl rfl rfl (by decide +kernel) ⟨Nat.le_of_ble_eq_true rfl, Nat.le_of_ble_eq_true rfl⟩) hP hD hS hA hK hK (by simpa only [List.append_assoc, List.append_nil] using (List.Perm.of_eq (List.append_nil _).symm)) (fun u => List.Perm.symm (by simpa only [List.append_assoc, List.append_nil] using (List.Perm.of_eq (List.append_nil _).symm))) (q0 := 0) rfl rfl rfl rfl rfl hl.1 (Nat.le_of_ble_eq_true rfl) dX6_command_45 ⟨Nat.le_refl _, Nat.le_refl _⟩ (fun u45 H locs h45 hP hD hS => ?_)
        have hP : va_P D vwCl (wR kA qr cc ac co ad rc nm st an svm cnt tx len th xf xt xs xa xw xc xk xp w9 (alF none true pt) xm mny) H := hP
        have hD : va_D A (wR kA qr cc ac co ad rc nm st an svm cnt tx len th xf xt xs xa xw xc xk xp w9 (alF none true pt) xm mny) := hD
        have hP : va_P D vwCl (wR kA qr cc ac co ad rc nm st an svm cnt tx len th xf xt xs xa xw xc xk xp w9 none xm mny) H := hP
        have hD : va_D A (wR kA qr cc ac co ad rc nm st an svm cnt tx len th xf xt xs xa xw xc xk xp w9 none xm mny) := hD
        refine lv_iconst (v := (nI 0)) hx hb dX6_command_48 (by decide) ?_
        refine lv_istore (lv' := [(4, .int (nI 0)), (3, .int (nI 1)), (2, .int (nI 688)), (1, .int (nI pt)), (0, .ref (qr 0))]) hx hb dX6_command_49 hl (by decide) rfl (fun ls hl => ?_)
        refine lv_iconst (v := (nI 0)) hx hb dX6_command_51 (by decide) ?_
        refine lv_istore (lv' := [(5, .int (nI 0)), (4, .int (nI 0)), (3, .int (nI 1)), (2, .int (nI 688)), (1, .int (nI pt)), (0, .ref (qr 0))]) hx hb dX6_command_52 hl (by decide) rfl (fun ls hl => ?_)
        refine lv_aload_n hx hb dX6_command_54 rfl (lv_at hl 5 rfl) ?_
        refine n_get (ci := 6) (v := .int (oI none)) (C := RX6) (T := TX6) (N := 18) hx hb hts hinX6 hown hK hP 0 rfl rfl 15 rfl ⟨rfl, rfl, rfl⟩ f196 rfl dX6_command_55 ?_
        refine lv_iconst (v := (oI none)) hx hb dX6_command_58 (by decide) ?_
        refine lv_icmp_ne (tgt := 84) hx hb dX6_command_59 (by decide) (fun h => absurd (by decide) h) (fun _ => ?_)
        refine lv_iload_n hx hb dX6_command_62 rfl (lv_at hl 3 rfl) ?_
        refine lv_sipush (v := (nI 294)) hx hb dX6_command_63 (by decide) ?_
        refine lv_icmp_ne (tgt := 84) hx hb dX6_command_66 (by decide) (fun _ => ?_) (fun h => absurd h (by decide))
        refine lv_aload_n hx hb dX6_command_84 rfl (lv_at hl 5 rfl) ?_
        refine n_get (ci := 6) (v := .int (oI none)) (C := RX6) (T := TX6) (N := 18) hx hb hts hinX6 hown hK hP 0 rfl rfl 15 rfl ⟨rfl, rfl, rfl⟩ f196 rfl dX6_command_85 ?_
        refine lv_iconst (v := (oI none)) hx hb dX6_command_88 (by decide) ?_
        refine lv_icmp_ne (tgt := 104) hx hb dX6_command_89 (by decide) (fun h => absurd (by decide) h) (fun _ => ?_)
        refine lv_iload_n hx hb dX6_command_92 rfl (lv_at hl 3 rfl) ?_
        refine lv_ldc (v := (nI 13813989)) hx hb hown k220 dX6_command_93 ?_
        refine lv_icmp_eq (tgt := 104) hx hb dX6_command_95 (by decide) (fun h => absurd h (by decide)) (fun _ => ?_)
        refine lv_aload_n hx hb dX6_command_98 rfl (lv_at hl 5 rfl) ?_
        refine n_wVi (b := qr 0) (As := []) (rest := []) (wr := []) (ws' := fun u => (wR kA qr cc ac co ad rc nm st an svm cnt tx len th xf xt xs xa xw xc xk xp (cond (digT tx len (w9 + 2)).isSome (w9 + 3) (w9 + 2)) (alF (alF none (decide (hereF tx len w9 = some 32)) w9) (digT tx len (w9 + 1)).isSome (w9 + 1)) xm mny)) hS0 (c_X6_rowNumber lQ D kA qr cc ac co ad rc nm st an svm cnt tx len th xf xt xs xa xw xc xk xp w9 none xm mny H.size (by first | assumption | omega) (by first | assumption | omega) (by first | assumption | omega) (fun q h => by cases h) (by first | assumption | omega)) (cwV 0 hts gX6_command_X6_rowNumber rfl rfl rfl (by decide +kernel) ⟨Nat.le_of_ble_eq_true rfl, Nat.le_of_ble_eq_true rfl⟩) hP hD hS hA hK hK (by simpa only [List.append_assoc, List.append_nil] using (List.Perm.of_eq (List.append_nil _).symm)) (fun u => List.Perm.symm (by simpa only [List.append_assoc, List.append_nil] using (List.Perm.of_eq (List.append_nil _).symm))) (q0 := 0) rfl rfl rfl rfl rfl hl.1 (Nat.le_of_ble_eq_true rfl) dX6_command_99 ⟨Nat.le_refl _, Nat.le_refl _⟩ (fun r99 u99 H locs h99 hP hD hS => ?_)
        subst h99
        have hP : va_P D vwCl (wR kA qr cc ac co ad rc nm st an svm cnt tx len th xf xt xs xa xw xc xk xp (cond (digT tx len (w9 + 2)).isSome (w9 + 3) (w9 + 2)) (alF (alF none (decide (hereF tx len w9 = some 32)) w9) (digT tx len (w9 + 1)).isSome (w9 + 1)) xm mny) H := hP
        have hD : va_D A (wR kA qr cc ac co ad rc nm st an svm cnt tx len th xf xt xs xa xw xc xk xp (cond (digT tx len (w9 + 2)).isSome (w9 + 3) (w9 + 2)) (alF (alF none (decide (hereF tx len w9 = some 32)) w9) (digT tx len (w9 + 1)).isSome (w9 + 1)) xm mny) := hD
        obtain ⟨t9, ht9⟩ : ∃ z, z = cond (digT tx len (w9 + 2)).isSome (w9 + 3) (w9 + 2) := ⟨_, rfl⟩
        rw [← ht9] at hP hD
        have htl9 : t9 ≤ w9 + 3 := by rw [ht9]; cases (digT tx len (w9 + 2)).isSome with | true => exact Nat.le_refl _ | false => exact Nat.le_succ _
        refine lv_istore (lv' := [(4, .int (cond (digT tx len (w9 + 2)).isSome (nI 10 * (oI (hereF tx len (w9 + 1)) - nI 48) + oI (hereF tx len (w9 + 2)) - nI 48) (oI (hereF tx len (w9 + 1)) - nI 48))), (5, .int (nI 0)), (3, .int (nI 1)), (2, .int (nI 688)), (1, .int (nI pt)), (0, .ref (qr 0))]) hx hb dX6_command_102 hl (by decide) rfl (fun ls hl => ?_)
        refine lv_aload_n hx hb dX6_command_104 rfl (lv_at hl 5 rfl) ?_
        refine lv_bipush (v := (nI 59)) hx hb dX6_command_105 (by decide) ?_
        refine n_wVv (b := qr 0) (As := [.int (nI 59)]) (rest := []) (wr := []) (ws' := fun u => (wR kA qr cc ac co ad rc nm st an svm cnt tx len th xf xt xs xa xw xc xk xp (t9 + 1) (alF (alF (alF none (decide (hereF tx len w9 = some 32)) w9) (digT tx len (w9 + 1)).isSome (w9 + 1)) (decide (hereF tx len t9 = some 59)) t9) xm mny)) hS0 (c_X6_sign lQ D kA qr cc ac co ad rc nm st an svm cnt tx len th xf xt xs xa xw xc xk xp t9 (alF (alF none (decide (hereF tx len w9 = some 32)) w9) (digT tx len (w9 + 1)).isSome (w9 + 1)) xm mny 59 H.size (by first | assumption | omega) (by first | assumption | omega) (by first | assumption | omega) (by first | exact (fun q h => by cases h <;> omega) | exact alF_bd (alF_bd (fun q h => hob q (h70_2 q h)) (by omega)) (by omega) | exact alF_bd (alF_bd (fun q h => by cases h) (by omega)) (by omega)) (by first | assumption | omega)) (cwV 1 hts gX6_command_X6_sign rfl rfl rfl (by decide +kernel) ⟨Nat.le_of_ble_eq_true rfl, Nat.le_of_ble_eq_true rfl⟩) hP hD hS hA hK hK (by simpa only [List.append_assoc, List.append_nil] using (List.Perm.of_eq (List.append_nil _).symm)) (fun u => List.Perm.symm (by simpa only [List.append_assoc, List.append_nil] using (List.Perm.of_eq (List.append_nil _).symm))) (q0 := 0) rfl rfl rfl rfl rfl hl.1 (Nat.le_of_ble_eq_true rfl) dX6_command_107 ⟨Nat.le_refl _, Nat.le_refl _⟩ (fun u107 H locs h107 hP hD hS => ?_)
        have hP : va_P D vwCl (wR kA qr cc ac co ad rc nm st an svm cnt tx len th xf xt xs xa xw xc xk xp (t9 + 1) (alF (alF (alF none (decide (hereF tx len w9 = some 32)) w9) (digT tx len (w9 + 1)).isSome (w9 + 1)) (decide (hereF tx len t9 = some 59)) t9) xm mny) H := hP
        have hD : va_D A (wR kA qr cc ac co ad rc nm st an svm cnt tx len th xf xt xs xa xw xc xk xp (t9 + 1) (alF (alF (alF none (decide (hereF tx len w9 = some 32)) w9) (digT tx len (w9 + 1)).isSome (w9 + 1)) (decide (hereF tx len t9 = some 59)) t9) xm mny) := hD
        refine lv_aload_n hx hb dX6_command_110 rfl (lv_at hl 5 rfl) ?_
        refine n_get (ci := 6) (v := .int (oI (alF (alF (alF none (decide (hereF tx len w9 = some 32)) w9) (digT tx len (w9 + 1)).isSome (w9 + 1)) (decide (hereF tx len t9 = some 59)) t9))) (C := RX6) (T := TX6) (N := 18) hx hb hts hinX6 hown hK hP 0 rfl rfl 15 rfl ⟨rfl, rfl, rfl⟩ f196 rfl dX6_command_111 ?_
        refine lv_iconst (v := (oI none)) hx hb dX6_command_114 (by decide) ?_
        refine n_icmpo_ne (o := alF (alF (alF none (decide (hereF tx len w9 = some 32)) w9) (digT tx len (w9 + 1)).isSome (w9 + 1)) (decide (hereF tx len t9 = some 59)) t9) (tgt := 170) hx hb (by first | exact alF_bd (fun q h => by cases h <;> omega) (by omega) | exact alF_bd (alF_bd (alF_bd (fun q h => hob q (h70_2 q h)) (by omega)) (by omega)) (by omega) | exact alF_bd (alF_bd (alF_bd (fun q h => by cases h) (by omega)) (by omega)) (by omega)) dX6_command_115 (by decide) (fun q115 c115 => ?_) (fun c115 => ?_)
        · have hrk : rcP tx len ac cc pt = rc1 tx len w9 := by unfold rcP; rw [← hw9, hkd]; rfl
          have hrc : rcP tx len ac cc pt = (false, q115) := by
            rw [hrk]
            rcases alF_some c115 with h1 | ⟨h1, h2, h3⟩
            · rcases alF_some h1 with h4 | ⟨h4, h5, h6⟩
              · rcases alF_some h4 with h7 | ⟨h7, h8, h9⟩
                · cases h7
                · rw [rc1_32 (of_decide_eq_false h8), h9]
              · obtain ⟨h7, h8⟩ := alF_none.mp h4
                have hd : digT tx len (w9 + 1) = none := by cases h : digT tx len (w9 + 1) with | none => rfl | some d => (rw [h] at h5; cases h5)
                rw [rc1_dg (of_decide_eq_true h8) hd, h6]
            · obtain ⟨h4, h5⟩ := alF_none.mp h1
              obtain ⟨h7, h8⟩ := alF_none.mp h4
              obtain ⟨d, hd⟩ := Option.isSome_iff_exists.mp h5
              have h9 := of_decide_eq_false h2
              rw [rc1_ok (of_decide_eq_true h8) hd, ← ht9, decide_eq_false h9, stp_f h9, h3]
          exact n_wretv hx hb hr hlocks (post := fun (u : Nat × (Option Nat) × Nat × (Nat → Nat)) => (((rcP tx len ac cc pt).1 = true ∧ u.2.1 = none ∧ u.1 = (rcP tx len ac cc pt).2 ∧ u.2.2.1 = mny + 1 ∧ u.2.2.2 = cmU xm mny tx len ac cc pt) ∨ ((rcP tx len ac cc pt).1 = false ∧ u.2.1 = some (rcP tx len ac cc pt).2 ∧ u.2.2.1 = mny ∧ u.2.2.2 = xm)) ∧ u.1 ≤ 400) (w1 := fun u => (wR kA qr cc ac co ad rc nm st an svm cnt tx len th xf xt xs xa xw xc xk xp u.1 u.2.1 u.2.2.2 u.2.2.1)) (t9 + 1, alF (alF (alF none (decide (hereF tx len w9 = some 32)) w9) (digT tx len (w9 + 1)).isSome (w9 + 1)) (decide (hereF tx len t9 = some 59)) t9, mny, xm) (by first | exact ⟨Or.inl ⟨(by rw [hrc]), c115, (by rw [hrc]), rfl, hxm⟩, (by omega)⟩ | exact ⟨Or.inr ⟨(by rw [hrc]), (by rw [hrc]; exact c115), rfl, rfl⟩, (by omega)⟩) hP hD hK hS hAe dX6_command_170
        · have hrk : rcP tx len ac cc pt = rc1 tx len w9 := by unfold rcP; rw [← hw9, hkd]; rfl
          have hn1 := alF_none.mp c115
          have h59 := of_decide_eq_true hn1.2
          have hn2 := alF_none.mp hn1.1
          have hn3 := alF_none.mp hn2.1
          obtain ⟨d9, hd9⟩ := Option.isSome_iff_exists.mp hn2.2
          have h32 := of_decide_eq_true hn3.2
          have hrc : rcP tx len ac cc pt = (true, t9 + 1) := by rw [hrk, rc1_ok h32 hd9, ← ht9, decide_eq_true h59, stp_t h59]
          have he4 : (cond (digT tx len (w9 + 2)).isSome (nI 10 * (oI (hereF tx len (w9 + 1)) - nI 48) + oI (hereF tx len (w9 + 2)) - nI 48) (oI (hereF tx len (w9 + 1)) - nI 48)) = nI (cmR tx len pt) := by rw [rr_val hd9]; unfold cmR; rw [← hw9]
          have hl : lv_has ls 6 [(4, .int (nI (cmR tx len pt))), (5, .int (nI 0)), (3, .int (nI 1)), (2, .int (nI 688)), (1, .int (nI pt)), (0, .ref (qr 0))] := by rw [← he4]; exact hl
          have hxm : va_up (va_up (va_up xm (3 * mny) 688) (3 * mny + 1) (cmR tx len pt)) (3 * mny + 2) 0 = cmU xm mny tx len ac cc pt := by unfold cmU mA mB; rw [hKc]; rfl
          refine lv_aload_n hx hb dX6_command_118 rfl (lv_at hl 5 rfl) ?_
          refine n_get (ci := 6) (v := .ref (qr 12)) (C := RX6) (T := TX6) (N := 18) hx hb hts hinX6 hown hK hP 0 rfl rfl 16 rfl ⟨rfl, rfl, rfl⟩ f43 rfl dX6_command_119 ?_
          refine lv_iconst (v := (nI 3)) hx hb dX6_command_122 (by decide) ?_
          refine lv_aload_n hx hb dX6_command_123 rfl (lv_at hl 5 rfl) ?_
          refine n_get (ci := 6) (v := .int (nI mny)) (C := RX6) (T := TX6) (N := 18) hx hb hts hinX6 hown hK hP 0 rfl rfl 17 rfl ⟨rfl, rfl, rfl⟩ f230 rfl dX6_command_124 ?_
          refine n_imul (v := (nI (3 * mny))) hx hb (pk_mul _ _) dX6_command_127 ?_
          refine lv_iload_n hx hb dX6_command_128 rfl (lv_at hl 3 rfl) ?_
          refine n_iast (i := 3 * mny) (x := (nI 688)) (g := aN (va_up xm (3 * mny) 688)) (ws' := (wR kA qr cc ac co ad rc nm st an svm cnt tx len th xf xt xs xa xw xc xk xp (t9 + 1) (alF (alF (alF none (decide (hereF tx len w9 = some 32)) w9) (digT tx len (w9 + 1)).isSome (w9 + 1)) (decide (hereF tx len t9 = some 59)) t9) (va_up xm (3 * mny) 688) mny)) hx hb hK hP hD hS 12 0 rfl rfl (by omega) (Nat.le_of_ble_eq_true rfl) (aN_up _ _ _) rfl dX6_command_129 (fun H locs hP hD hS => ?_)
          refine lv_aload_n hx hb dX6_command_130 rfl (lv_at hl 5 rfl) ?_
          refine n_get (ci := 6) (v := .ref (qr 12)) (C := RX6) (T := TX6) (N := 18) hx hb hts hinX6 hown hK hP 0 rfl rfl 16 rfl ⟨rfl, rfl, rfl⟩ f43 rfl dX6_command_131 ?_
          refine lv_iconst (v := (nI 3)) hx hb dX6_command_134 (by decide) ?_
          refine lv_aload_n hx hb dX6_command_135 rfl (lv_at hl 5 rfl) ?_
          refine n_get (ci := 6) (v := .int (nI mny)) (C := RX6) (T := TX6) (N := 18) hx hb hts hinX6 hown hK hP 0 rfl rfl 17 rfl ⟨rfl, rfl, rfl⟩ f230 rfl dX6_command_136 ?_
          refine n_imul (v := (nI (3 * mny))) hx hb (pk_mul _ _) dX6_command_139 ?_
          refine lv_iconst (v := (nI 1)) hx hb dX6_command_140 (by decide) ?_
          refine n_iadd (v := (nI ((3 * mny) + 1))) hx hb (nI_add _ _) dX6_command_141 ?_
          refine lv_iload hx hb dX6_command_142 (lv_at hl 0 rfl) ?_
          refine n_iast (i := (3 * mny) + 1) (x := (nI (cmR tx len pt))) (g := aN (va_up (va_up xm (3 * mny) 688) ((3 * mny) + 1) (cmR tx len pt))) (ws' := (wR kA qr cc ac co ad rc nm st an svm cnt tx len th xf xt xs xa xw xc xk xp (t9 + 1) (alF (alF (alF none (decide (hereF tx len w9 = some 32)) w9) (digT tx len (w9 + 1)).isSome (w9 + 1)) (decide (hereF tx len t9 = some 59)) t9) (va_up (va_up xm (3 * mny) 688) ((3 * mny) + 1) (cmR tx len pt)) mny)) hx hb hK hP hD hS 12 0 rfl rfl (by omega) (Nat.le_of_ble_eq_true rfl) (aN_up _ _ _) rfl dX6_command_144 (fun H locs hP hD hS => ?_)
          refine lv_aload_n hx hb dX6_command_145 rfl (lv_at hl 5 rfl) ?_
          refine n_get (ci := 6) (v := .ref (qr 12)) (C := RX6) (T := TX6) (N := 18) hx hb hts hinX6 hown hK hP 0 rfl rfl 16 rfl ⟨rfl, rfl, rfl⟩ f43 rfl dX6_command_146 ?_
          refine lv_iconst (v := (nI 3)) hx hb dX6_command_149 (by decide) ?_
          refine lv_aload_n hx hb dX6_command_150 rfl (lv_at hl 5 rfl) ?_
          refine n_get (ci := 6) (v := .int (nI mny)) (C := RX6) (T := TX6) (N := 18) hx hb hts hinX6 hown hK hP 0 rfl rfl 17 rfl ⟨rfl, rfl, rfl⟩ f230 rfl dX6_command_151 ?_
          refine n_imul (v := (nI (3 * mny))) hx hb (pk_mul _ _) dX6_command_154 ?_
          refine lv_iconst (v := (nI 2)) hx hb dX6_command_155 (by decide) ?_
          refine n_iadd (v := (nI ((3 * mny) + 2))) hx hb (nI_add _ _) dX6_command_156 ?_
          refine lv_iload hx hb dX6_command_157 (lv_at hl 1 rfl) ?_
          refine n_iast (i := (3 * mny) + 2) (x := (nI 0)) (g := aN (va_up (va_up (va_up xm (3 * mny) 688) ((3 * mny) + 1) (cmR tx len pt)) ((3 * mny) + 2) 0)) (ws' := (wR kA qr cc ac co ad rc nm st an svm cnt tx len th xf xt xs xa xw xc xk xp (t9 + 1) (alF (alF (alF none (decide (hereF tx len w9 = some 32)) w9) (digT tx len (w9 + 1)).isSome (w9 + 1)) (decide (hereF tx len t9 = some 59)) t9) (va_up (va_up (va_up xm (3 * mny) 688) ((3 * mny) + 1) (cmR tx len pt)) ((3 * mny) + 2) 0) mny)) hx hb hK hP hD hS 12 0 rfl rfl (by omega) (Nat.le_of_ble_eq_true rfl) (aN_up _ _ _) rfl dX6_command_159 (fun H locs hP hD hS => ?_)
          refine lv_aload_n hx hb dX6_command_160 rfl (lv_at hl 5 rfl) ?_
          refine lv_dup hx hb dX6_command_161 rfl ?_
          refine n_get (ci := 6) (v := .int (nI mny)) (C := RX6) (T := TX6) (N := 18) hx hb hts hinX6 hown hK hP 0 rfl rfl 17 rfl ⟨rfl, rfl, rfl⟩ f230 rfl dX6_command_162 ?_
          refine lv_iconst (v := (nI 1)) hx hb dX6_command_165 (by decide) ?_
          refine n_iadd (v := (nI (mny + 1))) hx hb (nI_add _ _) dX6_command_166 ?_
          refine n_put (ci := 6) (v := .int (nI (mny + 1))) (C := RX6) (T := TX6) (N := 18) (ws' := (wR kA qr cc ac co ad rc nm st an svm cnt tx len th xf xt xs xa xw xc xk xp (t9 + 1) (alF (alF (alF none (decide (hereF tx len w9 = some 32)) w9) (digT tx len (w9 + 1)).isSome (w9 + 1)) (decide (hereF tx len t9 = some 59)) t9) (va_up (va_up (va_up xm (3 * mny) 688) ((3 * mny) + 1) (cmR tx len pt)) ((3 * mny) + 2) 0) (mny + 1))) hx hb hts hinX6 tyX6 tyX6_ok nmX6 hown hK hP hD hS 0 rfl rfl 17 rfl ⟨rfl, rfl, rfl, rfl⟩ f230 rfl rfl rfl rfl dX6_command_167 (fun H locs hP hD hS => ?_)
          exact n_wretv hx hb hr hlocks (post := fun (u : Nat × (Option Nat) × Nat × (Nat → Nat)) => (((rcP tx len ac cc pt).1 = true ∧ u.2.1 = none ∧ u.1 = (rcP tx len ac cc pt).2 ∧ u.2.2.1 = mny + 1 ∧ u.2.2.2 = cmU xm mny tx len ac cc pt) ∨ ((rcP tx len ac cc pt).1 = false ∧ u.2.1 = some (rcP tx len ac cc pt).2 ∧ u.2.2.1 = mny ∧ u.2.2.2 = xm)) ∧ u.1 ≤ 400) (w1 := fun u => (wR kA qr cc ac co ad rc nm st an svm cnt tx len th xf xt xs xa xw xc xk xp u.1 u.2.1 u.2.2.2 u.2.2.1)) (t9 + 1, alF (alF (alF none (decide (hereF tx len w9 = some 32)) w9) (digT tx len (w9 + 1)).isSome (w9 + 1)) (decide (hereF tx len t9 = some 59)) t9, mny + 1, va_up (va_up (va_up xm (3 * mny) 688) ((3 * mny) + 1) (cmR tx len pt)) ((3 * mny) + 2) 0) (by first | exact ⟨Or.inl ⟨(by rw [hrc]), c115, (by rw [hrc]), rfl, hxm⟩, (by omega)⟩ | exact ⟨Or.inr ⟨(by rw [hrc]), (by rw [hrc]; exact c115), rfl, rfl⟩, (by omega)⟩) hP hD hK hS hAe dX6_command_170
      · refine lv_iload_n hx hb dX6_command_30 rfl (lv_at hl 0 rfl) ?_
        refine lv_ldc (v := (nI 13813989)) hx hb hown k220 dX6_command_31 ?_
        refine n_icmp_ne (a := wdF tx pt w9) (b := 13813989) (tgt := 40) hx hb (by omega) (by omega) dX6_command_33 (by decide) (fun c33 => ?_) (fun c33 => ?_)
        · refine lv_iconst (v := (nI 0)) hx hb dX6_command_40 (by decide) ?_
          refine lv_istore_n (lv' := [(3, .int (nI 0)), (2, .int (nI (wdF tx pt w9))), (1, .int (nI pt)), (0, .ref (qr 0))]) hx hb dX6_command_41 rfl hl (by decide) rfl (fun ls hl => ?_)
          refine lv_aload_n hx hb dX6_command_42 rfl (lv_at hl 3 rfl) ?_
          refine lv_iload_n hx hb dX6_command_43 rfl (lv_at hl 0 rfl) ?_
          refine lv_iload_n hx hb dX6_command_44 rfl (lv_at hl 2 rfl) ?_
          refine n_wVv (b := qr 0) (As := [.int (bI false), .int (nI pt)]) (rest := []) (wr := []) (ws' := fun u => (wR kA qr cc ac co ad rc nm st an svm cnt tx len th xf xt xs xa xw xc xk xp w9 (alF none false pt) xm mny)) hS0 (c_X6_allows lQ D kA qr cc ac co ad rc nm st an svm cnt tx len th xf xt xs xa xw xc xk xp w9 none xm mny false pt H.size (fun q h => by cases h)) (cwV 2 hts gX6_command_X6_allows rfl rfl rfl (by decide +kernel) ⟨Nat.le_of_ble_eq_true rfl, Nat.le_of_ble_eq_true rfl⟩) hP hD hS hA hK hK (by simpa only [List.append_assoc, List.append_nil] using (List.Perm.of_eq (List.append_nil _).symm)) (fun u => List.Perm.symm (by simpa only [List.append_assoc, List.append_nil] using (List.Perm.of_eq (List.append_nil _).symm))) (q0 := 0) rfl rfl rfl rfl rfl hl.1 (Nat.le_of_ble_eq_true rfl) dX6_command_45 ⟨Nat.le_refl _, Nat.le_refl _⟩ (fun u45 H locs h45 hP hD hS => ?_)
          have hP : va_P D vwCl (wR kA qr cc ac co ad rc nm st an svm cnt tx len th xf xt xs xa xw xc xk xp w9 (alF none false pt) xm mny) H := hP
          have hD : va_D A (wR kA qr cc ac co ad rc nm st an svm cnt tx len th xf xt xs xa xw xc xk xp w9 (alF none false pt) xm mny) := hD
          have hP : va_P D vwCl (wR kA qr cc ac co ad rc nm st an svm cnt tx len th xf xt xs xa xw xc xk xp w9 (some pt) xm mny) H := hP
          have hD : va_D A (wR kA qr cc ac co ad rc nm st an svm cnt tx len th xf xt xs xa xw xc xk xp w9 (some pt) xm mny) := hD
          refine lv_iconst (v := (nI 0)) hx hb dX6_command_48 (by decide) ?_
          refine lv_istore (lv' := [(4, .int (nI 0)), (3, .int (nI 0)), (2, .int (nI (wdF tx pt w9))), (1, .int (nI pt)), (0, .ref (qr 0))]) hx hb dX6_command_49 hl (by decide) rfl (fun ls hl => ?_)
          refine lv_iconst (v := (nI 0)) hx hb dX6_command_51 (by decide) ?_
          refine lv_istore (lv' := [(5, .int (nI 0)), (4, .int (nI 0)), (3, .int (nI 0)), (2, .int (nI (wdF tx pt w9))), (1, .int (nI pt)), (0, .ref (qr 0))]) hx hb dX6_command_52 hl (by decide) rfl (fun ls hl => ?_)
          refine lv_aload_n hx hb dX6_command_54 rfl (lv_at hl 5 rfl) ?_
          refine n_get (ci := 6) (v := .int (nI pt)) (C := RX6) (T := TX6) (N := 18) hx hb hts hinX6 hown hK hP 0 rfl rfl 15 rfl ⟨rfl, rfl, rfl⟩ f196 rfl dX6_command_55 ?_
          refine lv_iconst (v := (oI none)) hx hb dX6_command_58 (by decide) ?_
          refine lv_icmp_ne (tgt := 84) hx hb dX6_command_59 (by decide) (fun _ => ?_) (fun h => absurd h.symm (onone_ne (by omega)))
          refine lv_aload_n hx hb dX6_command_84 rfl (lv_at hl 5 rfl) ?_
          refine n_get (ci := 6) (v := .int (nI pt)) (C := RX6) (T := TX6) (N := 18) hx hb hts hinX6 hown hK hP 0 rfl rfl 15 rfl ⟨rfl, rfl, rfl⟩ f196 rfl dX6_command_85 ?_
          refine lv_iconst (v := (oI none)) hx hb dX6_command_88 (by decide) ?_
          refine lv_icmp_ne (tgt := 104) hx hb dX6_command_89 (by decide) (fun _ => ?_) (fun h => absurd h.symm (onone_ne (by omega)))
          refine lv_aload_n hx hb dX6_command_104 rfl (lv_at hl 5 rfl) ?_
          refine lv_bipush (v := (nI 59)) hx hb dX6_command_105 (by decide) ?_
          refine n_wVv (b := qr 0) (As := [.int (nI 59)]) (rest := []) (wr := []) (ws' := fun u => (wR kA qr cc ac co ad rc nm st an svm cnt tx len th xf xt xs xa xw xc xk xp (w9 + 1) (alF (some pt) (decide (hereF tx len w9 = some 59)) w9) xm mny)) hS0 (c_X6_sign lQ D kA qr cc ac co ad rc nm st an svm cnt tx len th xf xt xs xa xw xc xk xp w9 (some pt) xm mny 59 H.size (by first | assumption | omega) (by first | assumption | omega) (by first | assumption | omega) (by first | exact (fun q h => by cases h <;> omega) | exact alF_bd (alF_bd (fun q h => hob q (h70_2 q h)) (by omega)) (by omega) | exact alF_bd (alF_bd (fun q h => by cases h) (by omega)) (by omega)) (by first | assumption | omega)) (cwV 1 hts gX6_command_X6_sign rfl rfl rfl (by decide +kernel) ⟨Nat.le_of_ble_eq_true rfl, Nat.le_of_ble_eq_true rfl⟩) hP hD hS hA hK hK (by simpa only [List.append_assoc, List.append_nil] using (List.Perm.of_eq (List.append_nil _).symm)) (fun u => List.Perm.symm (by simpa only [List.append_assoc, List.append_nil] using (List.Perm.of_eq (List.append_nil _).symm))) (q0 := 0) rfl rfl rfl rfl rfl hl.1 (Nat.le_of_ble_eq_true rfl) dX6_command_107 ⟨Nat.le_refl _, Nat.le_refl _⟩ (fun u107 H locs h107 hP hD hS => ?_)
          have hP : va_P D vwCl (wR kA qr cc ac co ad rc nm st an svm cnt tx len th xf xt xs xa xw xc xk xp (w9 + 1) (alF (some pt) (decide (hereF tx len w9 = some 59)) w9) xm mny) H := hP
          have hD : va_D A (wR kA qr cc ac co ad rc nm st an svm cnt tx len th xf xt xs xa xw xc xk xp (w9 + 1) (alF (some pt) (decide (hereF tx len w9 = some 59)) w9) xm mny) := hD
          refine lv_aload_n hx hb dX6_command_110 rfl (lv_at hl 5 rfl) ?_
          refine n_get (ci := 6) (v := .int (oI (alF (some pt) (decide (hereF tx len w9 = some 59)) w9))) (C := RX6) (T := TX6) (N := 18) hx hb hts hinX6 hown hK hP 0 rfl rfl 15 rfl ⟨rfl, rfl, rfl⟩ f196 rfl dX6_command_111 ?_
          refine lv_iconst (v := (oI none)) hx hb dX6_command_114 (by decide) ?_
          refine n_icmpo_ne (o := alF (some pt) (decide (hereF tx len w9 = some 59)) w9) (tgt := 170) hx hb (by first | exact alF_bd (fun q h => by cases h <;> omega) (by omega) | exact alF_bd (alF_bd (alF_bd (fun q h => hob q (h70_2 q h)) (by omega)) (by omega)) (by omega) | exact alF_bd (alF_bd (alF_bd (fun q h => by cases h) (by omega)) (by omega)) (by omega)) dX6_command_115 (by decide) (fun q115 c115 => ?_) (fun c115 => ?_)
          · have hrc : rcP tx len ac cc pt = (false, q115) := by
              have hkd := wd_none c14 c20 c27 c33
              have hq : q115 = pt := by rcases alF_some c115 with h8 | ⟨h8, -⟩; (cases h8; rfl); cases h8
              rw [hq]; unfold rcP; rw [← hw9, hkd]; rfl
            exact n_wretv hx hb hr hlocks (post := fun (u : Nat × (Option Nat) × Nat × (Nat → Nat)) => (((rcP tx len ac cc pt).1 = true ∧ u.2.1 = none ∧ u.1 = (rcP tx len ac cc pt).2 ∧ u.2.2.1 = mny + 1 ∧ u.2.2.2 = cmU xm mny tx len ac cc pt) ∨ ((rcP tx len ac cc pt).1 = false ∧ u.2.1 = some (rcP tx len ac cc pt).2 ∧ u.2.2.1 = mny ∧ u.2.2.2 = xm)) ∧ u.1 ≤ 400) (w1 := fun u => (wR kA qr cc ac co ad rc nm st an svm cnt tx len th xf xt xs xa xw xc xk xp u.1 u.2.1 u.2.2.2 u.2.2.1)) (w9 + 1, alF (some pt) (decide (hereF tx len w9 = some 59)) w9, mny, xm) (by first | exact ⟨Or.inl ⟨(by rw [hrc]), c115, (by rw [hrc]), rfl, hxm⟩, (by omega)⟩ | exact ⟨Or.inr ⟨(by rw [hrc]), (by rw [hrc]; exact c115), rfl, rfl⟩, (by omega)⟩) hP hD hK hS hAe dX6_command_170
          · exact absurd (alF_none.mp c115).1 (fun h => by cases h)
        · have hkd : kndF tx pt w9 = some 3 := wd_kind hl9 (by decide) c33
          have hKc : cmK tx len pt = 3 := by unfold cmK; rw [← hw9, hkd]; rfl
          have hl : lv_has ls 6 [(2, .int (nI 13813989)), (1, .int (nI pt)), (0, .ref (qr 0))] := by rw [c33] at hl; exact hl
          refine lv_iconst (v := (nI 1)) hx hb dX6_command_36 (by decide) ?_
          refine lv_goto (tgt := 41) hx hb dX6_command_37 (by decide) ?_
          refine lv_istore_n (lv' := [(3, .int (nI 1)), (2, .int (nI 13813989)), (1, .int (nI pt)), (0, .ref (qr 0))]) hx hb dX6_command_41 rfl hl (by decide) rfl (fun ls hl => ?_)
          refine lv_aload_n hx hb dX6_command_42 rfl (lv_at hl 3 rfl) ?_
          refine lv_iload_n hx hb dX6_command_43 rfl (lv_at hl 0 rfl) ?_
          refine lv_iload_n hx hb dX6_command_44 rfl (lv_at hl 2 rfl) ?_
          refine n_wVv (b := qr 0) (As := [.int (bI true), .int (nI pt)]) (rest := []) (wr := []) (ws' := fun u => (wR kA qr cc ac co ad rc nm st an svm cnt tx len th xf xt xs xa xw xc xk xp w9 (alF none true pt) xm mny)) hS0 (c_X6_allows lQ D kA qr cc ac co ad rc nm st an svm cnt tx len th xf xt xs xa xw xc xk xp w9 none xm mny true pt H.size (fun q h => by cases h)) (cwV 2 hts gX6_command_X6_allows rfl rfl rfl (by decide +kernel) ⟨Nat.le_of_ble_eq_true rfl, Nat.le_of_ble_eq_true rfl⟩) hP hD hS hA hK hK (by simpa only [List.append_assoc, List.append_nil] using (List.Perm.of_eq (List.append_nil _).symm)) (fun u => List.Perm.symm (by simpa only [List.append_assoc, List.append_nil] using (List.Perm.of_eq (List.append_nil _).symm))) (q0 := 0) rfl rfl rfl rfl rfl hl.1 (Nat.le_of_ble_eq_true rfl) dX6_command_45 ⟨Nat.le_refl _, Nat.le_refl _⟩ (fun u45 H locs h45 hP hD hS => ?_)
          have hP : va_P D vwCl (wR kA qr cc ac co ad rc nm st an svm cnt tx len th xf xt xs xa xw xc xk xp w9 (alF none true pt) xm mny) H := hP
          have hD : va_D A (wR kA qr cc ac co ad rc nm st an svm cnt tx len th xf xt xs xa xw xc xk xp w9 (alF none true pt) xm mny) := hD
          have hP : va_P D vwCl (wR kA qr cc ac co ad rc nm st an svm cnt tx len th xf xt xs xa xw xc xk xp w9 none xm mny) H := hP
          have hD : va_D A (wR kA qr cc ac co ad rc nm st an svm cnt tx len th xf xt xs xa xw xc xk xp w9 none xm mny) := hD
          refine lv_iconst (v := (nI 0)) hx hb dX6_command_48 (by decide) ?_
          refine lv_istore (lv' := [(4, .int (nI 0)), (3, .int (nI 1)), (2, .int (nI 13813989)), (1, .int (nI pt)), (0, .ref (qr 0))]) hx hb dX6_command_49 hl (by decide) rfl (fun ls hl => ?_)
          refine lv_iconst (v := (nI 0)) hx hb dX6_command_51 (by decide) ?_
          refine lv_istore (lv' := [(5, .int (nI 0)), (4, .int (nI 0)), (3, .int (nI 1)), (2, .int (nI 13813989)), (1, .int (nI pt)), (0, .ref (qr 0))]) hx hb dX6_command_52 hl (by decide) rfl (fun ls hl => ?_)
          refine lv_aload_n hx hb dX6_command_54 rfl (lv_at hl 5 rfl) ?_
          refine n_get (ci := 6) (v := .int (oI none)) (C := RX6) (T := TX6) (N := 18) hx hb hts hinX6 hown hK hP 0 rfl rfl 15 rfl ⟨rfl, rfl, rfl⟩ f196 rfl dX6_command_55 ?_
          refine lv_iconst (v := (oI none)) hx hb dX6_command_58 (by decide) ?_
          refine lv_icmp_ne (tgt := 84) hx hb dX6_command_59 (by decide) (fun h => absurd (by decide) h) (fun _ => ?_)
          refine lv_iload_n hx hb dX6_command_62 rfl (lv_at hl 3 rfl) ?_
          refine lv_sipush (v := (nI 294)) hx hb dX6_command_63 (by decide) ?_
          refine lv_icmp_ne (tgt := 84) hx hb dX6_command_66 (by decide) (fun _ => ?_) (fun h => absurd h (by decide))
          refine lv_aload_n hx hb dX6_command_84 rfl (lv_at hl 5 rfl) ?_
          refine n_get (ci := 6) (v := .int (oI none)) (C := RX6) (T := TX6) (N := 18) hx hb hts hinX6 hown hK hP 0 rfl rfl 15 rfl ⟨rfl, rfl, rfl⟩ f196 rfl dX6_command_85 ?_
          refine lv_iconst (v := (oI none)) hx hb dX6_command_88 (by decide) ?_
          refine lv_icmp_ne (tgt := 104) hx hb dX6_command_89 (by decide) (fun h => absurd (by decide) h) (fun _ => ?_)
          refine lv_iload_n hx hb dX6_command_92 rfl (lv_at hl 3 rfl) ?_
          refine lv_ldc (v := (nI 13813989)) hx hb hown k220 dX6_command_93 ?_
          refine lv_icmp_eq (tgt := 104) hx hb dX6_command_95 (by decide) (fun _ => ?_) (fun h => absurd (by decide) h)
          refine lv_aload_n hx hb dX6_command_104 rfl (lv_at hl 5 rfl) ?_
          refine lv_bipush (v := (nI 59)) hx hb dX6_command_105 (by decide) ?_
          refine n_wVv (b := qr 0) (As := [.int (nI 59)]) (rest := []) (wr := []) (ws' := fun u => (wR kA qr cc ac co ad rc nm st an svm cnt tx len th xf xt xs xa xw xc xk xp (w9 + 1) (alF none (decide (hereF tx len w9 = some 59)) w9) xm mny)) hS0 (c_X6_sign lQ D kA qr cc ac co ad rc nm st an svm cnt tx len th xf xt xs xa xw xc xk xp w9 none xm mny 59 H.size (by first | assumption | omega) (by first | assumption | omega) (by first | assumption | omega) (by first | exact (fun q h => by cases h <;> omega) | exact alF_bd (alF_bd (fun q h => hob q (h70_2 q h)) (by omega)) (by omega) | exact alF_bd (alF_bd (fun q h => by cases h) (by omega)) (by omega)) (by first | assumption | omega)) (cwV 1 hts gX6_command_X6_sign rfl rfl rfl (by decide +kernel) ⟨Nat.le_of_ble_eq_true rfl, Nat.le_of_ble_eq_true rfl⟩) hP hD hS hA hK hK (by simpa only [List.append_assoc, List.append_nil] using (List.Perm.of_eq (List.append_nil _).symm)) (fun u => List.Perm.symm (by simpa only [List.append_assoc, List.append_nil] using (List.Perm.of_eq (List.append_nil _).symm))) (q0 := 0) rfl rfl rfl rfl rfl hl.1 (Nat.le_of_ble_eq_true rfl) dX6_command_107 ⟨Nat.le_refl _, Nat.le_refl _⟩ (fun u107 H locs h107 hP hD hS => ?_)
          have hP : va_P D vwCl (wR kA qr cc ac co ad rc nm st an svm cnt tx len th xf xt xs xa xw xc xk xp (w9 + 1) (alF none (decide (hereF tx len w9 = some 59)) w9) xm mny) H := hP
          have hD : va_D A (wR kA qr cc ac co ad rc nm st an svm cnt tx len th xf xt xs xa xw xc xk xp (w9 + 1) (alF none (decide (hereF tx len w9 = some 59)) w9) xm mny) := hD
          refine lv_aload_n hx hb dX6_command_110 rfl (lv_at hl 5 rfl) ?_
          refine n_get (ci := 6) (v := .int (oI (alF none (decide (hereF tx len w9 = some 59)) w9))) (C := RX6) (T := TX6) (N := 18) hx hb hts hinX6 hown hK hP 0 rfl rfl 15 rfl ⟨rfl, rfl, rfl⟩ f196 rfl dX6_command_111 ?_
          refine lv_iconst (v := (oI none)) hx hb dX6_command_114 (by decide) ?_
          refine n_icmpo_ne (o := alF none (decide (hereF tx len w9 = some 59)) w9) (tgt := 170) hx hb (by first | exact alF_bd (fun q h => by cases h <;> omega) (by omega) | exact alF_bd (alF_bd (alF_bd (fun q h => hob q (h70_2 q h)) (by omega)) (by omega)) (by omega) | exact alF_bd (alF_bd (alF_bd (fun q h => by cases h) (by omega)) (by omega)) (by omega)) dX6_command_115 (by decide) (fun q115 c115 => ?_) (fun c115 => ?_)
          · have hrk : rcP tx len ac cc pt = rc3 tx len w9 := by unfold rcP; rw [← hw9, hkd]; rfl
            have hrc : rcP tx len ac cc pt = (false, q115) := by
              rw [hrk]
              rcases alF_some c115 with h1 | ⟨h1, h2, h3⟩
              · cases h1
              · have h9 := of_decide_eq_false h2
                unfold rc3; rw [decide_eq_false h9, stp_f h9, h3]
            exact n_wretv hx hb hr hlocks (post := fun (u : Nat × (Option Nat) × Nat × (Nat → Nat)) => (((rcP tx len ac cc pt).1 = true ∧ u.2.1 = none ∧ u.1 = (rcP tx len ac cc pt).2 ∧ u.2.2.1 = mny + 1 ∧ u.2.2.2 = cmU xm mny tx len ac cc pt) ∨ ((rcP tx len ac cc pt).1 = false ∧ u.2.1 = some (rcP tx len ac cc pt).2 ∧ u.2.2.1 = mny ∧ u.2.2.2 = xm)) ∧ u.1 ≤ 400) (w1 := fun u => (wR kA qr cc ac co ad rc nm st an svm cnt tx len th xf xt xs xa xw xc xk xp u.1 u.2.1 u.2.2.2 u.2.2.1)) (w9 + 1, alF none (decide (hereF tx len w9 = some 59)) w9, mny, xm) (by first | exact ⟨Or.inl ⟨(by rw [hrc]), c115, (by rw [hrc]), rfl, hxm⟩, (by omega)⟩ | exact ⟨Or.inr ⟨(by rw [hrc]), (by rw [hrc]; exact c115), rfl, rfl⟩, (by omega)⟩) hP hD hK hS hAe dX6_command_170
          · have hrk : rcP tx len ac cc pt = rc3 tx len w9 := by unfold rcP; rw [← hw9, hkd]; rfl
            have hn1 := alF_none.mp c115
            have h59 := of_decide_eq_true hn1.2
            have hrc : rcP tx len ac cc pt = (true, w9 + 1) := by rw [hrk]; unfold rc3; rw [decide_eq_true h59, stp_t h59]
            have hxm : va_up (va_up (va_up xm (3 * mny) 13813989) (3 * mny + 1) 0) (3 * mny + 2) 0 = cmU xm mny tx len ac cc pt := by unfold cmU mA mB; rw [hKc]; rfl
            refine lv_aload_n hx hb dX6_command_118 rfl (lv_at hl 5 rfl) ?_
            refine n_get (ci := 6) (v := .ref (qr 12)) (C := RX6) (T := TX6) (N := 18) hx hb hts hinX6 hown hK hP 0 rfl rfl 16 rfl ⟨rfl, rfl, rfl⟩ f43 rfl dX6_command_119 ?_
            refine lv_iconst (v := (nI 3)) hx hb dX6_command_122 (by decide) ?_
            refine lv_aload_n hx hb dX6_command_123 rfl (lv_at hl 5 rfl) ?_
            refine n_get (ci := 6) (v := .int (nI mny)) (C := RX6) (T := TX6) (N := 18) hx hb hts hinX6 hown hK hP 0 rfl rfl 17 rfl ⟨rfl, rfl, rfl⟩ f230 rfl dX6_command_124 ?_
            refine n_imul (v := (nI (3 * mny))) hx hb (pk_mul _ _) dX6_command_127 ?_
            refine lv_iload_n hx hb dX6_command_128 rfl (lv_at hl 3 rfl) ?_
            refine n_iast (i := 3 * mny) (x := (nI 13813989)) (g := aN (va_up xm (3 * mny) 13813989)) (ws' := (wR kA qr cc ac co ad rc nm st an svm cnt tx len th xf xt xs xa xw xc xk xp (w9 + 1) (alF none (decide (hereF tx len w9 = some 59)) w9) (va_up xm (3 * mny) 13813989) mny)) hx hb hK hP hD hS 12 0 rfl rfl (by omega) (Nat.le_of_ble_eq_true rfl) (aN_up _ _ _) rfl dX6_command_129 (fun H locs hP hD hS => ?_)
            refine lv_aload_n hx hb dX6_command_130 rfl (lv_at hl 5 rfl) ?_
            refine n_get (ci := 6) (v := .ref (qr 12)) (C := RX6) (T := TX6) (N := 18) hx hb hts hinX6 hown hK hP 0 rfl rfl 16 rfl ⟨rfl, rfl, rfl⟩ f43 rfl dX6_command_131 ?_
            refine lv_iconst (v := (nI 3)) hx hb dX6_command_134 (by decide) ?_
            refine lv_aload_n hx hb dX6_command_135 rfl (lv_at hl 5 rfl) ?_
            refine n_get (ci := 6) (v := .int (nI mny)) (C := RX6) (T := TX6) (N := 18) hx hb hts hinX6 hown hK hP 0 rfl rfl 17 rfl ⟨rfl, rfl, rfl⟩ f230 rfl dX6_command_136 ?_
            refine n_imul (v := (nI (3 * mny))) hx hb (pk_mul _ _) dX6_command_139 ?_
            refine lv_iconst (v := (nI 1)) hx hb dX6_command_140 (by decide) ?_
            refine n_iadd (v := (nI ((3 * mny) + 1))) hx hb (nI_add _ _) dX6_command_141 ?_
            refine lv_iload hx hb dX6_command_142 (lv_at hl 1 rfl) ?_
            refine n_iast (i := (3 * mny) + 1) (x := (nI 0)) (g := aN (va_up (va_up xm (3 * mny) 13813989) ((3 * mny) + 1) 0)) (ws' := (wR kA qr cc ac co ad rc nm st an svm cnt tx len th xf xt xs xa xw xc xk xp (w9 + 1) (alF none (decide (hereF tx len w9 = some 59)) w9) (va_up (va_up xm (3 * mny) 13813989) ((3 * mny) + 1) 0) mny)) hx hb hK hP hD hS 12 0 rfl rfl (by omega) (Nat.le_of_ble_eq_true rfl) (aN_up _ _ _) rfl dX6_command_144 (fun H locs hP hD hS => ?_)
            refine lv_aload_n hx hb dX6_command_145 rfl (lv_at hl 5 rfl) ?_
            refine n_get (ci := 6) (v := .ref (qr 12)) (C := RX6) (T := TX6) (N := 18) hx hb hts hinX6 hown hK hP 0 rfl rfl 16 rfl ⟨rfl, rfl, rfl⟩ f43 rfl dX6_command_146 ?_
            refine lv_iconst (v := (nI 3)) hx hb dX6_command_149 (by decide) ?_
            refine lv_aload_n hx hb dX6_command_150 rfl (lv_at hl 5 rfl) ?_
            refine n_get (ci := 6) (v := .int (nI mny)) (C := RX6) (T := TX6) (N := 18) hx hb hts hinX6 hown hK hP 0 rfl rfl 17 rfl ⟨rfl, rfl, rfl⟩ f230 rfl dX6_command_151 ?_
            refine n_imul (v := (nI (3 * mny))) hx hb (pk_mul _ _) dX6_command_154 ?_
            refine lv_iconst (v := (nI 2)) hx hb dX6_command_155 (by decide) ?_
            refine n_iadd (v := (nI ((3 * mny) + 2))) hx hb (nI_add _ _) dX6_command_156 ?_
            refine lv_iload hx hb dX6_command_157 (lv_at hl 0 rfl) ?_
            refine n_iast (i := (3 * mny) + 2) (x := (nI 0)) (g := aN (va_up (va_up (va_up xm (3 * mny) 13813989) ((3 * mny) + 1) 0) ((3 * mny) + 2) 0)) (ws' := (wR kA qr cc ac co ad rc nm st an svm cnt tx len th xf xt xs xa xw xc xk xp (w9 + 1) (alF none (decide (hereF tx len w9 = some 59)) w9) (va_up (va_up (va_up xm (3 * mny) 13813989) ((3 * mny) + 1) 0) ((3 * mny) + 2) 0) mny)) hx hb hK hP hD hS 12 0 rfl rfl (by omega) (Nat.le_of_ble_eq_true rfl) (aN_up _ _ _) rfl dX6_command_159 (fun H locs hP hD hS => ?_)
            refine lv_aload_n hx hb dX6_command_160 rfl (lv_at hl 5 rfl) ?_
            refine lv_dup hx hb dX6_command_161 rfl ?_
            refine n_get (ci := 6) (v := .int (nI mny)) (C := RX6) (T := TX6) (N := 18) hx hb hts hinX6 hown hK hP 0 rfl rfl 17 rfl ⟨rfl, rfl, rfl⟩ f230 rfl dX6_command_162 ?_
            refine lv_iconst (v := (nI 1)) hx hb dX6_command_165 (by decide) ?_
            refine n_iadd (v := (nI (mny + 1))) hx hb (nI_add _ _) dX6_command_166 ?_
            refine n_put (ci := 6) (v := .int (nI (mny + 1))) (C := RX6) (T := TX6) (N := 18) (ws' := (wR kA qr cc ac co ad rc nm st an svm cnt tx len th xf xt xs xa xw xc xk xp (w9 + 1) (alF none (decide (hereF tx len w9 = some 59)) w9) (va_up (va_up (va_up xm (3 * mny) 13813989) ((3 * mny) + 1) 0) ((3 * mny) + 2) 0) (mny + 1))) hx hb hts hinX6 tyX6 tyX6_ok nmX6 hown hK hP hD hS 0 rfl rfl 17 rfl ⟨rfl, rfl, rfl, rfl⟩ f230 rfl rfl rfl rfl dX6_command_167 (fun H locs hP hD hS => ?_)
            exact n_wretv hx hb hr hlocks (post := fun (u : Nat × (Option Nat) × Nat × (Nat → Nat)) => (((rcP tx len ac cc pt).1 = true ∧ u.2.1 = none ∧ u.1 = (rcP tx len ac cc pt).2 ∧ u.2.2.1 = mny + 1 ∧ u.2.2.2 = cmU xm mny tx len ac cc pt) ∨ ((rcP tx len ac cc pt).1 = false ∧ u.2.1 = some (rcP tx len ac cc pt).2 ∧ u.2.2.1 = mny ∧ u.2.2.2 = xm)) ∧ u.1 ≤ 400) (w1 := fun u => (wR kA qr cc ac co ad rc nm st an svm cnt tx len th xf xt xs xa xw xc xk xp u.1 u.2.1 u.2.2.2 u.2.2.1)) (w9 + 1, alF none (decide (hereF tx len w9 = some 59)) w9, mny + 1, va_up (va_up (va_up xm (3 * mny) 13813989) ((3 * mny) + 1) 0) ((3 * mny) + 2) 0) (by first | exact ⟨Or.inl ⟨(by rw [hrc]), c115, (by rw [hrc]), rfl, hxm⟩, (by omega)⟩ | exact ⟨Or.inr ⟨(by rw [hrc]), (by rw [hrc]; exact c115), rfl, rfl⟩, (by omega)⟩) hP hD hK hS hAe dX6_command_170

