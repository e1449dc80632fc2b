
/-! ===== all commands, read and carried out ===== -/
section ADV
variable {tx : Nat → Nat} {len : Nat} {ac : Nat → Nat} {cc : Nat}
theorem dgL_ge {a : Nat} : ∀ {n least set p : Nat}, p ≤ (dgL tx len a n least set p).2
  | 0, _, _, _ => Nat.le_refl _
  | n + 1, least, set, p => by
    cases e : digT tx len p with
    | none => rw [dgL_n e]; exact Nat.le_refl _
    | some d =>
      by_cases e2 : least ≤ d ∧ d < a
      · rw [dgL_t e e2]; exact Nat.le_trans (Nat.le_succ p) (dgL_ge (n := n))
      · rw [dgL_f e e2]; exact Nat.le_refl _
theorem rsF_ge {a p : Nat} : p ≤ (rsF tx len a p).2 := by
  unfold rsF
  by_cases e : hereF tx len p = some 45
  · rw [if_pos e]; exact Nat.le_succ p
  · rw [if_neg e]; exact dgL_ge
theorem rasL_ge : ∀ {n k sets p : Nat}, p ≤ (rasL tx len ac n k sets p).2.2
  | 0, _, _, _ => Nat.le_refl _
  | n + 1, k, sets, p => by
    by_cases e : k = 0
    · rw [rasL_z e]
      by_cases e1 : (rsF tx len (ac k) p).1 = 0
      · rw [if_pos e1]; exact rsF_ge
      · rw [if_neg e1]; exact Nat.le_trans rsF_ge (rasL_ge (n := n))
    · by_cases e2 : hereF tx len p = some 44
      · rw [rasL_c (by omega) e2]
        have h : p ≤ (rsF tx len (ac k) (p + 1)).2 := Nat.le_trans (Nat.le_succ p) rsF_ge
        by_cases e1 : (rsF tx len (ac k) (p + 1)).1 = 0
        · rw [if_pos e1]; exact h
        · rw [if_neg e1]; exact Nat.le_trans h (rasL_ge (n := n))
      · rw [rasL_n (by omega) e2]; exact Nat.le_refl _
theorem skpF_ge : ∀ {n p : Nat}, p ≤ skpF tx len n p
  | 0, _ => Nat.le_refl _
  | n + 1, p => by
    by_cases e : hereF tx len p = some 32
    · rw [skpF_t e]; exact Nat.le_trans (Nat.le_succ p) (skpF_ge (n := n))
    · rw [skpF_f e]; exact Nat.le_refl _
theorem skpF_le2 : ∀ {n p : Nat}, skpF tx len n p ≤ p + n
  | 0, _ => Nat.le_refl _
  | n + 1, p => by
    by_cases e : hereF tx len p = some 32
    · rw [skpF_t e]; have := skpF_le2 (n := n) (p := p + 1); omega
    · rw [skpF_f e]; omega
theorem knd_len {p e k : Nat} (h : kndF tx p e = some k) : e - p = lenW.getD k 0 := by
  unfold kndF at h
  by_cases h0 : wisB tx p e 0 = true
  · rw [if_pos h0] at h; cases h; exact (wis_iff.mp h0).1
  · rw [if_neg h0] at h
    by_cases h1 : wisB tx p e 1 = true
    · rw [if_pos h1] at h; cases h; exact (wis_iff.mp h1).1
    · rw [if_neg h1] at h
      by_cases h2 : wisB tx p e 2 = true
      · rw [if_pos h2] at h; cases h; exact (wis_iff.mp h2).1
      · rw [if_neg h2] at h
        by_cases h3 : wisB tx p e 3 = true
        · rw [if_pos h3] at h; cases h; exact (wis_iff.mp h3).1
        · rw [if_neg h3] at h; cases h
theorem rcP_adv {p : Nat} (h : (rcP tx len ac cc p).1 = true) : p + 4 ≤ (rcP tx len ac cc p).2 := by
  unfold rcP at h ⊢
  cases hk : kndF tx p (wenF tx len 150 p) with
  | none => rw [hk] at h; cases h
  | some k =>
    rw [hk] at h
    have hl := knd_len hk
    have hlt := kndF_lt hk
    rcases (show k = 0 ∨ k = 1 ∨ k = 2 ∨ k = 3 by omega) with e | e | e | e
    · subst e
      have hl : _ = 2 := hl
      have h : (rc0 tx len ac cc (wenF tx len 150 p)).1 = true := h
      show p + 4 ≤ (rc0 tx len ac cc (wenF tx len 150 p)).2
      generalize wenF tx len 150 p = w at h hl ⊢
      by_cases e1 : hereF tx len w = some 32
      · cases e2 : (rasL tx len ac cc 0 0 (w + 1)).1 with
        | false => rw [rc0_ra e1 e2] at h; cases h
        | true =>
          have hg := rasL_ge (tx := tx) (len := len) (ac := ac) (n := cc) (k := 0) (sets := 0) (p := w + 1)
          by_cases e3 : hereF tx len (rasL tx len ac cc 0 0 (w + 1)).2.2 = some 62
          · cases e4 : digT tx len ((rasL tx len ac cc 0 0 (w + 1)).2.2 + 1) with
            | none => rw [rc0_dg e1 e2 e3 e4] at h; cases h
            | some d =>
              rw [rc0_ok e1 e2 e3 e4] at h ⊢
              rw [stp_t (of_decide_eq_true h)]
              show p + 4 ≤ (rasL tx len ac cc 0 0 (w + 1)).2.2 + 2 + 1
              omega
          · rw [rc0_62 e1 e2 e3] at h; cases h
      · rw [rc0_32 e1] at h; cases h
    · subst e
      have hl : _ = 4 := hl
      have h : (rc1 tx len (wenF tx len 150 p)).1 = true := h
      show p + 4 ≤ (rc1 tx len (wenF tx len 150 p)).2
      generalize wenF tx len 150 p = w at h hl ⊢
      by_cases e1 : hereF tx len w = some 32
      · cases e2 : digT tx len (w + 1) with
        | none => rw [rc1_dg e1 e2] at h; cases h
        | some d =>
          rw [rc1_ok e1 e2] at h ⊢
          rw [stp_t (of_decide_eq_true h)]
          show p + 4 ≤ cond (digT tx len (w + 2)).isSome (w + 3) (w + 2) + 1
          cases (digT tx len (w + 2)).isSome with
          | true => show p + 4 ≤ w + 3 + 1; omega
          | false => show p + 4 ≤ w + 2 + 1; omega
      · rw [rc1_32 e1] at h; cases h
    · subst e
      have hl : _ = 2 := hl
      have h : (rc1 tx len (wenF tx len 150 p)).1 = true := h
      show p + 4 ≤ (rc1 tx len (wenF tx len 150 p)).2
      generalize wenF tx len 150 p = w at h hl ⊢
      by_cases e1 : hereF tx len w = some 32
      · cases e2 : digT tx len (w + 1) with
        | none => rw [rc1_dg e1 e2] at h; cases h
        | some d =>
          rw [rc1_ok e1 e2] at h ⊢
          rw [stp_t (of_decide_eq_true h)]
          show p + 4 ≤ cond (digT tx len (w + 2)).isSome (w + 3) (w + 2) + 1
          cases (digT tx len (w + 2)).isSome with
          | true => show p + 4 ≤ w + 3 + 1; omega
          | false => show p + 4 ≤ w + 2 + 1; omega
      · rw [rc1_32 e1] at h; cases h
    · subst e
      have hl : _ = 5 := hl
      have h : (rc3 tx len (wenF tx len 150 p)).1 = true := h
      show p + 4 ≤ (rc3 tx len (wenF tx len 150 p)).2
      unfold rc3 at h ⊢
      rw [stp_t (of_decide_eq_true h)]
      show p + 4 ≤ wenF tx len 150 p + 1
      omega
end ADV
/-- where the commands stand -/
def psF (tx : Nat → Nat) (len : Nat) (ac : Nat → Nat) (cc : Nat) : Nat → Nat
  | 0 => skpF tx len 150 0
  | i + 1 => skpF tx len 150 (rcP tx len ac cc (psF tx len ac cc i)).2
def cmL (xm tx : Nat → Nat) (len : Nat) (ac : Nat → Nat) (cc n : Nat) : Prop := ∀ i, i < n → psF tx len ac cc i < len ∧ (rcP tx len ac cc (psF tx len ac cc i)).1 = true ∧ xm (3 * i) = kwF (cmK tx len (psF tx len ac cc i)) ∧ xm (3 * i + 1) = mA tx len ac cc (psF tx len ac cc i) ∧ xm (3 * i + 2) = mB tx len ac cc (psF tx len ac cc i)
theorem cmL_s {xm tx : Nat → Nat} {len : Nat} {ac : Nat → Nat} {cc n : Nat} (h : cmL xm tx len ac cc n) (h1 : psF tx len ac cc n < len) (h2 : (rcP tx len ac cc (psF tx len ac cc n)).1 = true) : cmL (cmU xm n tx len ac cc (psF tx len ac cc n)) tx len ac cc (n + 1) := fun i hi => by
  unfold cmU
  by_cases e : i = n
  · subst e
    refine ⟨h1, h2, ?_, ?_, ?_⟩
    · rw [up_n _ _ (show 3 * i ≠ 3 * i + 2 by omega), up_n _ _ (show 3 * i ≠ 3 * i + 1 by omega), up_s]
    · rw [up_n _ _ (show 3 * i + 1 ≠ 3 * i + 2 by omega), up_s]
    · rw [up_s]
  · obtain ⟨g1, g2, g3, g4, g5⟩ := h i (by omega)
    refine ⟨g1, g2, ?_, ?_, ?_⟩
    · rw [up_n _ _ (show 3 * i ≠ 3 * n + 2 by omega), up_n _ _ (show 3 * i ≠ 3 * n + 1 by omega), up_n _ _ (show 3 * i ≠ 3 * n by omega)]; exact g3
    · rw [up_n _ _ (show 3 * i + 1 ≠ 3 * n + 2 by omega), up_n _ _ (show 3 * i + 1 ≠ 3 * n + 1 by omega), up_n _ _ (show 3 * i + 1 ≠ 3 * n by omega)]; exact g4
    · rw [up_n _ _ (show 3 * i + 2 ≠ 3 * n + 2 by omega), up_n _ _ (show 3 * i + 2 ≠ 3 * n + 1 by omega), up_n _ _ (show 3 * i + 2 ≠ 3 * n by omega)]; exact g5
theorem cm_do {tx : Nat → Nat} {len : Nat} {ac : Nat → Nat} {cc p : Nat} (h : (rcP tx len ac cc p).1 = true) (x : TRt) : doF cc x.1 x.2.1 x.2.2.1 x.2.2.2.1 x.2.2.2.2 (cmK tx len p) (mA tx len ac cc p) (mA tx len ac cc p) (mB tx len ac cc p) = cmDo tx len ac cc p x := by
  obtain ⟨k, hk, hkn, -⟩ := rcP_kind h
  have hK : cmK tx len p = k := by unfold cmK; rw [hkn]; rfl
  unfold cmDo mA mB
  rw [hK]
  refine doF_dep (fun e => ?_) (fun e => ?_) hk
  · rw [if_neg (by omega), if_neg (by omega)]
  · rw [if_pos e, if_pos e]; exact ⟨rfl, rfl⟩
theorem cmK_lt {tx : Nat → Nat} {len : Nat} {ac : Nat → Nat} {cc p : Nat} (h : (rcP tx len ac cc p).1 = true) : cmK tx len p < 4 := by
  obtain ⟨k, hk, hkn, -⟩ := rcP_kind h
  unfold cmK; rw [hkn]; exact hk
theorem kw_all : ∀ k, k < 4 → (kwF k = 294 ↔ k = 0) ∧ (kwF k = 13813989 ↔ k = 3) ∧ (kwF k = 688 ↔ k = 2) ∧ kwF k < 2147483648 := by decide

set_option maxHeartbeats 4000000 in
set_option maxRecDepth 100000 in
theorem c_X6_reads (lQ : Launch) (D : va_G) (kA : Nat → ClassId) (qr : Nat → Nat) (cc : Nat) (ac : Nat → Nat) (co : Nat → Nat) (ad : Nat) (rc : Nat) (nm : Nat → Nat) (st : Nat → Nat) (an : Nat → Nat) (svm : Nat → TCt) (cnt : Nat) (tx : Nat → Nat) (len : Nat) (th : Nat) (xf : Nat → Option Nat) (xt : Nat → Nat) (xs : Nat → Option Nat) (xa : Nat → Nat) (xw : Nat → Nat) (xc : Nat → Nat) (xk : Nat → Option Nat) (xp : Nat → Nat) (pt : Nat) (wr : Option Nat) (xm : Nat → Nat) (mny : Nat) (sz : Nat) (hlen : len ≤ 150) (htx : ∀ j, j < len → tx j < 128) (hcc : cc ≤ 5) (hac : ∀ k, k < cc → 2 ≤ ac k ∧ ac k ≤ 4) : Met lQ yX6_reads wsX6_reads (rmN 5 113) (wr_Pc D vwCl [.ref (qr 0)] (wR kA qr cc ac co ad rc nm st an svm cnt tx len th xf xt xs xa xw xc xk xp pt wr xm mny) (tyK kA) sz) (va_Qv (S := Nat × (Option Nat) × Nat × (Nat → Nat)) (fun (u : Nat × (Option Nat) × Nat × (Nat → Nat)) => (∀ q, u.2.1 = some q → ffF tx len ac cc 150 (skpF tx len 150 0) = some q) ∧ (u.2.1 = none → ffF tx len ac cc 150 (skpF tx len 150 0) = none ∧ cmL u.2.2.2 tx len ac cc u.2.2.1 ∧ len ≤ psF tx len ac cc u.2.2.1 ∧ u.2.2.1 < 40)) (wr_B D vwCl (wR kA qr cc ac co ad rc nm st an svm cnt tx len th xf xt xs xa xw xc xk xp pt wr xm mny) (tyK kA) sz (fun u => (wR kA qr cc ac co ad rc nm st an svm cnt tx len th xf xt xs xa xw xc xk xp u.1 u.2.1 u.2.2.2 u.2.2.1))) (va_A (wR kA qr cc ac co ad rc nm st an svm cnt tx len th xf xt xs xa xw xc xk xp pt wr xm mny) sz)) 0 0 (va_A (wR kA qr cc ac co ad rc nm st an svm cnt tx len th xf xt xs xa xw xc xk xp pt wr xm mny) sz) := by
  refine Met.ofW (cc := cX6_reads) (maxL := 1) (ret := none) (by decide) rfl ?_
  intro pQ eQ s mQ args below meth cQ s₁ B hml hv
  obtain ⟨rfl, hsz, hP, hK, hD0⟩ := hv
  have hx := B.exec
  have hb := B.bytes
  have hr := B.returns
  have hts := atoms_spec (ws := wsX6_reads) B.pre
  have hown : s.vm.findClass RX6 = some mQ.cls := findClass_of_methodNamed B.named
  have hlocks : meth.locks = false := B.notSynchronized
  have hS0 : CallFix pQ mQ cQ cX6_reads 1 s ([.ref (qr 0)] : List Value).toArray wsX6_reads RX6 := ⟨hx, hb, hml, hown, hts⟩
  subst hsz
  have hD := hD0.self (sz := s.heap.size)
  generalize hAe : va_A (wR kA qr cc ac co ad rc nm st an svm cnt tx len th xf xt xs xa xw xc xk xp pt wr xm mny) s.heap.size = A at hD ⊢
  have hA : ∀ q : Nat, s.heap.size ≤ q → A q := fun q h => by rw [← hAe]; exact Or.inr h
  have hS : va_S A s.heap s.heap [] := va_S.rf
  have f193 : (Cond.fieldLink RX6 193 "AskedRulesModel" "at" "I").before ([.ref (qr 0)] : List Value).toArray s = true := hts _ (by decide +kernel)
  have hinX6 : ∀ w ∈ wsX60, w ∈ wsX6_reads := by decide +kernel
  have f196 : (Cond.fieldLink RX6 196 "AskedRulesModel" "wrong" "I").before ([.ref (qr 0)] : List Value).toArray s = true := hts _ (by decide +kernel)
  have f230 : (Cond.fieldLink RX6 230 "AskedRulesModel" "many" "I").before ([.ref (qr 0)] : List Value).toArray s = true := hts _ (by decide +kernel)
  have f178 : (Cond.fieldLink RX6 178 "AskedRulesModel" "letters" "I").before ([.ref (qr 0)] : List Value).toArray s = true := hts _ (by decide +kernel)
  have hl := lv_entry ([.ref (qr 0)]) (n := 1) (Nat.le_of_ble_eq_true rfl)
  rw [lg_entry_eq]
  generalize (lg_sl ([.ref (qr 0)]) ++ List.replicate (1 - (lg_sl ([.ref (qr 0)])).length) Slot.unset).toArray = ls at hl ⊢
  have hl : lv_has ls 1 [(0, .ref (qr 0))] := hl
  have hP : va_P D vwCl (wR kA qr cc ac co ad rc nm st an svm cnt tx len th xf xt xs xa xw xc xk xp pt wr xm mny) s.heap := hP
  have hD : va_D A (wR kA qr cc ac co ad rc nm st an svm cnt tx len th xf xt xs xa xw xc xk xp pt wr xm mny) := hD
  refine lv_aload_n hx hb dX6_reads_0 rfl (lv_at hl 0 rfl) ?_
  refine lv_iconst (v := (nI 0)) hx hb dX6_reads_1 (by decide) ?_
  refine n_put (ci := 6) (v := .int (nI 0)) (C := RX6) (T := TX6) (N := 18) (ws' := (wR kA qr cc ac co ad rc nm st an svm cnt tx len th xf xt xs xa xw xc xk xp 0 wr xm mny)) hx hb hts hinX6 tyX6 tyX6_ok nmX6 hown hK hP hD hS 0 rfl rfl 14 rfl ⟨rfl, rfl, rfl, rfl⟩ f193 rfl rfl rfl rfl dX6_reads_2 (fun H locs hP hD hS => ?_)
  refine lv_aload_n hx hb dX6_reads_5 rfl (lv_at hl 0 rfl) ?_
  refine lv_iconst (v := (oI none)) hx hb dX6_reads_6 (by decide) ?_
  refine n_put (ci := 6) (v := .int (oI none)) (C := RX6) (T := TX6) (N := 18) (ws' := (wR kA qr cc ac co ad rc nm st an svm cnt tx len th xf xt xs xa xw xc xk xp 0 none xm mny)) hx hb hts hinX6 tyX6 tyX6_ok nmX6 hown hK hP hD hS 0 rfl rfl 15 rfl ⟨rfl, rfl, rfl, rfl⟩ f196 rfl rfl rfl rfl dX6_reads_7 (fun H locs hP hD hS => ?_)
  refine lv_aload_n hx hb dX6_reads_10 rfl (lv_at hl 0 rfl) ?_
  refine lv_iconst (v := (nI 0)) hx hb dX6_reads_11 (by decide) ?_
  refine n_put (ci := 6) (v := .int (nI 0)) (C := RX6) (T := TX6) (N := 18) (ws' := (wR kA qr cc ac co ad rc nm st an svm cnt tx len th xf xt xs xa xw xc xk xp 0 none xm 0)) hx hb hts hinX6 tyX6 tyX6_ok nmX6 hown hK hP hD hS 0 rfl rfl 17 rfl ⟨rfl, rfl, rfl, rfl⟩ f230 rfl rfl rfl rfl dX6_reads_12 (fun H locs hP hD hS => ?_)
  refine lv_aload_n hx hb dX6_reads_15 rfl (lv_at hl 0 rfl) ?_
  refine n_wVv (b := qr 0) (As := []) (rest := []) (wr := []) (ws' := fun u => (wR kA qr cc ac co ad rc nm st an svm cnt tx len th xf xt xs xa xw xc xk xp (skpF tx len 150 0) none xm 0)) hS0 (c_X6_skips lQ D kA qr cc ac co ad rc nm st an svm cnt tx len th xf xt xs xa xw xc xk xp 0 none xm 0 H.size (by first | assumption | omega) (by first | assumption | omega) (by first | assumption | omega)) (cwV 0 hts gX6_reads_X6_skips rfl rfl rfl (by decide +kernel) ⟨Nat.le_of_ble_eq_true rfl, Nat.le_of_ble_eq_true rfl⟩) hP hD hS hA hK hK (by simpa only [List.append_assoc, List.append_nil] using (List.Perm.of_eq (List.append_nil _).symm)) (fun u => List.Perm.symm (by simpa only [List.append_assoc, List.append_nil] using (List.Perm.of_eq (List.append_nil _).symm))) (q0 := 0) rfl rfl rfl rfl rfl hl.1 (Nat.le_of_ble_eq_true rfl) dX6_reads_16 ⟨Nat.le_refl _, Nat.le_refl _⟩ (fun u16 H locs h16 hP hD hS => ?_)
  have hP : va_P D vwCl (wR kA qr cc ac co ad rc nm st an svm cnt tx len th xf xt xs xa xw xc xk xp (skpF tx len 150 0) none xm 0) H := hP
  have hD : va_D A (wR kA qr cc ac co ad rc nm st an svm cnt tx len th xf xt xs xa xw xc xk xp (skpF tx len 150 0) none xm 0) := hD
  have L19 : ∀ (nQ : Nat) (wrx : Option Nat) (p : Nat) (n : Nat) (xmx : Nat → Nat), cond wrx.isNone (1 + len - p) 0 < nQ → (wrx = none → p = psF tx len ac cc n ∧ ffF tx len ac cc 150 (skpF tx len 150 0) = ffF tx len ac cc (150 - n) (psF tx len ac cc n) ∧ cmL xmx tx len ac cc n ∧ 4 * n ≤ p ∧ p ≤ len) → (∀ q, wrx = some q → ffF tx len ac cc 150 (skpF tx len 150 0) = some q) → (p ≤ 600) → ∀ (H : Heap) (locs : List Loc), va_P D vwCl (wR kA qr cc ac co ad rc nm st an svm cnt tx len th xf xt xs xa xw xc xk xp p wrx xmx n) H → va_D A (wR kA qr cc ac co ad rc nm st an svm cnt tx len th xf xt xs xa xw xc xk xp p wrx xmx n) → va_S A s.heap H locs → ∀ (ls : Array Slot), lv_has ls 1 [(0, .ref (qr 0))] → W pQ lQ eQ (headSpec wsX6_reads (rmN 5 113)).room s mQ ([.ref (qr 0)] : List Value).toArray below meth cQ H locs 0 0 (MQ below (va_Qv (S := Nat × (Option Nat) × Nat × (Nat → Nat)) (fun (u : Nat × (Option Nat) × Nat × (Nat → Nat)) => (∀ q, u.2.1 = some q → ffF tx len ac cc 150 (skpF tx len 150 0) = some q) ∧ (u.2.1 = none → ffF tx len ac cc 150 (skpF tx len 150 0) = none ∧ cmL u.2.2.2 tx len ac cc u.2.2.1 ∧ len ≤ psF tx len ac cc u.2.2.1 ∧ u.2.2.1 < 40)) (wr_B D vwCl (wR kA qr cc ac co ad rc nm st an svm cnt tx len th xf xt xs xa xw xc xk xp pt wr xm mny) (tyK kA) s.heap.size (fun u => (wR kA qr cc ac co ad rc nm st an svm cnt tx len th xf xt xs xa xw xc xk xp u.1 u.2.1 u.2.2.2 u.2.2.1))) A) ([.ref (qr 0)] : List Value).toArray s 0 0 A) (F0 mQ 19 ls []) := by
    intro nQ
    induction nQ with
    | zero => intro wrx p n xmx hn; exact absurd hn (Nat.not_lt_zero _)
    | succ nQ ih19 =>
      intro wrx p n xmx hm19 hi1 hi2 hi3 H locs hP hD hS ls hl
      refine lv_aload_n hx hb dX6_reads_19 rfl (lv_at hl 0 rfl) ?_
      refine n_get (ci := 6) (v := .int (oI wrx)) (C := RX6) (T := TX6) (N := 18) hx hb hts hinX6 hown hK hP 0 rfl rfl 15 rfl ⟨rfl, rfl, rfl⟩ f196 rfl dX6_reads_20 ?_
      refine lv_iconst (v := (oI none)) hx hb dX6_reads_23 (by decide) ?_
      refine n_icmpo_ne (o := wrx) (tgt := 49) hx hb (fun q h => by have := ffF_le (skpF_le (Nat.zero_le _)) (hi2 q h); omega) dX6_reads_24 (by decide) (fun q24 c24 => ?_) (fun c24 => ?_)
      · have hfz : (wrx : Option Nat) = none → ffF tx len ac cc 150 (skpF tx len 150 0) = none ∧ cmL xmx tx len ac cc n ∧ len ≤ psF tx len ac cc n ∧ n < 40 := fun h => by
          have h0 : wrx = none := by first | exact h | exact c24
          obtain ⟨k1, k2, k3, k4, k5⟩ := hi1 h0
          have hle : len ≤ p := by first | exact c35 | (rw [h0] at c24; cases c24)
          rw [k1] at hle k4 k5
          exact ⟨by rw [k2, ffF_e hle], k3, hle, by omega⟩
        exact n_wretv hx hb hr hlocks (post := fun (u : Nat × (Option Nat) × Nat × (Nat → Nat)) => (∀ q, u.2.1 = some q → ffF tx len ac cc 150 (skpF tx len 150 0) = some q) ∧ (u.2.1 = none → ffF tx len ac cc 150 (skpF tx len 150 0) = none ∧ cmL u.2.2.2 tx len ac cc u.2.2.1 ∧ len ≤ psF tx len ac cc u.2.2.1 ∧ u.2.2.1 < 40)) (w1 := fun u => (wR kA qr cc ac co ad rc nm st an svm cnt tx len th xf xt xs xa xw xc xk xp u.1 u.2.1 u.2.2.2 u.2.2.1)) (p, wrx, n, xmx) ⟨(by first | exact hi2 | exact (fun q h => by cases h)), hfz⟩ hP hD hK hS hAe dX6_reads_49
      · rw [c24] at hP hD
        obtain ⟨g1, g2, g3, g4, g5⟩ := hi1 c24
        refine lv_aload_n hx hb dX6_reads_27 rfl (lv_at hl 0 rfl) ?_
        refine n_get (ci := 6) (v := .int (nI p)) (C := RX6) (T := TX6) (N := 18) hx hb hts hinX6 hown hK hP 0 rfl rfl 14 rfl ⟨rfl, rfl, rfl⟩ f193 rfl dX6_reads_28 ?_
        refine lv_aload_n hx hb dX6_reads_31 rfl (lv_at hl 0 rfl) ?_
        refine n_get (ci := 6) (v := .int (nI len)) (C := RX6) (T := TX6) (N := 18) hx hb hts hinX6 hown hK hP 0 rfl rfl 4 rfl ⟨rfl, rfl, rfl⟩ f178 rfl dX6_reads_32 ?_
        refine n_icmp_ge (a := p) (b := len) (tgt := 49) hx hb (by omega) (by omega) dX6_reads_35 (by decide) (fun c35 => ?_) (fun c35 => ?_)
        · have hfz : (none : Option Nat) = none → ffF tx len ac cc 150 (skpF tx len 150 0) = none ∧ cmL xmx tx len ac cc n ∧ len ≤ psF tx len ac cc n ∧ n < 40 := fun h => by
            have h0 : wrx = none := by first | exact h | exact c24
            obtain ⟨k1, k2, k3, k4, k5⟩ := hi1 h0
            have hle : len ≤ p := by first | exact c35 | (rw [h0] at c24; cases c24)
            rw [k1] at hle k4 k5
            exact ⟨by rw [k2, ffF_e hle], k3, hle, by omega⟩
          exact n_wretv hx hb hr hlocks (post := fun (u : Nat × (Option Nat) × Nat × (Nat → Nat)) => (∀ q, u.2.1 = some q → ffF tx len ac cc 150 (skpF tx len 150 0) = some q) ∧ (u.2.1 = none → ffF tx len ac cc 150 (skpF tx len 150 0) = none ∧ cmL u.2.2.2 tx len ac cc u.2.2.1 ∧ len ≤ psF tx len ac cc u.2.2.1 ∧ u.2.2.1 < 40)) (w1 := fun u => (wR kA qr cc ac co ad rc nm st an svm cnt tx len th xf xt xs xa xw xc xk xp u.1 u.2.1 u.2.2.2 u.2.2.1)) (p, none, n, xmx) ⟨(by first | exact hi2 | exact (fun q h => by cases h)), hfz⟩ hP hD hK hS hAe dX6_reads_49
        · refine lv_aload_n hx hb dX6_reads_38 rfl (lv_at hl 0 rfl) ?_
          refine n_wVv (b := qr 0) (As := []) (rest := []) (wr := []) (ws' := fun u => (wR kA qr cc ac co ad rc nm st an svm cnt tx len th xf xt xs xa xw xc xk xp u.1 u.2.1 u.2.2.2 u.2.2.1)) hS0 (c_X6_command lQ D kA qr cc ac co ad rc nm st an svm cnt tx len th xf xt xs xa xw xc xk xp p none xmx n H.size (by first | assumption | omega) (by first | assumption | omega) (by first | assumption | omega) rfl (by first | assumption | omega) (by first | assumption | omega) g4) (cwV 0 hts gX6_reads_X6_command rfl rfl rfl (by decide +kernel) ⟨Nat.le_of_ble_eq_true rfl, Nat.le_of_ble_eq_true rfl⟩) hP hD hS hA hK hK (by simpa only [List.append_assoc, List.append_nil] using (List.Perm.of_eq (List.append_nil _).symm)) (fun u => List.Perm.symm (by simpa only [List.append_assoc, List.append_nil] using (List.Perm.of_eq (List.append_nil _).symm))) (q0 := 0) rfl rfl rfl rfl rfl hl.1 (Nat.le_of_ble_eq_true rfl) dX6_reads_39 ⟨Nat.le_refl _, Nat.le_refl _⟩ (fun u39 H locs h39 hP hD hS => ?_)
          obtain ⟨pt9_39, wr9_39, mny9_39, xm9_39⟩ := u39
          obtain ⟨h39_1, h39_2⟩ := h39
          try dsimp only at h39_1 h39_2
          have hP : va_P D vwCl (wR kA qr cc ac co ad rc nm st an svm cnt tx len th xf xt xs xa xw xc xk xp pt9_39 wr9_39 xm9_39 mny9_39) H := hP
          have hD : va_D A (wR kA qr cc ac co ad rc nm st an svm cnt tx len th xf xt xs xa xw xc xk xp pt9_39 wr9_39 xm9_39 mny9_39) := hD
          skip
          refine lv_aload_n hx hb dX6_reads_42 rfl (lv_at hl 0 rfl) ?_
          refine n_wVv (b := qr 0) (As := []) (rest := []) (wr := []) (ws' := fun u => (wR kA qr cc ac co ad rc nm st an svm cnt tx len th xf xt xs xa xw xc xk xp (skpF tx len 150 pt9_39) wr9_39 xm9_39 mny9_39)) hS0 (c_X6_skips lQ D kA qr cc ac co ad rc nm st an svm cnt tx len th xf xt xs xa xw xc xk xp pt9_39 wr9_39 xm9_39 mny9_39 H.size (by first | assumption | omega) (by first | assumption | omega) (by first | assumption | omega)) (cwV 0 hts gX6_reads_X6_skips rfl rfl rfl (by decide +kernel) ⟨Nat.le_of_ble_eq_true rfl, Nat.le_of_ble_eq_true rfl⟩) hP hD hS hA hK hK (by simpa only [List.append_assoc, List.append_nil] using (List.Perm.of_eq (List.append_nil _).symm)) (fun u => List.Perm.symm (by simpa only [List.append_assoc, List.append_nil] using (List.Perm.of_eq (List.append_nil _).symm))) (q0 := 0) rfl rfl rfl rfl rfl hl.1 (Nat.le_of_ble_eq_true rfl) dX6_reads_43 ⟨Nat.le_refl _, Nat.le_refl _⟩ (fun u43 H locs h43 hP hD hS => ?_)
          have hP : va_P D vwCl (wR kA qr cc ac co ad rc nm st an svm cnt tx len th xf xt xs xa xw xc xk xp (skpF tx len 150 pt9_39) wr9_39 xm9_39 mny9_39) H := hP
          have hD : va_D A (wR kA qr cc ac co ad rc nm st an svm cnt tx len th xf xt xs xa xw xc xk xp (skpF tx len 150 pt9_39) wr9_39 xm9_39 mny9_39) := hD
          refine lv_goto (tgt := 19) hx hb dX6_reads_46 (by decide) ?_
          have hst9 : (wr9_39 = none → skpF tx len 150 pt9_39 = psF tx len ac cc mny9_39 ∧ ffF tx len ac cc 150 (skpF tx len 150 0) = ffF tx len ac cc (150 - mny9_39) (psF tx len ac cc mny9_39) ∧ cmL xm9_39 tx len ac cc mny9_39 ∧ 4 * mny9_39 ≤ skpF tx len 150 pt9_39 ∧ skpF tx len 150 pt9_39 ≤ len ∧ p < skpF tx len 150 pt9_39) ∧ (∀ q, wr9_39 = some q → ffF tx len ac cc 150 (skpF tx len 150 0) = some q) := by
            rcases h39_1 with ⟨k1, k2, k3, k4, k5⟩ | ⟨k1, k2, k3, k4⟩
            · refine ⟨fun _ => ?_, (fun q h => by rw [k2] at h; cases h)⟩
              have ha := rcP_adv k1
              have hg := skpF_ge (tx := tx) (len := len) (n := 150) (p := (rcP tx len ac cc p).2)
              rw [k3, k4, k5]
              refine ⟨by rw [g1]; rfl, ?_, ?_, by omega, skpF_le (rcP_le (Nat.le_of_lt c35)), by omega⟩
              · rw [g2, ← g1, show 150 - n = (150 - (n + 1)) + 1 by omega, ffF_g (by omega) k1]
                show _ = ffF tx len ac cc (150 - (n + 1)) (skpF tx len 150 (rcP tx len ac cc (psF tx len ac cc n)).2)
                rw [← g1]
              · rw [g1] at k1 ⊢
                exact cmL_s g3 (by rw [← g1]; exact c35) k1
            · refine ⟨(fun h => by rw [k2] at h; cases h), fun q h => ?_⟩
              rw [k2] at h
              rw [g2, ← g1, show 150 - n = (150 - (n + 1)) + 1 by omega, ffF_b (by omega) k1]
              exact h
          exact ih19 wr9_39 (skpF tx len 150 pt9_39) mny9_39 xm9_39 (by have h8 : cond wrx.isNone (1 + len - p) 0 = 1 + len - p := (by rw [c24]; rfl); rw [h8] at hm19; cases h9 : wr9_39 with | none => (have h7 := (hst9.1 h9).2.2.2.2; show 1 + len - skpF tx len 150 pt9_39 < nQ; omega) | some q => (show 0 < nQ; omega)) (fun h => ⟨(hst9.1 h).1, (hst9.1 h).2.1, (hst9.1 h).2.2.1, (hst9.1 h).2.2.2.1, (hst9.1 h).2.2.2.2.1⟩) hst9.2 (by have := skpF_le2 (tx := tx) (len := len) (n := 150) (p := pt9_39); omega) _ _ hP hD hS _ (lv_sub hl [0] rfl)
  exact L19 ((cond none.isNone (1 + len - (skpF tx len 150 0)) 0) + 1) none (skpF tx len 150 0) 0 xm (Nat.lt_succ_self _) (fun _ => ⟨rfl, rfl, (fun i hi => absurd hi (Nat.not_lt_zero _)), Nat.zero_le _, skpF_le (Nat.zero_le _)⟩) (fun q h => by cases h) (by have := skpF_le (tx := tx) (len := len) (n := 150) (Nat.zero_le len); omega) _ _ hP hD hS _ (lv_sub hl [0] rfl)

set_option maxHeartbeats 4000000 in
set_option maxRecDepth 100000 in
theorem c_X6_does (lQ : Launch) (D : va_G) (kA : Nat → ClassId) (qr : Nat → Nat) (cc : Nat) (ac : Nat → Nat) (co : Nat → Nat) (ad : Nat) (rc : Nat) (nm : Nat → Nat) (st : Nat → Nat) (an : Nat → Nat) (svm : Nat → TCt) (cnt : Nat) (tx : Nat → Nat) (len : Nat) (th : Nat) (xf : Nat → Option Nat) (xt : Nat → Nat) (xs : Nat → Option Nat) (xa : Nat → Nat) (xw : Nat → Nat) (xc : Nat → Nat) (xk : Nat → Option Nat) (xp : Nat → Nat) (pt : Nat) (wr : Option Nat) (xm : Nat → Nat) (mny : Nat) (wd : Nat) (a : Nat) (b : Nat) (k9 : Nat) (sz : Nat) (hcc : cc ≤ 5) (hrc : rc ≤ 20) (han : ∀ j, j < rc → an j < 11) (hst : ∀ j, j < rc → st j < 1048576) (hk9 : k9 < 4) (hwd : wd = kwF k9) : Met lQ yX6_does wsX6_does (rmN 4 88) (wr_Pc D vwCl [.ref (qr 0), .int (nI wd), .int (nI a), .int (nI b)] (wR kA qr cc ac co ad rc nm st an svm cnt tx len th xf xt xs xa xw xc xk xp pt wr xm mny) (tyK kA) sz) (va_Qi (S := Unit) (fun (r : Int32) (u : Unit) => r = (bI ((doF cc ad rc nm st an k9 a a b).1))) (wr_B D vwCl (wR kA qr cc ac co ad rc nm st an svm cnt tx len th xf xt xs xa xw xc xk xp pt wr xm mny) (tyK kA) sz (fun u => (wR kA qr cc ac co ((doF cc ad rc nm st an k9 a a b).2.1) ((doF cc ad rc nm st an k9 a a b).2.2.1) ((doF cc ad rc nm st an k9 a a b).2.2.2.1) ((doF cc ad rc nm st an k9 a a b).2.2.2.2.1) ((doF cc ad rc nm st an k9 a a b).2.2.2.2.2) svm cnt tx len th xf xt xs xa xw xc xk xp pt wr xm mny))) (va_A (wR kA qr cc ac co ad rc nm st an svm cnt tx len th xf xt xs xa xw xc xk xp pt wr xm mny) sz)) 0 0 (va_A (wR kA qr cc ac co ad rc nm st an svm cnt tx len th xf xt xs xa xw xc xk xp pt wr xm mny) sz) := by
  refine Met.ofW (cc := cX6_does) (maxL := 5) (ret := (some .boolean)) (by decide) rfl ?_
  intro pQ eQ s mQ args below meth cQ s₁ B hml hv
  obtain ⟨rfl, hsz, hP, hK, hD0⟩ := hv
  have hx := B.exec
  have hb := B.bytes
  have hr := B.returns
  have hts := atoms_spec (ws := wsX6_does) B.pre
  have hown : s.vm.findClass RX6 = some mQ.cls := findClass_of_methodNamed B.named
  have hlocks : meth.locks = false := B.notSynchronized
  have hS0 : CallFix pQ mQ cQ cX6_does 5 s ([.ref (qr 0), .int (nI wd), .int (nI a), .int (nI b)] : List Value).toArray wsX6_does RX6 := ⟨hx, hb, hml, hown, hts⟩
  subst hsz
  have hD := hD0.self (sz := s.heap.size)
  generalize hAe : va_A (wR kA qr cc ac co ad rc nm st an svm cnt tx len th xf xt xs xa xw xc xk xp pt wr xm mny) s.heap.size = A at hD ⊢
  have hA : ∀ q : Nat, s.heap.size ≤ q → A q := fun q h => by rw [← hAe]; exact Or.inr h
  have hS : va_S A s.heap s.heap [] := va_S.rf
  have k220 : (Cond.constant RX6 220 (nI 13813989)).before ([.ref (qr 0), .int (nI wd), .int (nI a), .int (nI b)] : List Value).toArray s = true := hts _ (by decide +kernel)
  have f7 : (Cond.fieldLink RX6 7 "AskedRulesModel" "now" "[I").before ([.ref (qr 0), .int (nI wd), .int (nI a), .int (nI b)] : List Value).toArray s = true := hts _ (by decide +kernel)
  have hinX6 : ∀ w ∈ wsX60, w ∈ wsX6_does := by decide +kernel
  have hl := lv_entry ([.ref (qr 0), .int (nI wd), .int (nI a), .int (nI b)]) (n := 5) (Nat.le_of_ble_eq_true rfl)
  rw [lg_entry_eq]
  generalize (lg_sl ([.ref (qr 0), .int (nI wd), .int (nI a), .int (nI b)]) ++ List.replicate (5 - (lg_sl ([.ref (qr 0), .int (nI wd), .int (nI a), .int (nI b)])).length) Slot.unset).toArray = ls at hl ⊢
  have hl : lv_has ls 5 [(0, .ref (qr 0)), (1, .int (nI wd)), (2, .int (nI a)), (3, .int (nI b))] := hl
  have hP : va_P D vwCl (wR kA qr cc ac co ad rc nm st an svm cnt tx len th xf xt xs xa xw xc xk xp pt wr xm mny) s.heap := hP
  have hD : va_D A (wR kA qr cc ac co ad rc nm st an svm cnt tx len th xf xt xs xa xw xc xk xp pt wr xm mny) := hD
  obtain ⟨hw0, hw3, hw2, hwlt⟩ := kw_all k9 hk9
  rw [← hwd] at hw0 hw3 hw2 hwlt
  refine lv_iload_n hx hb dX6_does_0 rfl (lv_at hl 1 rfl) ?_
  refine lv_sipush (v := (nI 294)) hx hb dX6_does_1 (by decide) ?_
  refine n_icmp_ne (a := wd) (b := 294) (tgt := 29) hx hb (by omega) (by omega) dX6_does_4 (by decide) (fun c4 => ?_) (fun c4 => ?_)
  · refine lv_iload_n hx hb dX6_does_29 rfl (lv_at hl 1 rfl) ?_
    refine lv_ldc (v := (nI 13813989)) hx hb hown k220 dX6_does_30 ?_
    refine n_icmp_ne (a := wd) (b := 13813989) (tgt := 42) hx hb (by omega) (by omega) dX6_does_32 (by decide) (fun c32 => ?_) (fun c32 => ?_)
    · refine lv_aload_n hx hb dX6_does_42 rfl (lv_at hl 0 rfl) ?_
      refine lv_iload_n hx hb dX6_does_43 rfl (lv_at hl 2 rfl) ?_
      refine n_cV (b := qr 0) (As := [.int (nI a)]) (rest := []) (wc := (wR kA qr cc ac co ad rc nm st an svm cnt tx len th xf xt xs xa xw xc xk xp pt wr xm mny)) hS0 (c_X6_placeOf lQ D kA qr cc ac co ad rc nm st an svm cnt tx len th xf xt xs xa xw xc xk xp pt wr xm mny (nI a) (by first | assumption | omega)) (cwV 1 hts gX6_does_X6_placeOf rfl rfl rfl (by decide +kernel) ⟨Nat.le_of_ble_eq_true rfl, Nat.le_of_ble_eq_true rfl⟩) hP hK (q0 := 0) rfl rfl rfl rfl rfl hl.1 (Nat.le_of_ble_eq_true rfl) dX6_does_44 ⟨Nat.le_refl _, Nat.le_refl _⟩ (fun r44 h44 => ?_)
      subst h44
      refine lv_istore (lv' := [(4, .int (oI (placeF nm (nI a) rc))), (0, .ref (qr 0)), (1, .int (nI wd)), (2, .int (nI a)), (3, .int (nI b))]) hx hb dX6_does_47 hl (by decide) rfl (fun ls hl => ?_)
      refine lv_iload hx hb dX6_does_49 (lv_at hl 0 rfl) ?_
      refine lv_iconst (v := (oI none)) hx hb dX6_does_51 (by decide) ?_
      refine n_icmpo_eq (o := placeF nm (nI a) rc) (tgt := 67) hx hb (fun q h => by have := placeF_lt h; omega) dX6_does_52 (by decide) (fun c52 => ?_) (fun q52 c52 => ?_)
      · have hl : lv_has ls 5 [(4, .int (oI none)), (0, .ref (qr 0)), (1, .int (nI wd)), (2, .int (nI a)), (3, .int (nI b))] := by rw [c52] at hl; exact hl
        refine lv_iconst (v := (nI 0)) hx hb dX6_does_67 (by decide) ?_
        have e9 : doF cc ad rc nm st an k9 a a b = (false, ad, rc, nm, st, an) := by
          unfold doF
          first
          | (rw [if_neg (show ¬ k9 = 3 by omega), if_neg (show ¬ k9 = 0 by omega), c52]; done)
          | (rw [if_neg (show ¬ k9 = 3 by omega), if_neg (show ¬ k9 = 0 by omega), c52]; show (if k9 = 1 then _ else if _ = 0 then _ else _) = _; rw [if_neg (show ¬ k9 = 1 by omega), if_pos c64])
        have hP : va_P D vwCl (wR kA qr cc ac co ((doF cc ad rc nm st an k9 a a b).2.1) ((doF cc ad rc nm st an k9 a a b).2.2.1) ((doF cc ad rc nm st an k9 a a b).2.2.2.1) ((doF cc ad rc nm st an k9 a a b).2.2.2.2.1) ((doF cc ad rc nm st an k9 a a b).2.2.2.2.2) svm cnt tx len th xf xt xs xa xw xc xk xp pt wr xm mny) s.heap := by rw [e9]; exact hP
        have hD : va_D A (wR kA qr cc ac co ((doF cc ad rc nm st an k9 a a b).2.1) ((doF cc ad rc nm st an k9 a a b).2.2.1) ((doF cc ad rc nm st an k9 a a b).2.2.2.1) ((doF cc ad rc nm st an k9 a a b).2.2.2.2.1) ((doF cc ad rc nm st an k9 a a b).2.2.2.2.2) svm cnt tx len th xf xt xs xa xw xc xk xp pt wr xm mny) := by rw [e9]; exact hD
        have hP : va_P D vwCl (wR kA qr cc ac co ((doF cc ad rc nm st an k9 a a b).2.1) ((doF cc ad rc nm st an k9 a a b).2.2.1) ((doF cc ad rc nm st an k9 a a b).2.2.2.1) ((doF cc ad rc nm st an k9 a a b).2.2.2.2.1) ((doF cc ad rc nm st an k9 a a b).2.2.2.2.2) svm cnt tx len th xf xt xs xa xw xc xk xp pt wr xm mny) s.heap := hP
        have hD : va_D A (wR kA qr cc ac co ((doF cc ad rc nm st an k9 a a b).2.1) ((doF cc ad rc nm st an k9 a a b).2.2.1) ((doF cc ad rc nm st an k9 a a b).2.2.2.1) ((doF cc ad rc nm st an k9 a a b).2.2.2.2.1) ((doF cc ad rc nm st an k9 a a b).2.2.2.2.2) svm cnt tx len th xf xt xs xa xw xc xk xp pt wr xm mny) := hD
        exact n_wretz hx hb hr hlocks (post := fun (r : Int32) (u : Unit) => r = (bI ((doF cc ad rc nm st an k9 a a b).1))) (w1 := fun u => (wR kA qr cc ac co ((doF cc ad rc nm st an k9 a a b).2.1) ((doF cc ad rc nm st an k9 a a b).2.2.1) ((doF cc ad rc nm st an k9 a a b).2.2.2.1) ((doF cc ad rc nm st an k9 a a b).2.2.2.2.1) ((doF cc ad rc nm st an k9 a a b).2.2.2.2.2) svm cnt tx len th xf xt xs xa xw xc xk xp pt wr xm mny)) rfl () (by rw [e9]; rfl) hP hD hK hS hAe dX6_does_68
      · have hl : lv_has ls 5 [(4, .int (nI q52)), (0, .ref (qr 0)), (1, .int (nI wd)), (2, .int (nI a)), (3, .int (nI b))] := by rw [c52] at hl; exact hl
        have hq9 := placeF_lt c52
        refine lv_iload_n hx hb dX6_does_55 rfl (lv_at hl 2 rfl) ?_
        refine lv_sipush (v := (nI 688)) hx hb dX6_does_56 (by decide) ?_
        refine n_icmp_ne (a := wd) (b := 688) (tgt := 69) hx hb (by omega) (by omega) dX6_does_59 (by decide) (fun c59 => ?_) (fun c59 => ?_)
        · refine lv_iload_n hx hb dX6_does_69 rfl (lv_at hl 2 rfl) ?_
          refine lv_sipush (v := (nI 688)) hx hb dX6_does_70 (by decide) ?_
          refine n_icmp_ne (a := wd) (b := 688) (tgt := 85) hx hb (by omega) (by omega) dX6_does_73 (by decide) (fun c73 => ?_) (fun c73 => ?_)
          · refine lv_aload_n hx hb dX6_does_85 rfl (lv_at hl 1 rfl) ?_
            refine lv_iload hx hb dX6_does_86 (lv_at hl 0 rfl) ?_
            refine n_wVv (b := qr 0) (As := [.int (nI q52)]) (rest := []) (wr := []) (ws' := fun u => (wR kA qr cc ac co ad (rc - 1) (shifF nm q52 rc) (shifF st q52 rc) (shifF an q52 rc) svm cnt tx len th xf xt xs xa xw xc xk xp pt wr xm mny)) hS0 (c_X6_drops lQ D kA qr cc ac co ad rc nm st an svm cnt tx len th xf xt xs xa xw xc xk xp pt wr xm mny q52 s.heap.size (by first | assumption | omega) (by first | assumption | omega)) (cwV 1 hts gX6_does_X6_drops rfl rfl rfl (by decide +kernel) ⟨Nat.le_of_ble_eq_true rfl, Nat.le_of_ble_eq_true rfl⟩) hP hD hS hA hK hK (by simpa only [List.append_assoc, List.append_nil] using (List.Perm.of_eq (List.append_nil _).symm)) (fun u => List.Perm.symm (by simpa only [List.append_assoc, List.append_nil] using (List.Perm.of_eq (List.append_nil _).symm))) (q0 := 0) rfl rfl rfl rfl rfl hl.1 (Nat.le_of_ble_eq_true rfl) dX6_does_88 ⟨Nat.le_refl _, Nat.le_refl _⟩ (fun u88 H locs h88 hP hD hS => ?_)
            have hP : va_P D vwCl (wR kA qr cc ac co ad (rc - 1) (shifF nm q52 rc) (shifF st q52 rc) (shifF an q52 rc) svm cnt tx len th xf xt xs xa xw xc xk xp pt wr xm mny) H := hP
            have hD : va_D A (wR kA qr cc ac co ad (rc - 1) (shifF nm q52 rc) (shifF st q52 rc) (shifF an q52 rc) svm cnt tx len th xf xt xs xa xw xc xk xp pt wr xm mny) := hD
            refine lv_iconst (v := (nI 1)) hx hb dX6_does_91 (by decide) ?_
            have e9 : doF cc ad rc nm st an k9 a a b = (true, ad, (rc - 1), (shifF nm q52 rc), (shifF st q52 rc), (shifF an q52 rc)) := by
              unfold doF
              first
              | (rw [if_neg (show ¬ k9 = 3 by omega), if_neg (show ¬ k9 = 0 by omega), c52]; show (if k9 = 1 then _ else if _ = 0 then _ else _) = _; rw [if_neg (show ¬ k9 = 1 by omega), if_neg (by omega)]; done)
              | (rw [if_neg (show ¬ k9 = 3 by omega), if_neg (show ¬ k9 = 0 by omega), c52]; show (if k9 = 1 then _ else if _ = 0 then _ else _) = _; rw [if_pos (show k9 = 1 by omega)]; done)
            have hP : va_P D vwCl (wR kA qr cc ac co ((doF cc ad rc nm st an k9 a a b).2.1) ((doF cc ad rc nm st an k9 a a b).2.2.1) ((doF cc ad rc nm st an k9 a a b).2.2.2.1) ((doF cc ad rc nm st an k9 a a b).2.2.2.2.1) ((doF cc ad rc nm st an k9 a a b).2.2.2.2.2) svm cnt tx len th xf xt xs xa xw xc xk xp pt wr xm mny) H := by rw [e9]; exact hP
            have hD : va_D A (wR kA qr cc ac co ((doF cc ad rc nm st an k9 a a b).2.1) ((doF cc ad rc nm st an k9 a a b).2.2.1) ((doF cc ad rc nm st an k9 a a b).2.2.2.1) ((doF cc ad rc nm st an k9 a a b).2.2.2.2.1) ((doF cc ad rc nm st an k9 a a b).2.2.2.2.2) svm cnt tx len th xf xt xs xa xw xc xk xp pt wr xm mny) := by rw [e9]; exact hD
            have hP : va_P D vwCl (wR kA qr cc ac co ((doF cc ad rc nm st an k9 a a b).2.1) ((doF cc ad rc nm st an k9 a a b).2.2.1) ((doF cc ad rc nm st an k9 a a b).2.2.2.1) ((doF cc ad rc nm st an k9 a a b).2.2.2.2.1) ((doF cc ad rc nm st an k9 a a b).2.2.2.2.2) svm cnt tx len th xf xt xs xa xw xc xk xp pt wr xm mny) H := hP
            have hD : va_D A (wR kA qr cc ac co ((doF cc ad rc nm st an k9 a a b).2.1) ((doF cc ad rc nm st an k9 a a b).2.2.1) ((doF cc ad rc nm st an k9 a a b).2.2.2.1) ((doF cc ad rc nm st an k9 a a b).2.2.2.2.1) ((doF cc ad rc nm st an k9 a a b).2.2.2.2.2) svm cnt tx len th xf xt xs xa xw xc xk xp pt wr xm mny) := hD
            exact n_wretz hx hb hr hlocks (post := fun (r : Int32) (u : Unit) => r = (bI ((doF cc ad rc nm st an k9 a a b).1))) (w1 := fun u => (wR kA qr cc ac co ((doF cc ad rc nm st an k9 a a b).2.1) ((doF cc ad rc nm st an k9 a a b).2.2.1) ((doF cc ad rc nm st an k9 a a b).2.2.2.1) ((doF cc ad rc nm st an k9 a a b).2.2.2.2.1) ((doF cc ad rc nm st an k9 a a b).2.2.2.2.2) svm cnt tx len th xf xt xs xa xw xc xk xp pt wr xm mny)) rfl () (by rw [e9]; rfl) hP hD hK hS hAe dX6_does_92
          · refine lv_aload_n hx hb dX6_does_76 rfl (lv_at hl 1 rfl) ?_
            refine lv_iload hx hb dX6_does_77 (lv_at hl 0 rfl) ?_
            refine n_wVv (b := qr 0) (As := [.int (nI q52)]) (rest := []) (wr := []) (ws' := fun u => (wR kA qr cc ac co ad rc (liftF nm q52) (liftF st q52) (liftF an q52) svm cnt tx len th xf xt xs xa xw xc xk xp pt wr xm mny)) hS0 (c_X6_ups lQ D kA qr cc ac co ad rc nm st an svm cnt tx len th xf xt xs xa xw xc xk xp pt wr xm mny q52 s.heap.size (by first | assumption | omega) (by first | assumption | omega)) (cwV 1 hts gX6_does_X6_ups rfl rfl rfl (by decide +kernel) ⟨Nat.le_of_ble_eq_true rfl, Nat.le_of_ble_eq_true rfl⟩) hP hD hS hA hK hK (by simpa only [List.append_assoc, List.append_nil] using (List.Perm.of_eq (List.append_nil _).symm)) (fun u => List.Perm.symm (by simpa only [List.append_assoc, List.append_nil] using (List.Perm.of_eq (List.append_nil _).symm))) (q0 := 0) rfl rfl rfl rfl rfl hl.1 (Nat.le_of_ble_eq_true rfl) dX6_does_79 ⟨Nat.le_refl _, Nat.le_refl _⟩ (fun u79 H locs h79 hP hD hS => ?_)
            have hP : va_P D vwCl (wR kA qr cc ac co ad rc (liftF nm q52) (liftF st q52) (liftF an q52) svm cnt tx len th xf xt xs xa xw xc xk xp pt wr xm mny) H := hP
            have hD : va_D A (wR kA qr cc ac co ad rc (liftF nm q52) (liftF st q52) (liftF an q52) svm cnt tx len th xf xt xs xa xw xc xk xp pt wr xm mny) := hD
            refine lv_goto (tgt := 91) hx hb dX6_does_82 (by decide) ?_
            refine lv_iconst (v := (nI 1)) hx hb dX6_does_91 (by decide) ?_
            have e9 : doF cc ad rc nm st an k9 a a b = (true, ad, rc, (liftF nm q52), (liftF st q52), (liftF an q52)) := by
              unfold doF
              first
              | (rw [if_neg (show ¬ k9 = 3 by omega), if_neg (show ¬ k9 = 0 by omega), c52]; show (if k9 = 1 then _ else if _ = 0 then _ else _) = _; rw [if_neg (show ¬ k9 = 1 by omega), if_neg (by omega)]; done)
              | (rw [if_neg (show ¬ k9 = 3 by omega), if_neg (show ¬ k9 = 0 by omega), c52]; show (if k9 = 1 then _ else if _ = 0 then _ else _) = _; rw [if_pos (show k9 = 1 by omega)]; done)
            have hP : va_P D vwCl (wR kA qr cc ac co ((doF cc ad rc nm st an k9 a a b).2.1) ((doF cc ad rc nm st an k9 a a b).2.2.1) ((doF cc ad rc nm st an k9 a a b).2.2.2.1) ((doF cc ad rc nm st an k9 a a b).2.2.2.2.1) ((doF cc ad rc nm st an k9 a a b).2.2.2.2.2) svm cnt tx len th xf xt xs xa xw xc xk xp pt wr xm mny) H := by rw [e9]; exact hP
            have hD : va_D A (wR kA qr cc ac co ((doF cc ad rc nm st an k9 a a b).2.1) ((doF cc ad rc nm st an k9 a a b).2.2.1) ((doF cc ad rc nm st an k9 a a b).2.2.2.1) ((doF cc ad rc nm st an k9 a a b).2.2.2.2.1) ((doF cc ad rc nm st an k9 a a b).2.2.2.2.2) svm cnt tx len th xf xt xs xa xw xc xk xp pt wr xm mny) := by rw [e9]; exact hD
            have hP : va_P D vwCl (wR kA qr cc ac co ((doF cc ad rc nm st an k9 a a b).2.1) ((doF cc ad rc nm st an k9 a a b).2.2.1) ((doF cc ad rc nm st an k9 a a b).2.2.2.1) ((doF cc ad rc nm st an k9 a a b).2.2.2.2.1) ((doF cc ad rc nm st an k9 a a b).2.2.2.2.2) svm cnt tx len th xf xt xs xa xw xc xk xp pt wr xm mny) H := hP
            have hD : va_D A (wR kA qr cc ac co ((doF cc ad rc nm st an k9 a a b).2.1) ((doF cc ad rc nm st an k9 a a b).2.2.1) ((doF cc ad rc nm st an k9 a a b).2.2.2.1) ((doF cc ad rc nm st an k9 a a b).2.2.2.2.1) ((doF cc ad rc nm st an k9 a a b).2.2.2.2.2) svm cnt tx len th xf xt xs xa xw xc xk xp pt wr xm mny) := hD
            exact n_wretz hx hb hr hlocks (post := fun (r : Int32) (u : Unit) => r = (bI ((doF cc ad rc nm st an k9 a a b).1))) (w1 := fun u => (wR kA qr cc ac co ((doF cc ad rc nm st an k9 a a b).2.1) ((doF cc ad rc nm st an k9 a a b).2.2.1) ((doF cc ad rc nm st an k9 a a b).2.2.2.1) ((doF cc ad rc nm st an k9 a a b).2.2.2.2.1) ((doF cc ad rc nm st an k9 a a b).2.2.2.2.2) svm cnt tx len th xf xt xs xa xw xc xk xp pt wr xm mny)) rfl () (by rw [e9]; rfl) hP hD hK hS hAe dX6_does_92
        · refine lv_iload hx hb dX6_does_62 (lv_at hl 0 rfl) ?_
          refine n_if_ne (a := q52) (tgt := 69) hx hb (by omega) dX6_does_64 (by decide) (fun c64 => ?_) (fun c64 => ?_)
          · refine lv_iload_n hx hb dX6_does_69 rfl (lv_at hl 2 rfl) ?_
            refine lv_sipush (v := (nI 688)) hx hb dX6_does_70 (by decide) ?_
            refine n_icmp_ne (a := wd) (b := 688) (tgt := 85) hx hb (by omega) (by omega) dX6_does_73 (by decide) (fun c73 => ?_) (fun c73 => ?_)
            · refine lv_aload_n hx hb dX6_does_85 rfl (lv_at hl 1 rfl) ?_
              refine lv_iload hx hb dX6_does_86 (lv_at hl 0 rfl) ?_
              refine n_wVv (b := qr 0) (As := [.int (nI q52)]) (rest := []) (wr := []) (ws' := fun u => (wR kA qr cc ac co ad (rc - 1) (shifF nm q52 rc) (shifF st q52 rc) (shifF an q52 rc) svm cnt tx len th xf xt xs xa xw xc xk xp pt wr xm mny)) hS0 (c_X6_drops lQ D kA qr cc ac co ad rc nm st an svm cnt tx len th xf xt xs xa xw xc xk xp pt wr xm mny q52 s.heap.size (by first | assumption | omega) (by first | assumption | omega)) (cwV 1 hts gX6_does_X6_drops rfl rfl rfl (by decide +kernel) ⟨Nat.le_of_ble_eq_true rfl, Nat.le_of_ble_eq_true rfl⟩) hP hD hS hA hK hK (by simpa only [List.append_assoc, List.append_nil] using (List.Perm.of_eq (List.append_nil _).symm)) (fun u => List.Perm.symm (by simpa only [List.append_assoc, List.append_nil] using (List.Perm.of_eq (List.append_nil _).symm))) (q0 := 0) rfl rfl rfl rfl rfl hl.1 (Nat.le_of_ble_eq_true rfl) dX6_does_88 ⟨Nat.le_refl _, Nat.le_refl _⟩ (fun u88 H locs h88 hP hD hS => ?_)
              have hP : va_P D vwCl (wR kA qr cc ac co ad (rc - 1) (shifF nm q52 rc) (shifF st q52 rc) (shifF an q52 rc) svm cnt tx len th xf xt xs xa xw xc xk xp pt wr xm mny) H := hP
              have hD : va_D A (wR kA qr cc ac co ad (rc - 1) (shifF nm q52 rc) (shifF st q52 rc) (shifF an q52 rc) svm cnt tx len th xf xt xs xa xw xc xk xp pt wr xm mny) := hD
              refine lv_iconst (v := (nI 1)) hx hb dX6_does_91 (by decide) ?_
              have e9 : doF cc ad rc nm st an k9 a a b = (true, ad, (rc - 1), (shifF nm q52 rc), (shifF st q52 rc), (shifF an q52 rc)) := by
                unfold doF
                first
                | (rw [if_neg (show ¬ k9 = 3 by omega), if_neg (show ¬ k9 = 0 by omega), c52]; show (if k9 = 1 then _ else if _ = 0 then _ else _) = _; rw [if_neg (show ¬ k9 = 1 by omega), if_neg (by omega)]; done)
                | (rw [if_neg (show ¬ k9 = 3 by omega), if_neg (show ¬ k9 = 0 by omega), c52]; show (if k9 = 1 then _ else if _ = 0 then _ else _) = _; rw [if_pos (show k9 = 1 by omega)]; done)
              have hP : va_P D vwCl (wR kA qr cc ac co ((doF cc ad rc nm st an k9 a a b).2.1) ((doF cc ad rc nm st an k9 a a b).2.2.1) ((doF cc ad rc nm st an k9 a a b).2.2.2.1) ((doF cc ad rc nm st an k9 a a b).2.2.2.2.1) ((doF cc ad rc nm st an k9 a a b).2.2.2.2.2) svm cnt tx len th xf xt xs xa xw xc xk xp pt wr xm mny) H := by rw [e9]; exact hP
              have hD : va_D A (wR kA qr cc ac co ((doF cc ad rc nm st an k9 a a b).2.1) ((doF cc ad rc nm st an k9 a a b).2.2.1) ((doF cc ad rc nm st an k9 a a b).2.2.2.1) ((doF cc ad rc nm st an k9 a a b).2.2.2.2.1) ((doF cc ad rc nm st an k9 a a b).2.2.2.2.2) svm cnt tx len th xf xt xs xa xw xc xk xp pt wr xm mny) := by rw [e9]; exact hD
              have hP : va_P D vwCl (wR kA qr cc ac co ((doF cc ad rc nm st an k9 a a b).2.1) ((doF cc ad rc nm st an k9 a a b).2.2.1) ((doF cc ad rc nm st an k9 a a b).2.2.2.1) ((doF cc ad rc nm st an k9 a a b).2.2.2.2.1) ((doF cc ad rc nm st an k9 a a b).2.2.2.2.2) svm cnt tx len th xf xt xs xa xw xc xk xp pt wr xm mny) H := hP
              have hD : va_D A (wR kA qr cc ac co ((doF cc ad rc nm st an k9 a a b).2.1) ((doF cc ad rc nm st an k9 a a b).2.2.1) ((doF cc ad rc nm st an k9 a a b).2.2.2.1) ((doF cc ad rc nm st an k9 a a b).2.2.2.2.1) ((doF cc ad rc nm st an k9 a a b).2.2.2.2.2) svm cnt tx len th xf xt xs xa xw xc xk xp pt wr xm mny) := hD
              exact n_wretz hx hb hr hlocks (post := fun (r : Int32) (u : Unit) => r = (bI ((doF cc ad rc nm st an k9 a a b).1))) (w1 := fun u => (wR kA qr cc ac co ((doF cc ad rc nm st an k9 a a b).2.1) ((doF cc ad rc nm st an k9 a a b).2.2.1) ((doF cc ad rc nm st an k9 a a b).2.2.2.1) ((doF cc ad rc nm st an k9 a a b).2.2.2.2.1) ((doF cc ad rc nm st an k9 a a b).2.2.2.2.2) svm cnt tx len th xf xt xs xa xw xc xk xp pt wr xm mny)) rfl () (by rw [e9]; rfl) hP hD hK hS hAe dX6_does_92
            · refine lv_aload_n hx hb dX6_does_76 rfl (lv_at hl 1 rfl) ?_
              refine lv_iload hx hb dX6_does_77 (lv_at hl 0 rfl) ?_
              refine n_wVv (b := qr 0) (As := [.int (nI q52)]) (rest := []) (wr := []) (ws' := fun u => (wR kA qr cc ac co ad rc (liftF nm q52) (liftF st q52) (liftF an q52) svm cnt tx len th xf xt xs xa xw xc xk xp pt wr xm mny)) hS0 (c_X6_ups lQ D kA qr cc ac co ad rc nm st an svm cnt tx len th xf xt xs xa xw xc xk xp pt wr xm mny q52 s.heap.size (by first | assumption | omega) (by first | assumption | omega)) (cwV 1 hts gX6_does_X6_ups rfl rfl rfl (by decide +kernel) ⟨Nat.le_of_ble_eq_true rfl, Nat.le_of_ble_eq_true rfl⟩) hP hD hS hA hK hK (by simpa only [List.append_assoc, List.append_nil] using (List.Perm.of_eq (List.append_nil _).symm)) (fun u => List.Perm.symm (by simpa only [List.append_assoc, List.append_nil] using (List.Perm.of_eq (List.append_nil _).symm))) (q0 := 0) rfl rfl rfl rfl rfl hl.1 (Nat.le_of_ble_eq_true rfl) dX6_does_79 ⟨Nat.le_refl _, Nat.le_refl _⟩ (fun u79 H locs h79 hP hD hS => ?_)
              have hP : va_P D vwCl (wR kA qr cc ac co ad rc (liftF nm q52) (liftF st q52) (liftF an q52) svm cnt tx len th xf xt xs xa xw xc xk xp pt wr xm mny) H := hP
              have hD : va_D A (wR kA qr cc ac co ad rc (liftF nm q52) (liftF st q52) (liftF an q52) svm cnt tx len th xf xt xs xa xw xc xk xp pt wr xm mny) := hD
              refine lv_goto (tgt := 91) hx hb dX6_does_82 (by decide) ?_
              refine lv_iconst (v := (nI 1)) hx hb dX6_does_91 (by decide) ?_
              have e9 : doF cc ad rc nm st an k9 a a b = (true, ad, rc, (liftF nm q52), (liftF st q52), (liftF an q52)) := by
                unfold doF
                first
                | (rw [if_neg (show ¬ k9 = 3 by omega), if_neg (show ¬ k9 = 0 by omega), c52]; show (if k9 = 1 then _ else if _ = 0 then _ else _) = _; rw [if_neg (show ¬ k9 = 1 by omega), if_neg (by omega)]; done)
                | (rw [if_neg (show ¬ k9 = 3 by omega), if_neg (show ¬ k9 = 0 by omega), c52]; show (if k9 = 1 then _ else if _ = 0 then _ else _) = _; rw [if_pos (show k9 = 1 by omega)]; done)
              have hP : va_P D vwCl (wR kA qr cc ac co ((doF cc ad rc nm st an k9 a a b).2.1) ((doF cc ad rc nm st an k9 a a b).2.2.1) ((doF cc ad rc nm st an k9 a a b).2.2.2.1) ((doF cc ad rc nm st an k9 a a b).2.2.2.2.1) ((doF cc ad rc nm st an k9 a a b).2.2.2.2.2) svm cnt tx len th xf xt xs xa xw xc xk xp pt wr xm mny) H := by rw [e9]; exact hP
              have hD : va_D A (wR kA qr cc ac co ((doF cc ad rc nm st an k9 a a b).2.1) ((doF cc ad rc nm st an k9 a a b).2.2.1) ((doF cc ad rc nm st an k9 a a b).2.2.2.1) ((doF cc ad rc nm st an k9 a a b).2.2.2.2.1) ((doF cc ad rc nm st an k9 a a b).2.2.2.2.2) svm cnt tx len th xf xt xs xa xw xc xk xp pt wr xm mny) := by rw [e9]; exact hD
              have hP : va_P D vwCl (wR kA qr cc ac co ((doF cc ad rc nm st an k9 a a b).2.1) ((doF cc ad rc nm st an k9 a a b).2.2.1) ((doF cc ad rc nm st an k9 a a b).2.2.2.1) ((doF cc ad rc nm st an k9 a a b).2.2.2.2.1) ((doF cc ad rc nm st an k9 a a b).2.2.2.2.2) svm cnt tx len th xf xt xs xa xw xc xk xp pt wr xm mny) H := hP
              have hD : va_D A (wR kA qr cc ac co ((doF cc ad rc nm st an k9 a a b).2.1) ((doF cc ad rc nm st an k9 a a b).2.2.1) ((doF cc ad rc nm st an k9 a a b).2.2.2.1) ((doF cc ad rc nm st an k9 a a b).2.2.2.2.1) ((doF cc ad rc nm st an k9 a a b).2.2.2.2.2) svm cnt tx len th xf xt xs xa xw xc xk xp pt wr xm mny) := hD
              exact n_wretz hx hb hr hlocks (post := fun (r : Int32) (u : Unit) => r = (bI ((doF cc ad rc nm st an k9 a a b).1))) (w1 := fun u => (wR kA qr cc ac co ((doF cc ad rc nm st an k9 a a b).2.1) ((doF cc ad rc nm st an k9 a a b).2.2.1) ((doF cc ad rc nm st an k9 a a b).2.2.2.1) ((doF cc ad rc nm st an k9 a a b).2.2.2.2.1) ((doF cc ad rc nm st an k9 a a b).2.2.2.2.2) svm cnt tx len th xf xt xs xa xw xc xk xp pt wr xm mny)) rfl () (by rw [e9]; rfl) hP hD hK hS hAe dX6_does_92
          · refine lv_iconst (v := (nI 0)) hx hb dX6_does_67 (by decide) ?_
            have e9 : doF cc ad rc nm st an k9 a a b = (false, ad, rc, nm, st, an) := by
              unfold doF
              first
              | (rw [if_neg (show ¬ k9 = 3 by omega), if_neg (show ¬ k9 = 0 by omega), c52]; done)
              | (rw [if_neg (show ¬ k9 = 3 by omega), if_neg (show ¬ k9 = 0 by omega), c52]; show (if k9 = 1 then _ else if _ = 0 then _ else _) = _; rw [if_neg (show ¬ k9 = 1 by omega), if_pos c64])
            have hP : va_P D vwCl (wR kA qr cc ac co ((doF cc ad rc nm st an k9 a a b).2.1) ((doF cc ad rc nm st an k9 a a b).2.2.1) ((doF cc ad rc nm st an k9 a a b).2.2.2.1) ((doF cc ad rc nm st an k9 a a b).2.2.2.2.1) ((doF cc ad rc nm st an k9 a a b).2.2.2.2.2) svm cnt tx len th xf xt xs xa xw xc xk xp pt wr xm mny) s.heap := by rw [e9]; exact hP
            have hD : va_D A (wR kA qr cc ac co ((doF cc ad rc nm st an k9 a a b).2.1) ((doF cc ad rc nm st an k9 a a b).2.2.1) ((doF cc ad rc nm st an k9 a a b).2.2.2.1) ((doF cc ad rc nm st an k9 a a b).2.2.2.2.1) ((doF cc ad rc nm st an k9 a a b).2.2.2.2.2) svm cnt tx len th xf xt xs xa xw xc xk xp pt wr xm mny) := by rw [e9]; exact hD
            have hP : va_P D vwCl (wR kA qr cc ac co ((doF cc ad rc nm st an k9 a a b).2.1) ((doF cc ad rc nm st an k9 a a b).2.2.1) ((doF cc ad rc nm st an k9 a a b).2.2.2.1) ((doF cc ad rc nm st an k9 a a b).2.2.2.2.1) ((doF cc ad rc nm st an k9 a a b).2.2.2.2.2) svm cnt tx len th xf xt xs xa xw xc xk xp pt wr xm mny) s.heap := hP
            have hD : va_D A (wR kA qr cc ac co ((doF cc ad rc nm st an k9 a a b).2.1) ((doF cc ad rc nm st an k9 a a b).2.2.1) ((doF cc ad rc nm st an k9 a a b).2.2.2.1) ((doF cc ad rc nm st an k9 a a b).2.2.2.2.1) ((doF cc ad rc nm st an k9 a a b).2.2.2.2.2) svm cnt tx len th xf xt xs xa xw xc xk xp pt wr xm mny) := hD
            exact n_wretz hx hb hr hlocks (post := fun (r : Int32) (u : Unit) => r = (bI ((doF cc ad rc nm st an k9 a a b).1))) (w1 := fun u => (wR kA qr cc ac co ((doF cc ad rc nm st an k9 a a b).2.1) ((doF cc ad rc nm st an k9 a a b).2.2.1) ((doF cc ad rc nm st an k9 a a b).2.2.2.1) ((doF cc ad rc nm st an k9 a a b).2.2.2.2.1) ((doF cc ad rc nm st an k9 a a b).2.2.2.2.2) svm cnt tx len th xf xt xs xa xw xc xk xp pt wr xm mny)) rfl () (by rw [e9]; rfl) hP hD hK hS hAe dX6_does_68
    · refine lv_aload_n hx hb dX6_does_35 rfl (lv_at hl 0 rfl) ?_
      refine n_wVi (b := qr 0) (As := []) (rest := []) (wr := []) (ws' := fun u => (wR kA qr cc ac co ad ((mgAll cc 20 rc nm st an).2.1) ((mgAll cc 20 rc nm st an).2.2.1) ((mgAll cc 20 rc nm st an).2.2.2.1) ((mgAll cc 20 rc nm st an).2.2.2.2) svm cnt tx len th xf xt xs xa xw xc xk xp pt wr xm mny)) hS0 (c_X6_mergesAll lQ D kA qr cc ac co ad rc nm st an svm cnt tx len th xf xt xs xa xw xc xk xp pt wr xm mny s.heap.size (by first | assumption | omega) (by first | assumption | omega) (by first | assumption | omega) (by first | assumption | omega)) (cwV 0 hts gX6_does_X6_mergesAll rfl rfl rfl (by decide +kernel) ⟨Nat.le_of_ble_eq_true rfl, Nat.le_of_ble_eq_true rfl⟩) hP hD hS hA hK hK (by simpa only [List.append_assoc, List.append_nil] using (List.Perm.of_eq (List.append_nil _).symm)) (fun u => List.Perm.symm (by simpa only [List.append_assoc, List.append_nil] using (List.Perm.of_eq (List.append_nil _).symm))) (q0 := 0) rfl rfl rfl rfl rfl hl.1 (Nat.le_of_ble_eq_true rfl) dX6_does_36 ⟨Nat.le_refl _, Nat.le_refl _⟩ (fun r36 u36 H locs h36 hP hD hS => ?_)
      subst h36
      have hP : va_P D vwCl (wR kA qr cc ac co ad ((mgAll cc 20 rc nm st an).2.1) ((mgAll cc 20 rc nm st an).2.2.1) ((mgAll cc 20 rc nm st an).2.2.2.1) ((mgAll cc 20 rc nm st an).2.2.2.2) svm cnt tx len th xf xt xs xa xw xc xk xp pt wr xm mny) H := hP
      have hD : va_D A (wR kA qr cc ac co ad ((mgAll cc 20 rc nm st an).2.1) ((mgAll cc 20 rc nm st an).2.2.1) ((mgAll cc 20 rc nm st an).2.2.2.1) ((mgAll cc 20 rc nm st an).2.2.2.2) svm cnt tx len th xf xt xs xa xw xc xk xp pt wr xm mny) := hD
      refine lv_pop hx hb dX6_does_39 rfl ?_
      refine lv_iconst (v := (nI 1)) hx hb dX6_does_40 (by decide) ?_
      have e9 : doF cc ad rc nm st an k9 a a b = (true, ad, ((mgAll cc 20 rc nm st an).2.1), ((mgAll cc 20 rc nm st an).2.2.1), ((mgAll cc 20 rc nm st an).2.2.2.1), ((mgAll cc 20 rc nm st an).2.2.2.2)) := by
        unfold doF
        rw [if_pos (hw3.mp c32)]
      have hP : va_P D vwCl (wR kA qr cc ac co ((doF cc ad rc nm st an k9 a a b).2.1) ((doF cc ad rc nm st an k9 a a b).2.2.1) ((doF cc ad rc nm st an k9 a a b).2.2.2.1) ((doF cc ad rc nm st an k9 a a b).2.2.2.2.1) ((doF cc ad rc nm st an k9 a a b).2.2.2.2.2) svm cnt tx len th xf xt xs xa xw xc xk xp pt wr xm mny) H := by rw [e9]; exact hP
      have hD : va_D A (wR kA qr cc ac co ((doF cc ad rc nm st an k9 a a b).2.1) ((doF cc ad rc nm st an k9 a a b).2.2.1) ((doF cc ad rc nm st an k9 a a b).2.2.2.1) ((doF cc ad rc nm st an k9 a a b).2.2.2.2.1) ((doF cc ad rc nm st an k9 a a b).2.2.2.2.2) svm cnt tx len th xf xt xs xa xw xc xk xp pt wr xm mny) := by rw [e9]; exact hD
      have hP : va_P D vwCl (wR kA qr cc ac co ((doF cc ad rc nm st an k9 a a b).2.1) ((doF cc ad rc nm st an k9 a a b).2.2.1) ((doF cc ad rc nm st an k9 a a b).2.2.2.1) ((doF cc ad rc nm st an k9 a a b).2.2.2.2.1) ((doF cc ad rc nm st an k9 a a b).2.2.2.2.2) svm cnt tx len th xf xt xs xa xw xc xk xp pt wr xm mny) H := hP
      have hD : va_D A (wR kA qr cc ac co ((doF cc ad rc nm st an k9 a a b).2.1) ((doF cc ad rc nm st an k9 a a b).2.2.1) ((doF cc ad rc nm st an k9 a a b).2.2.2.1) ((doF cc ad rc nm st an k9 a a b).2.2.2.2.1) ((doF cc ad rc nm st an k9 a a b).2.2.2.2.2) svm cnt tx len th xf xt xs xa xw xc xk xp pt wr xm mny) := hD
      exact n_wretz hx hb hr hlocks (post := fun (r : Int32) (u : Unit) => r = (bI ((doF cc ad rc nm st an k9 a a b).1))) (w1 := fun u => (wR kA qr cc ac co ((doF cc ad rc nm st an k9 a a b).2.1) ((doF cc ad rc nm st an k9 a a b).2.2.1) ((doF cc ad rc nm st an k9 a a b).2.2.2.1) ((doF cc ad rc nm st an k9 a a b).2.2.2.2.1) ((doF cc ad rc nm st an k9 a a b).2.2.2.2.2) svm cnt tx len th xf xt xs xa xw xc xk xp pt wr xm mny)) rfl () (by rw [e9]; rfl) hP hD hK hS hAe dX6_does_41
  · refine lv_aload_n hx hb dX6_does_7 rfl (lv_at hl 0 rfl) ?_
    refine n_get (ci := 6) (v := .ref (qr 1)) (C := RX6) (T := TX6) (N := 18) hx hb hts hinX6 hown hK hP 0 rfl rfl 0 rfl ⟨rfl, rfl, rfl⟩ f7 rfl dX6_does_8 ?_
    refine lv_iconst (v := (nI 1)) hx hb dX6_does_11 (by decide) ?_
    refine n_iald (i := 1) (v := (nI rc)) hx hb hK hP 1 0 rfl rfl (by omega) (Nat.le_of_ble_eq_true rfl) rfl dX6_does_12 ?_
    refine lv_bipush (v := (nI 20)) hx hb dX6_does_13 (by decide) ?_
    refine n_icmp_ge (a := rc) (b := 20) (tgt := 27) hx hb (by omega) (by omega) dX6_does_15 (by decide) (fun c15 => ?_) (fun c15 => ?_)
    · refine lv_iconst (v := (nI 0)) hx hb dX6_does_27 (by decide) ?_
      have e9 : doF cc ad rc nm st an k9 a a b = (false, ad, rc, nm, st, an) := by
        unfold doF
        rw [if_neg (show ¬ k9 = 3 by omega), if_pos (hw0.mp c4), if_pos (by omega)]
      have hP : va_P D vwCl (wR kA qr cc ac co ((doF cc ad rc nm st an k9 a a b).2.1) ((doF cc ad rc nm st an k9 a a b).2.2.1) ((doF cc ad rc nm st an k9 a a b).2.2.2.1) ((doF cc ad rc nm st an k9 a a b).2.2.2.2.1) ((doF cc ad rc nm st an k9 a a b).2.2.2.2.2) svm cnt tx len th xf xt xs xa xw xc xk xp pt wr xm mny) s.heap := by rw [e9]; exact hP
      have hD : va_D A (wR kA qr cc ac co ((doF cc ad rc nm st an k9 a a b).2.1) ((doF cc ad rc nm st an k9 a a b).2.2.1) ((doF cc ad rc nm st an k9 a a b).2.2.2.1) ((doF cc ad rc nm st an k9 a a b).2.2.2.2.1) ((doF cc ad rc nm st an k9 a a b).2.2.2.2.2) svm cnt tx len th xf xt xs xa xw xc xk xp pt wr xm mny) := by rw [e9]; exact hD
      have hP : va_P D vwCl (wR kA qr cc ac co ((doF cc ad rc nm st an k9 a a b).2.1) ((doF cc ad rc nm st an k9 a a b).2.2.1) ((doF cc ad rc nm st an k9 a a b).2.2.2.1) ((doF cc ad rc nm st an k9 a a b).2.2.2.2.1) ((doF cc ad rc nm st an k9 a a b).2.2.2.2.2) svm cnt tx len th xf xt xs xa xw xc xk xp pt wr xm mny) s.heap := hP
      have hD : va_D A (wR kA qr cc ac co ((doF cc ad rc nm st an k9 a a b).2.1) ((doF cc ad rc nm st an k9 a a b).2.2.1) ((doF cc ad rc nm st an k9 a a b).2.2.2.1) ((doF cc ad rc nm st an k9 a a b).2.2.2.2.1) ((doF cc ad rc nm st an k9 a a b).2.2.2.2.2) svm cnt tx len th xf xt xs xa xw xc xk xp pt wr xm mny) := hD
      exact n_wretz hx hb hr hlocks (post := fun (r : Int32) (u : Unit) => r = (bI ((doF cc ad rc nm st an k9 a a b).1))) (w1 := fun u => (wR kA qr cc ac co ((doF cc ad rc nm st an k9 a a b).2.1) ((doF cc ad rc nm st an k9 a a b).2.2.1) ((doF cc ad rc nm st an k9 a a b).2.2.2.1) ((doF cc ad rc nm st an k9 a a b).2.2.2.2.1) ((doF cc ad rc nm st an k9 a a b).2.2.2.2.2) svm cnt tx len th xf xt xs xa xw xc xk xp pt wr xm mny)) rfl () (by rw [e9]; rfl) hP hD hK hS hAe dX6_does_28
    · refine lv_aload_n hx hb dX6_does_18 rfl (lv_at hl 0 rfl) ?_
      refine lv_iload_n hx hb dX6_does_19 rfl (lv_at hl 2 rfl) ?_
      refine lv_iload_n hx hb dX6_does_20 rfl (lv_at hl 3 rfl) ?_
      refine n_wVi (b := qr 0) (As := [.int (nI a), .int (nI b)]) (rest := []) (wr := []) (ws' := fun u => (wR kA qr cc ac co (ad + 1) (rc + 1) (va_up nm rc ad) (va_up st rc a) (va_up an rc b) svm cnt tx len th xf xt xs xa xw xc xk xp pt wr xm mny)) hS0 (c_X6_adds lQ D kA qr cc ac co ad rc nm st an svm cnt tx len th xf xt xs xa xw xc xk xp pt wr xm mny a b s.heap.size (by first | assumption | omega)) (cwV 2 hts gX6_does_X6_adds rfl rfl rfl (by decide +kernel) ⟨Nat.le_of_ble_eq_true rfl, Nat.le_of_ble_eq_true rfl⟩) hP hD hS hA hK hK (by simpa only [List.append_assoc, List.append_nil] using (List.Perm.of_eq (List.append_nil _).symm)) (fun u => List.Perm.symm (by simpa only [List.append_assoc, List.append_nil] using (List.Perm.of_eq (List.append_nil _).symm))) (q0 := 0) rfl rfl rfl rfl rfl hl.1 (Nat.le_of_ble_eq_true rfl) dX6_does_21 ⟨Nat.le_refl _, Nat.le_refl _⟩ (fun r21 u21 H locs h21 hP hD hS => ?_)
      subst h21
      have hP : va_P D vwCl (wR kA qr cc ac co (ad + 1) (rc + 1) (va_up nm rc ad) (va_up st rc a) (va_up an rc b) svm cnt tx len th xf xt xs xa xw xc xk xp pt wr xm mny) H := hP
      have hD : va_D A (wR kA qr cc ac co (ad + 1) (rc + 1) (va_up nm rc ad) (va_up st rc a) (va_up an rc b) svm cnt tx len th xf xt xs xa xw xc xk xp pt wr xm mny) := hD
      refine lv_pop hx hb dX6_does_24 rfl ?_
      refine lv_iconst (v := (nI 1)) hx hb dX6_does_25 (by decide) ?_
      have e9 : doF cc ad rc nm st an k9 a a b = (true, (ad + 1), (rc + 1), (va_up nm rc ad), (va_up st rc a), (va_up an rc b)) := by
        unfold doF
        rw [if_neg (show ¬ k9 = 3 by omega), if_pos (hw0.mp c4), if_neg (by omega)]
      have hP : va_P D vwCl (wR kA qr cc ac co ((doF cc ad rc nm st an k9 a a b).2.1) ((doF cc ad rc nm st an k9 a a b).2.2.1) ((doF cc ad rc nm st an k9 a a b).2.2.2.1) ((doF cc ad rc nm st an k9 a a b).2.2.2.2.1) ((doF cc ad rc nm st an k9 a a b).2.2.2.2.2) svm cnt tx len th xf xt xs xa xw xc xk xp pt wr xm mny) H := by rw [e9]; exact hP
      have hD : va_D A (wR kA qr cc ac co ((doF cc ad rc nm st an k9 a a b).2.1) ((doF cc ad rc nm st an k9 a a b).2.2.1) ((doF cc ad rc nm st an k9 a a b).2.2.2.1) ((doF cc ad rc nm st an k9 a a b).2.2.2.2.1) ((doF cc ad rc nm st an k9 a a b).2.2.2.2.2) svm cnt tx len th xf xt xs xa xw xc xk xp pt wr xm mny) := by rw [e9]; exact hD
      have hP : va_P D vwCl (wR kA qr cc ac co ((doF cc ad rc nm st an k9 a a b).2.1) ((doF cc ad rc nm st an k9 a a b).2.2.1) ((doF cc ad rc nm st an k9 a a b).2.2.2.1) ((doF cc ad rc nm st an k9 a a b).2.2.2.2.1) ((doF cc ad rc nm st an k9 a a b).2.2.2.2.2) svm cnt tx len th xf xt xs xa xw xc xk xp pt wr xm mny) H := hP
      have hD : va_D A (wR kA qr cc ac co ((doF cc ad rc nm st an k9 a a b).2.1) ((doF cc ad rc nm st an k9 a a b).2.2.1) ((doF cc ad rc nm st an k9 a a b).2.2.2.1) ((doF cc ad rc nm st an k9 a a b).2.2.2.2.1) ((doF cc ad rc nm st an k9 a a b).2.2.2.2.2) svm cnt tx len th xf xt xs xa xw xc xk xp pt wr xm mny) := hD
      exact n_wretz hx hb hr hlocks (post := fun (r : Int32) (u : Unit) => r = (bI ((doF cc ad rc nm st an k9 a a b).1))) (w1 := fun u => (wR kA qr cc ac co ((doF cc ad rc nm st an k9 a a b).2.1) ((doF cc ad rc nm st an k9 a a b).2.2.1) ((doF cc ad rc nm st an k9 a a b).2.2.2.1) ((doF cc ad rc nm st an k9 a a b).2.2.2.2.1) ((doF cc ad rc nm st an k9 a a b).2.2.2.2.2) svm cnt tx len th xf xt xs xa xw xc xk xp pt wr xm mny)) rfl () (by rw [e9]; rfl) hP hD hK hS hAe dX6_does_26

set_option maxHeartbeats 4000000 in
set_option maxRecDepth 100000 in
theorem c_X6_runCommands (lQ : Launch) (D : va_G) (kA : Nat → ClassId) (qr : Nat → Nat) (cc : Nat) (ac : Nat → Nat) (co : Nat → Nat) (ad : Nat) (rc : Nat) (nm : Nat → Nat) (st : Nat → Nat) (an : Nat → Nat) (svm : Nat → TCt) (cnt : Nat) (tx : Nat → Nat) (len : Nat) (th : Nat) (xf : Nat → Option Nat) (xt : Nat → Nat) (xs : Nat → Option Nat) (xa : Nat → Nat) (xw : Nat → Nat) (xc : Nat → Nat) (xk : Nat → Option Nat) (xp : Nat → Nat) (pt : Nat) (wr : Option Nat) (xm : Nat → Nat) (mny : Nat) (sz : Nat) (hcc : cc ≤ 5) (hac : ∀ k, k < cc → 2 ≤ ac k ∧ ac k ≤ 4) (hrc : rc ≤ 20) (han : ∀ j, j < rc → an j < 11) (hst : ∀ j, j < rc → st j < 1048576) (hcn : cnt ≤ 4) (hlen : len ≤ 150) (htx : ∀ j, j < len → tx j < 128) : Met lQ yX6_runCommands wsX6_runCommands (rmN 6 133) (wr_Pc D vwCl [.ref (qr 0)] (wR kA qr cc ac co ad rc nm st an svm cnt tx len th xf xt xs xa xw xc xk xp pt wr xm mny) (tyK kA) sz) (va_Qi (S := Nat × (Nat → TCt) × Nat × Nat × (Nat → Nat) × (Nat → Nat) × (Nat → Nat) × Nat × (Option Nat) × Nat × (Nat → Nat)) (fun (r : Int32) (u : Nat × (Nat → TCt) × Nat × Nat × (Nat → Nat) × (Nat → Nat) × (Nat → Nat) × Nat × (Option Nat) × Nat × (Nat → Nat)) => (ffF tx len ac cc 150 (skpF tx len 150 0) = none → u.1 = cntF cnt ∧ u.2.1 = keepF cnt svm (cc, ac, co, ad, rc, nm, st, an) ∧ r = nI (runL tx len ac cc 150 (skpF tx len 150 0) (ad, rc, nm, st, an)).1 ∧ (u.2.2.1, u.2.2.2.1, u.2.2.2.2.1, u.2.2.2.2.2.1, u.2.2.2.2.2.2.1) = (runL tx len ac cc 150 (skpF tx len 150 0) (ad, rc, nm, st, an)).2) ∧ (∀ qf, ffF tx len ac cc 150 (skpF tx len 150 0) = some qf → u.1 = cnt ∧ u.2.1 = svm ∧ r = -10 - nI qf ∧ (u.2.2.1, u.2.2.2.1, u.2.2.2.2.1, u.2.2.2.2.2.1, u.2.2.2.2.2.2.1) = (ad, rc, nm, st, an))) (wr_B D vwCl (wR kA qr cc ac co ad rc nm st an svm cnt tx len th xf xt xs xa xw xc xk xp pt wr xm mny) (tyK kA) sz (fun u => (wR kA qr cc ac co u.2.2.1 u.2.2.2.1 u.2.2.2.2.1 u.2.2.2.2.2.1 u.2.2.2.2.2.2.1 u.2.1 u.1 tx len 0 xf xt xs xa xw xc xk xp u.2.2.2.2.2.2.2.1 u.2.2.2.2.2.2.2.2.1 u.2.2.2.2.2.2.2.2.2.2 u.2.2.2.2.2.2.2.2.2.1))) (va_A (wR kA qr cc ac co ad rc nm st an svm cnt tx len th xf xt xs xa xw xc xk xp pt wr xm mny) sz)) 0 0 (va_A (wR kA qr cc ac co ad rc nm st an svm cnt tx len th xf xt xs xa xw xc xk xp pt wr xm mny) sz) := by
  refine Met.ofW (cc := cX6_runCommands) (maxL := 2) (ret := (some .int)) (by decide) rfl ?_
  intro pQ eQ s mQ args below meth cQ s₁ B hml hv
  obtain ⟨rfl, hsz, hP, hK, hD0⟩ := hv
  have hx := B.exec
  have hb := B.bytes
  have hr := B.returns
  have hts := atoms_spec (ws := wsX6_runCommands) B.pre
  have hown : s.vm.findClass RX6 = some mQ.cls := findClass_of_methodNamed B.named
  have hlocks : meth.locks = false := B.notSynchronized
  have hS0 : CallFix pQ mQ cQ cX6_runCommands 2 s ([.ref (qr 0)] : List Value).toArray wsX6_runCommands RX6 := ⟨hx, hb, hml, hown, hts⟩
  subst hsz
  have hD := hD0.self (sz := s.heap.size)
  generalize hAe : va_A (wR kA qr cc ac co ad rc nm st an svm cnt tx len th xf xt xs xa xw xc xk xp pt wr xm mny) s.heap.size = A at hD ⊢
  have hA : ∀ q : Nat, s.heap.size ≤ q → A q := fun q h => by rw [← hAe]; exact Or.inr h
  have hS : va_S A s.heap s.heap [] := va_S.rf
  have f46 : (Cond.fieldLink RX6 46 "AskedRulesModel" "thrown" "I").before ([.ref (qr 0)] : List Value).toArray s = true := hts _ (by decide +kernel)
  have hinX6 : ∀ w ∈ wsX60, w ∈ wsX6_runCommands := by decide +kernel
  have f196 : (Cond.fieldLink RX6 196 "AskedRulesModel" "wrong" "I").before ([.ref (qr 0)] : List Value).toArray s = true := hts _ (by decide +kernel)
  have f230 : (Cond.fieldLink RX6 230 "AskedRulesModel" "many" "I").before ([.ref (qr 0)] : List Value).toArray s = true := hts _ (by decide +kernel)
  have f43 : (Cond.fieldLink RX6 43 "AskedRulesModel" "commands" "[I").before ([.ref (qr 0)] : List Value).toArray s = true := hts _ (by decide +kernel)
  have hl := lv_entry ([.ref (qr 0)]) (n := 2) (Nat.le_of_ble_eq_true rfl)
  rw [lg_entry_eq]
  generalize (lg_sl ([.ref (qr 0)]) ++ List.replicate (2 - (lg_sl ([.ref (qr 0)])).length) Slot.unset).toArray = ls at hl ⊢
  have hl : lv_has ls 2 [(0, .ref (qr 0))] := hl
  have hP : va_P D vwCl (wR kA qr cc ac co ad rc nm st an svm cnt tx len th xf xt xs xa xw xc xk xp pt wr xm mny) s.heap := hP
  have hD : va_D A (wR kA qr cc ac co ad rc nm st an svm cnt tx len th xf xt xs xa xw xc xk xp pt wr xm mny) := hD
  obtain ⟨R0, hR0⟩ : ∃ z, z = runL tx len ac cc 150 (skpF tx len 150 0) (ad, rc, nm, st, an) := ⟨_, rfl⟩
  have hac4 : ∀ j, j < cc → ac j ≤ 4 := fun j hj => (hac j hj).2
  refine lv_aload_n hx hb dX6_runCommands_0 rfl (lv_at hl 0 rfl) ?_
  refine lv_iconst (v := (nI 0)) hx hb dX6_runCommands_1 (by decide) ?_
  refine n_put (ci := 6) (v := .int (nI 0)) (C := RX6) (T := TX6) (N := 18) (ws' := (wR kA qr cc ac co ad rc nm st an svm cnt tx len 0 xf xt xs xa xw xc xk xp pt wr xm mny)) hx hb hts hinX6 tyX6 tyX6_ok nmX6 hown hK hP hD hS 0 rfl rfl 5 rfl ⟨rfl, rfl, rfl, rfl⟩ f46 rfl rfl rfl rfl dX6_runCommands_2 (fun H locs hP hD hS => ?_)
  refine lv_aload_n hx hb dX6_runCommands_5 rfl (lv_at hl 0 rfl) ?_
  refine n_wVv (b := qr 0) (As := []) (rest := []) (wr := []) (ws' := fun u => (wR kA qr cc ac co ad rc nm st an svm cnt tx len 0 xf xt xs xa xw xc xk xp u.1 u.2.1 u.2.2.2 u.2.2.1)) hS0 (c_X6_reads lQ D kA qr cc ac co ad rc nm st an svm cnt tx len 0 xf xt xs xa xw xc xk xp pt wr xm mny H.size (by first | assumption | omega) (by first | assumption | omega) (by first | assumption | omega) (by first | assumption | omega)) (cwV 0 hts gX6_runCommands_X6_reads rfl rfl rfl (by decide +kernel) ⟨Nat.le_of_ble_eq_true rfl, Nat.le_of_ble_eq_true rfl⟩) hP hD hS hA hK hK (by simpa only [List.append_assoc, List.append_nil] using (List.Perm.of_eq (List.append_nil _).symm)) (fun u => List.Perm.symm (by simpa only [List.append_assoc, List.append_nil] using (List.Perm.of_eq (List.append_nil _).symm))) (q0 := 0) rfl rfl rfl rfl rfl hl.1 (Nat.le_of_ble_eq_true rfl) dX6_runCommands_6 ⟨Nat.le_refl _, Nat.le_refl _⟩ (fun u6 H locs h6 hP hD hS => ?_)
  obtain ⟨pt9_6, wr9_6, mny9_6, xm9_6⟩ := u6
  obtain ⟨h6_1, h6_2⟩ := h6
  try dsimp only at h6_1 h6_2
  have hP : va_P D vwCl (wR kA qr cc ac co ad rc nm st an svm cnt tx len 0 xf xt xs xa xw xc xk xp pt9_6 wr9_6 xm9_6 mny9_6) H := hP
  have hD : va_D A (wR kA qr cc ac co ad rc nm st an svm cnt tx len 0 xf xt xs xa xw xc xk xp pt9_6 wr9_6 xm9_6 mny9_6) := hD
  refine lv_aload_n hx hb dX6_runCommands_9 rfl (lv_at hl 0 rfl) ?_
  refine n_get (ci := 6) (v := .int (oI wr9_6)) (C := RX6) (T := TX6) (N := 18) hx hb hts hinX6 hown hK hP 0 rfl rfl 15 rfl ⟨rfl, rfl, rfl⟩ f196 rfl dX6_runCommands_10 ?_
  refine lv_iconst (v := (oI none)) hx hb dX6_runCommands_13 (by decide) ?_
  refine n_icmpo_eq (o := wr9_6) (tgt := 25) hx hb (fun q h => by have := ffF_le (skpF_le (Nat.zero_le _)) (h6_1 q h); omega) dX6_runCommands_14 (by decide) (fun c14 => ?_) (fun q14 c14 => ?_)
  · obtain ⟨hr1, hr2, hr3, hr4⟩ := h6_2 c14
    refine lv_aload_n hx hb dX6_runCommands_25 rfl (lv_at hl 0 rfl) ?_
    refine n_wVv (b := qr 0) (As := []) (rest := []) (wr := []) (ws' := fun u => (wR kA qr cc ac co ad rc nm st an (keepF cnt svm (cc, ac, co, ad, rc, nm, st, an)) (cntF cnt) tx len 0 xf xt xs xa xw xc xk xp pt9_6 wr9_6 xm9_6 mny9_6)) hS0 (c_X6_keeps lQ D kA qr cc ac co ad rc nm st an svm cnt tx len 0 xf xt xs xa xw xc xk xp pt9_6 wr9_6 xm9_6 mny9_6 H.size (by first | assumption | omega)) (cwV 0 hts gX6_runCommands_X6_keeps rfl rfl rfl (by decide +kernel) ⟨Nat.le_of_ble_eq_true rfl, Nat.le_of_ble_eq_true rfl⟩) hP hD hS hA hK hK (by simpa only [List.append_assoc, List.append_nil] using (List.Perm.of_eq (List.append_nil _).symm)) (fun u => List.Perm.symm (by simpa only [List.append_assoc, List.append_nil] using (List.Perm.of_eq (List.append_nil _).symm))) (q0 := 0) rfl rfl rfl rfl rfl hl.1 (Nat.le_of_ble_eq_true rfl) dX6_runCommands_26 ⟨Nat.le_refl _, Nat.le_refl _⟩ (fun u26 H locs h26 hP hD hS => ?_)
    have hP : va_P D vwCl (wR kA qr cc ac co ad rc nm st an (keepF cnt svm (cc, ac, co, ad, rc, nm, st, an)) (cntF cnt) tx len 0 xf xt xs xa xw xc xk xp pt9_6 wr9_6 xm9_6 mny9_6) H := hP
    have hD : va_D A (wR kA qr cc ac co ad rc nm st an (keepF cnt svm (cc, ac, co, ad, rc, nm, st, an)) (cntF cnt) tx len 0 xf xt xs xa xw xc xk xp pt9_6 wr9_6 xm9_6 mny9_6) := hD
    refine lv_iconst (v := (nI 0)) hx hb dX6_runCommands_29 (by decide) ?_
    refine lv_istore_n (lv' := [(1, .int (nI 0)), (0, .ref (qr 0))]) hx hb dX6_runCommands_30 rfl hl (by decide) rfl (fun ls hl => ?_)
    have L31 : ∀ (nQ : Nat) (d : Nat) (adx : Nat) (rcx : Nat) (nmx : Nat → Nat) (stx : Nat → Nat) (anx : Nat → Nat), mny9_6 - d < nQ → (d ≤ mny9_6) → (rcx ≤ 20) → (∀ j, j < rcx → anx j < 11) → (∀ j, j < rcx → stx j < 1048576) → (R0 = ((runL tx len ac cc (150 - d) (psF tx len ac cc d) (adx, rcx, nmx, stx, anx)).1 + d, (runL tx len ac cc (150 - d) (psF tx len ac cc d) (adx, rcx, nmx, stx, anx)).2)) → ∀ (H : Heap) (locs : List Loc), va_P D vwCl (wR kA qr cc ac co adx rcx nmx stx anx (keepF cnt svm (cc, ac, co, ad, rc, nm, st, an)) (cntF cnt) tx len 0 xf xt xs xa xw xc xk xp pt9_6 wr9_6 xm9_6 mny9_6) H → va_D A (wR kA qr cc ac co adx rcx nmx stx anx (keepF cnt svm (cc, ac, co, ad, rc, nm, st, an)) (cntF cnt) tx len 0 xf xt xs xa xw xc xk xp pt9_6 wr9_6 xm9_6 mny9_6) → va_S A s.heap H locs → ∀ (ls : Array Slot), lv_has ls 2 [(1, .int (nI d)), (0, .ref (qr 0))] → W pQ lQ eQ (headSpec wsX6_runCommands (rmN 6 133)).room s mQ ([.ref (qr 0)] : List Value).toArray below meth cQ H locs 0 0 (MQ below (va_Qi (S := Nat × (Nat → TCt) × Nat × Nat × (Nat → Nat) × (Nat → Nat) × (Nat → Nat) × Nat × (Option Nat) × Nat × (Nat → Nat)) (fun (r : Int32) (u : Nat × (Nat → TCt) × Nat × Nat × (Nat → Nat) × (Nat → Nat) × (Nat → Nat) × Nat × (Option Nat) × Nat × (Nat → Nat)) => (ffF tx len ac cc 150 (skpF tx len 150 0) = none → u.1 = cntF cnt ∧ u.2.1 = keepF cnt svm (cc, ac, co, ad, rc, nm, st, an) ∧ r = nI (runL tx len ac cc 150 (skpF tx len 150 0) (ad, rc, nm, st, an)).1 ∧ (u.2.2.1, u.2.2.2.1, u.2.2.2.2.1, u.2.2.2.2.2.1, u.2.2.2.2.2.2.1) = (runL tx len ac cc 150 (skpF tx len 150 0) (ad, rc, nm, st, an)).2) ∧ (∀ qf, ffF tx len ac cc 150 (skpF tx len 150 0) = some qf → u.1 = cnt ∧ u.2.1 = svm ∧ r = -10 - nI qf ∧ (u.2.2.1, u.2.2.2.1, u.2.2.2.2.1, u.2.2.2.2.2.1, u.2.2.2.2.2.2.1) = (ad, rc, nm, st, an))) (wr_B D vwCl (wR kA qr cc ac co ad rc nm st an svm cnt tx len th xf xt xs xa xw xc xk xp pt wr xm mny) (tyK kA) s.heap.size (fun u => (wR kA qr cc ac co u.2.2.1 u.2.2.2.1 u.2.2.2.2.1 u.2.2.2.2.2.1 u.2.2.2.2.2.2.1 u.2.1 u.1 tx len 0 xf xt xs xa xw xc xk xp u.2.2.2.2.2.2.2.1 u.2.2.2.2.2.2.2.2.1 u.2.2.2.2.2.2.2.2.2.2 u.2.2.2.2.2.2.2.2.2.1))) A) ([.ref (qr 0)] : List Value).toArray s 0 0 A) (F0 mQ 31 ls []) := by
      intro nQ
      induction nQ with
      | zero => intro d adx rcx nmx stx anx hn; exact absurd hn (Nat.not_lt_zero _)
      | succ nQ ih31 =>
        intro d adx rcx nmx stx anx hm31 hd hrx hanx hstx hs H locs hP hD hS ls hl
        refine lv_iload_n hx hb dX6_runCommands_31 rfl (lv_at hl 0 rfl) ?_
        refine lv_aload_n hx hb dX6_runCommands_32 rfl (lv_at hl 1 rfl) ?_
        refine n_get (ci := 6) (v := .int (nI mny9_6)) (C := RX6) (T := TX6) (N := 18) hx hb hts hinX6 hown hK hP 0 rfl rfl 17 rfl ⟨rfl, rfl, rfl⟩ f230 rfl dX6_runCommands_33 ?_
        refine n_icmp_ge (a := d) (b := mny9_6) (tgt := 80) hx hb (by omega) (by omega) dX6_runCommands_36 (by decide) (fun c36 => ?_) (fun c36 => ?_)
        · refine lv_iload_n hx hb dX6_runCommands_80 rfl (lv_at hl 0 rfl) ?_
          have hz : R0 = (d, (adx, rcx, nmx, stx, anx)) := by
            have h0 : runL tx len ac cc (150 - d) (psF tx len ac cc d) (adx, rcx, nmx, stx, anx) = (0, (adx, rcx, nmx, stx, anx)) := by
              first
              | (have hdm : d = mny9_6 := by omega
                 exact runL_e (by rw [hdm]; exact hr3) _)
              | (rw [show 150 - d = (150 - (d + 1)) + 1 by omega, runL_d (by omega) e2 (by rw [← hdo9]; exact c71), ← hdo9])
            rw [hs, h0]
            exact Prod.ext (Nat.zero_add _) rfl
          exact n_wreti hx hb hr hlocks (post := fun (r : Int32) (u : Nat × (Nat → TCt) × Nat × Nat × (Nat → Nat) × (Nat → Nat) × (Nat → Nat) × Nat × (Option Nat) × Nat × (Nat → Nat)) => (ffF tx len ac cc 150 (skpF tx len 150 0) = none → u.1 = cntF cnt ∧ u.2.1 = keepF cnt svm (cc, ac, co, ad, rc, nm, st, an) ∧ r = nI (runL tx len ac cc 150 (skpF tx len 150 0) (ad, rc, nm, st, an)).1 ∧ (u.2.2.1, u.2.2.2.1, u.2.2.2.2.1, u.2.2.2.2.2.1, u.2.2.2.2.2.2.1) = (runL tx len ac cc 150 (skpF tx len 150 0) (ad, rc, nm, st, an)).2) ∧ (∀ qf, ffF tx len ac cc 150 (skpF tx len 150 0) = some qf → u.1 = cnt ∧ u.2.1 = svm ∧ r = -10 - nI qf ∧ (u.2.2.1, u.2.2.2.1, u.2.2.2.2.1, u.2.2.2.2.2.1, u.2.2.2.2.2.2.1) = (ad, rc, nm, st, an))) (w1 := fun u => (wR kA qr cc ac co u.2.2.1 u.2.2.2.1 u.2.2.2.2.1 u.2.2.2.2.2.1 u.2.2.2.2.2.2.1 u.2.1 u.1 tx len 0 xf xt xs xa xw xc xk xp u.2.2.2.2.2.2.2.1 u.2.2.2.2.2.2.2.2.1 u.2.2.2.2.2.2.2.2.2.2 u.2.2.2.2.2.2.2.2.2.1)) (cntF cnt, keepF cnt svm (cc, ac, co, ad, rc, nm, st, an), adx, rcx, nmx, stx, anx, pt9_6, wr9_6, mny9_6, xm9_6) ⟨(fun _ => ⟨rfl, rfl, (by rw [← hR0, hz]), (by rw [← hR0, hz])⟩), (fun qf h => by rw [hr1] at h; cases h)⟩ hP hD hK hS hAe dX6_runCommands_81
        · obtain ⟨e1, e2, e3, e4, e5⟩ := hr2 d c36
          have hdo9 : doF cc adx rcx nmx stx anx (cmK tx len (psF tx len ac cc d)) (xm9_6 (3 * d + 1)) (xm9_6 (3 * d + 1)) (xm9_6 (3 * d + 2)) = cmDo tx len ac cc (psF tx len ac cc d) (adx, rcx, nmx, stx, anx) := by rw [e4, e5]; exact cm_do e2 (adx, rcx, nmx, stx, anx)
          have hok9 := cmDo_ok (B := 11) (x := (adx, rcx, nmx, stx, anx)) (by decide) e2 hcc hac4 ⟨hrx, hanx, hstx⟩
          rw [← hdo9] at hok9
          refine lv_aload_n hx hb dX6_runCommands_39 rfl (lv_at hl 1 rfl) ?_
          refine lv_aload_n hx hb dX6_runCommands_40 rfl (lv_at hl 1 rfl) ?_
          refine n_get (ci := 6) (v := .ref (qr 12)) (C := RX6) (T := TX6) (N := 18) hx hb hts hinX6 hown hK hP 0 rfl rfl 16 rfl ⟨rfl, rfl, rfl⟩ f43 rfl dX6_runCommands_41 ?_
          refine lv_iconst (v := (nI 3)) hx hb dX6_runCommands_44 (by decide) ?_
          refine lv_iload_n hx hb dX6_runCommands_45 rfl (lv_at hl 0 rfl) ?_
          refine n_imul (v := (nI (3 * d))) hx hb (pk_mul _ _) dX6_runCommands_46 ?_
          refine n_iald (i := 3 * d) (v := (nI (xm9_6 (3 * d)))) hx hb hK hP 12 0 rfl rfl (by omega) (Nat.le_of_ble_eq_true rfl) rfl dX6_runCommands_47 ?_
          refine lv_aload_n hx hb dX6_runCommands_48 rfl (lv_at hl 1 rfl) ?_
          refine n_get (ci := 6) (v := .ref (qr 12)) (C := RX6) (T := TX6) (N := 18) hx hb hts hinX6 hown hK hP 0 rfl rfl 16 rfl ⟨rfl, rfl, rfl⟩ f43 rfl dX6_runCommands_49 ?_
          refine lv_iconst (v := (nI 3)) hx hb dX6_runCommands_52 (by decide) ?_
          refine lv_iload_n hx hb dX6_runCommands_53 rfl (lv_at hl 0 rfl) ?_
          refine n_imul (v := (nI (3 * d))) hx hb (pk_mul _ _) dX6_runCommands_54 ?_
          refine lv_iconst (v := (nI 1)) hx hb dX6_runCommands_55 (by decide) ?_
          refine n_iadd (v := (nI ((3 * d) + 1))) hx hb (nI_add _ _) dX6_runCommands_56 ?_
          refine n_iald (i := (3 * d) + 1) (v := (nI (xm9_6 ((3 * d) + 1)))) hx hb hK hP 12 0 rfl rfl (by omega) (Nat.le_of_ble_eq_true rfl) rfl dX6_runCommands_57 ?_
          refine lv_aload_n hx hb dX6_runCommands_58 rfl (lv_at hl 1 rfl) ?_
          refine n_get (ci := 6) (v := .ref (qr 12)) (C := RX6) (T := TX6) (N := 18) hx hb hts hinX6 hown hK hP 0 rfl rfl 16 rfl ⟨rfl, rfl, rfl⟩ f43 rfl dX6_runCommands_59 ?_
          refine lv_iconst (v := (nI 3)) hx hb dX6_runCommands_62 (by decide) ?_
          refine lv_iload_n hx hb dX6_runCommands_63 rfl (lv_at hl 0 rfl) ?_
          refine n_imul (v := (nI (3 * d))) hx hb (pk_mul _ _) dX6_runCommands_64 ?_
          refine lv_iconst (v := (nI 2)) hx hb dX6_runCommands_65 (by decide) ?_
          refine n_iadd (v := (nI ((3 * d) + 2))) hx hb (nI_add _ _) dX6_runCommands_66 ?_
          refine n_iald (i := (3 * d) + 2) (v := (nI (xm9_6 ((3 * d) + 2)))) hx hb hK hP 12 0 rfl rfl (by omega) (Nat.le_of_ble_eq_true rfl) rfl dX6_runCommands_67 ?_
          refine n_wVi (b := qr 0) (As := [.int (nI (xm9_6 (3 * d))), .int (nI (xm9_6 ((3 * d) + 1))), .int (nI (xm9_6 ((3 * d) + 2)))]) (rest := []) (wr := []) (ws' := fun u => (wR kA qr cc ac co ((doF cc adx rcx nmx stx anx (cmK tx len (psF tx len ac cc d)) (xm9_6 ((3 * d) + 1)) (xm9_6 ((3 * d) + 1)) (xm9_6 ((3 * d) + 2))).2.1) ((doF cc adx rcx nmx stx anx (cmK tx len (psF tx len ac cc d)) (xm9_6 ((3 * d) + 1)) (xm9_6 ((3 * d) + 1)) (xm9_6 ((3 * d) + 2))).2.2.1) ((doF cc adx rcx nmx stx anx (cmK tx len (psF tx len ac cc d)) (xm9_6 ((3 * d) + 1)) (xm9_6 ((3 * d) + 1)) (xm9_6 ((3 * d) + 2))).2.2.2.1) ((doF cc adx rcx nmx stx anx (cmK tx len (psF tx len ac cc d)) (xm9_6 ((3 * d) + 1)) (xm9_6 ((3 * d) + 1)) (xm9_6 ((3 * d) + 2))).2.2.2.2.1) ((doF cc adx rcx nmx stx anx (cmK tx len (psF tx len ac cc d)) (xm9_6 ((3 * d) + 1)) (xm9_6 ((3 * d) + 1)) (xm9_6 ((3 * d) + 2))).2.2.2.2.2) (keepF cnt svm (cc, ac, co, ad, rc, nm, st, an)) (cntF cnt) tx len 0 xf xt xs xa xw xc xk xp pt9_6 wr9_6 xm9_6 mny9_6)) hS0 (c_X6_does lQ D kA qr cc ac co adx rcx nmx stx anx (keepF cnt svm (cc, ac, co, ad, rc, nm, st, an)) (cntF cnt) tx len 0 xf xt xs xa xw xc xk xp pt9_6 wr9_6 xm9_6 mny9_6 (xm9_6 (3 * d)) (xm9_6 ((3 * d) + 1)) (xm9_6 ((3 * d) + 2)) (cmK tx len (psF tx len ac cc d)) H.size (by first | assumption | omega) (by first | assumption | omega) (by first | assumption | omega) (by first | assumption | omega) (cmK_lt e2) e3) (cwV 3 hts gX6_runCommands_X6_does rfl rfl rfl (by decide +kernel) ⟨Nat.le_of_ble_eq_true rfl, Nat.le_of_ble_eq_true rfl⟩) hP hD hS hA hK hK (by simpa only [List.append_assoc, List.append_nil] using (List.Perm.of_eq (List.append_nil _).symm)) (fun u => List.Perm.symm (by simpa only [List.append_assoc, List.append_nil] using (List.Perm.of_eq (List.append_nil _).symm))) (q0 := 0) rfl rfl rfl rfl rfl hl.1 (Nat.le_of_ble_eq_true rfl) dX6_runCommands_68 ⟨Nat.le_refl _, Nat.le_refl _⟩ (fun r68 u68 H locs h68 hP hD hS => ?_)
          subst h68
          have hP : va_P D vwCl (wR kA qr cc ac co ((doF cc adx rcx nmx stx anx (cmK tx len (psF tx len ac cc d)) (xm9_6 ((3 * d) + 1)) (xm9_6 ((3 * d) + 1)) (xm9_6 ((3 * d) + 2))).2.1) ((doF cc adx rcx nmx stx anx (cmK tx len (psF tx len ac cc d)) (xm9_6 ((3 * d) + 1)) (xm9_6 ((3 * d) + 1)) (xm9_6 ((3 * d) + 2))).2.2.1) ((doF cc adx rcx nmx stx anx (cmK tx len (psF tx len ac cc d)) (xm9_6 ((3 * d) + 1)) (xm9_6 ((3 * d) + 1)) (xm9_6 ((3 * d) + 2))).2.2.2.1) ((doF cc adx rcx nmx stx anx (cmK tx len (psF tx len ac cc d)) (xm9_6 ((3 * d) + 1)) (xm9_6 ((3 * d) + 1)) (xm9_6 ((3 * d) + 2))).2.2.2.2.1) ((doF cc adx rcx nmx stx anx (cmK tx len (psF tx len ac cc d)) (xm9_6 ((3 * d) + 1)) (xm9_6 ((3 * d) + 1)) (xm9_6 ((3 * d) + 2))).2.2.2.2.2) (keepF cnt svm (cc, ac, co, ad, rc, nm, st, an)) (cntF cnt) tx len 0 xf xt xs xa xw xc xk xp pt9_6 wr9_6 xm9_6 mny9_6) H := hP
          have hD : va_D A (wR kA qr cc ac co ((doF cc adx rcx nmx stx anx (cmK tx len (psF tx len ac cc d)) (xm9_6 ((3 * d) + 1)) (xm9_6 ((3 * d) + 1)) (xm9_6 ((3 * d) + 2))).2.1) ((doF cc adx rcx nmx stx anx (cmK tx len (psF tx len ac cc d)) (xm9_6 ((3 * d) + 1)) (xm9_6 ((3 * d) + 1)) (xm9_6 ((3 * d) + 2))).2.2.1) ((doF cc adx rcx nmx stx anx (cmK tx len (psF tx len ac cc d)) (xm9_6 ((3 * d) + 1)) (xm9_6 ((3 * d) + 1)) (xm9_6 ((3 * d) + 2))).2.2.2.1) ((doF cc adx rcx nmx stx anx (cmK tx len (psF tx len ac cc d)) (xm9_6 ((3 * d) + 1)) (xm9_6 ((3 * d) + 1)) (xm9_6 ((3 * d) + 2))).2.2.2.2.1) ((doF cc adx rcx nmx stx anx (cmK tx len (psF tx len ac cc d)) (xm9_6 ((3 * d) + 1)) (xm9_6 ((3 * d) + 1)) (xm9_6 ((3 * d) + 2))).2.2.2.2.2) (keepF cnt svm (cc, ac, co, ad, rc, nm, st, an)) (cntF cnt) tx len 0 xf xt xs xa xw xc xk xp pt9_6 wr9_6 xm9_6 mny9_6) := hD
          refine n_ifb_eq (b := (doF cc adx rcx nmx stx anx (cmK tx len (psF tx len ac cc d)) (xm9_6 ((3 * d) + 1)) (xm9_6 ((3 * d) + 1)) (xm9_6 ((3 * d) + 2))).1) (tgt := 80) hx hb dX6_runCommands_71 (by decide) (fun c71 => ?_) (fun c71 => ?_)
          · refine lv_iload_n hx hb dX6_runCommands_80 rfl (lv_at hl 0 rfl) ?_
            have hz : R0 = (d, (((doF cc adx rcx nmx stx anx (cmK tx len (psF tx len ac cc d)) (xm9_6 ((3 * d) + 1)) (xm9_6 ((3 * d) + 1)) (xm9_6 ((3 * d) + 2))).2.1), ((doF cc adx rcx nmx stx anx (cmK tx len (psF tx len ac cc d)) (xm9_6 ((3 * d) + 1)) (xm9_6 ((3 * d) + 1)) (xm9_6 ((3 * d) + 2))).2.2.1), ((doF cc adx rcx nmx stx anx (cmK tx len (psF tx len ac cc d)) (xm9_6 ((3 * d) + 1)) (xm9_6 ((3 * d) + 1)) (xm9_6 ((3 * d) + 2))).2.2.2.1), ((doF cc adx rcx nmx stx anx (cmK tx len (psF tx len ac cc d)) (xm9_6 ((3 * d) + 1)) (xm9_6 ((3 * d) + 1)) (xm9_6 ((3 * d) + 2))).2.2.2.2.1), ((doF cc adx rcx nmx stx anx (cmK tx len (psF tx len ac cc d)) (xm9_6 ((3 * d) + 1)) (xm9_6 ((3 * d) + 1)) (xm9_6 ((3 * d) + 2))).2.2.2.2.2))) := by
              have h0 : runL tx len ac cc (150 - d) (psF tx len ac cc d) (adx, rcx, nmx, stx, anx) = (0, (((doF cc adx rcx nmx stx anx (cmK tx len (psF tx len ac cc d)) (xm9_6 ((3 * d) + 1)) (xm9_6 ((3 * d) + 1)) (xm9_6 ((3 * d) + 2))).2.1), ((doF cc adx rcx nmx stx anx (cmK tx len (psF tx len ac cc d)) (xm9_6 ((3 * d) + 1)) (xm9_6 ((3 * d) + 1)) (xm9_6 ((3 * d) + 2))).2.2.1), ((doF cc adx rcx nmx stx anx (cmK tx len (psF tx len ac cc d)) (xm9_6 ((3 * d) + 1)) (xm9_6 ((3 * d) + 1)) (xm9_6 ((3 * d) + 2))).2.2.2.1), ((doF cc adx rcx nmx stx anx (cmK tx len (psF tx len ac cc d)) (xm9_6 ((3 * d) + 1)) (xm9_6 ((3 * d) + 1)) (xm9_6 ((3 * d) + 2))).2.2.2.2.1), ((doF cc adx rcx nmx stx anx (cmK tx len (psF tx len ac cc d)) (xm9_6 ((3 * d) + 1)) (xm9_6 ((3 * d) + 1)) (xm9_6 ((3 * d) + 2))).2.2.2.2.2))) := by
                first
                | (have hdm : d = mny9_6 := by omega
                   exact runL_e (by rw [hdm]; exact hr3) _)
                | (rw [show 150 - d = (150 - (d + 1)) + 1 by omega, runL_d (by omega) e2 (by rw [← hdo9]; exact c71), ← hdo9])
              rw [hs, h0]
              exact Prod.ext (Nat.zero_add _) rfl
            exact n_wreti hx hb hr hlocks (post := fun (r : Int32) (u : Nat × (Nat → TCt) × Nat × Nat × (Nat → Nat) × (Nat → Nat) × (Nat → Nat) × Nat × (Option Nat) × Nat × (Nat → Nat)) => (ffF tx len ac cc 150 (skpF tx len 150 0) = none → u.1 = cntF cnt ∧ u.2.1 = keepF cnt svm (cc, ac, co, ad, rc, nm, st, an) ∧ r = nI (runL tx len ac cc 150 (skpF tx len 150 0) (ad, rc, nm, st, an)).1 ∧ (u.2.2.1, u.2.2.2.1, u.2.2.2.2.1, u.2.2.2.2.2.1, u.2.2.2.2.2.2.1) = (runL tx len ac cc 150 (skpF tx len 150 0) (ad, rc, nm, st, an)).2) ∧ (∀ qf, ffF tx len ac cc 150 (skpF tx len 150 0) = some qf → u.1 = cnt ∧ u.2.1 = svm ∧ r = -10 - nI qf ∧ (u.2.2.1, u.2.2.2.1, u.2.2.2.2.1, u.2.2.2.2.2.1, u.2.2.2.2.2.2.1) = (ad, rc, nm, st, an))) (w1 := fun u => (wR kA qr cc ac co u.2.2.1 u.2.2.2.1 u.2.2.2.2.1 u.2.2.2.2.2.1 u.2.2.2.2.2.2.1 u.2.1 u.1 tx len 0 xf xt xs xa xw xc xk xp u.2.2.2.2.2.2.2.1 u.2.2.2.2.2.2.2.2.1 u.2.2.2.2.2.2.2.2.2.2 u.2.2.2.2.2.2.2.2.2.1)) (cntF cnt, keepF cnt svm (cc, ac, co, ad, rc, nm, st, an), (doF cc adx rcx nmx stx anx (cmK tx len (psF tx len ac cc d)) (xm9_6 ((3 * d) + 1)) (xm9_6 ((3 * d) + 1)) (xm9_6 ((3 * d) + 2))).2.1, (doF cc adx rcx nmx stx anx (cmK tx len (psF tx len ac cc d)) (xm9_6 ((3 * d) + 1)) (xm9_6 ((3 * d) + 1)) (xm9_6 ((3 * d) + 2))).2.2.1, (doF cc adx rcx nmx stx anx (cmK tx len (psF tx len ac cc d)) (xm9_6 ((3 * d) + 1)) (xm9_6 ((3 * d) + 1)) (xm9_6 ((3 * d) + 2))).2.2.2.1, (doF cc adx rcx nmx stx anx (cmK tx len (psF tx len ac cc d)) (xm9_6 ((3 * d) + 1)) (xm9_6 ((3 * d) + 1)) (xm9_6 ((3 * d) + 2))).2.2.2.2.1, (doF cc adx rcx nmx stx anx (cmK tx len (psF tx len ac cc d)) (xm9_6 ((3 * d) + 1)) (xm9_6 ((3 * d) + 1)) (xm9_6 ((3 * d) + 2))).2.2.2.2.2, pt9_6, wr9_6, mny9_6, xm9_6) ⟨(fun _ => ⟨rfl, rfl, (by rw [← hR0, hz]), (by rw [← hR0, hz])⟩), (fun qf h => by rw [hr1] at h; cases h)⟩ hP hD hK hS hAe dX6_runCommands_81
          · refine lv_iinc (v := (nI (d + 1))) (lv' := [(1, .int (nI (d + 1))), (0, .ref (qr 0))]) hx hb dX6_runCommands_74 hl (k := 0) rfl (nI_inc _) (by decide) rfl (fun ls hl => ?_)
            refine lv_goto (tgt := 31) hx hb dX6_runCommands_77 (by decide) ?_
            exact ih31 (d + 1) ((doF cc adx rcx nmx stx anx (cmK tx len (psF tx len ac cc d)) (xm9_6 ((3 * d) + 1)) (xm9_6 ((3 * d) + 1)) (xm9_6 ((3 * d) + 2))).2.1) ((doF cc adx rcx nmx stx anx (cmK tx len (psF tx len ac cc d)) (xm9_6 ((3 * d) + 1)) (xm9_6 ((3 * d) + 1)) (xm9_6 ((3 * d) + 2))).2.2.1) ((doF cc adx rcx nmx stx anx (cmK tx len (psF tx len ac cc d)) (xm9_6 ((3 * d) + 1)) (xm9_6 ((3 * d) + 1)) (xm9_6 ((3 * d) + 2))).2.2.2.1) ((doF cc adx rcx nmx stx anx (cmK tx len (psF tx len ac cc d)) (xm9_6 ((3 * d) + 1)) (xm9_6 ((3 * d) + 1)) (xm9_6 ((3 * d) + 2))).2.2.2.2.1) ((doF cc adx rcx nmx stx anx (cmK tx len (psF tx len ac cc d)) (xm9_6 ((3 * d) + 1)) (xm9_6 ((3 * d) + 1)) (xm9_6 ((3 * d) + 2))).2.2.2.2.2) (by omega) (by first | assumption | omega) hok9.1 hok9.2.1 hok9.2.2 (by rw [hs, show 150 - d = (150 - (d + 1)) + 1 by omega, runL_g (by omega) e2 (by rw [← hdo9]; exact c71), ← hdo9]; exact Prod.ext (Nat.add_right_comm _ 1 d) rfl) _ _ hP hD hS _ (lv_sub hl [0, 1] rfl)
    exact L31 ((mny9_6 - 0) + 1) 0 ad rc nm st an (Nat.lt_succ_self _) (by first | assumption | omega) (by first | assumption | omega) han hst (hR0.trans rfl) _ _ hP hD hS _ (lv_sub hl [0, 1] rfl)
  · have hr1 := h6_1 _ c14
    refine lv_bipush (v := (-10)) hx hb dX6_runCommands_17 (by decide) ?_
    refine lv_aload_n hx hb dX6_runCommands_19 rfl (lv_at hl 0 rfl) ?_
    refine n_get (ci := 6) (v := .int (oI wr9_6)) (C := RX6) (T := TX6) (N := 18) hx hb hts hinX6 hown hK hP 0 rfl rfl 15 rfl ⟨rfl, rfl, rfl⟩ f196 rfl dX6_runCommands_20 ?_
    refine n_isub (v := ((-10) - (oI wr9_6))) hx hb rfl dX6_runCommands_23 ?_
    exact n_wreti hx hb hr hlocks (post := fun (r : Int32) (u : Nat × (Nat → TCt) × Nat × Nat × (Nat → Nat) × (Nat → Nat) × (Nat → Nat) × Nat × (Option Nat) × Nat × (Nat → Nat)) => (ffF tx len ac cc 150 (skpF tx len 150 0) = none → u.1 = cntF cnt ∧ u.2.1 = keepF cnt svm (cc, ac, co, ad, rc, nm, st, an) ∧ r = nI (runL tx len ac cc 150 (skpF tx len 150 0) (ad, rc, nm, st, an)).1 ∧ (u.2.2.1, u.2.2.2.1, u.2.2.2.2.1, u.2.2.2.2.2.1, u.2.2.2.2.2.2.1) = (runL tx len ac cc 150 (skpF tx len 150 0) (ad, rc, nm, st, an)).2) ∧ (∀ qf, ffF tx len ac cc 150 (skpF tx len 150 0) = some qf → u.1 = cnt ∧ u.2.1 = svm ∧ r = -10 - nI qf ∧ (u.2.2.1, u.2.2.2.1, u.2.2.2.2.1, u.2.2.2.2.2.1, u.2.2.2.2.2.2.1) = (ad, rc, nm, st, an))) (w1 := fun u => (wR kA qr cc ac co u.2.2.1 u.2.2.2.1 u.2.2.2.2.1 u.2.2.2.2.2.1 u.2.2.2.2.2.2.1 u.2.1 u.1 tx len 0 xf xt xs xa xw xc xk xp u.2.2.2.2.2.2.2.1 u.2.2.2.2.2.2.2.2.1 u.2.2.2.2.2.2.2.2.2.2 u.2.2.2.2.2.2.2.2.2.1)) (cnt, svm, ad, rc, nm, st, an, pt9_6, wr9_6, mny9_6, xm9_6) ⟨(fun h => by rw [hr1] at h; cases h), (fun qf h => by rw [hr1] at h; cases h; exact ⟨rfl, rfl, (by rw [c14]; rfl), rfl⟩)⟩ hP hD hK hS hAe dX6_runCommands_24

