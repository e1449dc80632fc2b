
/-! ===== sets and whole commands ===== -/
theorem dgL_s {tx : Nat → Nat} {len a n least set p : Nat} (hs : set ≠ 0) : (dgL tx len a n least set p).1 ≠ 0 := by
  induction n generalizing least set p with
  | zero => exact hs
  | succ n ih =>
    cases e : digT tx len p with
    | none => rw [dgL_n e]; exact hs
    | some d =>
      by_cases e2 : least ≤ d ∧ d < a
      · rw [dgL_t e e2]; exact ih (fun h => hs (Nat.or_eq_zero_iff.mp h).1)
      · rw [dgL_f e e2]; exact hs
theorem shl_ne (set d : Nat) : set ||| (1 <<< d) ≠ 0 := fun h => by
  have h1 := (Nat.or_eq_zero_iff.mp h).2
  rw [Nat.shiftLeft_eq, Nat.one_mul] at h1
  have := Nat.two_pow_pos d
  omega

set_option maxHeartbeats 4000000 in
set_option maxRecDepth 100000 in
theorem c_X6_readsSet (lQ : Launch) (D : va_G) (kA : Nat → ClassId) (qr : Nat → Nat) (cc : Nat) (ac : Nat → Nat) (co : Nat → Nat) (ad : Nat) (rc : Nat) (nm : Nat → Nat) (st : Nat → Nat) (an : Nat → Nat) (svm : Nat → TCt) (cnt : Nat) (tx : Nat → Nat) (len : Nat) (th : Nat) (xf : Nat → Option Nat) (xt : Nat → Nat) (xs : Nat → Option Nat) (xa : Nat → Nat) (xw : Nat → Nat) (xc : Nat → Nat) (xk : Nat → Option Nat) (xp : Nat → Nat) (pt : Nat) (wr : Option Nat) (xm : Nat → Nat) (mny : Nat) (k : Nat) (sz : Nat) (hlen : len ≤ 150) (htx : ∀ j, j < len → tx j < 128) (hpl : pt ≤ len) (hwr : wr = none) (hk : k < 5) (ha : 2 ≤ ac k ∧ ac k ≤ 4) : Met lQ yX6_readsSet wsX6_readsSet (rmN 2 42) (wr_Pc D vwCl [.ref (qr 0), .int (nI k)] (wR kA qr cc ac co ad rc nm st an svm cnt tx len th xf xt xs xa xw xc xk xp pt wr xm mny) (tyK kA) sz) (va_Qi (S := Nat × (Option Nat)) (fun (r : Int32) (u : Nat × (Option Nat)) => ((rsF tx len (ac k) pt).1 = 0 → u.2 = some (rsF tx len (ac k) pt).2) ∧ ((rsF tx len (ac k) pt).1 ≠ 0 → (u.2 = none ∧ u.1 = (rsF tx len (ac k) pt).2 ∧ r = nI (rsF tx len (ac k) pt).1) ∨ (u.2 = some (rsF tx len (ac k) pt).2 ∧ (digT tx len (rsF tx len (ac k) pt).2).isSome = true)) ∧ u.1 ≤ len + 1) (wr_B D vwCl (wR kA qr cc ac co ad rc nm st an svm cnt tx len th xf xt xs xa xw xc xk xp pt wr xm mny) (tyK kA) sz (fun u => (wR kA qr cc ac co ad rc nm st an svm cnt tx len th xf xt xs xa xw xc xk xp u.1 u.2 xm mny))) (va_A (wR kA qr cc ac co ad rc nm st an svm cnt tx len th xf xt xs xa xw xc xk xp pt wr xm mny) sz)) 0 0 (va_A (wR kA qr cc ac co ad rc nm st an svm cnt tx len th xf xt xs xa xw xc xk xp pt wr xm mny) sz) := by
  refine Met.ofW (cc := cX6_readsSet) (maxL := 5) (ret := (some .int)) (by decide) rfl ?_
  intro pQ eQ s mQ args below meth cQ s₁ B hml hv
  obtain ⟨rfl, hsz, hP, hK, hD0⟩ := hv
  have hx := B.exec
  have hb := B.bytes
  have hr := B.returns
  have hts := atoms_spec (ws := wsX6_readsSet) B.pre
  have hown : s.vm.findClass RX6 = some mQ.cls := findClass_of_methodNamed B.named
  have hlocks : meth.locks = false := B.notSynchronized
  have hS0 : CallFix pQ mQ cQ cX6_readsSet 5 s ([.ref (qr 0), .int (nI k)] : List Value).toArray wsX6_readsSet RX6 := ⟨hx, hb, hml, hown, hts⟩
  subst hsz
  have hD := hD0.self (sz := s.heap.size)
  generalize hAe : va_A (wR kA qr cc ac co ad rc nm st an svm cnt tx len th xf xt xs xa xw xc xk xp pt wr xm mny) s.heap.size = A at hD ⊢
  have hA : ∀ q : Nat, s.heap.size ≤ q → A q := fun q h => by rw [← hAe]; exact Or.inr h
  have hS : va_S A s.heap s.heap [] := va_S.rf
  have f193 : (Cond.fieldLink RX6 193 "AskedRulesModel" "at" "I").before ([.ref (qr 0), .int (nI k)] : List Value).toArray s = true := hts _ (by decide +kernel)
  have hinX6 : ∀ w ∈ wsX60, w ∈ wsX6_readsSet := by decide +kernel
  have f196 : (Cond.fieldLink RX6 196 "AskedRulesModel" "wrong" "I").before ([.ref (qr 0), .int (nI k)] : List Value).toArray s = true := hts _ (by decide +kernel)
  have hl := lv_entry ([.ref (qr 0), .int (nI k)]) (n := 5) (Nat.le_of_ble_eq_true rfl)
  rw [lg_entry_eq]
  generalize (lg_sl ([.ref (qr 0), .int (nI k)]) ++ List.replicate (5 - (lg_sl ([.ref (qr 0), .int (nI k)])).length) Slot.unset).toArray = ls at hl ⊢
  have hl : lv_has ls 5 [(0, .ref (qr 0)), (1, .int (nI k))] := hl
  have hP : va_P D vwCl (wR kA qr cc ac co ad rc nm st an svm cnt tx len th xf xt xs xa xw xc xk xp pt wr xm mny) s.heap := hP
  have hD : va_D A (wR kA qr cc ac co ad rc nm st an svm cnt tx len th xf xt xs xa xw xc xk xp pt wr xm mny) := hD
  have hN := oI_N (o := hereF tx len pt) (k := 45) (hereF_bd htx) (by decide)
  rw [hwr] at hP hD
  refine lv_aload_n hx hb dX6_readsSet_0 rfl (lv_at hl 0 rfl) ?_
  refine n_cV (b := qr 0) (As := []) (rest := []) (wc := (wR kA qr cc ac co ad rc nm st an svm cnt tx len th xf xt xs xa xw xc xk xp pt none xm mny)) hS0 (c_X6_look lQ D kA qr cc ac co ad rc nm st an svm cnt tx len th xf xt xs xa xw xc xk xp pt none xm mny (by first | assumption | omega) (by first | assumption | omega)) (cwV 0 hts gX6_readsSet_X6_look rfl rfl rfl (by decide +kernel) ⟨Nat.le_of_ble_eq_true rfl, Nat.le_of_ble_eq_true rfl⟩) hP hK (q0 := 0) rfl rfl rfl rfl rfl hl.1 (Nat.le_of_ble_eq_true rfl) dX6_readsSet_1 ⟨Nat.le_refl _, Nat.le_refl _⟩ (fun r1 h1 => ?_)
  subst h1
  refine lv_bipush (v := (nI 45)) hx hb dX6_readsSet_4 (by decide) ?_
  refine lv_icmp_ne (tgt := 29) hx hb dX6_readsSet_6 (by decide) (fun c6 => ?_) (fun c6 => ?_)
  · have hrs9 : rsF tx len (ac k) pt = dgL tx len (ac k) 4 0 0 pt := if_neg (fun h => c6 (hN.mpr h))
    refine lv_iconst (v := (nI 0)) hx hb dX6_readsSet_29 (by decide) ?_
    refine lv_istore_n (lv' := [(2, .int (nI 0)), (0, .ref (qr 0)), (1, .int (nI k))]) hx hb dX6_readsSet_30 rfl hl (by decide) rfl (fun ls hl => ?_)
    refine lv_iconst (v := (nI 0)) hx hb dX6_readsSet_31 (by decide) ?_
    refine lv_istore_n (lv' := [(3, .int (nI 0)), (2, .int (nI 0)), (0, .ref (qr 0)), (1, .int (nI k))]) hx hb dX6_readsSet_32 rfl hl (by decide) rfl (fun ls hl => ?_)
    refine lv_aload_n hx hb dX6_readsSet_33 rfl (lv_at hl 2 rfl) ?_
    refine lv_aload_n hx hb dX6_readsSet_34 rfl (lv_at hl 2 rfl) ?_
    refine n_cV (b := qr 0) (As := []) (rest := [.ref (qr 0)]) (wc := (wR kA qr cc ac co ad rc nm st an svm cnt tx len th xf xt xs xa xw xc xk xp pt none xm mny)) hS0 (c_X6_look lQ D kA qr cc ac co ad rc nm st an svm cnt tx len th xf xt xs xa xw xc xk xp pt none xm mny (by first | assumption | omega) (by first | assumption | omega)) (cwV 0 hts gX6_readsSet_X6_look rfl rfl rfl (by decide +kernel) ⟨Nat.le_of_ble_eq_true rfl, Nat.le_of_ble_eq_true rfl⟩) hP hK (q0 := 0) rfl rfl rfl rfl rfl hl.1 (Nat.le_of_ble_eq_true rfl) dX6_readsSet_35 ⟨Nat.le_refl _, Nat.le_refl _⟩ (fun r35 h35 => ?_)
    subst h35
    refine lv_bipush (v := (nI 48)) hx hb dX6_readsSet_38 (by decide) ?_
    refine n_isub (v := ((oI (hereF tx len pt)) - (nI 48))) hx hb rfl dX6_readsSet_40 ?_
    refine lv_iconst (v := (nI 0)) hx hb dX6_readsSet_41 (by decide) ?_
    refine lv_aload_n hx hb dX6_readsSet_42 rfl (lv_at hl 2 rfl) ?_
    refine lv_iload_n hx hb dX6_readsSet_43 rfl (lv_at hl 3 rfl) ?_
    refine n_cV (b := qr 0) (As := [.int (nI k)]) (rest := [.int (nI 0), .int ((oI (hereF tx len pt)) - (nI 48)), .ref (qr 0)]) (wc := (wR kA qr cc ac co ad rc nm st an svm cnt tx len th xf xt xs xa xw xc xk xp pt none xm mny)) hS0 (c_X6_answersOf lQ D kA qr cc ac co ad rc nm st an svm cnt tx len th xf xt xs xa xw xc xk xp pt none xm mny k (by first | assumption | omega)) (cwV 1 hts gX6_readsSet_X6_answersOf rfl rfl rfl (by decide +kernel) ⟨Nat.le_of_ble_eq_true rfl, Nat.le_of_ble_eq_true rfl⟩) hP hK (q0 := 0) rfl rfl rfl rfl rfl hl.1 (Nat.le_of_ble_eq_true rfl) dX6_readsSet_44 ⟨Nat.le_refl _, Nat.le_refl _⟩ (fun r44 h44 => ?_)
    subst h44
    refine lv_iconst (v := (nI 1)) hx hb dX6_readsSet_47 (by decide) ?_
    refine n_isub (v := (nI ((ac k) - 1))) hx hb (pk_sub (by omega)) dX6_readsSet_48 ?_
    refine n_cS (As := [.int ((oI (hereF tx len pt)) - (nI 48)), .int (nI 0), .int (nI ((ac k) - 1))]) (rest := [.ref (qr 0)]) (wc := []) hS0 (c_X6_in lQ D kA ((oI (hereF tx len pt)) - (nI 48)) (nI 0) (nI ((ac k) - 1)) ) (va_cwS 3 hts gX6_readsSet_X6_in rfl rfl rfl (by decide +kernel) ⟨Nat.le_of_ble_eq_true rfl, Nat.le_of_ble_eq_true rfl⟩) (hP.mem (ws' := []) (fun qQ h => absurd h List.not_mem_nil)) hK rfl rfl hl.1 (Nat.le_of_ble_eq_true rfl) dX6_readsSet_49 ⟨Nat.le_refl _, Nat.le_refl _⟩ (fun r49 h49 => ?_)
    subst h49
    refine lv_aload_n hx hb dX6_readsSet_52 rfl (lv_at hl 2 rfl) ?_
    refine n_get (ci := 6) (v := .int (nI pt)) (C := RX6) (T := TX6) (N := 18) hx hb hts hinX6 hown hK hP 0 rfl rfl 14 rfl ⟨rfl, rfl, rfl⟩ f193 rfl dX6_readsSet_53 ?_
    refine n_wVv (b := qr 0) (As := [.int (bI (inI ((oI (hereF tx len pt)) - (nI 48)) (nI 0) (nI ((ac k) - 1)))), .int (nI pt)]) (rest := []) (wr := []) (ws' := fun u => (wR kA qr cc ac co ad rc nm st an svm cnt tx len th xf xt xs xa xw xc xk xp pt (alF none (inI ((oI (hereF tx len pt)) - (nI 48)) (nI 0) (nI ((ac k) - 1))) pt) xm mny)) hS0 (c_X6_allows lQ D kA qr cc ac co ad rc nm st an svm cnt tx len th xf xt xs xa xw xc xk xp pt none xm mny (inI ((oI (hereF tx len pt)) - (nI 48)) (nI 0) (nI ((ac k) - 1))) pt s.heap.size (fun q h => by cases h)) (cwV 2 hts gX6_readsSet_X6_allows rfl rfl rfl (by decide +kernel) ⟨Nat.le_of_ble_eq_true rfl, Nat.le_of_ble_eq_true rfl⟩) hP hD hS hA hK hK (by simpa only [List.append_assoc, List.append_nil] using (List.Perm.of_eq (List.append_nil _).symm)) (fun u => List.Perm.symm (by simpa only [List.append_assoc, List.append_nil] using (List.Perm.of_eq (List.append_nil _).symm))) (q0 := 0) rfl rfl rfl rfl rfl hl.1 (Nat.le_of_ble_eq_true rfl) dX6_readsSet_56 ⟨Nat.le_refl _, Nat.le_refl _⟩ (fun u56 H locs h56 hP hD hS => ?_)
    have hP : va_P D vwCl (wR kA qr cc ac co ad rc nm st an svm cnt tx len th xf xt xs xa xw xc xk xp pt (alF none (inI ((oI (hereF tx len pt)) - (nI 48)) (nI 0) (nI ((ac k) - 1))) pt) xm mny) H := hP
    have hD : va_D A (wR kA qr cc ac co ad rc nm st an svm cnt tx len th xf xt xs xa xw xc xk xp pt (alF none (inI ((oI (hereF tx len pt)) - (nI 48)) (nI 0) (nI ((ac k) - 1))) pt) xm mny) := hD
    skip
    have L59 : ∀ (nQ : Nat) (set : Nat) (least : Nat) (wrx : Option Nat) (p : Nat), cond wrx.isNone (1 + (len + 1 - p)) 0 < nQ → (wrx = none → ∃ m, m ≤ 4 ∧ m ≤ least ∧ p ≤ len ∧ dgL tx len (ac k) 4 0 0 pt = dgL tx len (ac k) (4 - m) least set p ∧ (m = 0 → set = 0 ∧ least = 0 ∧ p = pt ∧ ∃ d, digT tx len pt = some d ∧ d < ac k) ∧ (m ≠ 0 → set ≠ 0)) → (∀ q, wrx = some q → (((rsF tx len (ac k) pt).1 = 0 ∧ q = (rsF tx len (ac k) pt).2) ∨ ((rsF tx len (ac k) pt).1 ≠ 0 ∧ q = (rsF tx len (ac k) pt).2 ∧ (digT tx len q).isSome = true))) → (p ≤ len + 1) → (least ≤ 2147483647) → ∀ (H : Heap) (locs : List Loc), va_P D vwCl (wR kA qr cc ac co ad rc nm st an svm cnt tx len th xf xt xs xa xw xc xk xp p wrx xm mny) H → va_D A (wR kA qr cc ac co ad rc nm st an svm cnt tx len th xf xt xs xa xw xc xk xp p wrx xm mny) → va_S A s.heap H locs → ∀ (ls : Array Slot), lv_has ls 5 [(3, .int (nI least)), (2, .int (nI set)), (0, .ref (qr 0)), (1, .int (nI k))] → W pQ lQ eQ (headSpec wsX6_readsSet (rmN 2 42)).room s mQ ([.ref (qr 0), .int (nI k)] : List Value).toArray below meth cQ H locs 0 0 (MQ below (va_Qi (S := Nat × (Option Nat)) (fun (r : Int32) (u : Nat × (Option Nat)) => ((rsF tx len (ac k) pt).1 = 0 → u.2 = some (rsF tx len (ac k) pt).2) ∧ ((rsF tx len (ac k) pt).1 ≠ 0 → (u.2 = none ∧ u.1 = (rsF tx len (ac k) pt).2 ∧ r = nI (rsF tx len (ac k) pt).1) ∨ (u.2 = some (rsF tx len (ac k) pt).2 ∧ (digT tx len (rsF tx len (ac k) pt).2).isSome = true)) ∧ u.1 ≤ len + 1) (wr_B D vwCl (wR kA qr cc ac co ad rc nm st an svm cnt tx len th xf xt xs xa xw xc xk xp pt wr xm mny) (tyK kA) s.heap.size (fun u => (wR kA qr cc ac co ad rc nm st an svm cnt tx len th xf xt xs xa xw xc xk xp u.1 u.2 xm mny))) A) ([.ref (qr 0), .int (nI k)] : List Value).toArray s 0 0 A) (F0 mQ 59 ls []) := by
      intro nQ
      induction nQ with
      | zero => intro set least wrx p hn; exact absurd hn (Nat.not_lt_zero _)
      | succ nQ ih59 =>
        intro set least wrx p hm59 hi1 hi2 hi3 hlb H locs hP hD hS ls hl
        refine lv_aload_n hx hb dX6_readsSet_59 rfl (lv_at hl 2 rfl) ?_
        refine n_get (ci := 6) (v := .int (oI wrx)) (C := RX6) (T := TX6) (N := 18) hx hb hts hinX6 hown hK hP 0 rfl rfl 15 rfl ⟨rfl, rfl, rfl⟩ f196 rfl dX6_readsSet_60 ?_
        refine lv_iconst (v := (oI none)) hx hb dX6_readsSet_63 (by decide) ?_
        refine n_icmpo_ne (o := wrx) (tgt := 129) hx hb (fun q h => by have := hi2 q h; rcases this with ⟨-, h8⟩ | ⟨-, h8, -⟩ <;> (rw [h8, hrs9]; have := dgL_le (tx := tx) (a := ac k) (n := 4) (least := 0) (set := 0) hpl; omega)) dX6_readsSet_64 (by decide) (fun q64 c64 => ?_) (fun c64 => ?_)
        · refine lv_iload_n hx hb dX6_readsSet_129 rfl (lv_at hl 1 rfl) ?_
          have hx1 : (rsF tx len (ac k) pt).1 = 0 → wrx = some (rsF tx len (ac k) pt).2 := fun h => by
            cases hw9 : wrx with
            | some q => rcases hi2 q hw9 with ⟨-, h8⟩ | ⟨h8, -⟩; (rw [h8]); exact absurd h h8
            | none =>
              exfalso
              obtain ⟨m, hm1, hm2, hm3, hm4, hm5, hm6⟩ := hi1 hw9
              have h71 : digT tx len p = none := by first | (cases h9 : digT tx len p with | none => rfl | some d => (rw [h9] at c71; cases c71)) | (rw [hw9] at c64; cases c64)
              rw [hrs9, hm4, dgL_n h71] at h
              by_cases e : m = 0
              · obtain ⟨e1, e2, e3, d, e4, e5⟩ := hm5 e
                rw [e3, e4] at h71; cases h71
              · exact hm6 e h
          have hx2 : (rsF tx len (ac k) pt).1 ≠ 0 → (wrx = none ∧ p = (rsF tx len (ac k) pt).2 ∧ nI set = nI (rsF tx len (ac k) pt).1) ∨ (wrx = some (rsF tx len (ac k) pt).2 ∧ (digT tx len (rsF tx len (ac k) pt).2).isSome = true) := fun h => by
            cases hw9 : wrx with
            | some q => rcases hi2 q hw9 with ⟨h8, -⟩ | ⟨-, h8, h7⟩; (exact absurd h8 h); exact Or.inr ⟨by rw [h8], by rw [← h8]; exact h7⟩
            | none =>
              obtain ⟨m, hm1, hm2, hm3, hm4, hm5, hm6⟩ := hi1 hw9
              have h71 : digT tx len p = none := by first | (cases h9 : digT tx len p with | none => rfl | some d => (rw [h9] at c71; cases c71)) | (rw [hw9] at c64; cases c64)
              exact Or.inl ⟨rfl, by rw [hrs9, hm4, dgL_n h71], by rw [hrs9, hm4, dgL_n h71]⟩
          exact n_wreti hx hb hr hlocks (post := fun (r : Int32) (u : Nat × (Option Nat)) => ((rsF tx len (ac k) pt).1 = 0 → u.2 = some (rsF tx len (ac k) pt).2) ∧ ((rsF tx len (ac k) pt).1 ≠ 0 → (u.2 = none ∧ u.1 = (rsF tx len (ac k) pt).2 ∧ r = nI (rsF tx len (ac k) pt).1) ∨ (u.2 = some (rsF tx len (ac k) pt).2 ∧ (digT tx len (rsF tx len (ac k) pt).2).isSome = true)) ∧ u.1 ≤ len + 1) (w1 := fun u => (wR kA qr cc ac co ad rc nm st an svm cnt tx len th xf xt xs xa xw xc xk xp u.1 u.2 xm mny)) (p, wrx) ⟨hx1, hx2, hi3⟩ hP hD hK hS hAe dX6_readsSet_130
        · obtain ⟨m, hm1, hm2, hm3, hm4, hm5, hm6⟩ := hi1 c64
          refine lv_aload_n hx hb dX6_readsSet_67 rfl (lv_at hl 2 rfl) ?_
          refine n_cV (b := qr 0) (As := []) (rest := []) (wc := (wR kA qr cc ac co ad rc nm st an svm cnt tx len th xf xt xs xa xw xc xk xp p wrx xm mny)) hS0 (c_X6_isFigure lQ D kA qr cc ac co ad rc nm st an svm cnt tx len th xf xt xs xa xw xc xk xp p wrx xm mny (by first | assumption | omega) (by first | assumption | omega) (by first | assumption | omega)) (cwV 0 hts gX6_readsSet_X6_isFigure rfl rfl rfl (by decide +kernel) ⟨Nat.le_of_ble_eq_true rfl, Nat.le_of_ble_eq_true rfl⟩) hP hK (q0 := 0) rfl rfl rfl rfl rfl hl.1 (Nat.le_of_ble_eq_true rfl) dX6_readsSet_68 ⟨Nat.le_refl _, Nat.le_refl _⟩ (fun r68 h68 => ?_)
          subst h68
          refine n_ifb_eq (b := (digT tx len p).isSome) (tgt := 129) hx hb dX6_readsSet_71 (by decide) (fun c71 => ?_) (fun c71 => ?_)
          · refine lv_iload_n hx hb dX6_readsSet_129 rfl (lv_at hl 1 rfl) ?_
            have hx1 : (rsF tx len (ac k) pt).1 = 0 → wrx = some (rsF tx len (ac k) pt).2 := fun h => by
              cases hw9 : wrx with
              | some q => rcases hi2 q hw9 with ⟨-, h8⟩ | ⟨h8, -⟩; (rw [h8]); exact absurd h h8
              | none =>
                exfalso
                obtain ⟨m, hm1, hm2, hm3, hm4, hm5, hm6⟩ := hi1 hw9
                have h71 : digT tx len p = none := by first | (cases h9 : digT tx len p with | none => rfl | some d => (rw [h9] at c71; cases c71)) | (rw [hw9] at c64; cases c64)
                rw [hrs9, hm4, dgL_n h71] at h
                by_cases e : m = 0
                · obtain ⟨e1, e2, e3, d, e4, e5⟩ := hm5 e
                  rw [e3, e4] at h71; cases h71
                · exact hm6 e h
            have hx2 : (rsF tx len (ac k) pt).1 ≠ 0 → (wrx = none ∧ p = (rsF tx len (ac k) pt).2 ∧ nI set = nI (rsF tx len (ac k) pt).1) ∨ (wrx = some (rsF tx len (ac k) pt).2 ∧ (digT tx len (rsF tx len (ac k) pt).2).isSome = true) := fun h => by
              cases hw9 : wrx with
              | some q => rcases hi2 q hw9 with ⟨h8, -⟩ | ⟨-, h8, h7⟩; (exact absurd h8 h); exact Or.inr ⟨by rw [h8], by rw [← h8]; exact h7⟩
              | none =>
                obtain ⟨m, hm1, hm2, hm3, hm4, hm5, hm6⟩ := hi1 hw9
                have h71 : digT tx len p = none := by first | (cases h9 : digT tx len p with | none => rfl | some d => (rw [h9] at c71; cases c71)) | (rw [hw9] at c64; cases c64)
                exact Or.inl ⟨rfl, by rw [hrs9, hm4, dgL_n h71], by rw [hrs9, hm4, dgL_n h71]⟩
            exact n_wreti hx hb hr hlocks (post := fun (r : Int32) (u : Nat × (Option Nat)) => ((rsF tx len (ac k) pt).1 = 0 → u.2 = some (rsF tx len (ac k) pt).2) ∧ ((rsF tx len (ac k) pt).1 ≠ 0 → (u.2 = none ∧ u.1 = (rsF tx len (ac k) pt).2 ∧ r = nI (rsF tx len (ac k) pt).1) ∨ (u.2 = some (rsF tx len (ac k) pt).2 ∧ (digT tx len (rsF tx len (ac k) pt).2).isSome = true)) ∧ u.1 ≤ len + 1) (w1 := fun u => (wR kA qr cc ac co ad rc nm st an svm cnt tx len th xf xt xs xa xw xc xk xp u.1 u.2 xm mny)) (p, wrx) ⟨hx1, hx2, hi3⟩ hP hD hK hS hAe dX6_readsSet_130
          · obtain ⟨d9, hd9⟩ := Option.isSome_iff_exists.mp c71
            have hb9 := dig_here hd9
            have hdl9 := digT_lt hd9
            refine lv_aload_n hx hb dX6_readsSet_74 rfl (lv_at hl 2 rfl) ?_
            refine n_cV (b := qr 0) (As := []) (rest := []) (wc := (wR kA qr cc ac co ad rc nm st an svm cnt tx len th xf xt xs xa xw xc xk xp p wrx xm mny)) hS0 (c_X6_look lQ D kA qr cc ac co ad rc nm st an svm cnt tx len th xf xt xs xa xw xc xk xp p wrx xm mny (by first | assumption | omega) (by first | assumption | omega)) (cwV 0 hts gX6_readsSet_X6_look rfl rfl rfl (by decide +kernel) ⟨Nat.le_of_ble_eq_true rfl, Nat.le_of_ble_eq_true rfl⟩) hP hK (q0 := 0) rfl rfl rfl rfl rfl hl.1 (Nat.le_of_ble_eq_true rfl) dX6_readsSet_75 ⟨Nat.le_refl _, Nat.le_refl _⟩ (fun r75 h75 => ?_)
            subst h75
            rw [hb9]
            show W pQ lQ eQ (headSpec wsX6_readsSet (rmN 2 42)).room s mQ ([.ref (qr 0), .int (nI k)] : List Value).toArray below meth cQ H locs 0 0 (MQ below (va_Qi (S := Nat × (Option Nat)) (fun (r : Int32) (u : Nat × (Option Nat)) => ((rsF tx len (ac k) pt).1 = 0 → u.2 = some (rsF tx len (ac k) pt).2) ∧ ((rsF tx len (ac k) pt).1 ≠ 0 → (u.2 = none ∧ u.1 = (rsF tx len (ac k) pt).2 ∧ r = nI (rsF tx len (ac k) pt).1) ∨ (u.2 = some (rsF tx len (ac k) pt).2 ∧ (digT tx len (rsF tx len (ac k) pt).2).isSome = true)) ∧ u.1 ≤ len + 1) (wr_B D vwCl (wR kA qr cc ac co ad rc nm st an svm cnt tx len th xf xt xs xa xw xc xk xp pt wr xm mny) (tyK kA) s.heap.size (fun u => (wR kA qr cc ac co ad rc nm st an svm cnt tx len th xf xt xs xa xw xc xk xp u.1 u.2 xm mny))) A) ([.ref (qr 0), .int (nI k)] : List Value).toArray s 0 0 A) (F0 mQ 78 ls [.int (nI (d9 + 48))])
            refine lv_bipush (v := (nI 48)) hx hb dX6_readsSet_78 (by decide) ?_
            refine n_isub (v := (nI d9)) hx hb (by rw [pk_sub (by omega), Nat.add_sub_cancel]) dX6_readsSet_80 ?_
            refine lv_istore (lv' := [(4, .int (nI d9)), (3, .int (nI least)), (2, .int (nI set)), (0, .ref (qr 0)), (1, .int (nI k))]) hx hb dX6_readsSet_81 hl (by decide) rfl (fun ls hl => ?_)
            refine lv_aload_n hx hb dX6_readsSet_83 rfl (lv_at hl 3 rfl) ?_
            refine lv_iload hx hb dX6_readsSet_84 (lv_at hl 0 rfl) ?_
            refine lv_iload_n hx hb dX6_readsSet_86 rfl (lv_at hl 1 rfl) ?_
            refine lv_aload_n hx hb dX6_readsSet_87 rfl (lv_at hl 3 rfl) ?_
            refine lv_iload_n hx hb dX6_readsSet_88 rfl (lv_at hl 4 rfl) ?_
            refine n_cV (b := qr 0) (As := [.int (nI k)]) (rest := [.int (nI least), .int (nI d9), .ref (qr 0)]) (wc := (wR kA qr cc ac co ad rc nm st an svm cnt tx len th xf xt xs xa xw xc xk xp p wrx xm mny)) hS0 (c_X6_answersOf lQ D kA qr cc ac co ad rc nm st an svm cnt tx len th xf xt xs xa xw xc xk xp p wrx xm mny k (by first | assumption | omega)) (cwV 1 hts gX6_readsSet_X6_answersOf rfl rfl rfl (by decide +kernel) ⟨Nat.le_of_ble_eq_true rfl, Nat.le_of_ble_eq_true rfl⟩) hP hK (q0 := 0) rfl rfl rfl rfl rfl hl.1 (Nat.le_of_ble_eq_true rfl) dX6_readsSet_89 ⟨Nat.le_refl _, Nat.le_refl _⟩ (fun r89 h89 => ?_)
            subst h89
            refine lv_iconst (v := (nI 1)) hx hb dX6_readsSet_92 (by decide) ?_
            refine n_isub (v := (nI ((ac k) - 1))) hx hb (pk_sub (by omega)) dX6_readsSet_93 ?_
            refine n_cS (As := [.int (nI d9), .int (nI least), .int (nI ((ac k) - 1))]) (rest := [.ref (qr 0)]) (wc := []) hS0 (c_X6_in lQ D kA (nI d9) (nI least) (nI ((ac k) - 1)) ) (va_cwS 3 hts gX6_readsSet_X6_in rfl rfl rfl (by decide +kernel) ⟨Nat.le_of_ble_eq_true rfl, Nat.le_of_ble_eq_true rfl⟩) (hP.mem (ws' := []) (fun qQ h => absurd h List.not_mem_nil)) hK rfl rfl hl.1 (Nat.le_of_ble_eq_true rfl) dX6_readsSet_94 ⟨Nat.le_refl _, Nat.le_refl _⟩ (fun r94 h94 => ?_)
            subst h94
            refine lv_aload_n hx hb dX6_readsSet_97 rfl (lv_at hl 3 rfl) ?_
            refine n_get (ci := 6) (v := .int (nI p)) (C := RX6) (T := TX6) (N := 18) hx hb hts hinX6 hown hK hP 0 rfl rfl 14 rfl ⟨rfl, rfl, rfl⟩ f193 rfl dX6_readsSet_98 ?_
            refine n_wVv (b := qr 0) (As := [.int (bI (inI (nI d9) (nI least) (nI ((ac k) - 1)))), .int (nI p)]) (rest := []) (wr := []) (ws' := fun u => (wR kA qr cc ac co ad rc nm st an svm cnt tx len th xf xt xs xa xw xc xk xp p (alF wrx (inI (nI d9) (nI least) (nI ((ac k) - 1))) p) xm mny)) hS0 (c_X6_allows lQ D kA qr cc ac co ad rc nm st an svm cnt tx len th xf xt xs xa xw xc xk xp p wrx xm mny (inI (nI d9) (nI least) (nI ((ac k) - 1))) p H.size (fun q h => by rw [c64] at h; cases h)) (cwV 2 hts gX6_readsSet_X6_allows rfl rfl rfl (by decide +kernel) ⟨Nat.le_of_ble_eq_true rfl, Nat.le_of_ble_eq_true rfl⟩) hP hD hS hA hK hK (by simpa only [List.append_assoc, List.append_nil] using (List.Perm.of_eq (List.append_nil _).symm)) (fun u => List.Perm.symm (by simpa only [List.append_assoc, List.append_nil] using (List.Perm.of_eq (List.append_nil _).symm))) (q0 := 0) rfl rfl rfl rfl rfl hl.1 (Nat.le_of_ble_eq_true rfl) dX6_readsSet_101 ⟨Nat.le_refl _, Nat.le_refl _⟩ (fun u101 H locs h101 hP hD hS => ?_)
            have hP : va_P D vwCl (wR kA qr cc ac co ad rc nm st an svm cnt tx len th xf xt xs xa xw xc xk xp p (alF wrx (inI (nI d9) (nI least) (nI ((ac k) - 1))) p) xm mny) H := hP
            have hD : va_D A (wR kA qr cc ac co ad rc nm st an svm cnt tx len th xf xt xs xa xw xc xk xp p (alF wrx (inI (nI d9) (nI least) (nI ((ac k) - 1))) p) xm mny) := hD
            refine lv_iload_n hx hb dX6_readsSet_104 rfl (lv_at hl 2 rfl) ?_
            refine lv_iconst (v := (nI 1)) hx hb dX6_readsSet_105 (by decide) ?_
            refine lv_iload hx hb dX6_readsSet_106 (lv_at hl 0 rfl) ?_
            refine n_ishl (v := (nI (1 <<< d9))) hx hb (nN_shl _ (by omega)) dX6_readsSet_108 ?_
            refine n_ior (v := (nI (set ||| (1 <<< d9)))) hx hb (nN_or _ _) dX6_readsSet_109 ?_
            refine lv_istore_n (lv' := [(2, .int (nI (set ||| (1 <<< d9)))), (4, .int (nI d9)), (3, .int (nI least)), (0, .ref (qr 0)), (1, .int (nI k))]) hx hb dX6_readsSet_110 rfl hl (by decide) rfl (fun ls hl => ?_)
            refine lv_iload hx hb dX6_readsSet_111 (lv_at hl 1 rfl) ?_
            refine lv_iconst (v := (nI 1)) hx hb dX6_readsSet_113 (by decide) ?_
            refine n_iadd (v := (nI (d9 + 1))) hx hb (nI_add _ _) dX6_readsSet_114 ?_
            refine lv_istore_n (lv' := [(3, .int (nI (d9 + 1))), (2, .int (nI (set ||| (1 <<< d9)))), (4, .int (nI d9)), (0, .ref (qr 0)), (1, .int (nI k))]) hx hb dX6_readsSet_115 rfl hl (by decide) rfl (fun ls hl => ?_)
            refine lv_aload_n hx hb dX6_readsSet_116 rfl (lv_at hl 3 rfl) ?_
            refine lv_dup hx hb dX6_readsSet_117 rfl ?_
            refine n_get (ci := 6) (v := .int (nI p)) (C := RX6) (T := TX6) (N := 18) hx hb hts hinX6 hown hK hP 0 rfl rfl 14 rfl ⟨rfl, rfl, rfl⟩ f193 rfl dX6_readsSet_118 ?_
            refine lv_iconst (v := (nI 1)) hx hb dX6_readsSet_121 (by decide) ?_
            refine n_iadd (v := (nI (p + 1))) hx hb (nI_add _ _) dX6_readsSet_122 ?_
            refine n_put (ci := 6) (v := .int (nI (p + 1))) (C := RX6) (T := TX6) (N := 18) (ws' := (wR kA qr cc ac co ad rc nm st an svm cnt tx len th xf xt xs xa xw xc xk xp (p + 1) (alF wrx (inI (nI d9) (nI least) (nI ((ac k) - 1))) p) xm mny)) hx hb hts hinX6 tyX6 tyX6_ok nmX6 hown hK hP hD hS 0 rfl rfl 14 rfl ⟨rfl, rfl, rfl, rfl⟩ f193 rfl rfl rfl rfl dX6_readsSet_123 (fun H locs hP hD hS => ?_)
            refine lv_goto (tgt := 59) hx hb dX6_readsSet_126 (by decide) ?_
            skip
            exact ih59 (set ||| (1 <<< d9)) (d9 + 1) (alF wrx (inI (nI d9) (nI least) (nI ((ac k) - 1))) p) (p + 1) (by have h8 : cond wrx.isNone (1 + (len + 1 - p)) 0 = 1 + (len + 1 - p) := (by rw [c64]; rfl); rw [h8] at hm59; cases h9 : (alF wrx (inI (nI d9) (nI least) (nI (ac k - 1))) p).isNone with | true => (show 1 + (len + 1 - (p + 1)) < nQ; omega) | false => (show 0 < nQ; omega)) (fun h => by
      have h8 := (alF_none.mp h).2
      rw [inI_nn (by omega) (by have : least ≤ 2147483647 := hlb; omega) (by omega), Bool.and_eq_true, decide_eq_true_eq, decide_eq_true_eq] at h8
      exact ⟨m + 1, by omega, by omega, by omega, by rw [hm4, show 4 - m = (4 - (m + 1)) + 1 by omega, dgL_t hd9 ⟨h8.1, by omega⟩], (fun h => by omega), (fun _ => shl_ne _ _)⟩) (fun q h => by
      rcases alF_some h with h8 | ⟨-, h8, h7⟩
      · rw [c64] at h8; cases h8
      · have h6 : ¬ (least ≤ d9 ∧ d9 < ac k) := fun h9 => by
          rw [inI_nn (by omega) (by have : least ≤ 2147483647 := hlb; omega) (by omega), decide_eq_true h9.1, decide_eq_true (show d9 ≤ ac k - 1 by omega)] at h8; cases h8
        have h5 : dgL tx len (ac k) 4 0 0 pt = (set, p) := by rw [hm4, dgL_f hd9 h6]
        rw [hrs9, h5]
        have h4 : m ≠ 0 := fun e => by
          obtain ⟨e1, e2, e3, d, e4, e5⟩ := hm5 e
          rw [e3, e4] at hd9; cases hd9; exact h6 ⟨by omega, e5⟩
        exact Or.inr ⟨hm6 h4, h7, by rw [h7, hd9]; rfl⟩) (by first | assumption | omega) (by first | assumption | omega) _ _ hP hD hS _ (lv_sub hl [0, 1, 3, 4] rfl)
    exact L59 ((cond (alF none (inI ((oI (hereF tx len pt)) - (nI 48)) (nI 0) (nI ((ac k) - 1))) pt).isNone (1 + (len + 1 - pt)) 0) + 1) 0 0 (alF none (inI ((oI (hereF tx len pt)) - (nI 48)) (nI 0) (nI ((ac k) - 1))) pt) pt (Nat.lt_succ_self _) (fun h => ⟨0, by omega, by omega, hpl, rfl, (fun _ => ⟨rfl, rfl, rfl, (set0 htx (by omega)).mp (alF_none.mp h).2⟩), (fun h => absurd rfl h)⟩) (fun q h => by rcases alF_some h with h8 | ⟨-, h8, h7⟩; (cases h8); exact Or.inl (by
      have h6 : dgL tx len (ac k) 4 0 0 pt = (0, pt) := by
        cases e : digT tx len pt with
        | none => exact dgL_n e _
        | some d => exact dgL_f e (fun h9 => by rw [(set0 htx (by omega)).mpr ⟨d, e, h9.2⟩] at h8; cases h8) _
      rw [hrs9, h6]; exact ⟨rfl, h7⟩)) (by first | assumption | omega) (by first | assumption | omega) _ _ hP hD hS _ (lv_sub hl [0, 1, 2, 3] rfl)
  · have hrs9 : rsF tx len (ac k) pt = (fulN (ac k), pt + 1) := if_pos (hN.mp c6)
    refine lv_aload_n hx hb dX6_readsSet_9 rfl (lv_at hl 0 rfl) ?_
    refine lv_dup hx hb dX6_readsSet_10 rfl ?_
    refine n_get (ci := 6) (v := .int (nI pt)) (C := RX6) (T := TX6) (N := 18) hx hb hts hinX6 hown hK hP 0 rfl rfl 14 rfl ⟨rfl, rfl, rfl⟩ f193 rfl dX6_readsSet_11 ?_
    refine lv_iconst (v := (nI 1)) hx hb dX6_readsSet_14 (by decide) ?_
    refine n_iadd (v := (nI (pt + 1))) hx hb (nI_add _ _) dX6_readsSet_15 ?_
    refine n_put (ci := 6) (v := .int (nI (pt + 1))) (C := RX6) (T := TX6) (N := 18) (ws' := (wR kA qr cc ac co ad rc nm st an svm cnt tx len th xf xt xs xa xw xc xk xp (pt + 1) none xm mny)) hx hb hts hinX6 tyX6 tyX6_ok nmX6 hown hK hP hD hS 0 rfl rfl 14 rfl ⟨rfl, rfl, rfl, rfl⟩ f193 rfl rfl rfl rfl dX6_readsSet_16 (fun H locs hP hD hS => ?_)
    refine lv_iconst (v := (nI 1)) hx hb dX6_readsSet_19 (by decide) ?_
    refine lv_aload_n hx hb dX6_readsSet_20 rfl (lv_at hl 0 rfl) ?_
    refine lv_iload_n hx hb dX6_readsSet_21 rfl (lv_at hl 1 rfl) ?_
    refine n_cV (b := qr 0) (As := [.int (nI k)]) (rest := [.int (nI 1)]) (wc := (wR kA qr cc ac co ad rc nm st an svm cnt tx len th xf xt xs xa xw xc xk xp (pt + 1) none xm mny)) hS0 (c_X6_answersOf lQ D kA qr cc ac co ad rc nm st an svm cnt tx len th xf xt xs xa xw xc xk xp (pt + 1) none xm mny k (by first | assumption | omega)) (cwV 1 hts gX6_readsSet_X6_answersOf rfl rfl rfl (by decide +kernel) ⟨Nat.le_of_ble_eq_true rfl, Nat.le_of_ble_eq_true rfl⟩) hP hK (q0 := 0) rfl rfl rfl rfl rfl hl.1 (Nat.le_of_ble_eq_true rfl) dX6_readsSet_22 ⟨Nat.le_refl _, Nat.le_refl _⟩ (fun r22 h22 => ?_)
    subst h22
    refine n_ishl (v := (nI (1 <<< (ac k)))) hx hb (nN_shl _ (by omega)) dX6_readsSet_25 ?_
    refine lv_iconst (v := (nI 1)) hx hb dX6_readsSet_26 (by decide) ?_
    refine n_isub (v := (nI ((1 <<< (ac k)) - 1))) hx hb (pk_sub (one_shl _)) dX6_readsSet_27 ?_
    have hz9 : (rsF tx len (ac k) pt).1 = 0 → none = some (rsF tx len (ac k) pt).2 := fun h => by
      rw [hrs9] at h
      have h : fulN (ac k) = 0 := h
      have h8 : ∀ a, a < 5 → 2 ≤ a → fulN a ≠ 0 := by decide
      exact absurd h (h8 (ac k) (by omega) (by omega))
    exact n_wreti hx hb hr hlocks (post := fun (r : Int32) (u : Nat × (Option Nat)) => ((rsF tx len (ac k) pt).1 = 0 → u.2 = some (rsF tx len (ac k) pt).2) ∧ ((rsF tx len (ac k) pt).1 ≠ 0 → (u.2 = none ∧ u.1 = (rsF tx len (ac k) pt).2 ∧ r = nI (rsF tx len (ac k) pt).1) ∨ (u.2 = some (rsF tx len (ac k) pt).2 ∧ (digT tx len (rsF tx len (ac k) pt).2).isSome = true)) ∧ u.1 ≤ len + 1) (w1 := fun u => (wR kA qr cc ac co ad rc nm st an svm cnt tx len th xf xt xs xa xw xc xk xp u.1 u.2 xm mny)) (pt + 1, none) ⟨hz9, (fun _ => Or.inl ⟨rfl, (by rw [hrs9]), (by rw [hrs9]; rfl)⟩), (by omega)⟩ hP hD hK hS hAe dX6_readsSet_28

