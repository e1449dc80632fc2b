
/-! ===== the best action ===== -/
theorem bst_lt {f : Nat → Nat} {n : Nat} (h : ∀ j, j < n → f j ≤ 45) (hn : 0 < n) : (bstN f n).2 ≤ 45 := by
  cases n with
  | zero => exact absurd hn (Nat.lt_irrefl 0)
  | succ n =>
    rw [bstN_s]
    have h1 := h n (Nat.lt_succ_self n)
    by_cases e : f n < (bstN f n).2
    · rw [if_pos e]; exact h1
    · rw [if_neg e]; omega
theorem up_eq {xa ax : Nat → Nat} {n c a : Nat} (h : ∀ j, j < n → xa j = ax j) : ∀ j, j < n → va_up xa c a j = va_up ax c a j := up_cong h

set_option maxHeartbeats 4000000 in
set_option maxRecDepth 100000 in
theorem c_X6_bestAction (lQ : Launch) (D : va_G) (kA : Nat → ClassId) (qr : Nat → Nat) (cc : Nat) (ac : Nat → Nat) (co : Nat → Nat) (ad : Nat) (rc : Nat) (nm : Nat → Nat) (st : Nat → Nat) (an : Nat → Nat) (svm : Nat → TCt) (cnt : Nat) (tx : Nat → Nat) (len : Nat) (th : Nat) (xf : Nat → Option Nat) (xt : Nat → Nat) (xs : Nat → Option Nat) (xa : Nat → Nat) (xw : Nat → Nat) (xc : Nat → Nat) (xk : Nat → Option Nat) (xp : Nat → Nat) (pt : Nat) (wr : Option Nat) (xm : Nat → Nat) (mny : Nat) (c0 : Int32) (sz : Nat) (hti : tIn cc ac co rc st an) : Met lQ yX6_bestAction wsX6_bestAction (rmN 5 110) (wr_Pc D vwCl [.ref (qr 0), .int c0] (wR kA qr cc ac co ad rc nm st an svm cnt tx len th xf xt xs xa xw xc xk xp pt wr xm mny) (tyK kA) sz) (va_Qi (S := (Nat → Option Nat) × (Nat → Nat) × (Nat → Option Nat) × (Nat → Nat) × (Nat → Nat) × (Nat → Nat) × (Nat → Option Nat) × (Nat → Nat) × Nat × (Option Nat) × (Nat → Nat) × Nat) (fun (r : Int32) (u : (Nat → Option Nat) × (Nat → Nat) × (Nat → Option Nat) × (Nat → Nat) × (Nat → Nat) × (Nat → Nat) × (Nat → Option Nat) × (Nat → Nat) × Nat × (Option Nat) × (Nat → Nat) × Nat) => (thBe c0 cc ac = 0 → r = (oI (beV cc ac co rc st an (c0.toNatClampNeg))))) (wr_B D vwCl (wR kA qr cc ac co ad rc nm st an svm cnt tx len th xf xt xs xa xw xc xk xp pt wr xm mny) (tyK kA) sz (fun u => (wR kA qr cc ac co ad rc nm st an svm cnt tx len (thBe c0 cc ac) u.1 u.2.1 u.2.2.1 u.2.2.2.1 u.2.2.2.2.1 u.2.2.2.2.2.1 u.2.2.2.2.2.2.1 u.2.2.2.2.2.2.2.1 u.2.2.2.2.2.2.2.2.1 u.2.2.2.2.2.2.2.2.2.1 u.2.2.2.2.2.2.2.2.2.2.1 u.2.2.2.2.2.2.2.2.2.2.2))) (va_A (wR kA qr cc ac co ad rc nm st an svm cnt tx len th xf xt xs xa xw xc xk xp pt wr xm mny) sz)) 0 0 (va_A (wR kA qr cc ac co ad rc nm st an svm cnt tx len th xf xt xs xa xw xc xk xp pt wr xm mny) sz) := by
  refine Met.ofW (cc := cX6_bestAction) (maxL := 5) (ret := (some .int)) (by decide) rfl ?_
  intro pQ eQ s mQ args below meth cQ s₁ B hml hv
  obtain ⟨rfl, hsz, hP, hK, hD0⟩ := hv
  have hx := B.exec
  have hb := B.bytes
  have hr := B.returns
  have hts := atoms_spec (ws := wsX6_bestAction) B.pre
  have hown : s.vm.findClass RX6 = some mQ.cls := findClass_of_methodNamed B.named
  have hlocks : meth.locks = false := B.notSynchronized
  have hS0 : CallFix pQ mQ cQ cX6_bestAction 5 s ([.ref (qr 0), .int c0] : List Value).toArray wsX6_bestAction RX6 := ⟨hx, hb, hml, hown, hts⟩
  subst hsz
  have hD := hD0.self (sz := s.heap.size)
  generalize hAe : va_A (wR kA qr cc ac co ad rc nm st an svm cnt tx len th xf xt xs xa xw xc xk xp pt wr xm mny) s.heap.size = A at hD ⊢
  have hA : ∀ q : Nat, s.heap.size ≤ q → A q := fun q h => by rw [← hAe]; exact Or.inr h
  have hS : va_S A s.heap s.heap [] := va_S.rf
  have f28 : (Cond.fieldLink RX6 28 "AskedRulesModel" "actions" "[I").before ([.ref (qr 0), .int c0] : List Value).toArray s = true := hts _ (by decide +kernel)
  have hinX6 : ∀ w ∈ wsX60, w ∈ wsX6_bestAction := by decide +kernel
  have f34 : (Cond.fieldLink RX6 34 "AskedRulesModel" "costs" "[I").before ([.ref (qr 0), .int c0] : List Value).toArray s = true := hts _ (by decide +kernel)
  have hl := lv_entry ([.ref (qr 0), .int c0]) (n := 5) (Nat.le_of_ble_eq_true rfl)
  rw [lg_entry_eq]
  generalize (lg_sl ([.ref (qr 0), .int c0]) ++ List.replicate (5 - (lg_sl ([.ref (qr 0), .int c0])).length) Slot.unset).toArray = ls at hl ⊢
  have hl : lv_has ls 5 [(0, .ref (qr 0)), (1, .int c0)] := hl
  have hP : va_P D vwCl (wR kA qr cc ac co ad rc nm st an svm cnt tx len th xf xt xs xa xw xc xk xp pt wr xm mny) s.heap := hP
  have hD : va_D A (wR kA qr cc ac co ad rc nm st an svm cnt tx len th xf xt xs xa xw xc xk xp pt wr xm mny) := hD
  obtain ⟨hcc, hac, hco1, hrc, han10, hst⟩ := hti
  have han : ∀ j, j < rc → an j < 11 := fun j hj => Nat.lt_succ_of_lt (han10 j hj)
  have hco : ∀ k, k < cc → co k < 10 := fun k hk => (hco1 k hk).2
  have hP10 := prodF_1024 hcc hac
  refine lv_aload_n hx hb dX6_bestAction_0 rfl (lv_at hl 0 rfl) ?_
  refine lv_aload_n hx hb dX6_bestAction_1 rfl (lv_at hl 0 rfl) ?_
  refine lv_iload_n hx hb dX6_bestAction_2 rfl (lv_at hl 1 rfl) ?_
  refine n_cV (b := qr 0) (As := [.int c0]) (rest := [.ref (qr 0)]) (wc := (wR kA qr cc ac co ad rc nm st an svm cnt tx len th xf xt xs xa xw xc xk xp pt wr xm mny)) hS0 (c_X6_isCase lQ D kA qr cc ac co ad rc nm st an svm cnt tx len th xf xt xs xa xw xc xk xp pt wr xm mny c0 (by first | assumption | omega) (by first | assumption | omega)) (cwV 1 hts gX6_bestAction_X6_isCase rfl rfl rfl (by decide +kernel) ⟨Nat.le_of_ble_eq_true rfl, Nat.le_of_ble_eq_true rfl⟩) hP hK (q0 := 0) rfl rfl rfl rfl rfl hl.1 (Nat.le_of_ble_eq_true rfl) dX6_bestAction_3 ⟨Nat.le_refl _, Nat.le_refl _⟩ (fun r3 h3 => ?_)
  subst h3
  refine n_ifb_ne (b := inB c0 (prodF ac cc)) (tgt := 13) hx hb dX6_bestAction_6 (by decide) (fun c6 => ?_) (fun c6 => ?_)
  · refine lv_iconst (v := (nI 0)) hx hb dX6_bestAction_13 (by decide) ?_
    refine lv_iconst (v := (nI 0)) hx hb dX6_bestAction_14 (by decide) ?_
    refine n_wVi (b := qr 0) (As := [.int (bI false), .int (bI false)]) (rest := []) (wr := []) (ws' := fun u => (wR kA qr cc ac co ad rc nm st an svm cnt tx len (thF false false) xf xt xs xa xw xc xk xp pt wr xm mny)) hS0 (c_X6_throwing lQ D kA qr cc ac co ad rc nm st an svm cnt tx len th xf xt xs xa xw xc xk xp pt wr xm mny false false s.heap.size ) (cwV 2 hts gX6_bestAction_X6_throwing rfl rfl rfl (by decide +kernel) ⟨Nat.le_of_ble_eq_true rfl, Nat.le_of_ble_eq_true rfl⟩) hP hD hS hA hK hK (by simpa only [List.append_assoc, List.append_nil] using (List.Perm.of_eq (List.append_nil _).symm)) (fun u => List.Perm.symm (by simpa only [List.append_assoc, List.append_nil] using (List.Perm.of_eq (List.append_nil _).symm))) (q0 := 0) rfl rfl rfl rfl rfl hl.1 (Nat.le_of_ble_eq_true rfl) dX6_bestAction_15 ⟨Nat.le_refl _, Nat.le_refl _⟩ (fun r15 u15 H locs h15 hP hD hS => ?_)
    subst h15
    have hP : va_P D vwCl (wR kA qr cc ac co ad rc nm st an svm cnt tx len (thF false false) xf xt xs xa xw xc xk xp pt wr xm mny) H := hP
    have hD : va_D A (wR kA qr cc ac co ad rc nm st an svm cnt tx len (thF false false) xf xt xs xa xw xc xk xp pt wr xm mny) := hD
    show W pQ lQ eQ (headSpec wsX6_bestAction (rmN 5 110)).room s mQ ([.ref (qr 0), .int c0] : List Value).toArray below meth cQ H locs 0 0 (MQ below (va_Qi (S := (Nat → Option Nat) × (Nat → Nat) × (Nat → Option Nat) × (Nat → Nat) × (Nat → Nat) × (Nat → Nat) × (Nat → Option Nat) × (Nat → Nat) × Nat × (Option Nat) × (Nat → Nat) × Nat) (fun (r : Int32) (u : (Nat → Option Nat) × (Nat → Nat) × (Nat → Option Nat) × (Nat → Nat) × (Nat → Nat) × (Nat → Nat) × (Nat → Option Nat) × (Nat → Nat) × Nat × (Option Nat) × (Nat → Nat) × Nat) => (thBe c0 cc ac = 0 → r = (oI (beV cc ac co rc st an (c0.toNatClampNeg))))) (wr_B D vwCl (wR kA qr cc ac co ad rc nm st an svm cnt tx len th xf xt xs xa xw xc xk xp pt wr xm mny) (tyK kA) s.heap.size (fun u => (wR kA qr cc ac co ad rc nm st an svm cnt tx len (thBe c0 cc ac) u.1 u.2.1 u.2.2.1 u.2.2.2.1 u.2.2.2.2.1 u.2.2.2.2.2.1 u.2.2.2.2.2.2.1 u.2.2.2.2.2.2.2.1 u.2.2.2.2.2.2.2.2.1 u.2.2.2.2.2.2.2.2.2.1 u.2.2.2.2.2.2.2.2.2.2.1 u.2.2.2.2.2.2.2.2.2.2.2))) A) ([.ref (qr 0), .int c0] : List Value).toArray s 0 0 A) (F0 mQ 18 ls [.int (bI false)])
    refine lv_if_eq (tgt := 23) hx hb dX6_bestAction_18 (by decide) (fun _ => ?_) (fun h => absurd (by decide) h)
    obtain ⟨hk1, hk2⟩ := inB_c (by omega) c6
    have hl : lv_has ls 5 [(0, .ref (qr 0)), (1, .int (nI c0.toNatClampNeg))] := by rw [← hk1]; exact hl
    refine lv_aload_n hx hb dX6_bestAction_23 rfl (lv_at hl 0 rfl) ?_
    refine lv_iconst (v := (oI none)) hx hb dX6_bestAction_24 (by decide) ?_
    refine n_wVv (b := qr 0) (As := [.int (oI none)]) (rest := []) (wr := []) (ws' := fun u => (wR kA qr cc ac co ad rc nm st an svm cnt tx len (thF false false) u.1 u.2.1 u.2.2.1 u.2.2.2 xw xc xk xp pt wr xm mny)) hS0 (c_X6_lays lQ D kA qr cc ac co ad rc nm st an svm cnt tx len (thF false false) xf xt xs xa xw xc xk xp pt wr xm mny H.size (by first | assumption | omega) (by first | assumption | omega) (by first | assumption | omega) (by first | assumption | omega) (by first | assumption | omega)) (cwV 1 hts gX6_bestAction_X6_lays rfl rfl rfl (by decide +kernel) ⟨Nat.le_of_ble_eq_true rfl, Nat.le_of_ble_eq_true rfl⟩) hP hD hS hA hK hK (by simpa only [List.append_assoc, List.append_nil] using (List.Perm.of_eq (List.append_nil _).symm)) (fun u => List.Perm.symm (by simpa only [List.append_assoc, List.append_nil] using (List.Perm.of_eq (List.append_nil _).symm))) (q0 := 0) rfl rfl rfl rfl rfl hl.1 (Nat.le_of_ble_eq_true rfl) dX6_bestAction_25 ⟨Nat.le_refl _, Nat.le_refl _⟩ (fun u25 H locs h25 hP hD hS => ?_)
    obtain ⟨xf1_25, xt1_25, xs1_25, xa1_25⟩ := u25
    have h25_1 := h25
    try dsimp only at h25_1
    have hP : va_P D vwCl (wR kA qr cc ac co ad rc nm st an svm cnt tx len (thF false false) xf1_25 xt1_25 xs1_25 xa1_25 xw xc xk xp pt wr xm mny) H := hP
    have hD : va_D A (wR kA qr cc ac co ad rc nm st an svm cnt tx len (thF false false) xf1_25 xt1_25 xs1_25 xa1_25 xw xc xk xp pt wr xm mny) := hD
    have hx25 : xa1_25 c0.toNatClampNeg = axN cc ac rc st an c0.toNatClampNeg := (h25_1 _ hk2).2.2.2
    refine lv_aload_n hx hb dX6_bestAction_28 rfl (lv_at hl 0 rfl) ?_
    refine n_get (ci := 6) (v := .ref (qr 7)) (C := RX6) (T := TX6) (N := 18) hx hb hts hinX6 hown hK hP 0 rfl rfl 9 rfl ⟨rfl, rfl, rfl⟩ f28 rfl dX6_bestAction_29 ?_
    refine lv_iload_n hx hb dX6_bestAction_32 rfl (lv_at hl 1 rfl) ?_
    refine n_iald (i := c0.toNatClampNeg) (v := (nI (xa1_25 c0.toNatClampNeg))) hx hb hK hP 7 0 rfl rfl (by omega) (Nat.le_of_ble_eq_true rfl) rfl dX6_bestAction_33 ?_
    refine lv_bipush (v := (nI 10)) hx hb dX6_bestAction_34 (by decide) ?_
    refine n_icmp_eq (a := xa1_25 c0.toNatClampNeg) (b := 10) (tgt := 41) hx hb (by rw [hx25]; exact Nat.lt_trans (actO_lt han) (by decide)) (by decide) dX6_bestAction_36 (by decide) (fun c36 => ?_) (fun c36 => ?_)
    · refine lv_iconst (v := (oI none)) hx hb dX6_bestAction_41 (by decide) ?_
      refine lv_istore_n (lv' := [(2, .int (oI none)), (0, .ref (qr 0)), (1, .int (nI c0.toNatClampNeg))]) hx hb dX6_bestAction_42 rfl hl (by decide) rfl (fun ls hl => ?_)
      refine lv_iconst (v := (nI 0)) hx hb dX6_bestAction_43 (by decide) ?_
      refine lv_istore_n (lv' := [(3, .int (nI 0)), (2, .int (oI none)), (0, .ref (qr 0)), (1, .int (nI c0.toNatClampNeg))]) hx hb dX6_bestAction_44 rfl hl (by decide) rfl (fun ls hl => ?_)
      refine lv_iconst (v := (nI 0)) hx hb dX6_bestAction_45 (by decide) ?_
      refine lv_istore (lv' := [(4, .int (nI 0)), (3, .int (nI 0)), (2, .int (oI none)), (0, .ref (qr 0)), (1, .int (nI c0.toNatClampNeg))]) hx hb dX6_bestAction_46 hl (by decide) rfl (fun ls hl => ?_)
      have L48 : ∀ (nQ : Nat) (i : Nat) (o9 : Option Nat) (v9 : Nat) (xax : Nat → Nat) (xwx : Nat → Nat) (xcx : Nat → Nat) (xkx : Nat → Option Nat) (xpx : Nat → Nat), 10 - i < nQ → (i ≤ 10) → (∀ a z, va_up xax c0.toNatClampNeg a z = va_up xa1_25 c0.toNatClampNeg a z) → (∀ j, j < i → (fun j => (plT cc ac co (va_up (axN cc ac rc st an) c0.toNatClampNeg j)).2 0) j ≤ 45) → (∀ q, o9 = some q → q < 10) → (o9 = if i = 0 then none else some (bstN (fun j => (plT cc ac co (va_up (axN cc ac rc st an) c0.toNatClampNeg j)).2 0) i).1) → (0 < i → v9 = (bstN (fun j => (plT cc ac co (va_up (axN cc ac rc st an) c0.toNatClampNeg j)).2 0) i).2) → ∀ (H : Heap) (locs : List Loc), va_P D vwCl (wR kA qr cc ac co ad rc nm st an svm cnt tx len (thF false false) xf1_25 xt1_25 xs1_25 xax xwx xcx xkx xpx pt wr xm mny) H → va_D A (wR kA qr cc ac co ad rc nm st an svm cnt tx len (thF false false) xf1_25 xt1_25 xs1_25 xax xwx xcx xkx xpx pt wr xm mny) → va_S A s.heap H locs → ∀ (ls : Array Slot), lv_has ls 5 [(4, .int (nI i)), (3, .int (nI v9)), (2, .int (oI o9)), (0, .ref (qr 0)), (1, .int (nI c0.toNatClampNeg))] → W pQ lQ eQ (headSpec wsX6_bestAction (rmN 5 110)).room s mQ ([.ref (qr 0), .int c0] : List Value).toArray below meth cQ H locs 0 0 (MQ below (va_Qi (S := (Nat → Option Nat) × (Nat → Nat) × (Nat → Option Nat) × (Nat → Nat) × (Nat → Nat) × (Nat → Nat) × (Nat → Option Nat) × (Nat → Nat) × Nat × (Option Nat) × (Nat → Nat) × Nat) (fun (r : Int32) (u : (Nat → Option Nat) × (Nat → Nat) × (Nat → Option Nat) × (Nat → Nat) × (Nat → Nat) × (Nat → Nat) × (Nat → Option Nat) × (Nat → Nat) × Nat × (Option Nat) × (Nat → Nat) × Nat) => (thBe c0 cc ac = 0 → r = (oI (beV cc ac co rc st an (c0.toNatClampNeg))))) (wr_B D vwCl (wR kA qr cc ac co ad rc nm st an svm cnt tx len th xf xt xs xa xw xc xk xp pt wr xm mny) (tyK kA) s.heap.size (fun u => (wR kA qr cc ac co ad rc nm st an svm cnt tx len (thBe c0 cc ac) u.1 u.2.1 u.2.2.1 u.2.2.2.1 u.2.2.2.2.1 u.2.2.2.2.2.1 u.2.2.2.2.2.2.1 u.2.2.2.2.2.2.2.1 u.2.2.2.2.2.2.2.2.1 u.2.2.2.2.2.2.2.2.2.1 u.2.2.2.2.2.2.2.2.2.2.1 u.2.2.2.2.2.2.2.2.2.2.2))) A) ([.ref (qr 0), .int c0] : List Value).toArray s 0 0 A) (F0 mQ 48 ls []) := by
        intro nQ
        induction nQ with
        | zero => intro i o9 v9 xax xwx xcx xkx xpx hn; exact absurd hn (Nat.not_lt_zero _)
        | succ nQ ih48 =>
          intro i o9 v9 xax xwx xcx xkx xpx hm48 hi hxx hle9 hob9 hb9 hv9 H locs hP hD hS ls hl
          refine lv_iload hx hb dX6_bestAction_48 (lv_at hl 0 rfl) ?_
          refine lv_bipush (v := (nI 10)) hx hb dX6_bestAction_50 (by decide) ?_
          refine n_icmp_ge (a := i) (b := 10) (tgt := 98) hx hb (by omega) (by omega) dX6_bestAction_52 (by decide) (fun c52 => ?_) (fun c52 => ?_)
          · refine lv_iload_n hx hb dX6_bestAction_98 rfl (lv_at hl 2 rfl) ?_
            have hth : thBe c0 cc ac = (thF false false) := (by first | (unfold thBe; rw [c6]; first | done | rfl))
            have hw9 : (wR kA qr cc ac co ad rc nm st an svm cnt tx len (thF false false) xf1_25 xt1_25 xs1_25 xax xwx xcx xkx xpx pt wr xm mny) = (wR kA qr cc ac co ad rc nm st an svm cnt tx len (thBe c0 cc ac) xf1_25 xt1_25 xs1_25 xax xwx xcx xkx xpx pt wr xm mny) := (by rw [hth]; first | done | rfl)
            rw [hw9] at hP hD
            exact n_wreti hx hb hr hlocks (post := fun (r : Int32) (u : (Nat → Option Nat) × (Nat → Nat) × (Nat → Option Nat) × (Nat → Nat) × (Nat → Nat) × (Nat → Nat) × (Nat → Option Nat) × (Nat → Nat) × Nat × (Option Nat) × (Nat → Nat) × Nat) => (thBe c0 cc ac = 0 → r = (oI (beV cc ac co rc st an (c0.toNatClampNeg))))) (w1 := fun u => (wR kA qr cc ac co ad rc nm st an svm cnt tx len (thBe c0 cc ac) u.1 u.2.1 u.2.2.1 u.2.2.2.1 u.2.2.2.2.1 u.2.2.2.2.2.1 u.2.2.2.2.2.2.1 u.2.2.2.2.2.2.2.1 u.2.2.2.2.2.2.2.2.1 u.2.2.2.2.2.2.2.2.2.1 u.2.2.2.2.2.2.2.2.2.2.1 u.2.2.2.2.2.2.2.2.2.2.2)) (xf1_25, xt1_25, xs1_25, xax, xwx, xcx, xkx, xpx, pt, wr, xm, mny) (by first | exact (fun h => absurd (h.symm.trans hth) (by decide)) | exact (fun _ => (by unfold beV; first | (rw [if_pos (by have := (hole_iff (cc := cc) (ac := ac) (st := st) (c := c0.toNatClampNeg) han10); rw [← hx25] at this; omega)]; done) | (rw [if_neg (by have := (hole_iff (cc := cc) (ac := ac) (st := st) (c := c0.toNatClampNeg) han10); rw [← hx25] at this; omega), hb9, if_neg (show ¬ i = 0 by omega), show i = 10 by omega]; rfl)))) hP hD hK hS hAe dX6_bestAction_99
          · refine lv_aload_n hx hb dX6_bestAction_55 rfl (lv_at hl 3 rfl) ?_
            refine n_get (ci := 6) (v := .ref (qr 7)) (C := RX6) (T := TX6) (N := 18) hx hb hts hinX6 hown hK hP 0 rfl rfl 9 rfl ⟨rfl, rfl, rfl⟩ f28 rfl dX6_bestAction_56 ?_
            refine lv_iload_n hx hb dX6_bestAction_59 rfl (lv_at hl 4 rfl) ?_
            refine lv_iload hx hb dX6_bestAction_60 (lv_at hl 0 rfl) ?_
            refine n_iast (i := c0.toNatClampNeg) (x := (nI i)) (g := aN (va_up xax c0.toNatClampNeg i)) (ws' := (wR kA qr cc ac co ad rc nm st an svm cnt tx len (thF false false) xf1_25 xt1_25 xs1_25 (va_up xax c0.toNatClampNeg i) xwx xcx xkx xpx pt wr xm mny)) hx hb hK hP hD hS 7 0 rfl rfl (by omega) (Nat.le_of_ble_eq_true rfl) (aN_up _ _ _) rfl dX6_bestAction_62 (fun H locs hP hD hS => ?_)
            have hxl9 : ∀ c, c < prodF ac cc → va_up xax c0.toNatClampNeg i c < 11 := fun c hc => by
              by_cases e : c = c0.toNatClampNeg
              · rw [e, up_s]; omega
              · rw [hxx i c, up_n _ _ e, (h25_1 c hc).2.2.2]; exact actO_lt han
            refine lv_aload_n hx hb dX6_bestAction_63 rfl (lv_at hl 3 rfl) ?_
            refine n_wVv (b := qr 0) (As := []) (rest := []) (wr := []) (ws' := fun u => (wR kA qr cc ac co ad rc nm st an svm cnt tx len (thF false false) xf1_25 xt1_25 xs1_25 (va_up xax c0.toNatClampNeg i) u.1 u.2.1 u.2.2.1 u.2.2.2 pt wr xm mny)) hS0 (c_X6_laysPlans lQ D kA qr cc ac co ad rc nm st an svm cnt tx len (thF false false) xf1_25 xt1_25 xs1_25 (va_up xax c0.toNatClampNeg i) xwx xcx xkx xpx pt wr xm mny H.size (by first | assumption | omega) (by first | assumption | omega) (by first | assumption | omega) hxl9) (cwV 0 hts gX6_bestAction_X6_laysPlans rfl rfl rfl (by decide +kernel) ⟨Nat.le_of_ble_eq_true rfl, Nat.le_of_ble_eq_true rfl⟩) hP hD hS hA hK hK (by simpa only [List.append_assoc, List.append_nil] using (List.Perm.of_eq (List.append_nil _).symm)) (fun u => List.Perm.symm (by simpa only [List.append_assoc, List.append_nil] using (List.Perm.of_eq (List.append_nil _).symm))) (q0 := 0) rfl rfl rfl rfl rfl hl.1 (Nat.le_of_ble_eq_true rfl) dX6_bestAction_64 ⟨Nat.le_refl _, Nat.le_refl _⟩ (fun u64 H locs h64 hP hD hS => ?_)
            obtain ⟨xw1_64, xc1_64, xk1_64, xp1_64⟩ := u64
            obtain ⟨h64_1, h64_2⟩ := h64
            try dsimp only at h64_1 h64_2
            have hP : va_P D vwCl (wR kA qr cc ac co ad rc nm st an svm cnt tx len (thF false false) xf1_25 xt1_25 xs1_25 (va_up xax c0.toNatClampNeg i) xw1_64 xc1_64 xk1_64 xp1_64 pt wr xm mny) H := hP
            have hD : va_D A (wR kA qr cc ac co ad rc nm st an svm cnt tx len (thF false false) xf1_25 xt1_25 xs1_25 (va_up xax c0.toNatClampNeg i) xw1_64 xc1_64 xk1_64 xp1_64 pt wr xm mny) := hD
            have hxx9 : ∀ c, c < prodF ac cc → va_up xax c0.toNatClampNeg i c = va_up (axN cc ac rc st an) c0.toNatClampNeg i c := fun c hc => by rw [hxx i c]; exact up_cong (fun j hj => (h25_1 j hj).2.2.2) c hc
            have hfin := plM_fin hcc hac hco hxl9 hxx9 h64_1 (Nat.pow_pos (by decide)) val_0
            have hwo9 := plM_wo hac hco h64_1 _ 0 (Nat.lt_succ_self _) (Nat.pow_pos (by decide)) val_0
            rw [tom_0] at hfin hwo9
            have hop9 := opn_le (cc := cc) (y := 0)
            have hwf9 : (fun j => (plT cc ac co (va_up (axN cc ac rc st an) c0.toNatClampNeg j)).2 0) i = xc1_64 0 := hfin.1.symm
            have hst9 : (bstN (fun j => (plT cc ac co (va_up (axN cc ac rc st an) c0.toNatClampNeg j)).2 0) (i + 1)) = (if xc1_64 0 < (bstN (fun j => (plT cc ac co (va_up (axN cc ac rc st an) c0.toNatClampNeg j)).2 0) i).2 then (i, xc1_64 0) else bstN (fun j => (plT cc ac co (va_up (axN cc ac rc st an) c0.toNatClampNeg j)).2 0) i) := by rw [bstN_s, ← hfin.1]
            refine lv_iload_n hx hb dX6_bestAction_67 rfl (lv_at hl 2 rfl) ?_
            refine lv_iconst (v := (oI none)) hx hb dX6_bestAction_68 (by decide) ?_
            refine n_icmpo_eq (o := o9) (tgt := 82) hx hb (fun q h => by have := hob9 q h; omega) dX6_bestAction_69 (by decide) (fun c69 => ?_) (fun q69 c69 => ?_)
            · have hl : lv_has ls 5 [(4, .int (nI i)), (3, .int (nI v9)), (2, .int (oI none)), (0, .ref (qr 0)), (1, .int (nI c0.toNatClampNeg))] := by rw [c69] at hl; exact hl
              have hi0 : i = 0 := by
                by_cases e : i = 0
                · exact e
                · rw [hb9, if_neg e] at c69; cases c69
              have hb0 : (bstN (fun j => (plT cc ac co (va_up (axN cc ac rc st an) c0.toNatClampNeg j)).2 0) i).2 = 100 := by rw [hi0]; rfl
              refine lv_iload hx hb dX6_bestAction_82 (lv_at hl 0 rfl) ?_
              refine lv_istore_n (lv' := [(2, .int (nI i)), (4, .int (nI i)), (3, .int (nI v9)), (0, .ref (qr 0)), (1, .int (nI c0.toNatClampNeg))]) hx hb dX6_bestAction_84 rfl hl (by decide) rfl (fun ls hl => ?_)
              refine lv_aload_n hx hb dX6_bestAction_85 rfl (lv_at hl 3 rfl) ?_
              refine n_get (ci := 6) (v := .ref (qr 9)) (C := RX6) (T := TX6) (N := 18) hx hb hts hinX6 hown hK hP 0 rfl rfl 11 rfl ⟨rfl, rfl, rfl⟩ f34 rfl dX6_bestAction_86 ?_
              refine lv_iconst (v := (nI 0)) hx hb dX6_bestAction_89 (by decide) ?_
              refine n_iald (i := 0) (v := (nI (xc1_64 0))) hx hb hK hP 9 0 rfl rfl (by omega) (Nat.le_of_ble_eq_true rfl) rfl dX6_bestAction_90 ?_
              refine lv_istore_n (lv' := [(3, .int (nI (xc1_64 0))), (2, .int (nI i)), (4, .int (nI i)), (0, .ref (qr 0)), (1, .int (nI c0.toNatClampNeg))]) hx hb dX6_bestAction_91 rfl hl (by decide) rfl (fun ls hl => ?_)
              refine lv_iinc (v := (nI (i + 1))) (lv' := [(4, .int (nI (i + 1))), (3, .int (nI (xc1_64 0))), (2, .int (nI i)), (0, .ref (qr 0)), (1, .int (nI c0.toNatClampNeg))]) hx hb dX6_bestAction_92 hl (k := 2) rfl (nI_inc _) (by decide) rfl (fun ls hl => ?_)
              refine lv_goto (tgt := 48) hx hb dX6_bestAction_95 (by decide) ?_
              exact ih48 (i + 1) (some i) (xc1_64 0) (va_up xax c0.toNatClampNeg i) xw1_64 xc1_64 xk1_64 xp1_64 (by omega) (by first | assumption | omega) (fun a z => by rw [up_up]; exact hxx a z) (fun j hj => by by_cases e : j = i; (rw [e, hwf9]; omega); exact hle9 j (by omega)) (fun q h => by first | (cases h; omega) | exact hob9 q (c69.trans h)) (by rw [if_neg (Nat.succ_ne_zero i), hst9]; first | (rw [if_pos (by omega)]; done) | (rw [if_pos (by omega)]; rfl) | (rw [if_neg (by omega), ← c69, hb9, if_neg (by omega)])) (fun _ => by rw [hst9]; first | (rw [if_pos (by omega)]; done) | (rw [if_pos (by omega)]; rfl) | (rw [if_neg (by omega)]; exact hv8)) _ _ hP hD hS _ (lv_sub hl [0, 1, 2, 3, 4] rfl)
            · have hl : lv_has ls 5 [(4, .int (nI i)), (3, .int (nI v9)), (2, .int (nI q69)), (0, .ref (qr 0)), (1, .int (nI c0.toNatClampNeg))] := by rw [c69] at hl; exact hl
              have hi0 : 0 < i := by
                by_cases e : i = 0
                · rw [hb9, if_pos e] at c69; cases c69
                · omega
              have hv8 := hv9 hi0
              have hbl9 := bst_lt hle9 hi0
              refine lv_aload_n hx hb dX6_bestAction_72 rfl (lv_at hl 3 rfl) ?_
              refine n_get (ci := 6) (v := .ref (qr 9)) (C := RX6) (T := TX6) (N := 18) hx hb hts hinX6 hown hK hP 0 rfl rfl 11 rfl ⟨rfl, rfl, rfl⟩ f34 rfl dX6_bestAction_73 ?_
              refine lv_iconst (v := (nI 0)) hx hb dX6_bestAction_76 (by decide) ?_
              refine n_iald (i := 0) (v := (nI (xc1_64 0))) hx hb hK hP 9 0 rfl rfl (by omega) (Nat.le_of_ble_eq_true rfl) rfl dX6_bestAction_77 ?_
              refine lv_iload_n hx hb dX6_bestAction_78 rfl (lv_at hl 1 rfl) ?_
              refine n_icmp_ge (a := xc1_64 0) (b := v9) (tgt := 92) hx hb (by omega) (by rw [hv8]; omega) dX6_bestAction_79 (by decide) (fun c79 => ?_) (fun c79 => ?_)
              · refine lv_iinc (v := (nI (i + 1))) (lv' := [(4, .int (nI (i + 1))), (3, .int (nI v9)), (2, .int (nI q69)), (0, .ref (qr 0)), (1, .int (nI c0.toNatClampNeg))]) hx hb dX6_bestAction_92 hl (k := 0) rfl (nI_inc _) (by decide) rfl (fun ls hl => ?_)
                refine lv_goto (tgt := 48) hx hb dX6_bestAction_95 (by decide) ?_
                exact ih48 (i + 1) (some q69) v9 (va_up xax c0.toNatClampNeg i) xw1_64 xc1_64 xk1_64 xp1_64 (by omega) (by first | assumption | omega) (fun a z => by rw [up_up]; exact hxx a z) (fun j hj => by by_cases e : j = i; (rw [e, hwf9]; omega); exact hle9 j (by omega)) (fun q h => by first | (cases h; omega) | exact hob9 q (c69.trans h)) (by rw [if_neg (Nat.succ_ne_zero i), hst9]; first | (rw [if_pos (by omega)]; done) | (rw [if_pos (by omega)]; rfl) | (rw [if_neg (by omega), ← c69, hb9, if_neg (by omega)])) (fun _ => by rw [hst9]; first | (rw [if_pos (by omega)]; done) | (rw [if_pos (by omega)]; rfl) | (rw [if_neg (by omega)]; exact hv8)) _ _ hP hD hS _ (lv_sub hl [0, 1, 2, 3, 4] rfl)
              · refine lv_iload hx hb dX6_bestAction_82 (lv_at hl 0 rfl) ?_
                refine lv_istore_n (lv' := [(2, .int (nI i)), (4, .int (nI i)), (3, .int (nI v9)), (0, .ref (qr 0)), (1, .int (nI c0.toNatClampNeg))]) hx hb dX6_bestAction_84 rfl hl (by decide) rfl (fun ls hl => ?_)
                refine lv_aload_n hx hb dX6_bestAction_85 rfl (lv_at hl 3 rfl) ?_
                refine n_get (ci := 6) (v := .ref (qr 9)) (C := RX6) (T := TX6) (N := 18) hx hb hts hinX6 hown hK hP 0 rfl rfl 11 rfl ⟨rfl, rfl, rfl⟩ f34 rfl dX6_bestAction_86 ?_
                refine lv_iconst (v := (nI 0)) hx hb dX6_bestAction_89 (by decide) ?_
                refine n_iald (i := 0) (v := (nI (xc1_64 0))) hx hb hK hP 9 0 rfl rfl (by omega) (Nat.le_of_ble_eq_true rfl) rfl dX6_bestAction_90 ?_
                refine lv_istore_n (lv' := [(3, .int (nI (xc1_64 0))), (2, .int (nI i)), (4, .int (nI i)), (0, .ref (qr 0)), (1, .int (nI c0.toNatClampNeg))]) hx hb dX6_bestAction_91 rfl hl (by decide) rfl (fun ls hl => ?_)
                refine lv_iinc (v := (nI (i + 1))) (lv' := [(4, .int (nI (i + 1))), (3, .int (nI (xc1_64 0))), (2, .int (nI i)), (0, .ref (qr 0)), (1, .int (nI c0.toNatClampNeg))]) hx hb dX6_bestAction_92 hl (k := 2) rfl (nI_inc _) (by decide) rfl (fun ls hl => ?_)
                refine lv_goto (tgt := 48) hx hb dX6_bestAction_95 (by decide) ?_
                exact ih48 (i + 1) (some i) (xc1_64 0) (va_up xax c0.toNatClampNeg i) xw1_64 xc1_64 xk1_64 xp1_64 (by omega) (by first | assumption | omega) (fun a z => by rw [up_up]; exact hxx a z) (fun j hj => by by_cases e : j = i; (rw [e, hwf9]; omega); exact hle9 j (by omega)) (fun q h => by first | (cases h; omega) | exact hob9 q (c69.trans h)) (by rw [if_neg (Nat.succ_ne_zero i), hst9]; first | (rw [if_pos (by omega)]; done) | (rw [if_pos (by omega)]; rfl) | (rw [if_neg (by omega), ← c69, hb9, if_neg (by omega)])) (fun _ => by rw [hst9]; first | (rw [if_pos (by omega)]; done) | (rw [if_pos (by omega)]; rfl) | (rw [if_neg (by omega)]; exact hv8)) _ _ hP hD hS _ (lv_sub hl [0, 1, 2, 3, 4] rfl)
      exact L48 ((10 - 0) + 1) 0 none 0 xa1_25 xw xc xk xp (Nat.lt_succ_self _) (by first | assumption | omega) (fun _ _ => rfl) (fun j hj => absurd hj (Nat.not_lt_zero _)) (fun q h => by cases h) rfl (fun h => absurd h (Nat.lt_irrefl 0)) _ _ hP hD hS _ (lv_sub hl [0, 1, 2, 3, 4] rfl)
    · refine lv_iconst (v := (oI none)) hx hb dX6_bestAction_39 (by decide) ?_
      have hth : thBe c0 cc ac = (thF false false) := (by first | (unfold thBe; rw [c6]; first | done | rfl))
      have hw9 : (wR kA qr cc ac co ad rc nm st an svm cnt tx len (thF false false) xf1_25 xt1_25 xs1_25 xa1_25 xw xc xk xp pt wr xm mny) = (wR kA qr cc ac co ad rc nm st an svm cnt tx len (thBe c0 cc ac) xf1_25 xt1_25 xs1_25 xa1_25 xw xc xk xp pt wr xm mny) := (by rw [hth]; first | done | rfl)
      rw [hw9] at hP hD
      exact n_wreti hx hb hr hlocks (post := fun (r : Int32) (u : (Nat → Option Nat) × (Nat → Nat) × (Nat → Option Nat) × (Nat → Nat) × (Nat → Nat) × (Nat → Nat) × (Nat → Option Nat) × (Nat → Nat) × Nat × (Option Nat) × (Nat → Nat) × Nat) => (thBe c0 cc ac = 0 → r = (oI (beV cc ac co rc st an (c0.toNatClampNeg))))) (w1 := fun u => (wR kA qr cc ac co ad rc nm st an svm cnt tx len (thBe c0 cc ac) u.1 u.2.1 u.2.2.1 u.2.2.2.1 u.2.2.2.2.1 u.2.2.2.2.2.1 u.2.2.2.2.2.2.1 u.2.2.2.2.2.2.2.1 u.2.2.2.2.2.2.2.2.1 u.2.2.2.2.2.2.2.2.2.1 u.2.2.2.2.2.2.2.2.2.2.1 u.2.2.2.2.2.2.2.2.2.2.2)) (xf1_25, xt1_25, xs1_25, xa1_25, xw, xc, xk, xp, pt, wr, xm, mny) (by first | exact (fun h => absurd (h.symm.trans hth) (by decide)) | exact (fun _ => (by unfold beV; first | (rw [if_pos (by have := (hole_iff (cc := cc) (ac := ac) (st := st) (c := c0.toNatClampNeg) han10); rw [← hx25] at this; omega)]; done) | (rw [if_neg (by have := (hole_iff (cc := cc) (ac := ac) (st := st) (c := c0.toNatClampNeg) han10); rw [← hx25] at this; omega), hb9, if_neg (show ¬ i = 0 by omega), show i = 10 by omega]; rfl)))) hP hD hK hS hAe dX6_bestAction_40
  · refine lv_iconst (v := (nI 1)) hx hb dX6_bestAction_9 (by decide) ?_
    refine lv_goto (tgt := 14) hx hb dX6_bestAction_10 (by decide) ?_
    refine lv_iconst (v := (nI 0)) hx hb dX6_bestAction_14 (by decide) ?_
    refine n_wVi (b := qr 0) (As := [.int (bI true), .int (bI false)]) (rest := []) (wr := []) (ws' := fun u => (wR kA qr cc ac co ad rc nm st an svm cnt tx len (thF true false) xf xt xs xa xw xc xk xp pt wr xm mny)) hS0 (c_X6_throwing lQ D kA qr cc ac co ad rc nm st an svm cnt tx len th xf xt xs xa xw xc xk xp pt wr xm mny true false s.heap.size ) (cwV 2 hts gX6_bestAction_X6_throwing rfl rfl rfl (by decide +kernel) ⟨Nat.le_of_ble_eq_true rfl, Nat.le_of_ble_eq_true rfl⟩) hP hD hS hA hK hK (by simpa only [List.append_assoc, List.append_nil] using (List.Perm.of_eq (List.append_nil _).symm)) (fun u => List.Perm.symm (by simpa only [List.append_assoc, List.append_nil] using (List.Perm.of_eq (List.append_nil _).symm))) (q0 := 0) rfl rfl rfl rfl rfl hl.1 (Nat.le_of_ble_eq_true rfl) dX6_bestAction_15 ⟨Nat.le_refl _, Nat.le_refl _⟩ (fun r15 u15 H locs h15 hP hD hS => ?_)
    subst h15
    have hP : va_P D vwCl (wR kA qr cc ac co ad rc nm st an svm cnt tx len (thF true false) xf xt xs xa xw xc xk xp pt wr xm mny) H := hP
    have hD : va_D A (wR kA qr cc ac co ad rc nm st an svm cnt tx len (thF true false) xf xt xs xa xw xc xk xp pt wr xm mny) := hD
    show W pQ lQ eQ (headSpec wsX6_bestAction (rmN 5 110)).room s mQ ([.ref (qr 0), .int c0] : List Value).toArray below meth cQ H locs 0 0 (MQ below (va_Qi (S := (Nat → Option Nat) × (Nat → Nat) × (Nat → Option Nat) × (Nat → Nat) × (Nat → Nat) × (Nat → Nat) × (Nat → Option Nat) × (Nat → Nat) × Nat × (Option Nat) × (Nat → Nat) × Nat) (fun (r : Int32) (u : (Nat → Option Nat) × (Nat → Nat) × (Nat → Option Nat) × (Nat → Nat) × (Nat → Nat) × (Nat → Nat) × (Nat → Option Nat) × (Nat → Nat) × Nat × (Option Nat) × (Nat → Nat) × Nat) => (thBe c0 cc ac = 0 → r = (oI (beV cc ac co rc st an (c0.toNatClampNeg))))) (wr_B D vwCl (wR kA qr cc ac co ad rc nm st an svm cnt tx len th xf xt xs xa xw xc xk xp pt wr xm mny) (tyK kA) s.heap.size (fun u => (wR kA qr cc ac co ad rc nm st an svm cnt tx len (thBe c0 cc ac) u.1 u.2.1 u.2.2.1 u.2.2.2.1 u.2.2.2.2.1 u.2.2.2.2.2.1 u.2.2.2.2.2.2.1 u.2.2.2.2.2.2.2.1 u.2.2.2.2.2.2.2.2.1 u.2.2.2.2.2.2.2.2.2.1 u.2.2.2.2.2.2.2.2.2.2.1 u.2.2.2.2.2.2.2.2.2.2.2))) A) ([.ref (qr 0), .int c0] : List Value).toArray s 0 0 A) (F0 mQ 18 ls [.int (bI true)])
    refine lv_if_eq (tgt := 23) hx hb dX6_bestAction_18 (by decide) (fun h => absurd h (by decide)) (fun _ => ?_)
    refine lv_iconst (v := (nI 0)) hx hb dX6_bestAction_21 (by decide) ?_
    have hth : thBe c0 cc ac = (thF true false) := (by first | (unfold thBe; rw [c6]; first | done | rfl))
    have hw9 : (wR kA qr cc ac co ad rc nm st an svm cnt tx len (thF true false) xf xt xs xa xw xc xk xp pt wr xm mny) = (wR kA qr cc ac co ad rc nm st an svm cnt tx len (thBe c0 cc ac) xf xt xs xa xw xc xk xp pt wr xm mny) := (by rw [hth]; first | done | rfl)
    rw [hw9] at hP hD
    exact n_wreti hx hb hr hlocks (post := fun (r : Int32) (u : (Nat → Option Nat) × (Nat → Nat) × (Nat → Option Nat) × (Nat → Nat) × (Nat → Nat) × (Nat → Nat) × (Nat → Option Nat) × (Nat → Nat) × Nat × (Option Nat) × (Nat → Nat) × Nat) => (thBe c0 cc ac = 0 → r = (oI (beV cc ac co rc st an (c0.toNatClampNeg))))) (w1 := fun u => (wR kA qr cc ac co ad rc nm st an svm cnt tx len (thBe c0 cc ac) u.1 u.2.1 u.2.2.1 u.2.2.2.1 u.2.2.2.2.1 u.2.2.2.2.2.1 u.2.2.2.2.2.2.1 u.2.2.2.2.2.2.2.1 u.2.2.2.2.2.2.2.2.1 u.2.2.2.2.2.2.2.2.2.1 u.2.2.2.2.2.2.2.2.2.2.1 u.2.2.2.2.2.2.2.2.2.2.2)) (xf, xt, xs, xa, xw, xc, xk, xp, pt, wr, xm, mny) (by first | exact (fun h => absurd (h.symm.trans hth) (by decide)) | exact (fun _ => (by unfold beV; first | (rw [if_pos (by have := (hole_iff (cc := cc) (ac := ac) (st := st) (c := c0.toNatClampNeg) han10); rw [← hx25] at this; omega)]; done) | (rw [if_neg (by have := (hole_iff (cc := cc) (ac := ac) (st := st) (c := c0.toNatClampNeg) han10); rw [← hx25] at this; omega), hb9, if_neg (show ¬ i = 0 by omega), show i = 10 by omega]; rfl)))) hP hD hK hS hAe dX6_bestAction_22

