
/-- one more set of the rasL kind: what it adds -/
theorem rasL_g {tx : Nat → Nat} {len : Nat} {ac : Nat → Nat} {cc i set p p1 : Nat} (hi : i < cc) (h : (i = 0 ∧ p1 = p) ∨ (0 < i ∧ hereF tx len p = some 44 ∧ p1 = p + 1)) : rasL tx len ac (cc - i) i set p = if (rsF tx len (ac i) p1).1 = 0 then (false, set, (rsF tx len (ac i) p1).2) else rasL tx len ac (cc - (i + 1)) (i + 1) (set ||| ((rsF tx len (ac i) p1).1 <<< (4 * i))) (rsF tx len (ac i) p1).2 := by
  rw [show cc - i = (cc - (i + 1)) + 1 by omega]
  rcases h with ⟨h1, h2⟩ | ⟨h1, h2, h3⟩
  · rw [h2]; exact rasL_z h1
  · rw [h3]; exact rasL_c h1 h2
/-- a set behind which a digit stands: the end of it all -/
theorem rasL_bad {tx : Nat → Nat} {len : Nat} {ac : Nat → Nat} {cc i set p : Nat} (hi : i ≤ cc) (h0 : 0 < i) (h : (digT tx len p).isSome = true) : ((rasL tx len ac (cc - i) i set p).1 = false ∧ p = (rasL tx len ac (cc - i) i set p).2.2) ∨ ((rasL tx len ac (cc - i) i set p).1 = true ∧ p = (rasL tx len ac (cc - i) i set p).2.2 ∧ hereF tx len p ≠ some 62) := by
  by_cases e : i = cc
  · rw [e, Nat.sub_self]
    exact Or.inr ⟨rfl, rfl, dig_not (d := 0) h (by omega)⟩
  · rw [show cc - i = (cc - (i + 1)) + 1 by omega, rasL_n h0 (dig_not (d := 0) h (by omega))]
    exact Or.inl ⟨rfl, rfl⟩

set_option maxHeartbeats 4000000 in
set_option maxRecDepth 100000 in
theorem c_X6_sets (lQ : Launch) (D : va_G) (kA : Nat → ClassId) (qr : Nat → Nat) (cc : Nat) (ac : Nat → Nat) (co : Nat → Nat) (ad : Nat) (rc : Nat) (nm : Nat → Nat) (st : Nat → Nat) (an : Nat → Nat) (svm : Nat → TCt) (cnt : Nat) (tx : Nat → Nat) (len : Nat) (th : Nat) (xf : Nat → Option Nat) (xt : Nat → Nat) (xs : Nat → Option Nat) (xa : Nat → Nat) (xw : Nat → Nat) (xc : Nat → Nat) (xk : Nat → Option Nat) (xp : Nat → Nat) (pt : Nat) (wr : Option Nat) (xm : Nat → Nat) (mny : Nat) (sz : Nat) (hlen : len ≤ 150) (htx : ∀ j, j < len → tx j < 128) (hpl : pt ≤ len) (hwr : wr = none) (hcc : cc ≤ 5) (hac : ∀ k, k < cc → 2 ≤ ac k ∧ ac k ≤ 4) : Met lQ yX6_sets wsX6_sets (rmN 3 66) (wr_Pc D vwCl [.ref (qr 0)] (wR kA qr cc ac co ad rc nm st an svm cnt tx len th xf xt xs xa xw xc xk xp pt wr xm mny) (tyK kA) sz) (va_Qi (S := Nat × (Option Nat)) (fun (r : Int32) (u : Nat × (Option Nat)) => (u.2 = none → hereF tx len pt = some 32 ∧ (rasL tx len ac cc 0 0 (pt + 1)).1 = true ∧ u.1 = (rasL tx len ac cc 0 0 (pt + 1)).2.2 ∧ r = nI (rasL tx len ac cc 0 0 (pt + 1)).2.1) ∧ (∀ q, u.2 = some q → ((¬ hereF tx len pt = some 32 ∧ q = pt) ∨ (hereF tx len pt = some 32 ∧ (rasL tx len ac cc 0 0 (pt + 1)).1 = false ∧ q = (rasL tx len ac cc 0 0 (pt + 1)).2.2) ∨ (hereF tx len pt = some 32 ∧ (rasL tx len ac cc 0 0 (pt + 1)).1 = true ∧ q = (rasL tx len ac cc 0 0 (pt + 1)).2.2 ∧ hereF tx len q ≠ some 62))) ∧ u.1 ≤ len + 3) (wr_B D vwCl (wR kA qr cc ac co ad rc nm st an svm cnt tx len th xf xt xs xa xw xc xk xp pt wr xm mny) (tyK kA) sz (fun u => (wR kA qr cc ac co ad rc nm st an svm cnt tx len th xf xt xs xa xw xc xk xp u.1 u.2 xm mny))) (va_A (wR kA qr cc ac co ad rc nm st an svm cnt tx len th xf xt xs xa xw xc xk xp pt wr xm mny) sz)) 0 0 (va_A (wR kA qr cc ac co ad rc nm st an svm cnt tx len th xf xt xs xa xw xc xk xp pt wr xm mny) sz) := by
  refine Met.ofW (cc := cX6_sets) (maxL := 3) (ret := (some .int)) (by decide) rfl ?_
  intro pQ eQ s mQ args below meth cQ s₁ B hml hv
  obtain ⟨rfl, hsz, hP, hK, hD0⟩ := hv
  have hx := B.exec
  have hb := B.bytes
  have hr := B.returns
  have hts := atoms_spec (ws := wsX6_sets) B.pre
  have hown : s.vm.findClass RX6 = some mQ.cls := findClass_of_methodNamed B.named
  have hlocks : meth.locks = false := B.notSynchronized
  have hS0 : CallFix pQ mQ cQ cX6_sets 3 s ([.ref (qr 0)] : List Value).toArray wsX6_sets RX6 := ⟨hx, hb, hml, hown, hts⟩
  subst hsz
  have hD := hD0.self (sz := s.heap.size)
  generalize hAe : va_A (wR kA qr cc ac co ad rc nm st an svm cnt tx len th xf xt xs xa xw xc xk xp pt wr xm mny) s.heap.size = A at hD ⊢
  have hA : ∀ q : Nat, s.heap.size ≤ q → A q := fun q h => by rw [← hAe]; exact Or.inr h
  have hS : va_S A s.heap s.heap [] := va_S.rf
  have f7 : (Cond.fieldLink RX6 7 "AskedRulesModel" "now" "[I").before ([.ref (qr 0)] : List Value).toArray s = true := hts _ (by decide +kernel)
  have hinX6 : ∀ w ∈ wsX60, w ∈ wsX6_sets := by decide +kernel
  have f196 : (Cond.fieldLink RX6 196 "AskedRulesModel" "wrong" "I").before ([.ref (qr 0)] : List Value).toArray s = true := hts _ (by decide +kernel)
  have hl := lv_entry ([.ref (qr 0)]) (n := 3) (Nat.le_of_ble_eq_true rfl)
  rw [lg_entry_eq]
  generalize (lg_sl ([.ref (qr 0)]) ++ List.replicate (3 - (lg_sl ([.ref (qr 0)])).length) Slot.unset).toArray = ls at hl ⊢
  have hl : lv_has ls 3 [(0, .ref (qr 0))] := hl
  have hP : va_P D vwCl (wR kA qr cc ac co ad rc nm st an svm cnt tx len th xf xt xs xa xw xc xk xp pt wr xm mny) s.heap := hP
  have hD : va_D A (wR kA qr cc ac co ad rc nm st an svm cnt tx len th xf xt xs xa xw xc xk xp pt wr xm mny) := hD
  rw [hwr] at hP hD
  refine lv_aload_n hx hb dX6_sets_0 rfl (lv_at hl 0 rfl) ?_
  refine lv_bipush (v := (nI 32)) hx hb dX6_sets_1 (by decide) ?_
  refine n_wVv (b := qr 0) (As := [.int (nI 32)]) (rest := []) (wr := []) (ws' := fun u => (wR kA qr cc ac co ad rc nm st an svm cnt tx len th xf xt xs xa xw xc xk xp (pt + 1) (alF none (decide (hereF tx len pt = some 32)) pt) xm mny)) hS0 (c_X6_sign lQ D kA qr cc ac co ad rc nm st an svm cnt tx len th xf xt xs xa xw xc xk xp pt none xm mny 32 s.heap.size (by first | assumption | omega) (by first | assumption | omega) (by first | assumption | omega) (fun q h => by cases h) (by first | assumption | omega)) (cwV 1 hts gX6_sets_X6_sign rfl rfl rfl (by decide +kernel) ⟨Nat.le_of_ble_eq_true rfl, Nat.le_of_ble_eq_true rfl⟩) hP hD hS hA hK hK (by simpa only [List.append_assoc, List.append_nil] using (List.Perm.of_eq (List.append_nil _).symm)) (fun u => List.Perm.symm (by simpa only [List.append_assoc, List.append_nil] using (List.Perm.of_eq (List.append_nil _).symm))) (q0 := 0) rfl rfl rfl rfl rfl hl.1 (Nat.le_of_ble_eq_true rfl) dX6_sets_3 ⟨Nat.le_refl _, Nat.le_refl _⟩ (fun u3 H locs h3 hP hD hS => ?_)
  have hP : va_P D vwCl (wR kA qr cc ac co ad rc nm st an svm cnt tx len th xf xt xs xa xw xc xk xp (pt + 1) (alF none (decide (hereF tx len pt = some 32)) pt) xm mny) H := hP
  have hD : va_D A (wR kA qr cc ac co ad rc nm st an svm cnt tx len th xf xt xs xa xw xc xk xp (pt + 1) (alF none (decide (hereF tx len pt = some 32)) pt) xm mny) := hD
  refine lv_iconst (v := (nI 0)) hx hb dX6_sets_6 (by decide) ?_
  refine lv_istore_n (lv' := [(1, .int (nI 0)), (0, .ref (qr 0))]) hx hb dX6_sets_7 rfl hl (by decide) rfl (fun ls hl => ?_)
  refine lv_iconst (v := (nI 0)) hx hb dX6_sets_8 (by decide) ?_
  refine lv_istore_n (lv' := [(2, .int (nI 0)), (1, .int (nI 0)), (0, .ref (qr 0))]) hx hb dX6_sets_9 rfl hl (by decide) rfl (fun ls hl => ?_)
  have L10 : ∀ (nQ : Nat) (i : Nat) (sv : Int32) (wrx : Option Nat) (p : Nat), cc - i < nQ → (i ≤ cc) → (wrx = none → ∃ set, sv = nI set ∧ hereF tx len pt = some 32 ∧ rasL tx len ac cc 0 0 (pt + 1) = rasL tx len ac (cc - i) i set p ∧ p ≤ len) → (∀ q, wrx = some q → ((¬ hereF tx len pt = some 32 ∧ q = pt) ∨ (hereF tx len pt = some 32 ∧ (rasL tx len ac cc 0 0 (pt + 1)).1 = false ∧ q = (rasL tx len ac cc 0 0 (pt + 1)).2.2) ∨ (hereF tx len pt = some 32 ∧ (rasL tx len ac cc 0 0 (pt + 1)).1 = true ∧ q = (rasL tx len ac cc 0 0 (pt + 1)).2.2 ∧ hereF tx len q ≠ some 62))) → (p ≤ len + 3) → ∀ (H : Heap) (locs : List Loc), va_P D vwCl (wR kA qr cc ac co ad rc nm st an svm cnt tx len th xf xt xs xa xw xc xk xp p wrx xm mny) H → va_D A (wR kA qr cc ac co ad rc nm st an svm cnt tx len th xf xt xs xa xw xc xk xp p wrx xm mny) → va_S A s.heap H locs → ∀ (ls : Array Slot), lv_has ls 3 [(2, .int (nI i)), (1, .int sv), (0, .ref (qr 0))] → W pQ lQ eQ (headSpec wsX6_sets (rmN 3 66)).room s mQ ([.ref (qr 0)] : List Value).toArray below meth cQ H locs 0 0 (MQ below (va_Qi (S := Nat × (Option Nat)) (fun (r : Int32) (u : Nat × (Option Nat)) => (u.2 = none → hereF tx len pt = some 32 ∧ (rasL tx len ac cc 0 0 (pt + 1)).1 = true ∧ u.1 = (rasL tx len ac cc 0 0 (pt + 1)).2.2 ∧ r = nI (rasL tx len ac cc 0 0 (pt + 1)).2.1) ∧ (∀ q, u.2 = some q → ((¬ hereF tx len pt = some 32 ∧ q = pt) ∨ (hereF tx len pt = some 32 ∧ (rasL tx len ac cc 0 0 (pt + 1)).1 = false ∧ q = (rasL tx len ac cc 0 0 (pt + 1)).2.2) ∨ (hereF tx len pt = some 32 ∧ (rasL tx len ac cc 0 0 (pt + 1)).1 = true ∧ q = (rasL tx len ac cc 0 0 (pt + 1)).2.2 ∧ hereF tx len q ≠ some 62))) ∧ u.1 ≤ len + 3) (wr_B D vwCl (wR kA qr cc ac co ad rc nm st an svm cnt tx len th xf xt xs xa xw xc xk xp pt wr xm mny) (tyK kA) s.heap.size (fun u => (wR kA qr cc ac co ad rc nm st an svm cnt tx len th xf xt xs xa xw xc xk xp u.1 u.2 xm mny))) A) ([.ref (qr 0)] : List Value).toArray s 0 0 A) (F0 mQ 10 ls []) := by
    intro nQ
    induction nQ with
    | zero => intro i sv wrx p hn; exact absurd hn (Nat.not_lt_zero _)
    | succ nQ ih10 =>
      intro i sv wrx p hm10 hi hi1 hi2 hi3 H locs hP hD hS ls hl
      refine lv_iload_n hx hb dX6_sets_10 rfl (lv_at hl 0 rfl) ?_
      refine lv_aload_n hx hb dX6_sets_11 rfl (lv_at hl 2 rfl) ?_
      refine n_get (ci := 6) (v := .ref (qr 1)) (C := RX6) (T := TX6) (N := 18) hx hb hts hinX6 hown hK hP 0 rfl rfl 0 rfl ⟨rfl, rfl, rfl⟩ f7 rfl dX6_sets_12 ?_
      refine lv_iconst (v := (nI 0)) hx hb dX6_sets_15 (by decide) ?_
      refine n_iald (i := 0) (v := (nI cc)) hx hb hK hP 1 0 rfl rfl (by omega) (Nat.le_of_ble_eq_true rfl) rfl dX6_sets_16 ?_
      refine n_icmp_ge (a := i) (b := cc) (tgt := 68) hx hb (by omega) (by omega) dX6_sets_17 (by decide) (fun c17 => ?_) (fun c17 => ?_)
      · refine lv_iload_n hx hb dX6_sets_68 rfl (lv_at hl 1 rfl) ?_
        have hfz : wrx = none → hereF tx len pt = some 32 ∧ (rasL tx len ac cc 0 0 (pt + 1)).1 = true ∧ p = (rasL tx len ac cc 0 0 (pt + 1)).2.2 ∧ sv = nI (rasL tx len ac cc 0 0 (pt + 1)).2.1 := fun h => by
          have h0 : wrx = none := by first | exact h | rfl
          obtain ⟨set, hs1, hs2, hs3, hs4⟩ := hi1 h0
          have hic : i = cc := by first | omega | (rw [h0] at c25; cases c25)
          rw [hic, Nat.sub_self] at hs3
          rw [hs3]; exact ⟨hs2, rfl, rfl, hs1⟩
        exact n_wreti hx hb hr hlocks (post := fun (r : Int32) (u : Nat × (Option Nat)) => (u.2 = none → hereF tx len pt = some 32 ∧ (rasL tx len ac cc 0 0 (pt + 1)).1 = true ∧ u.1 = (rasL tx len ac cc 0 0 (pt + 1)).2.2 ∧ r = nI (rasL tx len ac cc 0 0 (pt + 1)).2.1) ∧ (∀ q, u.2 = some q → ((¬ hereF tx len pt = some 32 ∧ q = pt) ∨ (hereF tx len pt = some 32 ∧ (rasL tx len ac cc 0 0 (pt + 1)).1 = false ∧ q = (rasL tx len ac cc 0 0 (pt + 1)).2.2) ∨ (hereF tx len pt = some 32 ∧ (rasL tx len ac cc 0 0 (pt + 1)).1 = true ∧ q = (rasL tx len ac cc 0 0 (pt + 1)).2.2 ∧ hereF tx len q ≠ some 62))) ∧ u.1 ≤ len + 3) (w1 := fun u => (wR kA qr cc ac co ad rc nm st an svm cnt tx len th xf xt xs xa xw xc xk xp u.1 u.2 xm mny)) (p, wrx) ⟨hfz, hi2, hi3⟩ hP hD hK hS hAe dX6_sets_69
      · refine lv_aload_n hx hb dX6_sets_20 rfl (lv_at hl 2 rfl) ?_
        refine n_get (ci := 6) (v := .int (oI wrx)) (C := RX6) (T := TX6) (N := 18) hx hb hts hinX6 hown hK hP 0 rfl rfl 15 rfl ⟨rfl, rfl, rfl⟩ f196 rfl dX6_sets_21 ?_
        refine lv_iconst (v := (oI none)) hx hb dX6_sets_24 (by decide) ?_
        refine n_icmpo_ne (o := wrx) (tgt := 68) hx hb (fun q h => by have h8 := hi2 q h; have h9 := rasL_le (tx := tx) (len := len) (ac := ac) (n := cc) (k := 0) (sets := 0) (p := pt + 1); rcases h8 with ⟨-, h7⟩ | ⟨h6, -, h7⟩ | ⟨h6, -, h7, -⟩; (omega); (have := h9 (hereF_lt h6).1; omega); (have := h9 (hereF_lt h6).1; omega)) dX6_sets_25 (by decide) (fun q25 c25 => ?_) (fun c25 => ?_)
        · refine lv_iload_n hx hb dX6_sets_68 rfl (lv_at hl 1 rfl) ?_
          have hfz : wrx = none → hereF tx len pt = some 32 ∧ (rasL tx len ac cc 0 0 (pt + 1)).1 = true ∧ p = (rasL tx len ac cc 0 0 (pt + 1)).2.2 ∧ sv = nI (rasL tx len ac cc 0 0 (pt + 1)).2.1 := fun h => by
            have h0 : wrx = none := by first | exact h | rfl
            obtain ⟨set, hs1, hs2, hs3, hs4⟩ := hi1 h0
            have hic : i = cc := by first | omega | (rw [h0] at c25; cases c25)
            rw [hic, Nat.sub_self] at hs3
            rw [hs3]; exact ⟨hs2, rfl, rfl, hs1⟩
          exact n_wreti hx hb hr hlocks (post := fun (r : Int32) (u : Nat × (Option Nat)) => (u.2 = none → hereF tx len pt = some 32 ∧ (rasL tx len ac cc 0 0 (pt + 1)).1 = true ∧ u.1 = (rasL tx len ac cc 0 0 (pt + 1)).2.2 ∧ r = nI (rasL tx len ac cc 0 0 (pt + 1)).2.1) ∧ (∀ q, u.2 = some q → ((¬ hereF tx len pt = some 32 ∧ q = pt) ∨ (hereF tx len pt = some 32 ∧ (rasL tx len ac cc 0 0 (pt + 1)).1 = false ∧ q = (rasL tx len ac cc 0 0 (pt + 1)).2.2) ∨ (hereF tx len pt = some 32 ∧ (rasL tx len ac cc 0 0 (pt + 1)).1 = true ∧ q = (rasL tx len ac cc 0 0 (pt + 1)).2.2 ∧ hereF tx len q ≠ some 62))) ∧ u.1 ≤ len + 3) (w1 := fun u => (wR kA qr cc ac co ad rc nm st an svm cnt tx len th xf xt xs xa xw xc xk xp u.1 u.2 xm mny)) (p, wrx) ⟨hfz, hi2, hi3⟩ hP hD hK hS hAe dX6_sets_69
        · rw [c25] at hP hD
          obtain ⟨set8, hs81, hs82, hs83, hs84⟩ := hi1 c25
          have hbk : ∀ (p1 : Nat) (r9 : Int32) (w9 : Option Nat) (t9 : Nat), ((i = 0 ∧ p1 = p) ∨ (0 < i ∧ hereF tx len p = some 44 ∧ p1 = p + 1)) → ((rsF tx len (ac i) p1).1 = 0 → w9 = some (rsF tx len (ac i) p1).2) → ((rsF tx len (ac i) p1).1 ≠ 0 → (w9 = none ∧ t9 = (rsF tx len (ac i) p1).2 ∧ r9 = nI (rsF tx len (ac i) p1).1) ∨ (w9 = some (rsF tx len (ac i) p1).2 ∧ (digT tx len (rsF tx len (ac i) p1).2).isSome = true)) → p1 ≤ len →
              (w9 = none → ∃ set, sv ||| (r9 <<< (nI (4 * i) &&& 31)) = nI set ∧ hereF tx len pt = some 32 ∧ rasL tx len ac cc 0 0 (pt + 1) = rasL tx len ac (cc - (i + 1)) (i + 1) set t9 ∧ t9 ≤ len) ∧ (∀ q, w9 = some q → ((¬ hereF tx len pt = some 32 ∧ q = pt) ∨ (hereF tx len pt = some 32 ∧ (rasL tx len ac cc 0 0 (pt + 1)).1 = false ∧ q = (rasL tx len ac cc 0 0 (pt + 1)).2.2) ∨ (hereF tx len pt = some 32 ∧ (rasL tx len ac cc 0 0 (pt + 1)).1 = true ∧ q = (rasL tx len ac cc 0 0 (pt + 1)).2.2 ∧ hereF tx len q ≠ some 62))) := by
            intro p1 r9 w9 t9 g1 g2 g3 g4
            obtain ⟨set, hs1, hs2, hs3, hs4⟩ := hi1 c25
            have hg := rasL_g (tx := tx) (len := len) (ac := ac) (set := set) c17 g1
            have hle := rsF_le (tx := tx) (len := len) (a := ac i) g4
            by_cases e : (rsF tx len (ac i) p1).1 = 0
            · rw [if_pos e] at hg
              have hw := g2 e
              refine ⟨(fun h => by rw [hw] at h; cases h), fun q h => ?_⟩
              rw [hw] at h; cases h
              rw [hs3, hg]
              exact Or.inr (Or.inl ⟨hs2, rfl, rfl⟩)
            · rw [if_neg e] at hg
              rcases g3 e with ⟨h1, h2, h3⟩ | ⟨h1, h2⟩
              · refine ⟨fun _ => ⟨set ||| ((rsF tx len (ac i) p1).1 <<< (4 * i)), ?_, hs2, by rw [hs3, hg, h2], by rw [h2]; exact hle⟩, (fun q h => by rw [h1] at h; cases h)⟩
                rw [hs1, h3, nN_shl _ (show 4 * i < 32 by omega), nN_or]
              · refine ⟨(fun h => by rw [h1] at h; cases h), fun q h => ?_⟩
                rw [h1] at h; cases h
                rw [hs3, hg]
                rcases rasL_bad (tx := tx) (len := len) (ac := ac) (set := set ||| ((rsF tx len (ac i) p1).1 <<< (4 * i))) (show i + 1 ≤ cc by omega) (Nat.succ_pos i) h2 with ⟨h8, h7⟩ | ⟨h8, h7, h6⟩
                · exact Or.inr (Or.inl ⟨hs2, h8, h7⟩)
                · exact Or.inr (Or.inr ⟨hs2, h8, h7, h6⟩)
          refine lv_iload_n hx hb dX6_sets_28 rfl (lv_at hl 0 rfl) ?_
          refine n_if_le (a := i) (tgt := 38) hx hb (by omega) dX6_sets_29 (by decide) (fun c29 => ?_) (fun c29 => ?_)
          · refine lv_iload_n hx hb dX6_sets_38 rfl (lv_at hl 1 rfl) ?_
            refine lv_aload_n hx hb dX6_sets_39 rfl (lv_at hl 2 rfl) ?_
            refine n_get (ci := 6) (v := .int (oI none)) (C := RX6) (T := TX6) (N := 18) hx hb hts hinX6 hown hK hP 0 rfl rfl 15 rfl ⟨rfl, rfl, rfl⟩ f196 rfl dX6_sets_40 ?_
            refine lv_iconst (v := (oI none)) hx hb dX6_sets_43 (by decide) ?_
            refine lv_icmp_ne (tgt := 59) hx hb dX6_sets_44 (by decide) (fun h => absurd (by decide) h) (fun _ => ?_)
            refine lv_aload_n hx hb dX6_sets_47 rfl (lv_at hl 2 rfl) ?_
            refine lv_iload_n hx hb dX6_sets_48 rfl (lv_at hl 0 rfl) ?_
            refine n_wVi (b := qr 0) (As := [.int (nI i)]) (rest := [.int sv]) (wr := []) (ws' := fun u => (wR kA qr cc ac co ad rc nm st an svm cnt tx len th xf xt xs xa xw xc xk xp u.1 u.2 xm mny)) hS0 (c_X6_readsSet lQ D kA qr cc ac co ad rc nm st an svm cnt tx len th xf xt xs xa xw xc xk xp p none xm mny i H.size (by first | assumption | omega) (by first | assumption | omega) (by first | exact hs84 | exact hl44) (by first | rfl | exact c44) (by first | assumption | omega) (hac i c17)) (cwV 1 hts gX6_sets_X6_readsSet rfl rfl rfl (by decide +kernel) ⟨Nat.le_of_ble_eq_true rfl, Nat.le_of_ble_eq_true rfl⟩) hP hD hS hA hK hK (by simpa only [List.append_assoc, List.append_nil] using (List.Perm.of_eq (List.append_nil _).symm)) (fun u => List.Perm.symm (by simpa only [List.append_assoc, List.append_nil] using (List.Perm.of_eq (List.append_nil _).symm))) (q0 := 0) rfl rfl rfl rfl rfl hl.1 (Nat.le_of_ble_eq_true rfl) dX6_sets_49 ⟨Nat.le_refl _, Nat.le_refl _⟩ (fun r49 u49 H locs h49 hP hD hS => ?_)
            obtain ⟨pt9_49, wr9_49⟩ := u49
            obtain ⟨h49_1, h49_2, h49_3⟩ := h49
            try dsimp only at h49_1 h49_2 h49_3
            have hP : va_P D vwCl (wR kA qr cc ac co ad rc nm st an svm cnt tx len th xf xt xs xa xw xc xk xp pt9_49 wr9_49 xm mny) H := hP
            have hD : va_D A (wR kA qr cc ac co ad rc nm st an svm cnt tx len th xf xt xs xa xw xc xk xp pt9_49 wr9_49 xm mny) := hD
            refine lv_iconst (v := (nI 4)) hx hb dX6_sets_52 (by decide) ?_
            refine lv_iload_n hx hb dX6_sets_53 rfl (lv_at hl 0 rfl) ?_
            refine n_imul (v := (nI (4 * i))) hx hb (pk_mul _ _) dX6_sets_54 ?_
            refine n_ishl (v := (r49 <<< ((nI (4 * i)) &&& 31))) hx hb rfl dX6_sets_55 ?_
            refine lv_goto (tgt := 60) hx hb dX6_sets_56 (by decide) ?_
            refine n_ior (v := (sv ||| (r49 <<< ((nI (4 * i)) &&& 31)))) hx hb rfl dX6_sets_60 ?_
            refine lv_istore_n (lv' := [(1, .int (sv ||| (r49 <<< ((nI (4 * i)) &&& 31)))), (2, .int (nI i)), (0, .ref (qr 0))]) hx hb dX6_sets_61 rfl hl (by decide) rfl (fun ls hl => ?_)
            refine lv_iinc (v := (nI (i + 1))) (lv' := [(2, .int (nI (i + 1))), (1, .int (sv ||| (r49 <<< ((nI (4 * i)) &&& 31)))), (0, .ref (qr 0))]) hx hb dX6_sets_62 hl (k := 1) rfl (nI_inc _) (by decide) rfl (fun ls hl => ?_)
            refine lv_goto (tgt := 10) hx hb dX6_sets_65 (by decide) ?_
            skip
            exact ih10 (i + 1) (sv ||| (r49 <<< ((nI (4 * i)) &&& 31))) wr9_49 pt9_49 (by omega) (by first | assumption | omega) (by first | exact (hbk p _ _ _ (Or.inl ⟨by omega, rfl⟩) h49_1 h49_2 hs84).1 | exact (hbk (p + 1) _ _ _ (Or.inr ⟨by omega, h44, rfl⟩) h49_1 h49_2 hl44).1 | exact (fun h => by rw [c44] at h; cases h)) (by first | exact (hbk p _ _ _ (Or.inl ⟨by omega, rfl⟩) h49_1 h49_2 hs84).2 | exact (hbk (p + 1) _ _ _ (Or.inr ⟨by omega, h44, rfl⟩) h49_1 h49_2 hl44).2 | exact (fun q h => by
      rcases alF_some h with h8 | ⟨-, h8, h7⟩
      · cases h8
      · have h6 : rasL tx len ac cc 0 0 (pt + 1) = (false, set8, p) := by rw [hs83, show cc - i = (cc - (i + 1)) + 1 by omega]; exact rasL_n (by omega) (of_decide_eq_false h8)
        rw [h6]; exact Or.inr (Or.inl ⟨hs82, rfl, h7⟩))) (by omega) _ _ hP hD hS _ (lv_sub hl [0, 1, 2] rfl)
          · refine lv_aload_n hx hb dX6_sets_32 rfl (lv_at hl 2 rfl) ?_
            refine lv_bipush (v := (nI 44)) hx hb dX6_sets_33 (by decide) ?_
            refine n_wVv (b := qr 0) (As := [.int (nI 44)]) (rest := []) (wr := []) (ws' := fun u => (wR kA qr cc ac co ad rc nm st an svm cnt tx len th xf xt xs xa xw xc xk xp (p + 1) (alF none (decide (hereF tx len p = some 44)) p) xm mny)) hS0 (c_X6_sign lQ D kA qr cc ac co ad rc nm st an svm cnt tx len th xf xt xs xa xw xc xk xp p none xm mny 44 H.size (by first | assumption | omega) (by first | assumption | omega) (by first | assumption | omega) (fun q h => by cases h) (by first | assumption | omega)) (cwV 1 hts gX6_sets_X6_sign rfl rfl rfl (by decide +kernel) ⟨Nat.le_of_ble_eq_true rfl, Nat.le_of_ble_eq_true rfl⟩) hP hD hS hA hK hK (by simpa only [List.append_assoc, List.append_nil] using (List.Perm.of_eq (List.append_nil _).symm)) (fun u => List.Perm.symm (by simpa only [List.append_assoc, List.append_nil] using (List.Perm.of_eq (List.append_nil _).symm))) (q0 := 0) rfl rfl rfl rfl rfl hl.1 (Nat.le_of_ble_eq_true rfl) dX6_sets_35 ⟨Nat.le_refl _, Nat.le_refl _⟩ (fun u35 H locs h35 hP hD hS => ?_)
            have hP : va_P D vwCl (wR kA qr cc ac co ad rc nm st an svm cnt tx len th xf xt xs xa xw xc xk xp (p + 1) (alF none (decide (hereF tx len p = some 44)) p) xm mny) H := hP
            have hD : va_D A (wR kA qr cc ac co ad rc nm st an svm cnt tx len th xf xt xs xa xw xc xk xp (p + 1) (alF none (decide (hereF tx len p = some 44)) p) xm mny) := hD
            refine lv_iload_n hx hb dX6_sets_38 rfl (lv_at hl 1 rfl) ?_
            refine lv_aload_n hx hb dX6_sets_39 rfl (lv_at hl 2 rfl) ?_
            refine n_get (ci := 6) (v := .int (oI (alF none (decide (hereF tx len p = some 44)) p))) (C := RX6) (T := TX6) (N := 18) hx hb hts hinX6 hown hK hP 0 rfl rfl 15 rfl ⟨rfl, rfl, rfl⟩ f196 rfl dX6_sets_40 ?_
            refine lv_iconst (v := (oI none)) hx hb dX6_sets_43 (by decide) ?_
            refine n_icmpo_ne (o := alF none (decide (hereF tx len p = some 44)) p) (tgt := 59) hx hb (fun q h => by rcases alF_some h with h8 | ⟨-, -, h8⟩; (cases h8); omega) dX6_sets_44 (by decide) (fun q44 c44 => ?_) (fun c44 => ?_)
            · have h44 := alF_some c44
              refine lv_iconst (v := (nI 0)) hx hb dX6_sets_59 (by decide) ?_
              refine n_ior (v := (sv ||| (nI 0))) hx hb rfl dX6_sets_60 ?_
              refine lv_istore_n (lv' := [(1, .int (sv ||| (nI 0))), (2, .int (nI i)), (0, .ref (qr 0))]) hx hb dX6_sets_61 rfl hl (by decide) rfl (fun ls hl => ?_)
              refine lv_iinc (v := (nI (i + 1))) (lv' := [(2, .int (nI (i + 1))), (1, .int (sv ||| (nI 0))), (0, .ref (qr 0))]) hx hb dX6_sets_62 hl (k := 1) rfl (nI_inc _) (by decide) rfl (fun ls hl => ?_)
              refine lv_goto (tgt := 10) hx hb dX6_sets_65 (by decide) ?_
              skip
              exact ih10 (i + 1) (sv ||| (nI 0)) (alF none (decide (hereF tx len p = some 44)) p) (p + 1) (by omega) (by first | assumption | omega) (by first | exact (hbk p _ _ _ (Or.inl ⟨by omega, rfl⟩) h49_1 h49_2 hs84).1 | exact (hbk (p + 1) _ _ _ (Or.inr ⟨by omega, h44, rfl⟩) h49_1 h49_2 hl44).1 | exact (fun h => by rw [c44] at h; cases h)) (by first | exact (hbk p _ _ _ (Or.inl ⟨by omega, rfl⟩) h49_1 h49_2 hs84).2 | exact (hbk (p + 1) _ _ _ (Or.inr ⟨by omega, h44, rfl⟩) h49_1 h49_2 hl44).2 | exact (fun q h => by
      rcases alF_some h with h8 | ⟨-, h8, h7⟩
      · cases h8
      · have h6 : rasL tx len ac cc 0 0 (pt + 1) = (false, set8, p) := by rw [hs83, show cc - i = (cc - (i + 1)) + 1 by omega]; exact rasL_n (by omega) (of_decide_eq_false h8)
        rw [h6]; exact Or.inr (Or.inl ⟨hs82, rfl, h7⟩))) (by omega) _ _ hP hD hS _ (lv_sub hl [0, 1, 2] rfl)
            · have h44 := of_decide_eq_true (alF_none.mp c44).2
              have hl44 := (hereF_lt h44).1
              refine lv_aload_n hx hb dX6_sets_47 rfl (lv_at hl 2 rfl) ?_
              refine lv_iload_n hx hb dX6_sets_48 rfl (lv_at hl 0 rfl) ?_
              refine n_wVi (b := qr 0) (As := [.int (nI i)]) (rest := [.int sv]) (wr := []) (ws' := fun u => (wR kA qr cc ac co ad rc nm st an svm cnt tx len th xf xt xs xa xw xc xk xp u.1 u.2 xm mny)) hS0 (c_X6_readsSet lQ D kA qr cc ac co ad rc nm st an svm cnt tx len th xf xt xs xa xw xc xk xp (p + 1) (alF none (decide (hereF tx len p = some 44)) p) xm mny i H.size (by first | assumption | omega) (by first | assumption | omega) (by first | exact hs84 | exact hl44) (by first | rfl | exact c44) (by first | assumption | omega) (hac i c17)) (cwV 1 hts gX6_sets_X6_readsSet rfl rfl rfl (by decide +kernel) ⟨Nat.le_of_ble_eq_true rfl, Nat.le_of_ble_eq_true rfl⟩) hP hD hS hA hK hK (by simpa only [List.append_assoc, List.append_nil] using (List.Perm.of_eq (List.append_nil _).symm)) (fun u => List.Perm.symm (by simpa only [List.append_assoc, List.append_nil] using (List.Perm.of_eq (List.append_nil _).symm))) (q0 := 0) rfl rfl rfl rfl rfl hl.1 (Nat.le_of_ble_eq_true rfl) dX6_sets_49 ⟨Nat.le_refl _, Nat.le_refl _⟩ (fun r49 u49 H locs h49 hP hD hS => ?_)
              obtain ⟨pt9_49, wr9_49⟩ := u49
              obtain ⟨h49_1, h49_2, h49_3⟩ := h49
              try dsimp only at h49_1 h49_2 h49_3
              have hP : va_P D vwCl (wR kA qr cc ac co ad rc nm st an svm cnt tx len th xf xt xs xa xw xc xk xp pt9_49 wr9_49 xm mny) H := hP
              have hD : va_D A (wR kA qr cc ac co ad rc nm st an svm cnt tx len th xf xt xs xa xw xc xk xp pt9_49 wr9_49 xm mny) := hD
              refine lv_iconst (v := (nI 4)) hx hb dX6_sets_52 (by decide) ?_
              refine lv_iload_n hx hb dX6_sets_53 rfl (lv_at hl 0 rfl) ?_
              refine n_imul (v := (nI (4 * i))) hx hb (pk_mul _ _) dX6_sets_54 ?_
              refine n_ishl (v := (r49 <<< ((nI (4 * i)) &&& 31))) hx hb rfl dX6_sets_55 ?_
              refine lv_goto (tgt := 60) hx hb dX6_sets_56 (by decide) ?_
              refine n_ior (v := (sv ||| (r49 <<< ((nI (4 * i)) &&& 31)))) hx hb rfl dX6_sets_60 ?_
              refine lv_istore_n (lv' := [(1, .int (sv ||| (r49 <<< ((nI (4 * i)) &&& 31)))), (2, .int (nI i)), (0, .ref (qr 0))]) hx hb dX6_sets_61 rfl hl (by decide) rfl (fun ls hl => ?_)
              refine lv_iinc (v := (nI (i + 1))) (lv' := [(2, .int (nI (i + 1))), (1, .int (sv ||| (r49 <<< ((nI (4 * i)) &&& 31)))), (0, .ref (qr 0))]) hx hb dX6_sets_62 hl (k := 1) rfl (nI_inc _) (by decide) rfl (fun ls hl => ?_)
              refine lv_goto (tgt := 10) hx hb dX6_sets_65 (by decide) ?_
              skip
              exact ih10 (i + 1) (sv ||| (r49 <<< ((nI (4 * i)) &&& 31))) wr9_49 pt9_49 (by omega) (by first | assumption | omega) (by first | exact (hbk p _ _ _ (Or.inl ⟨by omega, rfl⟩) h49_1 h49_2 hs84).1 | exact (hbk (p + 1) _ _ _ (Or.inr ⟨by omega, h44, rfl⟩) h49_1 h49_2 hl44).1 | exact (fun h => by rw [c44] at h; cases h)) (by first | exact (hbk p _ _ _ (Or.inl ⟨by omega, rfl⟩) h49_1 h49_2 hs84).2 | exact (hbk (p + 1) _ _ _ (Or.inr ⟨by omega, h44, rfl⟩) h49_1 h49_2 hl44).2 | exact (fun q h => by
      rcases alF_some h with h8 | ⟨-, h8, h7⟩
      · cases h8
      · have h6 : rasL tx len ac cc 0 0 (pt + 1) = (false, set8, p) := by rw [hs83, show cc - i = (cc - (i + 1)) + 1 by omega]; exact rasL_n (by omega) (of_decide_eq_false h8)
        rw [h6]; exact Or.inr (Or.inl ⟨hs82, rfl, h7⟩))) (by omega) _ _ hP hD hS _ (lv_sub hl [0, 1, 2] rfl)
  exact L10 ((cc - 0) + 1) 0 (nI 0) (alF none (decide (hereF tx len pt = some 32)) pt) (pt + 1) (Nat.lt_succ_self _) (by first | assumption | omega) (fun h => ⟨0, rfl, of_decide_eq_true (alF_none.mp h).2, rfl, (hereF_lt (of_decide_eq_true (alF_none.mp h).2)).1⟩) (fun q h => by rcases alF_some h with h8 | ⟨-, h8, h7⟩; (cases h8); exact Or.inl ⟨of_decide_eq_false h8, h7⟩) (by first | assumption | omega) _ _ hP hD hS _ (lv_sub hl [0, 1, 2] rfl)

