
theorem cmN_none {cc x : Nat} {ac sd ax cm dg : Nat → Nat} (h : firstF (fun k => decide (dg k = 0)) cc = none) : cmN cc ac sd ax cm dg x = ax (sumF (fun k => (dg k - 1) * sd k) cc) := by unfold cmN; rw [h]
theorem cmN_some {cc x k : Nat} {ac sd ax cm dg : Nat → Nat} (h : firstF (fun k => decide (dg k = 0)) cc = some k) : cmN cc ac sd ax cm dg x = comA cm x (5 ^ k) (ac k) := by unfold cmN; rw [h]
theorem firstF_cong {f g : Nat → Bool} : ∀ {n : Nat}, (∀ j, j < n → f j = g j) → firstF f n = firstF g n
  | 0, _ => rfl
  | n + 1, h => by
    unfold firstF
    rw [firstF_cong (fun j hj => h j (by omega)), h n (by omega)]
theorem allB_cong {f g : Nat → Bool} : ∀ {n : Nat}, (∀ j, j < n → f j = g j) → allB f n = allB g n
  | 0, _ => rfl
  | n + 1, h => by
    unfold allB
    rw [allB_cong (fun j hj => h j (by omega)), h n (by omega)]
theorem maxF_cong {f g : Nat → Nat} : ∀ {n : Nat}, (∀ j, j < n → f j = g j) → maxF f n = maxF g n
  | 0, _ => rfl
  | n + 1, h => by rw [maxF_s, maxF_s, maxF_cong (fun j hj => h j (by omega)), h n (by omega)]
theorem lwF_cong {f g : Nat → Nat} {p q : Nat → Bool} : ∀ {n : Nat}, (∀ j, j < n → p j = q j) → (∀ j, j < n → p j = true → f j = g j) → lwF f p n = lwF g q n
  | 0, _, _ => rfl
  | n + 1, h1, h2 => by
    rw [lwF_s, lwF_s, lwF_cong (fun j hj => h1 j (by omega)) (fun j hj => h2 j (by omega)), ← h1 n (by omega)]
    by_cases h : p n = true
    · rw [if_pos h, if_pos h, h2 n (by omega) h]
    · rw [if_neg h, if_neg h]
theorem prodF_cong {f g : Nat → Nat} : ∀ {n : Nat}, (∀ j, j < n → f j = g j) → prodF f n = prodF g n
  | 0, _ => rfl
  | n + 1, h => by rw [prodF_s, prodF_s, prodF_cong (fun j hj => h j (by omega)), h n (by omega)]
theorem cmN_cong {cc x : Nat} {ac sd ax cm dg dg' : Nat → Nat} (h : ∀ k, k < cc → dg k = dg' k) : cmN cc ac sd ax cm dg x = cmN cc ac sd ax cm dg' x := by
  unfold cmN
  rw [firstF_cong (f := fun k => decide (dg k = 0)) (g := fun k => decide (dg' k = 0)) (fun j hj => by rw [h j hj]), sumF_cong (f := fun k => (dg k - 1) * sd k) (g := fun k => (dg' k - 1) * sd k) (fun j hj => by rw [h j hj])]
theorem woN_cong {cc x c : Nat} {ac co wo dg dg' : Nat → Nat} (h : ∀ k, k < cc → dg k = dg' k) : woN cc ac co wo dg x c = woN cc ac co wo dg' x c := by
  unfold woN
  rw [lwF_cong (p := fun k => decide (dg k = 0)) (q := fun k => decide (dg' k = 0)) (fun j hj => by rw [h j hj]) (fun j hj _ => rfl)]
theorem comA_cong {cm cm' : Nat → Nat} {x p n : Nat} (hn : 1 ≤ n) (h : ∀ j, 1 ≤ j → j ≤ n → cm (x + j * p) = cm' (x + j * p)) : comA cm x p n = comA cm' x p n := by
  have h1 := h 1 (by omega) hn
  rw [Nat.one_mul] at h1
  unfold comA
  rw [allB_cong (f := fun j => decide (cm (x + (j + 1) * p) = cm (x + p))) (g := fun j => decide (cm' (x + (j + 1) * p) = cm' (x + p))) (fun j hj => by rw [h (j + 1) (by omega) (by omega), h1]), h1]
theorem askW_cong {ac co wo wo' : Nat → Nat} {x k : Nat} (h : ∀ j, 1 ≤ j → j ≤ ac k → wo (x + j * 5 ^ k) = wo' (x + j * 5 ^ k)) : askW ac co wo x k = askW ac co wo' x k := by
  unfold askW
  rw [maxF_cong (f := fun j => wo (x + (j + 1) * 5 ^ k)) (g := fun j => wo' (x + (j + 1) * 5 ^ k)) (fun j hj => h (j + 1) (by omega) (by omega))]
/-- what a state says speaks of the ones that follow it alone -/
theorem cmN_dep {cc x : Nat} {ac sd ax ax' cm cm' dg : Nat → Nat} (hac : ∀ k, k < cc → 2 ≤ ac k ∧ ac k ≤ 4) (h1 : ∀ k j, k < cc → dg k = 0 → 1 ≤ j → j ≤ ac k → cm (x + j * 5 ^ k) = cm' (x + j * 5 ^ k)) (h2 : (∀ k, k < cc → dg k ≠ 0) → ax (sumF (fun k => (dg k - 1) * sd k) cc) = ax' (sumF (fun k => (dg k - 1) * sd k) cc)) : cmN cc ac sd ax cm dg x = cmN cc ac sd ax' cm' dg x := by
  cases e : firstF (fun k => decide (dg k = 0)) cc with
  | none =>
    rw [cmN_none e, cmN_none e]
    exact h2 (fun k hk h => by have := firstF_noneI e k hk; rw [decide_eq_true h] at this; cases this)
  | some k =>
    have hs := firstF_spec e
    rw [cmN_some e, cmN_some e]
    exact comA_cong (by have := hac k hs.1; omega) (fun j a b => h1 k j hs.1 (of_decide_eq_true hs.2.1) a b)
theorem woN_dep {cc x c : Nat} {ac co wo wo' dg : Nat → Nat} (h1 : ∀ k j, k < cc → dg k = 0 → 1 ≤ j → j ≤ ac k → wo (x + j * 5 ^ k) = wo' (x + j * 5 ^ k)) : woN cc ac co wo dg x c = woN cc ac co wo' dg x c := by
  unfold woN
  rw [lwF_cong (p := fun k => decide (dg k = 0)) (q := fun k => decide (dg k = 0)) (fun j hj => rfl) (fun k hk hd => askW_cong (fun j a b => h1 k j hk (of_decide_eq_true hd) a b))]
theorem comA_lt {cm : Nat → Nat} {x p n : Nat} (h : cm (x + p) < 12) : comA cm x p n < 12 := by unfold comA; split <;> omega
theorem woN_le {cc x c : Nat} {ac co wo dg : Nat → Nat} : woN cc ac co wo dg x c ≤ 100 := by
  unfold woN; split
  · exact lwF_le _ _ _
  · omega
/-- what Plans holds when it is fresh, for the actions ax of the cases -/
def plOK (cc : Nat) (ac co sd ax cm wo : Nat → Nat) : Prop := ∀ y, y < 5 ^ cc → valB ac y cc = true → cm y = cmN cc ac sd ax cm (dg5 y) y ∧ wo y = woN cc ac co wo (dg5 y) y (cm y)
theorem cs_lt {ac d : Nat → Nat} : ∀ {n : Nat}, (∀ k, k < n → 1 ≤ d k ∧ d k ≤ ac k) → sumF (fun k => (d k - 1) * prodF ac k) n < prodF ac n
  | 0, _ => Nat.one_pos
  | n + 1, h => by
    rw [sumF_s, prodF_s]
    have h1 := cs_lt (n := n) (fun k hk => h k (by omega))
    have h2 := h n (by omega)
    have h3 : (d n - 1 + 1) * prodF ac n ≤ ac n * prodF ac n := Nat.mul_le_mul_right _ (by omega)
    rw [Nat.add_mul, Nat.one_mul, Nat.mul_comm (ac n)] at h3
    omega
theorem cs_eq {cc : Nat} {ac sd dg : Nat → Nat} (h : ∀ k, k < cc → sd k = prodF ac k) : sumF (fun k => (dg k - 1) * sd k) cc = sumF (fun k => (dg k - 1) * prodF ac k) cc := sumF_cong (fun j hj => by rw [h j hj])
theorem valB_i {ac : Nat → Nat} {x cc : Nat} (h : valB ac x cc = true) : ∀ k, k < cc → dg5 x k ≤ ac k := fun k hk => of_decide_eq_true (allB_i h k hk)

set_option maxHeartbeats 4000000 in
set_option maxRecDepth 100000 in
theorem c_X2_weigh (lQ : Launch) (D : va_G) (kA : Nat → ClassId) (adK adV : Nat → Nat) (qp : Nat → Nat) (cm : Nat → Nat) (wo : Nat → Nat) (dg : Nat → Nat) (qc : Nat → Nat) (cn : Nat) (sd : Nat → Nat) (bt : Nat → Nat) (fi : Nat → Option Nat) (se : Nat → Option Nat) (tl : Nat → Nat) (ax : Nat → Nat) (cf : Nat → Bool) (ow : Nat → Nat) (ho : Nat) (ov : Nat) (cs : Nat) (q : Nat → Nat) (cc : Nat) (ac : Nat → Nat) (co : Nat → Nat) (ad : Nat) (rc : Nat) (nm : Nat → Nat) (st : Nat → Nat) (an : Nat → Nat) (x : Nat) (sz : Nat) (hcc : cc ≤ 5) (hac : ∀ k, k < cc → 2 ≤ ac k ∧ ac k ≤ 4) (hco : ∀ k, k < cc → co k < 10) (hxx : x < 5 ^ cc) (hdg : ∀ k, k < cc → dg k = dg5 x k) (hcm : ∀ y, y < 3125 → cm y < 12) (hwo : ∀ y, y < 3125 → wo y ≤ 100) (hcs : (∀ k, k < cc → 1 ≤ dg k) → sumF (fun k => (dg k - 1) * sd k) cc < 1024 ∧ ax (sumF (fun k => (dg k - 1) * sd k) cc) < 11) : Met lQ yX2_weigh wsX2_weigh (rmN 2 49) (wrE_Pc D vwCl adK adV [.ref (qp 0), .int (nI x)] ((wP kA qp q qc cm wo dg) ++ ((wC kA qc q cn sd bt fi se tl ax cf ow ho ov cs) ++ (wT kA q cc ac co ad rc nm st an))) (tyK kA) sz) (va_Qv (S := Unit) (fun (u : Unit) => True) (wr_B D vwCl ((wP kA qp q qc cm wo dg) ++ ((wC kA qc q cn sd bt fi se tl ax cf ow ho ov cs) ++ (wT kA q cc ac co ad rc nm st an))) (tyK kA) sz (fun u => ((wP kA qp q qc (va_up cm x (cmN cc ac sd ax cm dg x)) (va_up wo x (woN cc ac co wo dg x (cmN cc ac sd ax cm dg x))) dg) ++ ((wC kA qc q cn sd bt fi se tl ax cf ow ho ov cs) ++ (wT kA q cc ac co ad rc nm st an))))) (va_A ((wP kA qp q qc cm wo dg) ++ ((wC kA qc q cn sd bt fi se tl ax cf ow ho ov cs) ++ (wT kA q cc ac co ad rc nm st an))) sz)) 0 0 (va_A ((wP kA qp q qc cm wo dg) ++ ((wC kA qc q cn sd bt fi se tl ax cf ow ho ov cs) ++ (wT kA q cc ac co ad rc nm st an))) sz) := by
  refine Met.ofW (cc := cX2_weigh) (maxL := 3) (ret := none) (by decide) rfl ?_
  intro pQ eQ s mQ args below meth cQ s₁ B hml hv
  obtain ⟨rfl, hsz, hP, hK, hD0, hE⟩ := hv
  have hx := B.exec
  have hb := B.bytes
  have hr := B.returns
  have hts := atoms_spec (ws := wsX2_weigh) B.pre
  have hown : s.vm.findClass RX2 = some mQ.cls := findClass_of_methodNamed B.named
  have hlocks : meth.locks = false := B.notSynchronized
  have hS0 : CallFix pQ mQ cQ cX2_weigh 3 s ([.ref (qp 0), .int (nI x)] : List Value).toArray wsX2_weigh RX2 := ⟨hx, hb, hml, hown, hts⟩
  subst hsz
  have hD := hD0.self (sz := s.heap.size)
  generalize hAe : va_A ((wP kA qp q qc cm wo dg) ++ ((wC kA qc q cn sd bt fi se tl ax cf ow ho ov cs) ++ (wT kA q cc ac co ad rc nm st an))) s.heap.size = A at hD hE ⊢
  have hA : ∀ q : Nat, s.heap.size ≤ q → A q := fun q h => by rw [← hAe]; exact Or.inr h
  have hS : va_S A s.heap s.heap [] := va_S.rf
  have f11 : (Cond.fieldLink RX2 11 "AskedRules$Plans" "common" "[I").before ([.ref (qp 0), .int (nI x)] : List Value).toArray s = true := hts _ (by decide +kernel)
  have hinX2 : ∀ w ∈ wsX20, w ∈ wsX2_weigh := by decide +kernel
  have f15 : (Cond.fieldLink RX2 15 "AskedRules$Plans" "worst" "[I").before ([.ref (qp 0), .int (nI x)] : List Value).toArray s = true := hts _ (by decide +kernel)
  have f25 : (Cond.fieldLink RX2 25 "AskedRules$Plans" "cases" "LAskedRules$Cases;").before ([.ref (qp 0), .int (nI x)] : List Value).toArray s = true := hts _ (by decide +kernel)
  have f53 : (Cond.fieldLink RX2 53 "AskedRules$Cases" "action" "[I").before ([.ref (qp 0), .int (nI x)] : List Value).toArray s = true := hts _ (by decide +kernel)
  have hinX0 : ∀ w ∈ wsX00, w ∈ wsX2_weigh := by decide +kernel
  have hl := lv_entry ([.ref (qp 0), .int (nI x)]) (n := 3) (Nat.le_of_ble_eq_true rfl)
  rw [lg_entry_eq]
  generalize (lg_sl ([.ref (qp 0), .int (nI x)]) ++ List.replicate (3 - (lg_sl ([.ref (qp 0), .int (nI x)])).length) Slot.unset).toArray = ls at hl ⊢
  have hl : lv_has ls 3 [(0, .ref (qp 0)), (1, .int (nI x))] := hl
  have hP : va_P D vwCl ((wP kA qp q qc cm wo dg) ++ ((wC kA qc q cn sd bt fi se tl ax cf ow ho ov cs) ++ (wT kA q cc ac co ad rc nm st an))) s.heap := hP
  have hD : va_D A ((wP kA qp q qc cm wo dg) ++ ((wC kA qc q cn sd bt fi se tl ax cf ow ho ov cs) ++ (wT kA q cc ac co ad rc nm st an))) := hD
  obtain ⟨tP, hZP, hTP⟩ := hE.1
  have hx31 := Nat.lt_of_lt_of_le hxx (p5_3125 hcc)
  have hop : ∀ k, k < cc → dg k = 0 → x + 4 * 5 ^ k < 3125 := fun k hk h => Nat.lt_of_lt_of_le (dg5_open hxx hk (by rw [← hdg k hk]; exact h)) (p5_3125 hcc)
  refine lv_aload_n hx hb dX2_weigh_0 rfl (lv_at hl 0 rfl) ?_
  refine n_cV (b := qp 0) (As := []) (rest := []) (wc := ((wP kA qp q qc cm wo dg) ++ ((wC kA qc q cn sd bt fi se tl ax cf ow ho ov cs) ++ (wT kA q cc ac co ad rc nm st an)))) hS0 (c_X2_firstOpen lQ D kA qp cm wo dg qc cn sd bt fi se tl ax cf ow ho ov cs q cc ac co ad rc nm st an (by first | assumption | omega) (fun k hk => by rw [hdg k hk]; exact dg5_lt _ _)) (cwV 0 hts gX2_weigh_X2_firstOpen rfl rfl rfl (by decide +kernel) ⟨Nat.le_of_ble_eq_true rfl, Nat.le_of_ble_eq_true rfl⟩) hP hK (q0 := 0) rfl rfl rfl rfl rfl hl.1 (Nat.le_of_ble_eq_true rfl) dX2_weigh_1 ⟨Nat.le_refl _, Nat.le_refl _⟩ (fun r1 h1 => ?_)
  subst h1
  refine lv_istore_n (lv' := [(2, .int (oI (firstF (fun k => decide (dg k = 0)) cc))), (0, .ref (qp 0)), (1, .int (nI x))]) hx hb dX2_weigh_4 rfl hl (by decide) rfl (fun ls hl => ?_)
  refine lv_iload_n hx hb dX2_weigh_5 rfl (lv_at hl 0 rfl) ?_
  refine n_ifo_ge (o := firstF (fun k => decide (dg k = 0)) cc) (tgt := 30) hx hb (fun q h => by have := (firstF_spec h).1; omega) dX2_weigh_6 (by decide) (fun q6 c6 => ?_) (fun c6 => ?_)
  · have hl : lv_has ls 3 [(2, .int (nI q6)), (0, .ref (qp 0)), (1, .int (nI x))] := by rw [c6] at hl; exact hl
    refine lv_aload_n hx hb dX2_weigh_30 rfl (lv_at hl 1 rfl) ?_
    refine n_get (ci := 2) (v := .ref (qp 1)) (C := RX2) (T := TX2) (N := 5) hx hb hts hinX2 hown hK hP 0 rfl rfl 2 rfl ⟨rfl, rfl, rfl⟩ f11 rfl dX2_weigh_31 ?_
    refine lv_iload_n hx hb dX2_weigh_34 rfl (lv_at hl 2 rfl) ?_
    refine lv_aload_n hx hb dX2_weigh_35 rfl (lv_at hl 1 rfl) ?_
    refine lv_iload_n hx hb dX2_weigh_36 rfl (lv_at hl 2 rfl) ?_
    refine lv_iload_n hx hb dX2_weigh_37 rfl (lv_at hl 0 rfl) ?_
    refine n_cVE (b := qp 0) (As := [.int (nI x), .int (nI q6)]) (rest := [.int (nI x), .ref (qp 1)]) (wc := ((wP kA qp q qc cm wo dg) ++ ((wC kA qc q cn sd bt fi se tl ax cf ow ho ov cs) ++ (wT kA q cc ac co ad rc nm st an)))) hS0 (c_X2_commonAfter lQ D kA adK adV qp cm wo dg qc cn sd bt fi se tl ax cf ow ho ov cs q cc ac co ad rc nm st an x q6 (by have := (firstF_spec c6).1; omega) (hop _ (firstF_spec c6).1 (of_decide_eq_true (firstF_spec c6).2.1)) (hac _ (firstF_spec c6).1) (by first | assumption | omega)) (cwV 2 hts gX2_weigh_X2_commonAfter rfl rfl rfl (by decide +kernel) ⟨Nat.le_of_ble_eq_true rfl, Nat.le_of_ble_eq_true rfl⟩) hP hK (q0 := 0) rfl rfl rfl hE hS rfl rfl hl.1 (Nat.le_of_ble_eq_true rfl) dX2_weigh_38 ⟨Nat.le_refl _, Nat.le_refl _⟩ (fun r38 h38 => ?_)
    subst h38
    refine n_iast (i := x) (x := (nI (comA cm x (5 ^ q6) (ac q6)))) (g := aN (va_up cm x (comA cm x (5 ^ q6) (ac q6)))) (ws' := ((wP kA qp q qc (va_up cm x (comA cm x (5 ^ q6) (ac q6))) wo dg) ++ ((wC kA qc q cn sd bt fi se tl ax cf ow ho ov cs) ++ (wT kA q cc ac co ad rc nm st an)))) hx hb hK hP hD hS 1 0 rfl rfl hx31 (Nat.le_of_ble_eq_true rfl) (aN_up _ _ _) rfl dX2_weigh_41 (fun H locs hP hD hS => ?_)
    refine lv_aload_n hx hb dX2_weigh_42 rfl (lv_at hl 1 rfl) ?_
    refine n_get (ci := 2) (v := .ref (qp 2)) (C := RX2) (T := TX2) (N := 5) hx hb hts hinX2 hown hK hP 0 rfl rfl 3 rfl ⟨rfl, rfl, rfl⟩ f15 rfl dX2_weigh_43 ?_
    refine lv_iload_n hx hb dX2_weigh_46 rfl (lv_at hl 2 rfl) ?_
    refine lv_aload_n hx hb dX2_weigh_47 rfl (lv_at hl 1 rfl) ?_
    refine n_get (ci := 2) (v := .ref (qp 1)) (C := RX2) (T := TX2) (N := 5) hx hb hts hinX2 hown hK hP 0 rfl rfl 2 rfl ⟨rfl, rfl, rfl⟩ f11 rfl dX2_weigh_48 ?_
    refine lv_iload_n hx hb dX2_weigh_51 rfl (lv_at hl 2 rfl) ?_
    refine n_iald (i := x) (v := (nI ((va_up cm x (comA cm x (5 ^ q6) (ac q6))) x))) hx hb hK hP 1 0 rfl rfl hx31 (Nat.le_of_ble_eq_true rfl) rfl dX2_weigh_52 ?_
    refine lv_bipush (v := (nI 11)) hx hb dX2_weigh_53 (by decide) ?_
    refine n_icmp_ne (a := (va_up cm x (comA cm x (5 ^ q6) (ac q6))) x) (b := 11) (tgt := 66) hx hb (by rw [up_s]; first | exact Nat.lt_trans (hcs hd1).2 (by decide) | exact Nat.lt_trans (comA_lt (hcm _ (by have := ix_le (hop _ (firstF_spec c6).1 (of_decide_eq_true (firstF_spec c6).2.1)) (a := 1) (by decide); omega))) (by decide)) (by decide) dX2_weigh_55 (by decide) (fun c55 => ?_) (fun c55 => ?_)
    · refine lv_iconst (v := (nI 0)) hx hb dX2_weigh_66 (by decide) ?_
      refine n_iast (i := x) (x := (nI 0)) (g := aN (va_up wo x 0)) (ws' := ((wP kA qp q qc (va_up cm x (comA cm x (5 ^ q6) (ac q6))) (va_up wo x 0) dg) ++ ((wC kA qc q cn sd bt fi se tl ax cf ow ho ov cs) ++ (wT kA q cc ac co ad rc nm st an)))) hx hb hK hP hD hS 2 0 rfl rfl hx31 (Nat.le_of_ble_eq_true rfl) (aN_up _ _ _) rfl dX2_weigh_67 (fun H locs hP hD hS => ?_)
      have hw9 : ((wP kA qp q qc (va_up cm x (comA cm x (5 ^ q6) (ac q6))) (va_up wo x 0) dg) ++ ((wC kA qc q cn sd bt fi se tl ax cf ow ho ov cs) ++ (wT kA q cc ac co ad rc nm st an))) = ((wP kA qp q qc (va_up cm x (cmN cc ac sd ax cm dg x)) (va_up wo x (woN cc ac co wo dg x (cmN cc ac sd ax cm dg x))) dg) ++ ((wC kA qc q cn sd bt fi se tl ax cf ow ho ov cs) ++ (wT kA q cc ac co ad rc nm st an))) := (by (first | rw [cmN_none c6] | rw [cmN_some c6]); (unfold woN; first | rw [if_pos (by rw [← c55, up_s])] | rw [if_neg (fun h => c55 (by rw [up_s]; exact h))]))
      rw [hw9] at hP hD
      exact n_wretv hx hb hr hlocks (post := fun (u : Unit) => True) (w1 := fun u => ((wP kA qp q qc (va_up cm x (cmN cc ac sd ax cm dg x)) (va_up wo x (woN cc ac co wo dg x (cmN cc ac sd ax cm dg x))) dg) ++ ((wC kA qc q cn sd bt fi se tl ax cf ow ho ov cs) ++ (wT kA q cc ac co ad rc nm st an)))) () trivial hP hD hK hS hAe dX2_weigh_68
    · refine lv_aload_n hx hb dX2_weigh_58 rfl (lv_at hl 1 rfl) ?_
      refine lv_iload_n hx hb dX2_weigh_59 rfl (lv_at hl 2 rfl) ?_
      refine n_cVE (b := qp 0) (As := [.int (nI x)]) (rest := [.int (nI x), .ref (qp 2)]) (wc := ((wP kA qp q qc (va_up cm x (comA cm x (5 ^ q6) (ac q6))) wo dg) ++ ((wC kA qc q cn sd bt fi se tl ax cf ow ho ov cs) ++ (wT kA q cc ac co ad rc nm st an)))) hS0 (c_X2_leastWorst lQ D kA adK adV qp (va_up cm x (comA cm x (5 ^ q6) (ac q6))) wo dg qc cn sd bt fi se tl ax cf ow ho ov cs q cc ac co ad rc nm st an x (by first | assumption | omega) (by first | assumption | omega) (fun k hk => by rw [hdg k hk]; exact dg5_lt _ _) hop (by first | assumption | omega) (by first | assumption | omega)) (cwV 1 hts gX2_weigh_X2_leastWorst rfl rfl rfl (by decide +kernel) ⟨Nat.le_of_ble_eq_true rfl, Nat.le_of_ble_eq_true rfl⟩) hP hK (q0 := 0) rfl rfl rfl hE hS rfl rfl hl.1 (Nat.le_of_ble_eq_true rfl) dX2_weigh_60 ⟨Nat.le_refl _, Nat.le_refl _⟩ (fun r60 h60 => ?_)
      subst h60
      refine lv_goto (tgt := 67) hx hb dX2_weigh_63 (by decide) ?_
      refine n_iast (i := x) (x := (nI (lwF (fun k => askW ac co wo x k) (fun k => decide (dg k = 0)) cc))) (g := aN (va_up wo x (lwF (fun k => askW ac co wo x k) (fun k => decide (dg k = 0)) cc))) (ws' := ((wP kA qp q qc (va_up cm x (comA cm x (5 ^ q6) (ac q6))) (va_up wo x (lwF (fun k => askW ac co wo x k) (fun k => decide (dg k = 0)) cc)) dg) ++ ((wC kA qc q cn sd bt fi se tl ax cf ow ho ov cs) ++ (wT kA q cc ac co ad rc nm st an)))) hx hb hK hP hD hS 2 0 rfl rfl hx31 (Nat.le_of_ble_eq_true rfl) (aN_up _ _ _) rfl dX2_weigh_67 (fun H locs hP hD hS => ?_)
      have hw9 : ((wP kA qp q qc (va_up cm x (comA cm x (5 ^ q6) (ac q6))) (va_up wo x (lwF (fun k => askW ac co wo x k) (fun k => decide (dg k = 0)) cc)) dg) ++ ((wC kA qc q cn sd bt fi se tl ax cf ow ho ov cs) ++ (wT kA q cc ac co ad rc nm st an))) = ((wP kA qp q qc (va_up cm x (cmN cc ac sd ax cm dg x)) (va_up wo x (woN cc ac co wo dg x (cmN cc ac sd ax cm dg x))) dg) ++ ((wC kA qc q cn sd bt fi se tl ax cf ow ho ov cs) ++ (wT kA q cc ac co ad rc nm st an))) := (by (first | rw [cmN_none c6] | rw [cmN_some c6]); (unfold woN; first | rw [if_pos (by rw [← c55, up_s])] | rw [if_neg (fun h => c55 (by rw [up_s]; exact h))]))
      rw [hw9] at hP hD
      exact n_wretv hx hb hr hlocks (post := fun (u : Unit) => True) (w1 := fun u => ((wP kA qp q qc (va_up cm x (cmN cc ac sd ax cm dg x)) (va_up wo x (woN cc ac co wo dg x (cmN cc ac sd ax cm dg x))) dg) ++ ((wC kA qc q cn sd bt fi se tl ax cf ow ho ov cs) ++ (wT kA q cc ac co ad rc nm st an)))) () trivial hP hD hK hS hAe dX2_weigh_68
  · have hl : lv_has ls 3 [(2, .int (oI none)), (0, .ref (qp 0)), (1, .int (nI x))] := by rw [c6] at hl; exact hl
    have hd1 : ∀ k, k < cc → 1 ≤ dg k := fun k hk => by
      have h9 := firstF_noneI c6 k hk
      have h8 := of_decide_eq_false h9
      omega
    refine lv_aload_n hx hb dX2_weigh_9 rfl (lv_at hl 1 rfl) ?_
    refine n_get (ci := 2) (v := .ref (qp 1)) (C := RX2) (T := TX2) (N := 5) hx hb hts hinX2 hown hK hP 0 rfl rfl 2 rfl ⟨rfl, rfl, rfl⟩ f11 rfl dX2_weigh_10 ?_
    refine lv_iload_n hx hb dX2_weigh_13 rfl (lv_at hl 2 rfl) ?_
    refine lv_aload_n hx hb dX2_weigh_14 rfl (lv_at hl 1 rfl) ?_
    refine n_get (ci := 2) (v := .ref (qc 0)) (C := RX2) (T := TX2) (N := 5) hx hb hts hinX2 hown hK hP 0 rfl rfl 1 rfl ⟨rfl, rfl, rfl⟩ f25 rfl dX2_weigh_15 ?_
    refine n_get (ci := 0) (v := .ref (qc 6)) (C := RX0) (T := TX0) (N := 13) hx hb hts hinX0 hown hK hP 4 rfl rfl 7 rfl ⟨rfl, rfl, rfl⟩ f53 rfl dX2_weigh_18 ?_
    refine lv_aload_n hx hb dX2_weigh_21 rfl (lv_at hl 1 rfl) ?_
    refine n_cV (b := qp 0) (As := []) (rest := [.ref (qc 6), .int (nI x), .ref (qp 1)]) (wc := ((wP kA qp q qc cm wo dg) ++ ((wC kA qc q cn sd bt fi se tl ax cf ow ho ov cs) ++ (wT kA q cc ac co ad rc nm st an)))) hS0 (c_X2_caseOfDigits lQ D kA qp cm wo dg qc cn sd bt fi se tl ax cf ow ho ov cs q cc ac co ad rc nm st an (by first | assumption | omega) hd1) (cwV 0 hts gX2_weigh_X2_caseOfDigits rfl rfl rfl (by decide +kernel) ⟨Nat.le_of_ble_eq_true rfl, Nat.le_of_ble_eq_true rfl⟩) hP hK (q0 := 0) rfl rfl rfl rfl rfl hl.1 (Nat.le_of_ble_eq_true rfl) dX2_weigh_22 ⟨Nat.le_refl _, Nat.le_refl _⟩ (fun r22 h22 => ?_)
    subst h22
    refine n_iald (i := sumF (fun k => (dg k - 1) * sd k) cc) (v := (nI (ax (sumF (fun k => (dg k - 1) * sd k) cc)))) hx hb hK hP 10 0 rfl rfl (hcs hd1).1 (Nat.le_of_ble_eq_true rfl) rfl dX2_weigh_25 ?_
    refine n_iast (i := x) (x := (nI (ax (sumF (fun k => (dg k - 1) * sd k) cc)))) (g := aN (va_up cm x (ax (sumF (fun k => (dg k - 1) * sd k) cc)))) (ws' := ((wP kA qp q qc (va_up cm x (ax (sumF (fun k => (dg k - 1) * sd k) cc))) wo dg) ++ ((wC kA qc q cn sd bt fi se tl ax cf ow ho ov cs) ++ (wT kA q cc ac co ad rc nm st an)))) hx hb hK hP hD hS 1 0 rfl rfl hx31 (Nat.le_of_ble_eq_true rfl) (aN_up _ _ _) rfl dX2_weigh_26 (fun H locs hP hD hS => ?_)
    refine lv_goto (tgt := 42) hx hb dX2_weigh_27 (by decide) ?_
    refine lv_aload_n hx hb dX2_weigh_42 rfl (lv_at hl 1 rfl) ?_
    refine n_get (ci := 2) (v := .ref (qp 2)) (C := RX2) (T := TX2) (N := 5) hx hb hts hinX2 hown hK hP 0 rfl rfl 3 rfl ⟨rfl, rfl, rfl⟩ f15 rfl dX2_weigh_43 ?_
    refine lv_iload_n hx hb dX2_weigh_46 rfl (lv_at hl 2 rfl) ?_
    refine lv_aload_n hx hb dX2_weigh_47 rfl (lv_at hl 1 rfl) ?_
    refine n_get (ci := 2) (v := .ref (qp 1)) (C := RX2) (T := TX2) (N := 5) hx hb hts hinX2 hown hK hP 0 rfl rfl 2 rfl ⟨rfl, rfl, rfl⟩ f11 rfl dX2_weigh_48 ?_
    refine lv_iload_n hx hb dX2_weigh_51 rfl (lv_at hl 2 rfl) ?_
    refine n_iald (i := x) (v := (nI ((va_up cm x (ax (sumF (fun k => (dg k - 1) * sd k) cc))) x))) hx hb hK hP 1 0 rfl rfl hx31 (Nat.le_of_ble_eq_true rfl) rfl dX2_weigh_52 ?_
    refine lv_bipush (v := (nI 11)) hx hb dX2_weigh_53 (by decide) ?_
    refine n_icmp_ne (a := (va_up cm x (ax (sumF (fun k => (dg k - 1) * sd k) cc))) x) (b := 11) (tgt := 66) hx hb (by rw [up_s]; first | exact Nat.lt_trans (hcs hd1).2 (by decide) | exact Nat.lt_trans (comA_lt (hcm _ (by have := ix_le (hop _ (firstF_spec c6).1 (of_decide_eq_true (firstF_spec c6).2.1)) (a := 1) (by decide); omega))) (by decide)) (by decide) dX2_weigh_55 (by decide) (fun c55 => ?_) (fun c55 => ?_)
    · refine lv_iconst (v := (nI 0)) hx hb dX2_weigh_66 (by decide) ?_
      refine n_iast (i := x) (x := (nI 0)) (g := aN (va_up wo x 0)) (ws' := ((wP kA qp q qc (va_up cm x (ax (sumF (fun k => (dg k - 1) * sd k) cc))) (va_up wo x 0) dg) ++ ((wC kA qc q cn sd bt fi se tl ax cf ow ho ov cs) ++ (wT kA q cc ac co ad rc nm st an)))) hx hb hK hP hD hS 2 0 rfl rfl hx31 (Nat.le_of_ble_eq_true rfl) (aN_up _ _ _) rfl dX2_weigh_67 (fun H locs hP hD hS => ?_)
      have hw9 : ((wP kA qp q qc (va_up cm x (ax (sumF (fun k => (dg k - 1) * sd k) cc))) (va_up wo x 0) dg) ++ ((wC kA qc q cn sd bt fi se tl ax cf ow ho ov cs) ++ (wT kA q cc ac co ad rc nm st an))) = ((wP kA qp q qc (va_up cm x (cmN cc ac sd ax cm dg x)) (va_up wo x (woN cc ac co wo dg x (cmN cc ac sd ax cm dg x))) dg) ++ ((wC kA qc q cn sd bt fi se tl ax cf ow ho ov cs) ++ (wT kA q cc ac co ad rc nm st an))) := (by (first | rw [cmN_none c6] | rw [cmN_some c6]); (unfold woN; first | rw [if_pos (by rw [← c55, up_s])] | rw [if_neg (fun h => c55 (by rw [up_s]; exact h))]))
      rw [hw9] at hP hD
      exact n_wretv hx hb hr hlocks (post := fun (u : Unit) => True) (w1 := fun u => ((wP kA qp q qc (va_up cm x (cmN cc ac sd ax cm dg x)) (va_up wo x (woN cc ac co wo dg x (cmN cc ac sd ax cm dg x))) dg) ++ ((wC kA qc q cn sd bt fi se tl ax cf ow ho ov cs) ++ (wT kA q cc ac co ad rc nm st an)))) () trivial hP hD hK hS hAe dX2_weigh_68
    · refine lv_aload_n hx hb dX2_weigh_58 rfl (lv_at hl 1 rfl) ?_
      refine lv_iload_n hx hb dX2_weigh_59 rfl (lv_at hl 2 rfl) ?_
      refine n_cVE (b := qp 0) (As := [.int (nI x)]) (rest := [.int (nI x), .ref (qp 2)]) (wc := ((wP kA qp q qc (va_up cm x (ax (sumF (fun k => (dg k - 1) * sd k) cc))) wo dg) ++ ((wC kA qc q cn sd bt fi se tl ax cf ow ho ov cs) ++ (wT kA q cc ac co ad rc nm st an)))) hS0 (c_X2_leastWorst lQ D kA adK adV qp (va_up cm x (ax (sumF (fun k => (dg k - 1) * sd k) cc))) wo dg qc cn sd bt fi se tl ax cf ow ho ov cs q cc ac co ad rc nm st an x (by first | assumption | omega) (by first | assumption | omega) (fun k hk => by rw [hdg k hk]; exact dg5_lt _ _) hop (by first | assumption | omega) (by first | assumption | omega)) (cwV 1 hts gX2_weigh_X2_leastWorst rfl rfl rfl (by decide +kernel) ⟨Nat.le_of_ble_eq_true rfl, Nat.le_of_ble_eq_true rfl⟩) hP hK (q0 := 0) rfl rfl rfl hE hS rfl rfl hl.1 (Nat.le_of_ble_eq_true rfl) dX2_weigh_60 ⟨Nat.le_refl _, Nat.le_refl _⟩ (fun r60 h60 => ?_)
      subst h60
      refine lv_goto (tgt := 67) hx hb dX2_weigh_63 (by decide) ?_
      refine n_iast (i := x) (x := (nI (lwF (fun k => askW ac co wo x k) (fun k => decide (dg k = 0)) cc))) (g := aN (va_up wo x (lwF (fun k => askW ac co wo x k) (fun k => decide (dg k = 0)) cc))) (ws' := ((wP kA qp q qc (va_up cm x (ax (sumF (fun k => (dg k - 1) * sd k) cc))) (va_up wo x (lwF (fun k => askW ac co wo x k) (fun k => decide (dg k = 0)) cc)) dg) ++ ((wC kA qc q cn sd bt fi se tl ax cf ow ho ov cs) ++ (wT kA q cc ac co ad rc nm st an)))) hx hb hK hP hD hS 2 0 rfl rfl hx31 (Nat.le_of_ble_eq_true rfl) (aN_up _ _ _) rfl dX2_weigh_67 (fun H locs hP hD hS => ?_)
      have hw9 : ((wP kA qp q qc (va_up cm x (ax (sumF (fun k => (dg k - 1) * sd k) cc))) (va_up wo x (lwF (fun k => askW ac co wo x k) (fun k => decide (dg k = 0)) cc)) dg) ++ ((wC kA qc q cn sd bt fi se tl ax cf ow ho ov cs) ++ (wT kA q cc ac co ad rc nm st an))) = ((wP kA qp q qc (va_up cm x (cmN cc ac sd ax cm dg x)) (va_up wo x (woN cc ac co wo dg x (cmN cc ac sd ax cm dg x))) dg) ++ ((wC kA qc q cn sd bt fi se tl ax cf ow ho ov cs) ++ (wT kA q cc ac co ad rc nm st an))) := (by (first | rw [cmN_none c6] | rw [cmN_some c6]); (unfold woN; first | rw [if_pos (by rw [← c55, up_s])] | rw [if_neg (fun h => c55 (by rw [up_s]; exact h))]))
      rw [hw9] at hP hD
      exact n_wretv hx hb hr hlocks (post := fun (u : Unit) => True) (w1 := fun u => ((wP kA qp q qc (va_up cm x (cmN cc ac sd ax cm dg x)) (va_up wo x (woN cc ac co wo dg x (cmN cc ac sd ax cm dg x))) dg) ++ ((wC kA qc q cn sd bt fi se tl ax cf ow ho ov cs) ++ (wT kA q cc ac co ad rc nm st an)))) () trivial hP hD hK hS hAe dX2_weigh_68


theorem rf_cs {cc x : Nat} {ac sd ax dg : Nat → Nat} (hcc : cc ≤ 5) (hac : ∀ k, k < cc → 2 ≤ ac k ∧ ac k ≤ 4) (hsd : ∀ k, k < cc → sd k = prodF ac k) (hax : ∀ c, c < prodF ac cc → ax c < 11) (hd : ∀ k, k < cc → dg k = dg5 x k) (hv : ∀ k, k < cc → dg5 x k ≤ ac k) (h : ∀ k, k < cc → 1 ≤ dg k) :
    sumF (fun k => (dg k - 1) * sd k) cc < 1024 ∧ ax (sumF (fun k => (dg k - 1) * sd k) cc) < 11 := by
  have h1 : sumF (fun k => (dg k - 1) * sd k) cc < prodF ac cc := by
    rw [cs_eq hsd]
    exact cs_lt (fun k hk => ⟨h k hk, by rw [hd k hk]; exact hv k hk⟩)
  exact ⟨Nat.lt_of_lt_of_le h1 (prodF_1024 hcc hac), hax _ h1⟩
theorem cmN_lt {cc x : Nat} {ac sd ax cm dg : Nat → Nat} (hcc : cc ≤ 5) (hac : ∀ k, k < cc → 2 ≤ ac k ∧ ac k ≤ 4) (hcm : ∀ y, y < 3125 → cm y < 12) (hx : x < 5 ^ cc) (hax : ∀ c, c < prodF ac cc → ax c < 11) (hsd : ∀ k, k < cc → sd k = prodF ac k) (hd : ∀ k, k < cc → dg k = dg5 x k) (hv : ∀ k, k < cc → dg5 x k ≤ ac k) : cmN cc ac sd ax cm dg x < 12 := by
  cases e : firstF (fun k => decide (dg k = 0)) cc with
  | none =>
    rw [cmN_none e]
    have h1 : ∀ k, k < cc → 1 ≤ dg k := fun k hk => by
      have h9 := of_decide_eq_false (firstF_noneI e k hk)
      omega
    exact Nat.lt_trans (rf_cs hcc hac hsd hax hd hv h1).2 (by decide)
  | some k =>
    have hs := firstF_spec e
    rw [cmN_some e]
    refine comA_lt (hcm _ ?_)
    have h9 := Nat.lt_of_lt_of_le (dg5_open hx hs.1 (by rw [← hd k hs.1]; exact of_decide_eq_true hs.2.1)) (p5_3125 hcc)
    omega
theorem rf_step {cc x m : Nat} {ac co sd ax cm wo dg : Nat → Nat} (hac : ∀ k, k < cc → 2 ≤ ac k ∧ ac k ≤ 4) (hok : ∀ y, m ≤ y → y < 5 ^ cc → valB ac y cc = true → cm y = cmN cc ac sd ax cm (dg5 y) y ∧ wo y = woN cc ac co wo (dg5 y) y (cm y)) (hm : m = x + 1) (hd : ∀ k, k < cc → dg k = dg5 x k) :
    ∀ y, x ≤ y → y < 5 ^ cc → valB ac y cc = true → va_up cm x (cmN cc ac sd ax cm dg x) y = cmN cc ac sd ax (va_up cm x (cmN cc ac sd ax cm dg x)) (dg5 y) y ∧ va_up wo x (woN cc ac co wo dg x (cmN cc ac sd ax cm dg x)) y = woN cc ac co (va_up wo x (woN cc ac co wo dg x (cmN cc ac sd ax cm dg x))) (dg5 y) y (va_up cm x (cmN cc ac sd ax cm dg x) y) := by
  intro y h1 h2 h3
  have hne : ∀ k j, 1 ≤ j → y + j * 5 ^ k ≠ x := fun k j hj => by
    have : 1 * 1 ≤ j * 5 ^ k := Nat.mul_le_mul hj (Nat.pow_pos (by decide))
    omega
  have e1 : cmN cc ac sd ax (va_up cm x (cmN cc ac sd ax cm dg x)) (dg5 y) y = cmN cc ac sd ax cm (dg5 y) y := cmN_dep hac (fun k j _ _ hj _ => up_n _ _ (hne k j hj)) (fun _ => rfl)
  have e2 : ∀ c, woN cc ac co (va_up wo x (woN cc ac co wo dg x (cmN cc ac sd ax cm dg x))) (dg5 y) y c = woN cc ac co wo (dg5 y) y c := fun c => woN_dep (fun k j _ _ hj _ => up_n _ _ (hne k j hj))
  rw [e1, e2]
  by_cases e : y = x
  · subst e
    rw [up_s, up_s, cmN_cong hd, woN_cong hd]
    exact ⟨rfl, rfl⟩
  · rw [up_n _ _ e, up_n _ _ e]
    exact hok y (by omega) h2 h3

set_option maxHeartbeats 4000000 in
set_option maxRecDepth 100000 in
theorem c_X2_refresh (lQ : Launch) (D : va_G) (kA : Nat → ClassId) (adK adV : Nat → Nat) (qp : Nat → Nat) (cm : Nat → Nat) (wo : Nat → Nat) (dg : Nat → Nat) (qc : Nat → Nat) (cn : Nat) (sd : Nat → Nat) (bt : Nat → Nat) (fi : Nat → Option Nat) (se : Nat → Option Nat) (tl : Nat → Nat) (ax : Nat → Nat) (cf : Nat → Bool) (ow : Nat → Nat) (ho : Nat) (ov : Nat) (cs : Nat) (q : Nat → Nat) (cc : Nat) (ac : Nat → Nat) (co : Nat → Nat) (ad : Nat) (rc : Nat) (nm : Nat → Nat) (st : Nat → Nat) (an : Nat → Nat) (sz : Nat) (hcc : cc ≤ 5) (hac : ∀ k, k < cc → 2 ≤ ac k ∧ ac k ≤ 4) (hco : ∀ k, k < cc → co k < 10) (hcm : ∀ y, y < 3125 → cm y < 12) (hwo : ∀ y, y < 3125 → wo y ≤ 100) (hsd : ∀ k, k < cc → sd k = prodF ac k) (hax : ∀ c, c < prodF ac cc → ax c < 11) : Met lQ yX2_refresh wsX2_refresh (rmN 3 71) (wrE_Pc D vwCl adK adV [.ref (qp 0)] ((wP kA qp q qc cm wo dg) ++ ((wC kA qc q cn sd bt fi se tl ax cf ow ho ov cs) ++ (wT kA q cc ac co ad rc nm st an))) (tyK kA) sz) (va_Qv (S := (Nat → Nat) × (Nat → Nat) × (Nat → Nat)) (fun (u : (Nat → Nat) × (Nat → Nat) × (Nat → Nat)) => plOK cc ac co sd ax u.1 u.2.1 ∧ (∀ y, y < 3125 → u.1 y < 12) ∧ (∀ y, y < 3125 → u.2.1 y ≤ 100)) (wr_B D vwCl ((wP kA qp q qc cm wo dg) ++ ((wC kA qc q cn sd bt fi se tl ax cf ow ho ov cs) ++ (wT kA q cc ac co ad rc nm st an))) (tyK kA) sz (fun u => ((wP kA qp q qc u.1 u.2.1 u.2.2) ++ ((wC kA qc q cn sd bt fi se tl ax cf ow ho ov cs) ++ (wT kA q cc ac co ad rc nm st an))))) (va_A ((wP kA qp q qc cm wo dg) ++ ((wC kA qc q cn sd bt fi se tl ax cf ow ho ov cs) ++ (wT kA q cc ac co ad rc nm st an))) sz)) 0 0 (va_A ((wP kA qp q qc cm wo dg) ++ ((wC kA qc q cn sd bt fi se tl ax cf ow ho ov cs) ++ (wT kA q cc ac co ad rc nm st an))) sz) := by
  refine Met.ofW (cc := cX2_refresh) (maxL := 2) (ret := none) (by decide) rfl ?_
  intro pQ eQ s mQ args below meth cQ s₁ B hml hv
  obtain ⟨rfl, hsz, hP, hK, hD0, hE⟩ := hv
  have hx := B.exec
  have hb := B.bytes
  have hr := B.returns
  have hts := atoms_spec (ws := wsX2_refresh) B.pre
  have hown : s.vm.findClass RX2 = some mQ.cls := findClass_of_methodNamed B.named
  have hlocks : meth.locks = false := B.notSynchronized
  have hS0 : CallFix pQ mQ cQ cX2_refresh 2 s ([.ref (qp 0)] : List Value).toArray wsX2_refresh RX2 := ⟨hx, hb, hml, hown, hts⟩
  subst hsz
  have hD := hD0.self (sz := s.heap.size)
  generalize hAe : va_A ((wP kA qp q qc cm wo dg) ++ ((wC kA qc q cn sd bt fi se tl ax cf ow ho ov cs) ++ (wT kA q cc ac co ad rc nm st an))) s.heap.size = A at hD hE ⊢
  have hA : ∀ q : Nat, s.heap.size ≤ q → A q := fun q h => by rw [← hAe]; exact Or.inr h
  have hS : va_S A s.heap s.heap [] := va_S.rf
  have f38 : (Cond.fieldLink RX2 38 "AskedRules$Plans" "POWER" "[I").before ([.ref (qp 0)] : List Value).toArray s = true := hts _ (by decide +kernel)
  have f21 : (Cond.fieldLink RX2 21 "AskedRules$Plans" "table" "LAskedRules$Table;").before ([.ref (qp 0)] : List Value).toArray s = true := hts _ (by decide +kernel)
  have hinX2 : ∀ w ∈ wsX20, w ∈ wsX2_refresh := by decide +kernel
  have f29 : (Cond.fieldLink RX2 29 "AskedRules$Table" "conditionCount" "I").before ([.ref (qp 0)] : List Value).toArray s = true := hts _ (by decide +kernel)
  have hinX4 : ∀ w ∈ wsX40, w ∈ wsX2_refresh := by decide +kernel
  have hl := lv_entry ([.ref (qp 0)]) (n := 2) (Nat.le_of_ble_eq_true rfl)
  rw [lg_entry_eq]
  generalize (lg_sl ([.ref (qp 0)]) ++ List.replicate (2 - (lg_sl ([.ref (qp 0)])).length) Slot.unset).toArray = ls at hl ⊢
  have hl : lv_has ls 2 [(0, .ref (qp 0))] := hl
  have hP : va_P D vwCl ((wP kA qp q qc cm wo dg) ++ ((wC kA qc q cn sd bt fi se tl ax cf ow ho ov cs) ++ (wT kA q cc ac co ad rc nm st an))) s.heap := hP
  have hD : va_D A ((wP kA qp q qc cm wo dg) ++ ((wC kA qc q cn sd bt fi se tl ax cf ow ho ov cs) ++ (wT kA q cc ac co ad rc nm st an))) := hD
  obtain ⟨tP, hZP, hTP⟩ := hE.1
  have hp9 : 5 ^ cc ≤ 3125 := p5_3125 hcc
  refine va_gets (C := "AskedRules$Plans") hx hb hZP hS hown f38 (fun _ h9 => h9) dX2_refresh_0 ?_
  refine lv_aload_n hx hb dX2_refresh_3 rfl (lv_at hl 0 rfl) ?_
  refine n_get (ci := 2) (v := .ref (q 0)) (C := RX2) (T := TX2) (N := 5) hx hb hts hinX2 hown hK hP 0 rfl rfl 0 rfl ⟨rfl, rfl, rfl⟩ f21 rfl dX2_refresh_4 ?_
  refine n_get (ci := 4) (v := .int (nI cc)) (C := RX4) (T := TX4) (N := 8) hx hb hts hinX4 hown hK hP 13 rfl rfl 0 rfl ⟨rfl, rfl, rfl⟩ f29 rfl dX2_refresh_7 ?_
  refine n_tald (i := cc) hx hb hTP hS (by omega) dX2_refresh_10 ?_
  refine lv_iconst (v := (nI 1)) hx hb dX2_refresh_11 (by decide) ?_
  refine n_isub (v := (oI (dO (5 ^ cc)))) hx hb (oI_dO _) dX2_refresh_12 ?_
  refine lv_istore_n (lv' := [(1, .int (oI (dO (5 ^ cc)))), (0, .ref (qp 0))]) hx hb dX2_refresh_13 rfl hl (by decide) rfl (fun ls hl => ?_)
  have L14 : ∀ (nQ : Nat) (m9 : Nat) (cmx : Nat → Nat) (wox : Nat → Nat) (dgx : Nat → Nat), m9 < nQ → (m9 ≤ 5 ^ cc) → ((∀ y, m9 ≤ y → y < 5 ^ cc → valB ac y cc = true → cmx y = cmN cc ac sd ax cmx (dg5 y) y ∧ wox y = woN cc ac co wox (dg5 y) y (cmx y))) → (∀ y, y < 3125 → cmx y < 12) → (∀ y, y < 3125 → wox y ≤ 100) → ∀ (H : Heap) (locs : List Loc), va_P D vwCl ((wP kA qp q qc cmx wox dgx) ++ ((wC kA qc q cn sd bt fi se tl ax cf ow ho ov cs) ++ (wT kA q cc ac co ad rc nm st an))) H → va_D A ((wP kA qp q qc cmx wox dgx) ++ ((wC kA qc q cn sd bt fi se tl ax cf ow ho ov cs) ++ (wT kA q cc ac co ad rc nm st an))) → va_S A s.heap H locs → ∀ (ls : Array Slot), lv_has ls 2 [(1, .int (oI (dO m9))), (0, .ref (qp 0))] → W pQ lQ eQ (headSpec wsX2_refresh (rmN 3 71)).room s mQ ([.ref (qp 0)] : List Value).toArray below meth cQ H locs 0 0 (MQ below (va_Qv (S := (Nat → Nat) × (Nat → Nat) × (Nat → Nat)) (fun (u : (Nat → Nat) × (Nat → Nat) × (Nat → Nat)) => plOK cc ac co sd ax u.1 u.2.1 ∧ (∀ y, y < 3125 → u.1 y < 12) ∧ (∀ y, y < 3125 → u.2.1 y ≤ 100)) (wr_B D vwCl ((wP kA qp q qc cm wo dg) ++ ((wC kA qc q cn sd bt fi se tl ax cf ow ho ov cs) ++ (wT kA q cc ac co ad rc nm st an))) (tyK kA) s.heap.size (fun u => ((wP kA qp q qc u.1 u.2.1 u.2.2) ++ ((wC kA qc q cn sd bt fi se tl ax cf ow ho ov cs) ++ (wT kA q cc ac co ad rc nm st an))))) A) ([.ref (qp 0)] : List Value).toArray s 0 0 A) (F0 mQ 14 ls []) := by
    intro nQ
    induction nQ with
    | zero => intro m9 cmx wox dgx hn; exact absurd hn (Nat.not_lt_zero _)
    | succ nQ ih14 =>
      intro m9 cmx wox dgx hm14 hm hok hcmx hwox H locs hP hD hS ls hl
      refine lv_iload_n hx hb dX2_refresh_14 rfl (lv_at hl 0 rfl) ?_
      refine n_ifo_lt (o := dO m9) (tgt := 37) hx hb (fun q h => by have := dO_some h; omega) dX2_refresh_15 (by decide) (fun c15 => ?_) (fun q15 c15 => ?_)
      · have hl : lv_has ls 2 [(1, .int (oI none)), (0, .ref (qp 0))] := by rw [c15] at hl; exact hl
        have hm0 := dO_none c15
        exact n_wretv hx hb hr hlocks (post := fun (u : (Nat → Nat) × (Nat → Nat) × (Nat → Nat)) => plOK cc ac co sd ax u.1 u.2.1 ∧ (∀ y, y < 3125 → u.1 y < 12) ∧ (∀ y, y < 3125 → u.2.1 y ≤ 100)) (w1 := fun u => ((wP kA qp q qc u.1 u.2.1 u.2.2) ++ ((wC kA qc q cn sd bt fi se tl ax cf ow ho ov cs) ++ (wT kA q cc ac co ad rc nm st an)))) (cmx, wox, dgx) ⟨fun y hy hv => hok y (by omega) hy hv, hcmx, hwox⟩ hP hD hK hS hAe dX2_refresh_37
      · have hl : lv_has ls 2 [(1, .int (nI q15)), (0, .ref (qp 0))] := by rw [c15] at hl; exact hl
        have hmq9 := dO_some c15
        refine lv_aload_n hx hb dX2_refresh_18 rfl (lv_at hl 1 rfl) ?_
        refine lv_iload_n hx hb dX2_refresh_19 rfl (lv_at hl 0 rfl) ?_
        refine n_wVi (b := qp 0) (As := [.int (nI q15)]) (rest := []) (wr := []) (ws' := fun u => ((wP kA qp q qc cmx wox u) ++ ((wC kA qc q cn sd bt fi se tl ax cf ow ho ov cs) ++ (wT kA q cc ac co ad rc nm st an)))) hS0 (c_X2_readDigits lQ D kA qp cmx wox dgx qc cn sd bt fi se tl ax cf ow ho ov cs q cc ac co ad rc nm st an q15 H.size (by first | assumption | omega) (by first | assumption | omega) (by omega)) (cwV 1 hts gX2_refresh_X2_readDigits rfl rfl rfl (by decide +kernel) ⟨Nat.le_of_ble_eq_true rfl, Nat.le_of_ble_eq_true rfl⟩) hP hD hS hA hK hK (by simpa only [List.append_assoc, List.append_nil] using ((List.Perm.refl _).trans (List.Perm.append_left _ ((List.Perm.refl _).trans (List.Perm.append_left _ (List.Perm.of_eq (List.append_nil _).symm)))))) (fun u => List.Perm.symm (by simpa only [List.append_assoc, List.append_nil] using ((List.Perm.refl _).trans (List.Perm.append_left _ ((List.Perm.refl _).trans (List.Perm.append_left _ (List.Perm.of_eq (List.append_nil _).symm))))))) (q0 := 0) rfl rfl rfl rfl rfl hl.1 (Nat.le_of_ble_eq_true rfl) dX2_refresh_20 ⟨Nat.le_refl _, Nat.le_refl _⟩ (fun r20 u20 H locs h20 hP hD hS => ?_)
        obtain ⟨dg1_20, rfl⟩ : ∃ z, z = u20 := ⟨_, rfl⟩
        obtain ⟨rfl, h20_1⟩ := h20
        have hP : va_P D vwCl ((wP kA qp q qc cmx wox dg1_20) ++ ((wC kA qc q cn sd bt fi se tl ax cf ow ho ov cs) ++ (wT kA q cc ac co ad rc nm st an))) H := hP
        have hD : va_D A ((wP kA qp q qc cmx wox dg1_20) ++ ((wC kA qc q cn sd bt fi se tl ax cf ow ho ov cs) ++ (wT kA q cc ac co ad rc nm st an))) := hD
        have hdq := h20_1
        refine n_ifb_eq (b := valB ac q15 cc) (tgt := 31) hx hb dX2_refresh_23 (by decide) (fun c23 => ?_) (fun c23 => ?_)
        · refine lv_iinc (v := (oI (dO q15))) (lv' := [(1, .int (oI (dO q15))), (0, .ref (qp 0))]) hx hb dX2_refresh_31 hl (k := 0) rfl (nI_dec _) (by decide) rfl (fun ls hl => ?_)
          refine lv_goto (tgt := 14) hx hb dX2_refresh_34 (by decide) ?_
          have hmq := dO_some c15
          exact ih14 q15 cmx wox dg1_20 (by omega) (by first | assumption | omega) (by first | (refine fun y h1 h2 h3 => ?_; by_cases e : y = q15; (subst e; rw [c23] at h3; cases h3); exact hok y (by omega) h2 h3) | exact rf_step hac hok (by omega) (hdq c23)) (by first | exact hcmx | (refine fun y hy => ?_; by_cases e : y = q15; (subst e; rw [up_s]; exact cmN_lt hcc hac hcmx (by omega) hax hsd (hdq c23) (valB_i c23)); rw [up_n _ _ e]; exact hcmx y hy)) (by first | exact hwox | (refine fun y hy => ?_; by_cases e : y = q15; (subst e; rw [up_s]; exact woN_le); rw [up_n _ _ e]; exact hwox y hy)) _ _ hP hD hS _ (lv_sub hl [0, 1] rfl)
        · refine lv_aload_n hx hb dX2_refresh_26 rfl (lv_at hl 1 rfl) ?_
          refine lv_iload_n hx hb dX2_refresh_27 rfl (lv_at hl 0 rfl) ?_
          refine n_wVvE (b := qp 0) (As := [.int (nI q15)]) (rest := []) (wr := []) (ws' := fun u => ((wP kA qp q qc (va_up cmx q15 (cmN cc ac sd ax cmx dg1_20 q15)) (va_up wox q15 (woN cc ac co wox dg1_20 q15 (cmN cc ac sd ax cmx dg1_20 q15))) dg1_20) ++ ((wC kA qc q cn sd bt fi se tl ax cf ow ho ov cs) ++ (wT kA q cc ac co ad rc nm st an)))) hS0 (c_X2_weigh lQ D kA adK adV qp cmx wox dg1_20 qc cn sd bt fi se tl ax cf ow ho ov cs q cc ac co ad rc nm st an q15 H.size (by first | assumption | omega) (by first | assumption | omega) (by first | assumption | omega) (by omega) (hdq c23) (by first | assumption | omega) (by first | assumption | omega) (fun h => rf_cs hcc hac hsd hax (hdq c23) (valB_i c23) h)) (cwV 1 hts gX2_refresh_X2_weigh rfl rfl rfl (by decide +kernel) ⟨Nat.le_of_ble_eq_true rfl, Nat.le_of_ble_eq_true rfl⟩) hP hD hS hE hA hK hK (by simpa only [List.append_assoc, List.append_nil] using ((List.Perm.refl _).trans (List.Perm.append_left _ ((List.Perm.refl _).trans (List.Perm.append_left _ (List.Perm.of_eq (List.append_nil _).symm)))))) (fun u => List.Perm.symm (by simpa only [List.append_assoc, List.append_nil] using ((List.Perm.refl _).trans (List.Perm.append_left _ ((List.Perm.refl _).trans (List.Perm.append_left _ (List.Perm.of_eq (List.append_nil _).symm))))))) (q0 := 0) rfl rfl rfl rfl rfl hl.1 (Nat.le_of_ble_eq_true rfl) dX2_refresh_28 ⟨Nat.le_refl _, Nat.le_refl _⟩ (fun u28 H locs h28 hP hD hS => ?_)
          have hP : va_P D vwCl ((wP kA qp q qc (va_up cmx q15 (cmN cc ac sd ax cmx dg1_20 q15)) (va_up wox q15 (woN cc ac co wox dg1_20 q15 (cmN cc ac sd ax cmx dg1_20 q15))) dg1_20) ++ ((wC kA qc q cn sd bt fi se tl ax cf ow ho ov cs) ++ (wT kA q cc ac co ad rc nm st an))) H := hP
          have hD : va_D A ((wP kA qp q qc (va_up cmx q15 (cmN cc ac sd ax cmx dg1_20 q15)) (va_up wox q15 (woN cc ac co wox dg1_20 q15 (cmN cc ac sd ax cmx dg1_20 q15))) dg1_20) ++ ((wC kA qc q cn sd bt fi se tl ax cf ow ho ov cs) ++ (wT kA q cc ac co ad rc nm st an))) := hD
          refine lv_iinc (v := (oI (dO q15))) (lv' := [(1, .int (oI (dO q15))), (0, .ref (qp 0))]) hx hb dX2_refresh_31 hl (k := 0) rfl (nI_dec _) (by decide) rfl (fun ls hl => ?_)
          refine lv_goto (tgt := 14) hx hb dX2_refresh_34 (by decide) ?_
          have hmq := dO_some c15
          exact ih14 q15 (va_up cmx q15 (cmN cc ac sd ax cmx dg1_20 q15)) (va_up wox q15 (woN cc ac co wox dg1_20 q15 (cmN cc ac sd ax cmx dg1_20 q15))) dg1_20 (by omega) (by first | assumption | omega) (by first | (refine fun y h1 h2 h3 => ?_; by_cases e : y = q15; (subst e; rw [c23] at h3; cases h3); exact hok y (by omega) h2 h3) | exact rf_step hac hok (by omega) (hdq c23)) (by first | exact hcmx | (refine fun y hy => ?_; by_cases e : y = q15; (subst e; rw [up_s]; exact cmN_lt hcc hac hcmx (by omega) hax hsd (hdq c23) (valB_i c23)); rw [up_n _ _ e]; exact hcmx y hy)) (by first | exact hwox | (refine fun y hy => ?_; by_cases e : y = q15; (subst e; rw [up_s]; exact woN_le); rw [up_n _ _ e]; exact hwox y hy)) _ _ hP hD hS _ (lv_sub hl [0, 1] rfl)
  exact L14 (((5 ^ cc)) + 1) (5 ^ cc) cm wo dg (Nat.lt_succ_self _) (Nat.le_refl _) (fun y h1 h2 => absurd h2 (by omega)) hcm hwo _ _ hP hD hS _ (lv_sub hl [0, 1] rfl)

theorem q_f2 {a : Bool} {x y : Nat} (h : x ≠ y) : (a && decide (x = y)) = false := by rw [decide_eq_false h, Bool.and_false]

set_option maxHeartbeats 4000000 in
set_option maxRecDepth 100000 in
theorem c_X2_question (lQ : Launch) (D : va_G) (kA : Nat → ClassId) (adK adV : Nat → Nat) (qp : Nat → Nat) (cm : Nat → Nat) (wo : Nat → Nat) (dg : Nat → Nat) (qc : Nat → Nat) (cn : Nat) (sd : Nat → Nat) (bt : Nat → Nat) (fi : Nat → Option Nat) (se : Nat → Option Nat) (tl : Nat → Nat) (ax : Nat → Nat) (cf : Nat → Bool) (ow : Nat → Nat) (ho : Nat) (ov : Nat) (cs : Nat) (q : Nat → Nat) (cc : Nat) (ac : Nat → Nat) (co : Nat → Nat) (ad : Nat) (rc : Nat) (nm : Nat → Nat) (st : Nat → Nat) (an : Nat → Nat) (x : Nat) (sz : Nat) (hcc : cc ≤ 5) (hac : ∀ k, k < cc → 2 ≤ ac k ∧ ac k ≤ 4) (hco : ∀ k, k < cc → co k < 10) (hxx : x < 5 ^ cc) (hv : valB ac x cc = true) (hcm : ∀ y, y < 3125 → cm y < 12) (hwo : ∀ y, y < 3125 → wo y ≤ 100) : Met lQ yX2_question wsX2_question (rmN 1 25) (wrE_Pc D vwCl adK adV [.ref (qp 0), .int (nI x)] ((wP kA qp q qc cm wo dg) ++ ((wC kA qc q cn sd bt fi se tl ax cf ow ho ov cs) ++ (wT kA q cc ac co ad rc nm st an))) (tyK kA) sz) (va_Qi (S := (Nat → Nat)) (fun (r : Int32) (u : (Nat → Nat)) => r = (oI (if cm x = 11 then firstF (fun k => decide (dg5 x k = 0) && decide (askW ac co wo x k = wo x)) cc else none))) (wr_B D vwCl ((wP kA qp q qc cm wo dg) ++ ((wC kA qc q cn sd bt fi se tl ax cf ow ho ov cs) ++ (wT kA q cc ac co ad rc nm st an))) (tyK kA) sz (fun u => ((wP kA qp q qc cm wo u) ++ ((wC kA qc q cn sd bt fi se tl ax cf ow ho ov cs) ++ (wT kA q cc ac co ad rc nm st an))))) (va_A ((wP kA qp q qc cm wo dg) ++ ((wC kA qc q cn sd bt fi se tl ax cf ow ho ov cs) ++ (wT kA q cc ac co ad rc nm st an))) sz)) 0 0 (va_A ((wP kA qp q qc cm wo dg) ++ ((wC kA qc q cn sd bt fi se tl ax cf ow ho ov cs) ++ (wT kA q cc ac co ad rc nm st an))) sz) := by
  refine Met.ofW (cc := cX2_question) (maxL := 3) (ret := (some .int)) (by decide) rfl ?_
  intro pQ eQ s mQ args below meth cQ s₁ B hml hv
  obtain ⟨rfl, hsz, hP, hK, hD0, hE⟩ := hv
  have hx := B.exec
  have hb := B.bytes
  have hr := B.returns
  have hts := atoms_spec (ws := wsX2_question) B.pre
  have hown : s.vm.findClass RX2 = some mQ.cls := findClass_of_methodNamed B.named
  have hlocks : meth.locks = false := B.notSynchronized
  have hS0 : CallFix pQ mQ cQ cX2_question 3 s ([.ref (qp 0), .int (nI x)] : List Value).toArray wsX2_question RX2 := ⟨hx, hb, hml, hown, hts⟩
  subst hsz
  have hD := hD0.self (sz := s.heap.size)
  generalize hAe : va_A ((wP kA qp q qc cm wo dg) ++ ((wC kA qc q cn sd bt fi se tl ax cf ow ho ov cs) ++ (wT kA q cc ac co ad rc nm st an))) s.heap.size = A at hD hE ⊢
  have hA : ∀ q : Nat, s.heap.size ≤ q → A q := fun q h => by rw [← hAe]; exact Or.inr h
  have hS : va_S A s.heap s.heap [] := va_S.rf
  have f11 : (Cond.fieldLink RX2 11 "AskedRules$Plans" "common" "[I").before ([.ref (qp 0), .int (nI x)] : List Value).toArray s = true := hts _ (by decide +kernel)
  have hinX2 : ∀ w ∈ wsX20, w ∈ wsX2_question := by decide +kernel
  have f21 : (Cond.fieldLink RX2 21 "AskedRules$Plans" "table" "LAskedRules$Table;").before ([.ref (qp 0), .int (nI x)] : List Value).toArray s = true := hts _ (by decide +kernel)
  have f29 : (Cond.fieldLink RX2 29 "AskedRules$Table" "conditionCount" "I").before ([.ref (qp 0), .int (nI x)] : List Value).toArray s = true := hts _ (by decide +kernel)
  have hinX4 : ∀ w ∈ wsX40, w ∈ wsX2_question := by decide +kernel
  have f18 : (Cond.fieldLink RX2 18 "AskedRules$Plans" "digit" "[I").before ([.ref (qp 0), .int (nI x)] : List Value).toArray s = true := hts _ (by decide +kernel)
  have f15 : (Cond.fieldLink RX2 15 "AskedRules$Plans" "worst" "[I").before ([.ref (qp 0), .int (nI x)] : List Value).toArray s = true := hts _ (by decide +kernel)
  have hl := lv_entry ([.ref (qp 0), .int (nI x)]) (n := 3) (Nat.le_of_ble_eq_true rfl)
  rw [lg_entry_eq]
  generalize (lg_sl ([.ref (qp 0), .int (nI x)]) ++ List.replicate (3 - (lg_sl ([.ref (qp 0), .int (nI x)])).length) Slot.unset).toArray = ls at hl ⊢
  have hl : lv_has ls 3 [(0, .ref (qp 0)), (1, .int (nI x))] := hl
  have hP : va_P D vwCl ((wP kA qp q qc cm wo dg) ++ ((wC kA qc q cn sd bt fi se tl ax cf ow ho ov cs) ++ (wT kA q cc ac co ad rc nm st an))) s.heap := hP
  have hD : va_D A ((wP kA qp q qc cm wo dg) ++ ((wC kA qc q cn sd bt fi se tl ax cf ow ho ov cs) ++ (wT kA q cc ac co ad rc nm st an))) := hD
  obtain ⟨tP, hZP, hTP⟩ := hE.1
  have hx31 := Nat.lt_of_lt_of_le hxx (p5_3125 hcc)
  have hvx := valB_i hv
  refine lv_aload_n hx hb dX2_question_0 rfl (lv_at hl 0 rfl) ?_
  refine n_get (ci := 2) (v := .ref (qp 1)) (C := RX2) (T := TX2) (N := 5) hx hb hts hinX2 hown hK hP 0 rfl rfl 2 rfl ⟨rfl, rfl, rfl⟩ f11 rfl dX2_question_1 ?_
  refine lv_iload_n hx hb dX2_question_4 rfl (lv_at hl 1 rfl) ?_
  refine n_iald (i := x) (v := (nI (cm x))) hx hb hK hP 1 0 rfl rfl hx31 (Nat.le_of_ble_eq_true rfl) rfl dX2_question_5 ?_
  refine lv_bipush (v := (nI 11)) hx hb dX2_question_6 (by decide) ?_
  refine n_icmp_ne (a := cm x) (b := 11) (tgt := 19) hx hb (Nat.lt_trans (hcm _ hx31) (by decide)) (by decide) dX2_question_8 (by decide) (fun c8 => ?_) (fun c8 => ?_)
  · refine lv_iconst (v := (oI none)) hx hb dX2_question_19 (by decide) ?_
    exact n_wreti hx hb hr hlocks (post := fun (r : Int32) (u : (Nat → Nat)) => r = (oI (if cm x = 11 then firstF (fun k => decide (dg5 x k = 0) && decide (askW ac co wo x k = wo x)) cc else none))) (w1 := fun u => ((wP kA qp q qc cm wo u) ++ ((wC kA qc q cn sd bt fi se tl ax cf ow ho ov cs) ++ (wT kA q cc ac co ad rc nm st an)))) dg (by rw [if_neg c8]) hP hD hK hS hAe dX2_question_20
  · refine lv_aload_n hx hb dX2_question_11 rfl (lv_at hl 0 rfl) ?_
    refine lv_iload_n hx hb dX2_question_12 rfl (lv_at hl 1 rfl) ?_
    refine n_wVi (b := qp 0) (As := [.int (nI x)]) (rest := []) (wr := []) (ws' := fun u => ((wP kA qp q qc cm wo u) ++ ((wC kA qc q cn sd bt fi se tl ax cf ow ho ov cs) ++ (wT kA q cc ac co ad rc nm st an)))) hS0 (c_X2_readDigits lQ D kA qp cm wo dg qc cn sd bt fi se tl ax cf ow ho ov cs q cc ac co ad rc nm st an x s.heap.size (by first | assumption | omega) (by first | assumption | omega) hx31) (cwV 1 hts gX2_question_X2_readDigits rfl rfl rfl (by decide +kernel) ⟨Nat.le_of_ble_eq_true rfl, Nat.le_of_ble_eq_true rfl⟩) hP hD hS hA hK hK (by simpa only [List.append_assoc, List.append_nil] using ((List.Perm.refl _).trans (List.Perm.append_left _ ((List.Perm.refl _).trans (List.Perm.append_left _ (List.Perm.of_eq (List.append_nil _).symm)))))) (fun u => List.Perm.symm (by simpa only [List.append_assoc, List.append_nil] using ((List.Perm.refl _).trans (List.Perm.append_left _ ((List.Perm.refl _).trans (List.Perm.append_left _ (List.Perm.of_eq (List.append_nil _).symm))))))) (q0 := 0) rfl rfl rfl rfl rfl hl.1 (Nat.le_of_ble_eq_true rfl) dX2_question_13 ⟨Nat.le_refl _, Nat.le_refl _⟩ (fun r13 u13 H locs h13 hP hD hS => ?_)
    obtain ⟨dg1_13, rfl⟩ : ∃ z, z = u13 := ⟨_, rfl⟩
    obtain ⟨rfl, h13_1⟩ := h13
    have hP : va_P D vwCl ((wP kA qp q qc cm wo dg1_13) ++ ((wC kA qc q cn sd bt fi se tl ax cf ow ho ov cs) ++ (wT kA q cc ac co ad rc nm st an))) H := hP
    have hD : va_D A ((wP kA qp q qc cm wo dg1_13) ++ ((wC kA qc q cn sd bt fi se tl ax cf ow ho ov cs) ++ (wT kA q cc ac co ad rc nm st an))) := hD
    refine n_ifb_ne (b := valB ac x cc) (tgt := 21) hx hb dX2_question_16 (by decide) (fun c16 => ?_) (fun c16 => ?_)
    · have hdq := h13_1 hv
      have hop9 : ∀ k, k < cc → dg5 x k = 0 → x + 4 * 5 ^ k < 3125 := fun k hk h => Nat.lt_of_lt_of_le (dg5_open hxx hk h) (p5_3125 hcc)
      refine lv_iconst (v := (nI 0)) hx hb dX2_question_21 (by decide) ?_
      refine lv_istore_n (lv' := [(2, .int (nI 0)), (0, .ref (qp 0)), (1, .int (nI x))]) hx hb dX2_question_22 rfl hl (by decide) rfl (fun ls hl => ?_)
      have L23 : ∀ (nQ : Nat) (k : Nat), cc - k < nQ → (k ≤ cc) → (∀ j, j < k → (fun k => decide (dg5 x k = 0) && decide (askW ac co wo x k = wo x)) j = false) → ∀ (H : Heap) (locs : List Loc), va_P D vwCl ((wP kA qp q qc cm wo dg1_13) ++ ((wC kA qc q cn sd bt fi se tl ax cf ow ho ov cs) ++ (wT kA q cc ac co ad rc nm st an))) H → va_D A ((wP kA qp q qc cm wo dg1_13) ++ ((wC kA qc q cn sd bt fi se tl ax cf ow ho ov cs) ++ (wT kA q cc ac co ad rc nm st an))) → va_S A s.heap H locs → ∀ (ls : Array Slot), lv_has ls 3 [(2, .int (nI k)), (0, .ref (qp 0)), (1, .int (nI x))] → W pQ lQ eQ (headSpec wsX2_question (rmN 1 25)).room s mQ ([.ref (qp 0), .int (nI x)] : List Value).toArray below meth cQ H locs 0 0 (MQ below (va_Qi (S := (Nat → Nat)) (fun (r : Int32) (u : (Nat → Nat)) => r = (oI (if cm x = 11 then firstF (fun k => decide (dg5 x k = 0) && decide (askW ac co wo x k = wo x)) cc else none))) (wr_B D vwCl ((wP kA qp q qc cm wo dg) ++ ((wC kA qc q cn sd bt fi se tl ax cf ow ho ov cs) ++ (wT kA q cc ac co ad rc nm st an))) (tyK kA) s.heap.size (fun u => ((wP kA qp q qc cm wo u) ++ ((wC kA qc q cn sd bt fi se tl ax cf ow ho ov cs) ++ (wT kA q cc ac co ad rc nm st an))))) A) ([.ref (qp 0), .int (nI x)] : List Value).toArray s 0 0 A) (F0 mQ 23 ls []) := by
        intro nQ
        induction nQ with
        | zero => intro k hn; exact absurd hn (Nat.not_lt_zero _)
        | succ nQ ih23 =>
          intro k hm23 hk hn H locs hP hD hS ls hl
          refine lv_iload_n hx hb dX2_question_23 rfl (lv_at hl 0 rfl) ?_
          refine lv_aload_n hx hb dX2_question_24 rfl (lv_at hl 1 rfl) ?_
          refine n_get (ci := 2) (v := .ref (q 0)) (C := RX2) (T := TX2) (N := 5) hx hb hts hinX2 hown hK hP 0 rfl rfl 0 rfl ⟨rfl, rfl, rfl⟩ f21 rfl dX2_question_25 ?_
          refine n_get (ci := 4) (v := .int (nI cc)) (C := RX4) (T := TX4) (N := 8) hx hb hts hinX4 hown hK hP 13 rfl rfl 0 rfl ⟨rfl, rfl, rfl⟩ f29 rfl dX2_question_28 ?_
          refine n_icmp_ge (a := k) (b := cc) (tgt := 66) hx hb (by omega) (by omega) dX2_question_31 (by decide) (fun c31 => ?_) (fun c31 => ?_)
          · refine lv_iconst (v := (oI none)) hx hb dX2_question_66 (by decide) ?_
            exact n_wreti hx hb hr hlocks (post := fun (r : Int32) (u : (Nat → Nat)) => r = (oI (if cm x = 11 then firstF (fun k => decide (dg5 x k = 0) && decide (askW ac co wo x k = wo x)) cc else none))) (w1 := fun u => ((wP kA qp q qc cm wo u) ++ ((wC kA qc q cn sd bt fi se tl ax cf ow ho ov cs) ++ (wT kA q cc ac co ad rc nm st an)))) dg1_13 (by rw [if_pos c8, show firstF (fun k => decide (dg5 x k = 0) && decide (askW ac co wo x k = wo x)) cc = none from firstF_none (fun j hj => hn j (by omega))]) hP hD hK hS hAe dX2_question_67
          · refine lv_aload_n hx hb dX2_question_34 rfl (lv_at hl 1 rfl) ?_
            refine n_get (ci := 2) (v := .ref (qp 3)) (C := RX2) (T := TX2) (N := 5) hx hb hts hinX2 hown hK hP 0 rfl rfl 4 rfl ⟨rfl, rfl, rfl⟩ f18 rfl dX2_question_35 ?_
            refine lv_iload_n hx hb dX2_question_38 rfl (lv_at hl 0 rfl) ?_
            refine n_iald (i := k) (v := (nI (dg1_13 k))) hx hb hK hP 3 0 rfl rfl (by omega) (Nat.le_of_ble_eq_true rfl) rfl dX2_question_39 ?_
            refine n_if_ne (a := dg1_13 k) (tgt := 60) hx hb (by rw [hdq _ c31]; exact Nat.lt_trans (dg5_lt _ _) (by decide)) dX2_question_40 (by decide) (fun c40 => ?_) (fun c40 => ?_)
            · refine lv_iinc (v := (nI (k + 1))) (lv' := [(2, .int (nI (k + 1))), (0, .ref (qp 0)), (1, .int (nI x))]) hx hb dX2_question_60 hl (k := 0) rfl (nI_inc _) (by decide) rfl (fun ls hl => ?_)
              refine lv_goto (tgt := 23) hx hb dX2_question_63 (by decide) ?_
              exact ih23 (k + 1) (by omega) (by first | assumption | omega) (fun j hj => by by_cases e : j = k; (subst e; first | exact chg_f1 (fun h => c55 h) | exact q_f2 c55 | exact chg_f1 (by rw [← hdq _ c31]; omega)); exact hn j (by omega)) _ _ hP hD hS _ (lv_sub hl [0, 1, 2] rfl)
            · refine lv_aload_n hx hb dX2_question_43 rfl (lv_at hl 1 rfl) ?_
              refine lv_iload_n hx hb dX2_question_44 rfl (lv_at hl 2 rfl) ?_
              refine lv_iload_n hx hb dX2_question_45 rfl (lv_at hl 0 rfl) ?_
              refine n_cVE (b := qp 0) (As := [.int (nI x), .int (nI k)]) (rest := []) (wc := ((wP kA qp q qc cm wo dg1_13) ++ ((wC kA qc q cn sd bt fi se tl ax cf ow ho ov cs) ++ (wT kA q cc ac co ad rc nm st an)))) hS0 (c_X2_worstAsking lQ D kA adK adV qp cm wo dg1_13 qc cn sd bt fi se tl ax cf ow ho ov cs q cc ac co ad rc nm st an x k (by omega) (hop9 _ c31 (by rw [← hdq _ c31]; exact c40)) (hac _ c31) (by first | assumption | omega)) (cwV 2 hts gX2_question_X2_worstAsking rfl rfl rfl (by decide +kernel) ⟨Nat.le_of_ble_eq_true rfl, Nat.le_of_ble_eq_true rfl⟩) hP hK (q0 := 0) rfl rfl rfl hE hS rfl rfl hl.1 (Nat.le_of_ble_eq_true rfl) dX2_question_46 ⟨Nat.le_refl _, Nat.le_refl _⟩ (fun r46 h46 => ?_)
              subst h46
              refine lv_aload_n hx hb dX2_question_49 rfl (lv_at hl 1 rfl) ?_
              refine n_get (ci := 2) (v := .ref (qp 2)) (C := RX2) (T := TX2) (N := 5) hx hb hts hinX2 hown hK hP 0 rfl rfl 3 rfl ⟨rfl, rfl, rfl⟩ f15 rfl dX2_question_50 ?_
              refine lv_iload_n hx hb dX2_question_53 rfl (lv_at hl 2 rfl) ?_
              refine n_iald (i := x) (v := (nI (wo x))) hx hb hK hP 2 0 rfl rfl hx31 (Nat.le_of_ble_eq_true rfl) rfl dX2_question_54 ?_
              refine n_icmp_ne (a := askW ac co wo x k) (b := wo x) (tgt := 60) hx hb (Nat.lt_of_le_of_lt (askW_le (hco _ c31) (hac _ c31).2 hwo (hop9 _ c31 (by rw [← hdq _ c31]; exact c40))) (by decide)) (Nat.lt_of_le_of_lt (hwo _ hx31) (by decide)) dX2_question_55 (by decide) (fun c55 => ?_) (fun c55 => ?_)
              · refine lv_iinc (v := (nI (k + 1))) (lv' := [(2, .int (nI (k + 1))), (0, .ref (qp 0)), (1, .int (nI x))]) hx hb dX2_question_60 hl (k := 0) rfl (nI_inc _) (by decide) rfl (fun ls hl => ?_)
                refine lv_goto (tgt := 23) hx hb dX2_question_63 (by decide) ?_
                exact ih23 (k + 1) (by omega) (by first | assumption | omega) (fun j hj => by by_cases e : j = k; (subst e; first | exact chg_f1 (fun h => c55 h) | exact q_f2 c55 | exact chg_f1 (by rw [← hdq _ c31]; omega)); exact hn j (by omega)) _ _ hP hD hS _ (lv_sub hl [0, 1, 2] rfl)
              · refine lv_iload_n hx hb dX2_question_58 rfl (lv_at hl 0 rfl) ?_
                exact n_wreti hx hb hr hlocks (post := fun (r : Int32) (u : (Nat → Nat)) => r = (oI (if cm x = 11 then firstF (fun k => decide (dg5 x k = 0) && decide (askW ac co wo x k = wo x)) cc else none))) (w1 := fun u => ((wP kA qp q qc cm wo u) ++ ((wC kA qc q cn sd bt fi se tl ax cf ow ho ov cs) ++ (wT kA q cc ac co ad rc nm st an)))) dg1_13 (by rw [if_pos c8, show firstF (fun k => decide (dg5 x k = 0) && decide (askW ac co wo x k = wo x)) cc = some k from firstF_some hn (chg_t (by rw [← hdq _ c31]; exact c40) c55) (by omega)]; rfl) hP hD hK hS hAe dX2_question_59
      exact L23 ((cc - 0) + 1) 0 (Nat.lt_succ_self _) (by first | assumption | omega) (fun j hj => absurd hj (Nat.not_lt_zero _)) _ _ hP hD hS _ (lv_sub hl [0, 1, 2] rfl)
    · exact absurd hv (by rw [c16]; decide)
