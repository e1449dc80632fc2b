
/-! ===== the reference's plans are the class's ===== -/
def tomF (ac : Nat → Nat) (cc y : Nat) : Nat := sumF (fun k => dg5 y k * pmF ac k) cc
theorem sum_upd {d P : Nat → Nat} {k j : Nat} (h0 : d k = 0) : ∀ {n : Nat}, k < n → sumF (fun i => (if i = k then j else d i) * P i) n = sumF (fun i => d i * P i) n + j * P k
  | 0, h => absurd h (Nat.not_lt_zero _)
  | n + 1, h => by
    rw [sumF_s, sumF_s]
    by_cases e : n = k
    · rw [if_pos e, sumF_cong (f := fun i => (if i = k then j else d i) * P i) (g := fun i => d i * P i) (fun i hi => by rw [if_neg (by omega)]), e, h0, Nat.zero_mul, Nat.add_zero]
    · rw [if_neg e, sum_upd h0 (show k < n by omega), Nat.add_right_comm]
theorem cnt_drop {f g : Nat → Bool} {k : Nat} (hf : f k = true) (hg : g k = false) (h : ∀ i, i ≠ k → f i = g i) : ∀ {n : Nat}, k < n → cntB f n = cntB g n + 1
  | 0, hk => absurd hk (Nat.not_lt_zero _)
  | n + 1, hk => by
    by_cases e : n = k
    · subst e
      rw [cntB_st hf, cntB_sf hg, cntB_cong2 (fun j hj => h j (by omega))]
    · rw [cntB_s, cntB_s, cnt_drop hf hg h (show k < n by omega), h n e]
      unfold iF; split <;> rfl
theorem lwF_min {f : Nat → Nat} {op : Nat → Bool} : ∀ {n j : Nat}, j < n → op j = true → lwF f op n ≤ f j
  | 0, _, h, _ => absurd h (Nat.not_lt_zero _)
  | n + 1, j, h, ho => by
    rw [lwF_s]
    by_cases e : j = n
    · subst e
      rw [if_pos ho]; split <;> omega
    · have ih := lwF_min (f := f) (op := op) (show j < n by omega) ho
      split
      · split <;> omega
      · exact ih
theorem pb_lw {f : Nat → Nat} {op : Nat → Bool} : ∀ {n : Nat}, (∀ k, k < n → op k = true → f k ≤ 100) → ((pbF f op n).2 = none ∧ lwF f op n = 100 ∧ ∀ k, k < n → op k = false) ∨ (∃ q, (pbF f op n).2 = some q ∧ (pbF f op n).1 = lwF f op n ∧ firstF (fun k => op k && decide (f k = lwF f op n)) n = some q)
  | 0, _ => Or.inl ⟨rfl, rfl, fun k hk => absurd hk (Nat.not_lt_zero _)⟩
  | n + 1, h => by
    have ih := pb_lw (f := f) (op := op) (n := n) (fun k hk => h k (by omega))
    by_cases e : op n = true
    · have hn := h n (by omega) e
      rcases ih with ⟨h1, h2, h3⟩ | ⟨q, h1, h2, h3⟩
      · refine Or.inr ⟨n, ?_, ?_, ?_⟩
        · rw [pbF_s, if_pos ⟨e, Or.inl h1⟩]
        · rw [pbF_s, if_pos ⟨e, Or.inl h1⟩, lwF_s, if_pos e, h2]
          show f n = _
          split <;> omega
        · have hl : lwF f op (n + 1) = f n := by rw [lwF_s, if_pos e, h2]; split <;> omega
          rw [hl]
          exact firstF_some (fun j hj => by rw [h3 j hj]; rfl) (by rw [e, decide_eq_true rfl]; rfl) (Nat.lt_succ_self n)
      · by_cases lt : f n < (pbF f op n).1
        · have hl : lwF f op (n + 1) = f n := by rw [lwF_s, if_pos e, if_pos (by rw [← h2]; exact lt)]
          refine Or.inr ⟨n, ?_, ?_, ?_⟩
          · rw [pbF_s, if_pos ⟨e, Or.inr lt⟩]
          · rw [pbF_s, if_pos ⟨e, Or.inr lt⟩, hl]
          · rw [hl]
            refine firstF_some (fun j hj => ?_) (by rw [e, decide_eq_true rfl]; rfl) (Nat.lt_succ_self n)
            cases ho : op j with
            | false => rfl
            | true =>
              have := lwF_min (f := f) (op := op) hj ho
              rw [decide_eq_false (by omega)]; rfl
        · have hno : ¬ (op n = true ∧ ((pbF f op n).2 = none ∨ f n < (pbF f op n).1)) := fun h9 => h9.2.elim (fun h8 => by rw [h1] at h8; cases h8) lt
          have hl : lwF f op (n + 1) = lwF f op n := by rw [lwF_s, if_pos e, if_neg (by rw [← h2]; exact lt)]
          refine Or.inr ⟨q, ?_, ?_, ?_⟩
          · rw [pbF_s, if_neg hno]; exact h1
          · rw [pbF_s, if_neg hno, hl]; exact h2
          · rw [hl]; exact firstF_ext h3 (Nat.le_succ n)
    · have hno : ¬ (op n = true ∧ ((pbF f op n).2 = none ∨ f n < (pbF f op n).1)) := fun h9 => e h9.1
      have hl : lwF f op (n + 1) = lwF f op n := by rw [lwF_s, if_neg e]
      rcases ih with ⟨h1, h2, h3⟩ | ⟨q, h1, h2, h3⟩
      · refine Or.inl ⟨by rw [pbF_s, if_neg hno]; exact h1, by rw [hl]; exact h2, fun k hk => ?_⟩
        by_cases ek : k = n
        · subst ek; simpa using e
        · exact h3 k (by omega)
      · exact Or.inr ⟨q, by rw [pbF_s, if_neg hno]; exact h1, by rw [pbF_s, if_neg hno, hl]; exact h2, by rw [hl]; exact firstF_ext h3 (Nat.le_succ n)⟩
theorem pbF_cong2 {f g : Nat → Nat} {p q : Nat → Bool} : ∀ {n : Nat}, (∀ j, j < n → p j = q j) → (∀ j, j < n → p j = true → f j = g j) → pbF f p n = pbF g q n
  | 0, _, _ => rfl
  | n + 1, h1, h2 => by
    rw [pbF_s, pbF_s, pbF_cong2 (fun j hj => h1 j (by omega)) (fun j hj => h2 j (by omega)), ← h1 n (by omega)]
    by_cases e : p n = true
    · rw [h2 n (by omega) e]
    · rw [if_neg (fun h9 => e h9.1), if_neg (fun h9 => e h9.1)]
theorem comA_tr {xw cm : Nat → Nat} {x y p q n : Nat} (hn : 1 ≤ n) (h : ∀ j, 1 ≤ j → j ≤ n → xw (x + j * p) = cm (y + j * q)) : comA xw x p n = comA cm y q n := by
  have h1 := h 1 (Nat.le_refl _) hn
  rw [Nat.one_mul, Nat.one_mul] at h1
  unfold comA
  rw [h1, allB_cong (fun j hj => by rw [h (j + 1) (by omega) (by omega)])]
section PLB
variable {cc : Nat} {ac co xa xw xc : Nat → Nat} {xk : Nat → Option Nat}
theorem tom_lt {y : Nat} (hv : valB ac y cc = true) : tomF ac cc y < pmF ac cc := km_sum_lt (valB_i hv)
theorem tom_kn {y k : Nat} (hv : valB ac y cc = true) (hk : k < cc) : knN ac (tomF ac cc y) k = dg5 y k := km_at (valB_i hv) hk
theorem tom_next {y k j : Nat} (hk : k < cc) (h0 : dg5 y k = 0) (hj : j < 5) : tomF ac cc (y + j * 5 ^ k) = tomF ac cc y + j * pmF ac k := by
  unfold tomF
  rw [sumF_cong (f := fun i => dg5 (y + j * 5 ^ k) i * pmF ac i) (g := fun i => (if i = k then j else dg5 y i) * pmF ac i) (fun i _ => by rw [dg5_add h0 hj i]), sum_upd h0 hk]
theorem tom_0 : tomF ac cc 0 = 0 := by
  unfold tomF
  rw [sumF_cong (f := fun k => dg5 0 k * pmF ac k) (g := fun _ => 0) (fun k _ => by unfold dg5; rw [Nat.zero_div, Nat.zero_mod, Nat.zero_mul])]
  have : ∀ n, sumF (fun _ => 0) n = 0 := fun n => by
    induction n with
    | zero => rfl
    | succ n ih => rw [sumF_s, ih]
  exact this cc
def opnN (y n : Nat) : Nat := cntB (fun k => decide (dg5 y k = 0)) n
theorem opn_next {y k j : Nat} (hk : k < cc) (h0 : dg5 y k = 0) (h1 : 1 ≤ j) (hj : j < 5) : opnN y cc = opnN (y + j * 5 ^ k) cc + 1 :=
  cnt_drop (decide_eq_true h0) (decide_eq_false (by rw [dg5_add h0 hj k, if_pos rfl]; omega)) (fun i hi => by rw [dg5_add h0 hj i, if_neg hi]) hk
theorem ask_tr {y k : Nat} (hac : ∀ k, k < cc → 2 ≤ ac k ∧ ac k ≤ 4) (hk : k < cc) (h0 : dg5 y k = 0) : askM ac co xc (tomF ac cc y) k = askW ac co (fun z => xc (tomF ac cc z)) y k := by
  unfold askM askW
  rw [maxF_cong (fun j hj => by rw [← tom_next hk h0 (show j + 1 < 5 by have := (hac k hk).2; omega)])]
theorem plM_wo (hac : ∀ k, k < cc → 2 ≤ ac k ∧ ac k ≤ 4) (hco : ∀ k, k < cc → co k < 10) (h : plM cc ac co xa xw xc xk 0) : ∀ (n y : Nat), 5 ^ cc - y < n → y < 5 ^ cc → valB ac y cc = true → xc (tomF ac cc y) ≤ 9 * opnN y cc := by
  intro n
  induction n with
  | zero => intro y h1; exact absurd h1 (Nat.not_lt_zero _)
  | succ n ih =>
    intro y h1 hy hv
    obtain ⟨-, h2, -⟩ := h _ (Nat.zero_le _) (tom_lt hv)
    rw [h2]
    unfold pcM
    by_cases e : xw (tomF ac cc y) = 11
    · rw [if_pos e]
      refine pbF_le (fun j hj hp => ?_)
      have h0 : dg5 y j = 0 := by rw [← tom_kn hv hj]; exact of_decide_eq_true hp
      show askM ac co xc (tomF ac cc y) j ≤ _
      unfold askM
      have hm : maxF (fun i => xc (tomF ac cc y + (i + 1) * pmF ac j)) (ac j) ≤ 9 * (opnN y cc - 1) := maxF_le (fun i hi => by
        have ha := hac j hj
        have h5 : 0 < 5 ^ j := Nat.pow_pos (by decide)
        have h6 : 1 * 5 ^ j ≤ (i + 1) * 5 ^ j := Nat.mul_le_mul_right _ (by omega)
        rw [← tom_next hj h0 (show i + 1 < 5 by omega), opn_next hj h0 (show 1 ≤ i + 1 by omega) (show i + 1 < 5 by omega), Nat.add_sub_cancel]
        exact ih _ (by omega) (next_lt hac hy hj h0 (by omega)) (val_next hac hv hj h0 (by omega)))
      have ho : 1 ≤ opnN y cc := by rw [opn_next hj h0 (Nat.le_refl 1) (by decide)]; omega
      have := hco j hj
      omega
    · rw [if_neg e]; exact Nat.zero_le _
theorem opn_le {y : Nat} : opnN y cc ≤ cc := cntB_le _ _
theorem plM_cm (hac : ∀ k, k < cc → 2 ≤ ac k ∧ ac k ≤ 4) {y : Nat} (hv : valB ac y cc = true) : cmM cc ac xa xw (tomF ac cc y) = cmN cc ac (prodF ac) xa (fun z => xw (tomF ac cc z)) (dg5 y) y := by
  unfold cmM cmN
  rw [firstF_cong (f := fun k => decide (knN ac (tomF ac cc y) k = 0)) (g := fun k => decide (dg5 y k = 0)) (fun k hk => by rw [tom_kn hv hk])]
  cases e : firstF (fun k => decide (dg5 y k = 0)) cc with
  | none =>
    show xa _ = xa _
    rw [sumF_cong (fun k hk => by rw [tom_kn hv hk])]
  | some k =>
    have hk := (firstF_spec e).1
    have h0 := of_decide_eq_true (firstF_spec e).2.1
    exact comA_tr (by have := hac k hk; omega) (fun j j1 j2 => by rw [← tom_next hk h0 (show j < 5 by have := hac k hk; omega)])
theorem plM_pb (hcc : cc ≤ 5) (hac : ∀ k, k < cc → 2 ≤ ac k ∧ ac k ≤ 4) (hco : ∀ k, k < cc → co k < 10) (hxa : ∀ c, c < prodF ac cc → xa c < 11) (h : plM cc ac co xa xw xc xk 0) {y : Nat} (hy : y < 5 ^ cc) (hv : valB ac y cc = true) (h11 : xw (tomF ac cc y) = 11) :
    ∃ q, xk (tomF ac cc y) = some q ∧ xc (tomF ac cc y) = lwF (fun k => askW ac co (fun z => xc (tomF ac cc z)) y k) (fun k => decide (dg5 y k = 0)) cc ∧ firstF (fun k => decide (dg5 y k = 0) && decide (askW ac co (fun z => xc (tomF ac cc z)) y k = lwF (fun k => askW ac co (fun z => xc (tomF ac cc z)) y k) (fun k => decide (dg5 y k = 0)) cc)) cc = some q := by
  obtain ⟨h1, h2, h3, -⟩ := h _ (Nat.zero_le _) (tom_lt hv)
  have hp : pcM cc ac co xc (tomF ac cc y) (xw (tomF ac cc y)) = pbF (fun k => askW ac co (fun z => xc (tomF ac cc z)) y k) (fun k => decide (dg5 y k = 0)) cc := by
    unfold pcM
    rw [if_pos h11]
    exact pbF_cong2 (fun k hk => by rw [tom_kn hv hk]) (fun k hk ho => ask_tr hac hk (by rw [← tom_kn hv hk]; exact of_decide_eq_true ho))
  rw [hp] at h2 h3
  have hb : ∀ k, k < cc → decide (dg5 y k = 0) = true → askW ac co (fun z => xc (tomF ac cc z)) y k ≤ 100 := fun k hk ho => by
    have h0 := of_decide_eq_true ho
    have hm : maxF (fun i => xc (tomF ac cc (y + (i + 1) * 5 ^ k))) (ac k) ≤ 45 := maxF_le (fun i hi => by
      have ha := hac k hk
      have := plM_wo hac hco h _ (y + (i + 1) * 5 ^ k) (Nat.lt_succ_self _) (next_lt hac hy hk h0 (by omega)) (val_next hac hv hk h0 (by omega))
      have := opn_le (cc := cc) (y := y + (i + 1) * 5 ^ k)
      omega)
    have := hco k hk
    show co k + maxF (fun i => xc (tomF ac cc (y + (i + 1) * 5 ^ k))) (ac k) ≤ 100
    omega
  rcases pb_lw hb with ⟨g1, g2, g3⟩ | ⟨q, g1, g2, g3⟩
  · exfalso
    rw [plM_cm hac hv, cmN_none (firstF_none g3)] at h1
    have h4 := hxa _ (cs_lt (ac := ac) (d := dg5 y) (n := cc) (fun k hk => ⟨by have := of_decide_eq_false (g3 k hk); omega, valB_i hv k hk⟩))
    omega
  · exact ⟨q, h3.trans g1, h2.trans g2, g3⟩
theorem plM_ok (hcc : cc ≤ 5) (hac : ∀ k, k < cc → 2 ≤ ac k ∧ ac k ≤ 4) (hco : ∀ k, k < cc → co k < 10) (hxa : ∀ c, c < prodF ac cc → xa c < 11) (h : plM cc ac co xa xw xc xk 0) : plOK cc ac co (prodF ac) xa (fun z => xw (tomF ac cc z)) (fun z => xc (tomF ac cc z)) := fun y hy hv => by
  obtain ⟨h1, h2, h3, -⟩ := h _ (Nat.zero_le _) (tom_lt hv)
  refine ⟨h1.trans (plM_cm hac hv), ?_⟩
  show xc (tomF ac cc y) = woN cc ac co (fun z => xc (tomF ac cc z)) (dg5 y) y (xw (tomF ac cc y))
  unfold woN
  by_cases e : xw (tomF ac cc y) = 11
  · rw [if_pos e]
    obtain ⟨q, -, g2, -⟩ := plM_pb hcc hac hco hxa h hy hv e
    exact g2
  · rw [if_neg e, h2]
    unfold pcM
    rw [if_neg e]
theorem plM_fin {ax' : Nat → Nat} (hcc : cc ≤ 5) (hac : ∀ k, k < cc → 2 ≤ ac k ∧ ac k ≤ 4) (hco : ∀ k, k < cc → co k < 10) (hxa : ∀ c, c < prodF ac cc → xa c < 11) (hax : ∀ c, c < prodF ac cc → xa c = ax' c) (h : plM cc ac co xa xw xc xk 0) {y : Nat} (hy : y < 5 ^ cc) (hv : valB ac y cc = true) : xc (tomF ac cc y) = (plT cc ac co ax').2 y ∧ xk (tomF ac cc y) = quF cc ac co ax' y := by
  have hok := plM_ok hcc hac hco hxa h
  refine ⟨(plT_eq hac (fun _ _ => rfl) hax hok hy hv).2, ?_⟩
  rw [← quF_eq hac (fun _ _ => rfl) hax hok hy hv]
  by_cases e : xw (tomF ac cc y) = 11
  · rw [if_pos e]
    obtain ⟨q, g1, g2, g3⟩ := plM_pb hcc hac hco hxa h hy hv e
    rw [g1]
    show some q = firstF (fun k => decide (dg5 y k = 0) && decide (askW ac co (fun z => xc (tomF ac cc z)) y k = xc (tomF ac cc y))) cc
    rw [g2]; exact g3.symm
  · rw [if_neg e]
    obtain ⟨h1, h2, h3, -⟩ := h _ (Nat.zero_le _) (tom_lt hv)
    rw [h3]; unfold pcM; rw [if_neg e]
theorem code_tom {x q : Nat} {x0 : Int32} (hcc : cc ≤ 5) (hac : ∀ k, k < cc → 2 ≤ ac k ∧ ac k ≤ 4) (hx : x0.toNatClampNeg = x) (h : staF x0 cc ac = some q) : sumF (fun k => nibN x k * pmF ac k) cc = tomF ac cc q := sumF_cong (fun k hk => by rw [((staF_spec hcc hac h).2.2 k hk).1, hx])
end PLB
/-! ===== what the reference's calls answer ===== -/
def cnd {α : Type} (n : Nat) (a b : α) : α := match n with
  | 0 => a
  | _ => b
theorem inI_3 {x : Int32} : inI x (nI 0) (nI 2) = inB x 3 := inI_n (by decide)
theorem inI_5 {x : Int32} : inI x (nI 0) (nI 4) = inB x 5 := inI_n (by decide)
theorem inI_6 {x : Int32} : inI x (nI 0) (nI 5) = inB x 6 := inI_n (by decide)
theorem inI_12 {x : Int32} : inI x (nI 0) (nI 11) = inB x 12 := inI_n (by decide)
theorem inI_ans {x : Int32} : inI x (nI 2) (nI 4) = isAnsB x := rfl
theorem inI_cost {x : Int32} : inI x (nI 1) (nI 9) = isCostB x := rfl
theorem inI_act {x : Int32} : inI x (nI 0) (nI 9) = isActB x := rfl

set_option maxHeartbeats 4000000 in
set_option maxRecDepth 100000 in
theorem c_X6_wholeValue (lQ : Launch) (D : va_G) (kA : Nat → ClassId) (qr : Nat → Nat) (cc : Nat) (ac : Nat → Nat) (co : Nat → Nat) (ad : Nat) (rc : Nat) (nm : Nat → Nat) (st : Nat → Nat) (an : Nat → Nat) (svm : Nat → TCt) (cnt : Nat) (tx : Nat → Nat) (len : Nat) (th : Nat) (xf : Nat → Option Nat) (xt : Nat → Nat) (xs : Nat → Option Nat) (xa : Nat → Nat) (xw : Nat → Nat) (xc : Nat → Nat) (xk : Nat → Option Nat) (xp : Nat → Nat) (pt : Nat) (wr : Option Nat) (xm : Nat → Nat) (mny : Nat) (w : Nat) (hcc : cc ≤ 5) (hac : ∀ k, k < cc → 2 ≤ ac k ∧ ac k ≤ 4) (hrc : rc ≤ 20) (han : ∀ j, j < rc → an j < 11) (hst : ∀ j, j < rc → st j < 1048576) (hco : ∀ k, k < cc → co k < 10) (hl9 : laid cc ac rc st an xf xt xs xa (prodF ac cc)) (hpm : plM cc ac co xa xw xc xk 0) (hw : w < 12) : Met lQ yX6_wholeValue wsX6_wholeValue (rmN 5 114) (rd_Pc D vwCl [.ref (qr 0), .int (nI w)] (wR kA qr cc ac co ad rc nm st an svm cnt tx len th xf xt xs xa xw xc xk xp pt wr xm mny) (tyK kA)) (vp_Si (fun r : Int32 => r = (oI (wvF cc ac co ad rc st an len w)))) 0 0 (fun _ => False) := by
  refine Met.ofW (cc := cX6_wholeValue) (maxL := 2) (ret := (some .int)) (by decide) rfl ?_
  intro pQ eQ s mQ args below meth cQ s₁ B hml hv
  obtain ⟨rfl, hP, hK⟩ := hv
  have hx := B.exec
  have hb := B.bytes
  have hr := B.returns
  have hts := atoms_spec (ws := wsX6_wholeValue) B.pre
  have hown : s.vm.findClass RX6 = some mQ.cls := findClass_of_methodNamed B.named
  have hlocks : meth.locks = false := B.notSynchronized
  have hS0 : CallFix pQ mQ cQ cX6_wholeValue 2 s ([.ref (qr 0), .int (nI w)] : List Value).toArray wsX6_wholeValue RX6 := ⟨hx, hb, hml, hown, hts⟩
  have f7 : (Cond.fieldLink RX6 7 "AskedRulesModel" "now" "[I").before ([.ref (qr 0), .int (nI w)] : List Value).toArray s = true := hts _ (by decide +kernel)
  have hinX6 : ∀ w ∈ wsX60, w ∈ wsX6_wholeValue := by decide +kernel
  have f34 : (Cond.fieldLink RX6 34 "AskedRulesModel" "costs" "[I").before ([.ref (qr 0), .int (nI w)] : List Value).toArray s = true := hts _ (by decide +kernel)
  have f37 : (Cond.fieldLink RX6 37 "AskedRulesModel" "asks" "[I").before ([.ref (qr 0), .int (nI w)] : List Value).toArray s = true := hts _ (by decide +kernel)
  have f178 : (Cond.fieldLink RX6 178 "AskedRulesModel" "letters" "I").before ([.ref (qr 0), .int (nI w)] : List Value).toArray s = true := hts _ (by decide +kernel)
  have hl := lv_entry ([.ref (qr 0), .int (nI w)]) (n := 2) (Nat.le_of_ble_eq_true rfl)
  rw [lg_entry_eq]
  generalize (lg_sl ([.ref (qr 0), .int (nI w)]) ++ List.replicate (2 - (lg_sl ([.ref (qr 0), .int (nI w)])).length) Slot.unset).toArray = ls at hl ⊢
  have hl : lv_has ls 2 [(0, .ref (qr 0)), (1, .int (nI w))] := hl
  have hP : va_P D vwCl (wR kA qr cc ac co ad rc nm st an svm cnt tx len th xf xt xs xa xw xc xk xp pt wr xm mny) s.heap := hP
  have hP10 := prodF_1024 hcc hac
  have hxl9 : ∀ c, c < prodF ac cc → xa c < 11 := fun c hc => by rw [(hl9 c hc).2.2.2]; exact actO_lt han
  have hfin := plM_fin hcc hac hco hxl9 (fun c hc => (hl9 c hc).2.2.2) hpm (Nat.pow_pos (by decide)) val_0
  rw [tom_0] at hfin
  refine lv_iload_n hx hb dX6_wholeValue_0 rfl (lv_at hl 1 rfl) ?_
  have hsw1 : w < 12 := hw
  rcases (show w = 0 ∨ w = 1 ∨ w = 2 ∨ w = 3 ∨ w = 4 ∨ w = 5 ∨ w = 6 ∨ w = 7 ∨ w = 8 ∨ w = 9 ∨ w = 10 ∨ w = 11 by omega) with e1 | e1 | e1 | e1 | e1 | e1 | e1 | e1 | e1 | e1 | e1 | e1
  · refine lv_tableIn (tgt := 60) hx hb dX6_wholeValue_1 (by rw [e1]; decide) (by rw [e1]; decide) (by rw [e1]; rfl) (by decide) ?_
    refine lv_aload_n hx hb dX6_wholeValue_60 rfl (lv_at hl 0 rfl) ?_
    refine n_get (ci := 6) (v := .ref (qr 1)) (C := RX6) (T := TX6) (N := 18) hx hb hts hinX6 hown hK hP 0 rfl rfl 0 rfl ⟨rfl, rfl, rfl⟩ f7 rfl dX6_wholeValue_61 ?_
    refine lv_iconst (v := (nI 0)) hx hb dX6_wholeValue_64 (by decide) ?_
    refine n_iald (i := 0) (v := (nI cc)) hx hb hK hP 1 0 rfl rfl (by omega) (Nat.le_of_ble_eq_true rfl) rfl dX6_wholeValue_65 ?_
    exact n_reti hx hb hr hlocks (post := fun r : Int32 => r = (oI (wvF cc ac co ad rc st an len w))) (by rw [e1]; rfl) rfl dX6_wholeValue_66
  · refine lv_tableIn (tgt := 67) hx hb dX6_wholeValue_1 (by rw [e1]; decide) (by rw [e1]; decide) (by rw [e1]; rfl) (by decide) ?_
    refine lv_aload_n hx hb dX6_wholeValue_67 rfl (lv_at hl 0 rfl) ?_
    refine n_cV (b := qr 0) (As := []) (rest := []) (wc := (wR kA qr cc ac co ad rc nm st an svm cnt tx len th xf xt xs xa xw xc xk xp pt wr xm mny)) hS0 (c_X6_cases lQ D kA qr cc ac co ad rc nm st an svm cnt tx len th xf xt xs xa xw xc xk xp pt wr xm mny (by first | assumption | omega)) (cwV 0 hts gX6_wholeValue_X6_cases rfl rfl rfl (by decide +kernel) ⟨Nat.le_of_ble_eq_true rfl, Nat.le_of_ble_eq_true rfl⟩) hP hK (q0 := 0) rfl rfl rfl rfl rfl hl.1 (Nat.le_of_ble_eq_true rfl) dX6_wholeValue_68 ⟨Nat.le_refl _, Nat.le_refl _⟩ (fun r68 h68 => ?_)
    subst h68
    exact n_reti hx hb hr hlocks (post := fun r : Int32 => r = (oI (wvF cc ac co ad rc st an len w))) (by rw [e1]; rfl) rfl dX6_wholeValue_71
  · refine lv_tableIn (tgt := 72) hx hb dX6_wholeValue_1 (by rw [e1]; decide) (by rw [e1]; decide) (by rw [e1]; rfl) (by decide) ?_
    refine lv_aload_n hx hb dX6_wholeValue_72 rfl (lv_at hl 0 rfl) ?_
    refine n_get (ci := 6) (v := .ref (qr 1)) (C := RX6) (T := TX6) (N := 18) hx hb hts hinX6 hown hK hP 0 rfl rfl 0 rfl ⟨rfl, rfl, rfl⟩ f7 rfl dX6_wholeValue_73 ?_
    refine lv_iconst (v := (nI 1)) hx hb dX6_wholeValue_76 (by decide) ?_
    refine n_iald (i := 1) (v := (nI rc)) hx hb hK hP 1 0 rfl rfl (by omega) (Nat.le_of_ble_eq_true rfl) rfl dX6_wholeValue_77 ?_
    exact n_reti hx hb hr hlocks (post := fun r : Int32 => r = (oI (wvF cc ac co ad rc st an len w))) (by rw [e1]; rfl) rfl dX6_wholeValue_78
  · refine lv_tableIn (tgt := 79) hx hb dX6_wholeValue_1 (by rw [e1]; decide) (by rw [e1]; decide) (by rw [e1]; rfl) (by decide) ?_
    refine lv_aload_n hx hb dX6_wholeValue_79 rfl (lv_at hl 0 rfl) ?_
    refine lv_iload_n hx hb dX6_wholeValue_80 rfl (lv_at hl 1 rfl) ?_
    refine n_cV (b := qr 0) (As := [.int (nI w)]) (rest := []) (wc := (wR kA qr cc ac co ad rc nm st an svm cnt tx len th xf xt xs xa xw xc xk xp pt wr xm mny)) hS0 (c_X6_casesOf lQ D kA qr cc ac co ad rc nm st an svm cnt tx len th xf xt xs xa xw xc xk xp pt wr xm mny w (by first | assumption | omega) (by first | assumption | omega) (by first | assumption | omega) (by first | assumption | omega) (by first | assumption | omega) (by first | assumption | omega) (by first | assumption | omega) (by first | assumption | omega)) (cwV 1 hts gX6_wholeValue_X6_casesOf rfl rfl rfl (by decide +kernel) ⟨Nat.le_of_ble_eq_true rfl, Nat.le_of_ble_eq_true rfl⟩) hP hK (q0 := 0) rfl rfl rfl rfl rfl hl.1 (Nat.le_of_ble_eq_true rfl) dX6_wholeValue_81 ⟨Nat.le_refl _, Nat.le_refl _⟩ (fun r81 h81 => ?_)
    subst h81
    exact n_reti hx hb hr hlocks (post := fun r : Int32 => r = (oI (wvF cc ac co ad rc st an len w))) (by first | exact (by rw [e1]; exact congrArg (fun z => oI (some z)) (cntB_cong2 (fun c _ => if_pos rfl))) | exact (by rw [e1]; exact congrArg (fun z => oI (some z)) (cntB_cong2 (fun c _ => (if_neg (by decide)).trans (if_pos rfl)))) | exact (by rw [e1]; exact congrArg (fun z => oI (some z)) (cntB_cong2 (fun c _ => (if_neg (by decide)).trans (if_neg (by decide)))))) rfl dX6_wholeValue_84
  · refine lv_tableIn (tgt := 79) hx hb dX6_wholeValue_1 (by rw [e1]; decide) (by rw [e1]; decide) (by rw [e1]; rfl) (by decide) ?_
    refine lv_aload_n hx hb dX6_wholeValue_79 rfl (lv_at hl 0 rfl) ?_
    refine lv_iload_n hx hb dX6_wholeValue_80 rfl (lv_at hl 1 rfl) ?_
    refine n_cV (b := qr 0) (As := [.int (nI w)]) (rest := []) (wc := (wR kA qr cc ac co ad rc nm st an svm cnt tx len th xf xt xs xa xw xc xk xp pt wr xm mny)) hS0 (c_X6_casesOf lQ D kA qr cc ac co ad rc nm st an svm cnt tx len th xf xt xs xa xw xc xk xp pt wr xm mny w (by first | assumption | omega) (by first | assumption | omega) (by first | assumption | omega) (by first | assumption | omega) (by first | assumption | omega) (by first | assumption | omega) (by first | assumption | omega) (by first | assumption | omega)) (cwV 1 hts gX6_wholeValue_X6_casesOf rfl rfl rfl (by decide +kernel) ⟨Nat.le_of_ble_eq_true rfl, Nat.le_of_ble_eq_true rfl⟩) hP hK (q0 := 0) rfl rfl rfl rfl rfl hl.1 (Nat.le_of_ble_eq_true rfl) dX6_wholeValue_81 ⟨Nat.le_refl _, Nat.le_refl _⟩ (fun r81 h81 => ?_)
    subst h81
    exact n_reti hx hb hr hlocks (post := fun r : Int32 => r = (oI (wvF cc ac co ad rc st an len w))) (by first | exact (by rw [e1]; exact congrArg (fun z => oI (some z)) (cntB_cong2 (fun c _ => if_pos rfl))) | exact (by rw [e1]; exact congrArg (fun z => oI (some z)) (cntB_cong2 (fun c _ => (if_neg (by decide)).trans (if_pos rfl)))) | exact (by rw [e1]; exact congrArg (fun z => oI (some z)) (cntB_cong2 (fun c _ => (if_neg (by decide)).trans (if_neg (by decide)))))) rfl dX6_wholeValue_84
  · refine lv_tableIn (tgt := 79) hx hb dX6_wholeValue_1 (by rw [e1]; decide) (by rw [e1]; decide) (by rw [e1]; rfl) (by decide) ?_
    refine lv_aload_n hx hb dX6_wholeValue_79 rfl (lv_at hl 0 rfl) ?_
    refine lv_iload_n hx hb dX6_wholeValue_80 rfl (lv_at hl 1 rfl) ?_
    refine n_cV (b := qr 0) (As := [.int (nI w)]) (rest := []) (wc := (wR kA qr cc ac co ad rc nm st an svm cnt tx len th xf xt xs xa xw xc xk xp pt wr xm mny)) hS0 (c_X6_casesOf lQ D kA qr cc ac co ad rc nm st an svm cnt tx len th xf xt xs xa xw xc xk xp pt wr xm mny w (by first | assumption | omega) (by first | assumption | omega) (by first | assumption | omega) (by first | assumption | omega) (by first | assumption | omega) (by first | assumption | omega) (by first | assumption | omega) (by first | assumption | omega)) (cwV 1 hts gX6_wholeValue_X6_casesOf rfl rfl rfl (by decide +kernel) ⟨Nat.le_of_ble_eq_true rfl, Nat.le_of_ble_eq_true rfl⟩) hP hK (q0 := 0) rfl rfl rfl rfl rfl hl.1 (Nat.le_of_ble_eq_true rfl) dX6_wholeValue_81 ⟨Nat.le_refl _, Nat.le_refl _⟩ (fun r81 h81 => ?_)
    subst h81
    exact n_reti hx hb hr hlocks (post := fun r : Int32 => r = (oI (wvF cc ac co ad rc st an len w))) (by first | exact (by rw [e1]; exact congrArg (fun z => oI (some z)) (cntB_cong2 (fun c _ => if_pos rfl))) | exact (by rw [e1]; exact congrArg (fun z => oI (some z)) (cntB_cong2 (fun c _ => (if_neg (by decide)).trans (if_pos rfl)))) | exact (by rw [e1]; exact congrArg (fun z => oI (some z)) (cntB_cong2 (fun c _ => (if_neg (by decide)).trans (if_neg (by decide)))))) rfl dX6_wholeValue_84
  · refine lv_tableIn (tgt := 85) hx hb dX6_wholeValue_1 (by rw [e1]; decide) (by rw [e1]; decide) (by rw [e1]; rfl) (by decide) ?_
    refine lv_aload_n hx hb dX6_wholeValue_85 rfl (lv_at hl 0 rfl) ?_
    refine n_cV (b := qr 0) (As := []) (rest := []) (wc := (wR kA qr cc ac co ad rc nm st an svm cnt tx len th xf xt xs xa xw xc xk xp pt wr xm mny)) hS0 (c_X6_needed lQ D kA qr cc ac co ad rc nm st an svm cnt tx len th xf xt xs xa xw xc xk xp pt wr xm mny (by first | assumption | omega) (by first | assumption | omega) (by first | assumption | omega) (by first | assumption | omega) (by first | assumption | omega) (by first | assumption | omega)) (cwV 0 hts gX6_wholeValue_X6_needed rfl rfl rfl (by decide +kernel) ⟨Nat.le_of_ble_eq_true rfl, Nat.le_of_ble_eq_true rfl⟩) hP hK (q0 := 0) rfl rfl rfl rfl rfl hl.1 (Nat.le_of_ble_eq_true rfl) dX6_wholeValue_86 ⟨Nat.le_refl _, Nat.le_refl _⟩ (fun r86 h86 => ?_)
    subst h86
    exact n_reti hx hb hr hlocks (post := fun r : Int32 => r = (oI (wvF cc ac co ad rc st an len w))) (by rw [e1]; rfl) rfl dX6_wholeValue_89
  · refine lv_tableIn (tgt := 90) hx hb dX6_wholeValue_1 (by rw [e1]; decide) (by rw [e1]; decide) (by rw [e1]; rfl) (by decide) ?_
    refine lv_aload_n hx hb dX6_wholeValue_90 rfl (lv_at hl 0 rfl) ?_
    refine n_get (ci := 6) (v := .ref (qr 9)) (C := RX6) (T := TX6) (N := 18) hx hb hts hinX6 hown hK hP 0 rfl rfl 11 rfl ⟨rfl, rfl, rfl⟩ f34 rfl dX6_wholeValue_91 ?_
    refine lv_iconst (v := (nI 0)) hx hb dX6_wholeValue_94 (by decide) ?_
    refine n_iald (i := 0) (v := (nI (xc 0))) hx hb hK hP 9 0 rfl rfl (by omega) (Nat.le_of_ble_eq_true rfl) rfl dX6_wholeValue_95 ?_
    exact n_reti hx hb hr hlocks (post := fun r : Int32 => r = (oI (wvF cc ac co ad rc st an len w))) (by rw [e1, hfin.1]; rfl) rfl dX6_wholeValue_96
  · refine lv_tableIn (tgt := 97) hx hb dX6_wholeValue_1 (by rw [e1]; decide) (by rw [e1]; decide) (by rw [e1]; rfl) (by decide) ?_
    refine lv_aload_n hx hb dX6_wholeValue_97 rfl (lv_at hl 0 rfl) ?_
    refine n_get (ci := 6) (v := .ref (qr 10)) (C := RX6) (T := TX6) (N := 18) hx hb hts hinX6 hown hK hP 0 rfl rfl 12 rfl ⟨rfl, rfl, rfl⟩ f37 rfl dX6_wholeValue_98 ?_
    refine lv_iconst (v := (nI 0)) hx hb dX6_wholeValue_101 (by decide) ?_
    refine n_iald (i := 0) (v := (oI (xk 0))) hx hb hK hP 10 0 rfl rfl (by omega) (Nat.le_of_ble_eq_true rfl) rfl dX6_wholeValue_102 ?_
    exact n_reti hx hb hr hlocks (post := fun r : Int32 => r = (oI (wvF cc ac co ad rc st an len w))) (by rw [e1, hfin.2]; rfl) rfl dX6_wholeValue_103
  · refine lv_tableIn (tgt := 104) hx hb dX6_wholeValue_1 (by rw [e1]; decide) (by rw [e1]; decide) (by rw [e1]; rfl) (by decide) ?_
    refine lv_aload_n hx hb dX6_wholeValue_104 rfl (lv_at hl 0 rfl) ?_
    refine n_cV (b := qr 0) (As := []) (rest := []) (wc := (wR kA qr cc ac co ad rc nm st an svm cnt tx len th xf xt xs xa xw xc xk xp pt wr xm mny)) hS0 (c_X6_unlike lQ D kA qr cc ac co ad rc nm st an svm cnt tx len th xf xt xs xa xw xc xk xp pt wr xm mny (by first | assumption | omega) (by first | assumption | omega) (by first | assumption | omega) (by first | assumption | omega)) (cwV 0 hts gX6_wholeValue_X6_unlike rfl rfl rfl (by decide +kernel) ⟨Nat.le_of_ble_eq_true rfl, Nat.le_of_ble_eq_true rfl⟩) hP hK (q0 := 0) rfl rfl rfl rfl rfl hl.1 (Nat.le_of_ble_eq_true rfl) dX6_wholeValue_105 ⟨Nat.le_refl _, Nat.le_refl _⟩ (fun r105 h105 => ?_)
    subst h105
    exact n_reti hx hb hr hlocks (post := fun r : Int32 => r = (oI (wvF cc ac co ad rc st an len w))) (by rw [e1]; rfl) rfl dX6_wholeValue_108
  · refine lv_tableIn (tgt := 109) hx hb dX6_wholeValue_1 (by rw [e1]; decide) (by rw [e1]; decide) (by rw [e1]; rfl) (by decide) ?_
    refine lv_aload_n hx hb dX6_wholeValue_109 rfl (lv_at hl 0 rfl) ?_
    refine n_get (ci := 6) (v := .ref (qr 1)) (C := RX6) (T := TX6) (N := 18) hx hb hts hinX6 hown hK hP 0 rfl rfl 0 rfl ⟨rfl, rfl, rfl⟩ f7 rfl dX6_wholeValue_110 ?_
    refine lv_iconst (v := (nI 2)) hx hb dX6_wholeValue_113 (by decide) ?_
    refine n_iald (i := 2) (v := (nI ad)) hx hb hK hP 1 0 rfl rfl (by omega) (Nat.le_of_ble_eq_true rfl) rfl dX6_wholeValue_114 ?_
    exact n_reti hx hb hr hlocks (post := fun r : Int32 => r = (oI (wvF cc ac co ad rc st an len w))) (by rw [e1]; rfl) rfl dX6_wholeValue_115
  · refine lv_tableOut (tgt := 116) hx hb dX6_wholeValue_1 (by rw [e1]; decide) (by decide) ?_
    refine lv_aload_n hx hb dX6_wholeValue_116 rfl (lv_at hl 0 rfl) ?_
    refine n_get (ci := 6) (v := .int (nI len)) (C := RX6) (T := TX6) (N := 18) hx hb hts hinX6 hown hK hP 0 rfl rfl 4 rfl ⟨rfl, rfl, rfl⟩ f178 rfl dX6_wholeValue_117 ?_
    exact n_reti hx hb hr hlocks (post := fun r : Int32 => r = (oI (wvF cc ac co ad rc st an len w))) (by rw [e1]; rfl) rfl dX6_wholeValue_120

set_option maxHeartbeats 4000000 in
set_option maxRecDepth 100000 in
theorem c_X6_condition (lQ : Launch) (D : va_G) (kA : Nat → ClassId) (qr : Nat → Nat) (cc : Nat) (ac : Nat → Nat) (co : Nat → Nat) (ad : Nat) (rc : Nat) (nm : Nat → Nat) (st : Nat → Nat) (an : Nat → Nat) (svm : Nat → TCt) (cnt : Nat) (tx : Nat → Nat) (len : Nat) (th : Nat) (xf : Nat → Option Nat) (xt : Nat → Nat) (xs : Nat → Option Nat) (xa : Nat → Nat) (xw : Nat → Nat) (xc : Nat → Nat) (xk : Nat → Option Nat) (xp : Nat → Nat) (pt : Nat) (wr : Option Nat) (xm : Nat → Nat) (mny : Nat) (k : Int32) (w : Int32) (sz : Nat) (hti : tIn cc ac co rc st an) : Met lQ yX6_condition wsX6_condition (rmN 4 91) (wr_Pc D vwCl [.ref (qr 0), .int k, .int w] (wR kA qr cc ac co ad rc nm st an svm cnt tx len th xf xt xs xa xw xc xk xp pt wr xm mny) (tyK kA) sz) (va_Qi (S := (Nat → Option Nat) × (Nat → Nat) × (Nat → Option Nat) × (Nat → Nat) × (Nat → Nat) × (Nat → Nat) × (Nat → Option Nat) × (Nat → Nat) × Nat × (Option Nat) × (Nat → Nat) × Nat) (fun (r : Int32) (u : (Nat → Option Nat) × (Nat → Nat) × (Nat → Option Nat) × (Nat → Nat) × (Nat → Nat) × (Nat → Nat) × (Nat → Option Nat) × (Nat → Nat) × Nat × (Option Nat) × (Nat → Nat) × Nat) => (thCo k w cc = 0 → r = (nI (cvF cc ac co rc st an (k.toNatClampNeg) (w.toNatClampNeg))))) (wr_B D vwCl (wR kA qr cc ac co ad rc nm st an svm cnt tx len th xf xt xs xa xw xc xk xp pt wr xm mny) (tyK kA) sz (fun u => (wR kA qr cc ac co ad rc nm st an svm cnt tx len (thCo k w cc) u.1 u.2.1 u.2.2.1 u.2.2.2.1 u.2.2.2.2.1 u.2.2.2.2.2.1 u.2.2.2.2.2.2.1 u.2.2.2.2.2.2.2.1 u.2.2.2.2.2.2.2.2.1 u.2.2.2.2.2.2.2.2.2.1 u.2.2.2.2.2.2.2.2.2.2.1 u.2.2.2.2.2.2.2.2.2.2.2))) (va_A (wR kA qr cc ac co ad rc nm st an svm cnt tx len th xf xt xs xa xw xc xk xp pt wr xm mny) sz)) 0 0 (va_A (wR kA qr cc ac co ad rc nm st an svm cnt tx len th xf xt xs xa xw xc xk xp pt wr xm mny) sz) := by
  refine Met.ofW (cc := cX6_condition) (maxL := 3) (ret := (some .int)) (by decide) rfl ?_
  intro pQ eQ s mQ args below meth cQ s₁ B hml hv
  obtain ⟨rfl, hsz, hP, hK, hD0⟩ := hv
  have hx := B.exec
  have hb := B.bytes
  have hr := B.returns
  have hts := atoms_spec (ws := wsX6_condition) B.pre
  have hown : s.vm.findClass RX6 = some mQ.cls := findClass_of_methodNamed B.named
  have hlocks : meth.locks = false := B.notSynchronized
  have hS0 : CallFix pQ mQ cQ cX6_condition 3 s ([.ref (qr 0), .int k, .int w] : List Value).toArray wsX6_condition RX6 := ⟨hx, hb, hml, hown, hts⟩
  subst hsz
  have hD := hD0.self (sz := s.heap.size)
  generalize hAe : va_A (wR kA qr cc ac co ad rc nm st an svm cnt tx len th xf xt xs xa xw xc xk xp pt wr xm mny) s.heap.size = A at hD ⊢
  have hA : ∀ q : Nat, s.heap.size ≤ q → A q := fun q h => by rw [← hAe]; exact Or.inr h
  have hS : va_S A s.heap s.heap [] := va_S.rf
  skip
  have hl := lv_entry ([.ref (qr 0), .int k, .int w]) (n := 3) (Nat.le_of_ble_eq_true rfl)
  rw [lg_entry_eq]
  generalize (lg_sl ([.ref (qr 0), .int k, .int w]) ++ List.replicate (3 - (lg_sl ([.ref (qr 0), .int k, .int w])).length) Slot.unset).toArray = ls at hl ⊢
  have hl : lv_has ls 3 [(0, .ref (qr 0)), (1, .int k), (2, .int w)] := hl
  have hP : va_P D vwCl (wR kA qr cc ac co ad rc nm st an svm cnt tx len th xf xt xs xa xw xc xk xp pt wr xm mny) s.heap := hP
  have hD : va_D A (wR kA qr cc ac co ad rc nm st an svm cnt tx len th xf xt xs xa xw xc xk xp pt wr xm mny) := hD
  obtain ⟨hcc, hac, hco1, hrc, han10, hst⟩ := hti
  have han : ∀ j, j < rc → an j < 11 := fun j hj => Nat.lt_succ_of_lt (han10 j hj)
  have hco : ∀ k, k < cc → co k < 10 := fun k hk => (hco1 k hk).2
  have hP10 := prodF_1024 hcc hac
  refine lv_aload_n hx hb dX6_condition_0 rfl (lv_at hl 0 rfl) ?_
  refine lv_aload_n hx hb dX6_condition_1 rfl (lv_at hl 0 rfl) ?_
  refine lv_iload_n hx hb dX6_condition_2 rfl (lv_at hl 1 rfl) ?_
  refine n_cV (b := qr 0) (As := [.int k]) (rest := [.ref (qr 0)]) (wc := (wR kA qr cc ac co ad rc nm st an svm cnt tx len th xf xt xs xa xw xc xk xp pt wr xm mny)) hS0 (c_X6_isCondition lQ D kA qr cc ac co ad rc nm st an svm cnt tx len th xf xt xs xa xw xc xk xp pt wr xm mny k (by first | assumption | omega)) (cwV 1 hts gX6_condition_X6_isCondition rfl rfl rfl (by decide +kernel) ⟨Nat.le_of_ble_eq_true rfl, Nat.le_of_ble_eq_true rfl⟩) hP hK (q0 := 0) rfl rfl rfl rfl rfl hl.1 (Nat.le_of_ble_eq_true rfl) dX6_condition_3 ⟨Nat.le_refl _, Nat.le_refl _⟩ (fun r3 h3 => ?_)
  subst h3
  refine n_ifb_ne (b := inB k cc) (tgt := 13) hx hb dX6_condition_6 (by decide) (fun c6 => ?_) (fun c6 => ?_)
  · refine lv_iconst (v := (nI 0)) hx hb dX6_condition_13 (by decide) ?_
    refine lv_iload_n hx hb dX6_condition_14 rfl (lv_at hl 2 rfl) ?_
    refine lv_iconst (v := (nI 0)) hx hb dX6_condition_15 (by decide) ?_
    refine lv_iconst (v := (nI 2)) hx hb dX6_condition_16 (by decide) ?_
    refine n_cS (As := [.int w, .int (nI 0), .int (nI 2)]) (rest := [.int (nI 0), .ref (qr 0)]) (wc := []) hS0 (c_X6_in lQ D kA w (nI 0) (nI 2) ) (va_cwS 3 hts gX6_condition_X6_in rfl rfl rfl (by decide +kernel) ⟨Nat.le_of_ble_eq_true rfl, Nat.le_of_ble_eq_true rfl⟩) (hP.mem (ws' := []) (fun qQ h => absurd h List.not_mem_nil)) hK rfl rfl hl.1 (Nat.le_of_ble_eq_true rfl) dX6_condition_17 ⟨Nat.le_refl _, Nat.le_refl _⟩ (fun r17 h17 => ?_)
    subst h17
    refine n_ifb_ne (b := inI w (nI 0) (nI 2)) (tgt := 27) hx hb dX6_condition_20 (by decide) (fun c20 => ?_) (fun c20 => ?_)
    · rw [inI_3] at c20
      refine lv_iconst (v := (nI 0)) hx hb dX6_condition_27 (by decide) ?_
      refine n_wVi (b := qr 0) (As := [.int (bI false), .int (bI false)]) (rest := []) (wr := []) (ws' := fun u => (wR kA qr cc ac co ad rc nm st an svm cnt tx len (thF false false) xf xt xs xa xw xc xk xp pt wr xm mny)) hS0 (c_X6_throwing lQ D kA qr cc ac co ad rc nm st an svm cnt tx len th xf xt xs xa xw xc xk xp pt wr xm mny false false s.heap.size ) (cwV 2 hts gX6_condition_X6_throwing rfl rfl rfl (by decide +kernel) ⟨Nat.le_of_ble_eq_true rfl, Nat.le_of_ble_eq_true rfl⟩) hP hD hS hA hK hK (by simpa only [List.append_assoc, List.append_nil] using (List.Perm.of_eq (List.append_nil _).symm)) (fun u => List.Perm.symm (by simpa only [List.append_assoc, List.append_nil] using (List.Perm.of_eq (List.append_nil _).symm))) (q0 := 0) rfl rfl rfl rfl rfl hl.1 (Nat.le_of_ble_eq_true rfl) dX6_condition_28 ⟨Nat.le_refl _, Nat.le_refl _⟩ (fun r28 u28 H locs h28 hP hD hS => ?_)
      subst h28
      have hP : va_P D vwCl (wR kA qr cc ac co ad rc nm st an svm cnt tx len (thF false false) xf xt xs xa xw xc xk xp pt wr xm mny) H := hP
      have hD : va_D A (wR kA qr cc ac co ad rc nm st an svm cnt tx len (thF false false) xf xt xs xa xw xc xk xp pt wr xm mny) := hD
      show W pQ lQ eQ (headSpec wsX6_condition (rmN 4 91)).room s mQ ([.ref (qr 0), .int k, .int w] : List Value).toArray below meth cQ H locs 0 0 (MQ below (va_Qi (S := (Nat → Option Nat) × (Nat → Nat) × (Nat → Option Nat) × (Nat → Nat) × (Nat → Nat) × (Nat → Nat) × (Nat → Option Nat) × (Nat → Nat) × Nat × (Option Nat) × (Nat → Nat) × Nat) (fun (r : Int32) (u : (Nat → Option Nat) × (Nat → Nat) × (Nat → Option Nat) × (Nat → Nat) × (Nat → Nat) × (Nat → Nat) × (Nat → Option Nat) × (Nat → Nat) × Nat × (Option Nat) × (Nat → Nat) × Nat) => (thCo k w cc = 0 → r = (nI (cvF cc ac co rc st an (k.toNatClampNeg) (w.toNatClampNeg))))) (wr_B D vwCl (wR kA qr cc ac co ad rc nm st an svm cnt tx len th xf xt xs xa xw xc xk xp pt wr xm mny) (tyK kA) s.heap.size (fun u => (wR kA qr cc ac co ad rc nm st an svm cnt tx len (thCo k w cc) u.1 u.2.1 u.2.2.1 u.2.2.2.1 u.2.2.2.2.1 u.2.2.2.2.2.1 u.2.2.2.2.2.2.1 u.2.2.2.2.2.2.2.1 u.2.2.2.2.2.2.2.2.1 u.2.2.2.2.2.2.2.2.2.1 u.2.2.2.2.2.2.2.2.2.2.1 u.2.2.2.2.2.2.2.2.2.2.2))) A) ([.ref (qr 0), .int k, .int w] : List Value).toArray s 0 0 A) (F0 mQ 31 ls [.int (bI false)])
      refine lv_if_eq (tgt := 36) hx hb dX6_condition_31 (by decide) (fun _ => ?_) (fun h => absurd (by decide) h)
      obtain ⟨hk1, hk2⟩ := inB_c (by omega) c6
      have hl : lv_has ls 3 [(0, .ref (qr 0)), (1, .int (nI k.toNatClampNeg)), (2, .int w)] := by rw [← hk1]; exact hl
      obtain ⟨hw1, hw2⟩ := inB_c (by decide) c20
      have hl : lv_has ls 3 [(0, .ref (qr 0)), (1, .int (nI k.toNatClampNeg)), (2, .int (nI w.toNatClampNeg))] := by rw [← hw1]; exact hl
      refine lv_aload_n hx hb dX6_condition_36 rfl (lv_at hl 0 rfl) ?_
      refine lv_iconst (v := (oI none)) hx hb dX6_condition_37 (by decide) ?_
      refine n_wVv (b := qr 0) (As := [.int (oI none)]) (rest := []) (wr := []) (ws' := fun u => (wR kA qr cc ac co ad rc nm st an svm cnt tx len (thF false false) u.1 u.2.1 u.2.2.1 u.2.2.2 xw xc xk xp pt wr xm mny)) hS0 (c_X6_lays lQ D kA qr cc ac co ad rc nm st an svm cnt tx len (thF false false) xf xt xs xa xw xc xk xp pt wr xm mny H.size (by first | assumption | omega) (by first | assumption | omega) (by first | assumption | omega) (by first | assumption | omega) (by first | assumption | omega)) (cwV 1 hts gX6_condition_X6_lays rfl rfl rfl (by decide +kernel) ⟨Nat.le_of_ble_eq_true rfl, Nat.le_of_ble_eq_true rfl⟩) hP hD hS hA hK hK (by simpa only [List.append_assoc, List.append_nil] using (List.Perm.of_eq (List.append_nil _).symm)) (fun u => List.Perm.symm (by simpa only [List.append_assoc, List.append_nil] using (List.Perm.of_eq (List.append_nil _).symm))) (q0 := 0) rfl rfl rfl rfl rfl hl.1 (Nat.le_of_ble_eq_true rfl) dX6_condition_38 ⟨Nat.le_refl _, Nat.le_refl _⟩ (fun u38 H locs h38 hP hD hS => ?_)
      obtain ⟨xf1_38, xt1_38, xs1_38, xa1_38⟩ := u38
      have h38_1 := h38
      try dsimp only at h38_1
      have hP : va_P D vwCl (wR kA qr cc ac co ad rc nm st an svm cnt tx len (thF false false) xf1_38 xt1_38 xs1_38 xa1_38 xw xc xk xp pt wr xm mny) H := hP
      have hD : va_D A (wR kA qr cc ac co ad rc nm st an svm cnt tx len (thF false false) xf1_38 xt1_38 xs1_38 xa1_38 xw xc xk xp pt wr xm mny) := hD
      refine lv_aload_n hx hb dX6_condition_41 rfl (lv_at hl 0 rfl) ?_
      refine lv_iload_n hx hb dX6_condition_42 rfl (lv_at hl 1 rfl) ?_
      refine lv_iload_n hx hb dX6_condition_43 rfl (lv_at hl 2 rfl) ?_
      refine n_cV (b := qr 0) (As := [.int (nI k.toNatClampNeg), .int (nI w.toNatClampNeg)]) (rest := []) (wc := (wR kA qr cc ac co ad rc nm st an svm cnt tx len (thF false false) xf1_38 xt1_38 xs1_38 xa1_38 xw xc xk xp pt wr xm mny)) hS0 (c_X6_conditionOf lQ D kA qr cc ac co ad rc nm st an svm cnt tx len (thF false false) xf1_38 xt1_38 xs1_38 xa1_38 xw xc xk xp pt wr xm mny k.toNatClampNeg w.toNatClampNeg (by first | assumption | omega) (by first | assumption | omega) (by first | assumption | omega) h38_1 (by first | assumption | omega) (by first | assumption | omega)) (cwV 2 hts gX6_condition_X6_conditionOf rfl rfl rfl (by decide +kernel) ⟨Nat.le_of_ble_eq_true rfl, Nat.le_of_ble_eq_true rfl⟩) hP hK (q0 := 0) rfl rfl rfl rfl rfl hl.1 (Nat.le_of_ble_eq_true rfl) dX6_condition_44 ⟨Nat.le_refl _, Nat.le_refl _⟩ (fun r44 h44 => ?_)
      subst h44
      have hth : thCo k w cc = (thF false false) := (by first | (unfold thCo; rw [c6, c20]; first | done | rfl) | (unfold thCo; rw [c6]; first | done | rfl))
      have hw9 : (wR kA qr cc ac co ad rc nm st an svm cnt tx len (thF false false) xf1_38 xt1_38 xs1_38 xa1_38 xw xc xk xp pt wr xm mny) = (wR kA qr cc ac co ad rc nm st an svm cnt tx len (thCo k w cc) xf1_38 xt1_38 xs1_38 xa1_38 xw xc xk xp pt wr xm mny) := (by rw [hth]; first | done | rfl)
      rw [hw9] at hP hD
      exact n_wreti hx hb hr hlocks (post := fun (r : Int32) (u : (Nat → Option Nat) × (Nat → Nat) × (Nat → Option Nat) × (Nat → Nat) × (Nat → Nat) × (Nat → Nat) × (Nat → Option Nat) × (Nat → Nat) × Nat × (Option Nat) × (Nat → Nat) × Nat) => (thCo k w cc = 0 → r = (nI (cvF cc ac co rc st an (k.toNatClampNeg) (w.toNatClampNeg))))) (w1 := fun u => (wR kA qr cc ac co ad rc nm st an svm cnt tx len (thCo k w cc) u.1 u.2.1 u.2.2.1 u.2.2.2.1 u.2.2.2.2.1 u.2.2.2.2.2.1 u.2.2.2.2.2.2.1 u.2.2.2.2.2.2.2.1 u.2.2.2.2.2.2.2.2.1 u.2.2.2.2.2.2.2.2.2.1 u.2.2.2.2.2.2.2.2.2.2.1 u.2.2.2.2.2.2.2.2.2.2.2)) (xf1_38, xt1_38, xs1_38, xa1_38, xw, xc, xk, xp, pt, wr, xm, mny) (by first | exact (fun h => absurd (h.symm.trans hth) (by decide)) | exact (fun _ => rfl)) hP hD hK hS hAe dX6_condition_47
    · rw [inI_3] at c20
      refine lv_iconst (v := (nI 1)) hx hb dX6_condition_23 (by decide) ?_
      refine lv_goto (tgt := 28) hx hb dX6_condition_24 (by decide) ?_
      refine n_wVi (b := qr 0) (As := [.int (bI false), .int (bI true)]) (rest := []) (wr := []) (ws' := fun u => (wR kA qr cc ac co ad rc nm st an svm cnt tx len (thF false true) xf xt xs xa xw xc xk xp pt wr xm mny)) hS0 (c_X6_throwing lQ D kA qr cc ac co ad rc nm st an svm cnt tx len th xf xt xs xa xw xc xk xp pt wr xm mny false true s.heap.size ) (cwV 2 hts gX6_condition_X6_throwing rfl rfl rfl (by decide +kernel) ⟨Nat.le_of_ble_eq_true rfl, Nat.le_of_ble_eq_true rfl⟩) hP hD hS hA hK hK (by simpa only [List.append_assoc, List.append_nil] using (List.Perm.of_eq (List.append_nil _).symm)) (fun u => List.Perm.symm (by simpa only [List.append_assoc, List.append_nil] using (List.Perm.of_eq (List.append_nil _).symm))) (q0 := 0) rfl rfl rfl rfl rfl hl.1 (Nat.le_of_ble_eq_true rfl) dX6_condition_28 ⟨Nat.le_refl _, Nat.le_refl _⟩ (fun r28 u28 H locs h28 hP hD hS => ?_)
      subst h28
      have hP : va_P D vwCl (wR kA qr cc ac co ad rc nm st an svm cnt tx len (thF false true) xf xt xs xa xw xc xk xp pt wr xm mny) H := hP
      have hD : va_D A (wR kA qr cc ac co ad rc nm st an svm cnt tx len (thF false true) xf xt xs xa xw xc xk xp pt wr xm mny) := hD
      show W pQ lQ eQ (headSpec wsX6_condition (rmN 4 91)).room s mQ ([.ref (qr 0), .int k, .int w] : List Value).toArray below meth cQ H locs 0 0 (MQ below (va_Qi (S := (Nat → Option Nat) × (Nat → Nat) × (Nat → Option Nat) × (Nat → Nat) × (Nat → Nat) × (Nat → Nat) × (Nat → Option Nat) × (Nat → Nat) × Nat × (Option Nat) × (Nat → Nat) × Nat) (fun (r : Int32) (u : (Nat → Option Nat) × (Nat → Nat) × (Nat → Option Nat) × (Nat → Nat) × (Nat → Nat) × (Nat → Nat) × (Nat → Option Nat) × (Nat → Nat) × Nat × (Option Nat) × (Nat → Nat) × Nat) => (thCo k w cc = 0 → r = (nI (cvF cc ac co rc st an (k.toNatClampNeg) (w.toNatClampNeg))))) (wr_B D vwCl (wR kA qr cc ac co ad rc nm st an svm cnt tx len th xf xt xs xa xw xc xk xp pt wr xm mny) (tyK kA) s.heap.size (fun u => (wR kA qr cc ac co ad rc nm st an svm cnt tx len (thCo k w cc) u.1 u.2.1 u.2.2.1 u.2.2.2.1 u.2.2.2.2.1 u.2.2.2.2.2.1 u.2.2.2.2.2.2.1 u.2.2.2.2.2.2.2.1 u.2.2.2.2.2.2.2.2.1 u.2.2.2.2.2.2.2.2.2.1 u.2.2.2.2.2.2.2.2.2.2.1 u.2.2.2.2.2.2.2.2.2.2.2))) A) ([.ref (qr 0), .int k, .int w] : List Value).toArray s 0 0 A) (F0 mQ 31 ls [.int (bI true)])
      refine lv_if_eq (tgt := 36) hx hb dX6_condition_31 (by decide) (fun h => absurd h (by decide)) (fun _ => ?_)
      refine lv_iconst (v := (nI 0)) hx hb dX6_condition_34 (by decide) ?_
      have hth : thCo k w cc = (thF false true) := (by first | (unfold thCo; rw [c6, c20]; first | done | rfl) | (unfold thCo; rw [c6]; first | done | rfl))
      have hw9 : (wR kA qr cc ac co ad rc nm st an svm cnt tx len (thF false true) xf xt xs xa xw xc xk xp pt wr xm mny) = (wR kA qr cc ac co ad rc nm st an svm cnt tx len (thCo k w cc) xf xt xs xa xw xc xk xp pt wr xm mny) := (by rw [hth]; first | done | rfl)
      rw [hw9] at hP hD
      exact n_wreti hx hb hr hlocks (post := fun (r : Int32) (u : (Nat → Option Nat) × (Nat → Nat) × (Nat → Option Nat) × (Nat → Nat) × (Nat → Nat) × (Nat → Nat) × (Nat → Option Nat) × (Nat → Nat) × Nat × (Option Nat) × (Nat → Nat) × Nat) => (thCo k w cc = 0 → r = (nI (cvF cc ac co rc st an (k.toNatClampNeg) (w.toNatClampNeg))))) (w1 := fun u => (wR kA qr cc ac co ad rc nm st an svm cnt tx len (thCo k w cc) u.1 u.2.1 u.2.2.1 u.2.2.2.1 u.2.2.2.2.1 u.2.2.2.2.2.1 u.2.2.2.2.2.2.1 u.2.2.2.2.2.2.2.1 u.2.2.2.2.2.2.2.2.1 u.2.2.2.2.2.2.2.2.2.1 u.2.2.2.2.2.2.2.2.2.2.1 u.2.2.2.2.2.2.2.2.2.2.2)) (xf, xt, xs, xa, xw, xc, xk, xp, pt, wr, xm, mny) (by first | exact (fun h => absurd (h.symm.trans hth) (by decide)) | exact (fun _ => rfl)) hP hD hK hS hAe dX6_condition_35
  · refine lv_iconst (v := (nI 1)) hx hb dX6_condition_9 (by decide) ?_
    refine lv_goto (tgt := 14) hx hb dX6_condition_10 (by decide) ?_
    refine lv_iload_n hx hb dX6_condition_14 rfl (lv_at hl 2 rfl) ?_
    refine lv_iconst (v := (nI 0)) hx hb dX6_condition_15 (by decide) ?_
    refine lv_iconst (v := (nI 2)) hx hb dX6_condition_16 (by decide) ?_
    refine n_cS (As := [.int w, .int (nI 0), .int (nI 2)]) (rest := [.int (nI 1), .ref (qr 0)]) (wc := []) hS0 (c_X6_in lQ D kA w (nI 0) (nI 2) ) (va_cwS 3 hts gX6_condition_X6_in rfl rfl rfl (by decide +kernel) ⟨Nat.le_of_ble_eq_true rfl, Nat.le_of_ble_eq_true rfl⟩) (hP.mem (ws' := []) (fun qQ h => absurd h List.not_mem_nil)) hK rfl rfl hl.1 (Nat.le_of_ble_eq_true rfl) dX6_condition_17 ⟨Nat.le_refl _, Nat.le_refl _⟩ (fun r17 h17 => ?_)
    subst h17
    refine n_ifb_ne (b := inI w (nI 0) (nI 2)) (tgt := 27) hx hb dX6_condition_20 (by decide) (fun c20 => ?_) (fun c20 => ?_)
    · rw [inI_3] at c20
      refine lv_iconst (v := (nI 0)) hx hb dX6_condition_27 (by decide) ?_
      refine n_wVi (b := qr 0) (As := [.int (bI true), .int (bI false)]) (rest := []) (wr := []) (ws' := fun u => (wR kA qr cc ac co ad rc nm st an svm cnt tx len (thF true false) xf xt xs xa xw xc xk xp pt wr xm mny)) hS0 (c_X6_throwing lQ D kA qr cc ac co ad rc nm st an svm cnt tx len th xf xt xs xa xw xc xk xp pt wr xm mny true false s.heap.size ) (cwV 2 hts gX6_condition_X6_throwing rfl rfl rfl (by decide +kernel) ⟨Nat.le_of_ble_eq_true rfl, Nat.le_of_ble_eq_true rfl⟩) hP hD hS hA hK hK (by simpa only [List.append_assoc, List.append_nil] using (List.Perm.of_eq (List.append_nil _).symm)) (fun u => List.Perm.symm (by simpa only [List.append_assoc, List.append_nil] using (List.Perm.of_eq (List.append_nil _).symm))) (q0 := 0) rfl rfl rfl rfl rfl hl.1 (Nat.le_of_ble_eq_true rfl) dX6_condition_28 ⟨Nat.le_refl _, Nat.le_refl _⟩ (fun r28 u28 H locs h28 hP hD hS => ?_)
      subst h28
      have hP : va_P D vwCl (wR kA qr cc ac co ad rc nm st an svm cnt tx len (thF true false) xf xt xs xa xw xc xk xp pt wr xm mny) H := hP
      have hD : va_D A (wR kA qr cc ac co ad rc nm st an svm cnt tx len (thF true false) xf xt xs xa xw xc xk xp pt wr xm mny) := hD
      show W pQ lQ eQ (headSpec wsX6_condition (rmN 4 91)).room s mQ ([.ref (qr 0), .int k, .int w] : List Value).toArray below meth cQ H locs 0 0 (MQ below (va_Qi (S := (Nat → Option Nat) × (Nat → Nat) × (Nat → Option Nat) × (Nat → Nat) × (Nat → Nat) × (Nat → Nat) × (Nat → Option Nat) × (Nat → Nat) × Nat × (Option Nat) × (Nat → Nat) × Nat) (fun (r : Int32) (u : (Nat → Option Nat) × (Nat → Nat) × (Nat → Option Nat) × (Nat → Nat) × (Nat → Nat) × (Nat → Nat) × (Nat → Option Nat) × (Nat → Nat) × Nat × (Option Nat) × (Nat → Nat) × Nat) => (thCo k w cc = 0 → r = (nI (cvF cc ac co rc st an (k.toNatClampNeg) (w.toNatClampNeg))))) (wr_B D vwCl (wR kA qr cc ac co ad rc nm st an svm cnt tx len th xf xt xs xa xw xc xk xp pt wr xm mny) (tyK kA) s.heap.size (fun u => (wR kA qr cc ac co ad rc nm st an svm cnt tx len (thCo k w cc) u.1 u.2.1 u.2.2.1 u.2.2.2.1 u.2.2.2.2.1 u.2.2.2.2.2.1 u.2.2.2.2.2.2.1 u.2.2.2.2.2.2.2.1 u.2.2.2.2.2.2.2.2.1 u.2.2.2.2.2.2.2.2.2.1 u.2.2.2.2.2.2.2.2.2.2.1 u.2.2.2.2.2.2.2.2.2.2.2))) A) ([.ref (qr 0), .int k, .int w] : List Value).toArray s 0 0 A) (F0 mQ 31 ls [.int (bI true)])
      refine lv_if_eq (tgt := 36) hx hb dX6_condition_31 (by decide) (fun h => absurd h (by decide)) (fun _ => ?_)
      refine lv_iconst (v := (nI 0)) hx hb dX6_condition_34 (by decide) ?_
      have hth : thCo k w cc = (thF true false) := (by first | (unfold thCo; rw [c6, c20]; first | done | rfl) | (unfold thCo; rw [c6]; first | done | rfl))
      have hw9 : (wR kA qr cc ac co ad rc nm st an svm cnt tx len (thF true false) xf xt xs xa xw xc xk xp pt wr xm mny) = (wR kA qr cc ac co ad rc nm st an svm cnt tx len (thCo k w cc) xf xt xs xa xw xc xk xp pt wr xm mny) := (by rw [hth]; first | done | rfl)
      rw [hw9] at hP hD
      exact n_wreti hx hb hr hlocks (post := fun (r : Int32) (u : (Nat → Option Nat) × (Nat → Nat) × (Nat → Option Nat) × (Nat → Nat) × (Nat → Nat) × (Nat → Nat) × (Nat → Option Nat) × (Nat → Nat) × Nat × (Option Nat) × (Nat → Nat) × Nat) => (thCo k w cc = 0 → r = (nI (cvF cc ac co rc st an (k.toNatClampNeg) (w.toNatClampNeg))))) (w1 := fun u => (wR kA qr cc ac co ad rc nm st an svm cnt tx len (thCo k w cc) u.1 u.2.1 u.2.2.1 u.2.2.2.1 u.2.2.2.2.1 u.2.2.2.2.2.1 u.2.2.2.2.2.2.1 u.2.2.2.2.2.2.2.1 u.2.2.2.2.2.2.2.2.1 u.2.2.2.2.2.2.2.2.2.1 u.2.2.2.2.2.2.2.2.2.2.1 u.2.2.2.2.2.2.2.2.2.2.2)) (xf, xt, xs, xa, xw, xc, xk, xp, pt, wr, xm, mny) (by first | exact (fun h => absurd (h.symm.trans hth) (by decide)) | exact (fun _ => rfl)) hP hD hK hS hAe dX6_condition_35
    · rw [inI_3] at c20
      refine lv_iconst (v := (nI 1)) hx hb dX6_condition_23 (by decide) ?_
      refine lv_goto (tgt := 28) hx hb dX6_condition_24 (by decide) ?_
      refine n_wVi (b := qr 0) (As := [.int (bI true), .int (bI true)]) (rest := []) (wr := []) (ws' := fun u => (wR kA qr cc ac co ad rc nm st an svm cnt tx len (thF true true) xf xt xs xa xw xc xk xp pt wr xm mny)) hS0 (c_X6_throwing lQ D kA qr cc ac co ad rc nm st an svm cnt tx len th xf xt xs xa xw xc xk xp pt wr xm mny true true s.heap.size ) (cwV 2 hts gX6_condition_X6_throwing rfl rfl rfl (by decide +kernel) ⟨Nat.le_of_ble_eq_true rfl, Nat.le_of_ble_eq_true rfl⟩) hP hD hS hA hK hK (by simpa only [List.append_assoc, List.append_nil] using (List.Perm.of_eq (List.append_nil _).symm)) (fun u => List.Perm.symm (by simpa only [List.append_assoc, List.append_nil] using (List.Perm.of_eq (List.append_nil _).symm))) (q0 := 0) rfl rfl rfl rfl rfl hl.1 (Nat.le_of_ble_eq_true rfl) dX6_condition_28 ⟨Nat.le_refl _, Nat.le_refl _⟩ (fun r28 u28 H locs h28 hP hD hS => ?_)
      subst h28
      have hP : va_P D vwCl (wR kA qr cc ac co ad rc nm st an svm cnt tx len (thF true true) xf xt xs xa xw xc xk xp pt wr xm mny) H := hP
      have hD : va_D A (wR kA qr cc ac co ad rc nm st an svm cnt tx len (thF true true) xf xt xs xa xw xc xk xp pt wr xm mny) := hD
      show W pQ lQ eQ (headSpec wsX6_condition (rmN 4 91)).room s mQ ([.ref (qr 0), .int k, .int w] : List Value).toArray below meth cQ H locs 0 0 (MQ below (va_Qi (S := (Nat → Option Nat) × (Nat → Nat) × (Nat → Option Nat) × (Nat → Nat) × (Nat → Nat) × (Nat → Nat) × (Nat → Option Nat) × (Nat → Nat) × Nat × (Option Nat) × (Nat → Nat) × Nat) (fun (r : Int32) (u : (Nat → Option Nat) × (Nat → Nat) × (Nat → Option Nat) × (Nat → Nat) × (Nat → Nat) × (Nat → Nat) × (Nat → Option Nat) × (Nat → Nat) × Nat × (Option Nat) × (Nat → Nat) × Nat) => (thCo k w cc = 0 → r = (nI (cvF cc ac co rc st an (k.toNatClampNeg) (w.toNatClampNeg))))) (wr_B D vwCl (wR kA qr cc ac co ad rc nm st an svm cnt tx len th xf xt xs xa xw xc xk xp pt wr xm mny) (tyK kA) s.heap.size (fun u => (wR kA qr cc ac co ad rc nm st an svm cnt tx len (thCo k w cc) u.1 u.2.1 u.2.2.1 u.2.2.2.1 u.2.2.2.2.1 u.2.2.2.2.2.1 u.2.2.2.2.2.2.1 u.2.2.2.2.2.2.2.1 u.2.2.2.2.2.2.2.2.1 u.2.2.2.2.2.2.2.2.2.1 u.2.2.2.2.2.2.2.2.2.2.1 u.2.2.2.2.2.2.2.2.2.2.2))) A) ([.ref (qr 0), .int k, .int w] : List Value).toArray s 0 0 A) (F0 mQ 31 ls [.int (bI true)])
      refine lv_if_eq (tgt := 36) hx hb dX6_condition_31 (by decide) (fun h => absurd h (by decide)) (fun _ => ?_)
      refine lv_iconst (v := (nI 0)) hx hb dX6_condition_34 (by decide) ?_
      have hth : thCo k w cc = (thF true true) := (by first | (unfold thCo; rw [c6, c20]; first | done | rfl) | (unfold thCo; rw [c6]; first | done | rfl))
      have hw9 : (wR kA qr cc ac co ad rc nm st an svm cnt tx len (thF true true) xf xt xs xa xw xc xk xp pt wr xm mny) = (wR kA qr cc ac co ad rc nm st an svm cnt tx len (thCo k w cc) xf xt xs xa xw xc xk xp pt wr xm mny) := (by rw [hth]; first | done | rfl)
      rw [hw9] at hP hD
      exact n_wreti hx hb hr hlocks (post := fun (r : Int32) (u : (Nat → Option Nat) × (Nat → Nat) × (Nat → Option Nat) × (Nat → Nat) × (Nat → Nat) × (Nat → Nat) × (Nat → Option Nat) × (Nat → Nat) × Nat × (Option Nat) × (Nat → Nat) × Nat) => (thCo k w cc = 0 → r = (nI (cvF cc ac co rc st an (k.toNatClampNeg) (w.toNatClampNeg))))) (w1 := fun u => (wR kA qr cc ac co ad rc nm st an svm cnt tx len (thCo k w cc) u.1 u.2.1 u.2.2.1 u.2.2.2.1 u.2.2.2.2.1 u.2.2.2.2.2.1 u.2.2.2.2.2.2.1 u.2.2.2.2.2.2.2.1 u.2.2.2.2.2.2.2.2.1 u.2.2.2.2.2.2.2.2.2.1 u.2.2.2.2.2.2.2.2.2.2.1 u.2.2.2.2.2.2.2.2.2.2.2)) (xf, xt, xs, xa, xw, xc, xk, xp, pt, wr, xm, mny) (by first | exact (fun h => absurd (h.symm.trans hth) (by decide)) | exact (fun _ => rfl)) hP hD hK hS hAe dX6_condition_35

set_option maxHeartbeats 4000000 in
set_option maxRecDepth 100000 in
theorem c_X6_row (lQ : Launch) (D : va_G) (kA : Nat → ClassId) (qr : Nat → Nat) (cc : Nat) (ac : Nat → Nat) (co : Nat → Nat) (ad : Nat) (rc : Nat) (nm : Nat → Nat) (st : Nat → Nat) (an : Nat → Nat) (svm : Nat → TCt) (cnt : Nat) (tx : Nat → Nat) (len : Nat) (th : Nat) (xf : Nat → Option Nat) (xt : Nat → Nat) (xs : Nat → Option Nat) (xa : Nat → Nat) (xw : Nat → Nat) (xc : Nat → Nat) (xk : Nat → Option Nat) (xp : Nat → Nat) (pt : Nat) (wr : Option Nat) (xm : Nat → Nat) (mny : Nat) (row : Int32) (w : Int32) (sz : Nat) (hti : tIn cc ac co rc st an) : Met lQ yX6_row wsX6_row (rmN 4 91) (wr_Pc D vwCl [.ref (qr 0), .int row, .int w] (wR kA qr cc ac co ad rc nm st an svm cnt tx len th xf xt xs xa xw xc xk xp pt wr xm mny) (tyK kA) sz) (va_Qi (S := (Nat → Option Nat) × (Nat → Nat) × (Nat → Option Nat) × (Nat → Nat) × (Nat → Nat) × (Nat → Nat) × (Nat → Option Nat) × (Nat → Nat) × Nat × (Option Nat) × (Nat → Nat) × Nat) (fun (r : Int32) (u : (Nat → Option Nat) × (Nat → Nat) × (Nat → Option Nat) × (Nat → Nat) × (Nat → Nat) × (Nat → Nat) × (Nat → Option Nat) × (Nat → Nat) × Nat × (Option Nat) × (Nat → Nat) × Nat) => (thRo row w rc nm = 0 → r = (nI (rvF cc ac rc st an (plc nm row rc) (w.toNatClampNeg))))) (wr_B D vwCl (wR kA qr cc ac co ad rc nm st an svm cnt tx len th xf xt xs xa xw xc xk xp pt wr xm mny) (tyK kA) sz (fun u => (wR kA qr cc ac co ad rc nm st an svm cnt tx len (thRo row w rc nm) u.1 u.2.1 u.2.2.1 u.2.2.2.1 u.2.2.2.2.1 u.2.2.2.2.2.1 u.2.2.2.2.2.2.1 u.2.2.2.2.2.2.2.1 u.2.2.2.2.2.2.2.2.1 u.2.2.2.2.2.2.2.2.2.1 u.2.2.2.2.2.2.2.2.2.2.1 u.2.2.2.2.2.2.2.2.2.2.2))) (va_A (wR kA qr cc ac co ad rc nm st an svm cnt tx len th xf xt xs xa xw xc xk xp pt wr xm mny) sz)) 0 0 (va_A (wR kA qr cc ac co ad rc nm st an svm cnt tx len th xf xt xs xa xw xc xk xp pt wr xm mny) sz) := by
  refine Met.ofW (cc := cX6_row) (maxL := 4) (ret := (some .int)) (by decide) rfl ?_
  intro pQ eQ s mQ args below meth cQ s₁ B hml hv
  obtain ⟨rfl, hsz, hP, hK, hD0⟩ := hv
  have hx := B.exec
  have hb := B.bytes
  have hr := B.returns
  have hts := atoms_spec (ws := wsX6_row) B.pre
  have hown : s.vm.findClass RX6 = some mQ.cls := findClass_of_methodNamed B.named
  have hlocks : meth.locks = false := B.notSynchronized
  have hS0 : CallFix pQ mQ cQ cX6_row 4 s ([.ref (qr 0), .int row, .int w] : List Value).toArray wsX6_row RX6 := ⟨hx, hb, hml, hown, hts⟩
  subst hsz
  have hD := hD0.self (sz := s.heap.size)
  generalize hAe : va_A (wR kA qr cc ac co ad rc nm st an svm cnt tx len th xf xt xs xa xw xc xk xp pt wr xm mny) s.heap.size = A at hD ⊢
  have hA : ∀ q : Nat, s.heap.size ≤ q → A q := fun q h => by rw [← hAe]; exact Or.inr h
  have hS : va_S A s.heap s.heap [] := va_S.rf
  skip
  have hl := lv_entry ([.ref (qr 0), .int row, .int w]) (n := 4) (Nat.le_of_ble_eq_true rfl)
  rw [lg_entry_eq]
  generalize (lg_sl ([.ref (qr 0), .int row, .int w]) ++ List.replicate (4 - (lg_sl ([.ref (qr 0), .int row, .int w])).length) Slot.unset).toArray = ls at hl ⊢
  have hl : lv_has ls 4 [(0, .ref (qr 0)), (1, .int row), (2, .int w)] := hl
  have hP : va_P D vwCl (wR kA qr cc ac co ad rc nm st an svm cnt tx len th xf xt xs xa xw xc xk xp pt wr xm mny) s.heap := hP
  have hD : va_D A (wR kA qr cc ac co ad rc nm st an svm cnt tx len th xf xt xs xa xw xc xk xp pt wr xm mny) := hD
  obtain ⟨hcc, hac, hco1, hrc, han10, hst⟩ := hti
  have han : ∀ j, j < rc → an j < 11 := fun j hj => Nat.lt_succ_of_lt (han10 j hj)
  have hco : ∀ k, k < cc → co k < 10 := fun k hk => (hco1 k hk).2
  have hP10 := prodF_1024 hcc hac
  refine lv_aload_n hx hb dX6_row_0 rfl (lv_at hl 0 rfl) ?_
  refine lv_iload_n hx hb dX6_row_1 rfl (lv_at hl 1 rfl) ?_
  refine n_cV (b := qr 0) (As := [.int row]) (rest := []) (wc := (wR kA qr cc ac co ad rc nm st an svm cnt tx len th xf xt xs xa xw xc xk xp pt wr xm mny)) hS0 (c_X6_placeOf lQ D kA qr cc ac co ad rc nm st an svm cnt tx len th xf xt xs xa xw xc xk xp pt wr xm mny row (by first | assumption | omega)) (cwV 1 hts gX6_row_X6_placeOf rfl rfl rfl (by decide +kernel) ⟨Nat.le_of_ble_eq_true rfl, Nat.le_of_ble_eq_true rfl⟩) hP hK (q0 := 0) rfl rfl rfl rfl rfl hl.1 (Nat.le_of_ble_eq_true rfl) dX6_row_2 ⟨Nat.le_refl _, Nat.le_refl _⟩ (fun r2 h2 => ?_)
  subst h2
  refine lv_istore_n (lv' := [(3, .int (oI (placeF nm row rc))), (0, .ref (qr 0)), (1, .int row), (2, .int w)]) hx hb dX6_row_5 rfl hl (by decide) rfl (fun ls hl => ?_)
  refine lv_aload_n hx hb dX6_row_6 rfl (lv_at hl 1 rfl) ?_
  refine lv_iload_n hx hb dX6_row_7 rfl (lv_at hl 0 rfl) ?_
  refine lv_iconst (v := (oI none)) hx hb dX6_row_8 (by decide) ?_
  refine n_icmpo_ne (o := placeF nm row rc) (tgt := 16) hx hb (fun q h => by have := placeF_lt h; omega) dX6_row_9 (by decide) (fun q9 c9 => ?_) (fun c9 => ?_)
  · have hl : lv_has ls 4 [(3, .int (nI q9)), (0, .ref (qr 0)), (1, .int row), (2, .int w)] := by rw [c9] at hl; exact hl
    have hpl : plc nm row rc = q9 := by unfold plc; rw [c9]; rfl
    have hq9 := placeF_lt c9
    have hsq9 := hst _ hq9
    refine lv_iconst (v := (nI 0)) hx hb dX6_row_16 (by decide) ?_
    refine lv_iload_n hx hb dX6_row_17 rfl (lv_at hl 3 rfl) ?_
    refine lv_iconst (v := (nI 0)) hx hb dX6_row_18 (by decide) ?_
    refine lv_iconst (v := (nI 5)) hx hb dX6_row_19 (by decide) ?_
    refine n_cS (As := [.int w, .int (nI 0), .int (nI 5)]) (rest := [.int (nI 0), .ref (qr 0)]) (wc := []) hS0 (c_X6_in lQ D kA w (nI 0) (nI 5) ) (va_cwS 3 hts gX6_row_X6_in rfl rfl rfl (by decide +kernel) ⟨Nat.le_of_ble_eq_true rfl, Nat.le_of_ble_eq_true rfl⟩) (hP.mem (ws' := []) (fun qQ h => absurd h List.not_mem_nil)) hK rfl rfl hl.1 (Nat.le_of_ble_eq_true rfl) dX6_row_20 ⟨Nat.le_refl _, Nat.le_refl _⟩ (fun r20 h20 => ?_)
    subst h20
    refine n_ifb_ne (b := inI w (nI 0) (nI 5)) (tgt := 30) hx hb dX6_row_23 (by decide) (fun c23 => ?_) (fun c23 => ?_)
    · rw [inI_6] at c23
      refine lv_iconst (v := (nI 0)) hx hb dX6_row_30 (by decide) ?_
      refine n_wVi (b := qr 0) (As := [.int (bI false), .int (bI false)]) (rest := []) (wr := []) (ws' := fun u => (wR kA qr cc ac co ad rc nm st an svm cnt tx len (thF false false) xf xt xs xa xw xc xk xp pt wr xm mny)) hS0 (c_X6_throwing lQ D kA qr cc ac co ad rc nm st an svm cnt tx len th xf xt xs xa xw xc xk xp pt wr xm mny false false s.heap.size ) (cwV 2 hts gX6_row_X6_throwing rfl rfl rfl (by decide +kernel) ⟨Nat.le_of_ble_eq_true rfl, Nat.le_of_ble_eq_true rfl⟩) hP hD hS hA hK hK (by simpa only [List.append_assoc, List.append_nil] using (List.Perm.of_eq (List.append_nil _).symm)) (fun u => List.Perm.symm (by simpa only [List.append_assoc, List.append_nil] using (List.Perm.of_eq (List.append_nil _).symm))) (q0 := 0) rfl rfl rfl rfl rfl hl.1 (Nat.le_of_ble_eq_true rfl) dX6_row_31 ⟨Nat.le_refl _, Nat.le_refl _⟩ (fun r31 u31 H locs h31 hP hD hS => ?_)
      subst h31
      have hP : va_P D vwCl (wR kA qr cc ac co ad rc nm st an svm cnt tx len (thF false false) xf xt xs xa xw xc xk xp pt wr xm mny) H := hP
      have hD : va_D A (wR kA qr cc ac co ad rc nm st an svm cnt tx len (thF false false) xf xt xs xa xw xc xk xp pt wr xm mny) := hD
      show W pQ lQ eQ (headSpec wsX6_row (rmN 4 91)).room s mQ ([.ref (qr 0), .int row, .int w] : List Value).toArray below meth cQ H locs 0 0 (MQ below (va_Qi (S := (Nat → Option Nat) × (Nat → Nat) × (Nat → Option Nat) × (Nat → Nat) × (Nat → Nat) × (Nat → Nat) × (Nat → Option Nat) × (Nat → Nat) × Nat × (Option Nat) × (Nat → Nat) × Nat) (fun (r : Int32) (u : (Nat → Option Nat) × (Nat → Nat) × (Nat → Option Nat) × (Nat → Nat) × (Nat → Nat) × (Nat → Nat) × (Nat → Option Nat) × (Nat → Nat) × Nat × (Option Nat) × (Nat → Nat) × Nat) => (thRo row w rc nm = 0 → r = (nI (rvF cc ac rc st an (plc nm row rc) (w.toNatClampNeg))))) (wr_B D vwCl (wR kA qr cc ac co ad rc nm st an svm cnt tx len th xf xt xs xa xw xc xk xp pt wr xm mny) (tyK kA) s.heap.size (fun u => (wR kA qr cc ac co ad rc nm st an svm cnt tx len (thRo row w rc nm) u.1 u.2.1 u.2.2.1 u.2.2.2.1 u.2.2.2.2.1 u.2.2.2.2.2.1 u.2.2.2.2.2.2.1 u.2.2.2.2.2.2.2.1 u.2.2.2.2.2.2.2.2.1 u.2.2.2.2.2.2.2.2.2.1 u.2.2.2.2.2.2.2.2.2.2.1 u.2.2.2.2.2.2.2.2.2.2.2))) A) ([.ref (qr 0), .int row, .int w] : List Value).toArray s 0 0 A) (F0 mQ 34 ls [.int (bI false)])
      refine lv_if_eq (tgt := 39) hx hb dX6_row_34 (by decide) (fun _ => ?_) (fun h => absurd (by decide) h)
      obtain ⟨hw1, hw2⟩ := inB_c (by decide) c23
      have hl : lv_has ls 4 [(3, .int (nI q9)), (0, .ref (qr 0)), (1, .int row), (2, .int (nI w.toNatClampNeg))] := by rw [← hw1]; exact hl
      refine lv_aload_n hx hb dX6_row_39 rfl (lv_at hl 1 rfl) ?_
      refine lv_iconst (v := (oI none)) hx hb dX6_row_40 (by decide) ?_
      refine n_wVv (b := qr 0) (As := [.int (oI none)]) (rest := []) (wr := []) (ws' := fun u => (wR kA qr cc ac co ad rc nm st an svm cnt tx len (thF false false) u.1 u.2.1 u.2.2.1 u.2.2.2 xw xc xk xp pt wr xm mny)) hS0 (c_X6_lays lQ D kA qr cc ac co ad rc nm st an svm cnt tx len (thF false false) xf xt xs xa xw xc xk xp pt wr xm mny H.size (by first | assumption | omega) (by first | assumption | omega) (by first | assumption | omega) (by first | assumption | omega) (by first | assumption | omega)) (cwV 1 hts gX6_row_X6_lays rfl rfl rfl (by decide +kernel) ⟨Nat.le_of_ble_eq_true rfl, Nat.le_of_ble_eq_true rfl⟩) hP hD hS hA hK hK (by simpa only [List.append_assoc, List.append_nil] using (List.Perm.of_eq (List.append_nil _).symm)) (fun u => List.Perm.symm (by simpa only [List.append_assoc, List.append_nil] using (List.Perm.of_eq (List.append_nil _).symm))) (q0 := 0) rfl rfl rfl rfl rfl hl.1 (Nat.le_of_ble_eq_true rfl) dX6_row_41 ⟨Nat.le_refl _, Nat.le_refl _⟩ (fun u41 H locs h41 hP hD hS => ?_)
      obtain ⟨xf1_41, xt1_41, xs1_41, xa1_41⟩ := u41
      have h41_1 := h41
      try dsimp only at h41_1
      have hP : va_P D vwCl (wR kA qr cc ac co ad rc nm st an svm cnt tx len (thF false false) xf1_41 xt1_41 xs1_41 xa1_41 xw xc xk xp pt wr xm mny) H := hP
      have hD : va_D A (wR kA qr cc ac co ad rc nm st an svm cnt tx len (thF false false) xf1_41 xt1_41 xs1_41 xa1_41 xw xc xk xp pt wr xm mny) := hD
      refine lv_aload_n hx hb dX6_row_44 rfl (lv_at hl 1 rfl) ?_
      refine lv_iload_n hx hb dX6_row_45 rfl (lv_at hl 0 rfl) ?_
      refine lv_iload_n hx hb dX6_row_46 rfl (lv_at hl 3 rfl) ?_
      refine n_cV (b := qr 0) (As := [.int (nI q9), .int (nI w.toNatClampNeg)]) (rest := []) (wc := (wR kA qr cc ac co ad rc nm st an svm cnt tx len (thF false false) xf1_41 xt1_41 xs1_41 xa1_41 xw xc xk xp pt wr xm mny)) hS0 (c_X6_rowOf lQ D kA qr cc ac co ad rc nm st an svm cnt tx len (thF false false) xf1_41 xt1_41 xs1_41 xa1_41 xw xc xk xp pt wr xm mny q9 w.toNatClampNeg (by first | assumption | omega) (by first | assumption | omega) (by first | assumption | omega) (by first | assumption | omega) (by first | assumption | omega) h41_1 (by first | assumption | omega) (by first | assumption | omega)) (cwV 2 hts gX6_row_X6_rowOf rfl rfl rfl (by decide +kernel) ⟨Nat.le_of_ble_eq_true rfl, Nat.le_of_ble_eq_true rfl⟩) hP hK (q0 := 0) rfl rfl rfl rfl rfl hl.1 (Nat.le_of_ble_eq_true rfl) dX6_row_47 ⟨Nat.le_refl _, Nat.le_refl _⟩ (fun r47 h47 => ?_)
      subst h47
      have hth : thRo row w rc nm = (thF false false) := (by first | (unfold thRo; rw [c9]; show cond (inB w 6) _ _ = _; rw [c23]; first | done | rfl) | (unfold thRo; rw [c9]; first | done | rfl))
      have hw9 : (wR kA qr cc ac co ad rc nm st an svm cnt tx len (thF false false) xf1_41 xt1_41 xs1_41 xa1_41 xw xc xk xp pt wr xm mny) = (wR kA qr cc ac co ad rc nm st an svm cnt tx len (thRo row w rc nm) xf1_41 xt1_41 xs1_41 xa1_41 xw xc xk xp pt wr xm mny) := (by rw [hth]; first | done | rfl)
      rw [hw9] at hP hD
      exact n_wreti hx hb hr hlocks (post := fun (r : Int32) (u : (Nat → Option Nat) × (Nat → Nat) × (Nat → Option Nat) × (Nat → Nat) × (Nat → Nat) × (Nat → Nat) × (Nat → Option Nat) × (Nat → Nat) × Nat × (Option Nat) × (Nat → Nat) × Nat) => (thRo row w rc nm = 0 → r = (nI (rvF cc ac rc st an (plc nm row rc) (w.toNatClampNeg))))) (w1 := fun u => (wR kA qr cc ac co ad rc nm st an svm cnt tx len (thRo row w rc nm) u.1 u.2.1 u.2.2.1 u.2.2.2.1 u.2.2.2.2.1 u.2.2.2.2.2.1 u.2.2.2.2.2.2.1 u.2.2.2.2.2.2.2.1 u.2.2.2.2.2.2.2.2.1 u.2.2.2.2.2.2.2.2.2.1 u.2.2.2.2.2.2.2.2.2.2.1 u.2.2.2.2.2.2.2.2.2.2.2)) (xf1_41, xt1_41, xs1_41, xa1_41, xw, xc, xk, xp, pt, wr, xm, mny) (by first | exact (fun h => absurd (h.symm.trans hth) (by decide)) | exact (fun _ => (by rw [hpl]))) hP hD hK hS hAe dX6_row_50
    · rw [inI_6] at c23
      refine lv_iconst (v := (nI 1)) hx hb dX6_row_26 (by decide) ?_
      refine lv_goto (tgt := 31) hx hb dX6_row_27 (by decide) ?_
      refine n_wVi (b := qr 0) (As := [.int (bI false), .int (bI true)]) (rest := []) (wr := []) (ws' := fun u => (wR kA qr cc ac co ad rc nm st an svm cnt tx len (thF false true) xf xt xs xa xw xc xk xp pt wr xm mny)) hS0 (c_X6_throwing lQ D kA qr cc ac co ad rc nm st an svm cnt tx len th xf xt xs xa xw xc xk xp pt wr xm mny false true s.heap.size ) (cwV 2 hts gX6_row_X6_throwing rfl rfl rfl (by decide +kernel) ⟨Nat.le_of_ble_eq_true rfl, Nat.le_of_ble_eq_true rfl⟩) hP hD hS hA hK hK (by simpa only [List.append_assoc, List.append_nil] using (List.Perm.of_eq (List.append_nil _).symm)) (fun u => List.Perm.symm (by simpa only [List.append_assoc, List.append_nil] using (List.Perm.of_eq (List.append_nil _).symm))) (q0 := 0) rfl rfl rfl rfl rfl hl.1 (Nat.le_of_ble_eq_true rfl) dX6_row_31 ⟨Nat.le_refl _, Nat.le_refl _⟩ (fun r31 u31 H locs h31 hP hD hS => ?_)
      subst h31
      have hP : va_P D vwCl (wR kA qr cc ac co ad rc nm st an svm cnt tx len (thF false true) xf xt xs xa xw xc xk xp pt wr xm mny) H := hP
      have hD : va_D A (wR kA qr cc ac co ad rc nm st an svm cnt tx len (thF false true) xf xt xs xa xw xc xk xp pt wr xm mny) := hD
      show W pQ lQ eQ (headSpec wsX6_row (rmN 4 91)).room s mQ ([.ref (qr 0), .int row, .int w] : List Value).toArray below meth cQ H locs 0 0 (MQ below (va_Qi (S := (Nat → Option Nat) × (Nat → Nat) × (Nat → Option Nat) × (Nat → Nat) × (Nat → Nat) × (Nat → Nat) × (Nat → Option Nat) × (Nat → Nat) × Nat × (Option Nat) × (Nat → Nat) × Nat) (fun (r : Int32) (u : (Nat → Option Nat) × (Nat → Nat) × (Nat → Option Nat) × (Nat → Nat) × (Nat → Nat) × (Nat → Nat) × (Nat → Option Nat) × (Nat → Nat) × Nat × (Option Nat) × (Nat → Nat) × Nat) => (thRo row w rc nm = 0 → r = (nI (rvF cc ac rc st an (plc nm row rc) (w.toNatClampNeg))))) (wr_B D vwCl (wR kA qr cc ac co ad rc nm st an svm cnt tx len th xf xt xs xa xw xc xk xp pt wr xm mny) (tyK kA) s.heap.size (fun u => (wR kA qr cc ac co ad rc nm st an svm cnt tx len (thRo row w rc nm) u.1 u.2.1 u.2.2.1 u.2.2.2.1 u.2.2.2.2.1 u.2.2.2.2.2.1 u.2.2.2.2.2.2.1 u.2.2.2.2.2.2.2.1 u.2.2.2.2.2.2.2.2.1 u.2.2.2.2.2.2.2.2.2.1 u.2.2.2.2.2.2.2.2.2.2.1 u.2.2.2.2.2.2.2.2.2.2.2))) A) ([.ref (qr 0), .int row, .int w] : List Value).toArray s 0 0 A) (F0 mQ 34 ls [.int (bI true)])
      refine lv_if_eq (tgt := 39) hx hb dX6_row_34 (by decide) (fun h => absurd h (by decide)) (fun _ => ?_)
      refine lv_iconst (v := (nI 0)) hx hb dX6_row_37 (by decide) ?_
      have hth : thRo row w rc nm = (thF false true) := (by first | (unfold thRo; rw [c9]; show cond (inB w 6) _ _ = _; rw [c23]; first | done | rfl) | (unfold thRo; rw [c9]; first | done | rfl))
      have hw9 : (wR kA qr cc ac co ad rc nm st an svm cnt tx len (thF false true) xf xt xs xa xw xc xk xp pt wr xm mny) = (wR kA qr cc ac co ad rc nm st an svm cnt tx len (thRo row w rc nm) xf xt xs xa xw xc xk xp pt wr xm mny) := (by rw [hth]; first | done | rfl)
      rw [hw9] at hP hD
      exact n_wreti hx hb hr hlocks (post := fun (r : Int32) (u : (Nat → Option Nat) × (Nat → Nat) × (Nat → Option Nat) × (Nat → Nat) × (Nat → Nat) × (Nat → Nat) × (Nat → Option Nat) × (Nat → Nat) × Nat × (Option Nat) × (Nat → Nat) × Nat) => (thRo row w rc nm = 0 → r = (nI (rvF cc ac rc st an (plc nm row rc) (w.toNatClampNeg))))) (w1 := fun u => (wR kA qr cc ac co ad rc nm st an svm cnt tx len (thRo row w rc nm) u.1 u.2.1 u.2.2.1 u.2.2.2.1 u.2.2.2.2.1 u.2.2.2.2.2.1 u.2.2.2.2.2.2.1 u.2.2.2.2.2.2.2.1 u.2.2.2.2.2.2.2.2.1 u.2.2.2.2.2.2.2.2.2.1 u.2.2.2.2.2.2.2.2.2.2.1 u.2.2.2.2.2.2.2.2.2.2.2)) (xf, xt, xs, xa, xw, xc, xk, xp, pt, wr, xm, mny) (by first | exact (fun h => absurd (h.symm.trans hth) (by decide)) | exact (fun _ => (by rw [hpl]))) hP hD hK hS hAe dX6_row_38
  · have hl : lv_has ls 4 [(3, .int (oI none)), (0, .ref (qr 0)), (1, .int row), (2, .int w)] := by rw [c9] at hl; exact hl
    refine lv_iconst (v := (nI 1)) hx hb dX6_row_12 (by decide) ?_
    refine lv_goto (tgt := 17) hx hb dX6_row_13 (by decide) ?_
    refine lv_iload_n hx hb dX6_row_17 rfl (lv_at hl 3 rfl) ?_
    refine lv_iconst (v := (nI 0)) hx hb dX6_row_18 (by decide) ?_
    refine lv_iconst (v := (nI 5)) hx hb dX6_row_19 (by decide) ?_
    refine n_cS (As := [.int w, .int (nI 0), .int (nI 5)]) (rest := [.int (nI 1), .ref (qr 0)]) (wc := []) hS0 (c_X6_in lQ D kA w (nI 0) (nI 5) ) (va_cwS 3 hts gX6_row_X6_in rfl rfl rfl (by decide +kernel) ⟨Nat.le_of_ble_eq_true rfl, Nat.le_of_ble_eq_true rfl⟩) (hP.mem (ws' := []) (fun qQ h => absurd h List.not_mem_nil)) hK rfl rfl hl.1 (Nat.le_of_ble_eq_true rfl) dX6_row_20 ⟨Nat.le_refl _, Nat.le_refl _⟩ (fun r20 h20 => ?_)
    subst h20
    refine n_ifb_ne (b := inI w (nI 0) (nI 5)) (tgt := 30) hx hb dX6_row_23 (by decide) (fun c23 => ?_) (fun c23 => ?_)
    · rw [inI_6] at c23
      refine lv_iconst (v := (nI 0)) hx hb dX6_row_30 (by decide) ?_
      refine n_wVi (b := qr 0) (As := [.int (bI true), .int (bI false)]) (rest := []) (wr := []) (ws' := fun u => (wR kA qr cc ac co ad rc nm st an svm cnt tx len (thF true false) xf xt xs xa xw xc xk xp pt wr xm mny)) hS0 (c_X6_throwing lQ D kA qr cc ac co ad rc nm st an svm cnt tx len th xf xt xs xa xw xc xk xp pt wr xm mny true false s.heap.size ) (cwV 2 hts gX6_row_X6_throwing rfl rfl rfl (by decide +kernel) ⟨Nat.le_of_ble_eq_true rfl, Nat.le_of_ble_eq_true rfl⟩) hP hD hS hA hK hK (by simpa only [List.append_assoc, List.append_nil] using (List.Perm.of_eq (List.append_nil _).symm)) (fun u => List.Perm.symm (by simpa only [List.append_assoc, List.append_nil] using (List.Perm.of_eq (List.append_nil _).symm))) (q0 := 0) rfl rfl rfl rfl rfl hl.1 (Nat.le_of_ble_eq_true rfl) dX6_row_31 ⟨Nat.le_refl _, Nat.le_refl _⟩ (fun r31 u31 H locs h31 hP hD hS => ?_)
      subst h31
      have hP : va_P D vwCl (wR kA qr cc ac co ad rc nm st an svm cnt tx len (thF true false) xf xt xs xa xw xc xk xp pt wr xm mny) H := hP
      have hD : va_D A (wR kA qr cc ac co ad rc nm st an svm cnt tx len (thF true false) xf xt xs xa xw xc xk xp pt wr xm mny) := hD
      show W pQ lQ eQ (headSpec wsX6_row (rmN 4 91)).room s mQ ([.ref (qr 0), .int row, .int w] : List Value).toArray below meth cQ H locs 0 0 (MQ below (va_Qi (S := (Nat → Option Nat) × (Nat → Nat) × (Nat → Option Nat) × (Nat → Nat) × (Nat → Nat) × (Nat → Nat) × (Nat → Option Nat) × (Nat → Nat) × Nat × (Option Nat) × (Nat → Nat) × Nat) (fun (r : Int32) (u : (Nat → Option Nat) × (Nat → Nat) × (Nat → Option Nat) × (Nat → Nat) × (Nat → Nat) × (Nat → Nat) × (Nat → Option Nat) × (Nat → Nat) × Nat × (Option Nat) × (Nat → Nat) × Nat) => (thRo row w rc nm = 0 → r = (nI (rvF cc ac rc st an (plc nm row rc) (w.toNatClampNeg))))) (wr_B D vwCl (wR kA qr cc ac co ad rc nm st an svm cnt tx len th xf xt xs xa xw xc xk xp pt wr xm mny) (tyK kA) s.heap.size (fun u => (wR kA qr cc ac co ad rc nm st an svm cnt tx len (thRo row w rc nm) u.1 u.2.1 u.2.2.1 u.2.2.2.1 u.2.2.2.2.1 u.2.2.2.2.2.1 u.2.2.2.2.2.2.1 u.2.2.2.2.2.2.2.1 u.2.2.2.2.2.2.2.2.1 u.2.2.2.2.2.2.2.2.2.1 u.2.2.2.2.2.2.2.2.2.2.1 u.2.2.2.2.2.2.2.2.2.2.2))) A) ([.ref (qr 0), .int row, .int w] : List Value).toArray s 0 0 A) (F0 mQ 34 ls [.int (bI true)])
      refine lv_if_eq (tgt := 39) hx hb dX6_row_34 (by decide) (fun h => absurd h (by decide)) (fun _ => ?_)
      refine lv_iconst (v := (nI 0)) hx hb dX6_row_37 (by decide) ?_
      have hth : thRo row w rc nm = (thF true false) := (by first | (unfold thRo; rw [c9]; show cond (inB w 6) _ _ = _; rw [c23]; first | done | rfl) | (unfold thRo; rw [c9]; first | done | rfl))
      have hw9 : (wR kA qr cc ac co ad rc nm st an svm cnt tx len (thF true false) xf xt xs xa xw xc xk xp pt wr xm mny) = (wR kA qr cc ac co ad rc nm st an svm cnt tx len (thRo row w rc nm) xf xt xs xa xw xc xk xp pt wr xm mny) := (by rw [hth]; first | done | rfl)
      rw [hw9] at hP hD
      exact n_wreti hx hb hr hlocks (post := fun (r : Int32) (u : (Nat → Option Nat) × (Nat → Nat) × (Nat → Option Nat) × (Nat → Nat) × (Nat → Nat) × (Nat → Nat) × (Nat → Option Nat) × (Nat → Nat) × Nat × (Option Nat) × (Nat → Nat) × Nat) => (thRo row w rc nm = 0 → r = (nI (rvF cc ac rc st an (plc nm row rc) (w.toNatClampNeg))))) (w1 := fun u => (wR kA qr cc ac co ad rc nm st an svm cnt tx len (thRo row w rc nm) u.1 u.2.1 u.2.2.1 u.2.2.2.1 u.2.2.2.2.1 u.2.2.2.2.2.1 u.2.2.2.2.2.2.1 u.2.2.2.2.2.2.2.1 u.2.2.2.2.2.2.2.2.1 u.2.2.2.2.2.2.2.2.2.1 u.2.2.2.2.2.2.2.2.2.2.1 u.2.2.2.2.2.2.2.2.2.2.2)) (xf, xt, xs, xa, xw, xc, xk, xp, pt, wr, xm, mny) (by first | exact (fun h => absurd (h.symm.trans hth) (by decide)) | exact (fun _ => (by rw [hpl]))) hP hD hK hS hAe dX6_row_38
    · rw [inI_6] at c23
      refine lv_iconst (v := (nI 1)) hx hb dX6_row_26 (by decide) ?_
      refine lv_goto (tgt := 31) hx hb dX6_row_27 (by decide) ?_
      refine n_wVi (b := qr 0) (As := [.int (bI true), .int (bI true)]) (rest := []) (wr := []) (ws' := fun u => (wR kA qr cc ac co ad rc nm st an svm cnt tx len (thF true true) xf xt xs xa xw xc xk xp pt wr xm mny)) hS0 (c_X6_throwing lQ D kA qr cc ac co ad rc nm st an svm cnt tx len th xf xt xs xa xw xc xk xp pt wr xm mny true true s.heap.size ) (cwV 2 hts gX6_row_X6_throwing rfl rfl rfl (by decide +kernel) ⟨Nat.le_of_ble_eq_true rfl, Nat.le_of_ble_eq_true rfl⟩) hP hD hS hA hK hK (by simpa only [List.append_assoc, List.append_nil] using (List.Perm.of_eq (List.append_nil _).symm)) (fun u => List.Perm.symm (by simpa only [List.append_assoc, List.append_nil] using (List.Perm.of_eq (List.append_nil _).symm))) (q0 := 0) rfl rfl rfl rfl rfl hl.1 (Nat.le_of_ble_eq_true rfl) dX6_row_31 ⟨Nat.le_refl _, Nat.le_refl _⟩ (fun r31 u31 H locs h31 hP hD hS => ?_)
      subst h31
      have hP : va_P D vwCl (wR kA qr cc ac co ad rc nm st an svm cnt tx len (thF true true) xf xt xs xa xw xc xk xp pt wr xm mny) H := hP
      have hD : va_D A (wR kA qr cc ac co ad rc nm st an svm cnt tx len (thF true true) xf xt xs xa xw xc xk xp pt wr xm mny) := hD
      show W pQ lQ eQ (headSpec wsX6_row (rmN 4 91)).room s mQ ([.ref (qr 0), .int row, .int w] : List Value).toArray below meth cQ H locs 0 0 (MQ below (va_Qi (S := (Nat → Option Nat) × (Nat → Nat) × (Nat → Option Nat) × (Nat → Nat) × (Nat → Nat) × (Nat → Nat) × (Nat → Option Nat) × (Nat → Nat) × Nat × (Option Nat) × (Nat → Nat) × Nat) (fun (r : Int32) (u : (Nat → Option Nat) × (Nat → Nat) × (Nat → Option Nat) × (Nat → Nat) × (Nat → Nat) × (Nat → Nat) × (Nat → Option Nat) × (Nat → Nat) × Nat × (Option Nat) × (Nat → Nat) × Nat) => (thRo row w rc nm = 0 → r = (nI (rvF cc ac rc st an (plc nm row rc) (w.toNatClampNeg))))) (wr_B D vwCl (wR kA qr cc ac co ad rc nm st an svm cnt tx len th xf xt xs xa xw xc xk xp pt wr xm mny) (tyK kA) s.heap.size (fun u => (wR kA qr cc ac co ad rc nm st an svm cnt tx len (thRo row w rc nm) u.1 u.2.1 u.2.2.1 u.2.2.2.1 u.2.2.2.2.1 u.2.2.2.2.2.1 u.2.2.2.2.2.2.1 u.2.2.2.2.2.2.2.1 u.2.2.2.2.2.2.2.2.1 u.2.2.2.2.2.2.2.2.2.1 u.2.2.2.2.2.2.2.2.2.2.1 u.2.2.2.2.2.2.2.2.2.2.2))) A) ([.ref (qr 0), .int row, .int w] : List Value).toArray s 0 0 A) (F0 mQ 34 ls [.int (bI true)])
      refine lv_if_eq (tgt := 39) hx hb dX6_row_34 (by decide) (fun h => absurd h (by decide)) (fun _ => ?_)
      refine lv_iconst (v := (nI 0)) hx hb dX6_row_37 (by decide) ?_
      have hth : thRo row w rc nm = (thF true true) := (by first | (unfold thRo; rw [c9]; show cond (inB w 6) _ _ = _; rw [c23]; first | done | rfl) | (unfold thRo; rw [c9]; first | done | rfl))
      have hw9 : (wR kA qr cc ac co ad rc nm st an svm cnt tx len (thF true true) xf xt xs xa xw xc xk xp pt wr xm mny) = (wR kA qr cc ac co ad rc nm st an svm cnt tx len (thRo row w rc nm) xf xt xs xa xw xc xk xp pt wr xm mny) := (by rw [hth]; first | done | rfl)
      rw [hw9] at hP hD
      exact n_wreti hx hb hr hlocks (post := fun (r : Int32) (u : (Nat → Option Nat) × (Nat → Nat) × (Nat → Option Nat) × (Nat → Nat) × (Nat → Nat) × (Nat → Nat) × (Nat → Option Nat) × (Nat → Nat) × Nat × (Option Nat) × (Nat → Nat) × Nat) => (thRo row w rc nm = 0 → r = (nI (rvF cc ac rc st an (plc nm row rc) (w.toNatClampNeg))))) (w1 := fun u => (wR kA qr cc ac co ad rc nm st an svm cnt tx len (thRo row w rc nm) u.1 u.2.1 u.2.2.1 u.2.2.2.1 u.2.2.2.2.1 u.2.2.2.2.2.1 u.2.2.2.2.2.2.1 u.2.2.2.2.2.2.2.1 u.2.2.2.2.2.2.2.2.1 u.2.2.2.2.2.2.2.2.2.1 u.2.2.2.2.2.2.2.2.2.2.1 u.2.2.2.2.2.2.2.2.2.2.2)) (xf, xt, xs, xa, xw, xc, xk, xp, pt, wr, xm, mny) (by first | exact (fun h => absurd (h.symm.trans hth) (by decide)) | exact (fun _ => (by rw [hpl]))) hP hD hK hS hAe dX6_row_38

set_option maxHeartbeats 4000000 in
set_option maxRecDepth 100000 in
theorem c_X6_answers (lQ : Launch) (D : va_G) (kA : Nat → ClassId) (qr : Nat → Nat) (cc : Nat) (ac : Nat → Nat) (co : Nat → Nat) (ad : Nat) (rc : Nat) (nm : Nat → Nat) (st : Nat → Nat) (an : Nat → Nat) (svm : Nat → TCt) (cnt : Nat) (tx : Nat → Nat) (len : Nat) (th : Nat) (xf : Nat → Option Nat) (xt : Nat → Nat) (xs : Nat → Option Nat) (xa : Nat → Nat) (xw : Nat → Nat) (xc : Nat → Nat) (xk : Nat → Option Nat) (xp : Nat → Nat) (pt : Nat) (wr : Option Nat) (xm : Nat → Nat) (mny : Nat) (row : Int32) (k : Int32) (sz : Nat) (hti : tIn cc ac co rc st an) : Met lQ yX6_answers wsX6_answers (rmN 2 43) (wr_Pc D vwCl [.ref (qr 0), .int row, .int k] (wR kA qr cc ac co ad rc nm st an svm cnt tx len th xf xt xs xa xw xc xk xp pt wr xm mny) (tyK kA) sz) (va_Qi (S := (Nat → Option Nat) × (Nat → Nat) × (Nat → Option Nat) × (Nat → Nat) × (Nat → Nat) × (Nat → Nat) × (Nat → Option Nat) × (Nat → Nat) × Nat × (Option Nat) × (Nat → Nat) × Nat) (fun (r : Int32) (u : (Nat → Option Nat) × (Nat → Nat) × (Nat → Option Nat) × (Nat → Nat) × (Nat → Nat) × (Nat → Nat) × (Nat → Option Nat) × (Nat → Nat) × Nat × (Option Nat) × (Nat → Nat) × Nat) => (thAn row k cc rc nm = 0 → r = (nI (nibN (st (plc nm row rc)) (k.toNatClampNeg))))) (wr_B D vwCl (wR kA qr cc ac co ad rc nm st an svm cnt tx len th xf xt xs xa xw xc xk xp pt wr xm mny) (tyK kA) sz (fun u => (wR kA qr cc ac co ad rc nm st an svm cnt tx len (thAn row k cc rc nm) u.1 u.2.1 u.2.2.1 u.2.2.2.1 u.2.2.2.2.1 u.2.2.2.2.2.1 u.2.2.2.2.2.2.1 u.2.2.2.2.2.2.2.1 u.2.2.2.2.2.2.2.2.1 u.2.2.2.2.2.2.2.2.2.1 u.2.2.2.2.2.2.2.2.2.2.1 u.2.2.2.2.2.2.2.2.2.2.2))) (va_A (wR kA qr cc ac co ad rc nm st an svm cnt tx len th xf xt xs xa xw xc xk xp pt wr xm mny) sz)) 0 0 (va_A (wR kA qr cc ac co ad rc nm st an svm cnt tx len th xf xt xs xa xw xc xk xp pt wr xm mny) sz) := by
  refine Met.ofW (cc := cX6_answers) (maxL := 4) (ret := (some .int)) (by decide) rfl ?_
  intro pQ eQ s mQ args below meth cQ s₁ B hml hv
  obtain ⟨rfl, hsz, hP, hK, hD0⟩ := hv
  have hx := B.exec
  have hb := B.bytes
  have hr := B.returns
  have hts := atoms_spec (ws := wsX6_answers) B.pre
  have hown : s.vm.findClass RX6 = some mQ.cls := findClass_of_methodNamed B.named
  have hlocks : meth.locks = false := B.notSynchronized
  have hS0 : CallFix pQ mQ cQ cX6_answers 4 s ([.ref (qr 0), .int row, .int k] : List Value).toArray wsX6_answers RX6 := ⟨hx, hb, hml, hown, hts⟩
  subst hsz
  have hD := hD0.self (sz := s.heap.size)
  generalize hAe : va_A (wR kA qr cc ac co ad rc nm st an svm cnt tx len th xf xt xs xa xw xc xk xp pt wr xm mny) s.heap.size = A at hD ⊢
  have hA : ∀ q : Nat, s.heap.size ≤ q → A q := fun q h => by rw [← hAe]; exact Or.inr h
  have hS : va_S A s.heap s.heap [] := va_S.rf
  skip
  have hl := lv_entry ([.ref (qr 0), .int row, .int k]) (n := 4) (Nat.le_of_ble_eq_true rfl)
  rw [lg_entry_eq]
  generalize (lg_sl ([.ref (qr 0), .int row, .int k]) ++ List.replicate (4 - (lg_sl ([.ref (qr 0), .int row, .int k])).length) Slot.unset).toArray = ls at hl ⊢
  have hl : lv_has ls 4 [(0, .ref (qr 0)), (1, .int row), (2, .int k)] := hl
  have hP : va_P D vwCl (wR kA qr cc ac co ad rc nm st an svm cnt tx len th xf xt xs xa xw xc xk xp pt wr xm mny) s.heap := hP
  have hD : va_D A (wR kA qr cc ac co ad rc nm st an svm cnt tx len th xf xt xs xa xw xc xk xp pt wr xm mny) := hD
  obtain ⟨hcc, hac, hco1, hrc, han10, hst⟩ := hti
  have han : ∀ j, j < rc → an j < 11 := fun j hj => Nat.lt_succ_of_lt (han10 j hj)
  have hco : ∀ k, k < cc → co k < 10 := fun k hk => (hco1 k hk).2
  have hP10 := prodF_1024 hcc hac
  refine lv_aload_n hx hb dX6_answers_0 rfl (lv_at hl 0 rfl) ?_
  refine lv_iload_n hx hb dX6_answers_1 rfl (lv_at hl 1 rfl) ?_
  refine n_cV (b := qr 0) (As := [.int row]) (rest := []) (wc := (wR kA qr cc ac co ad rc nm st an svm cnt tx len th xf xt xs xa xw xc xk xp pt wr xm mny)) hS0 (c_X6_placeOf lQ D kA qr cc ac co ad rc nm st an svm cnt tx len th xf xt xs xa xw xc xk xp pt wr xm mny row (by first | assumption | omega)) (cwV 1 hts gX6_answers_X6_placeOf rfl rfl rfl (by decide +kernel) ⟨Nat.le_of_ble_eq_true rfl, Nat.le_of_ble_eq_true rfl⟩) hP hK (q0 := 0) rfl rfl rfl rfl rfl hl.1 (Nat.le_of_ble_eq_true rfl) dX6_answers_2 ⟨Nat.le_refl _, Nat.le_refl _⟩ (fun r2 h2 => ?_)
  subst h2
  refine lv_istore_n (lv' := [(3, .int (oI (placeF nm row rc))), (0, .ref (qr 0)), (1, .int row), (2, .int k)]) hx hb dX6_answers_5 rfl hl (by decide) rfl (fun ls hl => ?_)
  refine lv_aload_n hx hb dX6_answers_6 rfl (lv_at hl 1 rfl) ?_
  refine lv_iload_n hx hb dX6_answers_7 rfl (lv_at hl 0 rfl) ?_
  refine lv_iconst (v := (oI none)) hx hb dX6_answers_8 (by decide) ?_
  refine n_icmpo_eq (o := placeF nm row rc) (tgt := 20) hx hb (fun q h => by have := placeF_lt h; omega) dX6_answers_9 (by decide) (fun c9 => ?_) (fun q9 c9 => ?_)
  · have hl : lv_has ls 4 [(3, .int (oI none)), (0, .ref (qr 0)), (1, .int row), (2, .int k)] := by rw [c9] at hl; exact hl
    refine lv_iconst (v := (nI 1)) hx hb dX6_answers_20 (by decide) ?_
    refine lv_goto (tgt := 25) hx hb dX6_answers_21 (by decide) ?_
    refine lv_iconst (v := (nI 0)) hx hb dX6_answers_25 (by decide) ?_
    refine n_wVi (b := qr 0) (As := [.int (bI true), .int (bI false)]) (rest := []) (wr := []) (ws' := fun u => (wR kA qr cc ac co ad rc nm st an svm cnt tx len (thF true false) xf xt xs xa xw xc xk xp pt wr xm mny)) hS0 (c_X6_throwing lQ D kA qr cc ac co ad rc nm st an svm cnt tx len th xf xt xs xa xw xc xk xp pt wr xm mny true false s.heap.size ) (cwV 2 hts gX6_answers_X6_throwing rfl rfl rfl (by decide +kernel) ⟨Nat.le_of_ble_eq_true rfl, Nat.le_of_ble_eq_true rfl⟩) hP hD hS hA hK hK (by simpa only [List.append_assoc, List.append_nil] using (List.Perm.of_eq (List.append_nil _).symm)) (fun u => List.Perm.symm (by simpa only [List.append_assoc, List.append_nil] using (List.Perm.of_eq (List.append_nil _).symm))) (q0 := 0) rfl rfl rfl rfl rfl hl.1 (Nat.le_of_ble_eq_true rfl) dX6_answers_26 ⟨Nat.le_refl _, Nat.le_refl _⟩ (fun r26 u26 H locs h26 hP hD hS => ?_)
    subst h26
    have hP : va_P D vwCl (wR kA qr cc ac co ad rc nm st an svm cnt tx len (thF true false) xf xt xs xa xw xc xk xp pt wr xm mny) H := hP
    have hD : va_D A (wR kA qr cc ac co ad rc nm st an svm cnt tx len (thF true false) xf xt xs xa xw xc xk xp pt wr xm mny) := hD
    show W pQ lQ eQ (headSpec wsX6_answers (rmN 2 43)).room s mQ ([.ref (qr 0), .int row, .int k] : List Value).toArray below meth cQ H locs 0 0 (MQ below (va_Qi (S := (Nat → Option Nat) × (Nat → Nat) × (Nat → Option Nat) × (Nat → Nat) × (Nat → Nat) × (Nat → Nat) × (Nat → Option Nat) × (Nat → Nat) × Nat × (Option Nat) × (Nat → Nat) × Nat) (fun (r : Int32) (u : (Nat → Option Nat) × (Nat → Nat) × (Nat → Option Nat) × (Nat → Nat) × (Nat → Nat) × (Nat → Nat) × (Nat → Option Nat) × (Nat → Nat) × Nat × (Option Nat) × (Nat → Nat) × Nat) => (thAn row k cc rc nm = 0 → r = (nI (nibN (st (plc nm row rc)) (k.toNatClampNeg))))) (wr_B D vwCl (wR kA qr cc ac co ad rc nm st an svm cnt tx len th xf xt xs xa xw xc xk xp pt wr xm mny) (tyK kA) s.heap.size (fun u => (wR kA qr cc ac co ad rc nm st an svm cnt tx len (thAn row k cc rc nm) u.1 u.2.1 u.2.2.1 u.2.2.2.1 u.2.2.2.2.1 u.2.2.2.2.2.1 u.2.2.2.2.2.2.1 u.2.2.2.2.2.2.2.1 u.2.2.2.2.2.2.2.2.1 u.2.2.2.2.2.2.2.2.2.1 u.2.2.2.2.2.2.2.2.2.2.1 u.2.2.2.2.2.2.2.2.2.2.2))) A) ([.ref (qr 0), .int row, .int k] : List Value).toArray s 0 0 A) (F0 mQ 29 ls [.int (bI true)])
    refine lv_if_eq (tgt := 36) hx hb dX6_answers_29 (by decide) (fun h => absurd h (by decide)) (fun _ => ?_)
    refine lv_iconst (v := (nI 0)) hx hb dX6_answers_32 (by decide) ?_
    refine lv_goto (tgt := 42) hx hb dX6_answers_33 (by decide) ?_
    have hth : thAn row k cc rc nm = (thF true false) := (by first | (unfold thAn; rw [c9]; show cond (inB k cc) _ _ = _; rw [c17]; first | done | rfl) | (unfold thAn; rw [c9]; first | done | rfl))
    have hw9 : (wR kA qr cc ac co ad rc nm st an svm cnt tx len (thF true false) xf xt xs xa xw xc xk xp pt wr xm mny) = (wR kA qr cc ac co ad rc nm st an svm cnt tx len (thAn row k cc rc nm) xf xt xs xa xw xc xk xp pt wr xm mny) := (by rw [hth]; first | done | rfl)
    rw [hw9] at hP hD
    exact n_wreti hx hb hr hlocks (post := fun (r : Int32) (u : (Nat → Option Nat) × (Nat → Nat) × (Nat → Option Nat) × (Nat → Nat) × (Nat → Nat) × (Nat → Nat) × (Nat → Option Nat) × (Nat → Nat) × Nat × (Option Nat) × (Nat → Nat) × Nat) => (thAn row k cc rc nm = 0 → r = (nI (nibN (st (plc nm row rc)) (k.toNatClampNeg))))) (w1 := fun u => (wR kA qr cc ac co ad rc nm st an svm cnt tx len (thAn row k cc rc nm) u.1 u.2.1 u.2.2.1 u.2.2.2.1 u.2.2.2.2.1 u.2.2.2.2.2.1 u.2.2.2.2.2.2.1 u.2.2.2.2.2.2.2.1 u.2.2.2.2.2.2.2.2.1 u.2.2.2.2.2.2.2.2.2.1 u.2.2.2.2.2.2.2.2.2.2.1 u.2.2.2.2.2.2.2.2.2.2.2)) (xf, xt, xs, xa, xw, xc, xk, xp, pt, wr, xm, mny) (by first | exact (fun h => absurd (h.symm.trans hth) (by decide)) | exact (fun _ => (by rw [hpl]))) hP hD hK hS hAe dX6_answers_42
  · have hl : lv_has ls 4 [(3, .int (nI q9)), (0, .ref (qr 0)), (1, .int row), (2, .int k)] := by rw [c9] at hl; exact hl
    have hpl : plc nm row rc = q9 := by unfold plc; rw [c9]; rfl
    have hq9 := placeF_lt c9
    have hsq9 := hst _ hq9
    refine lv_aload_n hx hb dX6_answers_12 rfl (lv_at hl 1 rfl) ?_
    refine lv_iload_n hx hb dX6_answers_13 rfl (lv_at hl 3 rfl) ?_
    refine n_cV (b := qr 0) (As := [.int k]) (rest := [.ref (qr 0)]) (wc := (wR kA qr cc ac co ad rc nm st an svm cnt tx len th xf xt xs xa xw xc xk xp pt wr xm mny)) hS0 (c_X6_isCondition lQ D kA qr cc ac co ad rc nm st an svm cnt tx len th xf xt xs xa xw xc xk xp pt wr xm mny k (by first | assumption | omega)) (cwV 1 hts gX6_answers_X6_isCondition rfl rfl rfl (by decide +kernel) ⟨Nat.le_of_ble_eq_true rfl, Nat.le_of_ble_eq_true rfl⟩) hP hK (q0 := 0) rfl rfl rfl rfl rfl hl.1 (Nat.le_of_ble_eq_true rfl) dX6_answers_14 ⟨Nat.le_refl _, Nat.le_refl _⟩ (fun r14 h14 => ?_)
    subst h14
    refine n_ifb_ne (b := inB k cc) (tgt := 24) hx hb dX6_answers_17 (by decide) (fun c17 => ?_) (fun c17 => ?_)
    · refine lv_iconst (v := (nI 0)) hx hb dX6_answers_24 (by decide) ?_
      refine lv_iconst (v := (nI 0)) hx hb dX6_answers_25 (by decide) ?_
      refine n_wVi (b := qr 0) (As := [.int (bI false), .int (bI false)]) (rest := []) (wr := []) (ws' := fun u => (wR kA qr cc ac co ad rc nm st an svm cnt tx len (thF false false) xf xt xs xa xw xc xk xp pt wr xm mny)) hS0 (c_X6_throwing lQ D kA qr cc ac co ad rc nm st an svm cnt tx len th xf xt xs xa xw xc xk xp pt wr xm mny false false s.heap.size ) (cwV 2 hts gX6_answers_X6_throwing rfl rfl rfl (by decide +kernel) ⟨Nat.le_of_ble_eq_true rfl, Nat.le_of_ble_eq_true rfl⟩) hP hD hS hA hK hK (by simpa only [List.append_assoc, List.append_nil] using (List.Perm.of_eq (List.append_nil _).symm)) (fun u => List.Perm.symm (by simpa only [List.append_assoc, List.append_nil] using (List.Perm.of_eq (List.append_nil _).symm))) (q0 := 0) rfl rfl rfl rfl rfl hl.1 (Nat.le_of_ble_eq_true rfl) dX6_answers_26 ⟨Nat.le_refl _, Nat.le_refl _⟩ (fun r26 u26 H locs h26 hP hD hS => ?_)
      subst h26
      have hP : va_P D vwCl (wR kA qr cc ac co ad rc nm st an svm cnt tx len (thF false false) xf xt xs xa xw xc xk xp pt wr xm mny) H := hP
      have hD : va_D A (wR kA qr cc ac co ad rc nm st an svm cnt tx len (thF false false) xf xt xs xa xw xc xk xp pt wr xm mny) := hD
      show W pQ lQ eQ (headSpec wsX6_answers (rmN 2 43)).room s mQ ([.ref (qr 0), .int row, .int k] : List Value).toArray below meth cQ H locs 0 0 (MQ below (va_Qi (S := (Nat → Option Nat) × (Nat → Nat) × (Nat → Option Nat) × (Nat → Nat) × (Nat → Nat) × (Nat → Nat) × (Nat → Option Nat) × (Nat → Nat) × Nat × (Option Nat) × (Nat → Nat) × Nat) (fun (r : Int32) (u : (Nat → Option Nat) × (Nat → Nat) × (Nat → Option Nat) × (Nat → Nat) × (Nat → Nat) × (Nat → Nat) × (Nat → Option Nat) × (Nat → Nat) × Nat × (Option Nat) × (Nat → Nat) × Nat) => (thAn row k cc rc nm = 0 → r = (nI (nibN (st (plc nm row rc)) (k.toNatClampNeg))))) (wr_B D vwCl (wR kA qr cc ac co ad rc nm st an svm cnt tx len th xf xt xs xa xw xc xk xp pt wr xm mny) (tyK kA) s.heap.size (fun u => (wR kA qr cc ac co ad rc nm st an svm cnt tx len (thAn row k cc rc nm) u.1 u.2.1 u.2.2.1 u.2.2.2.1 u.2.2.2.2.1 u.2.2.2.2.2.1 u.2.2.2.2.2.2.1 u.2.2.2.2.2.2.2.1 u.2.2.2.2.2.2.2.2.1 u.2.2.2.2.2.2.2.2.2.1 u.2.2.2.2.2.2.2.2.2.2.1 u.2.2.2.2.2.2.2.2.2.2.2))) A) ([.ref (qr 0), .int row, .int k] : List Value).toArray s 0 0 A) (F0 mQ 29 ls [.int (bI false)])
      refine lv_if_eq (tgt := 36) hx hb dX6_answers_29 (by decide) (fun _ => ?_) (fun h => absurd (by decide) h)
      obtain ⟨hk1, hk2⟩ := inB_c (by omega) c17
      have hl : lv_has ls 4 [(3, .int (nI q9)), (0, .ref (qr 0)), (1, .int row), (2, .int (nI k.toNatClampNeg))] := by rw [← hk1]; exact hl
      refine lv_aload_n hx hb dX6_answers_36 rfl (lv_at hl 1 rfl) ?_
      refine lv_iload_n hx hb dX6_answers_37 rfl (lv_at hl 0 rfl) ?_
      refine lv_iload_n hx hb dX6_answers_38 rfl (lv_at hl 3 rfl) ?_
      refine n_cV (b := qr 0) (As := [.int (nI q9), .int (nI k.toNatClampNeg)]) (rest := []) (wc := (wR kA qr cc ac co ad rc nm st an svm cnt tx len (thF false false) xf xt xs xa xw xc xk xp pt wr xm mny)) hS0 (c_X6_setOf lQ D kA qr cc ac co ad rc nm st an svm cnt tx len (thF false false) xf xt xs xa xw xc xk xp pt wr xm mny q9 k.toNatClampNeg (by first | assumption | omega) (by first | assumption | omega) (by first | assumption | omega)) (cwV 2 hts gX6_answers_X6_setOf rfl rfl rfl (by decide +kernel) ⟨Nat.le_of_ble_eq_true rfl, Nat.le_of_ble_eq_true rfl⟩) hP hK (q0 := 0) rfl rfl rfl rfl rfl hl.1 (Nat.le_of_ble_eq_true rfl) dX6_answers_39 ⟨Nat.le_refl _, Nat.le_refl _⟩ (fun r39 h39 => ?_)
      subst h39
      have hth : thAn row k cc rc nm = (thF false false) := (by first | (unfold thAn; rw [c9]; show cond (inB k cc) _ _ = _; rw [c17]; first | done | rfl) | (unfold thAn; rw [c9]; first | done | rfl))
      have hw9 : (wR kA qr cc ac co ad rc nm st an svm cnt tx len (thF false false) xf xt xs xa xw xc xk xp pt wr xm mny) = (wR kA qr cc ac co ad rc nm st an svm cnt tx len (thAn row k cc rc nm) xf xt xs xa xw xc xk xp pt wr xm mny) := (by rw [hth]; first | done | rfl)
      rw [hw9] at hP hD
      exact n_wreti hx hb hr hlocks (post := fun (r : Int32) (u : (Nat → Option Nat) × (Nat → Nat) × (Nat → Option Nat) × (Nat → Nat) × (Nat → Nat) × (Nat → Nat) × (Nat → Option Nat) × (Nat → Nat) × Nat × (Option Nat) × (Nat → Nat) × Nat) => (thAn row k cc rc nm = 0 → r = (nI (nibN (st (plc nm row rc)) (k.toNatClampNeg))))) (w1 := fun u => (wR kA qr cc ac co ad rc nm st an svm cnt tx len (thAn row k cc rc nm) u.1 u.2.1 u.2.2.1 u.2.2.2.1 u.2.2.2.2.1 u.2.2.2.2.2.1 u.2.2.2.2.2.2.1 u.2.2.2.2.2.2.2.1 u.2.2.2.2.2.2.2.2.1 u.2.2.2.2.2.2.2.2.2.1 u.2.2.2.2.2.2.2.2.2.2.1 u.2.2.2.2.2.2.2.2.2.2.2)) (xf, xt, xs, xa, xw, xc, xk, xp, pt, wr, xm, mny) (by first | exact (fun h => absurd (h.symm.trans hth) (by decide)) | exact (fun _ => (by rw [hpl]))) hP hD hK hS hAe dX6_answers_42
    · refine lv_iconst (v := (nI 1)) hx hb dX6_answers_20 (by decide) ?_
      refine lv_goto (tgt := 25) hx hb dX6_answers_21 (by decide) ?_
      refine lv_iconst (v := (nI 0)) hx hb dX6_answers_25 (by decide) ?_
      refine n_wVi (b := qr 0) (As := [.int (bI true), .int (bI false)]) (rest := []) (wr := []) (ws' := fun u => (wR kA qr cc ac co ad rc nm st an svm cnt tx len (thF true false) xf xt xs xa xw xc xk xp pt wr xm mny)) hS0 (c_X6_throwing lQ D kA qr cc ac co ad rc nm st an svm cnt tx len th xf xt xs xa xw xc xk xp pt wr xm mny true false s.heap.size ) (cwV 2 hts gX6_answers_X6_throwing rfl rfl rfl (by decide +kernel) ⟨Nat.le_of_ble_eq_true rfl, Nat.le_of_ble_eq_true rfl⟩) hP hD hS hA hK hK (by simpa only [List.append_assoc, List.append_nil] using (List.Perm.of_eq (List.append_nil _).symm)) (fun u => List.Perm.symm (by simpa only [List.append_assoc, List.append_nil] using (List.Perm.of_eq (List.append_nil _).symm))) (q0 := 0) rfl rfl rfl rfl rfl hl.1 (Nat.le_of_ble_eq_true rfl) dX6_answers_26 ⟨Nat.le_refl _, Nat.le_refl _⟩ (fun r26 u26 H locs h26 hP hD hS => ?_)
      subst h26
      have hP : va_P D vwCl (wR kA qr cc ac co ad rc nm st an svm cnt tx len (thF true false) xf xt xs xa xw xc xk xp pt wr xm mny) H := hP
      have hD : va_D A (wR kA qr cc ac co ad rc nm st an svm cnt tx len (thF true false) xf xt xs xa xw xc xk xp pt wr xm mny) := hD
      show W pQ lQ eQ (headSpec wsX6_answers (rmN 2 43)).room s mQ ([.ref (qr 0), .int row, .int k] : List Value).toArray below meth cQ H locs 0 0 (MQ below (va_Qi (S := (Nat → Option Nat) × (Nat → Nat) × (Nat → Option Nat) × (Nat → Nat) × (Nat → Nat) × (Nat → Nat) × (Nat → Option Nat) × (Nat → Nat) × Nat × (Option Nat) × (Nat → Nat) × Nat) (fun (r : Int32) (u : (Nat → Option Nat) × (Nat → Nat) × (Nat → Option Nat) × (Nat → Nat) × (Nat → Nat) × (Nat → Nat) × (Nat → Option Nat) × (Nat → Nat) × Nat × (Option Nat) × (Nat → Nat) × Nat) => (thAn row k cc rc nm = 0 → r = (nI (nibN (st (plc nm row rc)) (k.toNatClampNeg))))) (wr_B D vwCl (wR kA qr cc ac co ad rc nm st an svm cnt tx len th xf xt xs xa xw xc xk xp pt wr xm mny) (tyK kA) s.heap.size (fun u => (wR kA qr cc ac co ad rc nm st an svm cnt tx len (thAn row k cc rc nm) u.1 u.2.1 u.2.2.1 u.2.2.2.1 u.2.2.2.2.1 u.2.2.2.2.2.1 u.2.2.2.2.2.2.1 u.2.2.2.2.2.2.2.1 u.2.2.2.2.2.2.2.2.1 u.2.2.2.2.2.2.2.2.2.1 u.2.2.2.2.2.2.2.2.2.2.1 u.2.2.2.2.2.2.2.2.2.2.2))) A) ([.ref (qr 0), .int row, .int k] : List Value).toArray s 0 0 A) (F0 mQ 29 ls [.int (bI true)])
      refine lv_if_eq (tgt := 36) hx hb dX6_answers_29 (by decide) (fun h => absurd h (by decide)) (fun _ => ?_)
      refine lv_iconst (v := (nI 0)) hx hb dX6_answers_32 (by decide) ?_
      refine lv_goto (tgt := 42) hx hb dX6_answers_33 (by decide) ?_
      have hth : thAn row k cc rc nm = (thF true false) := (by first | (unfold thAn; rw [c9]; show cond (inB k cc) _ _ = _; rw [c17]; first | done | rfl) | (unfold thAn; rw [c9]; first | done | rfl))
      have hw9 : (wR kA qr cc ac co ad rc nm st an svm cnt tx len (thF true false) xf xt xs xa xw xc xk xp pt wr xm mny) = (wR kA qr cc ac co ad rc nm st an svm cnt tx len (thAn row k cc rc nm) xf xt xs xa xw xc xk xp pt wr xm mny) := (by rw [hth]; first | done | rfl)
      rw [hw9] at hP hD
      exact n_wreti hx hb hr hlocks (post := fun (r : Int32) (u : (Nat → Option Nat) × (Nat → Nat) × (Nat → Option Nat) × (Nat → Nat) × (Nat → Nat) × (Nat → Nat) × (Nat → Option Nat) × (Nat → Nat) × Nat × (Option Nat) × (Nat → Nat) × Nat) => (thAn row k cc rc nm = 0 → r = (nI (nibN (st (plc nm row rc)) (k.toNatClampNeg))))) (w1 := fun u => (wR kA qr cc ac co ad rc nm st an svm cnt tx len (thAn row k cc rc nm) u.1 u.2.1 u.2.2.1 u.2.2.2.1 u.2.2.2.2.1 u.2.2.2.2.2.1 u.2.2.2.2.2.2.1 u.2.2.2.2.2.2.2.1 u.2.2.2.2.2.2.2.2.1 u.2.2.2.2.2.2.2.2.2.1 u.2.2.2.2.2.2.2.2.2.2.1 u.2.2.2.2.2.2.2.2.2.2.2)) (xf, xt, xs, xa, xw, xc, xk, xp, pt, wr, xm, mny) (by first | exact (fun h => absurd (h.symm.trans hth) (by decide)) | exact (fun _ => (by rw [hpl]))) hP hD hK hS hAe dX6_answers_42

set_option maxHeartbeats 4000000 in
set_option maxRecDepth 100000 in
theorem c_X6_rowAt (lQ : Launch) (D : va_G) (kA : Nat → ClassId) (qr : Nat → Nat) (cc : Nat) (ac : Nat → Nat) (co : Nat → Nat) (ad : Nat) (rc : Nat) (nm : Nat → Nat) (st : Nat → Nat) (an : Nat → Nat) (svm : Nat → TCt) (cnt : Nat) (tx : Nat → Nat) (len : Nat) (th : Nat) (xf : Nat → Option Nat) (xt : Nat → Nat) (xs : Nat → Option Nat) (xa : Nat → Nat) (xw : Nat → Nat) (xc : Nat → Nat) (xk : Nat → Option Nat) (xp : Nat → Nat) (pt : Nat) (wr : Option Nat) (xm : Nat → Nat) (mny : Nat) (p : Int32) (sz : Nat) (hti : tIn cc ac co rc st an) : Met lQ yX6_rowAt wsX6_rowAt (rmN 1 22) (wr_Pc D vwCl [.ref (qr 0), .int p] (wR kA qr cc ac co ad rc nm st an svm cnt tx len th xf xt xs xa xw xc xk xp pt wr xm mny) (tyK kA) sz) (va_Qi (S := (Nat → Option Nat) × (Nat → Nat) × (Nat → Option Nat) × (Nat → Nat) × (Nat → Nat) × (Nat → Nat) × (Nat → Option Nat) × (Nat → Nat) × Nat × (Option Nat) × (Nat → Nat) × Nat) (fun (r : Int32) (u : (Nat → Option Nat) × (Nat → Nat) × (Nat → Option Nat) × (Nat → Nat) × (Nat → Nat) × (Nat → Nat) × (Nat → Option Nat) × (Nat → Nat) × Nat × (Option Nat) × (Nat → Nat) × Nat) => (thNg p = 0 → r = (oI (numF rc nm (some (p.toNatClampNeg)))))) (wr_B D vwCl (wR kA qr cc ac co ad rc nm st an svm cnt tx len th xf xt xs xa xw xc xk xp pt wr xm mny) (tyK kA) sz (fun u => (wR kA qr cc ac co ad rc nm st an svm cnt tx len (thNg p) u.1 u.2.1 u.2.2.1 u.2.2.2.1 u.2.2.2.2.1 u.2.2.2.2.2.1 u.2.2.2.2.2.2.1 u.2.2.2.2.2.2.2.1 u.2.2.2.2.2.2.2.2.1 u.2.2.2.2.2.2.2.2.2.1 u.2.2.2.2.2.2.2.2.2.2.1 u.2.2.2.2.2.2.2.2.2.2.2))) (va_A (wR kA qr cc ac co ad rc nm st an svm cnt tx len th xf xt xs xa xw xc xk xp pt wr xm mny) sz)) 0 0 (va_A (wR kA qr cc ac co ad rc nm st an svm cnt tx len th xf xt xs xa xw xc xk xp pt wr xm mny) sz) := by
  refine Met.ofW (cc := cX6_rowAt) (maxL := 2) (ret := (some .int)) (by decide) rfl ?_
  intro pQ eQ s mQ args below meth cQ s₁ B hml hv
  obtain ⟨rfl, hsz, hP, hK, hD0⟩ := hv
  have hx := B.exec
  have hb := B.bytes
  have hr := B.returns
  have hts := atoms_spec (ws := wsX6_rowAt) B.pre
  have hown : s.vm.findClass RX6 = some mQ.cls := findClass_of_methodNamed B.named
  have hlocks : meth.locks = false := B.notSynchronized
  have hS0 : CallFix pQ mQ cQ cX6_rowAt 2 s ([.ref (qr 0), .int p] : List Value).toArray wsX6_rowAt RX6 := ⟨hx, hb, hml, hown, hts⟩
  subst hsz
  have hD := hD0.self (sz := s.heap.size)
  generalize hAe : va_A (wR kA qr cc ac co ad rc nm st an svm cnt tx len th xf xt xs xa xw xc xk xp pt wr xm mny) s.heap.size = A at hD ⊢
  have hA : ∀ q : Nat, s.heap.size ≤ q → A q := fun q h => by rw [← hAe]; exact Or.inr h
  have hS : va_S A s.heap s.heap [] := va_S.rf
  have f7 : (Cond.fieldLink RX6 7 "AskedRulesModel" "now" "[I").before ([.ref (qr 0), .int p] : List Value).toArray s = true := hts _ (by decide +kernel)
  have hinX6 : ∀ w ∈ wsX60, w ∈ wsX6_rowAt := by decide +kernel
  have hl := lv_entry ([.ref (qr 0), .int p]) (n := 2) (Nat.le_of_ble_eq_true rfl)
  rw [lg_entry_eq]
  generalize (lg_sl ([.ref (qr 0), .int p]) ++ List.replicate (2 - (lg_sl ([.ref (qr 0), .int p])).length) Slot.unset).toArray = ls at hl ⊢
  have hl : lv_has ls 2 [(0, .ref (qr 0)), (1, .int p)] := hl
  have hP : va_P D vwCl (wR kA qr cc ac co ad rc nm st an svm cnt tx len th xf xt xs xa xw xc xk xp pt wr xm mny) s.heap := hP
  have hD : va_D A (wR kA qr cc ac co ad rc nm st an svm cnt tx len th xf xt xs xa xw xc xk xp pt wr xm mny) := hD
  obtain ⟨hcc, hac, hco1, hrc, han10, hst⟩ := hti
  have han : ∀ j, j < rc → an j < 11 := fun j hj => Nat.lt_succ_of_lt (han10 j hj)
  have hco : ∀ k, k < cc → co k < 10 := fun k hk => (hco1 k hk).2
  have hP10 := prodF_1024 hcc hac
  refine lv_aload_n hx hb dX6_rowAt_0 rfl (lv_at hl 0 rfl) ?_
  refine lv_iload_n hx hb dX6_rowAt_1 rfl (lv_at hl 1 rfl) ?_
  refine lv_if_ge (tgt := 9) hx hb dX6_rowAt_2 (by decide) (fun c2 => ?_) (fun c2 => ?_)
  · refine lv_iconst (v := (nI 0)) hx hb dX6_rowAt_9 (by decide) ?_
    refine lv_iconst (v := (nI 0)) hx hb dX6_rowAt_10 (by decide) ?_
    refine n_wVi (b := qr 0) (As := [.int (bI false), .int (bI false)]) (rest := []) (wr := []) (ws' := fun u => (wR kA qr cc ac co ad rc nm st an svm cnt tx len (thF false false) xf xt xs xa xw xc xk xp pt wr xm mny)) hS0 (c_X6_throwing lQ D kA qr cc ac co ad rc nm st an svm cnt tx len th xf xt xs xa xw xc xk xp pt wr xm mny false false s.heap.size ) (cwV 2 hts gX6_rowAt_X6_throwing rfl rfl rfl (by decide +kernel) ⟨Nat.le_of_ble_eq_true rfl, Nat.le_of_ble_eq_true rfl⟩) hP hD hS hA hK hK (by simpa only [List.append_assoc, List.append_nil] using (List.Perm.of_eq (List.append_nil _).symm)) (fun u => List.Perm.symm (by simpa only [List.append_assoc, List.append_nil] using (List.Perm.of_eq (List.append_nil _).symm))) (q0 := 0) rfl rfl rfl rfl rfl hl.1 (Nat.le_of_ble_eq_true rfl) dX6_rowAt_11 ⟨Nat.le_refl _, Nat.le_refl _⟩ (fun r11 u11 H locs h11 hP hD hS => ?_)
    subst h11
    have hP : va_P D vwCl (wR kA qr cc ac co ad rc nm st an svm cnt tx len (thF false false) xf xt xs xa xw xc xk xp pt wr xm mny) H := hP
    have hD : va_D A (wR kA qr cc ac co ad rc nm st an svm cnt tx len (thF false false) xf xt xs xa xw xc xk xp pt wr xm mny) := hD
    show W pQ lQ eQ (headSpec wsX6_rowAt (rmN 1 22)).room s mQ ([.ref (qr 0), .int p] : List Value).toArray below meth cQ H locs 0 0 (MQ below (va_Qi (S := (Nat → Option Nat) × (Nat → Nat) × (Nat → Option Nat) × (Nat → Nat) × (Nat → Nat) × (Nat → Nat) × (Nat → Option Nat) × (Nat → Nat) × Nat × (Option Nat) × (Nat → Nat) × Nat) (fun (r : Int32) (u : (Nat → Option Nat) × (Nat → Nat) × (Nat → Option Nat) × (Nat → Nat) × (Nat → Nat) × (Nat → Nat) × (Nat → Option Nat) × (Nat → Nat) × Nat × (Option Nat) × (Nat → Nat) × Nat) => (thNg p = 0 → r = (oI (numF rc nm (some (p.toNatClampNeg)))))) (wr_B D vwCl (wR kA qr cc ac co ad rc nm st an svm cnt tx len th xf xt xs xa xw xc xk xp pt wr xm mny) (tyK kA) s.heap.size (fun u => (wR kA qr cc ac co ad rc nm st an svm cnt tx len (thNg p) u.1 u.2.1 u.2.2.1 u.2.2.2.1 u.2.2.2.2.1 u.2.2.2.2.2.1 u.2.2.2.2.2.2.1 u.2.2.2.2.2.2.2.1 u.2.2.2.2.2.2.2.2.1 u.2.2.2.2.2.2.2.2.2.1 u.2.2.2.2.2.2.2.2.2.2.1 u.2.2.2.2.2.2.2.2.2.2.2))) A) ([.ref (qr 0), .int p] : List Value).toArray s 0 0 A) (F0 mQ 14 ls [.int (bI false)])
    refine lv_if_eq (tgt := 19) hx hb dX6_rowAt_14 (by decide) (fun _ => ?_) (fun h => absurd (by decide) h)
    obtain ⟨hp1, hp2⟩ := ng_c (i_not_lt.mpr c2)
    have hl : lv_has ls 2 [(0, .ref (qr 0)), (1, .int (nI p.toNatClampNeg))] := by rw [← hp1]; exact hl
    refine lv_iload_n hx hb dX6_rowAt_19 rfl (lv_at hl 1 rfl) ?_
    refine lv_aload_n hx hb dX6_rowAt_20 rfl (lv_at hl 0 rfl) ?_
    refine n_get (ci := 6) (v := .ref (qr 1)) (C := RX6) (T := TX6) (N := 18) hx hb hts hinX6 hown hK hP 0 rfl rfl 0 rfl ⟨rfl, rfl, rfl⟩ f7 rfl dX6_rowAt_21 ?_
    refine lv_iconst (v := (nI 1)) hx hb dX6_rowAt_24 (by decide) ?_
    refine n_iald (i := 1) (v := (nI rc)) hx hb hK hP 1 0 rfl rfl (by omega) (Nat.le_of_ble_eq_true rfl) rfl dX6_rowAt_25 ?_
    refine n_icmp_ge (a := p.toNatClampNeg) (b := rc) (tgt := 42) hx hb hp2 (by omega) dX6_rowAt_26 (by decide) (fun c26 => ?_) (fun c26 => ?_)
    · refine lv_iconst (v := (oI none)) hx hb dX6_rowAt_42 (by decide) ?_
      have hth : thNg p = (thF false false) := (by first | (unfold thNg; rw [decide_eq_true (i_not_le.mp c2)]; rfl) | (unfold thNg; rw [decide_eq_false (i_not_lt.mpr c2)]; rfl))
      have hw9 : (wR kA qr cc ac co ad rc nm st an svm cnt tx len (thF false false) xf xt xs xa xw xc xk xp pt wr xm mny) = (wR kA qr cc ac co ad rc nm st an svm cnt tx len (thNg p) xf xt xs xa xw xc xk xp pt wr xm mny) := (by rw [hth]; first | done | rfl)
      rw [hw9] at hP hD
      exact n_wreti hx hb hr hlocks (post := fun (r : Int32) (u : (Nat → Option Nat) × (Nat → Nat) × (Nat → Option Nat) × (Nat → Nat) × (Nat → Nat) × (Nat → Nat) × (Nat → Option Nat) × (Nat → Nat) × Nat × (Option Nat) × (Nat → Nat) × Nat) => (thNg p = 0 → r = (oI (numF rc nm (some (p.toNatClampNeg)))))) (w1 := fun u => (wR kA qr cc ac co ad rc nm st an svm cnt tx len (thNg p) u.1 u.2.1 u.2.2.1 u.2.2.2.1 u.2.2.2.2.1 u.2.2.2.2.2.1 u.2.2.2.2.2.2.1 u.2.2.2.2.2.2.2.1 u.2.2.2.2.2.2.2.2.1 u.2.2.2.2.2.2.2.2.2.1 u.2.2.2.2.2.2.2.2.2.2.1 u.2.2.2.2.2.2.2.2.2.2.2)) (xf, xt, xs, xa, xw, xc, xk, xp, pt, wr, xm, mny) (by first | exact (fun h => absurd (h.symm.trans hth) (by decide)) | exact (fun _ => (by show _ = oI (if _ then _ else _); first | (rw [if_pos (by omega)]; rfl) | (rw [if_neg (by omega)])))) hP hD hK hS hAe dX6_rowAt_43
    · refine lv_aload_n hx hb dX6_rowAt_29 rfl (lv_at hl 0 rfl) ?_
      refine n_get (ci := 6) (v := .ref (qr 1)) (C := RX6) (T := TX6) (N := 18) hx hb hts hinX6 hown hK hP 0 rfl rfl 0 rfl ⟨rfl, rfl, rfl⟩ f7 rfl dX6_rowAt_30 ?_
      refine lv_iload_n hx hb dX6_rowAt_33 rfl (lv_at hl 1 rfl) ?_
      refine lv_iconst (v := (nI 0)) hx hb dX6_rowAt_34 (by decide) ?_
      refine n_cS (As := [.int (nI p.toNatClampNeg), .int (nI 0)]) (rest := [.ref (qr 1)]) (wc := []) hS0 (c_X6_r lQ D kA p.toNatClampNeg 0 ) (va_cwS 2 hts gX6_rowAt_X6_r rfl rfl rfl (by decide +kernel) ⟨Nat.le_of_ble_eq_true rfl, Nat.le_of_ble_eq_true rfl⟩) (hP.mem (ws' := []) (fun qQ h => absurd h List.not_mem_nil)) hK rfl rfl hl.1 (Nat.le_of_ble_eq_true rfl) dX6_rowAt_35 ⟨Nat.le_refl _, Nat.le_refl _⟩ (fun r35 h35 => ?_)
      subst h35
      refine n_iald (i := 13 + 3 * p.toNatClampNeg + 0) (v := (nI (nm p.toNatClampNeg))) hx hb hK hP 1 0 rfl rfl (by omega) (Nat.le_of_ble_eq_true rfl) (congrArg nI (tab_nm )) dX6_rowAt_38 ?_
      refine lv_goto (tgt := 43) hx hb dX6_rowAt_39 (by decide) ?_
      have hth : thNg p = (thF false false) := (by first | (unfold thNg; rw [decide_eq_true (i_not_le.mp c2)]; rfl) | (unfold thNg; rw [decide_eq_false (i_not_lt.mpr c2)]; rfl))
      have hw9 : (wR kA qr cc ac co ad rc nm st an svm cnt tx len (thF false false) xf xt xs xa xw xc xk xp pt wr xm mny) = (wR kA qr cc ac co ad rc nm st an svm cnt tx len (thNg p) xf xt xs xa xw xc xk xp pt wr xm mny) := (by rw [hth]; first | done | rfl)
      rw [hw9] at hP hD
      exact n_wreti hx hb hr hlocks (post := fun (r : Int32) (u : (Nat → Option Nat) × (Nat → Nat) × (Nat → Option Nat) × (Nat → Nat) × (Nat → Nat) × (Nat → Nat) × (Nat → Option Nat) × (Nat → Nat) × Nat × (Option Nat) × (Nat → Nat) × Nat) => (thNg p = 0 → r = (oI (numF rc nm (some (p.toNatClampNeg)))))) (w1 := fun u => (wR kA qr cc ac co ad rc nm st an svm cnt tx len (thNg p) u.1 u.2.1 u.2.2.1 u.2.2.2.1 u.2.2.2.2.1 u.2.2.2.2.2.1 u.2.2.2.2.2.2.1 u.2.2.2.2.2.2.2.1 u.2.2.2.2.2.2.2.2.1 u.2.2.2.2.2.2.2.2.2.1 u.2.2.2.2.2.2.2.2.2.2.1 u.2.2.2.2.2.2.2.2.2.2.2)) (xf, xt, xs, xa, xw, xc, xk, xp, pt, wr, xm, mny) (by first | exact (fun h => absurd (h.symm.trans hth) (by decide)) | exact (fun _ => (by show _ = oI (if _ then _ else _); first | (rw [if_pos (by omega)]; rfl) | (rw [if_neg (by omega)])))) hP hD hK hS hAe dX6_rowAt_43
  · refine lv_iconst (v := (nI 1)) hx hb dX6_rowAt_5 (by decide) ?_
    refine lv_goto (tgt := 10) hx hb dX6_rowAt_6 (by decide) ?_
    refine lv_iconst (v := (nI 0)) hx hb dX6_rowAt_10 (by decide) ?_
    refine n_wVi (b := qr 0) (As := [.int (bI true), .int (bI false)]) (rest := []) (wr := []) (ws' := fun u => (wR kA qr cc ac co ad rc nm st an svm cnt tx len (thF true false) xf xt xs xa xw xc xk xp pt wr xm mny)) hS0 (c_X6_throwing lQ D kA qr cc ac co ad rc nm st an svm cnt tx len th xf xt xs xa xw xc xk xp pt wr xm mny true false s.heap.size ) (cwV 2 hts gX6_rowAt_X6_throwing rfl rfl rfl (by decide +kernel) ⟨Nat.le_of_ble_eq_true rfl, Nat.le_of_ble_eq_true rfl⟩) hP hD hS hA hK hK (by simpa only [List.append_assoc, List.append_nil] using (List.Perm.of_eq (List.append_nil _).symm)) (fun u => List.Perm.symm (by simpa only [List.append_assoc, List.append_nil] using (List.Perm.of_eq (List.append_nil _).symm))) (q0 := 0) rfl rfl rfl rfl rfl hl.1 (Nat.le_of_ble_eq_true rfl) dX6_rowAt_11 ⟨Nat.le_refl _, Nat.le_refl _⟩ (fun r11 u11 H locs h11 hP hD hS => ?_)
    subst h11
    have hP : va_P D vwCl (wR kA qr cc ac co ad rc nm st an svm cnt tx len (thF true false) xf xt xs xa xw xc xk xp pt wr xm mny) H := hP
    have hD : va_D A (wR kA qr cc ac co ad rc nm st an svm cnt tx len (thF true false) xf xt xs xa xw xc xk xp pt wr xm mny) := hD
    show W pQ lQ eQ (headSpec wsX6_rowAt (rmN 1 22)).room s mQ ([.ref (qr 0), .int p] : List Value).toArray below meth cQ H locs 0 0 (MQ below (va_Qi (S := (Nat → Option Nat) × (Nat → Nat) × (Nat → Option Nat) × (Nat → Nat) × (Nat → Nat) × (Nat → Nat) × (Nat → Option Nat) × (Nat → Nat) × Nat × (Option Nat) × (Nat → Nat) × Nat) (fun (r : Int32) (u : (Nat → Option Nat) × (Nat → Nat) × (Nat → Option Nat) × (Nat → Nat) × (Nat → Nat) × (Nat → Nat) × (Nat → Option Nat) × (Nat → Nat) × Nat × (Option Nat) × (Nat → Nat) × Nat) => (thNg p = 0 → r = (oI (numF rc nm (some (p.toNatClampNeg)))))) (wr_B D vwCl (wR kA qr cc ac co ad rc nm st an svm cnt tx len th xf xt xs xa xw xc xk xp pt wr xm mny) (tyK kA) s.heap.size (fun u => (wR kA qr cc ac co ad rc nm st an svm cnt tx len (thNg p) u.1 u.2.1 u.2.2.1 u.2.2.2.1 u.2.2.2.2.1 u.2.2.2.2.2.1 u.2.2.2.2.2.2.1 u.2.2.2.2.2.2.2.1 u.2.2.2.2.2.2.2.2.1 u.2.2.2.2.2.2.2.2.2.1 u.2.2.2.2.2.2.2.2.2.2.1 u.2.2.2.2.2.2.2.2.2.2.2))) A) ([.ref (qr 0), .int p] : List Value).toArray s 0 0 A) (F0 mQ 14 ls [.int (bI true)])
    refine lv_if_eq (tgt := 19) hx hb dX6_rowAt_14 (by decide) (fun h => absurd h (by decide)) (fun _ => ?_)
    refine lv_iconst (v := (nI 0)) hx hb dX6_rowAt_17 (by decide) ?_
    have hth : thNg p = (thF true false) := (by first | (unfold thNg; rw [decide_eq_true (i_not_le.mp c2)]; rfl) | (unfold thNg; rw [decide_eq_false (i_not_lt.mpr c2)]; rfl))
    have hw9 : (wR kA qr cc ac co ad rc nm st an svm cnt tx len (thF true false) xf xt xs xa xw xc xk xp pt wr xm mny) = (wR kA qr cc ac co ad rc nm st an svm cnt tx len (thNg p) xf xt xs xa xw xc xk xp pt wr xm mny) := (by rw [hth]; first | done | rfl)
    rw [hw9] at hP hD
    exact n_wreti hx hb hr hlocks (post := fun (r : Int32) (u : (Nat → Option Nat) × (Nat → Nat) × (Nat → Option Nat) × (Nat → Nat) × (Nat → Nat) × (Nat → Nat) × (Nat → Option Nat) × (Nat → Nat) × Nat × (Option Nat) × (Nat → Nat) × Nat) => (thNg p = 0 → r = (oI (numF rc nm (some (p.toNatClampNeg)))))) (w1 := fun u => (wR kA qr cc ac co ad rc nm st an svm cnt tx len (thNg p) u.1 u.2.1 u.2.2.1 u.2.2.2.1 u.2.2.2.2.1 u.2.2.2.2.2.1 u.2.2.2.2.2.2.1 u.2.2.2.2.2.2.2.1 u.2.2.2.2.2.2.2.2.1 u.2.2.2.2.2.2.2.2.2.1 u.2.2.2.2.2.2.2.2.2.2.1 u.2.2.2.2.2.2.2.2.2.2.2)) (xf, xt, xs, xa, xw, xc, xk, xp, pt, wr, xm, mny) (by first | exact (fun h => absurd (h.symm.trans hth) (by decide)) | exact (fun _ => (by show _ = oI (if _ then _ else _); first | (rw [if_pos (by omega)]; rfl) | (rw [if_neg (by omega)])))) hP hD hK hS hAe dX6_rowAt_18

set_option maxHeartbeats 4000000 in
set_option maxRecDepth 100000 in
theorem c_X6_caseOf (lQ : Launch) (D : va_G) (kA : Nat → ClassId) (qr : Nat → Nat) (cc : Nat) (ac : Nat → Nat) (co : Nat → Nat) (ad : Nat) (rc : Nat) (nm : Nat → Nat) (st : Nat → Nat) (an : Nat → Nat) (svm : Nat → TCt) (cnt : Nat) (tx : Nat → Nat) (len : Nat) (th : Nat) (xf : Nat → Option Nat) (xt : Nat → Nat) (xs : Nat → Option Nat) (xa : Nat → Nat) (xw : Nat → Nat) (xc : Nat → Nat) (xk : Nat → Option Nat) (xp : Nat → Nat) (pt : Nat) (wr : Option Nat) (xm : Nat → Nat) (mny : Nat) (c0 : Int32) (w : Int32) (sz : Nat) (hti : tIn cc ac co rc st an) : Met lQ yX6_caseOf wsX6_caseOf (rmN 5 112) (wr_Pc D vwCl [.ref (qr 0), .int c0, .int w] (wR kA qr cc ac co ad rc nm st an svm cnt tx len th xf xt xs xa xw xc xk xp pt wr xm mny) (tyK kA) sz) (va_Qi (S := (Nat → Option Nat) × (Nat → Nat) × (Nat → Option Nat) × (Nat → Nat) × (Nat → Nat) × (Nat → Nat) × (Nat → Option Nat) × (Nat → Nat) × Nat × (Option Nat) × (Nat → Nat) × Nat) (fun (r : Int32) (u : (Nat → Option Nat) × (Nat → Nat) × (Nat → Option Nat) × (Nat → Nat) × (Nat → Nat) × (Nat → Nat) × (Nat → Option Nat) × (Nat → Nat) × Nat × (Option Nat) × (Nat → Nat) × Nat) => (thCa c0 w cc ac = 0 → r = (oI (kvF cc ac rc nm st an (c0.toNatClampNeg) (w.toNatClampNeg))))) (wr_B D vwCl (wR kA qr cc ac co ad rc nm st an svm cnt tx len th xf xt xs xa xw xc xk xp pt wr xm mny) (tyK kA) sz (fun u => (wR kA qr cc ac co ad rc nm st an svm cnt tx len (thCa c0 w cc ac) u.1 u.2.1 u.2.2.1 u.2.2.2.1 u.2.2.2.2.1 u.2.2.2.2.2.1 u.2.2.2.2.2.2.1 u.2.2.2.2.2.2.2.1 u.2.2.2.2.2.2.2.2.1 u.2.2.2.2.2.2.2.2.2.1 u.2.2.2.2.2.2.2.2.2.2.1 u.2.2.2.2.2.2.2.2.2.2.2))) (va_A (wR kA qr cc ac co ad rc nm st an svm cnt tx len th xf xt xs xa xw xc xk xp pt wr xm mny) sz)) 0 0 (va_A (wR kA qr cc ac co ad rc nm st an svm cnt tx len th xf xt xs xa xw xc xk xp pt wr xm mny) sz) := by
  refine Met.ofW (cc := cX6_caseOf) (maxL := 3) (ret := (some .int)) (by decide) rfl ?_
  intro pQ eQ s mQ args below meth cQ s₁ B hml hv
  obtain ⟨rfl, hsz, hP, hK, hD0⟩ := hv
  have hx := B.exec
  have hb := B.bytes
  have hr := B.returns
  have hts := atoms_spec (ws := wsX6_caseOf) B.pre
  have hown : s.vm.findClass RX6 = some mQ.cls := findClass_of_methodNamed B.named
  have hlocks : meth.locks = false := B.notSynchronized
  have hS0 : CallFix pQ mQ cQ cX6_caseOf 3 s ([.ref (qr 0), .int c0, .int w] : List Value).toArray wsX6_caseOf RX6 := ⟨hx, hb, hml, hown, hts⟩
  subst hsz
  have hD := hD0.self (sz := s.heap.size)
  generalize hAe : va_A (wR kA qr cc ac co ad rc nm st an svm cnt tx len th xf xt xs xa xw xc xk xp pt wr xm mny) s.heap.size = A at hD ⊢
  have hA : ∀ q : Nat, s.heap.size ≤ q → A q := fun q h => by rw [← hAe]; exact Or.inr h
  have hS : va_S A s.heap s.heap [] := va_S.rf
  skip
  have hl := lv_entry ([.ref (qr 0), .int c0, .int w]) (n := 3) (Nat.le_of_ble_eq_true rfl)
  rw [lg_entry_eq]
  generalize (lg_sl ([.ref (qr 0), .int c0, .int w]) ++ List.replicate (3 - (lg_sl ([.ref (qr 0), .int c0, .int w])).length) Slot.unset).toArray = ls at hl ⊢
  have hl : lv_has ls 3 [(0, .ref (qr 0)), (1, .int c0), (2, .int w)] := hl
  have hP : va_P D vwCl (wR kA qr cc ac co ad rc nm st an svm cnt tx len th xf xt xs xa xw xc xk xp pt wr xm mny) s.heap := hP
  have hD : va_D A (wR kA qr cc ac co ad rc nm st an svm cnt tx len th xf xt xs xa xw xc xk xp pt wr xm mny) := hD
  obtain ⟨hcc, hac, hco1, hrc, han10, hst⟩ := hti
  have han : ∀ j, j < rc → an j < 11 := fun j hj => Nat.lt_succ_of_lt (han10 j hj)
  have hco : ∀ k, k < cc → co k < 10 := fun k hk => (hco1 k hk).2
  have hP10 := prodF_1024 hcc hac
  refine lv_aload_n hx hb dX6_caseOf_0 rfl (lv_at hl 0 rfl) ?_
  refine lv_aload_n hx hb dX6_caseOf_1 rfl (lv_at hl 0 rfl) ?_
  refine lv_iload_n hx hb dX6_caseOf_2 rfl (lv_at hl 1 rfl) ?_
  refine n_cV (b := qr 0) (As := [.int c0]) (rest := [.ref (qr 0)]) (wc := (wR kA qr cc ac co ad rc nm st an svm cnt tx len th xf xt xs xa xw xc xk xp pt wr xm mny)) hS0 (c_X6_isCase lQ D kA qr cc ac co ad rc nm st an svm cnt tx len th xf xt xs xa xw xc xk xp pt wr xm mny c0 (by first | assumption | omega) (by first | assumption | omega)) (cwV 1 hts gX6_caseOf_X6_isCase rfl rfl rfl (by decide +kernel) ⟨Nat.le_of_ble_eq_true rfl, Nat.le_of_ble_eq_true rfl⟩) hP hK (q0 := 0) rfl rfl rfl rfl rfl hl.1 (Nat.le_of_ble_eq_true rfl) dX6_caseOf_3 ⟨Nat.le_refl _, Nat.le_refl _⟩ (fun r3 h3 => ?_)
  subst h3
  refine n_ifb_ne (b := inB c0 (prodF ac cc)) (tgt := 13) hx hb dX6_caseOf_6 (by decide) (fun c6 => ?_) (fun c6 => ?_)
  · refine lv_iconst (v := (nI 0)) hx hb dX6_caseOf_13 (by decide) ?_
    refine lv_iload_n hx hb dX6_caseOf_14 rfl (lv_at hl 2 rfl) ?_
    refine lv_iconst (v := (nI 0)) hx hb dX6_caseOf_15 (by decide) ?_
    refine lv_iconst (v := (nI 4)) hx hb dX6_caseOf_16 (by decide) ?_
    refine n_cS (As := [.int w, .int (nI 0), .int (nI 4)]) (rest := [.int (nI 0), .ref (qr 0)]) (wc := []) hS0 (c_X6_in lQ D kA w (nI 0) (nI 4) ) (va_cwS 3 hts gX6_caseOf_X6_in rfl rfl rfl (by decide +kernel) ⟨Nat.le_of_ble_eq_true rfl, Nat.le_of_ble_eq_true rfl⟩) (hP.mem (ws' := []) (fun qQ h => absurd h List.not_mem_nil)) hK rfl rfl hl.1 (Nat.le_of_ble_eq_true rfl) dX6_caseOf_17 ⟨Nat.le_refl _, Nat.le_refl _⟩ (fun r17 h17 => ?_)
    subst h17
    refine n_ifb_ne (b := inI w (nI 0) (nI 4)) (tgt := 27) hx hb dX6_caseOf_20 (by decide) (fun c20 => ?_) (fun c20 => ?_)
    · rw [inI_5] at c20
      refine lv_iconst (v := (nI 0)) hx hb dX6_caseOf_27 (by decide) ?_
      refine n_wVi (b := qr 0) (As := [.int (bI false), .int (bI false)]) (rest := []) (wr := []) (ws' := fun u => (wR kA qr cc ac co ad rc nm st an svm cnt tx len (thF false false) xf xt xs xa xw xc xk xp pt wr xm mny)) hS0 (c_X6_throwing lQ D kA qr cc ac co ad rc nm st an svm cnt tx len th xf xt xs xa xw xc xk xp pt wr xm mny false false s.heap.size ) (cwV 2 hts gX6_caseOf_X6_throwing rfl rfl rfl (by decide +kernel) ⟨Nat.le_of_ble_eq_true rfl, Nat.le_of_ble_eq_true rfl⟩) hP hD hS hA hK hK (by simpa only [List.append_assoc, List.append_nil] using (List.Perm.of_eq (List.append_nil _).symm)) (fun u => List.Perm.symm (by simpa only [List.append_assoc, List.append_nil] using (List.Perm.of_eq (List.append_nil _).symm))) (q0 := 0) rfl rfl rfl rfl rfl hl.1 (Nat.le_of_ble_eq_true rfl) dX6_caseOf_28 ⟨Nat.le_refl _, Nat.le_refl _⟩ (fun r28 u28 H locs h28 hP hD hS => ?_)
      subst h28
      have hP : va_P D vwCl (wR kA qr cc ac co ad rc nm st an svm cnt tx len (thF false false) xf xt xs xa xw xc xk xp pt wr xm mny) H := hP
      have hD : va_D A (wR kA qr cc ac co ad rc nm st an svm cnt tx len (thF false false) xf xt xs xa xw xc xk xp pt wr xm mny) := hD
      show W pQ lQ eQ (headSpec wsX6_caseOf (rmN 5 112)).room s mQ ([.ref (qr 0), .int c0, .int w] : List Value).toArray below meth cQ H locs 0 0 (MQ below (va_Qi (S := (Nat → Option Nat) × (Nat → Nat) × (Nat → Option Nat) × (Nat → Nat) × (Nat → Nat) × (Nat → Nat) × (Nat → Option Nat) × (Nat → Nat) × Nat × (Option Nat) × (Nat → Nat) × Nat) (fun (r : Int32) (u : (Nat → Option Nat) × (Nat → Nat) × (Nat → Option Nat) × (Nat → Nat) × (Nat → Nat) × (Nat → Nat) × (Nat → Option Nat) × (Nat → Nat) × Nat × (Option Nat) × (Nat → Nat) × Nat) => (thCa c0 w cc ac = 0 → r = (oI (kvF cc ac rc nm st an (c0.toNatClampNeg) (w.toNatClampNeg))))) (wr_B D vwCl (wR kA qr cc ac co ad rc nm st an svm cnt tx len th xf xt xs xa xw xc xk xp pt wr xm mny) (tyK kA) s.heap.size (fun u => (wR kA qr cc ac co ad rc nm st an svm cnt tx len (thCa c0 w cc ac) u.1 u.2.1 u.2.2.1 u.2.2.2.1 u.2.2.2.2.1 u.2.2.2.2.2.1 u.2.2.2.2.2.2.1 u.2.2.2.2.2.2.2.1 u.2.2.2.2.2.2.2.2.1 u.2.2.2.2.2.2.2.2.2.1 u.2.2.2.2.2.2.2.2.2.2.1 u.2.2.2.2.2.2.2.2.2.2.2))) A) ([.ref (qr 0), .int c0, .int w] : List Value).toArray s 0 0 A) (F0 mQ 31 ls [.int (bI false)])
      refine lv_if_eq (tgt := 36) hx hb dX6_caseOf_31 (by decide) (fun _ => ?_) (fun h => absurd (by decide) h)
      obtain ⟨hk1, hk2⟩ := inB_c (by omega) c6
      have hl : lv_has ls 3 [(0, .ref (qr 0)), (1, .int (nI c0.toNatClampNeg)), (2, .int w)] := by rw [← hk1]; exact hl
      obtain ⟨hw1, hw2⟩ := inB_c (by decide) c20
      have hl : lv_has ls 3 [(0, .ref (qr 0)), (1, .int (nI c0.toNatClampNeg)), (2, .int (nI w.toNatClampNeg))] := by rw [← hw1]; exact hl
      refine lv_aload_n hx hb dX6_caseOf_36 rfl (lv_at hl 0 rfl) ?_
      refine lv_iconst (v := (oI none)) hx hb dX6_caseOf_37 (by decide) ?_
      refine n_wVv (b := qr 0) (As := [.int (oI none)]) (rest := []) (wr := []) (ws' := fun u => (wR kA qr cc ac co ad rc nm st an svm cnt tx len (thF false false) u.1 u.2.1 u.2.2.1 u.2.2.2 xw xc xk xp pt wr xm mny)) hS0 (c_X6_lays lQ D kA qr cc ac co ad rc nm st an svm cnt tx len (thF false false) xf xt xs xa xw xc xk xp pt wr xm mny H.size (by first | assumption | omega) (by first | assumption | omega) (by first | assumption | omega) (by first | assumption | omega) (by first | assumption | omega)) (cwV 1 hts gX6_caseOf_X6_lays rfl rfl rfl (by decide +kernel) ⟨Nat.le_of_ble_eq_true rfl, Nat.le_of_ble_eq_true rfl⟩) hP hD hS hA hK hK (by simpa only [List.append_assoc, List.append_nil] using (List.Perm.of_eq (List.append_nil _).symm)) (fun u => List.Perm.symm (by simpa only [List.append_assoc, List.append_nil] using (List.Perm.of_eq (List.append_nil _).symm))) (q0 := 0) rfl rfl rfl rfl rfl hl.1 (Nat.le_of_ble_eq_true rfl) dX6_caseOf_38 ⟨Nat.le_refl _, Nat.le_refl _⟩ (fun u38 H locs h38 hP hD hS => ?_)
      obtain ⟨xf1_38, xt1_38, xs1_38, xa1_38⟩ := u38
      have h38_1 := h38
      try dsimp only at h38_1
      have hP : va_P D vwCl (wR kA qr cc ac co ad rc nm st an svm cnt tx len (thF false false) xf1_38 xt1_38 xs1_38 xa1_38 xw xc xk xp pt wr xm mny) H := hP
      have hD : va_D A (wR kA qr cc ac co ad rc nm st an svm cnt tx len (thF false false) xf1_38 xt1_38 xs1_38 xa1_38 xw xc xk xp pt wr xm mny) := hD
      refine lv_aload_n hx hb dX6_caseOf_41 rfl (lv_at hl 0 rfl) ?_
      refine lv_iload_n hx hb dX6_caseOf_42 rfl (lv_at hl 1 rfl) ?_
      refine lv_iload_n hx hb dX6_caseOf_43 rfl (lv_at hl 2 rfl) ?_
      refine n_cV (b := qr 0) (As := [.int (nI c0.toNatClampNeg), .int (nI w.toNatClampNeg)]) (rest := []) (wc := (wR kA qr cc ac co ad rc nm st an svm cnt tx len (thF false false) xf1_38 xt1_38 xs1_38 xa1_38 xw xc xk xp pt wr xm mny)) hS0 (c_X6_valueOf lQ D kA qr cc ac co ad rc nm st an svm cnt tx len (thF false false) xf1_38 xt1_38 xs1_38 xa1_38 xw xc xk xp pt wr xm mny c0.toNatClampNeg w.toNatClampNeg (by first | assumption | omega) (by first | assumption | omega) (by first | assumption | omega) (by first | assumption | omega) (by first | assumption | omega) h38_1 (by first | assumption | omega) (by first | assumption | omega)) (cwV 2 hts gX6_caseOf_X6_valueOf rfl rfl rfl (by decide +kernel) ⟨Nat.le_of_ble_eq_true rfl, Nat.le_of_ble_eq_true rfl⟩) hP hK (q0 := 0) rfl rfl rfl rfl rfl hl.1 (Nat.le_of_ble_eq_true rfl) dX6_caseOf_44 ⟨Nat.le_refl _, Nat.le_refl _⟩ (fun r44 h44 => ?_)
      subst h44
      have hth : thCa c0 w cc ac = (thF false false) := (by first | (unfold thCa; rw [c6, c20]; first | done | rfl) | (unfold thCa; rw [c6]; first | done | rfl))
      have hw9 : (wR kA qr cc ac co ad rc nm st an svm cnt tx len (thF false false) xf1_38 xt1_38 xs1_38 xa1_38 xw xc xk xp pt wr xm mny) = (wR kA qr cc ac co ad rc nm st an svm cnt tx len (thCa c0 w cc ac) xf1_38 xt1_38 xs1_38 xa1_38 xw xc xk xp pt wr xm mny) := (by rw [hth]; first | done | rfl)
      rw [hw9] at hP hD
      exact n_wreti hx hb hr hlocks (post := fun (r : Int32) (u : (Nat → Option Nat) × (Nat → Nat) × (Nat → Option Nat) × (Nat → Nat) × (Nat → Nat) × (Nat → Nat) × (Nat → Option Nat) × (Nat → Nat) × Nat × (Option Nat) × (Nat → Nat) × Nat) => (thCa c0 w cc ac = 0 → r = (oI (kvF cc ac rc nm st an (c0.toNatClampNeg) (w.toNatClampNeg))))) (w1 := fun u => (wR kA qr cc ac co ad rc nm st an svm cnt tx len (thCa c0 w cc ac) u.1 u.2.1 u.2.2.1 u.2.2.2.1 u.2.2.2.2.1 u.2.2.2.2.2.1 u.2.2.2.2.2.2.1 u.2.2.2.2.2.2.2.1 u.2.2.2.2.2.2.2.2.1 u.2.2.2.2.2.2.2.2.2.1 u.2.2.2.2.2.2.2.2.2.2.1 u.2.2.2.2.2.2.2.2.2.2.2)) (xf1_38, xt1_38, xs1_38, xa1_38, xw, xc, xk, xp, pt, wr, xm, mny) (by first | exact (fun h => absurd (h.symm.trans hth) (by decide)) | exact (fun _ => rfl)) hP hD hK hS hAe dX6_caseOf_47
    · rw [inI_5] at c20
      refine lv_iconst (v := (nI 1)) hx hb dX6_caseOf_23 (by decide) ?_
      refine lv_goto (tgt := 28) hx hb dX6_caseOf_24 (by decide) ?_
      refine n_wVi (b := qr 0) (As := [.int (bI false), .int (bI true)]) (rest := []) (wr := []) (ws' := fun u => (wR kA qr cc ac co ad rc nm st an svm cnt tx len (thF false true) xf xt xs xa xw xc xk xp pt wr xm mny)) hS0 (c_X6_throwing lQ D kA qr cc ac co ad rc nm st an svm cnt tx len th xf xt xs xa xw xc xk xp pt wr xm mny false true s.heap.size ) (cwV 2 hts gX6_caseOf_X6_throwing rfl rfl rfl (by decide +kernel) ⟨Nat.le_of_ble_eq_true rfl, Nat.le_of_ble_eq_true rfl⟩) hP hD hS hA hK hK (by simpa only [List.append_assoc, List.append_nil] using (List.Perm.of_eq (List.append_nil _).symm)) (fun u => List.Perm.symm (by simpa only [List.append_assoc, List.append_nil] using (List.Perm.of_eq (List.append_nil _).symm))) (q0 := 0) rfl rfl rfl rfl rfl hl.1 (Nat.le_of_ble_eq_true rfl) dX6_caseOf_28 ⟨Nat.le_refl _, Nat.le_refl _⟩ (fun r28 u28 H locs h28 hP hD hS => ?_)
      subst h28
      have hP : va_P D vwCl (wR kA qr cc ac co ad rc nm st an svm cnt tx len (thF false true) xf xt xs xa xw xc xk xp pt wr xm mny) H := hP
      have hD : va_D A (wR kA qr cc ac co ad rc nm st an svm cnt tx len (thF false true) xf xt xs xa xw xc xk xp pt wr xm mny) := hD
      show W pQ lQ eQ (headSpec wsX6_caseOf (rmN 5 112)).room s mQ ([.ref (qr 0), .int c0, .int w] : List Value).toArray below meth cQ H locs 0 0 (MQ below (va_Qi (S := (Nat → Option Nat) × (Nat → Nat) × (Nat → Option Nat) × (Nat → Nat) × (Nat → Nat) × (Nat → Nat) × (Nat → Option Nat) × (Nat → Nat) × Nat × (Option Nat) × (Nat → Nat) × Nat) (fun (r : Int32) (u : (Nat → Option Nat) × (Nat → Nat) × (Nat → Option Nat) × (Nat → Nat) × (Nat → Nat) × (Nat → Nat) × (Nat → Option Nat) × (Nat → Nat) × Nat × (Option Nat) × (Nat → Nat) × Nat) => (thCa c0 w cc ac = 0 → r = (oI (kvF cc ac rc nm st an (c0.toNatClampNeg) (w.toNatClampNeg))))) (wr_B D vwCl (wR kA qr cc ac co ad rc nm st an svm cnt tx len th xf xt xs xa xw xc xk xp pt wr xm mny) (tyK kA) s.heap.size (fun u => (wR kA qr cc ac co ad rc nm st an svm cnt tx len (thCa c0 w cc ac) u.1 u.2.1 u.2.2.1 u.2.2.2.1 u.2.2.2.2.1 u.2.2.2.2.2.1 u.2.2.2.2.2.2.1 u.2.2.2.2.2.2.2.1 u.2.2.2.2.2.2.2.2.1 u.2.2.2.2.2.2.2.2.2.1 u.2.2.2.2.2.2.2.2.2.2.1 u.2.2.2.2.2.2.2.2.2.2.2))) A) ([.ref (qr 0), .int c0, .int w] : List Value).toArray s 0 0 A) (F0 mQ 31 ls [.int (bI true)])
      refine lv_if_eq (tgt := 36) hx hb dX6_caseOf_31 (by decide) (fun h => absurd h (by decide)) (fun _ => ?_)
      refine lv_iconst (v := (nI 0)) hx hb dX6_caseOf_34 (by decide) ?_
      have hth : thCa c0 w cc ac = (thF false true) := (by first | (unfold thCa; rw [c6, c20]; first | done | rfl) | (unfold thCa; rw [c6]; first | done | rfl))
      have hw9 : (wR kA qr cc ac co ad rc nm st an svm cnt tx len (thF false true) xf xt xs xa xw xc xk xp pt wr xm mny) = (wR kA qr cc ac co ad rc nm st an svm cnt tx len (thCa c0 w cc ac) xf xt xs xa xw xc xk xp pt wr xm mny) := (by rw [hth]; first | done | rfl)
      rw [hw9] at hP hD
      exact n_wreti hx hb hr hlocks (post := fun (r : Int32) (u : (Nat → Option Nat) × (Nat → Nat) × (Nat → Option Nat) × (Nat → Nat) × (Nat → Nat) × (Nat → Nat) × (Nat → Option Nat) × (Nat → Nat) × Nat × (Option Nat) × (Nat → Nat) × Nat) => (thCa c0 w cc ac = 0 → r = (oI (kvF cc ac rc nm st an (c0.toNatClampNeg) (w.toNatClampNeg))))) (w1 := fun u => (wR kA qr cc ac co ad rc nm st an svm cnt tx len (thCa c0 w cc ac) u.1 u.2.1 u.2.2.1 u.2.2.2.1 u.2.2.2.2.1 u.2.2.2.2.2.1 u.2.2.2.2.2.2.1 u.2.2.2.2.2.2.2.1 u.2.2.2.2.2.2.2.2.1 u.2.2.2.2.2.2.2.2.2.1 u.2.2.2.2.2.2.2.2.2.2.1 u.2.2.2.2.2.2.2.2.2.2.2)) (xf, xt, xs, xa, xw, xc, xk, xp, pt, wr, xm, mny) (by first | exact (fun h => absurd (h.symm.trans hth) (by decide)) | exact (fun _ => rfl)) hP hD hK hS hAe dX6_caseOf_35
  · refine lv_iconst (v := (nI 1)) hx hb dX6_caseOf_9 (by decide) ?_
    refine lv_goto (tgt := 14) hx hb dX6_caseOf_10 (by decide) ?_
    refine lv_iload_n hx hb dX6_caseOf_14 rfl (lv_at hl 2 rfl) ?_
    refine lv_iconst (v := (nI 0)) hx hb dX6_caseOf_15 (by decide) ?_
    refine lv_iconst (v := (nI 4)) hx hb dX6_caseOf_16 (by decide) ?_
    refine n_cS (As := [.int w, .int (nI 0), .int (nI 4)]) (rest := [.int (nI 1), .ref (qr 0)]) (wc := []) hS0 (c_X6_in lQ D kA w (nI 0) (nI 4) ) (va_cwS 3 hts gX6_caseOf_X6_in rfl rfl rfl (by decide +kernel) ⟨Nat.le_of_ble_eq_true rfl, Nat.le_of_ble_eq_true rfl⟩) (hP.mem (ws' := []) (fun qQ h => absurd h List.not_mem_nil)) hK rfl rfl hl.1 (Nat.le_of_ble_eq_true rfl) dX6_caseOf_17 ⟨Nat.le_refl _, Nat.le_refl _⟩ (fun r17 h17 => ?_)
    subst h17
    refine n_ifb_ne (b := inI w (nI 0) (nI 4)) (tgt := 27) hx hb dX6_caseOf_20 (by decide) (fun c20 => ?_) (fun c20 => ?_)
    · rw [inI_5] at c20
      refine lv_iconst (v := (nI 0)) hx hb dX6_caseOf_27 (by decide) ?_
      refine n_wVi (b := qr 0) (As := [.int (bI true), .int (bI false)]) (rest := []) (wr := []) (ws' := fun u => (wR kA qr cc ac co ad rc nm st an svm cnt tx len (thF true false) xf xt xs xa xw xc xk xp pt wr xm mny)) hS0 (c_X6_throwing lQ D kA qr cc ac co ad rc nm st an svm cnt tx len th xf xt xs xa xw xc xk xp pt wr xm mny true false s.heap.size ) (cwV 2 hts gX6_caseOf_X6_throwing rfl rfl rfl (by decide +kernel) ⟨Nat.le_of_ble_eq_true rfl, Nat.le_of_ble_eq_true rfl⟩) hP hD hS hA hK hK (by simpa only [List.append_assoc, List.append_nil] using (List.Perm.of_eq (List.append_nil _).symm)) (fun u => List.Perm.symm (by simpa only [List.append_assoc, List.append_nil] using (List.Perm.of_eq (List.append_nil _).symm))) (q0 := 0) rfl rfl rfl rfl rfl hl.1 (Nat.le_of_ble_eq_true rfl) dX6_caseOf_28 ⟨Nat.le_refl _, Nat.le_refl _⟩ (fun r28 u28 H locs h28 hP hD hS => ?_)
      subst h28
      have hP : va_P D vwCl (wR kA qr cc ac co ad rc nm st an svm cnt tx len (thF true false) xf xt xs xa xw xc xk xp pt wr xm mny) H := hP
      have hD : va_D A (wR kA qr cc ac co ad rc nm st an svm cnt tx len (thF true false) xf xt xs xa xw xc xk xp pt wr xm mny) := hD
      show W pQ lQ eQ (headSpec wsX6_caseOf (rmN 5 112)).room s mQ ([.ref (qr 0), .int c0, .int w] : List Value).toArray below meth cQ H locs 0 0 (MQ below (va_Qi (S := (Nat → Option Nat) × (Nat → Nat) × (Nat → Option Nat) × (Nat → Nat) × (Nat → Nat) × (Nat → Nat) × (Nat → Option Nat) × (Nat → Nat) × Nat × (Option Nat) × (Nat → Nat) × Nat) (fun (r : Int32) (u : (Nat → Option Nat) × (Nat → Nat) × (Nat → Option Nat) × (Nat → Nat) × (Nat → Nat) × (Nat → Nat) × (Nat → Option Nat) × (Nat → Nat) × Nat × (Option Nat) × (Nat → Nat) × Nat) => (thCa c0 w cc ac = 0 → r = (oI (kvF cc ac rc nm st an (c0.toNatClampNeg) (w.toNatClampNeg))))) (wr_B D vwCl (wR kA qr cc ac co ad rc nm st an svm cnt tx len th xf xt xs xa xw xc xk xp pt wr xm mny) (tyK kA) s.heap.size (fun u => (wR kA qr cc ac co ad rc nm st an svm cnt tx len (thCa c0 w cc ac) u.1 u.2.1 u.2.2.1 u.2.2.2.1 u.2.2.2.2.1 u.2.2.2.2.2.1 u.2.2.2.2.2.2.1 u.2.2.2.2.2.2.2.1 u.2.2.2.2.2.2.2.2.1 u.2.2.2.2.2.2.2.2.2.1 u.2.2.2.2.2.2.2.2.2.2.1 u.2.2.2.2.2.2.2.2.2.2.2))) A) ([.ref (qr 0), .int c0, .int w] : List Value).toArray s 0 0 A) (F0 mQ 31 ls [.int (bI true)])
      refine lv_if_eq (tgt := 36) hx hb dX6_caseOf_31 (by decide) (fun h => absurd h (by decide)) (fun _ => ?_)
      refine lv_iconst (v := (nI 0)) hx hb dX6_caseOf_34 (by decide) ?_
      have hth : thCa c0 w cc ac = (thF true false) := (by first | (unfold thCa; rw [c6, c20]; first | done | rfl) | (unfold thCa; rw [c6]; first | done | rfl))
      have hw9 : (wR kA qr cc ac co ad rc nm st an svm cnt tx len (thF true false) xf xt xs xa xw xc xk xp pt wr xm mny) = (wR kA qr cc ac co ad rc nm st an svm cnt tx len (thCa c0 w cc ac) xf xt xs xa xw xc xk xp pt wr xm mny) := (by rw [hth]; first | done | rfl)
      rw [hw9] at hP hD
      exact n_wreti hx hb hr hlocks (post := fun (r : Int32) (u : (Nat → Option Nat) × (Nat → Nat) × (Nat → Option Nat) × (Nat → Nat) × (Nat → Nat) × (Nat → Nat) × (Nat → Option Nat) × (Nat → Nat) × Nat × (Option Nat) × (Nat → Nat) × Nat) => (thCa c0 w cc ac = 0 → r = (oI (kvF cc ac rc nm st an (c0.toNatClampNeg) (w.toNatClampNeg))))) (w1 := fun u => (wR kA qr cc ac co ad rc nm st an svm cnt tx len (thCa c0 w cc ac) u.1 u.2.1 u.2.2.1 u.2.2.2.1 u.2.2.2.2.1 u.2.2.2.2.2.1 u.2.2.2.2.2.2.1 u.2.2.2.2.2.2.2.1 u.2.2.2.2.2.2.2.2.1 u.2.2.2.2.2.2.2.2.2.1 u.2.2.2.2.2.2.2.2.2.2.1 u.2.2.2.2.2.2.2.2.2.2.2)) (xf, xt, xs, xa, xw, xc, xk, xp, pt, wr, xm, mny) (by first | exact (fun h => absurd (h.symm.trans hth) (by decide)) | exact (fun _ => rfl)) hP hD hK hS hAe dX6_caseOf_35
    · rw [inI_5] at c20
      refine lv_iconst (v := (nI 1)) hx hb dX6_caseOf_23 (by decide) ?_
      refine lv_goto (tgt := 28) hx hb dX6_caseOf_24 (by decide) ?_
      refine n_wVi (b := qr 0) (As := [.int (bI true), .int (bI true)]) (rest := []) (wr := []) (ws' := fun u => (wR kA qr cc ac co ad rc nm st an svm cnt tx len (thF true true) xf xt xs xa xw xc xk xp pt wr xm mny)) hS0 (c_X6_throwing lQ D kA qr cc ac co ad rc nm st an svm cnt tx len th xf xt xs xa xw xc xk xp pt wr xm mny true true s.heap.size ) (cwV 2 hts gX6_caseOf_X6_throwing rfl rfl rfl (by decide +kernel) ⟨Nat.le_of_ble_eq_true rfl, Nat.le_of_ble_eq_true rfl⟩) hP hD hS hA hK hK (by simpa only [List.append_assoc, List.append_nil] using (List.Perm.of_eq (List.append_nil _).symm)) (fun u => List.Perm.symm (by simpa only [List.append_assoc, List.append_nil] using (List.Perm.of_eq (List.append_nil _).symm))) (q0 := 0) rfl rfl rfl rfl rfl hl.1 (Nat.le_of_ble_eq_true rfl) dX6_caseOf_28 ⟨Nat.le_refl _, Nat.le_refl _⟩ (fun r28 u28 H locs h28 hP hD hS => ?_)
      subst h28
      have hP : va_P D vwCl (wR kA qr cc ac co ad rc nm st an svm cnt tx len (thF true true) xf xt xs xa xw xc xk xp pt wr xm mny) H := hP
      have hD : va_D A (wR kA qr cc ac co ad rc nm st an svm cnt tx len (thF true true) xf xt xs xa xw xc xk xp pt wr xm mny) := hD
      show W pQ lQ eQ (headSpec wsX6_caseOf (rmN 5 112)).room s mQ ([.ref (qr 0), .int c0, .int w] : List Value).toArray below meth cQ H locs 0 0 (MQ below (va_Qi (S := (Nat → Option Nat) × (Nat → Nat) × (Nat → Option Nat) × (Nat → Nat) × (Nat → Nat) × (Nat → Nat) × (Nat → Option Nat) × (Nat → Nat) × Nat × (Option Nat) × (Nat → Nat) × Nat) (fun (r : Int32) (u : (Nat → Option Nat) × (Nat → Nat) × (Nat → Option Nat) × (Nat → Nat) × (Nat → Nat) × (Nat → Nat) × (Nat → Option Nat) × (Nat → Nat) × Nat × (Option Nat) × (Nat → Nat) × Nat) => (thCa c0 w cc ac = 0 → r = (oI (kvF cc ac rc nm st an (c0.toNatClampNeg) (w.toNatClampNeg))))) (wr_B D vwCl (wR kA qr cc ac co ad rc nm st an svm cnt tx len th xf xt xs xa xw xc xk xp pt wr xm mny) (tyK kA) s.heap.size (fun u => (wR kA qr cc ac co ad rc nm st an svm cnt tx len (thCa c0 w cc ac) u.1 u.2.1 u.2.2.1 u.2.2.2.1 u.2.2.2.2.1 u.2.2.2.2.2.1 u.2.2.2.2.2.2.1 u.2.2.2.2.2.2.2.1 u.2.2.2.2.2.2.2.2.1 u.2.2.2.2.2.2.2.2.2.1 u.2.2.2.2.2.2.2.2.2.2.1 u.2.2.2.2.2.2.2.2.2.2.2))) A) ([.ref (qr 0), .int c0, .int w] : List Value).toArray s 0 0 A) (F0 mQ 31 ls [.int (bI true)])
      refine lv_if_eq (tgt := 36) hx hb dX6_caseOf_31 (by decide) (fun h => absurd h (by decide)) (fun _ => ?_)
      refine lv_iconst (v := (nI 0)) hx hb dX6_caseOf_34 (by decide) ?_
      have hth : thCa c0 w cc ac = (thF true true) := (by first | (unfold thCa; rw [c6, c20]; first | done | rfl) | (unfold thCa; rw [c6]; first | done | rfl))
      have hw9 : (wR kA qr cc ac co ad rc nm st an svm cnt tx len (thF true true) xf xt xs xa xw xc xk xp pt wr xm mny) = (wR kA qr cc ac co ad rc nm st an svm cnt tx len (thCa c0 w cc ac) xf xt xs xa xw xc xk xp pt wr xm mny) := (by rw [hth]; first | done | rfl)
      rw [hw9] at hP hD
      exact n_wreti hx hb hr hlocks (post := fun (r : Int32) (u : (Nat → Option Nat) × (Nat → Nat) × (Nat → Option Nat) × (Nat → Nat) × (Nat → Nat) × (Nat → Nat) × (Nat → Option Nat) × (Nat → Nat) × Nat × (Option Nat) × (Nat → Nat) × Nat) => (thCa c0 w cc ac = 0 → r = (oI (kvF cc ac rc nm st an (c0.toNatClampNeg) (w.toNatClampNeg))))) (w1 := fun u => (wR kA qr cc ac co ad rc nm st an svm cnt tx len (thCa c0 w cc ac) u.1 u.2.1 u.2.2.1 u.2.2.2.1 u.2.2.2.2.1 u.2.2.2.2.2.1 u.2.2.2.2.2.2.1 u.2.2.2.2.2.2.2.1 u.2.2.2.2.2.2.2.2.1 u.2.2.2.2.2.2.2.2.2.1 u.2.2.2.2.2.2.2.2.2.2.1 u.2.2.2.2.2.2.2.2.2.2.2)) (xf, xt, xs, xa, xw, xc, xk, xp, pt, wr, xm, mny) (by first | exact (fun h => absurd (h.symm.trans hth) (by decide)) | exact (fun _ => rfl)) hP hD hK hS hAe dX6_caseOf_35

set_option maxHeartbeats 4000000 in
set_option maxRecDepth 100000 in
theorem c_X6_answerOf (lQ : Launch) (D : va_G) (kA : Nat → ClassId) (qr : Nat → Nat) (cc : Nat) (ac : Nat → Nat) (co : Nat → Nat) (ad : Nat) (rc : Nat) (nm : Nat → Nat) (st : Nat → Nat) (an : Nat → Nat) (svm : Nat → TCt) (cnt : Nat) (tx : Nat → Nat) (len : Nat) (th : Nat) (xf : Nat → Option Nat) (xt : Nat → Nat) (xs : Nat → Option Nat) (xa : Nat → Nat) (xw : Nat → Nat) (xc : Nat → Nat) (xk : Nat → Option Nat) (xp : Nat → Nat) (pt : Nat) (wr : Option Nat) (xm : Nat → Nat) (mny : Nat) (c0 : Int32) (k : Int32) (sz : Nat) (hti : tIn cc ac co rc st an) : Met lQ yX6_answerOf wsX6_answerOf (rmN 3 64) (wr_Pc D vwCl [.ref (qr 0), .int c0, .int k] (wR kA qr cc ac co ad rc nm st an svm cnt tx len th xf xt xs xa xw xc xk xp pt wr xm mny) (tyK kA) sz) (va_Qi (S := (Nat → Option Nat) × (Nat → Nat) × (Nat → Option Nat) × (Nat → Nat) × (Nat → Nat) × (Nat → Nat) × (Nat → Option Nat) × (Nat → Nat) × Nat × (Option Nat) × (Nat → Nat) × Nat) (fun (r : Int32) (u : (Nat → Option Nat) × (Nat → Nat) × (Nat → Option Nat) × (Nat → Nat) × (Nat → Nat) × (Nat → Nat) × (Nat → Option Nat) × (Nat → Nat) × Nat × (Option Nat) × (Nat → Nat) × Nat) => (thAO c0 k cc ac = 0 → r = (nI (digF ac (k.toNatClampNeg) (c0.toNatClampNeg))))) (wr_B D vwCl (wR kA qr cc ac co ad rc nm st an svm cnt tx len th xf xt xs xa xw xc xk xp pt wr xm mny) (tyK kA) sz (fun u => (wR kA qr cc ac co ad rc nm st an svm cnt tx len (thAO c0 k cc ac) u.1 u.2.1 u.2.2.1 u.2.2.2.1 u.2.2.2.2.1 u.2.2.2.2.2.1 u.2.2.2.2.2.2.1 u.2.2.2.2.2.2.2.1 u.2.2.2.2.2.2.2.2.1 u.2.2.2.2.2.2.2.2.2.1 u.2.2.2.2.2.2.2.2.2.2.1 u.2.2.2.2.2.2.2.2.2.2.2))) (va_A (wR kA qr cc ac co ad rc nm st an svm cnt tx len th xf xt xs xa xw xc xk xp pt wr xm mny) sz)) 0 0 (va_A (wR kA qr cc ac co ad rc nm st an svm cnt tx len th xf xt xs xa xw xc xk xp pt wr xm mny) sz) := by
  refine Met.ofW (cc := cX6_answerOf) (maxL := 3) (ret := (some .int)) (by decide) rfl ?_
  intro pQ eQ s mQ args below meth cQ s₁ B hml hv
  obtain ⟨rfl, hsz, hP, hK, hD0⟩ := hv
  have hx := B.exec
  have hb := B.bytes
  have hr := B.returns
  have hts := atoms_spec (ws := wsX6_answerOf) B.pre
  have hown : s.vm.findClass RX6 = some mQ.cls := findClass_of_methodNamed B.named
  have hlocks : meth.locks = false := B.notSynchronized
  have hS0 : CallFix pQ mQ cQ cX6_answerOf 3 s ([.ref (qr 0), .int c0, .int k] : List Value).toArray wsX6_answerOf RX6 := ⟨hx, hb, hml, hown, hts⟩
  subst hsz
  have hD := hD0.self (sz := s.heap.size)
  generalize hAe : va_A (wR kA qr cc ac co ad rc nm st an svm cnt tx len th xf xt xs xa xw xc xk xp pt wr xm mny) s.heap.size = A at hD ⊢
  have hA : ∀ q : Nat, s.heap.size ≤ q → A q := fun q h => by rw [← hAe]; exact Or.inr h
  have hS : va_S A s.heap s.heap [] := va_S.rf
  skip
  have hl := lv_entry ([.ref (qr 0), .int c0, .int k]) (n := 3) (Nat.le_of_ble_eq_true rfl)
  rw [lg_entry_eq]
  generalize (lg_sl ([.ref (qr 0), .int c0, .int k]) ++ List.replicate (3 - (lg_sl ([.ref (qr 0), .int c0, .int k])).length) Slot.unset).toArray = ls at hl ⊢
  have hl : lv_has ls 3 [(0, .ref (qr 0)), (1, .int c0), (2, .int k)] := hl
  have hP : va_P D vwCl (wR kA qr cc ac co ad rc nm st an svm cnt tx len th xf xt xs xa xw xc xk xp pt wr xm mny) s.heap := hP
  have hD : va_D A (wR kA qr cc ac co ad rc nm st an svm cnt tx len th xf xt xs xa xw xc xk xp pt wr xm mny) := hD
  obtain ⟨hcc, hac, hco1, hrc, han10, hst⟩ := hti
  have han : ∀ j, j < rc → an j < 11 := fun j hj => Nat.lt_succ_of_lt (han10 j hj)
  have hco : ∀ k, k < cc → co k < 10 := fun k hk => (hco1 k hk).2
  have hP10 := prodF_1024 hcc hac
  refine lv_aload_n hx hb dX6_answerOf_0 rfl (lv_at hl 0 rfl) ?_
  refine lv_aload_n hx hb dX6_answerOf_1 rfl (lv_at hl 0 rfl) ?_
  refine lv_iload_n hx hb dX6_answerOf_2 rfl (lv_at hl 1 rfl) ?_
  refine n_cV (b := qr 0) (As := [.int c0]) (rest := [.ref (qr 0)]) (wc := (wR kA qr cc ac co ad rc nm st an svm cnt tx len th xf xt xs xa xw xc xk xp pt wr xm mny)) hS0 (c_X6_isCase lQ D kA qr cc ac co ad rc nm st an svm cnt tx len th xf xt xs xa xw xc xk xp pt wr xm mny c0 (by first | assumption | omega) (by first | assumption | omega)) (cwV 1 hts gX6_answerOf_X6_isCase rfl rfl rfl (by decide +kernel) ⟨Nat.le_of_ble_eq_true rfl, Nat.le_of_ble_eq_true rfl⟩) hP hK (q0 := 0) rfl rfl rfl rfl rfl hl.1 (Nat.le_of_ble_eq_true rfl) dX6_answerOf_3 ⟨Nat.le_refl _, Nat.le_refl _⟩ (fun r3 h3 => ?_)
  subst h3
  refine n_ifb_eq (b := inB c0 (prodF ac cc)) (tgt := 17) hx hb dX6_answerOf_6 (by decide) (fun c6 => ?_) (fun c6 => ?_)
  · refine lv_iconst (v := (nI 1)) hx hb dX6_answerOf_17 (by decide) ?_
    refine lv_goto (tgt := 22) hx hb dX6_answerOf_18 (by decide) ?_
    refine lv_iconst (v := (nI 0)) hx hb dX6_answerOf_22 (by decide) ?_
    refine n_wVi (b := qr 0) (As := [.int (bI true), .int (bI false)]) (rest := []) (wr := []) (ws' := fun u => (wR kA qr cc ac co ad rc nm st an svm cnt tx len (thF true false) xf xt xs xa xw xc xk xp pt wr xm mny)) hS0 (c_X6_throwing lQ D kA qr cc ac co ad rc nm st an svm cnt tx len th xf xt xs xa xw xc xk xp pt wr xm mny true false s.heap.size ) (cwV 2 hts gX6_answerOf_X6_throwing rfl rfl rfl (by decide +kernel) ⟨Nat.le_of_ble_eq_true rfl, Nat.le_of_ble_eq_true rfl⟩) hP hD hS hA hK hK (by simpa only [List.append_assoc, List.append_nil] using (List.Perm.of_eq (List.append_nil _).symm)) (fun u => List.Perm.symm (by simpa only [List.append_assoc, List.append_nil] using (List.Perm.of_eq (List.append_nil _).symm))) (q0 := 0) rfl rfl rfl rfl rfl hl.1 (Nat.le_of_ble_eq_true rfl) dX6_answerOf_23 ⟨Nat.le_refl _, Nat.le_refl _⟩ (fun r23 u23 H locs h23 hP hD hS => ?_)
    subst h23
    have hP : va_P D vwCl (wR kA qr cc ac co ad rc nm st an svm cnt tx len (thF true false) xf xt xs xa xw xc xk xp pt wr xm mny) H := hP
    have hD : va_D A (wR kA qr cc ac co ad rc nm st an svm cnt tx len (thF true false) xf xt xs xa xw xc xk xp pt wr xm mny) := hD
    show W pQ lQ eQ (headSpec wsX6_answerOf (rmN 3 64)).room s mQ ([.ref (qr 0), .int c0, .int k] : List Value).toArray below meth cQ H locs 0 0 (MQ below (va_Qi (S := (Nat → Option Nat) × (Nat → Nat) × (Nat → Option Nat) × (Nat → Nat) × (Nat → Nat) × (Nat → Nat) × (Nat → Option Nat) × (Nat → Nat) × Nat × (Option Nat) × (Nat → Nat) × Nat) (fun (r : Int32) (u : (Nat → Option Nat) × (Nat → Nat) × (Nat → Option Nat) × (Nat → Nat) × (Nat → Nat) × (Nat → Nat) × (Nat → Option Nat) × (Nat → Nat) × Nat × (Option Nat) × (Nat → Nat) × Nat) => (thAO c0 k cc ac = 0 → r = (nI (digF ac (k.toNatClampNeg) (c0.toNatClampNeg))))) (wr_B D vwCl (wR kA qr cc ac co ad rc nm st an svm cnt tx len th xf xt xs xa xw xc xk xp pt wr xm mny) (tyK kA) s.heap.size (fun u => (wR kA qr cc ac co ad rc nm st an svm cnt tx len (thAO c0 k cc ac) u.1 u.2.1 u.2.2.1 u.2.2.2.1 u.2.2.2.2.1 u.2.2.2.2.2.1 u.2.2.2.2.2.2.1 u.2.2.2.2.2.2.2.1 u.2.2.2.2.2.2.2.2.1 u.2.2.2.2.2.2.2.2.2.1 u.2.2.2.2.2.2.2.2.2.2.1 u.2.2.2.2.2.2.2.2.2.2.2))) A) ([.ref (qr 0), .int c0, .int k] : List Value).toArray s 0 0 A) (F0 mQ 26 ls [.int (bI true)])
    refine lv_if_eq (tgt := 33) hx hb dX6_answerOf_26 (by decide) (fun h => absurd h (by decide)) (fun _ => ?_)
    refine lv_iconst (v := (nI 0)) hx hb dX6_answerOf_29 (by decide) ?_
    refine lv_goto (tgt := 39) hx hb dX6_answerOf_30 (by decide) ?_
    have hth : thAO c0 k cc ac = (thF true false) := (by first | (unfold thAO; rw [c6, c14]; first | done | rfl) | (unfold thAO; rw [c14, Bool.and_false]; first | done | rfl) | (unfold thAO; rw [c6]; first | done | rfl))
    have hw9 : (wR kA qr cc ac co ad rc nm st an svm cnt tx len (thF true false) xf xt xs xa xw xc xk xp pt wr xm mny) = (wR kA qr cc ac co ad rc nm st an svm cnt tx len (thAO c0 k cc ac) xf xt xs xa xw xc xk xp pt wr xm mny) := (by rw [hth]; first | done | rfl)
    rw [hw9] at hP hD
    exact n_wreti hx hb hr hlocks (post := fun (r : Int32) (u : (Nat → Option Nat) × (Nat → Nat) × (Nat → Option Nat) × (Nat → Nat) × (Nat → Nat) × (Nat → Nat) × (Nat → Option Nat) × (Nat → Nat) × Nat × (Option Nat) × (Nat → Nat) × Nat) => (thAO c0 k cc ac = 0 → r = (nI (digF ac (k.toNatClampNeg) (c0.toNatClampNeg))))) (w1 := fun u => (wR kA qr cc ac co ad rc nm st an svm cnt tx len (thAO c0 k cc ac) u.1 u.2.1 u.2.2.1 u.2.2.2.1 u.2.2.2.2.1 u.2.2.2.2.2.1 u.2.2.2.2.2.2.1 u.2.2.2.2.2.2.2.1 u.2.2.2.2.2.2.2.2.1 u.2.2.2.2.2.2.2.2.2.1 u.2.2.2.2.2.2.2.2.2.2.1 u.2.2.2.2.2.2.2.2.2.2.2)) (xf, xt, xs, xa, xw, xc, xk, xp, pt, wr, xm, mny) (by first | exact (fun h => absurd (h.symm.trans hth) (by decide)) | exact (fun _ => rfl)) hP hD hK hS hAe dX6_answerOf_39
  · refine lv_aload_n hx hb dX6_answerOf_9 rfl (lv_at hl 0 rfl) ?_
    refine lv_iload_n hx hb dX6_answerOf_10 rfl (lv_at hl 2 rfl) ?_
    refine n_cV (b := qr 0) (As := [.int k]) (rest := [.ref (qr 0)]) (wc := (wR kA qr cc ac co ad rc nm st an svm cnt tx len th xf xt xs xa xw xc xk xp pt wr xm mny)) hS0 (c_X6_isCondition lQ D kA qr cc ac co ad rc nm st an svm cnt tx len th xf xt xs xa xw xc xk xp pt wr xm mny k (by first | assumption | omega)) (cwV 1 hts gX6_answerOf_X6_isCondition rfl rfl rfl (by decide +kernel) ⟨Nat.le_of_ble_eq_true rfl, Nat.le_of_ble_eq_true rfl⟩) hP hK (q0 := 0) rfl rfl rfl rfl rfl hl.1 (Nat.le_of_ble_eq_true rfl) dX6_answerOf_11 ⟨Nat.le_refl _, Nat.le_refl _⟩ (fun r11 h11 => ?_)
    subst h11
    refine n_ifb_ne (b := inB k cc) (tgt := 21) hx hb dX6_answerOf_14 (by decide) (fun c14 => ?_) (fun c14 => ?_)
    · refine lv_iconst (v := (nI 0)) hx hb dX6_answerOf_21 (by decide) ?_
      refine lv_iconst (v := (nI 0)) hx hb dX6_answerOf_22 (by decide) ?_
      refine n_wVi (b := qr 0) (As := [.int (bI false), .int (bI false)]) (rest := []) (wr := []) (ws' := fun u => (wR kA qr cc ac co ad rc nm st an svm cnt tx len (thF false false) xf xt xs xa xw xc xk xp pt wr xm mny)) hS0 (c_X6_throwing lQ D kA qr cc ac co ad rc nm st an svm cnt tx len th xf xt xs xa xw xc xk xp pt wr xm mny false false s.heap.size ) (cwV 2 hts gX6_answerOf_X6_throwing rfl rfl rfl (by decide +kernel) ⟨Nat.le_of_ble_eq_true rfl, Nat.le_of_ble_eq_true rfl⟩) hP hD hS hA hK hK (by simpa only [List.append_assoc, List.append_nil] using (List.Perm.of_eq (List.append_nil _).symm)) (fun u => List.Perm.symm (by simpa only [List.append_assoc, List.append_nil] using (List.Perm.of_eq (List.append_nil _).symm))) (q0 := 0) rfl rfl rfl rfl rfl hl.1 (Nat.le_of_ble_eq_true rfl) dX6_answerOf_23 ⟨Nat.le_refl _, Nat.le_refl _⟩ (fun r23 u23 H locs h23 hP hD hS => ?_)
      subst h23
      have hP : va_P D vwCl (wR kA qr cc ac co ad rc nm st an svm cnt tx len (thF false false) xf xt xs xa xw xc xk xp pt wr xm mny) H := hP
      have hD : va_D A (wR kA qr cc ac co ad rc nm st an svm cnt tx len (thF false false) xf xt xs xa xw xc xk xp pt wr xm mny) := hD
      show W pQ lQ eQ (headSpec wsX6_answerOf (rmN 3 64)).room s mQ ([.ref (qr 0), .int c0, .int k] : List Value).toArray below meth cQ H locs 0 0 (MQ below (va_Qi (S := (Nat → Option Nat) × (Nat → Nat) × (Nat → Option Nat) × (Nat → Nat) × (Nat → Nat) × (Nat → Nat) × (Nat → Option Nat) × (Nat → Nat) × Nat × (Option Nat) × (Nat → Nat) × Nat) (fun (r : Int32) (u : (Nat → Option Nat) × (Nat → Nat) × (Nat → Option Nat) × (Nat → Nat) × (Nat → Nat) × (Nat → Nat) × (Nat → Option Nat) × (Nat → Nat) × Nat × (Option Nat) × (Nat → Nat) × Nat) => (thAO c0 k cc ac = 0 → r = (nI (digF ac (k.toNatClampNeg) (c0.toNatClampNeg))))) (wr_B D vwCl (wR kA qr cc ac co ad rc nm st an svm cnt tx len th xf xt xs xa xw xc xk xp pt wr xm mny) (tyK kA) s.heap.size (fun u => (wR kA qr cc ac co ad rc nm st an svm cnt tx len (thAO c0 k cc ac) u.1 u.2.1 u.2.2.1 u.2.2.2.1 u.2.2.2.2.1 u.2.2.2.2.2.1 u.2.2.2.2.2.2.1 u.2.2.2.2.2.2.2.1 u.2.2.2.2.2.2.2.2.1 u.2.2.2.2.2.2.2.2.2.1 u.2.2.2.2.2.2.2.2.2.2.1 u.2.2.2.2.2.2.2.2.2.2.2))) A) ([.ref (qr 0), .int c0, .int k] : List Value).toArray s 0 0 A) (F0 mQ 26 ls [.int (bI false)])
      refine lv_if_eq (tgt := 33) hx hb dX6_answerOf_26 (by decide) (fun _ => ?_) (fun h => absurd (by decide) h)
      obtain ⟨hk1, hk2⟩ := inB_c (by omega) c6
      have hl : lv_has ls 3 [(0, .ref (qr 0)), (1, .int (nI c0.toNatClampNeg)), (2, .int k)] := by rw [← hk1]; exact hl
      obtain ⟨hj1, hj2⟩ := inB_c (by omega) c14
      have hl : lv_has ls 3 [(0, .ref (qr 0)), (1, .int (nI c0.toNatClampNeg)), (2, .int (nI k.toNatClampNeg))] := by rw [← hj1]; exact hl
      refine lv_aload_n hx hb dX6_answerOf_33 rfl (lv_at hl 0 rfl) ?_
      refine lv_iload_n hx hb dX6_answerOf_34 rfl (lv_at hl 1 rfl) ?_
      refine lv_iload_n hx hb dX6_answerOf_35 rfl (lv_at hl 2 rfl) ?_
      refine n_cV (b := qr 0) (As := [.int (nI c0.toNatClampNeg), .int (nI k.toNatClampNeg)]) (rest := []) (wc := (wR kA qr cc ac co ad rc nm st an svm cnt tx len (thF false false) xf xt xs xa xw xc xk xp pt wr xm mny)) hS0 (c_X6_answer lQ D kA qr cc ac co ad rc nm st an svm cnt tx len (thF false false) xf xt xs xa xw xc xk xp pt wr xm mny c0.toNatClampNeg k.toNatClampNeg (by first | assumption | omega) (by first | assumption | omega) (by first | assumption | omega) (by first | assumption | omega)) (cwV 2 hts gX6_answerOf_X6_answer rfl rfl rfl (by decide +kernel) ⟨Nat.le_of_ble_eq_true rfl, Nat.le_of_ble_eq_true rfl⟩) hP hK (q0 := 0) rfl rfl rfl rfl rfl hl.1 (Nat.le_of_ble_eq_true rfl) dX6_answerOf_36 ⟨Nat.le_refl _, Nat.le_refl _⟩ (fun r36 h36 => ?_)
      subst h36
      have hth : thAO c0 k cc ac = (thF false false) := (by first | (unfold thAO; rw [c6, c14]; first | done | rfl) | (unfold thAO; rw [c14, Bool.and_false]; first | done | rfl) | (unfold thAO; rw [c6]; first | done | rfl))
      have hw9 : (wR kA qr cc ac co ad rc nm st an svm cnt tx len (thF false false) xf xt xs xa xw xc xk xp pt wr xm mny) = (wR kA qr cc ac co ad rc nm st an svm cnt tx len (thAO c0 k cc ac) xf xt xs xa xw xc xk xp pt wr xm mny) := (by rw [hth]; first | done | rfl)
      rw [hw9] at hP hD
      exact n_wreti hx hb hr hlocks (post := fun (r : Int32) (u : (Nat → Option Nat) × (Nat → Nat) × (Nat → Option Nat) × (Nat → Nat) × (Nat → Nat) × (Nat → Nat) × (Nat → Option Nat) × (Nat → Nat) × Nat × (Option Nat) × (Nat → Nat) × Nat) => (thAO c0 k cc ac = 0 → r = (nI (digF ac (k.toNatClampNeg) (c0.toNatClampNeg))))) (w1 := fun u => (wR kA qr cc ac co ad rc nm st an svm cnt tx len (thAO c0 k cc ac) u.1 u.2.1 u.2.2.1 u.2.2.2.1 u.2.2.2.2.1 u.2.2.2.2.2.1 u.2.2.2.2.2.2.1 u.2.2.2.2.2.2.2.1 u.2.2.2.2.2.2.2.2.1 u.2.2.2.2.2.2.2.2.2.1 u.2.2.2.2.2.2.2.2.2.2.1 u.2.2.2.2.2.2.2.2.2.2.2)) (xf, xt, xs, xa, xw, xc, xk, xp, pt, wr, xm, mny) (by first | exact (fun h => absurd (h.symm.trans hth) (by decide)) | exact (fun _ => rfl)) hP hD hK hS hAe dX6_answerOf_39
    · refine lv_iconst (v := (nI 1)) hx hb dX6_answerOf_17 (by decide) ?_
      refine lv_goto (tgt := 22) hx hb dX6_answerOf_18 (by decide) ?_
      refine lv_iconst (v := (nI 0)) hx hb dX6_answerOf_22 (by decide) ?_
      refine n_wVi (b := qr 0) (As := [.int (bI true), .int (bI false)]) (rest := []) (wr := []) (ws' := fun u => (wR kA qr cc ac co ad rc nm st an svm cnt tx len (thF true false) xf xt xs xa xw xc xk xp pt wr xm mny)) hS0 (c_X6_throwing lQ D kA qr cc ac co ad rc nm st an svm cnt tx len th xf xt xs xa xw xc xk xp pt wr xm mny true false s.heap.size ) (cwV 2 hts gX6_answerOf_X6_throwing rfl rfl rfl (by decide +kernel) ⟨Nat.le_of_ble_eq_true rfl, Nat.le_of_ble_eq_true rfl⟩) hP hD hS hA hK hK (by simpa only [List.append_assoc, List.append_nil] using (List.Perm.of_eq (List.append_nil _).symm)) (fun u => List.Perm.symm (by simpa only [List.append_assoc, List.append_nil] using (List.Perm.of_eq (List.append_nil _).symm))) (q0 := 0) rfl rfl rfl rfl rfl hl.1 (Nat.le_of_ble_eq_true rfl) dX6_answerOf_23 ⟨Nat.le_refl _, Nat.le_refl _⟩ (fun r23 u23 H locs h23 hP hD hS => ?_)
      subst h23
      have hP : va_P D vwCl (wR kA qr cc ac co ad rc nm st an svm cnt tx len (thF true false) xf xt xs xa xw xc xk xp pt wr xm mny) H := hP
      have hD : va_D A (wR kA qr cc ac co ad rc nm st an svm cnt tx len (thF true false) xf xt xs xa xw xc xk xp pt wr xm mny) := hD
      show W pQ lQ eQ (headSpec wsX6_answerOf (rmN 3 64)).room s mQ ([.ref (qr 0), .int c0, .int k] : List Value).toArray below meth cQ H locs 0 0 (MQ below (va_Qi (S := (Nat → Option Nat) × (Nat → Nat) × (Nat → Option Nat) × (Nat → Nat) × (Nat → Nat) × (Nat → Nat) × (Nat → Option Nat) × (Nat → Nat) × Nat × (Option Nat) × (Nat → Nat) × Nat) (fun (r : Int32) (u : (Nat → Option Nat) × (Nat → Nat) × (Nat → Option Nat) × (Nat → Nat) × (Nat → Nat) × (Nat → Nat) × (Nat → Option Nat) × (Nat → Nat) × Nat × (Option Nat) × (Nat → Nat) × Nat) => (thAO c0 k cc ac = 0 → r = (nI (digF ac (k.toNatClampNeg) (c0.toNatClampNeg))))) (wr_B D vwCl (wR kA qr cc ac co ad rc nm st an svm cnt tx len th xf xt xs xa xw xc xk xp pt wr xm mny) (tyK kA) s.heap.size (fun u => (wR kA qr cc ac co ad rc nm st an svm cnt tx len (thAO c0 k cc ac) u.1 u.2.1 u.2.2.1 u.2.2.2.1 u.2.2.2.2.1 u.2.2.2.2.2.1 u.2.2.2.2.2.2.1 u.2.2.2.2.2.2.2.1 u.2.2.2.2.2.2.2.2.1 u.2.2.2.2.2.2.2.2.2.1 u.2.2.2.2.2.2.2.2.2.2.1 u.2.2.2.2.2.2.2.2.2.2.2))) A) ([.ref (qr 0), .int c0, .int k] : List Value).toArray s 0 0 A) (F0 mQ 26 ls [.int (bI true)])
      refine lv_if_eq (tgt := 33) hx hb dX6_answerOf_26 (by decide) (fun h => absurd h (by decide)) (fun _ => ?_)
      refine lv_iconst (v := (nI 0)) hx hb dX6_answerOf_29 (by decide) ?_
      refine lv_goto (tgt := 39) hx hb dX6_answerOf_30 (by decide) ?_
      have hth : thAO c0 k cc ac = (thF true false) := (by first | (unfold thAO; rw [c6, c14]; first | done | rfl) | (unfold thAO; rw [c14, Bool.and_false]; first | done | rfl) | (unfold thAO; rw [c6]; first | done | rfl))
      have hw9 : (wR kA qr cc ac co ad rc nm st an svm cnt tx len (thF true false) xf xt xs xa xw xc xk xp pt wr xm mny) = (wR kA qr cc ac co ad rc nm st an svm cnt tx len (thAO c0 k cc ac) xf xt xs xa xw xc xk xp pt wr xm mny) := (by rw [hth]; first | done | rfl)
      rw [hw9] at hP hD
      exact n_wreti hx hb hr hlocks (post := fun (r : Int32) (u : (Nat → Option Nat) × (Nat → Nat) × (Nat → Option Nat) × (Nat → Nat) × (Nat → Nat) × (Nat → Nat) × (Nat → Option Nat) × (Nat → Nat) × Nat × (Option Nat) × (Nat → Nat) × Nat) => (thAO c0 k cc ac = 0 → r = (nI (digF ac (k.toNatClampNeg) (c0.toNatClampNeg))))) (w1 := fun u => (wR kA qr cc ac co ad rc nm st an svm cnt tx len (thAO c0 k cc ac) u.1 u.2.1 u.2.2.1 u.2.2.2.1 u.2.2.2.2.1 u.2.2.2.2.2.1 u.2.2.2.2.2.2.1 u.2.2.2.2.2.2.2.1 u.2.2.2.2.2.2.2.2.1 u.2.2.2.2.2.2.2.2.2.1 u.2.2.2.2.2.2.2.2.2.2.1 u.2.2.2.2.2.2.2.2.2.2.2)) (xf, xt, xs, xa, xw, xc, xk, xp, pt, wr, xm, mny) (by first | exact (fun h => absurd (h.symm.trans hth) (by decide)) | exact (fun _ => rfl)) hP hD hK hS hAe dX6_answerOf_39

set_option maxHeartbeats 4000000 in
set_option maxRecDepth 100000 in
theorem c_X6_whole (lQ : Launch) (D : va_G) (kA : Nat → ClassId) (qr : Nat → Nat) (cc : Nat) (ac : Nat → Nat) (co : Nat → Nat) (ad : Nat) (rc : Nat) (nm : Nat → Nat) (st : Nat → Nat) (an : Nat → Nat) (svm : Nat → TCt) (cnt : Nat) (tx : Nat → Nat) (len : Nat) (th : Nat) (xf : Nat → Option Nat) (xt : Nat → Nat) (xs : Nat → Option Nat) (xa : Nat → Nat) (xw : Nat → Nat) (xc : Nat → Nat) (xk : Nat → Option Nat) (xp : Nat → Nat) (pt : Nat) (wr : Option Nat) (xm : Nat → Nat) (mny : Nat) (w : Int32) (sz : Nat) (hti : tIn cc ac co rc st an) : Met lQ yX6_whole wsX6_whole (rmN 6 135) (wr_Pc D vwCl [.ref (qr 0), .int w] (wR kA qr cc ac co ad rc nm st an svm cnt tx len th xf xt xs xa xw xc xk xp pt wr xm mny) (tyK kA) sz) (va_Qi (S := (Nat → Option Nat) × (Nat → Nat) × (Nat → Option Nat) × (Nat → Nat) × (Nat → Nat) × (Nat → Nat) × (Nat → Option Nat) × (Nat → Nat) × Nat × (Option Nat) × (Nat → Nat) × Nat) (fun (r : Int32) (u : (Nat → Option Nat) × (Nat → Nat) × (Nat → Option Nat) × (Nat → Nat) × (Nat → Nat) × (Nat → Nat) × (Nat → Option Nat) × (Nat → Nat) × Nat × (Option Nat) × (Nat → Nat) × Nat) => (thWh w = 0 → r = (oI (wvF cc ac co ad rc st an len (w.toNatClampNeg))))) (wr_B D vwCl (wR kA qr cc ac co ad rc nm st an svm cnt tx len th xf xt xs xa xw xc xk xp pt wr xm mny) (tyK kA) sz (fun u => (wR kA qr cc ac co ad rc nm st an svm cnt tx len (thWh w) u.1 u.2.1 u.2.2.1 u.2.2.2.1 u.2.2.2.2.1 u.2.2.2.2.2.1 u.2.2.2.2.2.2.1 u.2.2.2.2.2.2.2.1 u.2.2.2.2.2.2.2.2.1 u.2.2.2.2.2.2.2.2.2.1 u.2.2.2.2.2.2.2.2.2.2.1 u.2.2.2.2.2.2.2.2.2.2.2))) (va_A (wR kA qr cc ac co ad rc nm st an svm cnt tx len th xf xt xs xa xw xc xk xp pt wr xm mny) sz)) 0 0 (va_A (wR kA qr cc ac co ad rc nm st an svm cnt tx len th xf xt xs xa xw xc xk xp pt wr xm mny) sz) := by
  refine Met.ofW (cc := cX6_whole) (maxL := 2) (ret := (some .int)) (by decide) rfl ?_
  intro pQ eQ s mQ args below meth cQ s₁ B hml hv
  obtain ⟨rfl, hsz, hP, hK, hD0⟩ := hv
  have hx := B.exec
  have hb := B.bytes
  have hr := B.returns
  have hts := atoms_spec (ws := wsX6_whole) B.pre
  have hown : s.vm.findClass RX6 = some mQ.cls := findClass_of_methodNamed B.named
  have hlocks : meth.locks = false := B.notSynchronized
  have hS0 : CallFix pQ mQ cQ cX6_whole 2 s ([.ref (qr 0), .int w] : List Value).toArray wsX6_whole RX6 := ⟨hx, hb, hml, hown, hts⟩
  subst hsz
  have hD := hD0.self (sz := s.heap.size)
  generalize hAe : va_A (wR kA qr cc ac co ad rc nm st an svm cnt tx len th xf xt xs xa xw xc xk xp pt wr xm mny) s.heap.size = A at hD ⊢
  have hA : ∀ q : Nat, s.heap.size ≤ q → A q := fun q h => by rw [← hAe]; exact Or.inr h
  have hS : va_S A s.heap s.heap [] := va_S.rf
  skip
  have hl := lv_entry ([.ref (qr 0), .int w]) (n := 2) (Nat.le_of_ble_eq_true rfl)
  rw [lg_entry_eq]
  generalize (lg_sl ([.ref (qr 0), .int w]) ++ List.replicate (2 - (lg_sl ([.ref (qr 0), .int w])).length) Slot.unset).toArray = ls at hl ⊢
  have hl : lv_has ls 2 [(0, .ref (qr 0)), (1, .int w)] := hl
  have hP : va_P D vwCl (wR kA qr cc ac co ad rc nm st an svm cnt tx len th xf xt xs xa xw xc xk xp pt wr xm mny) s.heap := hP
  have hD : va_D A (wR kA qr cc ac co ad rc nm st an svm cnt tx len th xf xt xs xa xw xc xk xp pt wr xm mny) := hD
  obtain ⟨hcc, hac, hco1, hrc, han10, hst⟩ := hti
  have han : ∀ j, j < rc → an j < 11 := fun j hj => Nat.lt_succ_of_lt (han10 j hj)
  have hco : ∀ k, k < cc → co k < 10 := fun k hk => (hco1 k hk).2
  have hP10 := prodF_1024 hcc hac
  refine lv_aload_n hx hb dX6_whole_0 rfl (lv_at hl 0 rfl) ?_
  refine lv_iload_n hx hb dX6_whole_1 rfl (lv_at hl 1 rfl) ?_
  refine lv_iconst (v := (nI 0)) hx hb dX6_whole_2 (by decide) ?_
  refine lv_bipush (v := (nI 11)) hx hb dX6_whole_3 (by decide) ?_
  refine n_cS (As := [.int w, .int (nI 0), .int (nI 11)]) (rest := [.ref (qr 0)]) (wc := []) hS0 (c_X6_in lQ D kA w (nI 0) (nI 11) ) (va_cwS 3 hts gX6_whole_X6_in rfl rfl rfl (by decide +kernel) ⟨Nat.le_of_ble_eq_true rfl, Nat.le_of_ble_eq_true rfl⟩) (hP.mem (ws' := []) (fun qQ h => absurd h List.not_mem_nil)) hK rfl rfl hl.1 (Nat.le_of_ble_eq_true rfl) dX6_whole_5 ⟨Nat.le_refl _, Nat.le_refl _⟩ (fun r5 h5 => ?_)
  subst h5
  refine n_ifb_ne (b := inI w (nI 0) (nI 11)) (tgt := 15) hx hb dX6_whole_8 (by decide) (fun c8 => ?_) (fun c8 => ?_)
  · rw [inI_12] at c8
    refine lv_iconst (v := (nI 0)) hx hb dX6_whole_15 (by decide) ?_
    refine lv_iconst (v := (nI 0)) hx hb dX6_whole_16 (by decide) ?_
    refine n_wVi (b := qr 0) (As := [.int (bI false), .int (bI false)]) (rest := []) (wr := []) (ws' := fun u => (wR kA qr cc ac co ad rc nm st an svm cnt tx len (thF false false) xf xt xs xa xw xc xk xp pt wr xm mny)) hS0 (c_X6_throwing lQ D kA qr cc ac co ad rc nm st an svm cnt tx len th xf xt xs xa xw xc xk xp pt wr xm mny false false s.heap.size ) (cwV 2 hts gX6_whole_X6_throwing rfl rfl rfl (by decide +kernel) ⟨Nat.le_of_ble_eq_true rfl, Nat.le_of_ble_eq_true rfl⟩) hP hD hS hA hK hK (by simpa only [List.append_assoc, List.append_nil] using (List.Perm.of_eq (List.append_nil _).symm)) (fun u => List.Perm.symm (by simpa only [List.append_assoc, List.append_nil] using (List.Perm.of_eq (List.append_nil _).symm))) (q0 := 0) rfl rfl rfl rfl rfl hl.1 (Nat.le_of_ble_eq_true rfl) dX6_whole_17 ⟨Nat.le_refl _, Nat.le_refl _⟩ (fun r17 u17 H locs h17 hP hD hS => ?_)
    subst h17
    have hP : va_P D vwCl (wR kA qr cc ac co ad rc nm st an svm cnt tx len (thF false false) xf xt xs xa xw xc xk xp pt wr xm mny) H := hP
    have hD : va_D A (wR kA qr cc ac co ad rc nm st an svm cnt tx len (thF false false) xf xt xs xa xw xc xk xp pt wr xm mny) := hD
    show W pQ lQ eQ (headSpec wsX6_whole (rmN 6 135)).room s mQ ([.ref (qr 0), .int w] : List Value).toArray below meth cQ H locs 0 0 (MQ below (va_Qi (S := (Nat → Option Nat) × (Nat → Nat) × (Nat → Option Nat) × (Nat → Nat) × (Nat → Nat) × (Nat → Nat) × (Nat → Option Nat) × (Nat → Nat) × Nat × (Option Nat) × (Nat → Nat) × Nat) (fun (r : Int32) (u : (Nat → Option Nat) × (Nat → Nat) × (Nat → Option Nat) × (Nat → Nat) × (Nat → Nat) × (Nat → Nat) × (Nat → Option Nat) × (Nat → Nat) × Nat × (Option Nat) × (Nat → Nat) × Nat) => (thWh w = 0 → r = (oI (wvF cc ac co ad rc st an len (w.toNatClampNeg))))) (wr_B D vwCl (wR kA qr cc ac co ad rc nm st an svm cnt tx len th xf xt xs xa xw xc xk xp pt wr xm mny) (tyK kA) s.heap.size (fun u => (wR kA qr cc ac co ad rc nm st an svm cnt tx len (thWh w) u.1 u.2.1 u.2.2.1 u.2.2.2.1 u.2.2.2.2.1 u.2.2.2.2.2.1 u.2.2.2.2.2.2.1 u.2.2.2.2.2.2.2.1 u.2.2.2.2.2.2.2.2.1 u.2.2.2.2.2.2.2.2.2.1 u.2.2.2.2.2.2.2.2.2.2.1 u.2.2.2.2.2.2.2.2.2.2.2))) A) ([.ref (qr 0), .int w] : List Value).toArray s 0 0 A) (F0 mQ 20 ls [.int (bI false)])
    refine lv_if_eq (tgt := 25) hx hb dX6_whole_20 (by decide) (fun _ => ?_) (fun h => absurd (by decide) h)
    obtain ⟨hw1, hw2⟩ := inB_c (by decide) c8
    have hl : lv_has ls 2 [(0, .ref (qr 0)), (1, .int (nI w.toNatClampNeg))] := by rw [← hw1]; exact hl
    refine lv_aload_n hx hb dX6_whole_25 rfl (lv_at hl 0 rfl) ?_
    refine lv_iconst (v := (oI none)) hx hb dX6_whole_26 (by decide) ?_
    refine n_wVv (b := qr 0) (As := [.int (oI none)]) (rest := []) (wr := []) (ws' := fun u => (wR kA qr cc ac co ad rc nm st an svm cnt tx len (thF false false) u.1 u.2.1 u.2.2.1 u.2.2.2 xw xc xk xp pt wr xm mny)) hS0 (c_X6_lays lQ D kA qr cc ac co ad rc nm st an svm cnt tx len (thF false false) xf xt xs xa xw xc xk xp pt wr xm mny H.size (by first | assumption | omega) (by first | assumption | omega) (by first | assumption | omega) (by first | assumption | omega) (by first | assumption | omega)) (cwV 1 hts gX6_whole_X6_lays rfl rfl rfl (by decide +kernel) ⟨Nat.le_of_ble_eq_true rfl, Nat.le_of_ble_eq_true rfl⟩) hP hD hS hA hK hK (by simpa only [List.append_assoc, List.append_nil] using (List.Perm.of_eq (List.append_nil _).symm)) (fun u => List.Perm.symm (by simpa only [List.append_assoc, List.append_nil] using (List.Perm.of_eq (List.append_nil _).symm))) (q0 := 0) rfl rfl rfl rfl rfl hl.1 (Nat.le_of_ble_eq_true rfl) dX6_whole_27 ⟨Nat.le_refl _, Nat.le_refl _⟩ (fun u27 H locs h27 hP hD hS => ?_)
    obtain ⟨xf1_27, xt1_27, xs1_27, xa1_27⟩ := u27
    have h27_1 := h27
    try dsimp only at h27_1
    have hP : va_P D vwCl (wR kA qr cc ac co ad rc nm st an svm cnt tx len (thF false false) xf1_27 xt1_27 xs1_27 xa1_27 xw xc xk xp pt wr xm mny) H := hP
    have hD : va_D A (wR kA qr cc ac co ad rc nm st an svm cnt tx len (thF false false) xf1_27 xt1_27 xs1_27 xa1_27 xw xc xk xp pt wr xm mny) := hD
    have hxa9 : ∀ c, c < prodF ac cc → xa1_27 c < 11 := fun c hc => by rw [(h27_1 c hc).2.2.2]; exact actO_lt han
    refine lv_aload_n hx hb dX6_whole_30 rfl (lv_at hl 0 rfl) ?_
    refine n_wVv (b := qr 0) (As := []) (rest := []) (wr := []) (ws' := fun u => (wR kA qr cc ac co ad rc nm st an svm cnt tx len (thF false false) xf1_27 xt1_27 xs1_27 xa1_27 u.1 u.2.1 u.2.2.1 u.2.2.2 pt wr xm mny)) hS0 (c_X6_laysPlans lQ D kA qr cc ac co ad rc nm st an svm cnt tx len (thF false false) xf1_27 xt1_27 xs1_27 xa1_27 xw xc xk xp pt wr xm mny H.size (by first | assumption | omega) (by first | assumption | omega) (by first | assumption | omega) hxa9) (cwV 0 hts gX6_whole_X6_laysPlans rfl rfl rfl (by decide +kernel) ⟨Nat.le_of_ble_eq_true rfl, Nat.le_of_ble_eq_true rfl⟩) hP hD hS hA hK hK (by simpa only [List.append_assoc, List.append_nil] using (List.Perm.of_eq (List.append_nil _).symm)) (fun u => List.Perm.symm (by simpa only [List.append_assoc, List.append_nil] using (List.Perm.of_eq (List.append_nil _).symm))) (q0 := 0) rfl rfl rfl rfl rfl hl.1 (Nat.le_of_ble_eq_true rfl) dX6_whole_31 ⟨Nat.le_refl _, Nat.le_refl _⟩ (fun u31 H locs h31 hP hD hS => ?_)
    obtain ⟨xw1_31, xc1_31, xk1_31, xp1_31⟩ := u31
    obtain ⟨h31_1, h31_2⟩ := h31
    try dsimp only at h31_1 h31_2
    have hP : va_P D vwCl (wR kA qr cc ac co ad rc nm st an svm cnt tx len (thF false false) xf1_27 xt1_27 xs1_27 xa1_27 xw1_31 xc1_31 xk1_31 xp1_31 pt wr xm mny) H := hP
    have hD : va_D A (wR kA qr cc ac co ad rc nm st an svm cnt tx len (thF false false) xf1_27 xt1_27 xs1_27 xa1_27 xw1_31 xc1_31 xk1_31 xp1_31 pt wr xm mny) := hD
    refine lv_aload_n hx hb dX6_whole_34 rfl (lv_at hl 0 rfl) ?_
    refine lv_iload_n hx hb dX6_whole_35 rfl (lv_at hl 1 rfl) ?_
    refine n_cV (b := qr 0) (As := [.int (nI w.toNatClampNeg)]) (rest := []) (wc := (wR kA qr cc ac co ad rc nm st an svm cnt tx len (thF false false) xf1_27 xt1_27 xs1_27 xa1_27 xw1_31 xc1_31 xk1_31 xp1_31 pt wr xm mny)) hS0 (c_X6_wholeValue lQ D kA qr cc ac co ad rc nm st an svm cnt tx len (thF false false) xf1_27 xt1_27 xs1_27 xa1_27 xw1_31 xc1_31 xk1_31 xp1_31 pt wr xm mny w.toNatClampNeg (by first | assumption | omega) (by first | assumption | omega) (by first | assumption | omega) (by first | assumption | omega) (by first | assumption | omega) (by first | assumption | omega) h27_1 h31_1 (by first | assumption | omega)) (cwV 1 hts gX6_whole_X6_wholeValue rfl rfl rfl (by decide +kernel) ⟨Nat.le_of_ble_eq_true rfl, Nat.le_of_ble_eq_true rfl⟩) hP hK (q0 := 0) rfl rfl rfl rfl rfl hl.1 (Nat.le_of_ble_eq_true rfl) dX6_whole_36 ⟨Nat.le_refl _, Nat.le_refl _⟩ (fun r36 h36 => ?_)
    subst h36
    have hth : thWh w = (thF false false) := (by first | (unfold thWh; rw [c8]; first | done | rfl))
    have hw9 : (wR kA qr cc ac co ad rc nm st an svm cnt tx len (thF false false) xf1_27 xt1_27 xs1_27 xa1_27 xw1_31 xc1_31 xk1_31 xp1_31 pt wr xm mny) = (wR kA qr cc ac co ad rc nm st an svm cnt tx len (thWh w) xf1_27 xt1_27 xs1_27 xa1_27 xw1_31 xc1_31 xk1_31 xp1_31 pt wr xm mny) := (by rw [hth]; first | done | rfl)
    rw [hw9] at hP hD
    exact n_wreti hx hb hr hlocks (post := fun (r : Int32) (u : (Nat → Option Nat) × (Nat → Nat) × (Nat → Option Nat) × (Nat → Nat) × (Nat → Nat) × (Nat → Nat) × (Nat → Option Nat) × (Nat → Nat) × Nat × (Option Nat) × (Nat → Nat) × Nat) => (thWh w = 0 → r = (oI (wvF cc ac co ad rc st an len (w.toNatClampNeg))))) (w1 := fun u => (wR kA qr cc ac co ad rc nm st an svm cnt tx len (thWh w) u.1 u.2.1 u.2.2.1 u.2.2.2.1 u.2.2.2.2.1 u.2.2.2.2.2.1 u.2.2.2.2.2.2.1 u.2.2.2.2.2.2.2.1 u.2.2.2.2.2.2.2.2.1 u.2.2.2.2.2.2.2.2.2.1 u.2.2.2.2.2.2.2.2.2.2.1 u.2.2.2.2.2.2.2.2.2.2.2)) (xf1_27, xt1_27, xs1_27, xa1_27, xw1_31, xc1_31, xk1_31, xp1_31, pt, wr, xm, mny) (by first | exact (fun h => absurd (h.symm.trans hth) (by decide)) | exact (fun _ => rfl)) hP hD hK hS hAe dX6_whole_39
  · rw [inI_12] at c8
    refine lv_iconst (v := (nI 1)) hx hb dX6_whole_11 (by decide) ?_
    refine lv_goto (tgt := 16) hx hb dX6_whole_12 (by decide) ?_
    refine lv_iconst (v := (nI 0)) hx hb dX6_whole_16 (by decide) ?_
    refine n_wVi (b := qr 0) (As := [.int (bI true), .int (bI false)]) (rest := []) (wr := []) (ws' := fun u => (wR kA qr cc ac co ad rc nm st an svm cnt tx len (thF true false) xf xt xs xa xw xc xk xp pt wr xm mny)) hS0 (c_X6_throwing lQ D kA qr cc ac co ad rc nm st an svm cnt tx len th xf xt xs xa xw xc xk xp pt wr xm mny true false s.heap.size ) (cwV 2 hts gX6_whole_X6_throwing rfl rfl rfl (by decide +kernel) ⟨Nat.le_of_ble_eq_true rfl, Nat.le_of_ble_eq_true rfl⟩) hP hD hS hA hK hK (by simpa only [List.append_assoc, List.append_nil] using (List.Perm.of_eq (List.append_nil _).symm)) (fun u => List.Perm.symm (by simpa only [List.append_assoc, List.append_nil] using (List.Perm.of_eq (List.append_nil _).symm))) (q0 := 0) rfl rfl rfl rfl rfl hl.1 (Nat.le_of_ble_eq_true rfl) dX6_whole_17 ⟨Nat.le_refl _, Nat.le_refl _⟩ (fun r17 u17 H locs h17 hP hD hS => ?_)
    subst h17
    have hP : va_P D vwCl (wR kA qr cc ac co ad rc nm st an svm cnt tx len (thF true false) xf xt xs xa xw xc xk xp pt wr xm mny) H := hP
    have hD : va_D A (wR kA qr cc ac co ad rc nm st an svm cnt tx len (thF true false) xf xt xs xa xw xc xk xp pt wr xm mny) := hD
    show W pQ lQ eQ (headSpec wsX6_whole (rmN 6 135)).room s mQ ([.ref (qr 0), .int w] : List Value).toArray below meth cQ H locs 0 0 (MQ below (va_Qi (S := (Nat → Option Nat) × (Nat → Nat) × (Nat → Option Nat) × (Nat → Nat) × (Nat → Nat) × (Nat → Nat) × (Nat → Option Nat) × (Nat → Nat) × Nat × (Option Nat) × (Nat → Nat) × Nat) (fun (r : Int32) (u : (Nat → Option Nat) × (Nat → Nat) × (Nat → Option Nat) × (Nat → Nat) × (Nat → Nat) × (Nat → Nat) × (Nat → Option Nat) × (Nat → Nat) × Nat × (Option Nat) × (Nat → Nat) × Nat) => (thWh w = 0 → r = (oI (wvF cc ac co ad rc st an len (w.toNatClampNeg))))) (wr_B D vwCl (wR kA qr cc ac co ad rc nm st an svm cnt tx len th xf xt xs xa xw xc xk xp pt wr xm mny) (tyK kA) s.heap.size (fun u => (wR kA qr cc ac co ad rc nm st an svm cnt tx len (thWh w) u.1 u.2.1 u.2.2.1 u.2.2.2.1 u.2.2.2.2.1 u.2.2.2.2.2.1 u.2.2.2.2.2.2.1 u.2.2.2.2.2.2.2.1 u.2.2.2.2.2.2.2.2.1 u.2.2.2.2.2.2.2.2.2.1 u.2.2.2.2.2.2.2.2.2.2.1 u.2.2.2.2.2.2.2.2.2.2.2))) A) ([.ref (qr 0), .int w] : List Value).toArray s 0 0 A) (F0 mQ 20 ls [.int (bI true)])
    refine lv_if_eq (tgt := 25) hx hb dX6_whole_20 (by decide) (fun h => absurd h (by decide)) (fun _ => ?_)
    refine lv_iconst (v := (nI 0)) hx hb dX6_whole_23 (by decide) ?_
    have hth : thWh w = (thF true false) := (by first | (unfold thWh; rw [c8]; first | done | rfl))
    have hw9 : (wR kA qr cc ac co ad rc nm st an svm cnt tx len (thF true false) xf xt xs xa xw xc xk xp pt wr xm mny) = (wR kA qr cc ac co ad rc nm st an svm cnt tx len (thWh w) xf xt xs xa xw xc xk xp pt wr xm mny) := (by rw [hth]; first | done | rfl)
    rw [hw9] at hP hD
    exact n_wreti hx hb hr hlocks (post := fun (r : Int32) (u : (Nat → Option Nat) × (Nat → Nat) × (Nat → Option Nat) × (Nat → Nat) × (Nat → Nat) × (Nat → Nat) × (Nat → Option Nat) × (Nat → Nat) × Nat × (Option Nat) × (Nat → Nat) × Nat) => (thWh w = 0 → r = (oI (wvF cc ac co ad rc st an len (w.toNatClampNeg))))) (w1 := fun u => (wR kA qr cc ac co ad rc nm st an svm cnt tx len (thWh w) u.1 u.2.1 u.2.2.1 u.2.2.2.1 u.2.2.2.2.1 u.2.2.2.2.2.1 u.2.2.2.2.2.2.1 u.2.2.2.2.2.2.2.1 u.2.2.2.2.2.2.2.2.1 u.2.2.2.2.2.2.2.2.2.1 u.2.2.2.2.2.2.2.2.2.2.1 u.2.2.2.2.2.2.2.2.2.2.2)) (xf, xt, xs, xa, xw, xc, xk, xp, pt, wr, xm, mny) (by first | exact (fun h => absurd (h.symm.trans hth) (by decide)) | exact (fun _ => rfl)) hP hD hK hS hAe dX6_whole_24

set_option maxHeartbeats 4000000 in
set_option maxRecDepth 100000 in
theorem c_X6_ask (lQ : Launch) (D : va_G) (kA : Nat → ClassId) (qr : Nat → Nat) (cc : Nat) (ac : Nat → Nat) (co : Nat → Nat) (ad : Nat) (rc : Nat) (nm : Nat → Nat) (st : Nat → Nat) (an : Nat → Nat) (svm : Nat → TCt) (cnt : Nat) (tx : Nat → Nat) (len : Nat) (th : Nat) (xf : Nat → Option Nat) (xt : Nat → Nat) (xs : Nat → Option Nat) (xa : Nat → Nat) (xw : Nat → Nat) (xc : Nat → Nat) (xk : Nat → Option Nat) (xp : Nat → Nat) (pt : Nat) (wr : Option Nat) (xm : Nat → Nat) (mny : Nat) (x : Int32) (sz : Nat) (hti : tIn cc ac co rc st an) : Met lQ yX6_ask wsX6_ask (rmN 6 133) (wr_Pc D vwCl [.ref (qr 0), .int x] (wR kA qr cc ac co ad rc nm st an svm cnt tx len th xf xt xs xa xw xc xk xp pt wr xm mny) (tyK kA) sz) (va_Qi (S := (Nat → Option Nat) × (Nat → Nat) × (Nat → Option Nat) × (Nat → Nat) × (Nat → Nat) × (Nat → Nat) × (Nat → Option Nat) × (Nat → Nat) × Nat × (Option Nat) × (Nat → Nat) × Nat) (fun (r : Int32) (u : (Nat → Option Nat) × (Nat → Nat) × (Nat → Option Nat) × (Nat → Nat) × (Nat → Nat) × (Nat → Nat) × (Nat → Option Nat) × (Nat → Nat) × Nat × (Option Nat) × (Nat → Nat) × Nat) => (thAs x cc ac = 0 → r = (oI (quF cc ac co (axN cc ac rc st an) (staV x cc ac))))) (wr_B D vwCl (wR kA qr cc ac co ad rc nm st an svm cnt tx len th xf xt xs xa xw xc xk xp pt wr xm mny) (tyK kA) sz (fun u => (wR kA qr cc ac co ad rc nm st an svm cnt tx len (thAs x cc ac) u.1 u.2.1 u.2.2.1 u.2.2.2.1 u.2.2.2.2.1 u.2.2.2.2.2.1 u.2.2.2.2.2.2.1 u.2.2.2.2.2.2.2.1 u.2.2.2.2.2.2.2.2.1 u.2.2.2.2.2.2.2.2.2.1 u.2.2.2.2.2.2.2.2.2.2.1 u.2.2.2.2.2.2.2.2.2.2.2))) (va_A (wR kA qr cc ac co ad rc nm st an svm cnt tx len th xf xt xs xa xw xc xk xp pt wr xm mny) sz)) 0 0 (va_A (wR kA qr cc ac co ad rc nm st an svm cnt tx len th xf xt xs xa xw xc xk xp pt wr xm mny) sz) := by
  refine Met.ofW (cc := cX6_ask) (maxL := 2) (ret := (some .int)) (by decide) rfl ?_
  intro pQ eQ s mQ args below meth cQ s₁ B hml hv
  obtain ⟨rfl, hsz, hP, hK, hD0⟩ := hv
  have hx := B.exec
  have hb := B.bytes
  have hr := B.returns
  have hts := atoms_spec (ws := wsX6_ask) B.pre
  have hown : s.vm.findClass RX6 = some mQ.cls := findClass_of_methodNamed B.named
  have hlocks : meth.locks = false := B.notSynchronized
  have hS0 : CallFix pQ mQ cQ cX6_ask 2 s ([.ref (qr 0), .int x] : List Value).toArray wsX6_ask RX6 := ⟨hx, hb, hml, hown, hts⟩
  subst hsz
  have hD := hD0.self (sz := s.heap.size)
  generalize hAe : va_A (wR kA qr cc ac co ad rc nm st an svm cnt tx len th xf xt xs xa xw xc xk xp pt wr xm mny) s.heap.size = A at hD ⊢
  have hA : ∀ q : Nat, s.heap.size ≤ q → A q := fun q h => by rw [← hAe]; exact Or.inr h
  have hS : va_S A s.heap s.heap [] := va_S.rf
  have f37 : (Cond.fieldLink RX6 37 "AskedRulesModel" "asks" "[I").before ([.ref (qr 0), .int x] : List Value).toArray s = true := hts _ (by decide +kernel)
  have hinX6 : ∀ w ∈ wsX60, w ∈ wsX6_ask := by decide +kernel
  have hl := lv_entry ([.ref (qr 0), .int x]) (n := 2) (Nat.le_of_ble_eq_true rfl)
  rw [lg_entry_eq]
  generalize (lg_sl ([.ref (qr 0), .int x]) ++ List.replicate (2 - (lg_sl ([.ref (qr 0), .int x])).length) Slot.unset).toArray = ls at hl ⊢
  have hl : lv_has ls 2 [(0, .ref (qr 0)), (1, .int x)] := hl
  have hP : va_P D vwCl (wR kA qr cc ac co ad rc nm st an svm cnt tx len th xf xt xs xa xw xc xk xp pt wr xm mny) s.heap := hP
  have hD : va_D A (wR kA qr cc ac co ad rc nm st an svm cnt tx len th xf xt xs xa xw xc xk xp pt wr xm mny) := hD
  obtain ⟨hcc, hac, hco1, hrc, han10, hst⟩ := hti
  have han : ∀ j, j < rc → an j < 11 := fun j hj => Nat.lt_succ_of_lt (han10 j hj)
  have hco : ∀ k, k < cc → co k < 10 := fun k hk => (hco1 k hk).2
  have hP10 := prodF_1024 hcc hac
  refine lv_aload_n hx hb dX6_ask_0 rfl (lv_at hl 0 rfl) ?_
  refine lv_aload_n hx hb dX6_ask_1 rfl (lv_at hl 0 rfl) ?_
  refine lv_iload_n hx hb dX6_ask_2 rfl (lv_at hl 1 rfl) ?_
  refine n_cV (b := qr 0) (As := [.int x]) (rest := [.ref (qr 0)]) (wc := (wR kA qr cc ac co ad rc nm st an svm cnt tx len th xf xt xs xa xw xc xk xp pt wr xm mny)) hS0 (c_X6_isKnown lQ D kA qr cc ac co ad rc nm st an svm cnt tx len th xf xt xs xa xw xc xk xp pt wr xm mny x (by first | assumption | omega) (by first | assumption | omega)) (cwV 1 hts gX6_ask_X6_isKnown rfl rfl rfl (by decide +kernel) ⟨Nat.le_of_ble_eq_true rfl, Nat.le_of_ble_eq_true rfl⟩) hP hK (q0 := 0) rfl rfl rfl rfl rfl hl.1 (Nat.le_of_ble_eq_true rfl) dX6_ask_3 ⟨Nat.le_refl _, Nat.le_refl _⟩ (fun r3 h3 => ?_)
  subst h3
  refine n_ifb_ne (b := (staF x cc ac).isSome) (tgt := 13) hx hb dX6_ask_6 (by decide) (fun c6 => ?_) (fun c6 => ?_)
  · have hsq : ∃ q, staF x cc ac = some q := Option.isSome_iff_exists.mp c6
    obtain ⟨q, hsq⟩ := hsq
    have hsv : staV x cc ac = q := by unfold staV; rw [hsq]; rfl
    obtain ⟨hq1, hq2, hq3⟩ := staF_spec hcc hac hsq
    refine lv_iconst (v := (nI 0)) hx hb dX6_ask_13 (by decide) ?_
    refine lv_iconst (v := (nI 0)) hx hb dX6_ask_14 (by decide) ?_
    refine n_wVi (b := qr 0) (As := [.int (bI false), .int (bI false)]) (rest := []) (wr := []) (ws' := fun u => (wR kA qr cc ac co ad rc nm st an svm cnt tx len (thF false false) xf xt xs xa xw xc xk xp pt wr xm mny)) hS0 (c_X6_throwing lQ D kA qr cc ac co ad rc nm st an svm cnt tx len th xf xt xs xa xw xc xk xp pt wr xm mny false false s.heap.size ) (cwV 2 hts gX6_ask_X6_throwing rfl rfl rfl (by decide +kernel) ⟨Nat.le_of_ble_eq_true rfl, Nat.le_of_ble_eq_true rfl⟩) hP hD hS hA hK hK (by simpa only [List.append_assoc, List.append_nil] using (List.Perm.of_eq (List.append_nil _).symm)) (fun u => List.Perm.symm (by simpa only [List.append_assoc, List.append_nil] using (List.Perm.of_eq (List.append_nil _).symm))) (q0 := 0) rfl rfl rfl rfl rfl hl.1 (Nat.le_of_ble_eq_true rfl) dX6_ask_15 ⟨Nat.le_refl _, Nat.le_refl _⟩ (fun r15 u15 H locs h15 hP hD hS => ?_)
    subst h15
    have hP : va_P D vwCl (wR kA qr cc ac co ad rc nm st an svm cnt tx len (thF false false) xf xt xs xa xw xc xk xp pt wr xm mny) H := hP
    have hD : va_D A (wR kA qr cc ac co ad rc nm st an svm cnt tx len (thF false false) xf xt xs xa xw xc xk xp pt wr xm mny) := hD
    show W pQ lQ eQ (headSpec wsX6_ask (rmN 6 133)).room s mQ ([.ref (qr 0), .int x] : List Value).toArray below meth cQ H locs 0 0 (MQ below (va_Qi (S := (Nat → Option Nat) × (Nat → Nat) × (Nat → Option Nat) × (Nat → Nat) × (Nat → Nat) × (Nat → Nat) × (Nat → Option Nat) × (Nat → Nat) × Nat × (Option Nat) × (Nat → Nat) × Nat) (fun (r : Int32) (u : (Nat → Option Nat) × (Nat → Nat) × (Nat → Option Nat) × (Nat → Nat) × (Nat → Nat) × (Nat → Nat) × (Nat → Option Nat) × (Nat → Nat) × Nat × (Option Nat) × (Nat → Nat) × Nat) => (thAs x cc ac = 0 → r = (oI (quF cc ac co (axN cc ac rc st an) (staV x cc ac))))) (wr_B D vwCl (wR kA qr cc ac co ad rc nm st an svm cnt tx len th xf xt xs xa xw xc xk xp pt wr xm mny) (tyK kA) s.heap.size (fun u => (wR kA qr cc ac co ad rc nm st an svm cnt tx len (thAs x cc ac) u.1 u.2.1 u.2.2.1 u.2.2.2.1 u.2.2.2.2.1 u.2.2.2.2.2.1 u.2.2.2.2.2.2.1 u.2.2.2.2.2.2.2.1 u.2.2.2.2.2.2.2.2.1 u.2.2.2.2.2.2.2.2.2.1 u.2.2.2.2.2.2.2.2.2.2.1 u.2.2.2.2.2.2.2.2.2.2.2))) A) ([.ref (qr 0), .int x] : List Value).toArray s 0 0 A) (F0 mQ 18 ls [.int (bI false)])
    refine lv_if_eq (tgt := 25) hx hb dX6_ask_18 (by decide) (fun _ => ?_) (fun h => absurd (by decide) h)
    obtain ⟨hx1, hx2⟩ := ng_c (fun h9 => by unfold staF at hsq; rw [if_pos h9] at hsq; cases hsq)
    have hl : lv_has ls 2 [(0, .ref (qr 0)), (1, .int (nI x.toNatClampNeg))] := by rw [← hx1]; exact hl
    refine lv_aload_n hx hb dX6_ask_25 rfl (lv_at hl 0 rfl) ?_
    refine n_get (ci := 6) (v := .ref (qr 10)) (C := RX6) (T := TX6) (N := 18) hx hb hts hinX6 hown hK hP 0 rfl rfl 12 rfl ⟨rfl, rfl, rfl⟩ f37 rfl dX6_ask_26 ?_
    refine lv_aload_n hx hb dX6_ask_29 rfl (lv_at hl 0 rfl) ?_
    refine lv_iload_n hx hb dX6_ask_30 rfl (lv_at hl 1 rfl) ?_
    refine n_wVi (b := qr 0) (As := [.int (nI x.toNatClampNeg)]) (rest := [.ref (qr 10)]) (wr := []) (ws' := fun u => (wR kA qr cc ac co ad rc nm st an svm cnt tx len (thF false false) u.1 u.2.1 u.2.2.1 u.2.2.2.1 u.2.2.2.2.1 u.2.2.2.2.2.1 u.2.2.2.2.2.2.1 u.2.2.2.2.2.2.2 pt wr xm mny)) hS0 (c_X6_codeOf lQ D kA qr cc ac co ad rc nm st an svm cnt tx len (thF false false) xf xt xs xa xw xc xk xp pt wr xm mny x.toNatClampNeg H.size (by first | assumption | omega) (by first | assumption | omega) (by first | assumption | omega) (by first | assumption | omega) (by first | assumption | omega) (by first | assumption | omega) (by first | assumption | omega)) (cwV 1 hts gX6_ask_X6_codeOf rfl rfl rfl (by decide +kernel) ⟨Nat.le_of_ble_eq_true rfl, Nat.le_of_ble_eq_true rfl⟩) hP hD hS hA hK hK (by simpa only [List.append_assoc, List.append_nil] using (List.Perm.of_eq (List.append_nil _).symm)) (fun u => List.Perm.symm (by simpa only [List.append_assoc, List.append_nil] using (List.Perm.of_eq (List.append_nil _).symm))) (q0 := 0) rfl rfl rfl rfl rfl hl.1 (Nat.le_of_ble_eq_true rfl) dX6_ask_31 ⟨Nat.le_refl _, Nat.le_refl _⟩ (fun r31 u31 H locs h31 hP hD hS => ?_)
    obtain ⟨xf1_31, xt1_31, xs1_31, xa1_31, xw1_31, xc1_31, xk1_31, xp1_31⟩ := u31
    obtain ⟨rfl, h31_1, h31_2, h31_3⟩ := h31
    try dsimp only at h31_1 h31_2 h31_3
    have hP : va_P D vwCl (wR kA qr cc ac co ad rc nm st an svm cnt tx len (thF false false) xf1_31 xt1_31 xs1_31 xa1_31 xw1_31 xc1_31 xk1_31 xp1_31 pt wr xm mny) H := hP
    have hD : va_D A (wR kA qr cc ac co ad rc nm st an svm cnt tx len (thF false false) xf1_31 xt1_31 xs1_31 xa1_31 xw1_31 xc1_31 xk1_31 xp1_31 pt wr xm mny) := hD
    have hct := code_tom hcc hac rfl hsq
    have hlt9 := Nat.lt_of_lt_of_le (tom_lt (cc := cc) hq2) (pmF_3125 hcc hac)
    have hfin := plM_fin (ax' := axN cc ac rc st an) hcc hac hco (fun c hc => by rw [(h31_1 c hc).2.2.2]; exact actO_lt han) (fun c hc => (h31_1 c hc).2.2.2) h31_2 hq1 hq2
    refine n_iald (i := sumF (fun k => nibN x.toNatClampNeg k * pmF ac k) cc) (v := (oI (xk1_31 (sumF (fun k => nibN x.toNatClampNeg k * pmF ac k) cc)))) hx hb hK hP 10 0 rfl rfl (by rw [hct]; exact hlt9) (Nat.le_of_ble_eq_true rfl) rfl dX6_ask_34 ?_
    have hth : thAs x cc ac = (thF false false) := (by first | (unfold thAs; rw [hsq]; first | done | rfl))
    have hw9 : (wR kA qr cc ac co ad rc nm st an svm cnt tx len (thF false false) xf1_31 xt1_31 xs1_31 xa1_31 xw1_31 xc1_31 xk1_31 xp1_31 pt wr xm mny) = (wR kA qr cc ac co ad rc nm st an svm cnt tx len (thAs x cc ac) xf1_31 xt1_31 xs1_31 xa1_31 xw1_31 xc1_31 xk1_31 xp1_31 pt wr xm mny) := (by rw [hth]; first | done | rfl)
    rw [hw9] at hP hD
    exact n_wreti hx hb hr hlocks (post := fun (r : Int32) (u : (Nat → Option Nat) × (Nat → Nat) × (Nat → Option Nat) × (Nat → Nat) × (Nat → Nat) × (Nat → Nat) × (Nat → Option Nat) × (Nat → Nat) × Nat × (Option Nat) × (Nat → Nat) × Nat) => (thAs x cc ac = 0 → r = (oI (quF cc ac co (axN cc ac rc st an) (staV x cc ac))))) (w1 := fun u => (wR kA qr cc ac co ad rc nm st an svm cnt tx len (thAs x cc ac) u.1 u.2.1 u.2.2.1 u.2.2.2.1 u.2.2.2.2.1 u.2.2.2.2.2.1 u.2.2.2.2.2.2.1 u.2.2.2.2.2.2.2.1 u.2.2.2.2.2.2.2.2.1 u.2.2.2.2.2.2.2.2.2.1 u.2.2.2.2.2.2.2.2.2.2.1 u.2.2.2.2.2.2.2.2.2.2.2)) (xf1_31, xt1_31, xs1_31, xa1_31, xw1_31, xc1_31, xk1_31, xp1_31, pt, wr, xm, mny) (by first | exact (fun h => absurd (h.symm.trans hth) (by decide)) | exact (fun _ => (by rw [hct, hsv, hfin.2]))) hP hD hK hS hAe dX6_ask_35
  · have hsq : staF x cc ac = none := by cases h9 : staF x cc ac with | none => rfl | some q => (rw [h9] at c6; cases c6)
    refine lv_iconst (v := (nI 1)) hx hb dX6_ask_9 (by decide) ?_
    refine lv_goto (tgt := 14) hx hb dX6_ask_10 (by decide) ?_
    refine lv_iconst (v := (nI 0)) hx hb dX6_ask_14 (by decide) ?_
    refine n_wVi (b := qr 0) (As := [.int (bI true), .int (bI false)]) (rest := []) (wr := []) (ws' := fun u => (wR kA qr cc ac co ad rc nm st an svm cnt tx len (thF true false) xf xt xs xa xw xc xk xp pt wr xm mny)) hS0 (c_X6_throwing lQ D kA qr cc ac co ad rc nm st an svm cnt tx len th xf xt xs xa xw xc xk xp pt wr xm mny true false s.heap.size ) (cwV 2 hts gX6_ask_X6_throwing rfl rfl rfl (by decide +kernel) ⟨Nat.le_of_ble_eq_true rfl, Nat.le_of_ble_eq_true rfl⟩) hP hD hS hA hK hK (by simpa only [List.append_assoc, List.append_nil] using (List.Perm.of_eq (List.append_nil _).symm)) (fun u => List.Perm.symm (by simpa only [List.append_assoc, List.append_nil] using (List.Perm.of_eq (List.append_nil _).symm))) (q0 := 0) rfl rfl rfl rfl rfl hl.1 (Nat.le_of_ble_eq_true rfl) dX6_ask_15 ⟨Nat.le_refl _, Nat.le_refl _⟩ (fun r15 u15 H locs h15 hP hD hS => ?_)
    subst h15
    have hP : va_P D vwCl (wR kA qr cc ac co ad rc nm st an svm cnt tx len (thF true false) xf xt xs xa xw xc xk xp pt wr xm mny) H := hP
    have hD : va_D A (wR kA qr cc ac co ad rc nm st an svm cnt tx len (thF true false) xf xt xs xa xw xc xk xp pt wr xm mny) := hD
    show W pQ lQ eQ (headSpec wsX6_ask (rmN 6 133)).room s mQ ([.ref (qr 0), .int x] : List Value).toArray below meth cQ H locs 0 0 (MQ below (va_Qi (S := (Nat → Option Nat) × (Nat → Nat) × (Nat → Option Nat) × (Nat → Nat) × (Nat → Nat) × (Nat → Nat) × (Nat → Option Nat) × (Nat → Nat) × Nat × (Option Nat) × (Nat → Nat) × Nat) (fun (r : Int32) (u : (Nat → Option Nat) × (Nat → Nat) × (Nat → Option Nat) × (Nat → Nat) × (Nat → Nat) × (Nat → Nat) × (Nat → Option Nat) × (Nat → Nat) × Nat × (Option Nat) × (Nat → Nat) × Nat) => (thAs x cc ac = 0 → r = (oI (quF cc ac co (axN cc ac rc st an) (staV x cc ac))))) (wr_B D vwCl (wR kA qr cc ac co ad rc nm st an svm cnt tx len th xf xt xs xa xw xc xk xp pt wr xm mny) (tyK kA) s.heap.size (fun u => (wR kA qr cc ac co ad rc nm st an svm cnt tx len (thAs x cc ac) u.1 u.2.1 u.2.2.1 u.2.2.2.1 u.2.2.2.2.1 u.2.2.2.2.2.1 u.2.2.2.2.2.2.1 u.2.2.2.2.2.2.2.1 u.2.2.2.2.2.2.2.2.1 u.2.2.2.2.2.2.2.2.2.1 u.2.2.2.2.2.2.2.2.2.2.1 u.2.2.2.2.2.2.2.2.2.2.2))) A) ([.ref (qr 0), .int x] : List Value).toArray s 0 0 A) (F0 mQ 18 ls [.int (bI true)])
    refine lv_if_eq (tgt := 25) hx hb dX6_ask_18 (by decide) (fun h => absurd h (by decide)) (fun _ => ?_)
    refine lv_iconst (v := (nI 0)) hx hb dX6_ask_21 (by decide) ?_
    refine lv_goto (tgt := 35) hx hb dX6_ask_22 (by decide) ?_
    have hth : thAs x cc ac = (thF true false) := (by first | (unfold thAs; rw [hsq]; first | done | rfl))
    have hw9 : (wR kA qr cc ac co ad rc nm st an svm cnt tx len (thF true false) xf xt xs xa xw xc xk xp pt wr xm mny) = (wR kA qr cc ac co ad rc nm st an svm cnt tx len (thAs x cc ac) xf xt xs xa xw xc xk xp pt wr xm mny) := (by rw [hth]; first | done | rfl)
    rw [hw9] at hP hD
    exact n_wreti hx hb hr hlocks (post := fun (r : Int32) (u : (Nat → Option Nat) × (Nat → Nat) × (Nat → Option Nat) × (Nat → Nat) × (Nat → Nat) × (Nat → Nat) × (Nat → Option Nat) × (Nat → Nat) × Nat × (Option Nat) × (Nat → Nat) × Nat) => (thAs x cc ac = 0 → r = (oI (quF cc ac co (axN cc ac rc st an) (staV x cc ac))))) (w1 := fun u => (wR kA qr cc ac co ad rc nm st an svm cnt tx len (thAs x cc ac) u.1 u.2.1 u.2.2.1 u.2.2.2.1 u.2.2.2.2.1 u.2.2.2.2.2.1 u.2.2.2.2.2.2.1 u.2.2.2.2.2.2.2.1 u.2.2.2.2.2.2.2.2.1 u.2.2.2.2.2.2.2.2.2.1 u.2.2.2.2.2.2.2.2.2.2.1 u.2.2.2.2.2.2.2.2.2.2.2)) (xf, xt, xs, xa, xw, xc, xk, xp, pt, wr, xm, mny) (by first | exact (fun h => absurd (h.symm.trans hth) (by decide)) | exact (fun _ => (by rw [hct, hsv, hfin.2]))) hP hD hK hS hAe dX6_ask_35

set_option maxHeartbeats 4000000 in
set_option maxRecDepth 100000 in
theorem c_X6_costFrom (lQ : Launch) (D : va_G) (kA : Nat → ClassId) (qr : Nat → Nat) (cc : Nat) (ac : Nat → Nat) (co : Nat → Nat) (ad : Nat) (rc : Nat) (nm : Nat → Nat) (st : Nat → Nat) (an : Nat → Nat) (svm : Nat → TCt) (cnt : Nat) (tx : Nat → Nat) (len : Nat) (th : Nat) (xf : Nat → Option Nat) (xt : Nat → Nat) (xs : Nat → Option Nat) (xa : Nat → Nat) (xw : Nat → Nat) (xc : Nat → Nat) (xk : Nat → Option Nat) (xp : Nat → Nat) (pt : Nat) (wr : Option Nat) (xm : Nat → Nat) (mny : Nat) (x : Int32) (sz : Nat) (hti : tIn cc ac co rc st an) : Met lQ yX6_costFrom wsX6_costFrom (rmN 6 133) (wr_Pc D vwCl [.ref (qr 0), .int x] (wR kA qr cc ac co ad rc nm st an svm cnt tx len th xf xt xs xa xw xc xk xp pt wr xm mny) (tyK kA) sz) (va_Qi (S := (Nat → Option Nat) × (Nat → Nat) × (Nat → Option Nat) × (Nat → Nat) × (Nat → Nat) × (Nat → Nat) × (Nat → Option Nat) × (Nat → Nat) × Nat × (Option Nat) × (Nat → Nat) × Nat) (fun (r : Int32) (u : (Nat → Option Nat) × (Nat → Nat) × (Nat → Option Nat) × (Nat → Nat) × (Nat → Nat) × (Nat → Nat) × (Nat → Option Nat) × (Nat → Nat) × Nat × (Option Nat) × (Nat → Nat) × Nat) => (thAs x cc ac = 0 → r = (nI ((plT cc ac co (axN cc ac rc st an)).2 (staV x cc ac))))) (wr_B D vwCl (wR kA qr cc ac co ad rc nm st an svm cnt tx len th xf xt xs xa xw xc xk xp pt wr xm mny) (tyK kA) sz (fun u => (wR kA qr cc ac co ad rc nm st an svm cnt tx len (thAs x cc ac) u.1 u.2.1 u.2.2.1 u.2.2.2.1 u.2.2.2.2.1 u.2.2.2.2.2.1 u.2.2.2.2.2.2.1 u.2.2.2.2.2.2.2.1 u.2.2.2.2.2.2.2.2.1 u.2.2.2.2.2.2.2.2.2.1 u.2.2.2.2.2.2.2.2.2.2.1 u.2.2.2.2.2.2.2.2.2.2.2))) (va_A (wR kA qr cc ac co ad rc nm st an svm cnt tx len th xf xt xs xa xw xc xk xp pt wr xm mny) sz)) 0 0 (va_A (wR kA qr cc ac co ad rc nm st an svm cnt tx len th xf xt xs xa xw xc xk xp pt wr xm mny) sz) := by
  refine Met.ofW (cc := cX6_costFrom) (maxL := 2) (ret := (some .int)) (by decide) rfl ?_
  intro pQ eQ s mQ args below meth cQ s₁ B hml hv
  obtain ⟨rfl, hsz, hP, hK, hD0⟩ := hv
  have hx := B.exec
  have hb := B.bytes
  have hr := B.returns
  have hts := atoms_spec (ws := wsX6_costFrom) B.pre
  have hown : s.vm.findClass RX6 = some mQ.cls := findClass_of_methodNamed B.named
  have hlocks : meth.locks = false := B.notSynchronized
  have hS0 : CallFix pQ mQ cQ cX6_costFrom 2 s ([.ref (qr 0), .int x] : List Value).toArray wsX6_costFrom RX6 := ⟨hx, hb, hml, hown, hts⟩
  subst hsz
  have hD := hD0.self (sz := s.heap.size)
  generalize hAe : va_A (wR kA qr cc ac co ad rc nm st an svm cnt tx len th xf xt xs xa xw xc xk xp pt wr xm mny) s.heap.size = A at hD ⊢
  have hA : ∀ q : Nat, s.heap.size ≤ q → A q := fun q h => by rw [← hAe]; exact Or.inr h
  have hS : va_S A s.heap s.heap [] := va_S.rf
  have f34 : (Cond.fieldLink RX6 34 "AskedRulesModel" "costs" "[I").before ([.ref (qr 0), .int x] : List Value).toArray s = true := hts _ (by decide +kernel)
  have hinX6 : ∀ w ∈ wsX60, w ∈ wsX6_costFrom := by decide +kernel
  have hl := lv_entry ([.ref (qr 0), .int x]) (n := 2) (Nat.le_of_ble_eq_true rfl)
  rw [lg_entry_eq]
  generalize (lg_sl ([.ref (qr 0), .int x]) ++ List.replicate (2 - (lg_sl ([.ref (qr 0), .int x])).length) Slot.unset).toArray = ls at hl ⊢
  have hl : lv_has ls 2 [(0, .ref (qr 0)), (1, .int x)] := hl
  have hP : va_P D vwCl (wR kA qr cc ac co ad rc nm st an svm cnt tx len th xf xt xs xa xw xc xk xp pt wr xm mny) s.heap := hP
  have hD : va_D A (wR kA qr cc ac co ad rc nm st an svm cnt tx len th xf xt xs xa xw xc xk xp pt wr xm mny) := hD
  obtain ⟨hcc, hac, hco1, hrc, han10, hst⟩ := hti
  have han : ∀ j, j < rc → an j < 11 := fun j hj => Nat.lt_succ_of_lt (han10 j hj)
  have hco : ∀ k, k < cc → co k < 10 := fun k hk => (hco1 k hk).2
  have hP10 := prodF_1024 hcc hac
  refine lv_aload_n hx hb dX6_costFrom_0 rfl (lv_at hl 0 rfl) ?_
  refine lv_aload_n hx hb dX6_costFrom_1 rfl (lv_at hl 0 rfl) ?_
  refine lv_iload_n hx hb dX6_costFrom_2 rfl (lv_at hl 1 rfl) ?_
  refine n_cV (b := qr 0) (As := [.int x]) (rest := [.ref (qr 0)]) (wc := (wR kA qr cc ac co ad rc nm st an svm cnt tx len th xf xt xs xa xw xc xk xp pt wr xm mny)) hS0 (c_X6_isKnown lQ D kA qr cc ac co ad rc nm st an svm cnt tx len th xf xt xs xa xw xc xk xp pt wr xm mny x (by first | assumption | omega) (by first | assumption | omega)) (cwV 1 hts gX6_costFrom_X6_isKnown rfl rfl rfl (by decide +kernel) ⟨Nat.le_of_ble_eq_true rfl, Nat.le_of_ble_eq_true rfl⟩) hP hK (q0 := 0) rfl rfl rfl rfl rfl hl.1 (Nat.le_of_ble_eq_true rfl) dX6_costFrom_3 ⟨Nat.le_refl _, Nat.le_refl _⟩ (fun r3 h3 => ?_)
  subst h3
  refine n_ifb_ne (b := (staF x cc ac).isSome) (tgt := 13) hx hb dX6_costFrom_6 (by decide) (fun c6 => ?_) (fun c6 => ?_)
  · have hsq : ∃ q, staF x cc ac = some q := Option.isSome_iff_exists.mp c6
    obtain ⟨q, hsq⟩ := hsq
    have hsv : staV x cc ac = q := by unfold staV; rw [hsq]; rfl
    obtain ⟨hq1, hq2, hq3⟩ := staF_spec hcc hac hsq
    refine lv_iconst (v := (nI 0)) hx hb dX6_costFrom_13 (by decide) ?_
    refine lv_iconst (v := (nI 0)) hx hb dX6_costFrom_14 (by decide) ?_
    refine n_wVi (b := qr 0) (As := [.int (bI false), .int (bI false)]) (rest := []) (wr := []) (ws' := fun u => (wR kA qr cc ac co ad rc nm st an svm cnt tx len (thF false false) xf xt xs xa xw xc xk xp pt wr xm mny)) hS0 (c_X6_throwing lQ D kA qr cc ac co ad rc nm st an svm cnt tx len th xf xt xs xa xw xc xk xp pt wr xm mny false false s.heap.size ) (cwV 2 hts gX6_costFrom_X6_throwing rfl rfl rfl (by decide +kernel) ⟨Nat.le_of_ble_eq_true rfl, Nat.le_of_ble_eq_true rfl⟩) hP hD hS hA hK hK (by simpa only [List.append_assoc, List.append_nil] using (List.Perm.of_eq (List.append_nil _).symm)) (fun u => List.Perm.symm (by simpa only [List.append_assoc, List.append_nil] using (List.Perm.of_eq (List.append_nil _).symm))) (q0 := 0) rfl rfl rfl rfl rfl hl.1 (Nat.le_of_ble_eq_true rfl) dX6_costFrom_15 ⟨Nat.le_refl _, Nat.le_refl _⟩ (fun r15 u15 H locs h15 hP hD hS => ?_)
    subst h15
    have hP : va_P D vwCl (wR kA qr cc ac co ad rc nm st an svm cnt tx len (thF false false) xf xt xs xa xw xc xk xp pt wr xm mny) H := hP
    have hD : va_D A (wR kA qr cc ac co ad rc nm st an svm cnt tx len (thF false false) xf xt xs xa xw xc xk xp pt wr xm mny) := hD
    show W pQ lQ eQ (headSpec wsX6_costFrom (rmN 6 133)).room s mQ ([.ref (qr 0), .int x] : List Value).toArray below meth cQ H locs 0 0 (MQ below (va_Qi (S := (Nat → Option Nat) × (Nat → Nat) × (Nat → Option Nat) × (Nat → Nat) × (Nat → Nat) × (Nat → Nat) × (Nat → Option Nat) × (Nat → Nat) × Nat × (Option Nat) × (Nat → Nat) × Nat) (fun (r : Int32) (u : (Nat → Option Nat) × (Nat → Nat) × (Nat → Option Nat) × (Nat → Nat) × (Nat → Nat) × (Nat → Nat) × (Nat → Option Nat) × (Nat → Nat) × Nat × (Option Nat) × (Nat → Nat) × Nat) => (thAs x cc ac = 0 → r = (nI ((plT cc ac co (axN cc ac rc st an)).2 (staV x cc ac))))) (wr_B D vwCl (wR kA qr cc ac co ad rc nm st an svm cnt tx len th xf xt xs xa xw xc xk xp pt wr xm mny) (tyK kA) s.heap.size (fun u => (wR kA qr cc ac co ad rc nm st an svm cnt tx len (thAs x cc ac) u.1 u.2.1 u.2.2.1 u.2.2.2.1 u.2.2.2.2.1 u.2.2.2.2.2.1 u.2.2.2.2.2.2.1 u.2.2.2.2.2.2.2.1 u.2.2.2.2.2.2.2.2.1 u.2.2.2.2.2.2.2.2.2.1 u.2.2.2.2.2.2.2.2.2.2.1 u.2.2.2.2.2.2.2.2.2.2.2))) A) ([.ref (qr 0), .int x] : List Value).toArray s 0 0 A) (F0 mQ 18 ls [.int (bI false)])
    refine lv_if_eq (tgt := 25) hx hb dX6_costFrom_18 (by decide) (fun _ => ?_) (fun h => absurd (by decide) h)
    obtain ⟨hx1, hx2⟩ := ng_c (fun h9 => by unfold staF at hsq; rw [if_pos h9] at hsq; cases hsq)
    have hl : lv_has ls 2 [(0, .ref (qr 0)), (1, .int (nI x.toNatClampNeg))] := by rw [← hx1]; exact hl
    refine lv_aload_n hx hb dX6_costFrom_25 rfl (lv_at hl 0 rfl) ?_
    refine n_get (ci := 6) (v := .ref (qr 9)) (C := RX6) (T := TX6) (N := 18) hx hb hts hinX6 hown hK hP 0 rfl rfl 11 rfl ⟨rfl, rfl, rfl⟩ f34 rfl dX6_costFrom_26 ?_
    refine lv_aload_n hx hb dX6_costFrom_29 rfl (lv_at hl 0 rfl) ?_
    refine lv_iload_n hx hb dX6_costFrom_30 rfl (lv_at hl 1 rfl) ?_
    refine n_wVi (b := qr 0) (As := [.int (nI x.toNatClampNeg)]) (rest := [.ref (qr 9)]) (wr := []) (ws' := fun u => (wR kA qr cc ac co ad rc nm st an svm cnt tx len (thF false false) u.1 u.2.1 u.2.2.1 u.2.2.2.1 u.2.2.2.2.1 u.2.2.2.2.2.1 u.2.2.2.2.2.2.1 u.2.2.2.2.2.2.2 pt wr xm mny)) hS0 (c_X6_codeOf lQ D kA qr cc ac co ad rc nm st an svm cnt tx len (thF false false) xf xt xs xa xw xc xk xp pt wr xm mny x.toNatClampNeg H.size (by first | assumption | omega) (by first | assumption | omega) (by first | assumption | omega) (by first | assumption | omega) (by first | assumption | omega) (by first | assumption | omega) (by first | assumption | omega)) (cwV 1 hts gX6_costFrom_X6_codeOf rfl rfl rfl (by decide +kernel) ⟨Nat.le_of_ble_eq_true rfl, Nat.le_of_ble_eq_true rfl⟩) hP hD hS hA hK hK (by simpa only [List.append_assoc, List.append_nil] using (List.Perm.of_eq (List.append_nil _).symm)) (fun u => List.Perm.symm (by simpa only [List.append_assoc, List.append_nil] using (List.Perm.of_eq (List.append_nil _).symm))) (q0 := 0) rfl rfl rfl rfl rfl hl.1 (Nat.le_of_ble_eq_true rfl) dX6_costFrom_31 ⟨Nat.le_refl _, Nat.le_refl _⟩ (fun r31 u31 H locs h31 hP hD hS => ?_)
    obtain ⟨xf1_31, xt1_31, xs1_31, xa1_31, xw1_31, xc1_31, xk1_31, xp1_31⟩ := u31
    obtain ⟨rfl, h31_1, h31_2, h31_3⟩ := h31
    try dsimp only at h31_1 h31_2 h31_3
    have hP : va_P D vwCl (wR kA qr cc ac co ad rc nm st an svm cnt tx len (thF false false) xf1_31 xt1_31 xs1_31 xa1_31 xw1_31 xc1_31 xk1_31 xp1_31 pt wr xm mny) H := hP
    have hD : va_D A (wR kA qr cc ac co ad rc nm st an svm cnt tx len (thF false false) xf1_31 xt1_31 xs1_31 xa1_31 xw1_31 xc1_31 xk1_31 xp1_31 pt wr xm mny) := hD
    have hct := code_tom hcc hac rfl hsq
    have hlt9 := Nat.lt_of_lt_of_le (tom_lt (cc := cc) hq2) (pmF_3125 hcc hac)
    have hfin := plM_fin (ax' := axN cc ac rc st an) hcc hac hco (fun c hc => by rw [(h31_1 c hc).2.2.2]; exact actO_lt han) (fun c hc => (h31_1 c hc).2.2.2) h31_2 hq1 hq2
    refine n_iald (i := sumF (fun k => nibN x.toNatClampNeg k * pmF ac k) cc) (v := (nI (xc1_31 (sumF (fun k => nibN x.toNatClampNeg k * pmF ac k) cc)))) hx hb hK hP 9 0 rfl rfl (by rw [hct]; exact hlt9) (Nat.le_of_ble_eq_true rfl) rfl dX6_costFrom_34 ?_
    have hth : thAs x cc ac = (thF false false) := (by first | (unfold thAs; rw [hsq]; first | done | rfl))
    have hw9 : (wR kA qr cc ac co ad rc nm st an svm cnt tx len (thF false false) xf1_31 xt1_31 xs1_31 xa1_31 xw1_31 xc1_31 xk1_31 xp1_31 pt wr xm mny) = (wR kA qr cc ac co ad rc nm st an svm cnt tx len (thAs x cc ac) xf1_31 xt1_31 xs1_31 xa1_31 xw1_31 xc1_31 xk1_31 xp1_31 pt wr xm mny) := (by rw [hth]; first | done | rfl)
    rw [hw9] at hP hD
    exact n_wreti hx hb hr hlocks (post := fun (r : Int32) (u : (Nat → Option Nat) × (Nat → Nat) × (Nat → Option Nat) × (Nat → Nat) × (Nat → Nat) × (Nat → Nat) × (Nat → Option Nat) × (Nat → Nat) × Nat × (Option Nat) × (Nat → Nat) × Nat) => (thAs x cc ac = 0 → r = (nI ((plT cc ac co (axN cc ac rc st an)).2 (staV x cc ac))))) (w1 := fun u => (wR kA qr cc ac co ad rc nm st an svm cnt tx len (thAs x cc ac) u.1 u.2.1 u.2.2.1 u.2.2.2.1 u.2.2.2.2.1 u.2.2.2.2.2.1 u.2.2.2.2.2.2.1 u.2.2.2.2.2.2.2.1 u.2.2.2.2.2.2.2.2.1 u.2.2.2.2.2.2.2.2.2.1 u.2.2.2.2.2.2.2.2.2.2.1 u.2.2.2.2.2.2.2.2.2.2.2)) (xf1_31, xt1_31, xs1_31, xa1_31, xw1_31, xc1_31, xk1_31, xp1_31, pt, wr, xm, mny) (by first | exact (fun h => absurd (h.symm.trans hth) (by decide)) | exact (fun _ => (by rw [hct, hsv, hfin.1]))) hP hD hK hS hAe dX6_costFrom_35
  · have hsq : staF x cc ac = none := by cases h9 : staF x cc ac with | none => rfl | some q => (rw [h9] at c6; cases c6)
    refine lv_iconst (v := (nI 1)) hx hb dX6_costFrom_9 (by decide) ?_
    refine lv_goto (tgt := 14) hx hb dX6_costFrom_10 (by decide) ?_
    refine lv_iconst (v := (nI 0)) hx hb dX6_costFrom_14 (by decide) ?_
    refine n_wVi (b := qr 0) (As := [.int (bI true), .int (bI false)]) (rest := []) (wr := []) (ws' := fun u => (wR kA qr cc ac co ad rc nm st an svm cnt tx len (thF true false) xf xt xs xa xw xc xk xp pt wr xm mny)) hS0 (c_X6_throwing lQ D kA qr cc ac co ad rc nm st an svm cnt tx len th xf xt xs xa xw xc xk xp pt wr xm mny true false s.heap.size ) (cwV 2 hts gX6_costFrom_X6_throwing rfl rfl rfl (by decide +kernel) ⟨Nat.le_of_ble_eq_true rfl, Nat.le_of_ble_eq_true rfl⟩) hP hD hS hA hK hK (by simpa only [List.append_assoc, List.append_nil] using (List.Perm.of_eq (List.append_nil _).symm)) (fun u => List.Perm.symm (by simpa only [List.append_assoc, List.append_nil] using (List.Perm.of_eq (List.append_nil _).symm))) (q0 := 0) rfl rfl rfl rfl rfl hl.1 (Nat.le_of_ble_eq_true rfl) dX6_costFrom_15 ⟨Nat.le_refl _, Nat.le_refl _⟩ (fun r15 u15 H locs h15 hP hD hS => ?_)
    subst h15
    have hP : va_P D vwCl (wR kA qr cc ac co ad rc nm st an svm cnt tx len (thF true false) xf xt xs xa xw xc xk xp pt wr xm mny) H := hP
    have hD : va_D A (wR kA qr cc ac co ad rc nm st an svm cnt tx len (thF true false) xf xt xs xa xw xc xk xp pt wr xm mny) := hD
    show W pQ lQ eQ (headSpec wsX6_costFrom (rmN 6 133)).room s mQ ([.ref (qr 0), .int x] : List Value).toArray below meth cQ H locs 0 0 (MQ below (va_Qi (S := (Nat → Option Nat) × (Nat → Nat) × (Nat → Option Nat) × (Nat → Nat) × (Nat → Nat) × (Nat → Nat) × (Nat → Option Nat) × (Nat → Nat) × Nat × (Option Nat) × (Nat → Nat) × Nat) (fun (r : Int32) (u : (Nat → Option Nat) × (Nat → Nat) × (Nat → Option Nat) × (Nat → Nat) × (Nat → Nat) × (Nat → Nat) × (Nat → Option Nat) × (Nat → Nat) × Nat × (Option Nat) × (Nat → Nat) × Nat) => (thAs x cc ac = 0 → r = (nI ((plT cc ac co (axN cc ac rc st an)).2 (staV x cc ac))))) (wr_B D vwCl (wR kA qr cc ac co ad rc nm st an svm cnt tx len th xf xt xs xa xw xc xk xp pt wr xm mny) (tyK kA) s.heap.size (fun u => (wR kA qr cc ac co ad rc nm st an svm cnt tx len (thAs x cc ac) u.1 u.2.1 u.2.2.1 u.2.2.2.1 u.2.2.2.2.1 u.2.2.2.2.2.1 u.2.2.2.2.2.2.1 u.2.2.2.2.2.2.2.1 u.2.2.2.2.2.2.2.2.1 u.2.2.2.2.2.2.2.2.2.1 u.2.2.2.2.2.2.2.2.2.2.1 u.2.2.2.2.2.2.2.2.2.2.2))) A) ([.ref (qr 0), .int x] : List Value).toArray s 0 0 A) (F0 mQ 18 ls [.int (bI true)])
    refine lv_if_eq (tgt := 25) hx hb dX6_costFrom_18 (by decide) (fun h => absurd h (by decide)) (fun _ => ?_)
    refine lv_iconst (v := (nI 0)) hx hb dX6_costFrom_21 (by decide) ?_
    refine lv_goto (tgt := 35) hx hb dX6_costFrom_22 (by decide) ?_
    have hth : thAs x cc ac = (thF true false) := (by first | (unfold thAs; rw [hsq]; first | done | rfl))
    have hw9 : (wR kA qr cc ac co ad rc nm st an svm cnt tx len (thF true false) xf xt xs xa xw xc xk xp pt wr xm mny) = (wR kA qr cc ac co ad rc nm st an svm cnt tx len (thAs x cc ac) xf xt xs xa xw xc xk xp pt wr xm mny) := (by rw [hth]; first | done | rfl)
    rw [hw9] at hP hD
    exact n_wreti hx hb hr hlocks (post := fun (r : Int32) (u : (Nat → Option Nat) × (Nat → Nat) × (Nat → Option Nat) × (Nat → Nat) × (Nat → Nat) × (Nat → Nat) × (Nat → Option Nat) × (Nat → Nat) × Nat × (Option Nat) × (Nat → Nat) × Nat) => (thAs x cc ac = 0 → r = (nI ((plT cc ac co (axN cc ac rc st an)).2 (staV x cc ac))))) (w1 := fun u => (wR kA qr cc ac co ad rc nm st an svm cnt tx len (thAs x cc ac) u.1 u.2.1 u.2.2.1 u.2.2.2.1 u.2.2.2.2.1 u.2.2.2.2.2.1 u.2.2.2.2.2.2.1 u.2.2.2.2.2.2.2.1 u.2.2.2.2.2.2.2.2.1 u.2.2.2.2.2.2.2.2.2.1 u.2.2.2.2.2.2.2.2.2.2.1 u.2.2.2.2.2.2.2.2.2.2.2)) (xf, xt, xs, xa, xw, xc, xk, xp, pt, wr, xm, mny) (by first | exact (fun h => absurd (h.symm.trans hth) (by decide)) | exact (fun _ => (by rw [hct, hsv, hfin.1]))) hP hD hK hS hAe dX6_costFrom_35

