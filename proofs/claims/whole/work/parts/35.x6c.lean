
/-! ===== plans by codes of mixed steps ===== -/
def pmF (ac : Nat → Nat) (k : Nat) : Nat := prodF (fun j => ac j + 1) k
def knN (ac : Nat → Nat) (x k : Nat) : Nat := x / pmF ac k % (ac k + 1)
theorem knN_lt (ac : Nat → Nat) (x k : Nat) : knN ac x k < ac k + 1 := Nat.mod_lt _ (Nat.succ_pos _)
theorem pmF_s (ac : Nat → Nat) (k : Nat) : pmF ac (k + 1) = pmF ac k * (ac k + 1) := rfl
theorem pmF_pos (ac : Nat → Nat) : ∀ k, 0 < pmF ac k
  | 0 => Nat.one_pos
  | k + 1 => by rw [pmF_s]; exact Nat.mul_pos (pmF_pos ac k) (Nat.succ_pos _)
theorem pmF_le {ac : Nat → Nat} : ∀ {n : Nat}, (∀ k, k < n → 2 ≤ ac k ∧ ac k ≤ 4) → pmF ac n ≤ 5 ^ n
  | 0, _ => Nat.le_refl 1
  | n + 1, h => by
    rw [pmF_s, Nat.pow_succ]
    exact Nat.mul_le_mul (pmF_le (fun k hk => h k (by omega))) (by have := (h n (by omega)).2; omega)
theorem pmF_3125 {ac : Nat → Nat} {cc : Nat} (hcc : cc ≤ 5) (h : ∀ k, k < cc → 2 ≤ ac k ∧ ac k ≤ 4) : pmF ac cc ≤ 3125 := Nat.le_trans (pmF_le h) (p5_3125 hcc)
theorem pmF_mono (ac : Nat → Nat) {k : Nat} : ∀ {n : Nat}, k ≤ n → pmF ac k ≤ pmF ac n := fun {n} hk => by
  obtain ⟨d, rfl⟩ : ∃ d, n = k + d := ⟨n - k, by omega⟩
  clear hk
  induction d with
  | zero => exact Nat.le_refl _
  | succ d ih => exact Nat.le_trans ih (by show pmF ac (k + d) ≤ pmF ac (k + d) * (ac (k + d) + 1); exact Nat.le_mul_of_pos_right _ (Nat.succ_pos _))
theorem pmF_split (ac : Nat → Nat) {k : Nat} : ∀ {n : Nat}, k < n → ∃ r, pmF ac n = pmF ac k * ((ac k + 1) * r)
  | 0, h => absurd h (Nat.not_lt_zero _)
  | n + 1, h => by
    by_cases e : k = n
    · subst e; exact ⟨1, by rw [pmF_s, Nat.mul_one]⟩
    · obtain ⟨r, hr⟩ := pmF_split ac (k := k) (n := n) (by omega)
      exact ⟨r * (ac n + 1), by rw [pmF_s, hr, Nat.mul_assoc, Nat.mul_assoc]⟩
/-- the digits of a sum of digits -/
theorem km_sum_lt {ac d : Nat → Nat} {n : Nat} (h : ∀ k, k < n → d k ≤ ac k) : sumF (fun k => d k * pmF ac k) n < pmF ac n := mix_lt (ac := fun j => ac j + 1) (fun k hk => Nat.lt_succ_of_le (h k hk))
theorem km_at {ac d : Nat → Nat} {i : Nat} : ∀ {n : Nat}, (∀ k, k < n → d k ≤ ac k) → i < n → knN ac (sumF (fun k => d k * pmF ac k) n) i = d i
  | 0, _, hi => absurd hi (Nat.not_lt_zero _)
  | n + 1, h, hi => by
    have hl := km_sum_lt (ac := ac) (d := d) (n := n) (fun k hk => h k (by omega))
    rw [sumF_s]
    unfold knN
    by_cases e : i = n
    · subst e
      rw [Nat.add_mul_div_right _ _ (pmF_pos ac i), Nat.div_eq_of_lt hl, Nat.zero_add, Nat.mod_eq_of_lt (Nat.lt_succ_of_le (h i (by omega)))]
    · obtain ⟨r, hr⟩ := pmF_split ac (k := i) (n := n) (by omega)
      have ih := km_at (ac := ac) (d := d) (i := i) (n := n) (fun k hk => h k (by omega)) (by omega)
      unfold knN at ih
      rw [hr, show d n * (pmF ac i * ((ac i + 1) * r)) = pmF ac i * ((ac i + 1) * (d n * r)) by rw [Nat.mul_left_comm, Nat.mul_left_comm (d n) (ac i + 1) r], Nat.add_mul_div_left _ _ (pmF_pos ac i), Nat.add_mul_mod_self_left]
      exact ih
theorem km_next {ac : Nat → Nat} {x k j n : Nat} (hx : x < pmF ac n) (hk : k < n) (h0 : knN ac x k = 0) (hj : j ≤ ac k) : x + j * pmF ac k < pmF ac n := by
  have hp := pmF_pos ac k
  obtain ⟨r, hr⟩ := pmF_split ac (k := k) (n := n) hk
  unfold knN at h0
  have h1 := Nat.div_add_mod x (pmF ac k)
  have h2 := Nat.div_add_mod (x / pmF ac k) (ac k + 1)
  rw [h0, Nat.add_zero] at h2
  have hm := Nat.mod_lt x hp
  have hq : x / pmF ac k / (ac k + 1) < r := by
    refine Nat.div_lt_of_lt_mul (Nat.div_lt_of_lt_mul ?_)
    rw [← hr]; exact hx
  have h3 : (x / pmF ac k + j + 1) ≤ (ac k + 1) * r := by
    have h4 : (ac k + 1) * (x / pmF ac k / (ac k + 1) + 1) ≤ (ac k + 1) * r := Nat.mul_le_mul_left _ hq
    rw [Nat.mul_add, Nat.mul_one, h2] at h4
    omega
  have h5 : pmF ac k * (x / pmF ac k + j + 1) ≤ pmF ac n := by rw [hr]; exact Nat.mul_le_mul_left _ h3
  rw [Nat.mul_add, Nat.mul_add, Nat.mul_one, Nat.mul_comm _ j] at h5
  omega
def cmM (cc : Nat) (ac xa xw : Nat → Nat) (x : Nat) : Nat := match firstF (fun k => decide (knN ac x k = 0)) cc with
  | none => xa (sumF (fun k => (knN ac x k - 1) * prodF ac k) cc)
  | some k => comA xw x (pmF ac k) (ac k)
def askM (ac co xc : Nat → Nat) (x k : Nat) : Nat := co k + maxF (fun j => xc (x + (j + 1) * pmF ac k)) (ac k)
/-- the first of the cheapest conditions that are not known, and its cost -/
def pbF (f : Nat → Nat) (op : Nat → Bool) : Nat → Nat × Option Nat
  | 0 => (0, none)
  | n + 1 => if op n = true ∧ ((pbF f op n).2 = none ∨ f n < (pbF f op n).1) then (f n, some n) else pbF f op n
theorem pbF_s (f : Nat → Nat) (op : Nat → Bool) (n : Nat) : pbF f op (n + 1) = if op n = true ∧ ((pbF f op n).2 = none ∨ f n < (pbF f op n).1) then (f n, some n) else pbF f op n := rfl
def pcM (cc : Nat) (ac co xc : Nat → Nat) (x c : Nat) : Nat × Option Nat := if c = 11 then pbF (fun k => askM ac co xc x k) (fun k => decide (knN ac x k = 0)) cc else (0, none)
theorem pbF_cong {f g : Nat → Nat} {p : Nat → Bool} : ∀ {n : Nat}, (∀ j, j < n → p j = true → f j = g j) → pbF f p n = pbF g p n
  | 0, _ => rfl
  | n + 1, h => by
    rw [pbF_s, pbF_s, pbF_cong (fun j hj => h j (by omega))]
    by_cases e : p n = true
    · rw [h n (by omega) e]
    · rw [if_neg (fun h9 => e h9.1), if_neg (fun h9 => e h9.1)]
theorem pbF_le {f : Nat → Nat} {p : Nat → Bool} {m : Nat} : ∀ {n : Nat}, (∀ j, j < n → p j = true → f j ≤ m) → (pbF f p n).1 ≤ m
  | 0, _ => Nat.zero_le _
  | n + 1, h => by
    rw [pbF_s]
    by_cases e : p n = true ∧ ((pbF f p n).2 = none ∨ f n < (pbF f p n).1)
    · rw [if_pos e]; exact h n (by omega) e.1
    · rw [if_neg e]; exact pbF_le (fun j hj => h j (by omega))
theorem cmM_dep {cc : Nat} {ac xa xw xw' : Nat → Nat} {x : Nat} (hac : ∀ k, k < cc → 2 ≤ ac k ∧ ac k ≤ 4) (h : ∀ z, x < z → xw z = xw' z) : cmM cc ac xa xw x = cmM cc ac xa xw' x := by
  unfold cmM
  cases e : firstF (fun k => decide (knN ac x k = 0)) cc with
  | none => rfl
  | some k =>
    have hk := (firstF_spec e).1
    refine comA_cong (by have := hac k hk; omega) (fun j j1 j2 => h _ ?_)
    have := Nat.mul_le_mul_right (pmF ac k) j1
    have := pmF_pos ac k
    omega
theorem askM_dep {ac co xc xc' : Nat → Nat} {x k : Nat} (h : ∀ z, x < z → xc z = xc' z) : askM ac co xc x k = askM ac co xc' x k := by
  unfold askM
  rw [maxF_cong (fun j hj => h _ ?_)]
  have h1 : 1 * pmF ac k ≤ (j + 1) * pmF ac k := Nat.mul_le_mul_right _ (by omega)
  have := pmF_pos ac k
  omega
theorem pcM_dep {cc : Nat} {ac co xc xc' : Nat → Nat} {x c : Nat} (h : ∀ z, x < z → xc z = xc' z) : pcM cc ac co xc x c = pcM cc ac co xc' x c := by
  unfold pcM
  rw [pbF_cong (fun j _ _ => askM_dep h)]
def plM (cc : Nat) (ac co xa xw xc : Nat → Nat) (xk : Nat → Option Nat) (m : Nat) : Prop := ∀ y, m ≤ y → y < pmF ac cc → xw y = cmM cc ac xa xw y ∧ xc y = (pcM cc ac co xc y (xw y)).1 ∧ xk y = (pcM cc ac co xc y (xw y)).2 ∧ xw y < 12 ∧ xc y ≤ 9 * (pmF ac cc - y)
theorem plM_step {cc : Nat} {ac co xa xw xc : Nat → Nat} {xk : Nat → Option Nat} {q : Nat} (hac : ∀ k, k < cc → 2 ≤ ac k ∧ ac k ≤ 4) (h : plM cc ac co xa xw xc xk (q + 1)) (h1 : cmM cc ac xa xw q < 12) (h2 : (pcM cc ac co xc q (cmM cc ac xa xw q)).1 ≤ 9 * (pmF ac cc - q)) :
    plM cc ac co xa (va_up xw q (cmM cc ac xa xw q)) (va_up xc q (pcM cc ac co xc q (cmM cc ac xa xw q)).1) (va_up xk q (pcM cc ac co xc q (cmM cc ac xa xw q)).2) q := by
  intro y hy hn
  have e1 : cmM cc ac xa (va_up xw q (cmM cc ac xa xw q)) y = cmM cc ac xa xw y := cmM_dep hac (fun z hz => up_n _ _ (by omega))
  have e2 : ∀ c, pcM cc ac co (va_up xc q (pcM cc ac co xc q (cmM cc ac xa xw q)).1) y c = pcM cc ac co xc y c := fun c => pcM_dep (fun z hz => up_n _ _ (by omega))
  rw [e1, e2]
  by_cases e : y = q
  · subst e
    rw [up_s, up_s, up_s]
    exact ⟨rfl, rfl, rfl, h1, h2⟩
  · rw [up_n _ _ e, up_n _ _ e, up_n _ _ e]
    exact h y (by omega) hn
theorem askM_le {cc : Nat} {ac co xc : Nat → Nat} {x k : Nat} (hco : ∀ k, k < cc → co k < 10) (hk : k < cc) (h0 : knN ac x k = 0) (hx : x < pmF ac cc) (h : ∀ y, x < y → y < pmF ac cc → xc y ≤ 9 * (pmF ac cc - y)) : askM ac co xc x k ≤ 9 * (pmF ac cc - x) := by
  unfold askM
  have h1 : maxF (fun j => xc (x + (j + 1) * pmF ac k)) (ac k) ≤ 9 * (pmF ac cc - (x + 1)) := maxF_le (fun j hj => by
    have h2 := km_next hx hk h0 (show j + 1 ≤ ac k by omega)
    have h3 : 1 * pmF ac k ≤ (j + 1) * pmF ac k := Nat.mul_le_mul_right _ (by omega)
    have h5 := pmF_pos ac k
    have h4 := h _ (show x < x + (j + 1) * pmF ac k by omega) h2
    omega)
  have := hco k hk
  omega
theorem cmM_lt {cc : Nat} {ac xa xw : Nat → Nat} {x : Nat} (hac : ∀ k, k < cc → 2 ≤ ac k ∧ ac k ≤ 4) (hx : x < pmF ac cc) (hxa : ∀ c, c < prodF ac cc → xa c < 11) (h : ∀ y, x < y → y < pmF ac cc → xw y < 12) : cmM cc ac xa xw x < 12 := by
  unfold cmM
  cases e : firstF (fun k => decide (knN ac x k = 0)) cc with
  | none =>
    show xa _ < 12
    refine Nat.lt_trans (hxa _ (cs_lt (fun k hk => ?_))) (by decide)
    have h1 := of_decide_eq_false (firstF_noneI e k hk)
    have h2 : knN ac x k < ac k + 1 := Nat.mod_lt _ (Nat.succ_pos _)
    omega
  | some k =>
    have hk := (firstF_spec e).1
    have h0 := of_decide_eq_true (firstF_spec e).2.1
    show comA xw x (pmF ac k) (ac k) < 12
    have h2 := km_next hx hk h0 (show 1 ≤ ac k by have := hac k hk; omega)
    rw [Nat.one_mul] at h2
    have h5 := pmF_pos ac k
    exact comA_lt (h _ (by omega) h2)
theorem comA_s {cm : Nat → Nat} {x p n : Nat} : comA cm x p (n + 1) = if cm (x + (n + 1) * p) = comA cm x p n then comA cm x p n else 11 := by
  unfold comA
  show (if (allB _ n && decide _) = true then _ else _) = _
  by_cases e : allB (fun j => decide (cm (x + (j + 1) * p) = cm (x + p))) n = true
  · rw [if_pos e, e, Bool.true_and]
    by_cases e2 : cm (x + (n + 1) * p) = cm (x + p)
    · rw [if_pos e2, if_pos (decide_eq_true e2)]
    · rw [if_neg e2, if_neg (fun h => e2 (of_decide_eq_true h))]
  · rw [if_neg e, if_neg (fun h => e (by rw [Bool.and_eq_true] at h; exact h.1))]
    split <;> rfl

set_option maxHeartbeats 4000000 in
set_option maxRecDepth 100000 in
theorem c_X6_known (lQ : Launch) (D : va_G) (kA : Nat → ClassId) (qr : Nat → Nat) (cc : Nat) (ac : Nat → Nat) (co : Nat → Nat) (ad : Nat) (rc : Nat) (nm : Nat → Nat) (st : Nat → Nat) (an : Nat → Nat) (svm : Nat → TCt) (cnt : Nat) (tx : Nat → Nat) (len : Nat) (th : Nat) (xf : Nat → Option Nat) (xt : Nat → Nat) (xs : Nat → Option Nat) (xa : Nat → Nat) (xw : Nat → Nat) (xc : Nat → Nat) (xk : Nat → Option Nat) (xp : Nat → Nat) (pt : Nat) (wr : Option Nat) (xm : Nat → Nat) (mny : Nat) (x : Nat) (k : Nat) (hcc : cc ≤ 5) (hac : ∀ k, k < cc → 2 ≤ ac k ∧ ac k ≤ 4) (hxp : ∀ k, k ≤ cc → xp k = pmF ac k) (hxn : x < pmF ac cc) (hk : k < cc) : Met lQ yX6_known wsX6_known (rmN 1 21) (rd_Pc D vwCl [.ref (qr 0), .int (nI x), .int (nI k)] (wR kA qr cc ac co ad rc nm st an svm cnt tx len th xf xt xs xa xw xc xk xp pt wr xm mny) (tyK kA)) (vp_Si (fun r : Int32 => r = (nI (knN ac x k)))) 0 0 (fun _ => False) := by
  refine Met.ofW (cc := cX6_known) (maxL := 3) (ret := (some .int)) (by decide) rfl ?_
  intro pQ eQ s mQ args below meth cQ s₁ B hml hv
  obtain ⟨rfl, hP, hK⟩ := hv
  have hx := B.exec
  have hb := B.bytes
  have hr := B.returns
  have hts := atoms_spec (ws := wsX6_known) B.pre
  have hown : s.vm.findClass RX6 = some mQ.cls := findClass_of_methodNamed B.named
  have hlocks : meth.locks = false := B.notSynchronized
  have hS0 : CallFix pQ mQ cQ cX6_known 3 s ([.ref (qr 0), .int (nI x), .int (nI k)] : List Value).toArray wsX6_known RX6 := ⟨hx, hb, hml, hown, hts⟩
  have f40 : (Cond.fieldLink RX6 40 "AskedRulesModel" "steps" "[I").before ([.ref (qr 0), .int (nI x), .int (nI k)] : List Value).toArray s = true := hts _ (by decide +kernel)
  have hinX6 : ∀ w ∈ wsX60, w ∈ wsX6_known := by decide +kernel
  have hl := lv_entry ([.ref (qr 0), .int (nI x), .int (nI k)]) (n := 3) (Nat.le_of_ble_eq_true rfl)
  rw [lg_entry_eq]
  generalize (lg_sl ([.ref (qr 0), .int (nI x), .int (nI k)]) ++ List.replicate (3 - (lg_sl ([.ref (qr 0), .int (nI x), .int (nI k)])).length) Slot.unset).toArray = ls at hl ⊢
  have hl : lv_has ls 3 [(0, .ref (qr 0)), (1, .int (nI x)), (2, .int (nI k))] := hl
  have hP : va_P D vwCl (wR kA qr cc ac co ad rc nm st an svm cnt tx len th xf xt xs xa xw xc xk xp pt wr xm mny) s.heap := hP
  have hpm9 := pmF_3125 hcc hac
  have hpk := pmF_pos ac k
  have hpk2 := pmF_mono ac (Nat.le_of_lt hk)
  have hxk := hxp k (Nat.le_of_lt hk)
  have hak := hac k hk
  refine lv_iload_n hx hb dX6_known_0 rfl (lv_at hl 1 rfl) ?_
  refine lv_aload_n hx hb dX6_known_1 rfl (lv_at hl 0 rfl) ?_
  refine n_get (ci := 6) (v := .ref (qr 11)) (C := RX6) (T := TX6) (N := 18) hx hb hts hinX6 hown hK hP 0 rfl rfl 13 rfl ⟨rfl, rfl, rfl⟩ f40 rfl dX6_known_2 ?_
  refine lv_iload_n hx hb dX6_known_5 rfl (lv_at hl 2 rfl) ?_
  refine n_iald (i := k) (v := (nI (xp k))) hx hb hK hP 11 0 rfl rfl (by omega) (Nat.le_of_ble_eq_true rfl) rfl dX6_known_6 ?_
  refine n_idiv (v := (nI (x / (xp k)))) hx hb (nI_ne0 (by omega) (by omega)) (pk_div (by omega) (by omega) (by omega)) dX6_known_7 ?_
  refine lv_aload_n hx hb dX6_known_8 rfl (lv_at hl 0 rfl) ?_
  refine lv_iload_n hx hb dX6_known_9 rfl (lv_at hl 2 rfl) ?_
  refine n_cV (b := qr 0) (As := [.int (nI k)]) (rest := [.int (nI (x / (xp k)))]) (wc := (wR kA qr cc ac co ad rc nm st an svm cnt tx len th xf xt xs xa xw xc xk xp pt wr xm mny)) hS0 (c_X6_answersOf lQ D kA qr cc ac co ad rc nm st an svm cnt tx len th xf xt xs xa xw xc xk xp pt wr xm mny k (by first | assumption | omega)) (cwV 1 hts gX6_known_X6_answersOf rfl rfl rfl (by decide +kernel) ⟨Nat.le_of_ble_eq_true rfl, Nat.le_of_ble_eq_true rfl⟩) hP hK (q0 := 0) rfl rfl rfl rfl rfl hl.1 (Nat.le_of_ble_eq_true rfl) dX6_known_10 ⟨Nat.le_refl _, Nat.le_refl _⟩ (fun r10 h10 => ?_)
  subst h10
  refine lv_iconst (v := (nI 1)) hx hb dX6_known_13 (by decide) ?_
  refine n_iadd (v := (nI (ac k + 1))) hx hb (nI_add _ _) dX6_known_14 ?_
  refine n_irem (v := (nI ((x / (xp k)) % (ac k + 1)))) hx hb (nI_ne0 (by omega) (by omega)) (pk_rem (by first | omega | exact Nat.lt_of_le_of_lt (Nat.div_le_self _ _) (by omega)) (by first | omega | exact Nat.lt_of_le_of_lt (Nat.div_le_self _ _) (by omega)) (by first | omega | exact Nat.lt_of_le_of_lt (Nat.div_le_self _ _) (by omega))) dX6_known_15 ?_
  exact n_reti hx hb hr hlocks (post := fun r : Int32 => r = (nI (knN ac x k))) (by unfold knN; rw [hxk]) rfl dX6_known_16

set_option maxHeartbeats 4000000 in
set_option maxRecDepth 100000 in
theorem c_X6_firstUnknown (lQ : Launch) (D : va_G) (kA : Nat → ClassId) (qr : Nat → Nat) (cc : Nat) (ac : Nat → Nat) (co : Nat → Nat) (ad : Nat) (rc : Nat) (nm : Nat → Nat) (st : Nat → Nat) (an : Nat → Nat) (svm : Nat → TCt) (cnt : Nat) (tx : Nat → Nat) (len : Nat) (th : Nat) (xf : Nat → Option Nat) (xt : Nat → Nat) (xs : Nat → Option Nat) (xa : Nat → Nat) (xw : Nat → Nat) (xc : Nat → Nat) (xk : Nat → Option Nat) (xp : Nat → Nat) (pt : Nat) (wr : Option Nat) (xm : Nat → Nat) (mny : Nat) (x : Nat) (hcc : cc ≤ 5) (hac : ∀ k, k < cc → 2 ≤ ac k ∧ ac k ≤ 4) (hxp : ∀ k, k ≤ cc → xp k = pmF ac k) (hxn : x < pmF ac cc) : Met lQ yX6_firstUnknown wsX6_firstUnknown (rmN 2 43) (rd_Pc D vwCl [.ref (qr 0), .int (nI x)] (wR kA qr cc ac co ad rc nm st an svm cnt tx len th xf xt xs xa xw xc xk xp pt wr xm mny) (tyK kA)) (vp_Si (fun r : Int32 => r = (oI (firstF (fun k => decide (knN ac x k = 0)) cc)))) 0 0 (fun _ => False) := by
  refine Met.ofW (cc := cX6_firstUnknown) (maxL := 3) (ret := (some .int)) (by decide) rfl ?_
  intro pQ eQ s mQ args below meth cQ s₁ B hml hv
  obtain ⟨rfl, hP, hK⟩ := hv
  have hx := B.exec
  have hb := B.bytes
  have hr := B.returns
  have hts := atoms_spec (ws := wsX6_firstUnknown) B.pre
  have hown : s.vm.findClass RX6 = some mQ.cls := findClass_of_methodNamed B.named
  have hlocks : meth.locks = false := B.notSynchronized
  have hS0 : CallFix pQ mQ cQ cX6_firstUnknown 3 s ([.ref (qr 0), .int (nI x)] : List Value).toArray wsX6_firstUnknown RX6 := ⟨hx, hb, hml, hown, hts⟩
  have f7 : (Cond.fieldLink RX6 7 "AskedRulesModel" "now" "[I").before ([.ref (qr 0), .int (nI x)] : List Value).toArray s = true := hts _ (by decide +kernel)
  have hinX6 : ∀ w ∈ wsX60, w ∈ wsX6_firstUnknown := by decide +kernel
  have hl := lv_entry ([.ref (qr 0), .int (nI x)]) (n := 3) (Nat.le_of_ble_eq_true rfl)
  rw [lg_entry_eq]
  generalize (lg_sl ([.ref (qr 0), .int (nI x)]) ++ List.replicate (3 - (lg_sl ([.ref (qr 0), .int (nI x)])).length) Slot.unset).toArray = ls at hl ⊢
  have hl : lv_has ls 3 [(0, .ref (qr 0)), (1, .int (nI x))] := hl
  have hP : va_P D vwCl (wR kA qr cc ac co ad rc nm st an svm cnt tx len th xf xt xs xa xw xc xk xp pt wr xm mny) s.heap := hP
  refine lv_iconst (v := (nI 0)) hx hb dX6_firstUnknown_0 (by decide) ?_
  refine lv_istore_n (lv' := [(2, .int (nI 0)), (0, .ref (qr 0)), (1, .int (nI x))]) hx hb dX6_firstUnknown_1 rfl hl (by decide) rfl (fun ls hl => ?_)
  have L2 : ∀ (nQ : Nat) (k : Nat), cc - k < nQ → (k ≤ cc) → (∀ j, j < k → decide (knN ac x j = 0) = false) → ∀ (ls : Array Slot), lv_has ls 3 [(2, .int (nI k)), (0, .ref (qr 0)), (1, .int (nI x))] → W pQ lQ eQ (headSpec wsX6_firstUnknown (rmN 2 43)).room s mQ ([.ref (qr 0), .int (nI x)] : List Value).toArray below meth cQ s.heap [] 0 0 (MQ below (vp_Si (fun r : Int32 => r = (oI (firstF (fun k => decide (knN ac x k = 0)) cc)))) ([.ref (qr 0), .int (nI x)] : List Value).toArray s 0 0 (fun _ => False)) (F0 mQ 2 ls []) := by
    intro nQ
    induction nQ with
    | zero => intro k hn; exact absurd hn (Nat.not_lt_zero _)
    | succ nQ ih2 =>
      intro k hm2 hk hn ls hl
      refine lv_iload_n hx hb dX6_firstUnknown_2 rfl (lv_at hl 0 rfl) ?_
      refine lv_aload_n hx hb dX6_firstUnknown_3 rfl (lv_at hl 1 rfl) ?_
      refine n_get (ci := 6) (v := .ref (qr 1)) (C := RX6) (T := TX6) (N := 18) hx hb hts hinX6 hown hK hP 0 rfl rfl 0 rfl ⟨rfl, rfl, rfl⟩ f7 rfl dX6_firstUnknown_4 ?_
      refine lv_iconst (v := (nI 0)) hx hb dX6_firstUnknown_7 (by decide) ?_
      refine n_iald (i := 0) (v := (nI cc)) hx hb hK hP 1 0 rfl rfl (by omega) (Nat.le_of_ble_eq_true rfl) rfl dX6_firstUnknown_8 ?_
      refine n_icmp_ge (a := k) (b := cc) (tgt := 29) hx hb (by omega) (by omega) dX6_firstUnknown_9 (by decide) (fun c9 => ?_) (fun c9 => ?_)
      · refine lv_iconst (v := (oI none)) hx hb dX6_firstUnknown_29 (by decide) ?_
        exact n_reti hx hb hr hlocks (post := fun r : Int32 => r = (oI (firstF (fun k => decide (knN ac x k = 0)) cc))) (by rw [firstF_none (fun j hj => hn j (by omega))]) rfl dX6_firstUnknown_30
      · refine lv_aload_n hx hb dX6_firstUnknown_12 rfl (lv_at hl 1 rfl) ?_
        refine lv_iload_n hx hb dX6_firstUnknown_13 rfl (lv_at hl 2 rfl) ?_
        refine lv_iload_n hx hb dX6_firstUnknown_14 rfl (lv_at hl 0 rfl) ?_
        refine n_cV (b := qr 0) (As := [.int (nI x), .int (nI k)]) (rest := []) (wc := (wR kA qr cc ac co ad rc nm st an svm cnt tx len th xf xt xs xa xw xc xk xp pt wr xm mny)) hS0 (c_X6_known lQ D kA qr cc ac co ad rc nm st an svm cnt tx len th xf xt xs xa xw xc xk xp pt wr xm mny x k (by first | assumption | omega) (by first | assumption | omega) (by first | assumption | omega) (by first | assumption | omega) (by first | assumption | omega)) (cwV 2 hts gX6_firstUnknown_X6_known rfl rfl rfl (by decide +kernel) ⟨Nat.le_of_ble_eq_true rfl, Nat.le_of_ble_eq_true rfl⟩) hP hK (q0 := 0) rfl rfl rfl rfl rfl hl.1 (Nat.le_of_ble_eq_true rfl) dX6_firstUnknown_15 ⟨Nat.le_refl _, Nat.le_refl _⟩ (fun r15 h15 => ?_)
        subst h15
        refine n_if_ne (a := knN ac x k) (tgt := 23) hx hb (by have := knN_lt ac x k; have := (hac k (by omega)).2; omega) dX6_firstUnknown_18 (by decide) (fun c18 => ?_) (fun c18 => ?_)
        · refine lv_iinc (v := (nI (k + 1))) (lv' := [(2, .int (nI (k + 1))), (0, .ref (qr 0)), (1, .int (nI x))]) hx hb dX6_firstUnknown_23 hl (k := 0) rfl (nI_inc _) (by decide) rfl (fun ls hl => ?_)
          refine lv_goto (tgt := 2) hx hb dX6_firstUnknown_26 (by decide) ?_
          exact ih2 (k + 1) (by omega) (by first | assumption | omega) (fun j hj => by by_cases e : j = k; (subst e; exact decide_eq_false (by omega)); exact hn j (by omega)) _ (lv_sub hl [0, 1, 2] rfl)
        · refine lv_iload_n hx hb dX6_firstUnknown_21 rfl (lv_at hl 0 rfl) ?_
          exact n_reti hx hb hr hlocks (post := fun r : Int32 => r = (oI (firstF (fun k => decide (knN ac x k = 0)) cc))) (by rw [firstF_some hn (decide_eq_true c18) (by omega)]; rfl) rfl dX6_firstUnknown_22
  exact L2 ((cc - 0) + 1) 0 (Nat.lt_succ_self _) (by first | assumption | omega) (fun j hj => absurd hj (Nat.not_lt_zero _)) _ (lv_sub hl [0, 1, 2] rfl)

set_option maxHeartbeats 4000000 in
set_option maxRecDepth 100000 in
theorem c_X6_caseBy (lQ : Launch) (D : va_G) (kA : Nat → ClassId) (qr : Nat → Nat) (cc : Nat) (ac : Nat → Nat) (co : Nat → Nat) (ad : Nat) (rc : Nat) (nm : Nat → Nat) (st : Nat → Nat) (an : Nat → Nat) (svm : Nat → TCt) (cnt : Nat) (tx : Nat → Nat) (len : Nat) (th : Nat) (xf : Nat → Option Nat) (xt : Nat → Nat) (xs : Nat → Option Nat) (xa : Nat → Nat) (xw : Nat → Nat) (xc : Nat → Nat) (xk : Nat → Option Nat) (xp : Nat → Nat) (pt : Nat) (wr : Option Nat) (xm : Nat → Nat) (mny : Nat) (x : Nat) (hcc : cc ≤ 5) (hac : ∀ k, k < cc → 2 ≤ ac k ∧ ac k ≤ 4) (hxp : ∀ k, k ≤ cc → xp k = pmF ac k) (hxn : x < pmF ac cc) (hdg : ∀ k, k < cc → 1 ≤ knN ac x k) : Met lQ yX6_caseBy wsX6_caseBy (rmN 2 43) (rd_Pc D vwCl [.ref (qr 0), .int (nI x)] (wR kA qr cc ac co ad rc nm st an svm cnt tx len th xf xt xs xa xw xc xk xp pt wr xm mny) (tyK kA)) (vp_Si (fun r : Int32 => r = (nI (sumF (fun k => (knN ac x k - 1) * prodF ac k) cc)))) 0 0 (fun _ => False) := by
  refine Met.ofW (cc := cX6_caseBy) (maxL := 4) (ret := (some .int)) (by decide) rfl ?_
  intro pQ eQ s mQ args below meth cQ s₁ B hml hv
  obtain ⟨rfl, hP, hK⟩ := hv
  have hx := B.exec
  have hb := B.bytes
  have hr := B.returns
  have hts := atoms_spec (ws := wsX6_caseBy) B.pre
  have hown : s.vm.findClass RX6 = some mQ.cls := findClass_of_methodNamed B.named
  have hlocks : meth.locks = false := B.notSynchronized
  have hS0 : CallFix pQ mQ cQ cX6_caseBy 4 s ([.ref (qr 0), .int (nI x)] : List Value).toArray wsX6_caseBy RX6 := ⟨hx, hb, hml, hown, hts⟩
  have f7 : (Cond.fieldLink RX6 7 "AskedRulesModel" "now" "[I").before ([.ref (qr 0), .int (nI x)] : List Value).toArray s = true := hts _ (by decide +kernel)
  have hinX6 : ∀ w ∈ wsX60, w ∈ wsX6_caseBy := by decide +kernel
  have hl := lv_entry ([.ref (qr 0), .int (nI x)]) (n := 4) (Nat.le_of_ble_eq_true rfl)
  rw [lg_entry_eq]
  generalize (lg_sl ([.ref (qr 0), .int (nI x)]) ++ List.replicate (4 - (lg_sl ([.ref (qr 0), .int (nI x)])).length) Slot.unset).toArray = ls at hl ⊢
  have hl : lv_has ls 4 [(0, .ref (qr 0)), (1, .int (nI x))] := hl
  have hP : va_P D vwCl (wR kA qr cc ac co ad rc nm st an svm cnt tx len th xf xt xs xa xw xc xk xp pt wr xm mny) s.heap := hP
  refine lv_iconst (v := (nI 0)) hx hb dX6_caseBy_0 (by decide) ?_
  refine lv_istore_n (lv' := [(2, .int (nI 0)), (0, .ref (qr 0)), (1, .int (nI x))]) hx hb dX6_caseBy_1 rfl hl (by decide) rfl (fun ls hl => ?_)
  refine lv_aload_n hx hb dX6_caseBy_2 rfl (lv_at hl 1 rfl) ?_
  refine n_get (ci := 6) (v := .ref (qr 1)) (C := RX6) (T := TX6) (N := 18) hx hb hts hinX6 hown hK hP 0 rfl rfl 0 rfl ⟨rfl, rfl, rfl⟩ f7 rfl dX6_caseBy_3 ?_
  refine lv_iconst (v := (nI 0)) hx hb dX6_caseBy_6 (by decide) ?_
  refine n_iald (i := 0) (v := (nI cc)) hx hb hK hP 1 0 rfl rfl (by omega) (Nat.le_of_ble_eq_true rfl) rfl dX6_caseBy_7 ?_
  refine lv_iconst (v := (nI 1)) hx hb dX6_caseBy_8 (by decide) ?_
  refine n_isub (v := (oI (dO cc))) hx hb (oI_dO _) dX6_caseBy_9 ?_
  refine lv_istore_n (lv' := [(3, .int (oI (dO cc))), (2, .int (nI 0)), (0, .ref (qr 0)), (1, .int (nI x))]) hx hb dX6_caseBy_10 rfl hl (by decide) rfl (fun ls hl => ?_)
  have L11 : ∀ (nQ : Nat) (m9 : Nat) (u : Nat), m9 < nQ → (m9 ≤ cc) → (u * prodF ac m9 + sumF (fun k => (knN ac x k - 1) * prodF ac k) m9 = sumF (fun k => (knN ac x k - 1) * prodF ac k) cc) → ∀ (ls : Array Slot), lv_has ls 4 [(3, .int (oI (dO m9))), (2, .int (nI u)), (0, .ref (qr 0)), (1, .int (nI x))] → W pQ lQ eQ (headSpec wsX6_caseBy (rmN 2 43)).room s mQ ([.ref (qr 0), .int (nI x)] : List Value).toArray below meth cQ s.heap [] 0 0 (MQ below (vp_Si (fun r : Int32 => r = (nI (sumF (fun k => (knN ac x k - 1) * prodF ac k) cc)))) ([.ref (qr 0), .int (nI x)] : List Value).toArray s 0 0 (fun _ => False)) (F0 mQ 11 ls []) := by
    intro nQ
    induction nQ with
    | zero => intro m9 u hn; exact absurd hn (Nat.not_lt_zero _)
    | succ nQ ih11 =>
      intro m9 u hm11 hm hs ls hl
      refine lv_iload_n hx hb dX6_caseBy_11 rfl (lv_at hl 0 rfl) ?_
      refine n_ifo_lt (o := dO m9) (tgt := 38) hx hb (fun q h => by have := dO_some h; omega) dX6_caseBy_12 (by decide) (fun c12 => ?_) (fun q12 c12 => ?_)
      · have hl : lv_has ls 4 [(3, .int (oI none)), (2, .int (nI u)), (0, .ref (qr 0)), (1, .int (nI x))] := by rw [c12] at hl; exact hl
        have hmq := dO_none c12
        refine lv_iload_n hx hb dX6_caseBy_38 rfl (lv_at hl 1 rfl) ?_
        exact n_reti hx hb hr hlocks (post := fun r : Int32 => r = (nI (sumF (fun k => (knN ac x k - 1) * prodF ac k) cc))) (by rw [← hs, hmq]; show nI u = nI (u * 1 + 0); rw [Nat.mul_one, Nat.add_zero]) rfl dX6_caseBy_39
      · have hl : lv_has ls 4 [(3, .int (nI q12)), (2, .int (nI u)), (0, .ref (qr 0)), (1, .int (nI x))] := by rw [c12] at hl; exact hl
        have hmq := dO_some c12
        refine lv_iload_n hx hb dX6_caseBy_15 rfl (lv_at hl 1 rfl) ?_
        refine lv_aload_n hx hb dX6_caseBy_16 rfl (lv_at hl 2 rfl) ?_
        refine lv_iload_n hx hb dX6_caseBy_17 rfl (lv_at hl 0 rfl) ?_
        refine n_cV (b := qr 0) (As := [.int (nI q12)]) (rest := [.int (nI u)]) (wc := (wR kA qr cc ac co ad rc nm st an svm cnt tx len th xf xt xs xa xw xc xk xp pt wr xm mny)) hS0 (c_X6_answersOf lQ D kA qr cc ac co ad rc nm st an svm cnt tx len th xf xt xs xa xw xc xk xp pt wr xm mny q12 (by first | assumption | omega)) (cwV 1 hts gX6_caseBy_X6_answersOf rfl rfl rfl (by decide +kernel) ⟨Nat.le_of_ble_eq_true rfl, Nat.le_of_ble_eq_true rfl⟩) hP hK (q0 := 0) rfl rfl rfl rfl rfl hl.1 (Nat.le_of_ble_eq_true rfl) dX6_caseBy_18 ⟨Nat.le_refl _, Nat.le_refl _⟩ (fun r18 h18 => ?_)
        subst h18
        refine n_imul (v := (nI (u * (ac q12)))) hx hb (pk_mul _ _) dX6_caseBy_21 ?_
        refine lv_aload_n hx hb dX6_caseBy_22 rfl (lv_at hl 2 rfl) ?_
        refine lv_iload_n hx hb dX6_caseBy_23 rfl (lv_at hl 3 rfl) ?_
        refine lv_iload_n hx hb dX6_caseBy_24 rfl (lv_at hl 0 rfl) ?_
        refine n_cV (b := qr 0) (As := [.int (nI x), .int (nI q12)]) (rest := [.int (nI (u * (ac q12)))]) (wc := (wR kA qr cc ac co ad rc nm st an svm cnt tx len th xf xt xs xa xw xc xk xp pt wr xm mny)) hS0 (c_X6_known lQ D kA qr cc ac co ad rc nm st an svm cnt tx len th xf xt xs xa xw xc xk xp pt wr xm mny x q12 (by first | assumption | omega) (by first | assumption | omega) (by first | assumption | omega) (by first | assumption | omega) (by first | assumption | omega)) (cwV 2 hts gX6_caseBy_X6_known rfl rfl rfl (by decide +kernel) ⟨Nat.le_of_ble_eq_true rfl, Nat.le_of_ble_eq_true rfl⟩) hP hK (q0 := 0) rfl rfl rfl rfl rfl hl.1 (Nat.le_of_ble_eq_true rfl) dX6_caseBy_25 ⟨Nat.le_refl _, Nat.le_refl _⟩ (fun r25 h25 => ?_)
        subst h25
        refine n_iadd (v := (nI ((u * (ac q12)) + (knN ac x q12)))) hx hb (nI_add _ _) dX6_caseBy_28 ?_
        refine lv_iconst (v := (nI 1)) hx hb dX6_caseBy_29 (by decide) ?_
        refine n_isub (v := (nI (((u * (ac q12)) + (knN ac x q12)) - 1))) hx hb (pk_sub (by have := hdg q12 (by omega); omega)) dX6_caseBy_30 ?_
        refine lv_istore_n (lv' := [(2, .int (nI (((u * (ac q12)) + (knN ac x q12)) - 1))), (3, .int (nI q12)), (0, .ref (qr 0)), (1, .int (nI x))]) hx hb dX6_caseBy_31 rfl hl (by decide) rfl (fun ls hl => ?_)
        refine lv_iinc (v := (oI (dO q12))) (lv' := [(3, .int (oI (dO q12))), (2, .int (nI (((u * (ac q12)) + (knN ac x q12)) - 1))), (0, .ref (qr 0)), (1, .int (nI x))]) hx hb dX6_caseBy_32 hl (k := 1) rfl (nI_dec _) (by decide) rfl (fun ls hl => ?_)
        refine lv_goto (tgt := 11) hx hb dX6_caseBy_35 (by decide) ?_
        exact ih11 q12 (((u * (ac q12)) + (knN ac x q12)) - 1) (by omega) (by first | assumption | omega) (by rw [← hs, hmq, sumF_s, prodF_s, show u * ac q12 + knN ac x q12 - 1 = u * ac q12 + (knN ac x q12 - 1) by have := hdg q12 (by omega); omega, Nat.add_mul, show u * (prodF ac q12 * ac q12) = u * ac q12 * prodF ac q12 by rw [Nat.mul_assoc, Nat.mul_comm (ac q12)]]; omega) _ (lv_sub hl [0, 1, 2, 3] rfl)
  exact L11 ((cc) + 1) cc 0 (Nat.lt_succ_self _) (Nat.le_refl _) (by rw [Nat.zero_mul, Nat.zero_add]) _ (lv_sub hl [0, 1, 2, 3] rfl)

set_option maxHeartbeats 4000000 in
set_option maxRecDepth 100000 in
theorem c_X6_wholeOf (lQ : Launch) (D : va_G) (kA : Nat → ClassId) (qr : Nat → Nat) (cc : Nat) (ac : Nat → Nat) (co : Nat → Nat) (ad : Nat) (rc : Nat) (nm : Nat → Nat) (st : Nat → Nat) (an : Nat → Nat) (svm : Nat → TCt) (cnt : Nat) (tx : Nat → Nat) (len : Nat) (th : Nat) (xf : Nat → Option Nat) (xt : Nat → Nat) (xs : Nat → Option Nat) (xa : Nat → Nat) (xw : Nat → Nat) (xc : Nat → Nat) (xk : Nat → Option Nat) (xp : Nat → Nat) (pt : Nat) (wr : Option Nat) (xm : Nat → Nat) (mny : Nat) (x : Nat) (k : Nat) (hcc : cc ≤ 5) (hac : ∀ k, k < cc → 2 ≤ ac k ∧ ac k ≤ 4) (hxp : ∀ k, k ≤ cc → xp k = pmF ac k) (hxn : x < pmF ac cc) (hk : k < cc) (hk0 : knN ac x k = 0) (hxw : ∀ y, x < y → y < pmF ac cc → xw y < 12) : Met lQ yX6_wholeOf wsX6_wholeOf (rmN 1 21) (rd_Pc D vwCl [.ref (qr 0), .int (nI x), .int (nI k)] (wR kA qr cc ac co ad rc nm st an svm cnt tx len th xf xt xs xa xw xc xk xp pt wr xm mny) (tyK kA)) (vp_Si (fun r : Int32 => r = (mI (comA xw x (pmF ac k) (ac k))))) 0 0 (fun _ => False) := by
  refine Met.ofW (cc := cX6_wholeOf) (maxL := 5) (ret := (some .int)) (by decide) rfl ?_
  intro pQ eQ s mQ args below meth cQ s₁ B hml hv
  obtain ⟨rfl, hP, hK⟩ := hv
  have hx := B.exec
  have hb := B.bytes
  have hr := B.returns
  have hts := atoms_spec (ws := wsX6_wholeOf) B.pre
  have hown : s.vm.findClass RX6 = some mQ.cls := findClass_of_methodNamed B.named
  have hlocks : meth.locks = false := B.notSynchronized
  have hS0 : CallFix pQ mQ cQ cX6_wholeOf 5 s ([.ref (qr 0), .int (nI x), .int (nI k)] : List Value).toArray wsX6_wholeOf RX6 := ⟨hx, hb, hml, hown, hts⟩
  have f31 : (Cond.fieldLink RX6 31 "AskedRulesModel" "whole" "[I").before ([.ref (qr 0), .int (nI x), .int (nI k)] : List Value).toArray s = true := hts _ (by decide +kernel)
  have hinX6 : ∀ w ∈ wsX60, w ∈ wsX6_wholeOf := by decide +kernel
  have f40 : (Cond.fieldLink RX6 40 "AskedRulesModel" "steps" "[I").before ([.ref (qr 0), .int (nI x), .int (nI k)] : List Value).toArray s = true := hts _ (by decide +kernel)
  have hl := lv_entry ([.ref (qr 0), .int (nI x), .int (nI k)]) (n := 5) (Nat.le_of_ble_eq_true rfl)
  rw [lg_entry_eq]
  generalize (lg_sl ([.ref (qr 0), .int (nI x), .int (nI k)]) ++ List.replicate (5 - (lg_sl ([.ref (qr 0), .int (nI x), .int (nI k)])).length) Slot.unset).toArray = ls at hl ⊢
  have hl : lv_has ls 5 [(0, .ref (qr 0)), (1, .int (nI x)), (2, .int (nI k))] := hl
  have hP : va_P D vwCl (wR kA qr cc ac co ad rc nm st an svm cnt tx len th xf xt xs xa xw xc xk xp pt wr xm mny) s.heap := hP
  have hpm9 := pmF_3125 hcc hac
  have hpk := pmF_pos ac k
  have hxk := hxp k (Nat.le_of_lt hk)
  have hak := hac k hk
  have hnx : ∀ a, 1 ≤ a → a ≤ ac k → x < x + a * pmF ac k ∧ x + a * pmF ac k < pmF ac cc := fun a h1 h2 => ⟨by have := Nat.mul_le_mul_right (pmF ac k) h1; omega, km_next hxn hk hk0 h2⟩
  have hn1 := hnx 1 (Nat.le_refl _) (by omega)
  rw [Nat.one_mul] at hn1
  refine lv_aload_n hx hb dX6_wholeOf_0 rfl (lv_at hl 0 rfl) ?_
  refine n_get (ci := 6) (v := .ref (qr 8)) (C := RX6) (T := TX6) (N := 18) hx hb hts hinX6 hown hK hP 0 rfl rfl 10 rfl ⟨rfl, rfl, rfl⟩ f31 rfl dX6_wholeOf_1 ?_
  refine lv_iload_n hx hb dX6_wholeOf_4 rfl (lv_at hl 1 rfl) ?_
  refine lv_aload_n hx hb dX6_wholeOf_5 rfl (lv_at hl 0 rfl) ?_
  refine n_get (ci := 6) (v := .ref (qr 11)) (C := RX6) (T := TX6) (N := 18) hx hb hts hinX6 hown hK hP 0 rfl rfl 13 rfl ⟨rfl, rfl, rfl⟩ f40 rfl dX6_wholeOf_6 ?_
  refine lv_iload_n hx hb dX6_wholeOf_9 rfl (lv_at hl 2 rfl) ?_
  refine n_iald (i := k) (v := (nI (xp k))) hx hb hK hP 11 0 rfl rfl (by omega) (Nat.le_of_ble_eq_true rfl) rfl dX6_wholeOf_10 ?_
  refine n_iadd (v := (nI (x + (xp k)))) hx hb (nI_add _ _) dX6_wholeOf_11 ?_
  refine n_iald (i := x + (xp k)) (v := (mI (xw (x + (xp k))))) hx hb hK hP 8 0 rfl rfl (by rw [hxk]; omega) (Nat.le_of_ble_eq_true rfl) rfl dX6_wholeOf_12 ?_
  refine lv_istore_n (lv' := [(3, .int (mI (xw (x + (xp k))))), (0, .ref (qr 0)), (1, .int (nI x)), (2, .int (nI k))]) hx hb dX6_wholeOf_13 rfl hl (by decide) rfl (fun ls hl => ?_)
  refine lv_iconst (v := (nI 2)) hx hb dX6_wholeOf_14 (by decide) ?_
  refine lv_istore (lv' := [(4, .int (nI 2)), (3, .int (mI (xw (x + (xp k))))), (0, .ref (qr 0)), (1, .int (nI x)), (2, .int (nI k))]) hx hb dX6_wholeOf_15 hl (by decide) rfl (fun ls hl => ?_)
  have L17 : ∀ (nQ : Nat) (a9 : Nat) (v : Nat), ac k + 1 - a9 < nQ → (2 ≤ a9) → (a9 ≤ ac k + 1) → (v = comA xw x (pmF ac k) (a9 - 1)) → ∀ (ls : Array Slot), lv_has ls 5 [(4, .int (nI a9)), (3, .int (mI v)), (0, .ref (qr 0)), (1, .int (nI x)), (2, .int (nI k))] → W pQ lQ eQ (headSpec wsX6_wholeOf (rmN 1 21)).room s mQ ([.ref (qr 0), .int (nI x), .int (nI k)] : List Value).toArray below meth cQ s.heap [] 0 0 (MQ below (vp_Si (fun r : Int32 => r = (mI (comA xw x (pmF ac k) (ac k))))) ([.ref (qr 0), .int (nI x), .int (nI k)] : List Value).toArray s 0 0 (fun _ => False)) (F0 mQ 17 ls []) := by
    intro nQ
    induction nQ with
    | zero => intro a9 v hn; exact absurd hn (Nat.not_lt_zero _)
    | succ nQ ih17 =>
      intro a9 v hm17 ha1 ha2 hv ls hl
      refine lv_iload hx hb dX6_wholeOf_17 (lv_at hl 0 rfl) ?_
      refine lv_aload_n hx hb dX6_wholeOf_19 rfl (lv_at hl 2 rfl) ?_
      refine lv_iload_n hx hb dX6_wholeOf_20 rfl (lv_at hl 4 rfl) ?_
      refine n_cV (b := qr 0) (As := [.int (nI k)]) (rest := [.int (nI a9)]) (wc := (wR kA qr cc ac co ad rc nm st an svm cnt tx len th xf xt xs xa xw xc xk xp pt wr xm mny)) hS0 (c_X6_answersOf lQ D kA qr cc ac co ad rc nm st an svm cnt tx len th xf xt xs xa xw xc xk xp pt wr xm mny k (by first | assumption | omega)) (cwV 1 hts gX6_wholeOf_X6_answersOf rfl rfl rfl (by decide +kernel) ⟨Nat.le_of_ble_eq_true rfl, Nat.le_of_ble_eq_true rfl⟩) hP hK (q0 := 0) rfl rfl rfl rfl rfl hl.1 (Nat.le_of_ble_eq_true rfl) dX6_wholeOf_21 ⟨Nat.le_refl _, Nat.le_refl _⟩ (fun r21 h21 => ?_)
      subst h21
      refine n_icmp_gt (a := a9) (b := ac k) (tgt := 60) hx hb (by omega) (by omega) dX6_wholeOf_24 (by decide) (fun c24 => ?_) (fun c24 => ?_)
      · refine lv_iload_n hx hb dX6_wholeOf_60 rfl (lv_at hl 1 rfl) ?_
        exact n_reti hx hb hr hlocks (post := fun r : Int32 => r = (mI (comA xw x (pmF ac k) (ac k)))) (by rw [hv, show a9 - 1 = ac k by omega]) rfl dX6_wholeOf_61
      · refine lv_aload_n hx hb dX6_wholeOf_27 rfl (lv_at hl 2 rfl) ?_
        refine n_get (ci := 6) (v := .ref (qr 8)) (C := RX6) (T := TX6) (N := 18) hx hb hts hinX6 hown hK hP 0 rfl rfl 10 rfl ⟨rfl, rfl, rfl⟩ f31 rfl dX6_wholeOf_28 ?_
        refine lv_iload_n hx hb dX6_wholeOf_31 rfl (lv_at hl 3 rfl) ?_
        refine lv_iload hx hb dX6_wholeOf_32 (lv_at hl 0 rfl) ?_
        refine lv_aload_n hx hb dX6_wholeOf_34 rfl (lv_at hl 2 rfl) ?_
        refine n_get (ci := 6) (v := .ref (qr 11)) (C := RX6) (T := TX6) (N := 18) hx hb hts hinX6 hown hK hP 0 rfl rfl 13 rfl ⟨rfl, rfl, rfl⟩ f40 rfl dX6_wholeOf_35 ?_
        refine lv_iload_n hx hb dX6_wholeOf_38 rfl (lv_at hl 4 rfl) ?_
        refine n_iald (i := k) (v := (nI (xp k))) hx hb hK hP 11 0 rfl rfl (by omega) (Nat.le_of_ble_eq_true rfl) rfl dX6_wholeOf_39 ?_
        refine n_imul (v := (nI (a9 * (xp k)))) hx hb (pk_mul _ _) dX6_wholeOf_40 ?_
        refine n_iadd (v := (nI (x + (a9 * (xp k))))) hx hb (nI_add _ _) dX6_wholeOf_41 ?_
        refine n_iald (i := x + (a9 * (xp k))) (v := (mI (xw (x + (a9 * (xp k)))))) hx hb hK hP 8 0 rfl rfl (by rw [hxk]; have := hnx a9 (by omega) (by omega); omega) (Nat.le_of_ble_eq_true rfl) rfl dX6_wholeOf_42 ?_
        refine lv_iload_n hx hb dX6_wholeOf_43 rfl (lv_at hl 1 rfl) ?_
        refine n_icmpm_ne (a := xw (x + (a9 * (xp k)))) (b := v) (tgt := 51) hx hb (by rw [hxk]; have h9 := hnx a9 (by omega) (by omega); exact hxw _ h9.1 h9.2) (by rw [hv]; exact comA_lt (hxw _ hn1.1 hn1.2)) dX6_wholeOf_44 (by decide) (fun c44 => ?_) (fun c44 => ?_)
        · refine lv_bipush (v := (-2)) hx hb dX6_wholeOf_51 (by decide) ?_
          refine lv_istore_n (lv' := [(3, .int (-2)), (4, .int (nI a9)), (0, .ref (qr 0)), (1, .int (nI x)), (2, .int (nI k))]) hx hb dX6_wholeOf_53 rfl hl (by decide) rfl (fun ls hl => ?_)
          refine lv_iinc (v := (nI (a9 + 1))) (lv' := [(4, .int (nI (a9 + 1))), (3, .int (-2)), (0, .ref (qr 0)), (1, .int (nI x)), (2, .int (nI k))]) hx hb dX6_wholeOf_54 hl (k := 1) rfl (nI_inc _) (by decide) rfl (fun ls hl => ?_)
          refine lv_goto (tgt := 17) hx hb dX6_wholeOf_57 (by decide) ?_
          exact ih17 (a9 + 1) 11 (by omega) (by first | assumption | omega) (by first | assumption | omega) (by rw [show a9 + 1 - 1 = (a9 - 1) + 1 by omega, comA_s, ← hv, show a9 - 1 + 1 = a9 by omega, ← hxk]; first | rw [if_pos c44] | rw [if_neg c44]) _ (lv_sub hl [0, 1, 2, 3, 4] rfl)
        · refine lv_iload_n hx hb dX6_wholeOf_47 rfl (lv_at hl 1 rfl) ?_
          refine lv_goto (tgt := 53) hx hb dX6_wholeOf_48 (by decide) ?_
          refine lv_istore_n (lv' := [(3, .int (mI v)), (4, .int (nI a9)), (0, .ref (qr 0)), (1, .int (nI x)), (2, .int (nI k))]) hx hb dX6_wholeOf_53 rfl hl (by decide) rfl (fun ls hl => ?_)
          refine lv_iinc (v := (nI (a9 + 1))) (lv' := [(4, .int (nI (a9 + 1))), (3, .int (mI v)), (0, .ref (qr 0)), (1, .int (nI x)), (2, .int (nI k))]) hx hb dX6_wholeOf_54 hl (k := 1) rfl (nI_inc _) (by decide) rfl (fun ls hl => ?_)
          refine lv_goto (tgt := 17) hx hb dX6_wholeOf_57 (by decide) ?_
          exact ih17 (a9 + 1) v (by omega) (by first | assumption | omega) (by first | assumption | omega) (by rw [show a9 + 1 - 1 = (a9 - 1) + 1 by omega, comA_s, ← hv, show a9 - 1 + 1 = a9 by omega, ← hxk]; first | rw [if_pos c44] | rw [if_neg c44]) _ (lv_sub hl [0, 1, 2, 3, 4] rfl)
  exact L17 ((ac k + 1 - 2) + 1) 2 (xw (x + (xp k))) (Nat.lt_succ_self _) (by first | assumption | omega) (by first | assumption | omega) (by rw [hxk]; unfold comA; rw [if_pos (by show (allB _ 0 && decide (xw (x + (0 + 1) * pmF ac k) = xw (x + pmF ac k))) = true; rw [Nat.zero_add, Nat.one_mul, decide_eq_true rfl]; rfl)]) _ (lv_sub hl [0, 1, 2, 3, 4] rfl)

set_option maxHeartbeats 4000000 in
set_option maxRecDepth 100000 in
theorem c_X6_costBy (lQ : Launch) (D : va_G) (kA : Nat → ClassId) (qr : Nat → Nat) (cc : Nat) (ac : Nat → Nat) (co : Nat → Nat) (ad : Nat) (rc : Nat) (nm : Nat → Nat) (st : Nat → Nat) (an : Nat → Nat) (svm : Nat → TCt) (cnt : Nat) (tx : Nat → Nat) (len : Nat) (th : Nat) (xf : Nat → Option Nat) (xt : Nat → Nat) (xs : Nat → Option Nat) (xa : Nat → Nat) (xw : Nat → Nat) (xc : Nat → Nat) (xk : Nat → Option Nat) (xp : Nat → Nat) (pt : Nat) (wr : Option Nat) (xm : Nat → Nat) (mny : Nat) (x : Nat) (k : Nat) (hcc : cc ≤ 5) (hac : ∀ k, k < cc → 2 ≤ ac k ∧ ac k ≤ 4) (hxp : ∀ k, k ≤ cc → xp k = pmF ac k) (hxn : x < pmF ac cc) (hk : k < cc) (hk0 : knN ac x k = 0) (hxc : ∀ y, x < y → y < pmF ac cc → xc y ≤ 9 * (pmF ac cc - y)) : Met lQ yX6_costBy wsX6_costBy (rmN 1 21) (rd_Pc D vwCl [.ref (qr 0), .int (nI x), .int (nI k)] (wR kA qr cc ac co ad rc nm st an svm cnt tx len th xf xt xs xa xw xc xk xp pt wr xm mny) (tyK kA)) (vp_Si (fun r : Int32 => r = (nI (askM ac co xc x k)))) 0 0 (fun _ => False) := by
  refine Met.ofW (cc := cX6_costBy) (maxL := 6) (ret := (some .int)) (by decide) rfl ?_
  intro pQ eQ s mQ args below meth cQ s₁ B hml hv
  obtain ⟨rfl, hP, hK⟩ := hv
  have hx := B.exec
  have hb := B.bytes
  have hr := B.returns
  have hts := atoms_spec (ws := wsX6_costBy) B.pre
  have hown : s.vm.findClass RX6 = some mQ.cls := findClass_of_methodNamed B.named
  have hlocks : meth.locks = false := B.notSynchronized
  have hS0 : CallFix pQ mQ cQ cX6_costBy 6 s ([.ref (qr 0), .int (nI x), .int (nI k)] : List Value).toArray wsX6_costBy RX6 := ⟨hx, hb, hml, hown, hts⟩
  have f7 : (Cond.fieldLink RX6 7 "AskedRulesModel" "now" "[I").before ([.ref (qr 0), .int (nI x), .int (nI k)] : List Value).toArray s = true := hts _ (by decide +kernel)
  have hinX6 : ∀ w ∈ wsX60, w ∈ wsX6_costBy := by decide +kernel
  have f34 : (Cond.fieldLink RX6 34 "AskedRulesModel" "costs" "[I").before ([.ref (qr 0), .int (nI x), .int (nI k)] : List Value).toArray s = true := hts _ (by decide +kernel)
  have f40 : (Cond.fieldLink RX6 40 "AskedRulesModel" "steps" "[I").before ([.ref (qr 0), .int (nI x), .int (nI k)] : List Value).toArray s = true := hts _ (by decide +kernel)
  have hl := lv_entry ([.ref (qr 0), .int (nI x), .int (nI k)]) (n := 6) (Nat.le_of_ble_eq_true rfl)
  rw [lg_entry_eq]
  generalize (lg_sl ([.ref (qr 0), .int (nI x), .int (nI k)]) ++ List.replicate (6 - (lg_sl ([.ref (qr 0), .int (nI x), .int (nI k)])).length) Slot.unset).toArray = ls at hl ⊢
  have hl : lv_has ls 6 [(0, .ref (qr 0)), (1, .int (nI x)), (2, .int (nI k))] := hl
  have hP : va_P D vwCl (wR kA qr cc ac co ad rc nm st an svm cnt tx len th xf xt xs xa xw xc xk xp pt wr xm mny) s.heap := hP
  have hpm9 := pmF_3125 hcc hac
  have hpk := pmF_pos ac k
  have hxk := hxp k (Nat.le_of_lt hk)
  have hak := hac k hk
  have hnx : ∀ a, 1 ≤ a → a ≤ ac k → x < x + a * pmF ac k ∧ x + a * pmF ac k < pmF ac cc := fun a h1 h2 => ⟨by have := Nat.mul_le_mul_right (pmF ac k) h1; omega, km_next hxn hk hk0 h2⟩
  have hn1 := hnx 1 (Nat.le_refl _) (by omega)
  rw [Nat.one_mul] at hn1
  refine lv_iconst (v := (nI 0)) hx hb dX6_costBy_0 (by decide) ?_
  refine lv_istore_n (lv' := [(3, .int (nI 0)), (0, .ref (qr 0)), (1, .int (nI x)), (2, .int (nI k))]) hx hb dX6_costBy_1 rfl hl (by decide) rfl (fun ls hl => ?_)
  refine lv_iconst (v := (nI 1)) hx hb dX6_costBy_2 (by decide) ?_
  refine lv_istore (lv' := [(4, .int (nI 1)), (3, .int (nI 0)), (0, .ref (qr 0)), (1, .int (nI x)), (2, .int (nI k))]) hx hb dX6_costBy_3 hl (by decide) rfl (fun ls hl => ?_)
  have L5 : ∀ (nQ : Nat) (a9 : Nat) (v : Nat), ac k + 1 - a9 < nQ → (1 ≤ a9) → (a9 ≤ ac k + 1) → (v ≤ 9 * 3125) → (v = maxF (fun j => xc (x + (j + 1) * pmF ac k)) (a9 - 1)) → ∀ (ls : Array Slot), lv_has ls 6 [(4, .int (nI a9)), (3, .int (nI v)), (0, .ref (qr 0)), (1, .int (nI x)), (2, .int (nI k))] → W pQ lQ eQ (headSpec wsX6_costBy (rmN 1 21)).room s mQ ([.ref (qr 0), .int (nI x), .int (nI k)] : List Value).toArray below meth cQ s.heap [] 0 0 (MQ below (vp_Si (fun r : Int32 => r = (nI (askM ac co xc x k)))) ([.ref (qr 0), .int (nI x), .int (nI k)] : List Value).toArray s 0 0 (fun _ => False)) (F0 mQ 5 ls []) := by
    intro nQ
    induction nQ with
    | zero => intro a9 v hn; exact absurd hn (Nat.not_lt_zero _)
    | succ nQ ih5 =>
      intro a9 v hm5 ha1 ha2 hvb hv ls hl
      refine lv_iload hx hb dX6_costBy_5 (lv_at hl 0 rfl) ?_
      refine lv_aload_n hx hb dX6_costBy_7 rfl (lv_at hl 2 rfl) ?_
      refine lv_iload_n hx hb dX6_costBy_8 rfl (lv_at hl 4 rfl) ?_
      refine n_cV (b := qr 0) (As := [.int (nI k)]) (rest := [.int (nI a9)]) (wc := (wR kA qr cc ac co ad rc nm st an svm cnt tx len th xf xt xs xa xw xc xk xp pt wr xm mny)) hS0 (c_X6_answersOf lQ D kA qr cc ac co ad rc nm st an svm cnt tx len th xf xt xs xa xw xc xk xp pt wr xm mny k (by first | assumption | omega)) (cwV 1 hts gX6_costBy_X6_answersOf rfl rfl rfl (by decide +kernel) ⟨Nat.le_of_ble_eq_true rfl, Nat.le_of_ble_eq_true rfl⟩) hP hK (q0 := 0) rfl rfl rfl rfl rfl hl.1 (Nat.le_of_ble_eq_true rfl) dX6_costBy_9 ⟨Nat.le_refl _, Nat.le_refl _⟩ (fun r9 h9 => ?_)
      subst h9
      refine n_icmp_gt (a := a9) (b := ac k) (tgt := 52) hx hb (by omega) (by omega) dX6_costBy_12 (by decide) (fun c12 => ?_) (fun c12 => ?_)
      · refine lv_aload_n hx hb dX6_costBy_52 rfl (lv_at hl 2 rfl) ?_
        refine n_get (ci := 6) (v := .ref (qr 1)) (C := RX6) (T := TX6) (N := 18) hx hb hts hinX6 hown hK hP 0 rfl rfl 0 rfl ⟨rfl, rfl, rfl⟩ f7 rfl dX6_costBy_53 ?_
        refine lv_bipush (v := (nI 8)) hx hb dX6_costBy_56 (by decide) ?_
        refine lv_iload_n hx hb dX6_costBy_58 rfl (lv_at hl 4 rfl) ?_
        refine n_iadd (v := (nI (8 + k))) hx hb (nI_add _ _) dX6_costBy_59 ?_
        refine n_iald (i := 8 + k) (v := (nI (co k))) hx hb hK hP 1 0 rfl rfl (by omega) (Nat.le_of_ble_eq_true rfl) (congrArg nI (tab_co (by omega))) dX6_costBy_60 ?_
        refine lv_iload_n hx hb dX6_costBy_61 rfl (lv_at hl 1 rfl) ?_
        refine n_iadd (v := (nI (co k + v))) hx hb (nI_add _ _) dX6_costBy_62 ?_
        exact n_reti hx hb hr hlocks (post := fun r : Int32 => r = (nI (askM ac co xc x k))) (by rw [hv, show a9 - 1 = ac k by omega]; rfl) rfl dX6_costBy_63
      · refine lv_aload_n hx hb dX6_costBy_15 rfl (lv_at hl 2 rfl) ?_
        refine n_get (ci := 6) (v := .ref (qr 9)) (C := RX6) (T := TX6) (N := 18) hx hb hts hinX6 hown hK hP 0 rfl rfl 11 rfl ⟨rfl, rfl, rfl⟩ f34 rfl dX6_costBy_16 ?_
        refine lv_iload_n hx hb dX6_costBy_19 rfl (lv_at hl 3 rfl) ?_
        refine lv_iload hx hb dX6_costBy_20 (lv_at hl 0 rfl) ?_
        refine lv_aload_n hx hb dX6_costBy_22 rfl (lv_at hl 2 rfl) ?_
        refine n_get (ci := 6) (v := .ref (qr 11)) (C := RX6) (T := TX6) (N := 18) hx hb hts hinX6 hown hK hP 0 rfl rfl 13 rfl ⟨rfl, rfl, rfl⟩ f40 rfl dX6_costBy_23 ?_
        refine lv_iload_n hx hb dX6_costBy_26 rfl (lv_at hl 4 rfl) ?_
        refine n_iald (i := k) (v := (nI (xp k))) hx hb hK hP 11 0 rfl rfl (by omega) (Nat.le_of_ble_eq_true rfl) rfl dX6_costBy_27 ?_
        refine n_imul (v := (nI (a9 * (xp k)))) hx hb (pk_mul _ _) dX6_costBy_28 ?_
        refine n_iadd (v := (nI (x + (a9 * (xp k))))) hx hb (nI_add _ _) dX6_costBy_29 ?_
        refine n_iald (i := x + (a9 * (xp k))) (v := (nI (xc (x + (a9 * (xp k)))))) hx hb hK hP 9 0 rfl rfl (by rw [hxk]; have := hnx a9 (by omega) (by omega); omega) (Nat.le_of_ble_eq_true rfl) rfl dX6_costBy_30 ?_
        refine lv_istore (lv' := [(5, .int (nI (xc (x + (a9 * (xp k)))))), (4, .int (nI a9)), (3, .int (nI v)), (0, .ref (qr 0)), (1, .int (nI x)), (2, .int (nI k))]) hx hb dX6_costBy_31 hl (by decide) rfl (fun ls hl => ?_)
        refine lv_iload hx hb dX6_costBy_33 (lv_at hl 0 rfl) ?_
        refine lv_iload_n hx hb dX6_costBy_35 rfl (lv_at hl 2 rfl) ?_
        refine n_icmp_le (a := xc (x + (a9 * (xp k)))) (b := v) (tgt := 44) hx hb (by rw [hxk]; have h9 := hnx a9 (by omega) (by omega); have := hxc _ h9.1 h9.2; omega) (by omega) dX6_costBy_36 (by decide) (fun c36 => ?_) (fun c36 => ?_)
        · refine lv_iload_n hx hb dX6_costBy_44 rfl (lv_at hl 2 rfl) ?_
          refine lv_istore_n (lv' := [(3, .int (nI v)), (5, .int (nI (xc (x + (a9 * (xp k)))))), (4, .int (nI a9)), (0, .ref (qr 0)), (1, .int (nI x)), (2, .int (nI k))]) hx hb dX6_costBy_45 rfl hl (by decide) rfl (fun ls hl => ?_)
          refine lv_iinc (v := (nI (a9 + 1))) (lv' := [(4, .int (nI (a9 + 1))), (3, .int (nI v)), (5, .int (nI (xc (x + (a9 * (xp k)))))), (0, .ref (qr 0)), (1, .int (nI x)), (2, .int (nI k))]) hx hb dX6_costBy_46 hl (k := 2) rfl (nI_inc _) (by decide) rfl (fun ls hl => ?_)
          refine lv_goto (tgt := 5) hx hb dX6_costBy_49 (by decide) ?_
          exact ih5 (a9 + 1) v (by omega) (by first | assumption | omega) (by first | assumption | omega) (by first | exact hvb | (rw [hxk]; have h9 := hnx a9 (by omega) (by omega); have := hxc _ h9.1 h9.2; omega)) (by rw [show a9 + 1 - 1 = (a9 - 1) + 1 by omega, maxF_s, ← hv, show a9 - 1 + 1 = a9 by omega, ← hxk]; first | rw [if_pos c36] | rw [if_neg (by omega)]) _ (lv_sub hl [0, 1, 3, 4, 5] rfl)
        · refine lv_iload hx hb dX6_costBy_39 (lv_at hl 0 rfl) ?_
          refine lv_goto (tgt := 45) hx hb dX6_costBy_41 (by decide) ?_
          refine lv_istore_n (lv' := [(3, .int (nI (xc (x + (a9 * (xp k)))))), (5, .int (nI (xc (x + (a9 * (xp k)))))), (4, .int (nI a9)), (0, .ref (qr 0)), (1, .int (nI x)), (2, .int (nI k))]) hx hb dX6_costBy_45 rfl hl (by decide) rfl (fun ls hl => ?_)
          refine lv_iinc (v := (nI (a9 + 1))) (lv' := [(4, .int (nI (a9 + 1))), (3, .int (nI (xc (x + (a9 * (xp k)))))), (5, .int (nI (xc (x + (a9 * (xp k)))))), (0, .ref (qr 0)), (1, .int (nI x)), (2, .int (nI k))]) hx hb dX6_costBy_46 hl (k := 2) rfl (nI_inc _) (by decide) rfl (fun ls hl => ?_)
          refine lv_goto (tgt := 5) hx hb dX6_costBy_49 (by decide) ?_
          exact ih5 (a9 + 1) (xc (x + (a9 * (xp k)))) (by omega) (by first | assumption | omega) (by first | assumption | omega) (by first | exact hvb | (rw [hxk]; have h9 := hnx a9 (by omega) (by omega); have := hxc _ h9.1 h9.2; omega)) (by rw [show a9 + 1 - 1 = (a9 - 1) + 1 by omega, maxF_s, ← hv, show a9 - 1 + 1 = a9 by omega, ← hxk]; first | rw [if_pos c36] | rw [if_neg (by omega)]) _ (lv_sub hl [0, 1, 3, 4, 5] rfl)
  exact L5 ((ac k + 1 - 1) + 1) 1 0 (Nat.lt_succ_self _) (by first | assumption | omega) (by first | assumption | omega) (by first | assumption | omega) rfl _ (lv_sub hl [0, 1, 2, 3, 4] rfl)

theorem pcM_le {cc : Nat} {ac co xc : Nat → Nat} {x c : Nat} (hco : ∀ k, k < cc → co k < 10) (hx : x < pmF ac cc) (h : ∀ y, x < y → y < pmF ac cc → xc y ≤ 9 * (pmF ac cc - y)) : (pcM cc ac co xc x c).1 ≤ 9 * (pmF ac cc - x) := by
  unfold pcM
  by_cases e : c = 11
  · rw [if_pos e]; exact pbF_le (fun j hj hp => askM_le hco hj (of_decide_eq_true hp) hx h)
  · rw [if_neg e]; exact Nat.zero_le _

set_option maxHeartbeats 4000000 in
set_option maxRecDepth 100000 in
theorem c_X6_plans (lQ : Launch) (D : va_G) (kA : Nat → ClassId) (qr : Nat → Nat) (cc : Nat) (ac : Nat → Nat) (co : Nat → Nat) (ad : Nat) (rc : Nat) (nm : Nat → Nat) (st : Nat → Nat) (an : Nat → Nat) (svm : Nat → TCt) (cnt : Nat) (tx : Nat → Nat) (len : Nat) (th : Nat) (xf : Nat → Option Nat) (xt : Nat → Nat) (xs : Nat → Option Nat) (xa : Nat → Nat) (xw : Nat → Nat) (xc : Nat → Nat) (xk : Nat → Option Nat) (xp : Nat → Nat) (pt : Nat) (wr : Option Nat) (xm : Nat → Nat) (mny : Nat) (x : Nat) (sz : Nat) (hcc : cc ≤ 5) (hac : ∀ k, k < cc → 2 ≤ ac k ∧ ac k ≤ 4) (hco : ∀ k, k < cc → co k < 10) (hxp : ∀ k, k ≤ cc → xp k = pmF ac k) (hxn : x < pmF ac cc) (hxa : ∀ c, c < prodF ac cc → xa c < 11) (hxw : ∀ y, x < y → y < pmF ac cc → xw y < 12) (hxc : ∀ y, x < y → y < pmF ac cc → xc y ≤ 9 * (pmF ac cc - y)) : Met lQ yX6_plans wsX6_plans (rmN 3 66) (wr_Pc D vwCl [.ref (qr 0), .int (nI x)] (wR kA qr cc ac co ad rc nm st an svm cnt tx len th xf xt xs xa xw xc xk xp pt wr xm mny) (tyK kA) sz) (va_Qv (S := Unit) (fun (u : Unit) => True) (wr_B D vwCl (wR kA qr cc ac co ad rc nm st an svm cnt tx len th xf xt xs xa xw xc xk xp pt wr xm mny) (tyK kA) sz (fun u => (wR kA qr cc ac co ad rc nm st an svm cnt tx len th xf xt xs xa (va_up xw x (cmM cc ac xa xw x)) (va_up xc x (pcM cc ac co xc x (cmM cc ac xa xw x)).1) (va_up xk x (pcM cc ac co xc x (cmM cc ac xa xw x)).2) xp pt wr xm mny))) (va_A (wR kA qr cc ac co ad rc nm st an svm cnt tx len th xf xt xs xa xw xc xk xp pt wr xm mny) sz)) 0 0 (va_A (wR kA qr cc ac co ad rc nm st an svm cnt tx len th xf xt xs xa xw xc xk xp pt wr xm mny) sz) := by
  refine Met.ofW (cc := cX6_plans) (maxL := 4) (ret := none) (by decide) rfl ?_
  intro pQ eQ s mQ args below meth cQ s₁ B hml hv
  obtain ⟨rfl, hsz, hP, hK, hD0⟩ := hv
  have hx := B.exec
  have hb := B.bytes
  have hr := B.returns
  have hts := atoms_spec (ws := wsX6_plans) B.pre
  have hown : s.vm.findClass RX6 = some mQ.cls := findClass_of_methodNamed B.named
  have hlocks : meth.locks = false := B.notSynchronized
  have hS0 : CallFix pQ mQ cQ cX6_plans 4 s ([.ref (qr 0), .int (nI x)] : List Value).toArray wsX6_plans RX6 := ⟨hx, hb, hml, hown, hts⟩
  subst hsz
  have hD := hD0.self (sz := s.heap.size)
  generalize hAe : va_A (wR kA qr cc ac co ad rc nm st an svm cnt tx len th xf xt xs xa xw xc xk xp pt wr xm mny) s.heap.size = A at hD ⊢
  have hA : ∀ q : Nat, s.heap.size ≤ q → A q := fun q h => by rw [← hAe]; exact Or.inr h
  have hS : va_S A s.heap s.heap [] := va_S.rf
  have f31 : (Cond.fieldLink RX6 31 "AskedRulesModel" "whole" "[I").before ([.ref (qr 0), .int (nI x)] : List Value).toArray s = true := hts _ (by decide +kernel)
  have hinX6 : ∀ w ∈ wsX60, w ∈ wsX6_plans := by decide +kernel
  have f34 : (Cond.fieldLink RX6 34 "AskedRulesModel" "costs" "[I").before ([.ref (qr 0), .int (nI x)] : List Value).toArray s = true := hts _ (by decide +kernel)
  have f37 : (Cond.fieldLink RX6 37 "AskedRulesModel" "asks" "[I").before ([.ref (qr 0), .int (nI x)] : List Value).toArray s = true := hts _ (by decide +kernel)
  have f7 : (Cond.fieldLink RX6 7 "AskedRulesModel" "now" "[I").before ([.ref (qr 0), .int (nI x)] : List Value).toArray s = true := hts _ (by decide +kernel)
  have f28 : (Cond.fieldLink RX6 28 "AskedRulesModel" "actions" "[I").before ([.ref (qr 0), .int (nI x)] : List Value).toArray s = true := hts _ (by decide +kernel)
  have hl := lv_entry ([.ref (qr 0), .int (nI x)]) (n := 4) (Nat.le_of_ble_eq_true rfl)
  rw [lg_entry_eq]
  generalize (lg_sl ([.ref (qr 0), .int (nI x)]) ++ List.replicate (4 - (lg_sl ([.ref (qr 0), .int (nI x)])).length) Slot.unset).toArray = ls at hl ⊢
  have hl : lv_has ls 4 [(0, .ref (qr 0)), (1, .int (nI x))] := hl
  have hP : va_P D vwCl (wR kA qr cc ac co ad rc nm st an svm cnt tx len th xf xt xs xa xw xc xk xp pt wr xm mny) s.heap := hP
  have hD : va_D A (wR kA qr cc ac co ad rc nm st an svm cnt tx len th xf xt xs xa xw xc xk xp pt wr xm mny) := hD
  have hpm9 := pmF_3125 hcc hac
  have hcl9 := cmM_lt (xw := xw) hac hxn hxa hxw
  have hqb : ∀ q, firstF (fun k => decide (knN ac x k = 0)) cc = some q → q < 2147483648 := fun q h => by have := (firstF_spec h).1; omega
  refine lv_aload_n hx hb dX6_plans_0 rfl (lv_at hl 0 rfl) ?_
  refine lv_iload_n hx hb dX6_plans_1 rfl (lv_at hl 1 rfl) ?_
  refine n_cV (b := qr 0) (As := [.int (nI x)]) (rest := []) (wc := (wR kA qr cc ac co ad rc nm st an svm cnt tx len th xf xt xs xa xw xc xk xp pt wr xm mny)) hS0 (c_X6_firstUnknown lQ D kA qr cc ac co ad rc nm st an svm cnt tx len th xf xt xs xa xw xc xk xp pt wr xm mny x (by first | assumption | omega) (by first | assumption | omega) (by first | assumption | omega) (by first | assumption | omega)) (cwV 1 hts gX6_plans_X6_firstUnknown rfl rfl rfl (by decide +kernel) ⟨Nat.le_of_ble_eq_true rfl, Nat.le_of_ble_eq_true rfl⟩) hP hK (q0 := 0) rfl rfl rfl rfl rfl hl.1 (Nat.le_of_ble_eq_true rfl) dX6_plans_2 ⟨Nat.le_refl _, Nat.le_refl _⟩ (fun r2 h2 => ?_)
  subst h2
  refine lv_istore_n (lv' := [(2, .int (oI (firstF (fun k => decide (knN ac x k = 0)) cc))), (0, .ref (qr 0)), (1, .int (nI x))]) hx hb dX6_plans_5 rfl hl (by decide) rfl (fun ls hl => ?_)
  refine lv_aload_n hx hb dX6_plans_6 rfl (lv_at hl 1 rfl) ?_
  refine n_get (ci := 6) (v := .ref (qr 8)) (C := RX6) (T := TX6) (N := 18) hx hb hts hinX6 hown hK hP 0 rfl rfl 10 rfl ⟨rfl, rfl, rfl⟩ f31 rfl dX6_plans_7 ?_
  refine lv_iload_n hx hb dX6_plans_10 rfl (lv_at hl 2 rfl) ?_
  refine lv_iload_n hx hb dX6_plans_11 rfl (lv_at hl 0 rfl) ?_
  refine lv_iconst (v := (oI none)) hx hb dX6_plans_12 (by decide) ?_
  refine n_icmpo_ne (o := firstF (fun k => decide (knN ac x k = 0)) cc) (tgt := 29) hx hb hqb dX6_plans_13 (by decide) (fun q13 c13 => ?_) (fun c13 => ?_)
  · have hl : lv_has ls 4 [(2, .int (nI q13)), (0, .ref (qr 0)), (1, .int (nI x))] := by rw [c13] at hl; exact hl
    have hq9 := (firstF_spec c13).1
    have hz9 := of_decide_eq_true (firstF_spec c13).2.1
    have hV : cmM cc ac xa xw x = comA xw x (pmF ac q13) (ac q13) := by unfold cmM; rw [c13]
    refine lv_aload_n hx hb dX6_plans_29 rfl (lv_at hl 1 rfl) ?_
    refine lv_iload_n hx hb dX6_plans_30 rfl (lv_at hl 2 rfl) ?_
    refine lv_iload_n hx hb dX6_plans_31 rfl (lv_at hl 0 rfl) ?_
    refine n_cV (b := qr 0) (As := [.int (nI x), .int (nI q13)]) (rest := [.int (nI x), .ref (qr 8)]) (wc := (wR kA qr cc ac co ad rc nm st an svm cnt tx len th xf xt xs xa xw xc xk xp pt wr xm mny)) hS0 (c_X6_wholeOf lQ D kA qr cc ac co ad rc nm st an svm cnt tx len th xf xt xs xa xw xc xk xp pt wr xm mny x q13 (by first | assumption | omega) (by first | assumption | omega) (by first | assumption | omega) (by first | assumption | omega) hq9 hz9 hxw) (cwV 2 hts gX6_plans_X6_wholeOf rfl rfl rfl (by decide +kernel) ⟨Nat.le_of_ble_eq_true rfl, Nat.le_of_ble_eq_true rfl⟩) hP hK (q0 := 0) rfl rfl rfl rfl rfl hl.1 (Nat.le_of_ble_eq_true rfl) dX6_plans_32 ⟨Nat.le_refl _, Nat.le_refl _⟩ (fun r32 h32 => ?_)
    subst h32
    refine n_iast (i := x) (x := (mI (comA xw x (pmF ac q13) (ac q13)))) (g := aM (va_up xw x (comA xw x (pmF ac q13) (ac q13)))) (ws' := (wR kA qr cc ac co ad rc nm st an svm cnt tx len th xf xt xs xa (va_up xw x (comA xw x (pmF ac q13) (ac q13))) xc xk xp pt wr xm mny)) hx hb hK hP hD hS 8 0 rfl rfl (by omega) (Nat.le_of_ble_eq_true rfl) (aM_up _ _ _) rfl dX6_plans_35 (fun H locs hP hD hS => ?_)
    refine lv_aload_n hx hb dX6_plans_36 rfl (lv_at hl 1 rfl) ?_
    refine n_get (ci := 6) (v := .ref (qr 9)) (C := RX6) (T := TX6) (N := 18) hx hb hts hinX6 hown hK hP 0 rfl rfl 11 rfl ⟨rfl, rfl, rfl⟩ f34 rfl dX6_plans_37 ?_
    refine lv_iload_n hx hb dX6_plans_40 rfl (lv_at hl 2 rfl) ?_
    refine lv_iconst (v := (nI 0)) hx hb dX6_plans_41 (by decide) ?_
    refine n_iast (i := x) (x := (nI 0)) (g := aN (va_up xc x 0)) (ws' := (wR kA qr cc ac co ad rc nm st an svm cnt tx len th xf xt xs xa (va_up xw x (comA xw x (pmF ac q13) (ac q13))) (va_up xc x 0) xk xp pt wr xm mny)) hx hb hK hP hD hS 9 0 rfl rfl (by omega) (Nat.le_of_ble_eq_true rfl) (aN_up _ _ _) rfl dX6_plans_42 (fun H locs hP hD hS => ?_)
    refine lv_aload_n hx hb dX6_plans_43 rfl (lv_at hl 1 rfl) ?_
    refine n_get (ci := 6) (v := .ref (qr 10)) (C := RX6) (T := TX6) (N := 18) hx hb hts hinX6 hown hK hP 0 rfl rfl 12 rfl ⟨rfl, rfl, rfl⟩ f37 rfl dX6_plans_44 ?_
    refine lv_iload_n hx hb dX6_plans_47 rfl (lv_at hl 2 rfl) ?_
    refine lv_iconst (v := (oI none)) hx hb dX6_plans_48 (by decide) ?_
    refine n_iast (i := x) (x := (oI none)) (g := aO (va_up xk x none)) (ws' := (wR kA qr cc ac co ad rc nm st an svm cnt tx len th xf xt xs xa (va_up xw x (comA xw x (pmF ac q13) (ac q13))) (va_up xc x 0) (va_up xk x none) xp pt wr xm mny)) hx hb hK hP hD hS 10 0 rfl rfl (by omega) (Nat.le_of_ble_eq_true rfl) (aO_up _ _ _) rfl dX6_plans_49 (fun H locs hP hD hS => ?_)
    refine lv_aload_n hx hb dX6_plans_50 rfl (lv_at hl 1 rfl) ?_
    refine n_get (ci := 6) (v := .ref (qr 8)) (C := RX6) (T := TX6) (N := 18) hx hb hts hinX6 hown hK hP 0 rfl rfl 10 rfl ⟨rfl, rfl, rfl⟩ f31 rfl dX6_plans_51 ?_
    refine lv_iload_n hx hb dX6_plans_54 rfl (lv_at hl 2 rfl) ?_
    refine n_iald (i := x) (v := (mI ((va_up xw x (comA xw x (pmF ac q13) (ac q13))) x))) hx hb hK hP 8 0 rfl rfl (by omega) (Nat.le_of_ble_eq_true rfl) rfl dX6_plans_55 ?_
    refine lv_bipush (v := (-2)) hx hb dX6_plans_56 (by decide) ?_
    refine n_icmpm_eq (a := (va_up xw x (comA xw x (pmF ac q13) (ac q13))) x) (b := 11) (tgt := 62) hx hb (by rw [up_s, ← hV]; exact hcl9) (by decide) dX6_plans_58 (by decide) (fun c58 => ?_) (fun c58 => ?_)
    · rw [up_s, ← hV] at c58
      refine lv_iconst (v := (nI 0)) hx hb dX6_plans_62 (by decide) ?_
      refine lv_istore_n (lv' := [(3, .int (nI 0)), (2, .int (nI q13)), (0, .ref (qr 0)), (1, .int (nI x))]) hx hb dX6_plans_63 rfl hl (by decide) rfl (fun ls hl => ?_)
      have L64 : ∀ (nQ : Nat) (i : Nat) (xcx : Nat → Nat) (xkx : Nat → Option Nat), cc - i < nQ → (i ≤ cc) → (xcx = va_up xc x (pbF (fun k => askM ac co xc x k) (fun k => decide (knN ac x k = 0)) i).1) → (xkx = va_up xk x (pbF (fun k => askM ac co xc x k) (fun k => decide (knN ac x k = 0)) i).2) → ((pbF (fun k => askM ac co xc x k) (fun k => decide (knN ac x k = 0)) i).1 ≤ 9 * 3125) → (∀ q, (pbF (fun k => askM ac co xc x k) (fun k => decide (knN ac x k = 0)) i).2 = some q → q < 5) → ∀ (H : Heap) (locs : List Loc), va_P D vwCl (wR kA qr cc ac co ad rc nm st an svm cnt tx len th xf xt xs xa (va_up xw x (comA xw x (pmF ac q13) (ac q13))) xcx xkx xp pt wr xm mny) H → va_D A (wR kA qr cc ac co ad rc nm st an svm cnt tx len th xf xt xs xa (va_up xw x (comA xw x (pmF ac q13) (ac q13))) xcx xkx xp pt wr xm mny) → va_S A s.heap H locs → ∀ (ls : Array Slot), lv_has ls 4 [(3, .int (nI i)), (0, .ref (qr 0)), (1, .int (nI x))] → W pQ lQ eQ (headSpec wsX6_plans (rmN 3 66)).room s mQ ([.ref (qr 0), .int (nI x)] : List Value).toArray below meth cQ H locs 0 0 (MQ below (va_Qv (S := Unit) (fun (u : Unit) => True) (wr_B D vwCl (wR kA qr cc ac co ad rc nm st an svm cnt tx len th xf xt xs xa xw xc xk xp pt wr xm mny) (tyK kA) s.heap.size (fun u => (wR kA qr cc ac co ad rc nm st an svm cnt tx len th xf xt xs xa (va_up xw x (cmM cc ac xa xw x)) (va_up xc x (pcM cc ac co xc x (cmM cc ac xa xw x)).1) (va_up xk x (pcM cc ac co xc x (cmM cc ac xa xw x)).2) xp pt wr xm mny))) A) ([.ref (qr 0), .int (nI x)] : List Value).toArray s 0 0 A) (F0 mQ 64 ls []) := by
        intro nQ
        induction nQ with
        | zero => intro i xcx xkx hn; exact absurd hn (Nat.not_lt_zero _)
        | succ nQ ih64 =>
          intro i xcx xkx hm64 hi hpc hpk hpb hpq H locs hP hD hS ls hl
          refine lv_iload_n hx hb dX6_plans_64 rfl (lv_at hl 0 rfl) ?_
          refine lv_aload_n hx hb dX6_plans_65 rfl (lv_at hl 1 rfl) ?_
          refine n_get (ci := 6) (v := .ref (qr 1)) (C := RX6) (T := TX6) (N := 18) hx hb hts hinX6 hown hK hP 0 rfl rfl 0 rfl ⟨rfl, rfl, rfl⟩ f7 rfl dX6_plans_66 ?_
          refine lv_iconst (v := (nI 0)) hx hb dX6_plans_69 (by decide) ?_
          refine n_iald (i := 0) (v := (nI cc)) hx hb hK hP 1 0 rfl rfl (by omega) (Nat.le_of_ble_eq_true rfl) rfl dX6_plans_70 ?_
          refine n_icmp_ge (a := i) (b := cc) (tgt := 133) hx hb (by omega) (by omega) dX6_plans_71 (by decide) (fun c71 => ?_) (fun c71 => ?_)
          · have hPC : pcM cc ac co xc x (cmM cc ac xa xw x) = pbF (fun k => askM ac co xc x k) (fun k => decide (knN ac x k = 0)) i := by unfold pcM; rw [if_pos c58, show cc = i by omega]
            have hw9 : (wR kA qr cc ac co ad rc nm st an svm cnt tx len th xf xt xs xa (va_up xw x (comA xw x (pmF ac q13) (ac q13))) xcx xkx xp pt wr xm mny) = (wR kA qr cc ac co ad rc nm st an svm cnt tx len th xf xt xs xa (va_up xw x (cmM cc ac xa xw x)) (va_up xc x (pcM cc ac co xc x (cmM cc ac xa xw x)).1) (va_up xk x (pcM cc ac co xc x (cmM cc ac xa xw x)).2) xp pt wr xm mny) := (by rw [hpc, hpk, hPC, hV])
            rw [hw9] at hP hD
            exact n_wretv hx hb hr hlocks (post := fun (u : Unit) => True) (w1 := fun u => (wR kA qr cc ac co ad rc nm st an svm cnt tx len th xf xt xs xa (va_up xw x (cmM cc ac xa xw x)) (va_up xc x (pcM cc ac co xc x (cmM cc ac xa xw x)).1) (va_up xk x (pcM cc ac co xc x (cmM cc ac xa xw x)).2) xp pt wr xm mny)) () trivial hP hD hK hS hAe dX6_plans_133
          · refine lv_aload_n hx hb dX6_plans_74 rfl (lv_at hl 1 rfl) ?_
            refine lv_iload_n hx hb dX6_plans_75 rfl (lv_at hl 2 rfl) ?_
            refine lv_iload_n hx hb dX6_plans_76 rfl (lv_at hl 0 rfl) ?_
            refine n_cV (b := qr 0) (As := [.int (nI x), .int (nI i)]) (rest := []) (wc := (wR kA qr cc ac co ad rc nm st an svm cnt tx len th xf xt xs xa (va_up xw x (comA xw x (pmF ac q13) (ac q13))) xcx xkx xp pt wr xm mny)) hS0 (c_X6_known lQ D kA qr cc ac co ad rc nm st an svm cnt tx len th xf xt xs xa (va_up xw x (comA xw x (pmF ac q13) (ac q13))) xcx xkx xp pt wr xm mny x i (by first | assumption | omega) (by first | assumption | omega) (by first | assumption | omega) (by first | assumption | omega) (by first | assumption | omega)) (cwV 2 hts gX6_plans_X6_known rfl rfl rfl (by decide +kernel) ⟨Nat.le_of_ble_eq_true rfl, Nat.le_of_ble_eq_true rfl⟩) hP hK (q0 := 0) rfl rfl rfl rfl rfl hl.1 (Nat.le_of_ble_eq_true rfl) dX6_plans_77 ⟨Nat.le_refl _, Nat.le_refl _⟩ (fun r77 h77 => ?_)
            subst h77
            refine n_if_ne (a := knN ac x i) (tgt := 127) hx hb (by have := knN_lt ac x i; have := (hac i (by omega)).2; omega) dX6_plans_80 (by decide) (fun c80 => ?_) (fun c80 => ?_)
            · refine lv_iinc (v := (nI (i + 1))) (lv' := [(3, .int (nI (i + 1))), (0, .ref (qr 0)), (1, .int (nI x))]) hx hb dX6_plans_127 hl (k := 0) rfl (nI_inc _) (by decide) rfl (fun ls hl => ?_)
              refine lv_goto (tgt := 64) hx hb dX6_plans_130 (by decide) ?_
              exact ih64 (i + 1) xcx xkx (by omega) (by first | assumption | omega) (by first | (rw [pbF_s, if_neg (fun h => by have := of_decide_eq_true h.1; omega)]; exact hpc) | (rw [pbF_s, if_neg (fun h => h.2.elim (fun h2 => by rw [c90] at h2; cases h2) (fun h2 => by have h2 : askM ac co xc x i < _ := h2; omega))]; exact hpc) | (rw [pbF_s, if_pos (by first | exact ⟨hob9, Or.inl c90⟩ | exact ⟨hob9, Or.inr c105⟩)]; rw [hae, hpc, up_up])) (by first | (rw [pbF_s, if_neg (fun h => by have := of_decide_eq_true h.1; omega)]; exact hpk) | (rw [pbF_s, if_neg (fun h => h.2.elim (fun h2 => by rw [c90] at h2; cases h2) (fun h2 => by have h2 : askM ac co xc x i < _ := h2; omega))]; exact hpk) | (rw [pbF_s, if_pos (by first | exact ⟨hob9, Or.inl c90⟩ | exact ⟨hob9, Or.inr c105⟩)]; rw [hpk, up_up])) (by first | (rw [pbF_s, if_neg (fun h => by have := of_decide_eq_true h.1; omega)]; exact hpb) | (rw [pbF_s, if_neg (fun h => h.2.elim (fun h2 => by rw [c90] at h2; cases h2) (fun h2 => by have h2 : askM ac co xc x i < _ := h2; omega))]; exact hpb) | (rw [pbF_s, if_pos (by first | exact ⟨hob9, Or.inl c90⟩ | exact ⟨hob9, Or.inr c105⟩)]; show askM ac co xc x i ≤ _; omega)) (by first | (rw [pbF_s, if_neg (fun h => by have := of_decide_eq_true h.1; omega)]; exact hpq) | (rw [pbF_s, if_neg (fun h => h.2.elim (fun h2 => by rw [c90] at h2; cases h2) (fun h2 => by have h2 : askM ac co xc x i < _ := h2; omega))]; exact hpq) | (rw [pbF_s, if_pos (by first | exact ⟨hob9, Or.inl c90⟩ | exact ⟨hob9, Or.inr c105⟩)]; exact (fun q h => by cases h; omega))) _ _ hP hD hS _ (lv_sub hl [0, 1, 2] rfl)
            · have hae : askM ac co xcx x i = askM ac co xc x i := askM_dep (fun y hy => by rw [hpc, up_n _ _ (by omega)])
              have hob9 : decide (knN ac x i = 0) = true := decide_eq_true c80
              have hal9 := askM_le (co := co) hco c71 c80 hxn hxc
              refine lv_aload_n hx hb dX6_plans_83 rfl (lv_at hl 1 rfl) ?_
              refine n_get (ci := 6) (v := .ref (qr 10)) (C := RX6) (T := TX6) (N := 18) hx hb hts hinX6 hown hK hP 0 rfl rfl 12 rfl ⟨rfl, rfl, rfl⟩ f37 rfl dX6_plans_84 ?_
              refine lv_iload_n hx hb dX6_plans_87 rfl (lv_at hl 2 rfl) ?_
              refine n_iald (i := x) (v := (oI (xkx x))) hx hb hK hP 10 0 rfl rfl (by omega) (Nat.le_of_ble_eq_true rfl) rfl dX6_plans_88 ?_
              refine lv_iconst (v := (oI none)) hx hb dX6_plans_89 (by decide) ?_
              refine n_icmpo_eq (o := xkx x) (tgt := 108) hx hb (fun q h => by rw [hpk, up_s] at h; have := hpq q h; omega) dX6_plans_90 (by decide) (fun c90 => ?_) (fun q90 c90 => ?_)
              · rw [hpk, up_s] at c90
                refine lv_aload_n hx hb dX6_plans_108 rfl (lv_at hl 1 rfl) ?_
                refine n_get (ci := 6) (v := .ref (qr 10)) (C := RX6) (T := TX6) (N := 18) hx hb hts hinX6 hown hK hP 0 rfl rfl 12 rfl ⟨rfl, rfl, rfl⟩ f37 rfl dX6_plans_109 ?_
                refine lv_iload_n hx hb dX6_plans_112 rfl (lv_at hl 2 rfl) ?_
                refine lv_iload_n hx hb dX6_plans_113 rfl (lv_at hl 0 rfl) ?_
                refine n_iast (i := x) (x := (oI (some i))) (g := aO (va_up xkx x (some i))) (ws' := (wR kA qr cc ac co ad rc nm st an svm cnt tx len th xf xt xs xa (va_up xw x (comA xw x (pmF ac q13) (ac q13))) xcx (va_up xkx x (some i)) xp pt wr xm mny)) hx hb hK hP hD hS 10 0 rfl rfl (by omega) (Nat.le_of_ble_eq_true rfl) (aO_up _ _ _) rfl dX6_plans_114 (fun H locs hP hD hS => ?_)
                refine lv_aload_n hx hb dX6_plans_115 rfl (lv_at hl 1 rfl) ?_
                refine n_get (ci := 6) (v := .ref (qr 9)) (C := RX6) (T := TX6) (N := 18) hx hb hts hinX6 hown hK hP 0 rfl rfl 11 rfl ⟨rfl, rfl, rfl⟩ f34 rfl dX6_plans_116 ?_
                refine lv_iload_n hx hb dX6_plans_119 rfl (lv_at hl 2 rfl) ?_
                refine lv_aload_n hx hb dX6_plans_120 rfl (lv_at hl 1 rfl) ?_
                refine lv_iload_n hx hb dX6_plans_121 rfl (lv_at hl 2 rfl) ?_
                refine lv_iload_n hx hb dX6_plans_122 rfl (lv_at hl 0 rfl) ?_
                refine n_cV (b := qr 0) (As := [.int (nI x), .int (nI i)]) (rest := [.int (nI x), .ref (qr 9)]) (wc := (wR kA qr cc ac co ad rc nm st an svm cnt tx len th xf xt xs xa (va_up xw x (comA xw x (pmF ac q13) (ac q13))) xcx (va_up xkx x (some i)) xp pt wr xm mny)) hS0 (c_X6_costBy lQ D kA qr cc ac co ad rc nm st an svm cnt tx len th xf xt xs xa (va_up xw x (comA xw x (pmF ac q13) (ac q13))) xcx (va_up xkx x (some i)) xp pt wr xm mny x i (by first | assumption | omega) (by first | assumption | omega) (by first | assumption | omega) (by first | assumption | omega) c71 c80 (fun y h1 h2 => by rw [hpc, up_n _ _ (by omega)]; exact hxc y h1 h2)) (cwV 2 hts gX6_plans_X6_costBy rfl rfl rfl (by decide +kernel) ⟨Nat.le_of_ble_eq_true rfl, Nat.le_of_ble_eq_true rfl⟩) hP hK (q0 := 0) rfl rfl rfl rfl rfl hl.1 (Nat.le_of_ble_eq_true rfl) dX6_plans_123 ⟨Nat.le_refl _, Nat.le_refl _⟩ (fun r123 h123 => ?_)
                subst h123
                refine n_iast (i := x) (x := (nI (askM ac co xcx x i))) (g := aN (va_up xcx x (askM ac co xcx x i))) (ws' := (wR kA qr cc ac co ad rc nm st an svm cnt tx len th xf xt xs xa (va_up xw x (comA xw x (pmF ac q13) (ac q13))) (va_up xcx x (askM ac co xcx x i)) (va_up xkx x (some i)) xp pt wr xm mny)) hx hb hK hP hD hS 9 0 rfl rfl (by omega) (Nat.le_of_ble_eq_true rfl) (aN_up _ _ _) rfl dX6_plans_126 (fun H locs hP hD hS => ?_)
                refine lv_iinc (v := (nI (i + 1))) (lv' := [(3, .int (nI (i + 1))), (0, .ref (qr 0)), (1, .int (nI x))]) hx hb dX6_plans_127 hl (k := 0) rfl (nI_inc _) (by decide) rfl (fun ls hl => ?_)
                refine lv_goto (tgt := 64) hx hb dX6_plans_130 (by decide) ?_
                exact ih64 (i + 1) (va_up xcx x (askM ac co xcx x i)) (va_up xkx x (some i)) (by omega) (by first | assumption | omega) (by first | (rw [pbF_s, if_neg (fun h => by have := of_decide_eq_true h.1; omega)]; exact hpc) | (rw [pbF_s, if_neg (fun h => h.2.elim (fun h2 => by rw [c90] at h2; cases h2) (fun h2 => by have h2 : askM ac co xc x i < _ := h2; omega))]; exact hpc) | (rw [pbF_s, if_pos (by first | exact ⟨hob9, Or.inl c90⟩ | exact ⟨hob9, Or.inr c105⟩)]; rw [hae, hpc, up_up])) (by first | (rw [pbF_s, if_neg (fun h => by have := of_decide_eq_true h.1; omega)]; exact hpk) | (rw [pbF_s, if_neg (fun h => h.2.elim (fun h2 => by rw [c90] at h2; cases h2) (fun h2 => by have h2 : askM ac co xc x i < _ := h2; omega))]; exact hpk) | (rw [pbF_s, if_pos (by first | exact ⟨hob9, Or.inl c90⟩ | exact ⟨hob9, Or.inr c105⟩)]; rw [hpk, up_up])) (by first | (rw [pbF_s, if_neg (fun h => by have := of_decide_eq_true h.1; omega)]; exact hpb) | (rw [pbF_s, if_neg (fun h => h.2.elim (fun h2 => by rw [c90] at h2; cases h2) (fun h2 => by have h2 : askM ac co xc x i < _ := h2; omega))]; exact hpb) | (rw [pbF_s, if_pos (by first | exact ⟨hob9, Or.inl c90⟩ | exact ⟨hob9, Or.inr c105⟩)]; show askM ac co xc x i ≤ _; omega)) (by first | (rw [pbF_s, if_neg (fun h => by have := of_decide_eq_true h.1; omega)]; exact hpq) | (rw [pbF_s, if_neg (fun h => h.2.elim (fun h2 => by rw [c90] at h2; cases h2) (fun h2 => by have h2 : askM ac co xc x i < _ := h2; omega))]; exact hpq) | (rw [pbF_s, if_pos (by first | exact ⟨hob9, Or.inl c90⟩ | exact ⟨hob9, Or.inr c105⟩)]; exact (fun q h => by cases h; omega))) _ _ hP hD hS _ (lv_sub hl [0, 1, 2] rfl)
              · rw [hpk, up_s] at c90
                refine lv_aload_n hx hb dX6_plans_93 rfl (lv_at hl 1 rfl) ?_
                refine lv_iload_n hx hb dX6_plans_94 rfl (lv_at hl 2 rfl) ?_
                refine lv_iload_n hx hb dX6_plans_95 rfl (lv_at hl 0 rfl) ?_
                refine n_cV (b := qr 0) (As := [.int (nI x), .int (nI i)]) (rest := []) (wc := (wR kA qr cc ac co ad rc nm st an svm cnt tx len th xf xt xs xa (va_up xw x (comA xw x (pmF ac q13) (ac q13))) xcx xkx xp pt wr xm mny)) hS0 (c_X6_costBy lQ D kA qr cc ac co ad rc nm st an svm cnt tx len th xf xt xs xa (va_up xw x (comA xw x (pmF ac q13) (ac q13))) xcx xkx xp pt wr xm mny x i (by first | assumption | omega) (by first | assumption | omega) (by first | assumption | omega) (by first | assumption | omega) c71 c80 (fun y h1 h2 => by rw [hpc, up_n _ _ (by omega)]; exact hxc y h1 h2)) (cwV 2 hts gX6_plans_X6_costBy rfl rfl rfl (by decide +kernel) ⟨Nat.le_of_ble_eq_true rfl, Nat.le_of_ble_eq_true rfl⟩) hP hK (q0 := 0) rfl rfl rfl rfl rfl hl.1 (Nat.le_of_ble_eq_true rfl) dX6_plans_96 ⟨Nat.le_refl _, Nat.le_refl _⟩ (fun r96 h96 => ?_)
                subst h96
                refine lv_aload_n hx hb dX6_plans_99 rfl (lv_at hl 1 rfl) ?_
                refine n_get (ci := 6) (v := .ref (qr 9)) (C := RX6) (T := TX6) (N := 18) hx hb hts hinX6 hown hK hP 0 rfl rfl 11 rfl ⟨rfl, rfl, rfl⟩ f34 rfl dX6_plans_100 ?_
                refine lv_iload_n hx hb dX6_plans_103 rfl (lv_at hl 2 rfl) ?_
                refine n_iald (i := x) (v := (nI (xcx x))) hx hb hK hP 9 0 rfl rfl (by omega) (Nat.le_of_ble_eq_true rfl) rfl dX6_plans_104 ?_
                refine n_icmp_ge (a := askM ac co xcx x i) (b := xcx x) (tgt := 127) hx hb (by rw [hae]; omega) (by rw [hpc, up_s]; omega) dX6_plans_105 (by decide) (fun c105 => ?_) (fun c105 => ?_)
                · rw [hae, hpc, up_s] at c105
                  refine lv_iinc (v := (nI (i + 1))) (lv' := [(3, .int (nI (i + 1))), (0, .ref (qr 0)), (1, .int (nI x))]) hx hb dX6_plans_127 hl (k := 0) rfl (nI_inc _) (by decide) rfl (fun ls hl => ?_)
                  refine lv_goto (tgt := 64) hx hb dX6_plans_130 (by decide) ?_
                  exact ih64 (i + 1) xcx xkx (by omega) (by first | assumption | omega) (by first | (rw [pbF_s, if_neg (fun h => by have := of_decide_eq_true h.1; omega)]; exact hpc) | (rw [pbF_s, if_neg (fun h => h.2.elim (fun h2 => by rw [c90] at h2; cases h2) (fun h2 => by have h2 : askM ac co xc x i < _ := h2; omega))]; exact hpc) | (rw [pbF_s, if_pos (by first | exact ⟨hob9, Or.inl c90⟩ | exact ⟨hob9, Or.inr c105⟩)]; rw [hae, hpc, up_up])) (by first | (rw [pbF_s, if_neg (fun h => by have := of_decide_eq_true h.1; omega)]; exact hpk) | (rw [pbF_s, if_neg (fun h => h.2.elim (fun h2 => by rw [c90] at h2; cases h2) (fun h2 => by have h2 : askM ac co xc x i < _ := h2; omega))]; exact hpk) | (rw [pbF_s, if_pos (by first | exact ⟨hob9, Or.inl c90⟩ | exact ⟨hob9, Or.inr c105⟩)]; rw [hpk, up_up])) (by first | (rw [pbF_s, if_neg (fun h => by have := of_decide_eq_true h.1; omega)]; exact hpb) | (rw [pbF_s, if_neg (fun h => h.2.elim (fun h2 => by rw [c90] at h2; cases h2) (fun h2 => by have h2 : askM ac co xc x i < _ := h2; omega))]; exact hpb) | (rw [pbF_s, if_pos (by first | exact ⟨hob9, Or.inl c90⟩ | exact ⟨hob9, Or.inr c105⟩)]; show askM ac co xc x i ≤ _; omega)) (by first | (rw [pbF_s, if_neg (fun h => by have := of_decide_eq_true h.1; omega)]; exact hpq) | (rw [pbF_s, if_neg (fun h => h.2.elim (fun h2 => by rw [c90] at h2; cases h2) (fun h2 => by have h2 : askM ac co xc x i < _ := h2; omega))]; exact hpq) | (rw [pbF_s, if_pos (by first | exact ⟨hob9, Or.inl c90⟩ | exact ⟨hob9, Or.inr c105⟩)]; exact (fun q h => by cases h; omega))) _ _ hP hD hS _ (lv_sub hl [0, 1, 2] rfl)
                · rw [hae, hpc, up_s] at c105
                  refine lv_aload_n hx hb dX6_plans_108 rfl (lv_at hl 1 rfl) ?_
                  refine n_get (ci := 6) (v := .ref (qr 10)) (C := RX6) (T := TX6) (N := 18) hx hb hts hinX6 hown hK hP 0 rfl rfl 12 rfl ⟨rfl, rfl, rfl⟩ f37 rfl dX6_plans_109 ?_
                  refine lv_iload_n hx hb dX6_plans_112 rfl (lv_at hl 2 rfl) ?_
                  refine lv_iload_n hx hb dX6_plans_113 rfl (lv_at hl 0 rfl) ?_
                  refine n_iast (i := x) (x := (oI (some i))) (g := aO (va_up xkx x (some i))) (ws' := (wR kA qr cc ac co ad rc nm st an svm cnt tx len th xf xt xs xa (va_up xw x (comA xw x (pmF ac q13) (ac q13))) xcx (va_up xkx x (some i)) xp pt wr xm mny)) hx hb hK hP hD hS 10 0 rfl rfl (by omega) (Nat.le_of_ble_eq_true rfl) (aO_up _ _ _) rfl dX6_plans_114 (fun H locs hP hD hS => ?_)
                  refine lv_aload_n hx hb dX6_plans_115 rfl (lv_at hl 1 rfl) ?_
                  refine n_get (ci := 6) (v := .ref (qr 9)) (C := RX6) (T := TX6) (N := 18) hx hb hts hinX6 hown hK hP 0 rfl rfl 11 rfl ⟨rfl, rfl, rfl⟩ f34 rfl dX6_plans_116 ?_
                  refine lv_iload_n hx hb dX6_plans_119 rfl (lv_at hl 2 rfl) ?_
                  refine lv_aload_n hx hb dX6_plans_120 rfl (lv_at hl 1 rfl) ?_
                  refine lv_iload_n hx hb dX6_plans_121 rfl (lv_at hl 2 rfl) ?_
                  refine lv_iload_n hx hb dX6_plans_122 rfl (lv_at hl 0 rfl) ?_
                  refine n_cV (b := qr 0) (As := [.int (nI x), .int (nI i)]) (rest := [.int (nI x), .ref (qr 9)]) (wc := (wR kA qr cc ac co ad rc nm st an svm cnt tx len th xf xt xs xa (va_up xw x (comA xw x (pmF ac q13) (ac q13))) xcx (va_up xkx x (some i)) xp pt wr xm mny)) hS0 (c_X6_costBy lQ D kA qr cc ac co ad rc nm st an svm cnt tx len th xf xt xs xa (va_up xw x (comA xw x (pmF ac q13) (ac q13))) xcx (va_up xkx x (some i)) xp pt wr xm mny x i (by first | assumption | omega) (by first | assumption | omega) (by first | assumption | omega) (by first | assumption | omega) c71 c80 (fun y h1 h2 => by rw [hpc, up_n _ _ (by omega)]; exact hxc y h1 h2)) (cwV 2 hts gX6_plans_X6_costBy rfl rfl rfl (by decide +kernel) ⟨Nat.le_of_ble_eq_true rfl, Nat.le_of_ble_eq_true rfl⟩) hP hK (q0 := 0) rfl rfl rfl rfl rfl hl.1 (Nat.le_of_ble_eq_true rfl) dX6_plans_123 ⟨Nat.le_refl _, Nat.le_refl _⟩ (fun r123 h123 => ?_)
                  subst h123
                  refine n_iast (i := x) (x := (nI (askM ac co xcx x i))) (g := aN (va_up xcx x (askM ac co xcx x i))) (ws' := (wR kA qr cc ac co ad rc nm st an svm cnt tx len th xf xt xs xa (va_up xw x (comA xw x (pmF ac q13) (ac q13))) (va_up xcx x (askM ac co xcx x i)) (va_up xkx x (some i)) xp pt wr xm mny)) hx hb hK hP hD hS 9 0 rfl rfl (by omega) (Nat.le_of_ble_eq_true rfl) (aN_up _ _ _) rfl dX6_plans_126 (fun H locs hP hD hS => ?_)
                  refine lv_iinc (v := (nI (i + 1))) (lv' := [(3, .int (nI (i + 1))), (0, .ref (qr 0)), (1, .int (nI x))]) hx hb dX6_plans_127 hl (k := 0) rfl (nI_inc _) (by decide) rfl (fun ls hl => ?_)
                  refine lv_goto (tgt := 64) hx hb dX6_plans_130 (by decide) ?_
                  exact ih64 (i + 1) (va_up xcx x (askM ac co xcx x i)) (va_up xkx x (some i)) (by omega) (by first | assumption | omega) (by first | (rw [pbF_s, if_neg (fun h => by have := of_decide_eq_true h.1; omega)]; exact hpc) | (rw [pbF_s, if_neg (fun h => h.2.elim (fun h2 => by rw [c90] at h2; cases h2) (fun h2 => by have h2 : askM ac co xc x i < _ := h2; omega))]; exact hpc) | (rw [pbF_s, if_pos (by first | exact ⟨hob9, Or.inl c90⟩ | exact ⟨hob9, Or.inr c105⟩)]; rw [hae, hpc, up_up])) (by first | (rw [pbF_s, if_neg (fun h => by have := of_decide_eq_true h.1; omega)]; exact hpk) | (rw [pbF_s, if_neg (fun h => h.2.elim (fun h2 => by rw [c90] at h2; cases h2) (fun h2 => by have h2 : askM ac co xc x i < _ := h2; omega))]; exact hpk) | (rw [pbF_s, if_pos (by first | exact ⟨hob9, Or.inl c90⟩ | exact ⟨hob9, Or.inr c105⟩)]; rw [hpk, up_up])) (by first | (rw [pbF_s, if_neg (fun h => by have := of_decide_eq_true h.1; omega)]; exact hpb) | (rw [pbF_s, if_neg (fun h => h.2.elim (fun h2 => by rw [c90] at h2; cases h2) (fun h2 => by have h2 : askM ac co xc x i < _ := h2; omega))]; exact hpb) | (rw [pbF_s, if_pos (by first | exact ⟨hob9, Or.inl c90⟩ | exact ⟨hob9, Or.inr c105⟩)]; show askM ac co xc x i ≤ _; omega)) (by first | (rw [pbF_s, if_neg (fun h => by have := of_decide_eq_true h.1; omega)]; exact hpq) | (rw [pbF_s, if_neg (fun h => h.2.elim (fun h2 => by rw [c90] at h2; cases h2) (fun h2 => by have h2 : askM ac co xc x i < _ := h2; omega))]; exact hpq) | (rw [pbF_s, if_pos (by first | exact ⟨hob9, Or.inl c90⟩ | exact ⟨hob9, Or.inr c105⟩)]; exact (fun q h => by cases h; omega))) _ _ hP hD hS _ (lv_sub hl [0, 1, 2] rfl)
      exact L64 ((cc - 0) + 1) 0 (va_up xc x 0) (va_up xk x none) (Nat.lt_succ_self _) (by first | assumption | omega) rfl rfl (Nat.zero_le _) (fun q h => by cases h) _ _ hP hD hS _ (lv_sub hl [0, 2, 3] rfl)
    · rw [up_s, ← hV] at c58
      have hPC : pcM cc ac co xc x (cmM cc ac xa xw x) = (0, none) := by unfold pcM; rw [if_neg c58]
      have hw9 : (wR kA qr cc ac co ad rc nm st an svm cnt tx len th xf xt xs xa (va_up xw x (comA xw x (pmF ac q13) (ac q13))) (va_up xc x 0) (va_up xk x none) xp pt wr xm mny) = (wR kA qr cc ac co ad rc nm st an svm cnt tx len th xf xt xs xa (va_up xw x (cmM cc ac xa xw x)) (va_up xc x (pcM cc ac co xc x (cmM cc ac xa xw x)).1) (va_up xk x (pcM cc ac co xc x (cmM cc ac xa xw x)).2) xp pt wr xm mny) := (by rw [hPC, hV])
      rw [hw9] at hP hD
      exact n_wretv hx hb hr hlocks (post := fun (u : Unit) => True) (w1 := fun u => (wR kA qr cc ac co ad rc nm st an svm cnt tx len th xf xt xs xa (va_up xw x (cmM cc ac xa xw x)) (va_up xc x (pcM cc ac co xc x (cmM cc ac xa xw x)).1) (va_up xk x (pcM cc ac co xc x (cmM cc ac xa xw x)).2) xp pt wr xm mny)) () trivial hP hD hK hS hAe dX6_plans_61
  · have hl : lv_has ls 4 [(2, .int (oI none)), (0, .ref (qr 0)), (1, .int (nI x))] := by rw [c13] at hl; exact hl
    have hdg9 : ∀ k, k < cc → 1 ≤ knN ac x k := fun k hk => by have := of_decide_eq_false (firstF_noneI c13 k hk); omega
    have hcs9 := cs_lt (ac := ac) (d := fun k => knN ac x k) (n := cc) (fun k hk => ⟨hdg9 k hk, Nat.le_of_lt_succ (knN_lt ac x k)⟩)
    have hV : cmM cc ac xa xw x = xa (sumF (fun k => (knN ac x k - 1) * prodF ac k) cc) := by unfold cmM; rw [c13]
    refine lv_aload_n hx hb dX6_plans_16 rfl (lv_at hl 1 rfl) ?_
    refine n_get (ci := 6) (v := .ref (qr 7)) (C := RX6) (T := TX6) (N := 18) hx hb hts hinX6 hown hK hP 0 rfl rfl 9 rfl ⟨rfl, rfl, rfl⟩ f28 rfl dX6_plans_17 ?_
    refine lv_aload_n hx hb dX6_plans_20 rfl (lv_at hl 1 rfl) ?_
    refine lv_iload_n hx hb dX6_plans_21 rfl (lv_at hl 2 rfl) ?_
    refine n_cV (b := qr 0) (As := [.int (nI x)]) (rest := [.ref (qr 7), .int (nI x), .ref (qr 8)]) (wc := (wR kA qr cc ac co ad rc nm st an svm cnt tx len th xf xt xs xa xw xc xk xp pt wr xm mny)) hS0 (c_X6_caseBy lQ D kA qr cc ac co ad rc nm st an svm cnt tx len th xf xt xs xa xw xc xk xp pt wr xm mny x (by first | assumption | omega) (by first | assumption | omega) (by first | assumption | omega) (by first | assumption | omega) hdg9) (cwV 1 hts gX6_plans_X6_caseBy rfl rfl rfl (by decide +kernel) ⟨Nat.le_of_ble_eq_true rfl, Nat.le_of_ble_eq_true rfl⟩) hP hK (q0 := 0) rfl rfl rfl rfl rfl hl.1 (Nat.le_of_ble_eq_true rfl) dX6_plans_22 ⟨Nat.le_refl _, Nat.le_refl _⟩ (fun r22 h22 => ?_)
    subst h22
    refine n_iald (i := sumF (fun k => (knN ac x k - 1) * prodF ac k) cc) (v := (nI (xa (sumF (fun k => (knN ac x k - 1) * prodF ac k) cc)))) hx hb hK hP 7 0 rfl rfl (Nat.lt_of_lt_of_le hcs9 (prodF_1024 hcc hac)) (Nat.le_of_ble_eq_true rfl) rfl dX6_plans_25 ?_
    rw [show nI (xa (sumF (fun k => (knN ac x k - 1) * prodF ac k) cc)) = mI (xa (sumF (fun k => (knN ac x k - 1) * prodF ac k) cc)) from (mI_lt (by have := hxa _ hcs9; omega)).symm]
    refine lv_goto (tgt := 35) hx hb dX6_plans_26 (by decide) ?_
    refine n_iast (i := x) (x := (mI (xa (sumF (fun k => (knN ac x k - 1) * prodF ac k) cc)))) (g := aM (va_up xw x (xa (sumF (fun k => (knN ac x k - 1) * prodF ac k) cc)))) (ws' := (wR kA qr cc ac co ad rc nm st an svm cnt tx len th xf xt xs xa (va_up xw x (xa (sumF (fun k => (knN ac x k - 1) * prodF ac k) cc))) xc xk xp pt wr xm mny)) hx hb hK hP hD hS 8 0 rfl rfl (by omega) (Nat.le_of_ble_eq_true rfl) (aM_up _ _ _) rfl dX6_plans_35 (fun H locs hP hD hS => ?_)
    refine lv_aload_n hx hb dX6_plans_36 rfl (lv_at hl 1 rfl) ?_
    refine n_get (ci := 6) (v := .ref (qr 9)) (C := RX6) (T := TX6) (N := 18) hx hb hts hinX6 hown hK hP 0 rfl rfl 11 rfl ⟨rfl, rfl, rfl⟩ f34 rfl dX6_plans_37 ?_
    refine lv_iload_n hx hb dX6_plans_40 rfl (lv_at hl 2 rfl) ?_
    refine lv_iconst (v := (nI 0)) hx hb dX6_plans_41 (by decide) ?_
    refine n_iast (i := x) (x := (nI 0)) (g := aN (va_up xc x 0)) (ws' := (wR kA qr cc ac co ad rc nm st an svm cnt tx len th xf xt xs xa (va_up xw x (xa (sumF (fun k => (knN ac x k - 1) * prodF ac k) cc))) (va_up xc x 0) xk xp pt wr xm mny)) hx hb hK hP hD hS 9 0 rfl rfl (by omega) (Nat.le_of_ble_eq_true rfl) (aN_up _ _ _) rfl dX6_plans_42 (fun H locs hP hD hS => ?_)
    refine lv_aload_n hx hb dX6_plans_43 rfl (lv_at hl 1 rfl) ?_
    refine n_get (ci := 6) (v := .ref (qr 10)) (C := RX6) (T := TX6) (N := 18) hx hb hts hinX6 hown hK hP 0 rfl rfl 12 rfl ⟨rfl, rfl, rfl⟩ f37 rfl dX6_plans_44 ?_
    refine lv_iload_n hx hb dX6_plans_47 rfl (lv_at hl 2 rfl) ?_
    refine lv_iconst (v := (oI none)) hx hb dX6_plans_48 (by decide) ?_
    refine n_iast (i := x) (x := (oI none)) (g := aO (va_up xk x none)) (ws' := (wR kA qr cc ac co ad rc nm st an svm cnt tx len th xf xt xs xa (va_up xw x (xa (sumF (fun k => (knN ac x k - 1) * prodF ac k) cc))) (va_up xc x 0) (va_up xk x none) xp pt wr xm mny)) hx hb hK hP hD hS 10 0 rfl rfl (by omega) (Nat.le_of_ble_eq_true rfl) (aO_up _ _ _) rfl dX6_plans_49 (fun H locs hP hD hS => ?_)
    refine lv_aload_n hx hb dX6_plans_50 rfl (lv_at hl 1 rfl) ?_
    refine n_get (ci := 6) (v := .ref (qr 8)) (C := RX6) (T := TX6) (N := 18) hx hb hts hinX6 hown hK hP 0 rfl rfl 10 rfl ⟨rfl, rfl, rfl⟩ f31 rfl dX6_plans_51 ?_
    refine lv_iload_n hx hb dX6_plans_54 rfl (lv_at hl 2 rfl) ?_
    refine n_iald (i := x) (v := (mI ((va_up xw x (xa (sumF (fun k => (knN ac x k - 1) * prodF ac k) cc))) x))) hx hb hK hP 8 0 rfl rfl (by omega) (Nat.le_of_ble_eq_true rfl) rfl dX6_plans_55 ?_
    refine lv_bipush (v := (-2)) hx hb dX6_plans_56 (by decide) ?_
    refine n_icmpm_eq (a := (va_up xw x (xa (sumF (fun k => (knN ac x k - 1) * prodF ac k) cc))) x) (b := 11) (tgt := 62) hx hb (by rw [up_s, ← hV]; exact hcl9) (by decide) dX6_plans_58 (by decide) (fun c58 => ?_) (fun c58 => ?_)
    · rw [up_s, ← hV] at c58
      refine lv_iconst (v := (nI 0)) hx hb dX6_plans_62 (by decide) ?_
      refine lv_istore_n (lv' := [(3, .int (nI 0)), (2, .int (oI none)), (0, .ref (qr 0)), (1, .int (nI x))]) hx hb dX6_plans_63 rfl hl (by decide) rfl (fun ls hl => ?_)
      have L64 : ∀ (nQ : Nat) (i : Nat) (xcx : Nat → Nat) (xkx : Nat → Option Nat), cc - i < nQ → (i ≤ cc) → (xcx = va_up xc x (pbF (fun k => askM ac co xc x k) (fun k => decide (knN ac x k = 0)) i).1) → (xkx = va_up xk x (pbF (fun k => askM ac co xc x k) (fun k => decide (knN ac x k = 0)) i).2) → ((pbF (fun k => askM ac co xc x k) (fun k => decide (knN ac x k = 0)) i).1 ≤ 9 * 3125) → (∀ q, (pbF (fun k => askM ac co xc x k) (fun k => decide (knN ac x k = 0)) i).2 = some q → q < 5) → ∀ (H : Heap) (locs : List Loc), va_P D vwCl (wR kA qr cc ac co ad rc nm st an svm cnt tx len th xf xt xs xa (va_up xw x (xa (sumF (fun k => (knN ac x k - 1) * prodF ac k) cc))) xcx xkx xp pt wr xm mny) H → va_D A (wR kA qr cc ac co ad rc nm st an svm cnt tx len th xf xt xs xa (va_up xw x (xa (sumF (fun k => (knN ac x k - 1) * prodF ac k) cc))) xcx xkx xp pt wr xm mny) → va_S A s.heap H locs → ∀ (ls : Array Slot), lv_has ls 4 [(3, .int (nI i)), (0, .ref (qr 0)), (1, .int (nI x))] → W pQ lQ eQ (headSpec wsX6_plans (rmN 3 66)).room s mQ ([.ref (qr 0), .int (nI x)] : List Value).toArray below meth cQ H locs 0 0 (MQ below (va_Qv (S := Unit) (fun (u : Unit) => True) (wr_B D vwCl (wR kA qr cc ac co ad rc nm st an svm cnt tx len th xf xt xs xa xw xc xk xp pt wr xm mny) (tyK kA) s.heap.size (fun u => (wR kA qr cc ac co ad rc nm st an svm cnt tx len th xf xt xs xa (va_up xw x (cmM cc ac xa xw x)) (va_up xc x (pcM cc ac co xc x (cmM cc ac xa xw x)).1) (va_up xk x (pcM cc ac co xc x (cmM cc ac xa xw x)).2) xp pt wr xm mny))) A) ([.ref (qr 0), .int (nI x)] : List Value).toArray s 0 0 A) (F0 mQ 64 ls []) := by
        intro nQ
        induction nQ with
        | zero => intro i xcx xkx hn; exact absurd hn (Nat.not_lt_zero _)
        | succ nQ ih64 =>
          intro i xcx xkx hm64 hi hpc hpk hpb hpq H locs hP hD hS ls hl
          refine lv_iload_n hx hb dX6_plans_64 rfl (lv_at hl 0 rfl) ?_
          refine lv_aload_n hx hb dX6_plans_65 rfl (lv_at hl 1 rfl) ?_
          refine n_get (ci := 6) (v := .ref (qr 1)) (C := RX6) (T := TX6) (N := 18) hx hb hts hinX6 hown hK hP 0 rfl rfl 0 rfl ⟨rfl, rfl, rfl⟩ f7 rfl dX6_plans_66 ?_
          refine lv_iconst (v := (nI 0)) hx hb dX6_plans_69 (by decide) ?_
          refine n_iald (i := 0) (v := (nI cc)) hx hb hK hP 1 0 rfl rfl (by omega) (Nat.le_of_ble_eq_true rfl) rfl dX6_plans_70 ?_
          refine n_icmp_ge (a := i) (b := cc) (tgt := 133) hx hb (by omega) (by omega) dX6_plans_71 (by decide) (fun c71 => ?_) (fun c71 => ?_)
          · have hPC : pcM cc ac co xc x (cmM cc ac xa xw x) = pbF (fun k => askM ac co xc x k) (fun k => decide (knN ac x k = 0)) i := by unfold pcM; rw [if_pos c58, show cc = i by omega]
            have hw9 : (wR kA qr cc ac co ad rc nm st an svm cnt tx len th xf xt xs xa (va_up xw x (xa (sumF (fun k => (knN ac x k - 1) * prodF ac k) cc))) xcx xkx xp pt wr xm mny) = (wR kA qr cc ac co ad rc nm st an svm cnt tx len th xf xt xs xa (va_up xw x (cmM cc ac xa xw x)) (va_up xc x (pcM cc ac co xc x (cmM cc ac xa xw x)).1) (va_up xk x (pcM cc ac co xc x (cmM cc ac xa xw x)).2) xp pt wr xm mny) := (by rw [hpc, hpk, hPC, hV])
            rw [hw9] at hP hD
            exact n_wretv hx hb hr hlocks (post := fun (u : Unit) => True) (w1 := fun u => (wR kA qr cc ac co ad rc nm st an svm cnt tx len th xf xt xs xa (va_up xw x (cmM cc ac xa xw x)) (va_up xc x (pcM cc ac co xc x (cmM cc ac xa xw x)).1) (va_up xk x (pcM cc ac co xc x (cmM cc ac xa xw x)).2) xp pt wr xm mny)) () trivial hP hD hK hS hAe dX6_plans_133
          · refine lv_aload_n hx hb dX6_plans_74 rfl (lv_at hl 1 rfl) ?_
            refine lv_iload_n hx hb dX6_plans_75 rfl (lv_at hl 2 rfl) ?_
            refine lv_iload_n hx hb dX6_plans_76 rfl (lv_at hl 0 rfl) ?_
            refine n_cV (b := qr 0) (As := [.int (nI x), .int (nI i)]) (rest := []) (wc := (wR kA qr cc ac co ad rc nm st an svm cnt tx len th xf xt xs xa (va_up xw x (xa (sumF (fun k => (knN ac x k - 1) * prodF ac k) cc))) xcx xkx xp pt wr xm mny)) hS0 (c_X6_known lQ D kA qr cc ac co ad rc nm st an svm cnt tx len th xf xt xs xa (va_up xw x (xa (sumF (fun k => (knN ac x k - 1) * prodF ac k) cc))) xcx xkx xp pt wr xm mny x i (by first | assumption | omega) (by first | assumption | omega) (by first | assumption | omega) (by first | assumption | omega) (by first | assumption | omega)) (cwV 2 hts gX6_plans_X6_known rfl rfl rfl (by decide +kernel) ⟨Nat.le_of_ble_eq_true rfl, Nat.le_of_ble_eq_true rfl⟩) hP hK (q0 := 0) rfl rfl rfl rfl rfl hl.1 (Nat.le_of_ble_eq_true rfl) dX6_plans_77 ⟨Nat.le_refl _, Nat.le_refl _⟩ (fun r77 h77 => ?_)
            subst h77
            refine n_if_ne (a := knN ac x i) (tgt := 127) hx hb (by have := knN_lt ac x i; have := (hac i (by omega)).2; omega) dX6_plans_80 (by decide) (fun c80 => ?_) (fun c80 => ?_)
            · refine lv_iinc (v := (nI (i + 1))) (lv' := [(3, .int (nI (i + 1))), (0, .ref (qr 0)), (1, .int (nI x))]) hx hb dX6_plans_127 hl (k := 0) rfl (nI_inc _) (by decide) rfl (fun ls hl => ?_)
              refine lv_goto (tgt := 64) hx hb dX6_plans_130 (by decide) ?_
              exact ih64 (i + 1) xcx xkx (by omega) (by first | assumption | omega) (by first | (rw [pbF_s, if_neg (fun h => by have := of_decide_eq_true h.1; omega)]; exact hpc) | (rw [pbF_s, if_neg (fun h => h.2.elim (fun h2 => by rw [c90] at h2; cases h2) (fun h2 => by have h2 : askM ac co xc x i < _ := h2; omega))]; exact hpc) | (rw [pbF_s, if_pos (by first | exact ⟨hob9, Or.inl c90⟩ | exact ⟨hob9, Or.inr c105⟩)]; rw [hae, hpc, up_up])) (by first | (rw [pbF_s, if_neg (fun h => by have := of_decide_eq_true h.1; omega)]; exact hpk) | (rw [pbF_s, if_neg (fun h => h.2.elim (fun h2 => by rw [c90] at h2; cases h2) (fun h2 => by have h2 : askM ac co xc x i < _ := h2; omega))]; exact hpk) | (rw [pbF_s, if_pos (by first | exact ⟨hob9, Or.inl c90⟩ | exact ⟨hob9, Or.inr c105⟩)]; rw [hpk, up_up])) (by first | (rw [pbF_s, if_neg (fun h => by have := of_decide_eq_true h.1; omega)]; exact hpb) | (rw [pbF_s, if_neg (fun h => h.2.elim (fun h2 => by rw [c90] at h2; cases h2) (fun h2 => by have h2 : askM ac co xc x i < _ := h2; omega))]; exact hpb) | (rw [pbF_s, if_pos (by first | exact ⟨hob9, Or.inl c90⟩ | exact ⟨hob9, Or.inr c105⟩)]; show askM ac co xc x i ≤ _; omega)) (by first | (rw [pbF_s, if_neg (fun h => by have := of_decide_eq_true h.1; omega)]; exact hpq) | (rw [pbF_s, if_neg (fun h => h.2.elim (fun h2 => by rw [c90] at h2; cases h2) (fun h2 => by have h2 : askM ac co xc x i < _ := h2; omega))]; exact hpq) | (rw [pbF_s, if_pos (by first | exact ⟨hob9, Or.inl c90⟩ | exact ⟨hob9, Or.inr c105⟩)]; exact (fun q h => by cases h; omega))) _ _ hP hD hS _ (lv_sub hl [0, 1, 2] rfl)
            · have hae : askM ac co xcx x i = askM ac co xc x i := askM_dep (fun y hy => by rw [hpc, up_n _ _ (by omega)])
              have hob9 : decide (knN ac x i = 0) = true := decide_eq_true c80
              have hal9 := askM_le (co := co) hco c71 c80 hxn hxc
              refine lv_aload_n hx hb dX6_plans_83 rfl (lv_at hl 1 rfl) ?_
              refine n_get (ci := 6) (v := .ref (qr 10)) (C := RX6) (T := TX6) (N := 18) hx hb hts hinX6 hown hK hP 0 rfl rfl 12 rfl ⟨rfl, rfl, rfl⟩ f37 rfl dX6_plans_84 ?_
              refine lv_iload_n hx hb dX6_plans_87 rfl (lv_at hl 2 rfl) ?_
              refine n_iald (i := x) (v := (oI (xkx x))) hx hb hK hP 10 0 rfl rfl (by omega) (Nat.le_of_ble_eq_true rfl) rfl dX6_plans_88 ?_
              refine lv_iconst (v := (oI none)) hx hb dX6_plans_89 (by decide) ?_
              refine n_icmpo_eq (o := xkx x) (tgt := 108) hx hb (fun q h => by rw [hpk, up_s] at h; have := hpq q h; omega) dX6_plans_90 (by decide) (fun c90 => ?_) (fun q90 c90 => ?_)
              · rw [hpk, up_s] at c90
                refine lv_aload_n hx hb dX6_plans_108 rfl (lv_at hl 1 rfl) ?_
                refine n_get (ci := 6) (v := .ref (qr 10)) (C := RX6) (T := TX6) (N := 18) hx hb hts hinX6 hown hK hP 0 rfl rfl 12 rfl ⟨rfl, rfl, rfl⟩ f37 rfl dX6_plans_109 ?_
                refine lv_iload_n hx hb dX6_plans_112 rfl (lv_at hl 2 rfl) ?_
                refine lv_iload_n hx hb dX6_plans_113 rfl (lv_at hl 0 rfl) ?_
                refine n_iast (i := x) (x := (oI (some i))) (g := aO (va_up xkx x (some i))) (ws' := (wR kA qr cc ac co ad rc nm st an svm cnt tx len th xf xt xs xa (va_up xw x (xa (sumF (fun k => (knN ac x k - 1) * prodF ac k) cc))) xcx (va_up xkx x (some i)) xp pt wr xm mny)) hx hb hK hP hD hS 10 0 rfl rfl (by omega) (Nat.le_of_ble_eq_true rfl) (aO_up _ _ _) rfl dX6_plans_114 (fun H locs hP hD hS => ?_)
                refine lv_aload_n hx hb dX6_plans_115 rfl (lv_at hl 1 rfl) ?_
                refine n_get (ci := 6) (v := .ref (qr 9)) (C := RX6) (T := TX6) (N := 18) hx hb hts hinX6 hown hK hP 0 rfl rfl 11 rfl ⟨rfl, rfl, rfl⟩ f34 rfl dX6_plans_116 ?_
                refine lv_iload_n hx hb dX6_plans_119 rfl (lv_at hl 2 rfl) ?_
                refine lv_aload_n hx hb dX6_plans_120 rfl (lv_at hl 1 rfl) ?_
                refine lv_iload_n hx hb dX6_plans_121 rfl (lv_at hl 2 rfl) ?_
                refine lv_iload_n hx hb dX6_plans_122 rfl (lv_at hl 0 rfl) ?_
                refine n_cV (b := qr 0) (As := [.int (nI x), .int (nI i)]) (rest := [.int (nI x), .ref (qr 9)]) (wc := (wR kA qr cc ac co ad rc nm st an svm cnt tx len th xf xt xs xa (va_up xw x (xa (sumF (fun k => (knN ac x k - 1) * prodF ac k) cc))) xcx (va_up xkx x (some i)) xp pt wr xm mny)) hS0 (c_X6_costBy lQ D kA qr cc ac co ad rc nm st an svm cnt tx len th xf xt xs xa (va_up xw x (xa (sumF (fun k => (knN ac x k - 1) * prodF ac k) cc))) xcx (va_up xkx x (some i)) xp pt wr xm mny x i (by first | assumption | omega) (by first | assumption | omega) (by first | assumption | omega) (by first | assumption | omega) c71 c80 (fun y h1 h2 => by rw [hpc, up_n _ _ (by omega)]; exact hxc y h1 h2)) (cwV 2 hts gX6_plans_X6_costBy rfl rfl rfl (by decide +kernel) ⟨Nat.le_of_ble_eq_true rfl, Nat.le_of_ble_eq_true rfl⟩) hP hK (q0 := 0) rfl rfl rfl rfl rfl hl.1 (Nat.le_of_ble_eq_true rfl) dX6_plans_123 ⟨Nat.le_refl _, Nat.le_refl _⟩ (fun r123 h123 => ?_)
                subst h123
                refine n_iast (i := x) (x := (nI (askM ac co xcx x i))) (g := aN (va_up xcx x (askM ac co xcx x i))) (ws' := (wR kA qr cc ac co ad rc nm st an svm cnt tx len th xf xt xs xa (va_up xw x (xa (sumF (fun k => (knN ac x k - 1) * prodF ac k) cc))) (va_up xcx x (askM ac co xcx x i)) (va_up xkx x (some i)) xp pt wr xm mny)) hx hb hK hP hD hS 9 0 rfl rfl (by omega) (Nat.le_of_ble_eq_true rfl) (aN_up _ _ _) rfl dX6_plans_126 (fun H locs hP hD hS => ?_)
                refine lv_iinc (v := (nI (i + 1))) (lv' := [(3, .int (nI (i + 1))), (0, .ref (qr 0)), (1, .int (nI x))]) hx hb dX6_plans_127 hl (k := 0) rfl (nI_inc _) (by decide) rfl (fun ls hl => ?_)
                refine lv_goto (tgt := 64) hx hb dX6_plans_130 (by decide) ?_
                exact ih64 (i + 1) (va_up xcx x (askM ac co xcx x i)) (va_up xkx x (some i)) (by omega) (by first | assumption | omega) (by first | (rw [pbF_s, if_neg (fun h => by have := of_decide_eq_true h.1; omega)]; exact hpc) | (rw [pbF_s, if_neg (fun h => h.2.elim (fun h2 => by rw [c90] at h2; cases h2) (fun h2 => by have h2 : askM ac co xc x i < _ := h2; omega))]; exact hpc) | (rw [pbF_s, if_pos (by first | exact ⟨hob9, Or.inl c90⟩ | exact ⟨hob9, Or.inr c105⟩)]; rw [hae, hpc, up_up])) (by first | (rw [pbF_s, if_neg (fun h => by have := of_decide_eq_true h.1; omega)]; exact hpk) | (rw [pbF_s, if_neg (fun h => h.2.elim (fun h2 => by rw [c90] at h2; cases h2) (fun h2 => by have h2 : askM ac co xc x i < _ := h2; omega))]; exact hpk) | (rw [pbF_s, if_pos (by first | exact ⟨hob9, Or.inl c90⟩ | exact ⟨hob9, Or.inr c105⟩)]; rw [hpk, up_up])) (by first | (rw [pbF_s, if_neg (fun h => by have := of_decide_eq_true h.1; omega)]; exact hpb) | (rw [pbF_s, if_neg (fun h => h.2.elim (fun h2 => by rw [c90] at h2; cases h2) (fun h2 => by have h2 : askM ac co xc x i < _ := h2; omega))]; exact hpb) | (rw [pbF_s, if_pos (by first | exact ⟨hob9, Or.inl c90⟩ | exact ⟨hob9, Or.inr c105⟩)]; show askM ac co xc x i ≤ _; omega)) (by first | (rw [pbF_s, if_neg (fun h => by have := of_decide_eq_true h.1; omega)]; exact hpq) | (rw [pbF_s, if_neg (fun h => h.2.elim (fun h2 => by rw [c90] at h2; cases h2) (fun h2 => by have h2 : askM ac co xc x i < _ := h2; omega))]; exact hpq) | (rw [pbF_s, if_pos (by first | exact ⟨hob9, Or.inl c90⟩ | exact ⟨hob9, Or.inr c105⟩)]; exact (fun q h => by cases h; omega))) _ _ hP hD hS _ (lv_sub hl [0, 1, 2] rfl)
              · rw [hpk, up_s] at c90
                refine lv_aload_n hx hb dX6_plans_93 rfl (lv_at hl 1 rfl) ?_
                refine lv_iload_n hx hb dX6_plans_94 rfl (lv_at hl 2 rfl) ?_
                refine lv_iload_n hx hb dX6_plans_95 rfl (lv_at hl 0 rfl) ?_
                refine n_cV (b := qr 0) (As := [.int (nI x), .int (nI i)]) (rest := []) (wc := (wR kA qr cc ac co ad rc nm st an svm cnt tx len th xf xt xs xa (va_up xw x (xa (sumF (fun k => (knN ac x k - 1) * prodF ac k) cc))) xcx xkx xp pt wr xm mny)) hS0 (c_X6_costBy lQ D kA qr cc ac co ad rc nm st an svm cnt tx len th xf xt xs xa (va_up xw x (xa (sumF (fun k => (knN ac x k - 1) * prodF ac k) cc))) xcx xkx xp pt wr xm mny x i (by first | assumption | omega) (by first | assumption | omega) (by first | assumption | omega) (by first | assumption | omega) c71 c80 (fun y h1 h2 => by rw [hpc, up_n _ _ (by omega)]; exact hxc y h1 h2)) (cwV 2 hts gX6_plans_X6_costBy rfl rfl rfl (by decide +kernel) ⟨Nat.le_of_ble_eq_true rfl, Nat.le_of_ble_eq_true rfl⟩) hP hK (q0 := 0) rfl rfl rfl rfl rfl hl.1 (Nat.le_of_ble_eq_true rfl) dX6_plans_96 ⟨Nat.le_refl _, Nat.le_refl _⟩ (fun r96 h96 => ?_)
                subst h96
                refine lv_aload_n hx hb dX6_plans_99 rfl (lv_at hl 1 rfl) ?_
                refine n_get (ci := 6) (v := .ref (qr 9)) (C := RX6) (T := TX6) (N := 18) hx hb hts hinX6 hown hK hP 0 rfl rfl 11 rfl ⟨rfl, rfl, rfl⟩ f34 rfl dX6_plans_100 ?_
                refine lv_iload_n hx hb dX6_plans_103 rfl (lv_at hl 2 rfl) ?_
                refine n_iald (i := x) (v := (nI (xcx x))) hx hb hK hP 9 0 rfl rfl (by omega) (Nat.le_of_ble_eq_true rfl) rfl dX6_plans_104 ?_
                refine n_icmp_ge (a := askM ac co xcx x i) (b := xcx x) (tgt := 127) hx hb (by rw [hae]; omega) (by rw [hpc, up_s]; omega) dX6_plans_105 (by decide) (fun c105 => ?_) (fun c105 => ?_)
                · rw [hae, hpc, up_s] at c105
                  refine lv_iinc (v := (nI (i + 1))) (lv' := [(3, .int (nI (i + 1))), (0, .ref (qr 0)), (1, .int (nI x))]) hx hb dX6_plans_127 hl (k := 0) rfl (nI_inc _) (by decide) rfl (fun ls hl => ?_)
                  refine lv_goto (tgt := 64) hx hb dX6_plans_130 (by decide) ?_
                  exact ih64 (i + 1) xcx xkx (by omega) (by first | assumption | omega) (by first | (rw [pbF_s, if_neg (fun h => by have := of_decide_eq_true h.1; omega)]; exact hpc) | (rw [pbF_s, if_neg (fun h => h.2.elim (fun h2 => by rw [c90] at h2; cases h2) (fun h2 => by have h2 : askM ac co xc x i < _ := h2; omega))]; exact hpc) | (rw [pbF_s, if_pos (by first | exact ⟨hob9, Or.inl c90⟩ | exact ⟨hob9, Or.inr c105⟩)]; rw [hae, hpc, up_up])) (by first | (rw [pbF_s, if_neg (fun h => by have := of_decide_eq_true h.1; omega)]; exact hpk) | (rw [pbF_s, if_neg (fun h => h.2.elim (fun h2 => by rw [c90] at h2; cases h2) (fun h2 => by have h2 : askM ac co xc x i < _ := h2; omega))]; exact hpk) | (rw [pbF_s, if_pos (by first | exact ⟨hob9, Or.inl c90⟩ | exact ⟨hob9, Or.inr c105⟩)]; rw [hpk, up_up])) (by first | (rw [pbF_s, if_neg (fun h => by have := of_decide_eq_true h.1; omega)]; exact hpb) | (rw [pbF_s, if_neg (fun h => h.2.elim (fun h2 => by rw [c90] at h2; cases h2) (fun h2 => by have h2 : askM ac co xc x i < _ := h2; omega))]; exact hpb) | (rw [pbF_s, if_pos (by first | exact ⟨hob9, Or.inl c90⟩ | exact ⟨hob9, Or.inr c105⟩)]; show askM ac co xc x i ≤ _; omega)) (by first | (rw [pbF_s, if_neg (fun h => by have := of_decide_eq_true h.1; omega)]; exact hpq) | (rw [pbF_s, if_neg (fun h => h.2.elim (fun h2 => by rw [c90] at h2; cases h2) (fun h2 => by have h2 : askM ac co xc x i < _ := h2; omega))]; exact hpq) | (rw [pbF_s, if_pos (by first | exact ⟨hob9, Or.inl c90⟩ | exact ⟨hob9, Or.inr c105⟩)]; exact (fun q h => by cases h; omega))) _ _ hP hD hS _ (lv_sub hl [0, 1, 2] rfl)
                · rw [hae, hpc, up_s] at c105
                  refine lv_aload_n hx hb dX6_plans_108 rfl (lv_at hl 1 rfl) ?_
                  refine n_get (ci := 6) (v := .ref (qr 10)) (C := RX6) (T := TX6) (N := 18) hx hb hts hinX6 hown hK hP 0 rfl rfl 12 rfl ⟨rfl, rfl, rfl⟩ f37 rfl dX6_plans_109 ?_
                  refine lv_iload_n hx hb dX6_plans_112 rfl (lv_at hl 2 rfl) ?_
                  refine lv_iload_n hx hb dX6_plans_113 rfl (lv_at hl 0 rfl) ?_
                  refine n_iast (i := x) (x := (oI (some i))) (g := aO (va_up xkx x (some i))) (ws' := (wR kA qr cc ac co ad rc nm st an svm cnt tx len th xf xt xs xa (va_up xw x (xa (sumF (fun k => (knN ac x k - 1) * prodF ac k) cc))) xcx (va_up xkx x (some i)) xp pt wr xm mny)) hx hb hK hP hD hS 10 0 rfl rfl (by omega) (Nat.le_of_ble_eq_true rfl) (aO_up _ _ _) rfl dX6_plans_114 (fun H locs hP hD hS => ?_)
                  refine lv_aload_n hx hb dX6_plans_115 rfl (lv_at hl 1 rfl) ?_
                  refine n_get (ci := 6) (v := .ref (qr 9)) (C := RX6) (T := TX6) (N := 18) hx hb hts hinX6 hown hK hP 0 rfl rfl 11 rfl ⟨rfl, rfl, rfl⟩ f34 rfl dX6_plans_116 ?_
                  refine lv_iload_n hx hb dX6_plans_119 rfl (lv_at hl 2 rfl) ?_
                  refine lv_aload_n hx hb dX6_plans_120 rfl (lv_at hl 1 rfl) ?_
                  refine lv_iload_n hx hb dX6_plans_121 rfl (lv_at hl 2 rfl) ?_
                  refine lv_iload_n hx hb dX6_plans_122 rfl (lv_at hl 0 rfl) ?_
                  refine n_cV (b := qr 0) (As := [.int (nI x), .int (nI i)]) (rest := [.int (nI x), .ref (qr 9)]) (wc := (wR kA qr cc ac co ad rc nm st an svm cnt tx len th xf xt xs xa (va_up xw x (xa (sumF (fun k => (knN ac x k - 1) * prodF ac k) cc))) xcx (va_up xkx x (some i)) xp pt wr xm mny)) hS0 (c_X6_costBy lQ D kA qr cc ac co ad rc nm st an svm cnt tx len th xf xt xs xa (va_up xw x (xa (sumF (fun k => (knN ac x k - 1) * prodF ac k) cc))) xcx (va_up xkx x (some i)) xp pt wr xm mny x i (by first | assumption | omega) (by first | assumption | omega) (by first | assumption | omega) (by first | assumption | omega) c71 c80 (fun y h1 h2 => by rw [hpc, up_n _ _ (by omega)]; exact hxc y h1 h2)) (cwV 2 hts gX6_plans_X6_costBy rfl rfl rfl (by decide +kernel) ⟨Nat.le_of_ble_eq_true rfl, Nat.le_of_ble_eq_true rfl⟩) hP hK (q0 := 0) rfl rfl rfl rfl rfl hl.1 (Nat.le_of_ble_eq_true rfl) dX6_plans_123 ⟨Nat.le_refl _, Nat.le_refl _⟩ (fun r123 h123 => ?_)
                  subst h123
                  refine n_iast (i := x) (x := (nI (askM ac co xcx x i))) (g := aN (va_up xcx x (askM ac co xcx x i))) (ws' := (wR kA qr cc ac co ad rc nm st an svm cnt tx len th xf xt xs xa (va_up xw x (xa (sumF (fun k => (knN ac x k - 1) * prodF ac k) cc))) (va_up xcx x (askM ac co xcx x i)) (va_up xkx x (some i)) xp pt wr xm mny)) hx hb hK hP hD hS 9 0 rfl rfl (by omega) (Nat.le_of_ble_eq_true rfl) (aN_up _ _ _) rfl dX6_plans_126 (fun H locs hP hD hS => ?_)
                  refine lv_iinc (v := (nI (i + 1))) (lv' := [(3, .int (nI (i + 1))), (0, .ref (qr 0)), (1, .int (nI x))]) hx hb dX6_plans_127 hl (k := 0) rfl (nI_inc _) (by decide) rfl (fun ls hl => ?_)
                  refine lv_goto (tgt := 64) hx hb dX6_plans_130 (by decide) ?_
                  exact ih64 (i + 1) (va_up xcx x (askM ac co xcx x i)) (va_up xkx x (some i)) (by omega) (by first | assumption | omega) (by first | (rw [pbF_s, if_neg (fun h => by have := of_decide_eq_true h.1; omega)]; exact hpc) | (rw [pbF_s, if_neg (fun h => h.2.elim (fun h2 => by rw [c90] at h2; cases h2) (fun h2 => by have h2 : askM ac co xc x i < _ := h2; omega))]; exact hpc) | (rw [pbF_s, if_pos (by first | exact ⟨hob9, Or.inl c90⟩ | exact ⟨hob9, Or.inr c105⟩)]; rw [hae, hpc, up_up])) (by first | (rw [pbF_s, if_neg (fun h => by have := of_decide_eq_true h.1; omega)]; exact hpk) | (rw [pbF_s, if_neg (fun h => h.2.elim (fun h2 => by rw [c90] at h2; cases h2) (fun h2 => by have h2 : askM ac co xc x i < _ := h2; omega))]; exact hpk) | (rw [pbF_s, if_pos (by first | exact ⟨hob9, Or.inl c90⟩ | exact ⟨hob9, Or.inr c105⟩)]; rw [hpk, up_up])) (by first | (rw [pbF_s, if_neg (fun h => by have := of_decide_eq_true h.1; omega)]; exact hpb) | (rw [pbF_s, if_neg (fun h => h.2.elim (fun h2 => by rw [c90] at h2; cases h2) (fun h2 => by have h2 : askM ac co xc x i < _ := h2; omega))]; exact hpb) | (rw [pbF_s, if_pos (by first | exact ⟨hob9, Or.inl c90⟩ | exact ⟨hob9, Or.inr c105⟩)]; show askM ac co xc x i ≤ _; omega)) (by first | (rw [pbF_s, if_neg (fun h => by have := of_decide_eq_true h.1; omega)]; exact hpq) | (rw [pbF_s, if_neg (fun h => h.2.elim (fun h2 => by rw [c90] at h2; cases h2) (fun h2 => by have h2 : askM ac co xc x i < _ := h2; omega))]; exact hpq) | (rw [pbF_s, if_pos (by first | exact ⟨hob9, Or.inl c90⟩ | exact ⟨hob9, Or.inr c105⟩)]; exact (fun q h => by cases h; omega))) _ _ hP hD hS _ (lv_sub hl [0, 1, 2] rfl)
      exact L64 ((cc - 0) + 1) 0 (va_up xc x 0) (va_up xk x none) (Nat.lt_succ_self _) (by first | assumption | omega) rfl rfl (Nat.zero_le _) (fun q h => by cases h) _ _ hP hD hS _ (lv_sub hl [0, 2, 3] rfl)
    · rw [up_s, ← hV] at c58
      have hPC : pcM cc ac co xc x (cmM cc ac xa xw x) = (0, none) := by unfold pcM; rw [if_neg c58]
      have hw9 : (wR kA qr cc ac co ad rc nm st an svm cnt tx len th xf xt xs xa (va_up xw x (xa (sumF (fun k => (knN ac x k - 1) * prodF ac k) cc))) (va_up xc x 0) (va_up xk x none) xp pt wr xm mny) = (wR kA qr cc ac co ad rc nm st an svm cnt tx len th xf xt xs xa (va_up xw x (cmM cc ac xa xw x)) (va_up xc x (pcM cc ac co xc x (cmM cc ac xa xw x)).1) (va_up xk x (pcM cc ac co xc x (cmM cc ac xa xw x)).2) xp pt wr xm mny) := (by rw [hPC, hV])
      rw [hw9] at hP hD
      exact n_wretv hx hb hr hlocks (post := fun (u : Unit) => True) (w1 := fun u => (wR kA qr cc ac co ad rc nm st an svm cnt tx len th xf xt xs xa (va_up xw x (cmM cc ac xa xw x)) (va_up xc x (pcM cc ac co xc x (cmM cc ac xa xw x)).1) (va_up xk x (pcM cc ac co xc x (cmM cc ac xa xw x)).2) xp pt wr xm mny)) () trivial hP hD hK hS hAe dX6_plans_61

set_option maxHeartbeats 4000000 in
set_option maxRecDepth 100000 in
theorem c_X6_laysPlans (lQ : Launch) (D : va_G) (kA : Nat → ClassId) (qr : Nat → Nat) (cc : Nat) (ac : Nat → Nat) (co : Nat → Nat) (ad : Nat) (rc : Nat) (nm : Nat → Nat) (st : Nat → Nat) (an : Nat → Nat) (svm : Nat → TCt) (cnt : Nat) (tx : Nat → Nat) (len : Nat) (th : Nat) (xf : Nat → Option Nat) (xt : Nat → Nat) (xs : Nat → Option Nat) (xa : Nat → Nat) (xw : Nat → Nat) (xc : Nat → Nat) (xk : Nat → Option Nat) (xp : Nat → Nat) (pt : Nat) (wr : Option Nat) (xm : Nat → Nat) (mny : Nat) (sz : Nat) (hcc : cc ≤ 5) (hac : ∀ k, k < cc → 2 ≤ ac k ∧ ac k ≤ 4) (hco : ∀ k, k < cc → co k < 10) (hxa : ∀ c, c < prodF ac cc → xa c < 11) : Met lQ yX6_laysPlans wsX6_laysPlans (rmN 4 89) (wr_Pc D vwCl [.ref (qr 0)] (wR kA qr cc ac co ad rc nm st an svm cnt tx len th xf xt xs xa xw xc xk xp pt wr xm mny) (tyK kA) sz) (va_Qv (S := (Nat → Nat) × (Nat → Nat) × (Nat → Option Nat) × (Nat → Nat)) (fun (u : (Nat → Nat) × (Nat → Nat) × (Nat → Option Nat) × (Nat → Nat)) => plM cc ac co xa u.1 u.2.1 u.2.2.1 0 ∧ (∀ k, k ≤ cc → u.2.2.2 k = pmF ac k)) (wr_B D vwCl (wR kA qr cc ac co ad rc nm st an svm cnt tx len th xf xt xs xa xw xc xk xp pt wr xm mny) (tyK kA) sz (fun u => (wR kA qr cc ac co ad rc nm st an svm cnt tx len th xf xt xs xa u.1 u.2.1 u.2.2.1 u.2.2.2 pt wr xm mny))) (va_A (wR kA qr cc ac co ad rc nm st an svm cnt tx len th xf xt xs xa xw xc xk xp pt wr xm mny) sz)) 0 0 (va_A (wR kA qr cc ac co ad rc nm st an svm cnt tx len th xf xt xs xa xw xc xk xp pt wr xm mny) sz) := by
  refine Met.ofW (cc := cX6_laysPlans) (maxL := 2) (ret := none) (by decide) rfl ?_
  intro pQ eQ s mQ args below meth cQ s₁ B hml hv
  obtain ⟨rfl, hsz, hP, hK, hD0⟩ := hv
  have hx := B.exec
  have hb := B.bytes
  have hr := B.returns
  have hts := atoms_spec (ws := wsX6_laysPlans) B.pre
  have hown : s.vm.findClass RX6 = some mQ.cls := findClass_of_methodNamed B.named
  have hlocks : meth.locks = false := B.notSynchronized
  have hS0 : CallFix pQ mQ cQ cX6_laysPlans 2 s ([.ref (qr 0)] : List Value).toArray wsX6_laysPlans RX6 := ⟨hx, hb, hml, hown, hts⟩
  subst hsz
  have hD := hD0.self (sz := s.heap.size)
  generalize hAe : va_A (wR kA qr cc ac co ad rc nm st an svm cnt tx len th xf xt xs xa xw xc xk xp pt wr xm mny) s.heap.size = A at hD ⊢
  have hA : ∀ q : Nat, s.heap.size ≤ q → A q := fun q h => by rw [← hAe]; exact Or.inr h
  have hS : va_S A s.heap s.heap [] := va_S.rf
  have f40 : (Cond.fieldLink RX6 40 "AskedRulesModel" "steps" "[I").before ([.ref (qr 0)] : List Value).toArray s = true := hts _ (by decide +kernel)
  have hinX6 : ∀ w ∈ wsX60, w ∈ wsX6_laysPlans := by decide +kernel
  have f7 : (Cond.fieldLink RX6 7 "AskedRulesModel" "now" "[I").before ([.ref (qr 0)] : List Value).toArray s = true := hts _ (by decide +kernel)
  have hl := lv_entry ([.ref (qr 0)]) (n := 2) (Nat.le_of_ble_eq_true rfl)
  rw [lg_entry_eq]
  generalize (lg_sl ([.ref (qr 0)]) ++ List.replicate (2 - (lg_sl ([.ref (qr 0)])).length) Slot.unset).toArray = ls at hl ⊢
  have hl : lv_has ls 2 [(0, .ref (qr 0))] := hl
  have hP : va_P D vwCl (wR kA qr cc ac co ad rc nm st an svm cnt tx len th xf xt xs xa xw xc xk xp pt wr xm mny) s.heap := hP
  have hD : va_D A (wR kA qr cc ac co ad rc nm st an svm cnt tx len th xf xt xs xa xw xc xk xp pt wr xm mny) := hD
  have hpm9 := pmF_3125 hcc hac
  refine lv_aload_n hx hb dX6_laysPlans_0 rfl (lv_at hl 0 rfl) ?_
  refine n_get (ci := 6) (v := .ref (qr 11)) (C := RX6) (T := TX6) (N := 18) hx hb hts hinX6 hown hK hP 0 rfl rfl 13 rfl ⟨rfl, rfl, rfl⟩ f40 rfl dX6_laysPlans_1 ?_
  refine lv_iconst (v := (nI 0)) hx hb dX6_laysPlans_4 (by decide) ?_
  refine lv_iconst (v := (nI 1)) hx hb dX6_laysPlans_5 (by decide) ?_
  refine n_iast (i := 0) (x := (nI 1)) (g := aN (va_up xp 0 1)) (ws' := (wR kA qr cc ac co ad rc nm st an svm cnt tx len th xf xt xs xa xw xc xk (va_up xp 0 1) pt wr xm mny)) hx hb hK hP hD hS 11 0 rfl rfl (by omega) (Nat.le_of_ble_eq_true rfl) (aN_up _ _ _) rfl dX6_laysPlans_6 (fun H locs hP hD hS => ?_)
  refine lv_iconst (v := (nI 0)) hx hb dX6_laysPlans_7 (by decide) ?_
  refine lv_istore_n (lv' := [(1, .int (nI 0)), (0, .ref (qr 0))]) hx hb dX6_laysPlans_8 rfl hl (by decide) rfl (fun ls hl => ?_)
  have L9 : ∀ (nQ : Nat) (i : Nat) (xpx : Nat → Nat), cc - i < nQ → (i ≤ cc) → (∀ k, k ≤ i → xpx k = pmF ac k) → ∀ (H : Heap) (locs : List Loc), va_P D vwCl (wR kA qr cc ac co ad rc nm st an svm cnt tx len th xf xt xs xa xw xc xk xpx pt wr xm mny) H → va_D A (wR kA qr cc ac co ad rc nm st an svm cnt tx len th xf xt xs xa xw xc xk xpx pt wr xm mny) → va_S A s.heap H locs → ∀ (ls : Array Slot), lv_has ls 2 [(1, .int (nI i)), (0, .ref (qr 0))] → W pQ lQ eQ (headSpec wsX6_laysPlans (rmN 4 89)).room s mQ ([.ref (qr 0)] : List Value).toArray below meth cQ H locs 0 0 (MQ below (va_Qv (S := (Nat → Nat) × (Nat → Nat) × (Nat → Option Nat) × (Nat → Nat)) (fun (u : (Nat → Nat) × (Nat → Nat) × (Nat → Option Nat) × (Nat → Nat)) => plM cc ac co xa u.1 u.2.1 u.2.2.1 0 ∧ (∀ k, k ≤ cc → u.2.2.2 k = pmF ac k)) (wr_B D vwCl (wR kA qr cc ac co ad rc nm st an svm cnt tx len th xf xt xs xa xw xc xk xp pt wr xm mny) (tyK kA) s.heap.size (fun u => (wR kA qr cc ac co ad rc nm st an svm cnt tx len th xf xt xs xa u.1 u.2.1 u.2.2.1 u.2.2.2 pt wr xm mny))) A) ([.ref (qr 0)] : List Value).toArray s 0 0 A) (F0 mQ 9 ls []) := by
    intro nQ
    induction nQ with
    | zero => intro i xpx hn; exact absurd hn (Nat.not_lt_zero _)
    | succ nQ ih9 =>
      intro i xpx hm9 hi hxp9 H locs hP hD hS ls hl
      refine lv_iload_n hx hb dX6_laysPlans_9 rfl (lv_at hl 0 rfl) ?_
      refine lv_aload_n hx hb dX6_laysPlans_10 rfl (lv_at hl 1 rfl) ?_
      refine n_get (ci := 6) (v := .ref (qr 1)) (C := RX6) (T := TX6) (N := 18) hx hb hts hinX6 hown hK hP 0 rfl rfl 0 rfl ⟨rfl, rfl, rfl⟩ f7 rfl dX6_laysPlans_11 ?_
      refine lv_iconst (v := (nI 0)) hx hb dX6_laysPlans_14 (by decide) ?_
      refine n_iald (i := 0) (v := (nI cc)) hx hb hK hP 1 0 rfl rfl (by omega) (Nat.le_of_ble_eq_true rfl) rfl dX6_laysPlans_15 ?_
      refine n_icmp_ge (a := i) (b := cc) (tgt := 47) hx hb (by omega) (by omega) dX6_laysPlans_16 (by decide) (fun c16 => ?_) (fun c16 => ?_)
      · have e9 : cc = i := by omega
        have hpx := hxp9 cc (by omega)
        refine lv_aload_n hx hb dX6_laysPlans_47 rfl (lv_at hl 1 rfl) ?_
        refine n_get (ci := 6) (v := .ref (qr 11)) (C := RX6) (T := TX6) (N := 18) hx hb hts hinX6 hown hK hP 0 rfl rfl 13 rfl ⟨rfl, rfl, rfl⟩ f40 rfl dX6_laysPlans_48 ?_
        refine lv_aload_n hx hb dX6_laysPlans_51 rfl (lv_at hl 1 rfl) ?_
        refine n_get (ci := 6) (v := .ref (qr 1)) (C := RX6) (T := TX6) (N := 18) hx hb hts hinX6 hown hK hP 0 rfl rfl 0 rfl ⟨rfl, rfl, rfl⟩ f7 rfl dX6_laysPlans_52 ?_
        refine lv_iconst (v := (nI 0)) hx hb dX6_laysPlans_55 (by decide) ?_
        refine n_iald (i := 0) (v := (nI cc)) hx hb hK hP 1 0 rfl rfl (by omega) (Nat.le_of_ble_eq_true rfl) rfl dX6_laysPlans_56 ?_
        refine n_iald (i := cc) (v := (nI (xpx cc))) hx hb hK hP 11 0 rfl rfl (by omega) (Nat.le_of_ble_eq_true rfl) rfl dX6_laysPlans_57 ?_
        refine lv_iconst (v := (nI 1)) hx hb dX6_laysPlans_58 (by decide) ?_
        refine n_isub (v := (oI (dO (xpx cc)))) hx hb (oI_dO _) dX6_laysPlans_59 ?_
        refine lv_istore_n (lv' := [(1, .int (oI (dO (xpx cc)))), (0, .ref (qr 0))]) hx hb dX6_laysPlans_60 rfl hl (by decide) rfl (fun ls hl => ?_)
        have L61 : ∀ (nQ : Nat) (m9 : Nat) (xwx : Nat → Nat) (xcx : Nat → Nat) (xkx : Nat → Option Nat), m9 < nQ → (m9 ≤ pmF ac cc) → (plM cc ac co xa xwx xcx xkx m9) → ∀ (H : Heap) (locs : List Loc), va_P D vwCl (wR kA qr cc ac co ad rc nm st an svm cnt tx len th xf xt xs xa xwx xcx xkx xpx pt wr xm mny) H → va_D A (wR kA qr cc ac co ad rc nm st an svm cnt tx len th xf xt xs xa xwx xcx xkx xpx pt wr xm mny) → va_S A s.heap H locs → ∀ (ls : Array Slot), lv_has ls 2 [(1, .int (oI (dO m9))), (0, .ref (qr 0))] → W pQ lQ eQ (headSpec wsX6_laysPlans (rmN 4 89)).room s mQ ([.ref (qr 0)] : List Value).toArray below meth cQ H locs 0 0 (MQ below (va_Qv (S := (Nat → Nat) × (Nat → Nat) × (Nat → Option Nat) × (Nat → Nat)) (fun (u : (Nat → Nat) × (Nat → Nat) × (Nat → Option Nat) × (Nat → Nat)) => plM cc ac co xa u.1 u.2.1 u.2.2.1 0 ∧ (∀ k, k ≤ cc → u.2.2.2 k = pmF ac k)) (wr_B D vwCl (wR kA qr cc ac co ad rc nm st an svm cnt tx len th xf xt xs xa xw xc xk xp pt wr xm mny) (tyK kA) s.heap.size (fun u => (wR kA qr cc ac co ad rc nm st an svm cnt tx len th xf xt xs xa u.1 u.2.1 u.2.2.1 u.2.2.2 pt wr xm mny))) A) ([.ref (qr 0)] : List Value).toArray s 0 0 A) (F0 mQ 61 ls []) := by
          intro nQ
          induction nQ with
          | zero => intro m9 xwx xcx xkx hn; exact absurd hn (Nat.not_lt_zero _)
          | succ nQ ih61 =>
            intro m9 xwx xcx xkx hm61 hm hpl H locs hP hD hS ls hl
            refine lv_iload_n hx hb dX6_laysPlans_61 rfl (lv_at hl 0 rfl) ?_
            refine n_ifo_lt (o := dO m9) (tgt := 76) hx hb (fun q h => by have := dO_some h; omega) dX6_laysPlans_62 (by decide) (fun c62 => ?_) (fun q62 c62 => ?_)
            · have hl : lv_has ls 2 [(1, .int (oI none)), (0, .ref (qr 0))] := by rw [c62] at hl; exact hl
              have hmq := dO_none c62
              rw [hmq] at hpl
              exact n_wretv hx hb hr hlocks (post := fun (u : (Nat → Nat) × (Nat → Nat) × (Nat → Option Nat) × (Nat → Nat)) => plM cc ac co xa u.1 u.2.1 u.2.2.1 0 ∧ (∀ k, k ≤ cc → u.2.2.2 k = pmF ac k)) (w1 := fun u => (wR kA qr cc ac co ad rc nm st an svm cnt tx len th xf xt xs xa u.1 u.2.1 u.2.2.1 u.2.2.2 pt wr xm mny)) (xwx, xcx, xkx, xpx) ⟨hpl, (fun k hk => hxp9 k (by omega))⟩ hP hD hK hS hAe dX6_laysPlans_76
            · have hl : lv_has ls 2 [(1, .int (nI q62)), (0, .ref (qr 0))] := by rw [c62] at hl; exact hl
              have hmq := dO_some c62
              rw [hmq] at hpl
              refine lv_aload_n hx hb dX6_laysPlans_65 rfl (lv_at hl 1 rfl) ?_
              refine lv_iload_n hx hb dX6_laysPlans_66 rfl (lv_at hl 0 rfl) ?_
              refine n_wVv (b := qr 0) (As := [.int (nI q62)]) (rest := []) (wr := []) (ws' := fun u => (wR kA qr cc ac co ad rc nm st an svm cnt tx len th xf xt xs xa (va_up xwx q62 (cmM cc ac xa xwx q62)) (va_up xcx q62 (pcM cc ac co xcx q62 (cmM cc ac xa xwx q62)).1) (va_up xkx q62 (pcM cc ac co xcx q62 (cmM cc ac xa xwx q62)).2) xpx pt wr xm mny)) hS0 (c_X6_plans lQ D kA qr cc ac co ad rc nm st an svm cnt tx len th xf xt xs xa xwx xcx xkx xpx pt wr xm mny q62 H.size (by first | assumption | omega) (by first | assumption | omega) (by first | assumption | omega) (fun k hk => hxp9 k (by omega)) (by first | assumption | omega) (by first | assumption | omega) (fun y h1 h2 => (hpl y (by omega) h2).2.2.2.1) (fun y h1 h2 => (hpl y (by omega) h2).2.2.2.2)) (cwV 1 hts gX6_laysPlans_X6_plans rfl rfl rfl (by decide +kernel) ⟨Nat.le_of_ble_eq_true rfl, Nat.le_of_ble_eq_true rfl⟩) hP hD hS hA hK hK (by simpa only [List.append_assoc, List.append_nil] using (List.Perm.of_eq (List.append_nil _).symm)) (fun u => List.Perm.symm (by simpa only [List.append_assoc, List.append_nil] using (List.Perm.of_eq (List.append_nil _).symm))) (q0 := 0) rfl rfl rfl rfl rfl hl.1 (Nat.le_of_ble_eq_true rfl) dX6_laysPlans_67 ⟨Nat.le_refl _, Nat.le_refl _⟩ (fun u67 H locs h67 hP hD hS => ?_)
              have hP : va_P D vwCl (wR kA qr cc ac co ad rc nm st an svm cnt tx len th xf xt xs xa (va_up xwx q62 (cmM cc ac xa xwx q62)) (va_up xcx q62 (pcM cc ac co xcx q62 (cmM cc ac xa xwx q62)).1) (va_up xkx q62 (pcM cc ac co xcx q62 (cmM cc ac xa xwx q62)).2) xpx pt wr xm mny) H := hP
              have hD : va_D A (wR kA qr cc ac co ad rc nm st an svm cnt tx len th xf xt xs xa (va_up xwx q62 (cmM cc ac xa xwx q62)) (va_up xcx q62 (pcM cc ac co xcx q62 (cmM cc ac xa xwx q62)).1) (va_up xkx q62 (pcM cc ac co xcx q62 (cmM cc ac xa xwx q62)).2) xpx pt wr xm mny) := hD
              refine lv_iinc (v := (oI (dO q62))) (lv' := [(1, .int (oI (dO q62))), (0, .ref (qr 0))]) hx hb dX6_laysPlans_70 hl (k := 0) rfl (nI_dec _) (by decide) rfl (fun ls hl => ?_)
              refine lv_goto (tgt := 61) hx hb dX6_laysPlans_73 (by decide) ?_
              exact ih61 q62 (va_up xwx q62 (cmM cc ac xa xwx q62)) (va_up xcx q62 (pcM cc ac co xcx q62 (cmM cc ac xa xwx q62)).1) (va_up xkx q62 (pcM cc ac co xcx q62 (cmM cc ac xa xwx q62)).2) (by omega) (by first | assumption | omega) (plM_step hac hpl (cmM_lt hac (by omega) hxa (fun y h1 h2 => (hpl y (by omega) h2).2.2.2.1)) (pcM_le hco (by omega) (fun y h1 h2 => (hpl y (by omega) h2).2.2.2.2))) _ _ hP hD hS _ (lv_sub hl [0, 1] rfl)
        exact L61 (((xpx cc)) + 1) (xpx cc) xw xc xk (Nat.lt_succ_self _) (by rw [hpx]; exact Nat.le_refl _) (fun y h1 h2 => absurd h2 (by omega)) _ _ hP hD hS _ (lv_sub hl [0, 1] rfl)
      · refine lv_aload_n hx hb dX6_laysPlans_19 rfl (lv_at hl 1 rfl) ?_
        refine n_get (ci := 6) (v := .ref (qr 11)) (C := RX6) (T := TX6) (N := 18) hx hb hts hinX6 hown hK hP 0 rfl rfl 13 rfl ⟨rfl, rfl, rfl⟩ f40 rfl dX6_laysPlans_20 ?_
        refine lv_iload_n hx hb dX6_laysPlans_23 rfl (lv_at hl 0 rfl) ?_
        refine lv_iconst (v := (nI 1)) hx hb dX6_laysPlans_24 (by decide) ?_
        refine n_iadd (v := (nI (i + 1))) hx hb (nI_add _ _) dX6_laysPlans_25 ?_
        refine lv_aload_n hx hb dX6_laysPlans_26 rfl (lv_at hl 1 rfl) ?_
        refine n_get (ci := 6) (v := .ref (qr 11)) (C := RX6) (T := TX6) (N := 18) hx hb hts hinX6 hown hK hP 0 rfl rfl 13 rfl ⟨rfl, rfl, rfl⟩ f40 rfl dX6_laysPlans_27 ?_
        refine lv_iload_n hx hb dX6_laysPlans_30 rfl (lv_at hl 0 rfl) ?_
        refine n_iald (i := i) (v := (nI (xpx i))) hx hb hK hP 11 0 rfl rfl (by omega) (Nat.le_of_ble_eq_true rfl) rfl dX6_laysPlans_31 ?_
        refine lv_aload_n hx hb dX6_laysPlans_32 rfl (lv_at hl 1 rfl) ?_
        refine lv_iload_n hx hb dX6_laysPlans_33 rfl (lv_at hl 0 rfl) ?_
        refine n_cV (b := qr 0) (As := [.int (nI i)]) (rest := [.int (nI (xpx i)), .int (nI (i + 1)), .ref (qr 11)]) (wc := (wR kA qr cc ac co ad rc nm st an svm cnt tx len th xf xt xs xa xw xc xk xpx pt wr xm mny)) hS0 (c_X6_answersOf lQ D kA qr cc ac co ad rc nm st an svm cnt tx len th xf xt xs xa xw xc xk xpx pt wr xm mny i (by first | assumption | omega)) (cwV 1 hts gX6_laysPlans_X6_answersOf rfl rfl rfl (by decide +kernel) ⟨Nat.le_of_ble_eq_true rfl, Nat.le_of_ble_eq_true rfl⟩) hP hK (q0 := 0) rfl rfl rfl rfl rfl hl.1 (Nat.le_of_ble_eq_true rfl) dX6_laysPlans_34 ⟨Nat.le_refl _, Nat.le_refl _⟩ (fun r34 h34 => ?_)
        subst h34
        refine lv_iconst (v := (nI 1)) hx hb dX6_laysPlans_37 (by decide) ?_
        refine n_iadd (v := (nI (ac i + 1))) hx hb (nI_add _ _) dX6_laysPlans_38 ?_
        refine n_imul (v := (nI ((xpx i) * (ac i + 1)))) hx hb (pk_mul _ _) dX6_laysPlans_39 ?_
        refine n_iast (i := i + 1) (x := (nI ((xpx i) * (ac i + 1)))) (g := aN (va_up xpx (i + 1) ((xpx i) * (ac i + 1)))) (ws' := (wR kA qr cc ac co ad rc nm st an svm cnt tx len th xf xt xs xa xw xc xk (va_up xpx (i + 1) ((xpx i) * (ac i + 1))) pt wr xm mny)) hx hb hK hP hD hS 11 0 rfl rfl (by omega) (Nat.le_of_ble_eq_true rfl) (aN_up _ _ _) rfl dX6_laysPlans_40 (fun H locs hP hD hS => ?_)
        refine lv_iinc (v := (nI (i + 1))) (lv' := [(1, .int (nI (i + 1))), (0, .ref (qr 0))]) hx hb dX6_laysPlans_41 hl (k := 0) rfl (nI_inc _) (by decide) rfl (fun ls hl => ?_)
        refine lv_goto (tgt := 9) hx hb dX6_laysPlans_44 (by decide) ?_
        exact ih9 (i + 1) (va_up xpx (i + 1) ((xpx i) * (ac i + 1))) (by omega) (by first | assumption | omega) (fun k hk => by by_cases e : k = i + 1; (subst e; rw [up_s, hxp9 i (Nat.le_refl _)]; rfl); rw [up_n _ _ e]; exact hxp9 k (by omega)) _ _ hP hD hS _ (lv_sub hl [0, 1] rfl)
  exact L9 ((cc - 0) + 1) 0 (va_up xp 0 1) (Nat.lt_succ_self _) (by first | assumption | omega) (fun k hk => by rw [show k = 0 by omega, up_s]; rfl) _ _ hP hD hS _ (lv_sub hl [0, 1] rfl)

set_option maxHeartbeats 4000000 in
set_option maxRecDepth 100000 in
theorem c_X6_isKnown (lQ : Launch) (D : va_G) (kA : Nat → ClassId) (qr : Nat → Nat) (cc : Nat) (ac : Nat → Nat) (co : Nat → Nat) (ad : Nat) (rc : Nat) (nm : Nat → Nat) (st : Nat → Nat) (an : Nat → Nat) (svm : Nat → TCt) (cnt : Nat) (tx : Nat → Nat) (len : Nat) (th : Nat) (xf : Nat → Option Nat) (xt : Nat → Nat) (xs : Nat → Option Nat) (xa : Nat → Nat) (xw : Nat → Nat) (xc : Nat → Nat) (xk : Nat → Option Nat) (xp : Nat → Nat) (pt : Nat) (wr : Option Nat) (xm : Nat → Nat) (mny : Nat) (x : Int32) (hcc : cc ≤ 5) (hac : ∀ k, k < cc → 2 ≤ ac k ∧ ac k ≤ 4) : Met lQ yX6_isKnown wsX6_isKnown (rmN 1 21) (rd_Pc D vwCl [.ref (qr 0), .int x] (wR kA qr cc ac co ad rc nm st an svm cnt tx len th xf xt xs xa xw xc xk xp pt wr xm mny) (tyK kA)) (vp_Si (fun r : Int32 => r = (bI ((staF x cc ac).isSome)))) 0 0 (fun _ => False) := by
  refine Met.ofW (cc := cX6_isKnown) (maxL := 4) (ret := (some .boolean)) (by decide) rfl ?_
  intro pQ eQ s mQ args below meth cQ s₁ B hml hv
  obtain ⟨rfl, hP, hK⟩ := hv
  have hx := B.exec
  have hb := B.bytes
  have hr := B.returns
  have hts := atoms_spec (ws := wsX6_isKnown) B.pre
  have hown : s.vm.findClass RX6 = some mQ.cls := findClass_of_methodNamed B.named
  have hlocks : meth.locks = false := B.notSynchronized
  have hS0 : CallFix pQ mQ cQ cX6_isKnown 4 s ([.ref (qr 0), .int x] : List Value).toArray wsX6_isKnown RX6 := ⟨hx, hb, hml, hown, hts⟩
  have f7 : (Cond.fieldLink RX6 7 "AskedRulesModel" "now" "[I").before ([.ref (qr 0), .int x] : List Value).toArray s = true := hts _ (by decide +kernel)
  have hinX6 : ∀ w ∈ wsX60, w ∈ wsX6_isKnown := by decide +kernel
  have hl := lv_entry ([.ref (qr 0), .int x]) (n := 4) (Nat.le_of_ble_eq_true rfl)
  rw [lg_entry_eq]
  generalize (lg_sl ([.ref (qr 0), .int x]) ++ List.replicate (4 - (lg_sl ([.ref (qr 0), .int x])).length) Slot.unset).toArray = ls at hl ⊢
  have hl : lv_has ls 4 [(0, .ref (qr 0)), (1, .int x)] := hl
  have hP : va_P D vwCl (wR kA qr cc ac co ad rc nm st an svm cnt tx len th xf xt xs xa xw xc xk xp pt wr xm mny) s.heap := hP
  refine lv_iload_n hx hb dX6_isKnown_0 rfl (lv_at hl 1 rfl) ?_
  refine lv_if_lt (tgt := 17) hx hb dX6_isKnown_1 (by decide) (fun c1 => ?_) (fun c1 => ?_)
  · refine lv_iconst (v := (nI 0)) hx hb dX6_isKnown_17 (by decide) ?_
    exact n_retz hx hb hr hlocks (post := fun r : Int32 => r = (bI ((staF x cc ac).isSome))) rfl (by unfold staF; first | (rw [if_pos c1]; rfl) | (rw [if_neg c1]; unfold staN; rw [if_neg (fun h => by have h8 : 0 < x.toNatClampNeg >>> (4 * cc) := c14; omega)]; rfl)) rfl dX6_isKnown_18
  · obtain ⟨hx1, hx2⟩ := ng_c c1
    have hl : lv_has ls 4 [(0, .ref (qr 0)), (1, .int (nI x.toNatClampNeg))] := by rw [← hx1]; exact hl
    refine lv_iload_n hx hb dX6_isKnown_4 rfl (lv_at hl 1 rfl) ?_
    refine lv_iconst (v := (nI 4)) hx hb dX6_isKnown_5 (by decide) ?_
    refine lv_aload_n hx hb dX6_isKnown_6 rfl (lv_at hl 0 rfl) ?_
    refine n_get (ci := 6) (v := .ref (qr 1)) (C := RX6) (T := TX6) (N := 18) hx hb hts hinX6 hown hK hP 0 rfl rfl 0 rfl ⟨rfl, rfl, rfl⟩ f7 rfl dX6_isKnown_7 ?_
    refine lv_iconst (v := (nI 0)) hx hb dX6_isKnown_10 (by decide) ?_
    refine n_iald (i := 0) (v := (nI cc)) hx hb hK hP 1 0 rfl rfl (by omega) (Nat.le_of_ble_eq_true rfl) rfl dX6_isKnown_11 ?_
    refine n_imul (v := (nI (4 * cc))) hx hb (pk_mul _ _) dX6_isKnown_12 ?_
    refine n_ishr (v := (nI (x.toNatClampNeg >>> (4 * cc)))) hx hb (nN_shr (by omega) (by omega)) dX6_isKnown_13 ?_
    refine n_if_eq (a := x.toNatClampNeg >>> (4 * cc)) (tgt := 19) hx hb (Nat.lt_of_le_of_lt (shr_le _ _) hx2) dX6_isKnown_14 (by decide) (fun c14 => ?_) (fun c14 => ?_)
    · refine lv_iconst (v := (nI 1)) hx hb dX6_isKnown_19 (by decide) ?_
      refine lv_istore_n (lv' := [(2, .int (nI 1)), (0, .ref (qr 0)), (1, .int (nI x.toNatClampNeg))]) hx hb dX6_isKnown_20 rfl hl (by decide) rfl (fun ls hl => ?_)
      refine lv_iconst (v := (nI 0)) hx hb dX6_isKnown_21 (by decide) ?_
      refine lv_istore_n (lv' := [(3, .int (nI 0)), (2, .int (nI 1)), (0, .ref (qr 0)), (1, .int (nI x.toNatClampNeg))]) hx hb dX6_isKnown_22 rfl hl (by decide) rfl (fun ls hl => ?_)
      have L23 : ∀ (nQ : Nat) (i : Nat) (b : Bool), cc - i < nQ → (i ≤ cc) → (b = allB (fun k => decide (nibN x.toNatClampNeg k ≤ ac k)) i) → ∀ (ls : Array Slot), lv_has ls 4 [(3, .int (nI i)), (2, .int (bI b)), (0, .ref (qr 0)), (1, .int (nI x.toNatClampNeg))] → W pQ lQ eQ (headSpec wsX6_isKnown (rmN 1 21)).room s mQ ([.ref (qr 0), .int x] : List Value).toArray below meth cQ s.heap [] 0 0 (MQ below (vp_Si (fun r : Int32 => r = (bI ((staF x cc ac).isSome)))) ([.ref (qr 0), .int x] : List Value).toArray s 0 0 (fun _ => False)) (F0 mQ 23 ls []) := by
        intro nQ
        induction nQ with
        | zero => intro i b hn; exact absurd hn (Nat.not_lt_zero _)
        | succ nQ ih23 =>
          intro i b hm23 hi hb9 ls hl
          refine lv_iload_n hx hb dX6_isKnown_23 rfl (lv_at hl 0 rfl) ?_
          refine lv_aload_n hx hb dX6_isKnown_24 rfl (lv_at hl 2 rfl) ?_
          refine n_get (ci := 6) (v := .ref (qr 1)) (C := RX6) (T := TX6) (N := 18) hx hb hts hinX6 hown hK hP 0 rfl rfl 0 rfl ⟨rfl, rfl, rfl⟩ f7 rfl dX6_isKnown_25 ?_
          refine lv_iconst (v := (nI 0)) hx hb dX6_isKnown_28 (by decide) ?_
          refine n_iald (i := 0) (v := (nI cc)) hx hb hK hP 1 0 rfl rfl (by omega) (Nat.le_of_ble_eq_true rfl) rfl dX6_isKnown_29 ?_
          refine n_icmp_ge (a := i) (b := cc) (tgt := 65) hx hb (by omega) (by omega) dX6_isKnown_30 (by decide) (fun c30 => ?_) (fun c30 => ?_)
          · refine lv_iload_n hx hb dX6_isKnown_65 rfl (lv_at hl 1 rfl) ?_
            exact n_retz hx hb hr hlocks (post := fun r : Int32 => r = (bI ((staF x cc ac).isSome))) (narrow_bI _) (by unfold staF; rw [if_neg c1]; unfold staN; rw [hb9, show i = cc by omega]; by_cases e : allB (fun k => decide (nibN x.toNatClampNeg k ≤ ac k)) cc = true; (rw [if_pos ⟨c14, e⟩, e]; rfl); rw [if_neg (fun h => e h.2), show allB (fun k => decide (nibN x.toNatClampNeg k ≤ ac k)) cc = false by simpa using e]; rfl) rfl dX6_isKnown_66
          · refine lv_iload_n hx hb dX6_isKnown_33 rfl (lv_at hl 1 rfl) ?_
            refine n_ifb_eq (b := b) (tgt := 57) hx hb dX6_isKnown_34 (by decide) (fun c34 => ?_) (fun c34 => ?_)
            · refine lv_iconst (v := (nI 0)) hx hb dX6_isKnown_57 (by decide) ?_
              refine lv_istore_n (lv' := [(2, .int (nI 0)), (3, .int (nI i)), (0, .ref (qr 0)), (1, .int (nI x.toNatClampNeg))]) hx hb dX6_isKnown_58 rfl hl (by decide) rfl (fun ls hl => ?_)
              refine lv_iinc (v := (nI (i + 1))) (lv' := [(3, .int (nI (i + 1))), (2, .int (nI 0)), (0, .ref (qr 0)), (1, .int (nI x.toNatClampNeg))]) hx hb dX6_isKnown_59 hl (k := 1) rfl (nI_inc _) (by decide) rfl (fun ls hl => ?_)
              refine lv_goto (tgt := 23) hx hb dX6_isKnown_62 (by decide) ?_
              exact ih23 (i + 1) false (by omega) (by first | assumption | omega) (by show _ = (allB (fun k => decide (nibN x.toNatClampNeg k ≤ ac k)) i && decide (nibN x.toNatClampNeg i ≤ ac i)); rw [← hb9]; first | (rw [c34]; rfl) | (rw [c34, decide_eq_true (p := nibN x.toNatClampNeg i ≤ ac i) c50]; rfl) | (rw [c34, decide_eq_false (p := nibN x.toNatClampNeg i ≤ ac i) (by have h8 : ac i < nibN x.toNatClampNeg i := c50; omega)]; rfl)) _ (lv_sub hl [0, 1, 2, 3] rfl)
            · refine lv_iload_n hx hb dX6_isKnown_37 rfl (lv_at hl 3 rfl) ?_
              refine lv_iconst (v := (nI 4)) hx hb dX6_isKnown_38 (by decide) ?_
              refine lv_iload_n hx hb dX6_isKnown_39 rfl (lv_at hl 0 rfl) ?_
              refine n_imul (v := (nI (4 * i))) hx hb (pk_mul _ _) dX6_isKnown_40 ?_
              refine n_ishr (v := (nI (x.toNatClampNeg >>> (4 * i)))) hx hb (nN_shr (by omega) (by omega)) dX6_isKnown_41 ?_
              refine lv_bipush (v := (nI 15)) hx hb dX6_isKnown_42 (by decide) ?_
              refine n_iand (v := (nI ((x.toNatClampNeg >>> (4 * i)) &&& 15))) hx hb (nN_and _ _) dX6_isKnown_44 ?_
              refine lv_aload_n hx hb dX6_isKnown_45 rfl (lv_at hl 2 rfl) ?_
              refine lv_iload_n hx hb dX6_isKnown_46 rfl (lv_at hl 0 rfl) ?_
              refine n_cV (b := qr 0) (As := [.int (nI i)]) (rest := [.int (nI ((x.toNatClampNeg >>> (4 * i)) &&& 15))]) (wc := (wR kA qr cc ac co ad rc nm st an svm cnt tx len th xf xt xs xa xw xc xk xp pt wr xm mny)) hS0 (c_X6_answersOf lQ D kA qr cc ac co ad rc nm st an svm cnt tx len th xf xt xs xa xw xc xk xp pt wr xm mny i (by first | assumption | omega)) (cwV 1 hts gX6_isKnown_X6_answersOf rfl rfl rfl (by decide +kernel) ⟨Nat.le_of_ble_eq_true rfl, Nat.le_of_ble_eq_true rfl⟩) hP hK (q0 := 0) rfl rfl rfl rfl rfl hl.1 (Nat.le_of_ble_eq_true rfl) dX6_isKnown_47 ⟨Nat.le_refl _, Nat.le_refl _⟩ (fun r47 h47 => ?_)
              subst h47
              refine n_icmp_gt (a := (x.toNatClampNeg >>> (4 * i)) &&& 15) (b := ac i) (tgt := 57) hx hb (Nat.lt_trans (nibN_lt _ _) (by decide)) (by have := (hac i (by omega)).2; omega) dX6_isKnown_50 (by decide) (fun c50 => ?_) (fun c50 => ?_)
              · refine lv_iconst (v := (nI 0)) hx hb dX6_isKnown_57 (by decide) ?_
                refine lv_istore_n (lv' := [(2, .int (nI 0)), (3, .int (nI i)), (0, .ref (qr 0)), (1, .int (nI x.toNatClampNeg))]) hx hb dX6_isKnown_58 rfl hl (by decide) rfl (fun ls hl => ?_)
                refine lv_iinc (v := (nI (i + 1))) (lv' := [(3, .int (nI (i + 1))), (2, .int (nI 0)), (0, .ref (qr 0)), (1, .int (nI x.toNatClampNeg))]) hx hb dX6_isKnown_59 hl (k := 1) rfl (nI_inc _) (by decide) rfl (fun ls hl => ?_)
                refine lv_goto (tgt := 23) hx hb dX6_isKnown_62 (by decide) ?_
                exact ih23 (i + 1) false (by omega) (by first | assumption | omega) (by show _ = (allB (fun k => decide (nibN x.toNatClampNeg k ≤ ac k)) i && decide (nibN x.toNatClampNeg i ≤ ac i)); rw [← hb9]; first | (rw [c34]; rfl) | (rw [c34, decide_eq_true (p := nibN x.toNatClampNeg i ≤ ac i) c50]; rfl) | (rw [c34, decide_eq_false (p := nibN x.toNatClampNeg i ≤ ac i) (by have h8 : ac i < nibN x.toNatClampNeg i := c50; omega)]; rfl)) _ (lv_sub hl [0, 1, 2, 3] rfl)
              · refine lv_iconst (v := (nI 1)) hx hb dX6_isKnown_53 (by decide) ?_
                refine lv_goto (tgt := 58) hx hb dX6_isKnown_54 (by decide) ?_
                refine lv_istore_n (lv' := [(2, .int (nI 1)), (3, .int (nI i)), (0, .ref (qr 0)), (1, .int (nI x.toNatClampNeg))]) hx hb dX6_isKnown_58 rfl hl (by decide) rfl (fun ls hl => ?_)
                refine lv_iinc (v := (nI (i + 1))) (lv' := [(3, .int (nI (i + 1))), (2, .int (nI 1)), (0, .ref (qr 0)), (1, .int (nI x.toNatClampNeg))]) hx hb dX6_isKnown_59 hl (k := 1) rfl (nI_inc _) (by decide) rfl (fun ls hl => ?_)
                refine lv_goto (tgt := 23) hx hb dX6_isKnown_62 (by decide) ?_
                exact ih23 (i + 1) true (by omega) (by first | assumption | omega) (by show _ = (allB (fun k => decide (nibN x.toNatClampNeg k ≤ ac k)) i && decide (nibN x.toNatClampNeg i ≤ ac i)); rw [← hb9]; first | (rw [c34]; rfl) | (rw [c34, decide_eq_true (p := nibN x.toNatClampNeg i ≤ ac i) c50]; rfl) | (rw [c34, decide_eq_false (p := nibN x.toNatClampNeg i ≤ ac i) (by have h8 : ac i < nibN x.toNatClampNeg i := c50; omega)]; rfl)) _ (lv_sub hl [0, 1, 2, 3] rfl)
      exact L23 ((cc - 0) + 1) 0 true (Nat.lt_succ_self _) (by first | assumption | omega) rfl _ (lv_sub hl [0, 1, 2, 3] rfl)
    · refine lv_iconst (v := (nI 0)) hx hb dX6_isKnown_17 (by decide) ?_
      exact n_retz hx hb hr hlocks (post := fun r : Int32 => r = (bI ((staF x cc ac).isSome))) rfl (by unfold staF; first | (rw [if_pos c1]; rfl) | (rw [if_neg c1]; unfold staN; rw [if_neg (fun h => by have h8 : 0 < x.toNatClampNeg >>> (4 * cc) := c14; omega)]; rfl)) rfl dX6_isKnown_18

set_option maxHeartbeats 4000000 in
set_option maxRecDepth 100000 in
theorem c_X6_codeOf (lQ : Launch) (D : va_G) (kA : Nat → ClassId) (qr : Nat → Nat) (cc : Nat) (ac : Nat → Nat) (co : Nat → Nat) (ad : Nat) (rc : Nat) (nm : Nat → Nat) (st : Nat → Nat) (an : Nat → Nat) (svm : Nat → TCt) (cnt : Nat) (tx : Nat → Nat) (len : Nat) (th : Nat) (xf : Nat → Option Nat) (xt : Nat → Nat) (xs : Nat → Option Nat) (xa : Nat → Nat) (xw : Nat → Nat) (xc : Nat → Nat) (xk : Nat → Option Nat) (xp : Nat → Nat) (pt : Nat) (wr : Option Nat) (xm : Nat → Nat) (mny : Nat) (x : Nat) (sz : Nat) (hcc : cc ≤ 5) (hac : ∀ k, k < cc → 2 ≤ ac k ∧ ac k ≤ 4) (hrc : rc ≤ 20) (han : ∀ j, j < rc → an j < 11) (hst : ∀ j, j < rc → st j < 1048576) (hco : ∀ k, k < cc → co k < 10) (hx2 : x < 2147483648) : Met lQ yX6_codeOf wsX6_codeOf (rmN 5 110) (wr_Pc D vwCl [.ref (qr 0), .int (nI x)] (wR kA qr cc ac co ad rc nm st an svm cnt tx len th xf xt xs xa xw xc xk xp pt wr xm mny) (tyK kA) sz) (va_Qi (S := (Nat → Option Nat) × (Nat → Nat) × (Nat → Option Nat) × (Nat → Nat) × (Nat → Nat) × (Nat → Nat) × (Nat → Option Nat) × (Nat → Nat)) (fun (r : Int32) (u : (Nat → Option Nat) × (Nat → Nat) × (Nat → Option Nat) × (Nat → Nat) × (Nat → Nat) × (Nat → Nat) × (Nat → Option Nat) × (Nat → Nat)) => r = (nI (sumF (fun k => nibN x k * pmF ac k) cc)) ∧ laid cc ac rc st an u.1 u.2.1 u.2.2.1 u.2.2.2.1 (prodF ac cc) ∧ plM cc ac co u.2.2.2.1 u.2.2.2.2.1 u.2.2.2.2.2.1 u.2.2.2.2.2.2.1 0 ∧ (∀ k, k ≤ cc → u.2.2.2.2.2.2.2 k = pmF ac k)) (wr_B D vwCl (wR kA qr cc ac co ad rc nm st an svm cnt tx len th xf xt xs xa xw xc xk xp pt wr xm mny) (tyK kA) sz (fun u => (wR kA qr cc ac co ad rc nm st an svm cnt tx len th u.1 u.2.1 u.2.2.1 u.2.2.2.1 u.2.2.2.2.1 u.2.2.2.2.2.1 u.2.2.2.2.2.2.1 u.2.2.2.2.2.2.2 pt wr xm mny))) (va_A (wR kA qr cc ac co ad rc nm st an svm cnt tx len th xf xt xs xa xw xc xk xp pt wr xm mny) sz)) 0 0 (va_A (wR kA qr cc ac co ad rc nm st an svm cnt tx len th xf xt xs xa xw xc xk xp pt wr xm mny) sz) := by
  refine Met.ofW (cc := cX6_codeOf) (maxL := 4) (ret := (some .int)) (by decide) rfl ?_
  intro pQ eQ s mQ args below meth cQ s₁ B hml hv
  obtain ⟨rfl, hsz, hP, hK, hD0⟩ := hv
  have hx := B.exec
  have hb := B.bytes
  have hr := B.returns
  have hts := atoms_spec (ws := wsX6_codeOf) B.pre
  have hown : s.vm.findClass RX6 = some mQ.cls := findClass_of_methodNamed B.named
  have hlocks : meth.locks = false := B.notSynchronized
  have hS0 : CallFix pQ mQ cQ cX6_codeOf 4 s ([.ref (qr 0), .int (nI x)] : List Value).toArray wsX6_codeOf RX6 := ⟨hx, hb, hml, hown, hts⟩
  subst hsz
  have hD := hD0.self (sz := s.heap.size)
  generalize hAe : va_A (wR kA qr cc ac co ad rc nm st an svm cnt tx len th xf xt xs xa xw xc xk xp pt wr xm mny) s.heap.size = A at hD ⊢
  have hA : ∀ q : Nat, s.heap.size ≤ q → A q := fun q h => by rw [← hAe]; exact Or.inr h
  have hS : va_S A s.heap s.heap [] := va_S.rf
  have f7 : (Cond.fieldLink RX6 7 "AskedRulesModel" "now" "[I").before ([.ref (qr 0), .int (nI x)] : List Value).toArray s = true := hts _ (by decide +kernel)
  have hinX6 : ∀ w ∈ wsX60, w ∈ wsX6_codeOf := by decide +kernel
  have f40 : (Cond.fieldLink RX6 40 "AskedRulesModel" "steps" "[I").before ([.ref (qr 0), .int (nI x)] : List Value).toArray s = true := hts _ (by decide +kernel)
  have hl := lv_entry ([.ref (qr 0), .int (nI x)]) (n := 4) (Nat.le_of_ble_eq_true rfl)
  rw [lg_entry_eq]
  generalize (lg_sl ([.ref (qr 0), .int (nI x)]) ++ List.replicate (4 - (lg_sl ([.ref (qr 0), .int (nI x)])).length) Slot.unset).toArray = ls at hl ⊢
  have hl : lv_has ls 4 [(0, .ref (qr 0)), (1, .int (nI x))] := hl
  have hP : va_P D vwCl (wR kA qr cc ac co ad rc nm st an svm cnt tx len th xf xt xs xa xw xc xk xp pt wr xm mny) s.heap := hP
  have hD : va_D A (wR kA qr cc ac co ad rc nm st an svm cnt tx len th xf xt xs xa xw xc xk xp pt wr xm mny) := hD
  refine lv_aload_n hx hb dX6_codeOf_0 rfl (lv_at hl 0 rfl) ?_
  refine lv_iconst (v := (oI none)) hx hb dX6_codeOf_1 (by decide) ?_
  refine n_wVv (b := qr 0) (As := [.int (oI none)]) (rest := []) (wr := []) (ws' := fun u => (wR kA qr cc ac co ad rc nm st an svm cnt tx len th u.1 u.2.1 u.2.2.1 u.2.2.2 xw xc xk xp pt wr xm mny)) hS0 (c_X6_lays lQ D kA qr cc ac co ad rc nm st an svm cnt tx len th xf xt xs xa xw xc xk xp pt wr xm mny s.heap.size (by first | assumption | omega) (by first | assumption | omega) (by first | assumption | omega) (by first | assumption | omega) (by first | assumption | omega)) (cwV 1 hts gX6_codeOf_X6_lays rfl rfl rfl (by decide +kernel) ⟨Nat.le_of_ble_eq_true rfl, Nat.le_of_ble_eq_true rfl⟩) hP hD hS hA hK hK (by simpa only [List.append_assoc, List.append_nil] using (List.Perm.of_eq (List.append_nil _).symm)) (fun u => List.Perm.symm (by simpa only [List.append_assoc, List.append_nil] using (List.Perm.of_eq (List.append_nil _).symm))) (q0 := 0) rfl rfl rfl rfl rfl hl.1 (Nat.le_of_ble_eq_true rfl) dX6_codeOf_2 ⟨Nat.le_refl _, Nat.le_refl _⟩ (fun u2 H locs h2 hP hD hS => ?_)
  obtain ⟨xf1_2, xt1_2, xs1_2, xa1_2⟩ := u2
  have h2_1 := h2
  try dsimp only at h2_1
  have hP : va_P D vwCl (wR kA qr cc ac co ad rc nm st an svm cnt tx len th xf1_2 xt1_2 xs1_2 xa1_2 xw xc xk xp pt wr xm mny) H := hP
  have hD : va_D A (wR kA qr cc ac co ad rc nm st an svm cnt tx len th xf1_2 xt1_2 xs1_2 xa1_2 xw xc xk xp pt wr xm mny) := hD
  have hxa9 : ∀ c, c < prodF ac cc → xa1_2 c < 11 := fun c hc => by rw [(h2_1 c hc).2.2.2]; exact actO_lt han
  refine lv_aload_n hx hb dX6_codeOf_5 rfl (lv_at hl 0 rfl) ?_
  refine n_wVv (b := qr 0) (As := []) (rest := []) (wr := []) (ws' := fun u => (wR kA qr cc ac co ad rc nm st an svm cnt tx len th xf1_2 xt1_2 xs1_2 xa1_2 u.1 u.2.1 u.2.2.1 u.2.2.2 pt wr xm mny)) hS0 (c_X6_laysPlans lQ D kA qr cc ac co ad rc nm st an svm cnt tx len th xf1_2 xt1_2 xs1_2 xa1_2 xw xc xk xp pt wr xm mny H.size (by first | assumption | omega) (by first | assumption | omega) (by first | assumption | omega) hxa9) (cwV 0 hts gX6_codeOf_X6_laysPlans rfl rfl rfl (by decide +kernel) ⟨Nat.le_of_ble_eq_true rfl, Nat.le_of_ble_eq_true rfl⟩) hP hD hS hA hK hK (by simpa only [List.append_assoc, List.append_nil] using (List.Perm.of_eq (List.append_nil _).symm)) (fun u => List.Perm.symm (by simpa only [List.append_assoc, List.append_nil] using (List.Perm.of_eq (List.append_nil _).symm))) (q0 := 0) rfl rfl rfl rfl rfl hl.1 (Nat.le_of_ble_eq_true rfl) dX6_codeOf_6 ⟨Nat.le_refl _, Nat.le_refl _⟩ (fun u6 H locs h6 hP hD hS => ?_)
  obtain ⟨xw1_6, xc1_6, xk1_6, xp1_6⟩ := u6
  obtain ⟨h6_1, h6_2⟩ := h6
  try dsimp only at h6_1 h6_2
  have hP : va_P D vwCl (wR kA qr cc ac co ad rc nm st an svm cnt tx len th xf1_2 xt1_2 xs1_2 xa1_2 xw1_6 xc1_6 xk1_6 xp1_6 pt wr xm mny) H := hP
  have hD : va_D A (wR kA qr cc ac co ad rc nm st an svm cnt tx len th xf1_2 xt1_2 xs1_2 xa1_2 xw1_6 xc1_6 xk1_6 xp1_6 pt wr xm mny) := hD
  refine lv_iconst (v := (nI 0)) hx hb dX6_codeOf_9 (by decide) ?_
  refine lv_istore_n (lv' := [(2, .int (nI 0)), (0, .ref (qr 0)), (1, .int (nI x))]) hx hb dX6_codeOf_10 rfl hl (by decide) rfl (fun ls hl => ?_)
  refine lv_iconst (v := (nI 0)) hx hb dX6_codeOf_11 (by decide) ?_
  refine lv_istore_n (lv' := [(3, .int (nI 0)), (2, .int (nI 0)), (0, .ref (qr 0)), (1, .int (nI x))]) hx hb dX6_codeOf_12 rfl hl (by decide) rfl (fun ls hl => ?_)
  have L13 : ∀ (nQ : Nat) (i : Nat) (u : Nat), cc - i < nQ → (i ≤ cc) → (u = sumF (fun k => nibN x k * pmF ac k) i) → ∀ (H : Heap) (locs : List Loc), va_P D vwCl (wR kA qr cc ac co ad rc nm st an svm cnt tx len th xf1_2 xt1_2 xs1_2 xa1_2 xw1_6 xc1_6 xk1_6 xp1_6 pt wr xm mny) H → va_D A (wR kA qr cc ac co ad rc nm st an svm cnt tx len th xf1_2 xt1_2 xs1_2 xa1_2 xw1_6 xc1_6 xk1_6 xp1_6 pt wr xm mny) → va_S A s.heap H locs → ∀ (ls : Array Slot), lv_has ls 4 [(3, .int (nI i)), (2, .int (nI u)), (0, .ref (qr 0)), (1, .int (nI x))] → W pQ lQ eQ (headSpec wsX6_codeOf (rmN 5 110)).room s mQ ([.ref (qr 0), .int (nI x)] : List Value).toArray below meth cQ H locs 0 0 (MQ below (va_Qi (S := (Nat → Option Nat) × (Nat → Nat) × (Nat → Option Nat) × (Nat → Nat) × (Nat → Nat) × (Nat → Nat) × (Nat → Option Nat) × (Nat → Nat)) (fun (r : Int32) (u : (Nat → Option Nat) × (Nat → Nat) × (Nat → Option Nat) × (Nat → Nat) × (Nat → Nat) × (Nat → Nat) × (Nat → Option Nat) × (Nat → Nat)) => r = (nI (sumF (fun k => nibN x k * pmF ac k) cc)) ∧ laid cc ac rc st an u.1 u.2.1 u.2.2.1 u.2.2.2.1 (prodF ac cc) ∧ plM cc ac co u.2.2.2.1 u.2.2.2.2.1 u.2.2.2.2.2.1 u.2.2.2.2.2.2.1 0 ∧ (∀ k, k ≤ cc → u.2.2.2.2.2.2.2 k = pmF ac k)) (wr_B D vwCl (wR kA qr cc ac co ad rc nm st an svm cnt tx len th xf xt xs xa xw xc xk xp pt wr xm mny) (tyK kA) s.heap.size (fun u => (wR kA qr cc ac co ad rc nm st an svm cnt tx len th u.1 u.2.1 u.2.2.1 u.2.2.2.1 u.2.2.2.2.1 u.2.2.2.2.2.1 u.2.2.2.2.2.2.1 u.2.2.2.2.2.2.2 pt wr xm mny))) A) ([.ref (qr 0), .int (nI x)] : List Value).toArray s 0 0 A) (F0 mQ 13 ls []) := by
    intro nQ
    induction nQ with
    | zero => intro i u hn; exact absurd hn (Nat.not_lt_zero _)
    | succ nQ ih13 =>
      intro i u hm13 hi hu H locs hP hD hS ls hl
      refine lv_iload_n hx hb dX6_codeOf_13 rfl (lv_at hl 0 rfl) ?_
      refine lv_aload_n hx hb dX6_codeOf_14 rfl (lv_at hl 2 rfl) ?_
      refine n_get (ci := 6) (v := .ref (qr 1)) (C := RX6) (T := TX6) (N := 18) hx hb hts hinX6 hown hK hP 0 rfl rfl 0 rfl ⟨rfl, rfl, rfl⟩ f7 rfl dX6_codeOf_15 ?_
      refine lv_iconst (v := (nI 0)) hx hb dX6_codeOf_18 (by decide) ?_
      refine n_iald (i := 0) (v := (nI cc)) hx hb hK hP 1 0 rfl rfl (by omega) (Nat.le_of_ble_eq_true rfl) rfl dX6_codeOf_19 ?_
      refine n_icmp_ge (a := i) (b := cc) (tgt := 47) hx hb (by omega) (by omega) dX6_codeOf_20 (by decide) (fun c20 => ?_) (fun c20 => ?_)
      · refine lv_iload_n hx hb dX6_codeOf_47 rfl (lv_at hl 1 rfl) ?_
        have e9 : cc = i := by omega
        exact n_wreti hx hb hr hlocks (post := fun (r : Int32) (u : (Nat → Option Nat) × (Nat → Nat) × (Nat → Option Nat) × (Nat → Nat) × (Nat → Nat) × (Nat → Nat) × (Nat → Option Nat) × (Nat → Nat)) => r = (nI (sumF (fun k => nibN x k * pmF ac k) cc)) ∧ laid cc ac rc st an u.1 u.2.1 u.2.2.1 u.2.2.2.1 (prodF ac cc) ∧ plM cc ac co u.2.2.2.1 u.2.2.2.2.1 u.2.2.2.2.2.1 u.2.2.2.2.2.2.1 0 ∧ (∀ k, k ≤ cc → u.2.2.2.2.2.2.2 k = pmF ac k)) (w1 := fun u => (wR kA qr cc ac co ad rc nm st an svm cnt tx len th u.1 u.2.1 u.2.2.1 u.2.2.2.1 u.2.2.2.2.1 u.2.2.2.2.2.1 u.2.2.2.2.2.2.1 u.2.2.2.2.2.2.2 pt wr xm mny)) (xf1_2, xt1_2, xs1_2, xa1_2, xw1_6, xc1_6, xk1_6, xp1_6) ⟨(by rw [hu, e9]), h2_1, h6_1, h6_2⟩ hP hD hK hS hAe dX6_codeOf_48
      · refine lv_iload_n hx hb dX6_codeOf_23 rfl (lv_at hl 1 rfl) ?_
        refine lv_iload_n hx hb dX6_codeOf_24 rfl (lv_at hl 3 rfl) ?_
        refine lv_iconst (v := (nI 4)) hx hb dX6_codeOf_25 (by decide) ?_
        refine lv_iload_n hx hb dX6_codeOf_26 rfl (lv_at hl 0 rfl) ?_
        refine n_imul (v := (nI (4 * i))) hx hb (pk_mul _ _) dX6_codeOf_27 ?_
        refine n_ishr (v := (nI (x >>> (4 * i)))) hx hb (nN_shr (by omega) (by omega)) dX6_codeOf_28 ?_
        refine lv_bipush (v := (nI 15)) hx hb dX6_codeOf_29 (by decide) ?_
        refine n_iand (v := (nI ((x >>> (4 * i)) &&& 15))) hx hb (nN_and _ _) dX6_codeOf_31 ?_
        refine lv_aload_n hx hb dX6_codeOf_32 rfl (lv_at hl 2 rfl) ?_
        refine n_get (ci := 6) (v := .ref (qr 11)) (C := RX6) (T := TX6) (N := 18) hx hb hts hinX6 hown hK hP 0 rfl rfl 13 rfl ⟨rfl, rfl, rfl⟩ f40 rfl dX6_codeOf_33 ?_
        refine lv_iload_n hx hb dX6_codeOf_36 rfl (lv_at hl 0 rfl) ?_
        refine n_iald (i := i) (v := (nI (xp1_6 i))) hx hb hK hP 11 0 rfl rfl (by omega) (Nat.le_of_ble_eq_true rfl) rfl dX6_codeOf_37 ?_
        refine n_imul (v := (nI (((x >>> (4 * i)) &&& 15) * (xp1_6 i)))) hx hb (pk_mul _ _) dX6_codeOf_38 ?_
        refine n_iadd (v := (nI (u + (((x >>> (4 * i)) &&& 15) * (xp1_6 i))))) hx hb (nI_add _ _) dX6_codeOf_39 ?_
        refine lv_istore_n (lv' := [(2, .int (nI (u + (((x >>> (4 * i)) &&& 15) * (xp1_6 i))))), (3, .int (nI i)), (0, .ref (qr 0)), (1, .int (nI x))]) hx hb dX6_codeOf_40 rfl hl (by decide) rfl (fun ls hl => ?_)
        refine lv_iinc (v := (nI (i + 1))) (lv' := [(3, .int (nI (i + 1))), (2, .int (nI (u + (((x >>> (4 * i)) &&& 15) * (xp1_6 i))))), (0, .ref (qr 0)), (1, .int (nI x))]) hx hb dX6_codeOf_41 hl (k := 1) rfl (nI_inc _) (by decide) rfl (fun ls hl => ?_)
        refine lv_goto (tgt := 13) hx hb dX6_codeOf_44 (by decide) ?_
        exact ih13 (i + 1) (u + (((x >>> (4 * i)) &&& 15) * (xp1_6 i))) (by omega) (by first | assumption | omega) (by rw [hu, h6_2 i (by omega)]; rfl) _ _ hP hD hS _ (lv_sub hl [0, 1, 2, 3] rfl)
  exact L13 ((cc - 0) + 1) 0 0 (Nat.lt_succ_self _) (by first | assumption | omega) rfl _ _ hP hD hS _ (lv_sub hl [0, 1, 2, 3] rfl)

