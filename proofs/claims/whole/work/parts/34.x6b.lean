
/-! ===== what is laid of the cases ===== -/
def laid (cc : Nat) (ac : Nat → Nat) (rc : Nat) (st an : Nat → Nat) (xf : Nat → Option Nat) (xt : Nat → Nat) (xs : Nat → Option Nat) (xa : Nat → Nat) (n : Nat) : Prop := ∀ c, c < n → xf c = firstF (tlW st (bitC ac c cc)) rc ∧ xt c = cntB (tlW st (bitC ac c cc)) rc ∧ xs c = secF (tlW st (bitC ac c cc)) rc ∧ xa c = axN cc ac rc st an c
def kInv (f : Nat → Bool) (c : Nat) (xf : Nat → Option Nat) (xt : Nat → Nat) (xs : Nat → Option Nat) (p : Nat) (xf1 : Nat → Option Nat) (xt1 : Nat → Nat) (xs1 : Nat → Option Nat) : Prop := xf1 = va_up xf c (firstF f p) ∧ xt1 = va_up xt c (cntB f p) ∧ xs1 = va_up xs c (secF f p)
theorem firstF_st (f : Nat → Bool) (n : Nat) : firstF f (n + 1) = (match firstF f n with | some p => some p | none => if f n = true then some n else none) := rfl
theorem secF_st (f : Nat → Bool) (n : Nat) : secF f (n + 1) = (match secF f n with | some p => some p | none => if f n = true ∧ cntB f n = 1 then some n else none) := rfl
section KIN
variable {f : Nat → Bool} {c : Nat} {xf : Nat → Option Nat} {xt : Nat → Nat} {xs : Nat → Option Nat} {p : Nat} {xf1 : Nat → Option Nat} {xt1 : Nat → Nat} {xs1 : Nat → Option Nat}
theorem kskip (h : kInv f c xf xt xs p xf1 xt1 xs1) (hf : f p = false) : kInv f c xf xt xs (p + 1) xf1 xt1 xs1 := by
  obtain ⟨h1, h2, h3⟩ := h
  refine ⟨?_, ?_, ?_⟩
  · rw [firstF_st, h1]
    cases firstF f p with
    | none => simp [hf]
    | some _ => rfl
  · rw [cntB_sf hf]; exact h2
  · rw [secF_st, h3]
    cases secF f p with
    | none => simp [hf]
    | some _ => rfl
theorem kstep (h : kInv f c xf xt xs p xf1 xt1 xs1) (hf : f p = true) : kInv f c xf xt xs (p + 1) (va_up xf1 c (if xt1 c = 0 then some p else xf1 c)) (va_up xt1 c (xt1 c + 1)) (va_up xs1 c (if xt1 c = 1 then some p else xs1 c)) := by
  obtain ⟨h1, h2, h3⟩ := h
  have e1 : xf1 c = firstF f p := by rw [h1, up_s]
  have e2 : xt1 c = cntB f p := by rw [h2, up_s]
  have e3 : xs1 c = secF f p := by rw [h3, up_s]
  rw [e1, e2, e3]
  refine ⟨?_, ?_, ?_⟩
  · rw [h1, up_up, firstF_st]
    congr 1
    by_cases e : cntB f p = 0
    · rw [if_pos e, (cnt_first f p).mp e]; simp [hf]
    · rw [if_neg e]
      cases h9 : firstF f p with
      | none => exact absurd ((cnt_first f p).mpr h9) e
      | some q => rfl
  · rw [h2, up_up, cntB_st hf]
  · rw [h3, up_up, secF_st]
    congr 1
    by_cases e : cntB f p = 1
    · rw [if_pos e, (cnt_sec f p).mp (by omega)]; simp [hf, e]
    · rw [if_neg e]
      cases h9 : secF f p with
      | none => simp [e]
      | some q => rfl
end KIN
theorem ex_first {f : Nat → Bool} : ∀ {n : Nat}, ((firstF f n).isSome = true ↔ ∃ j, j < n ∧ f j = true)
  | n => by
    cases h : firstF f n with
    | none => exact ⟨(fun h => by cases h), (fun ⟨j, h1, h2⟩ => by rw [firstF_noneI h j h1] at h2; cases h2)⟩
    | some p => exact ⟨fun _ => ⟨p, (firstF_spec h).1, (firstF_spec h).2.1⟩, fun _ => rfl⟩
theorem some_s (f : Nat → Bool) (n : Nat) : (firstF f (n + 1)).isSome = ((firstF f n).isSome || f n) := by
  rw [firstF_st]
  cases firstF f n with
  | some p => rfl
  | none => cases f n <;> rfl
theorem bool_iff {a b : Bool} (h : a = true ↔ b = true) : a = b := by
  cases a <;> cases b
  · rfl
  · exact (h.mpr rfl)
  · exact (h.mp rfl).symm
  · rfl
theorem dig_ge {ac : Nat → Nat} {k c : Nat} (h : 0 < digF ac k c) : prodF ac k ≤ c := by
  unfold digF at h
  by_cases e : c < prodF ac k
  · rw [Nat.div_eq_of_lt e, Nat.zero_mod] at h; exact absurd h (Nat.lt_irrefl 0)
  · omega
theorem dig_sub {ac : Nat → Nat} {k c : Nat} (hp : 0 < prodF ac k) (ha : 0 < ac k) (h : 0 < digF ac k c) : digF ac k (c - prodF ac k) + 1 = digF ac k c := by
  have hge := dig_ge h
  have hq : c / prodF ac k = (c - prodF ac k) / prodF ac k + 1 := by
    have := Nat.add_div_right (c - prodF ac k) hp
    rw [Nat.sub_add_cancel hge] at this; exact this
  unfold digF at h ⊢
  rw [hq] at h ⊢
  generalize (c - prodF ac k) / prodF ac k = q at h ⊢
  by_cases e : q % ac k + 1 = ac k
  · have h9 : (q + 1) % ac k = 0 := by
      have h8 := Nat.div_add_mod q (ac k)
      rw [show q + 1 = ac k * (q / ac k + 1) by rw [Nat.mul_add, Nat.mul_one]; omega]
      exact Nat.mul_mod_right _ _
    rw [h9] at h; exact absurd h (Nat.lt_irrefl 0)
  · have hl : q % ac k < ac k := Nat.mod_lt _ ha
    by_cases e1 : ac k = 1
    · rw [e1, Nat.mod_one] at e; omega
    · rw [Nat.add_mod q 1, Nat.mod_eq_of_lt (show 1 < ac k by omega), Nat.mod_eq_of_lt (show q % ac k + 1 < ac k by omega)]
theorem dig_add {ac : Nat → Nat} {k c : Nat} (hp : 0 < prodF ac k) (ha : 0 < ac k) (h : digF ac k c + 1 < ac k) : digF ac k (c + prodF ac k) = digF ac k c + 1 := by
  unfold digF at h ⊢
  rw [Nat.add_div_right _ hp]
  generalize c / prodF ac k = q at h ⊢
  rw [Nat.add_mod q 1, Nat.mod_eq_of_lt (show 1 < ac k by omega), Nat.mod_eq_of_lt h]
/-- a bit of a case's answers -/
theorem bitC_tb {ac : Nat → Nat} {c k j : Nat} (hj : j < 4) : ∀ {n : Nat}, (∀ i, i < n → 2 ≤ ac i ∧ ac i ≤ 4) → k < n → (bitC ac c n).testBit (4 * k + j) = decide (digF ac k c = j)
  | 0, _, hk => absurd hk (Nat.not_lt_zero _)
  | n + 1, h, hk => by
    rw [bitC_s, Nat.testBit_or, tb_one]
    have hd : digF ac n c < 4 := Nat.lt_of_lt_of_le (digF_lt (by have := h n (by omega); omega)) (h n (by omega)).2
    by_cases e : k = n
    · subst e
      have h1 := bitC_lt c (ac := ac) (n := k) (fun i hi => h i (by omega))
      rw [Nat.testBit_lt_two_pow (Nat.lt_of_lt_of_le h1 (Nat.pow_le_pow_right (by decide) (by omega))), Bool.false_or]
      exact decide_eq_decide.mpr ⟨fun h => by omega, fun h => by omega⟩
    · rw [bitC_tb hj (n := n) (fun i hi => h i (by omega)) (by omega), decide_eq_false (p := 4 * n + digF ac n c = 4 * k + j) (by omega), Bool.or_false]
theorem and_one0 {x m : Nat} : x &&& (1 <<< m) = 0 ↔ x.testBit m = false := by
  constructor
  · intro h
    have h9 := congrArg (fun z => Nat.testBit z m) h
    simp only [Nat.testBit_and, tb_one, decide_true, Bool.and_true, Nat.zero_testBit] at h9
    exact h9
  · intro h
    apply Nat.eq_of_testBit_eq; intro i
    rw [Nat.testBit_and, tb_one, Nat.zero_testBit]
    by_cases e : m = i
    · subst e; rw [h]; rfl
    · rw [decide_eq_false e, Bool.and_false]
theorem last_bit {ac : Nat → Nat} {c k cc : Nat} (hac : ∀ i, i < cc → 2 ≤ ac i ∧ ac i ≤ 4) (hk : k < cc) : (bitC ac c cc &&& (1 <<< (4 * k + ac k - 1)) = 0) ↔ digF ac k c + 1 < ac k := by
  have ha := hac k hk
  have hd : digF ac k c < ac k := digF_lt (by omega)
  rw [show 4 * k + ac k - 1 = 4 * k + (ac k - 1) by omega, and_one0, bitC_tb (by omega) hac hk, decide_eq_false_iff_not]
  omega
/-- unlike actions of two cases side by side, told from below or from above -/
theorem mat_eq {cc : Nat} {ac : Nat → Nat} {rc : Nat} {st an xa : Nat → Nat} {k : Nat} (hac : ∀ i, i < cc → 2 ≤ ac i ∧ ac i ≤ 4) (hk : k < cc) (hax : ∀ c, c < prodF ac cc → xa c = axN cc ac rc st an c) : (firstF (fun c => decide (0 < digF ac k c) && decide (xa c ≠ xa (c - prodF ac k))) (prodF ac cc)).isSome = matF cc ac rc st an k := by
  have hp : 0 < prodF ac k := prodF_pos (fun i hi => hac i (by omega))
  have ha : 0 < ac k := by have := hac k hk; omega
  unfold matF
  apply bool_iff
  rw [ex_first, ex_first]
  constructor
  · rintro ⟨c, h1, h2⟩
    rw [Bool.and_eq_true, decide_eq_true_iff, decide_eq_true_iff] at h2
    have h3 := dig_ge h2.1
    have h4 := dig_sub hp ha h2.1
    have h5 : digF ac k c < ac k := digF_lt ha
    refine ⟨c - prodF ac k, by omega, ?_⟩
    rw [Bool.and_eq_true, decide_eq_true_iff, decide_eq_true_iff]
    refine ⟨(last_bit hac hk).mpr (by omega), ?_⟩
    rw [Nat.sub_add_cancel h3, ← hax _ (by omega), ← hax _ h1]
    exact fun e => h2.2 e.symm
  · rintro ⟨c, h1, h2⟩
    rw [Bool.and_eq_true, decide_eq_true_iff, decide_eq_true_iff] at h2
    have h3 := (last_bit hac hk).mp h2.1
    have h4 := dig_add hp ha h3
    refine ⟨c + prodF ac k, by omega, ?_⟩
    rw [Bool.and_eq_true, decide_eq_true_iff, decide_eq_true_iff]
    refine ⟨by omega, ?_⟩
    rw [Nat.add_sub_cancel, hax _ (by omega), hax _ (by omega)]
    exact fun e => h2.2 e.symm
theorem firstF_ext {f : Nat → Bool} {n N q : Nat} (h : firstF f n = some q) (hn : n ≤ N) : firstF f N = some q := by
  obtain ⟨h1, h2, h3⟩ := firstF_spec h
  exact firstF_some h3 h2 (by omega)
theorem cf_ex {f : Nat → Bool} {an : Nat → Nat} {N : Nat} : ∀ {n : Nat}, n ≤ N → (cfB f an n = true ↔ ∃ k, k < n ∧ f k = true ∧ an k ≠ actO an (firstF f N))
  | 0, _ => ⟨fun h => (by cases h), fun ⟨k, h, _⟩ => absurd h (Nat.not_lt_zero _)⟩
  | n + 1, hn => by
    have ih := cf_ex (f := f) (an := an) (N := N) (n := n) (by omega)
    show (cfB f an n || (f n && _)) = true ↔ _
    rw [Bool.or_eq_true, ih, Bool.and_eq_true]
    constructor
    · rintro (⟨k, h1, h2⟩ | ⟨h1, h2⟩)
      · exact ⟨k, by omega, h2⟩
      · cases e : firstF f n with
        | none => rw [e] at h2; cases h2
        | some q =>
          rw [e] at h2
          refine ⟨n, by omega, h1, ?_⟩
          rw [firstF_ext e (by omega)]
          exact of_decide_eq_true h2
    · rintro ⟨k, h1, h2, h3⟩
      by_cases ek : k = n
      · subst ek
        refine Or.inr ⟨h2, ?_⟩
        cases e : firstF f k with
        | none =>
          rw [firstF_some (p := k) (fun j hj => firstF_noneI e j hj) h2 (show k < N by omega)] at h3
          exact absurd rfl h3
        | some q =>
          rw [firstF_ext e (show k ≤ N by omega)] at h3
          exact decide_eq_true h3
      · exact Or.inl ⟨k, by omega, h2, h3⟩
theorem cf_eq {f : Nat → Bool} {an : Nat → Nat} {n x : Nat} (hx : x = actO an (firstF f n)) : (firstF (fun k => f k && decide (an k ≠ x)) n).isSome = cfB f an n := by
  apply bool_iff
  rw [ex_first, cf_ex (N := n) (Nat.le_refl _)]
  constructor
  · rintro ⟨k, h1, h2⟩
    rw [Bool.and_eq_true, decide_eq_true_iff] at h2
    exact ⟨k, h1, h2.1, by rw [← hx]; exact h2.2⟩
  · rintro ⟨k, h1, h2, h3⟩
    exact ⟨k, h1, by rw [Bool.and_eq_true, decide_eq_true_iff]; exact ⟨h2, by rw [hx]; exact h3⟩⟩
theorem cf_two {f : Nat → Bool} {an : Nat → Nat} : ∀ {n : Nat}, cfB f an n = true → 2 ≤ cntB f n
  | 0, h => by cases h
  | n + 1, h => by
    have h : (cfB f an n || (f n && (match firstF f n with | none => false | some q => decide (an n ≠ an q)))) = true := h
    rw [Bool.or_eq_true, Bool.and_eq_true] at h
    rcases h with h | ⟨h1, h2⟩
    · have := cf_two h; rw [cntB_s]; unfold iF; split <;> omega
    · rw [cntB_st h1]
      cases e : firstF f n with
      | none => rw [e] at h2; cases h2
      | some q =>
        have : cntB f n ≠ 0 := fun h0 => by rw [(cnt_first f n).mp h0] at e; cases e
        omega
def csG (cc : Nat) (ac : Nat → Nat) (rc : Nat) (st an : Nat → Nat) (w c : Nat) : Bool := if w = 3 then decide (firstF (tlW st (bitC ac c cc)) rc = none) else if w = 4 then decide (2 ≤ cntB (tlW st (bitC ac c cc)) rc) else cfB (tlW st (bitC ac c cc)) an rc

set_option maxHeartbeats 4000000 in
set_option maxRecDepth 100000 in
theorem c_X6_lays (lQ : Launch) (D : va_G) (kA : Nat → ClassId) (qr : Nat → Nat) (cc : Nat) (ac : Nat → Nat) (co : Nat → Nat) (ad : Nat) (rc : Nat) (nm : Nat → Nat) (st : Nat → Nat) (an : Nat → Nat) (svm : Nat → TCt) (cnt : Nat) (tx : Nat → Nat) (len : Nat) (th : Nat) (xf : Nat → Option Nat) (xt : Nat → Nat) (xs : Nat → Option Nat) (xa : Nat → Nat) (xw : Nat → Nat) (xc : Nat → Nat) (xk : Nat → Option Nat) (xp : Nat → Nat) (pt : Nat) (wr : Option Nat) (xm : Nat → Nat) (mny : Nat) (sz : Nat) (hcc : cc ≤ 5) (hac : ∀ k, k < cc → 2 ≤ ac k ∧ ac k ≤ 4) (hrc : rc ≤ 20) (han : ∀ j, j < rc → an j < 11) (hst : ∀ j, j < rc → st j < 1048576) : Met lQ yX6_lays wsX6_lays (rmN 3 67) (wr_Pc D vwCl [.ref (qr 0), .int (oI none)] (wR kA qr cc ac co ad rc nm st an svm cnt tx len th xf xt xs xa xw xc xk xp pt wr xm mny) (tyK kA) sz) (va_Qv (S := (Nat → Option Nat) × (Nat → Nat) × (Nat → Option Nat) × (Nat → Nat)) (fun (u : (Nat → Option Nat) × (Nat → Nat) × (Nat → Option Nat) × (Nat → Nat)) => laid cc ac rc st an u.1 u.2.1 u.2.2.1 u.2.2.2 (prodF ac cc)) (wr_B D vwCl (wR kA qr cc ac co ad rc nm st an svm cnt tx len th xf xt xs xa xw xc xk xp pt wr xm mny) (tyK kA) sz (fun u => (wR kA qr cc ac co ad rc nm st an svm cnt tx len th u.1 u.2.1 u.2.2.1 u.2.2.2 xw xc xk xp pt wr xm mny))) (va_A (wR kA qr cc ac co ad rc nm st an svm cnt tx len th xf xt xs xa xw xc xk xp pt wr xm mny) sz)) 0 0 (va_A (wR kA qr cc ac co ad rc nm st an svm cnt tx len th xf xt xs xa xw xc xk xp pt wr xm mny) sz) := by
  refine Met.ofW (cc := cX6_lays) (maxL := 5) (ret := none) (by decide) rfl ?_
  intro pQ eQ s mQ args below meth cQ s₁ B hml hv
  obtain ⟨rfl, hsz, hP, hK, hD0⟩ := hv
  have hx := B.exec
  have hb := B.bytes
  have hr := B.returns
  have hts := atoms_spec (ws := wsX6_lays) B.pre
  have hown : s.vm.findClass RX6 = some mQ.cls := findClass_of_methodNamed B.named
  have hlocks : meth.locks = false := B.notSynchronized
  have hS0 : CallFix pQ mQ cQ cX6_lays 5 s ([.ref (qr 0), .int (oI none)] : List Value).toArray wsX6_lays RX6 := ⟨hx, hb, hml, hown, hts⟩
  subst hsz
  have hD := hD0.self (sz := s.heap.size)
  generalize hAe : va_A (wR kA qr cc ac co ad rc nm st an svm cnt tx len th xf xt xs xa xw xc xk xp pt wr xm mny) s.heap.size = A at hD ⊢
  have hA : ∀ q : Nat, s.heap.size ≤ q → A q := fun q h => by rw [← hAe]; exact Or.inr h
  have hS : va_S A s.heap s.heap [] := va_S.rf
  have f19 : (Cond.fieldLink RX6 19 "AskedRulesModel" "firsts" "[I").before ([.ref (qr 0), .int (oI none)] : List Value).toArray s = true := hts _ (by decide +kernel)
  have hinX6 : ∀ w ∈ wsX60, w ∈ wsX6_lays := by decide +kernel
  have f25 : (Cond.fieldLink RX6 25 "AskedRulesModel" "seconds" "[I").before ([.ref (qr 0), .int (oI none)] : List Value).toArray s = true := hts _ (by decide +kernel)
  have f22 : (Cond.fieldLink RX6 22 "AskedRulesModel" "tellers" "[I").before ([.ref (qr 0), .int (oI none)] : List Value).toArray s = true := hts _ (by decide +kernel)
  have f7 : (Cond.fieldLink RX6 7 "AskedRulesModel" "now" "[I").before ([.ref (qr 0), .int (oI none)] : List Value).toArray s = true := hts _ (by decide +kernel)
  have f28 : (Cond.fieldLink RX6 28 "AskedRulesModel" "actions" "[I").before ([.ref (qr 0), .int (oI none)] : List Value).toArray s = true := hts _ (by decide +kernel)
  have hl := lv_entry ([.ref (qr 0), .int (oI none)]) (n := 5) (Nat.le_of_ble_eq_true rfl)
  rw [lg_entry_eq]
  generalize (lg_sl ([.ref (qr 0), .int (oI none)]) ++ List.replicate (5 - (lg_sl ([.ref (qr 0), .int (oI none)])).length) Slot.unset).toArray = ls at hl ⊢
  have hl : lv_has ls 5 [(0, .ref (qr 0)), (1, .int (oI none))] := hl
  have hP : va_P D vwCl (wR kA qr cc ac co ad rc nm st an svm cnt tx len th xf xt xs xa xw xc xk xp pt wr xm mny) s.heap := hP
  have hD : va_D A (wR kA qr cc ac co ad rc nm st an svm cnt tx len th xf xt xs xa xw xc xk xp pt wr xm mny) := hD
  have hP10 := prodF_1024 hcc hac
  refine lv_aload_n hx hb dX6_lays_0 rfl (lv_at hl 0 rfl) ?_
  refine n_cV (b := qr 0) (As := []) (rest := []) (wc := (wR kA qr cc ac co ad rc nm st an svm cnt tx len th xf xt xs xa xw xc xk xp pt wr xm mny)) hS0 (c_X6_cases lQ D kA qr cc ac co ad rc nm st an svm cnt tx len th xf xt xs xa xw xc xk xp pt wr xm mny (by first | assumption | omega)) (cwV 0 hts gX6_lays_X6_cases rfl rfl rfl (by decide +kernel) ⟨Nat.le_of_ble_eq_true rfl, Nat.le_of_ble_eq_true rfl⟩) hP hK (q0 := 0) rfl rfl rfl rfl rfl hl.1 (Nat.le_of_ble_eq_true rfl) dX6_lays_1 ⟨Nat.le_refl _, Nat.le_refl _⟩ (fun r1 h1 => ?_)
  subst h1
  refine lv_istore_n (lv' := [(2, .int (nI (prodF ac cc))), (0, .ref (qr 0)), (1, .int (oI none))]) hx hb dX6_lays_4 rfl hl (by decide) rfl (fun ls hl => ?_)
  refine lv_iconst (v := (nI 0)) hx hb dX6_lays_5 (by decide) ?_
  refine lv_istore_n (lv' := [(3, .int (nI 0)), (2, .int (nI (prodF ac cc))), (0, .ref (qr 0)), (1, .int (oI none))]) hx hb dX6_lays_6 rfl hl (by decide) rfl (fun ls hl => ?_)
  have L7 : ∀ (nQ : Nat) (i : Nat) (xfx : Nat → Option Nat) (xtx : Nat → Nat) (xsx : Nat → Option Nat) (xax : Nat → Nat), prodF ac cc - i < nQ → (i ≤ prodF ac cc) → (laid cc ac rc st an xfx xtx xsx xax i) → ∀ (H : Heap) (locs : List Loc), va_P D vwCl (wR kA qr cc ac co ad rc nm st an svm cnt tx len th xfx xtx xsx xax xw xc xk xp pt wr xm mny) H → va_D A (wR kA qr cc ac co ad rc nm st an svm cnt tx len th xfx xtx xsx xax xw xc xk xp pt wr xm mny) → va_S A s.heap H locs → ∀ (ls : Array Slot), lv_has ls 5 [(3, .int (nI i)), (2, .int (nI (prodF ac cc))), (0, .ref (qr 0)), (1, .int (oI none))] → W pQ lQ eQ (headSpec wsX6_lays (rmN 3 67)).room s mQ ([.ref (qr 0), .int (oI none)] : List Value).toArray below meth cQ H locs 0 0 (MQ below (va_Qv (S := (Nat → Option Nat) × (Nat → Nat) × (Nat → Option Nat) × (Nat → Nat)) (fun (u : (Nat → Option Nat) × (Nat → Nat) × (Nat → Option Nat) × (Nat → Nat)) => laid cc ac rc st an u.1 u.2.1 u.2.2.1 u.2.2.2 (prodF ac cc)) (wr_B D vwCl (wR kA qr cc ac co ad rc nm st an svm cnt tx len th xf xt xs xa xw xc xk xp pt wr xm mny) (tyK kA) s.heap.size (fun u => (wR kA qr cc ac co ad rc nm st an svm cnt tx len th u.1 u.2.1 u.2.2.1 u.2.2.2 xw xc xk xp pt wr xm mny))) A) ([.ref (qr 0), .int (oI none)] : List Value).toArray s 0 0 A) (F0 mQ 7 ls []) := by
    intro nQ
    induction nQ with
    | zero => intro i xfx xtx xsx xax hn; exact absurd hn (Nat.not_lt_zero _)
    | succ nQ ih7 =>
      intro i xfx xtx xsx xax hm7 hi hl9 H locs hP hD hS ls hl
      refine lv_iload_n hx hb dX6_lays_7 rfl (lv_at hl 0 rfl) ?_
      refine lv_iload_n hx hb dX6_lays_8 rfl (lv_at hl 1 rfl) ?_
      refine n_icmp_ge (a := i) (b := prodF ac cc) (tgt := 174) hx hb (by omega) (by omega) dX6_lays_9 (by decide) (fun c9 => ?_) (fun c9 => ?_)
      · exact n_wretv hx hb hr hlocks (post := fun (u : (Nat → Option Nat) × (Nat → Nat) × (Nat → Option Nat) × (Nat → Nat)) => laid cc ac rc st an u.1 u.2.1 u.2.2.1 u.2.2.2 (prodF ac cc)) (w1 := fun u => (wR kA qr cc ac co ad rc nm st an svm cnt tx len th u.1 u.2.1 u.2.2.1 u.2.2.2 xw xc xk xp pt wr xm mny)) (xfx, xtx, xsx, xax) (by rw [show prodF ac cc = i by omega]; exact hl9) hP hD hK hS hAe dX6_lays_174
      · refine lv_aload_n hx hb dX6_lays_12 rfl (lv_at hl 2 rfl) ?_
        refine n_get (ci := 6) (v := .ref (qr 4)) (C := RX6) (T := TX6) (N := 18) hx hb hts hinX6 hown hK hP 0 rfl rfl 6 rfl ⟨rfl, rfl, rfl⟩ f19 rfl dX6_lays_13 ?_
        refine lv_iload_n hx hb dX6_lays_16 rfl (lv_at hl 0 rfl) ?_
        refine lv_iconst (v := (oI none)) hx hb dX6_lays_17 (by decide) ?_
        refine n_iast (i := i) (x := (oI none)) (g := aO (va_up xfx i none)) (ws' := (wR kA qr cc ac co ad rc nm st an svm cnt tx len th (va_up xfx i none) xtx xsx xax xw xc xk xp pt wr xm mny)) hx hb hK hP hD hS 4 0 rfl rfl (by omega) (Nat.le_of_ble_eq_true rfl) (aO_up _ _ _) rfl dX6_lays_18 (fun H locs hP hD hS => ?_)
        refine lv_aload_n hx hb dX6_lays_19 rfl (lv_at hl 2 rfl) ?_
        refine n_get (ci := 6) (v := .ref (qr 6)) (C := RX6) (T := TX6) (N := 18) hx hb hts hinX6 hown hK hP 0 rfl rfl 8 rfl ⟨rfl, rfl, rfl⟩ f25 rfl dX6_lays_20 ?_
        refine lv_iload_n hx hb dX6_lays_23 rfl (lv_at hl 0 rfl) ?_
        refine lv_iconst (v := (oI none)) hx hb dX6_lays_24 (by decide) ?_
        refine n_iast (i := i) (x := (oI none)) (g := aO (va_up xsx i none)) (ws' := (wR kA qr cc ac co ad rc nm st an svm cnt tx len th (va_up xfx i none) xtx (va_up xsx i none) xax xw xc xk xp pt wr xm mny)) hx hb hK hP hD hS 6 0 rfl rfl (by omega) (Nat.le_of_ble_eq_true rfl) (aO_up _ _ _) rfl dX6_lays_25 (fun H locs hP hD hS => ?_)
        refine lv_aload_n hx hb dX6_lays_26 rfl (lv_at hl 2 rfl) ?_
        refine n_get (ci := 6) (v := .ref (qr 5)) (C := RX6) (T := TX6) (N := 18) hx hb hts hinX6 hown hK hP 0 rfl rfl 7 rfl ⟨rfl, rfl, rfl⟩ f22 rfl dX6_lays_27 ?_
        refine lv_iload_n hx hb dX6_lays_30 rfl (lv_at hl 0 rfl) ?_
        refine lv_iconst (v := (nI 0)) hx hb dX6_lays_31 (by decide) ?_
        refine n_iast (i := i) (x := (nI 0)) (g := aN (va_up xtx i 0)) (ws' := (wR kA qr cc ac co ad rc nm st an svm cnt tx len th (va_up xfx i none) (va_up xtx i 0) (va_up xsx i none) xax xw xc xk xp pt wr xm mny)) hx hb hK hP hD hS 5 0 rfl rfl (by omega) (Nat.le_of_ble_eq_true rfl) (aN_up _ _ _) rfl dX6_lays_32 (fun H locs hP hD hS => ?_)
        refine lv_iconst (v := (nI 0)) hx hb dX6_lays_33 (by decide) ?_
        refine lv_istore (lv' := [(4, .int (nI 0)), (3, .int (nI i)), (2, .int (nI (prodF ac cc))), (0, .ref (qr 0)), (1, .int (oI none))]) hx hb dX6_lays_34 hl (by decide) rfl (fun ls hl => ?_)
        have L36 : ∀ (nQ : Nat) (k : Nat) (xfy : Nat → Option Nat) (xty : Nat → Nat) (xsy : Nat → Option Nat), rc - k < nQ → (k ≤ rc) → (kInv (tlW st (bitC ac i cc)) i xfx xtx xsx k xfy xty xsy) → ∀ (H : Heap) (locs : List Loc), va_P D vwCl (wR kA qr cc ac co ad rc nm st an svm cnt tx len th xfy xty xsy xax xw xc xk xp pt wr xm mny) H → va_D A (wR kA qr cc ac co ad rc nm st an svm cnt tx len th xfy xty xsy xax xw xc xk xp pt wr xm mny) → va_S A s.heap H locs → ∀ (ls : Array Slot), lv_has ls 5 [(4, .int (nI k)), (3, .int (nI i)), (2, .int (nI (prodF ac cc))), (0, .ref (qr 0)), (1, .int (oI none))] → W pQ lQ eQ (headSpec wsX6_lays (rmN 3 67)).room s mQ ([.ref (qr 0), .int (oI none)] : List Value).toArray below meth cQ H locs 0 0 (MQ below (va_Qv (S := (Nat → Option Nat) × (Nat → Nat) × (Nat → Option Nat) × (Nat → Nat)) (fun (u : (Nat → Option Nat) × (Nat → Nat) × (Nat → Option Nat) × (Nat → Nat)) => laid cc ac rc st an u.1 u.2.1 u.2.2.1 u.2.2.2 (prodF ac cc)) (wr_B D vwCl (wR kA qr cc ac co ad rc nm st an svm cnt tx len th xf xt xs xa xw xc xk xp pt wr xm mny) (tyK kA) s.heap.size (fun u => (wR kA qr cc ac co ad rc nm st an svm cnt tx len th u.1 u.2.1 u.2.2.1 u.2.2.2 xw xc xk xp pt wr xm mny))) A) ([.ref (qr 0), .int (oI none)] : List Value).toArray s 0 0 A) (F0 mQ 36 ls []) := by
          intro nQ
          induction nQ with
          | zero => intro k xfy xty xsy hn; exact absurd hn (Nat.not_lt_zero _)
          | succ nQ ih36 =>
            intro k xfy xty xsy hm36 hk hj H locs hP hD hS ls hl
            refine lv_iload hx hb dX6_lays_36 (lv_at hl 0 rfl) ?_
            refine lv_aload_n hx hb dX6_lays_38 rfl (lv_at hl 3 rfl) ?_
            refine n_get (ci := 6) (v := .ref (qr 1)) (C := RX6) (T := TX6) (N := 18) hx hb hts hinX6 hown hK hP 0 rfl rfl 0 rfl ⟨rfl, rfl, rfl⟩ f7 rfl dX6_lays_39 ?_
            refine lv_iconst (v := (nI 1)) hx hb dX6_lays_42 (by decide) ?_
            refine n_iald (i := 1) (v := (nI rc)) hx hb hK hP 1 0 rfl rfl (by omega) (Nat.le_of_ble_eq_true rfl) rfl dX6_lays_43 ?_
            refine n_icmp_ge (a := k) (b := rc) (tgt := 132) hx hb (by omega) (by omega) dX6_lays_44 (by decide) (fun c44 => ?_) (fun c44 => ?_)
            · have e9 : rc = k := by omega
              have hfe : xfy i = firstF (tlW st (bitC ac i cc)) rc := by rw [hj.1, up_s, e9]
              have hfq : ∀ q, xfy i = some q → q < rc := fun q h => by rw [hfe] at h; exact (firstF_spec h).1
              refine lv_aload_n hx hb dX6_lays_132 rfl (lv_at hl 3 rfl) ?_
              refine n_get (ci := 6) (v := .ref (qr 7)) (C := RX6) (T := TX6) (N := 18) hx hb hts hinX6 hown hK hP 0 rfl rfl 9 rfl ⟨rfl, rfl, rfl⟩ f28 rfl dX6_lays_133 ?_
              refine lv_iload_n hx hb dX6_lays_136 rfl (lv_at hl 1 rfl) ?_
              refine lv_aload_n hx hb dX6_lays_137 rfl (lv_at hl 3 rfl) ?_
              refine n_get (ci := 6) (v := .ref (qr 4)) (C := RX6) (T := TX6) (N := 18) hx hb hts hinX6 hown hK hP 0 rfl rfl 6 rfl ⟨rfl, rfl, rfl⟩ f19 rfl dX6_lays_138 ?_
              refine lv_iload_n hx hb dX6_lays_141 rfl (lv_at hl 1 rfl) ?_
              refine n_iald (i := i) (v := (oI (xfy i))) hx hb hK hP 4 0 rfl rfl (by omega) (Nat.le_of_ble_eq_true rfl) rfl dX6_lays_142 ?_
              refine lv_iconst (v := (oI none)) hx hb dX6_lays_143 (by decide) ?_
              refine n_icmpo_ne (o := xfy i) (tgt := 152) hx hb (fun q h => by have := hfq q h; omega) dX6_lays_144 (by decide) (fun q144 c144 => ?_) (fun c144 => ?_)
              · refine lv_aload_n hx hb dX6_lays_152 rfl (lv_at hl 3 rfl) ?_
                refine n_get (ci := 6) (v := .ref (qr 1)) (C := RX6) (T := TX6) (N := 18) hx hb hts hinX6 hown hK hP 0 rfl rfl 0 rfl ⟨rfl, rfl, rfl⟩ f7 rfl dX6_lays_153 ?_
                refine lv_aload_n hx hb dX6_lays_156 rfl (lv_at hl 3 rfl) ?_
                refine n_get (ci := 6) (v := .ref (qr 4)) (C := RX6) (T := TX6) (N := 18) hx hb hts hinX6 hown hK hP 0 rfl rfl 6 rfl ⟨rfl, rfl, rfl⟩ f19 rfl dX6_lays_157 ?_
                refine lv_iload_n hx hb dX6_lays_160 rfl (lv_at hl 1 rfl) ?_
                refine n_iald (i := i) (v := (oI (xfy i))) hx hb hK hP 4 0 rfl rfl (by omega) (Nat.le_of_ble_eq_true rfl) rfl dX6_lays_161 ?_
                rw [c144]
                show W pQ lQ eQ (headSpec wsX6_lays (rmN 3 67)).room s mQ ([.ref (qr 0), .int (oI none)] : List Value).toArray below meth cQ H locs 0 0 (MQ below (va_Qv (S := (Nat → Option Nat) × (Nat → Nat) × (Nat → Option Nat) × (Nat → Nat)) (fun (u : (Nat → Option Nat) × (Nat → Nat) × (Nat → Option Nat) × (Nat → Nat)) => laid cc ac rc st an u.1 u.2.1 u.2.2.1 u.2.2.2 (prodF ac cc)) (wr_B D vwCl (wR kA qr cc ac co ad rc nm st an svm cnt tx len th xf xt xs xa xw xc xk xp pt wr xm mny) (tyK kA) s.heap.size (fun u => (wR kA qr cc ac co ad rc nm st an svm cnt tx len th u.1 u.2.1 u.2.2.1 u.2.2.2 xw xc xk xp pt wr xm mny))) A) ([.ref (qr 0), .int (oI none)] : List Value).toArray s 0 0 A) (F0 mQ 162 ls [.int (nI q144), .ref (qr 1), .int (nI i), .ref (qr 7)])
                refine lv_iconst (v := (nI 1)) hx hb dX6_lays_162 (by decide) ?_
                refine n_cS (As := [.int (nI q144), .int (nI 1)]) (rest := [.ref (qr 1), .int (nI i), .ref (qr 7)]) (wc := []) hS0 (c_X6_r lQ D kA q144 1 ) (va_cwS 2 hts gX6_lays_X6_r rfl rfl rfl (by decide +kernel) ⟨Nat.le_of_ble_eq_true rfl, Nat.le_of_ble_eq_true rfl⟩) (hP.mem (ws' := []) (fun qQ h => absurd h List.not_mem_nil)) hK rfl rfl hl.1 (Nat.le_of_ble_eq_true rfl) dX6_lays_163 ⟨Nat.le_refl _, Nat.le_refl _⟩ (fun r163 h163 => ?_)
                subst h163
                refine n_iald (i := 13 + 3 * q144 + 1) (v := (nI (an q144))) hx hb hK hP 1 0 rfl rfl (by have := hfq _ c144; omega) (Nat.le_of_ble_eq_true rfl) (congrArg nI (tab_an )) dX6_lays_166 ?_
                refine n_iast (i := i) (x := (nI (an q144))) (g := aN (va_up xax i (an q144))) (ws' := (wR kA qr cc ac co ad rc nm st an svm cnt tx len th xfy xty xsy (va_up xax i (an q144)) xw xc xk xp pt wr xm mny)) hx hb hK hP hD hS 7 0 rfl rfl (by omega) (Nat.le_of_ble_eq_true rfl) (aN_up _ _ _) rfl dX6_lays_167 (fun H locs hP hD hS => ?_)
                refine lv_iinc (v := (nI (i + 1))) (lv' := [(3, .int (nI (i + 1))), (4, .int (nI k)), (2, .int (nI (prodF ac cc))), (0, .ref (qr 0)), (1, .int (oI none))]) hx hb dX6_lays_168 hl (k := 1) rfl (nI_inc _) (by decide) rfl (fun ls hl => ?_)
                refine lv_goto (tgt := 7) hx hb dX6_lays_171 (by decide) ?_
                exact ih7 (i + 1) xfy xty xsy (va_up xax i (an q144)) (by omega) (by first | assumption | omega) (fun c hc => by
      by_cases e : c = i
      · subst e; refine ⟨hfe, by rw [hj.2.1, up_s, e9], by rw [hj.2.2, up_s, e9], ?_⟩
        rw [up_s]; unfold axN; rw [← hfe, c144]; rfl
      · obtain ⟨g1, g2, g3, g4⟩ := hl9 c (by omega)
        exact ⟨by rw [hj.1, up_n _ _ e]; exact g1, by rw [hj.2.1, up_n _ _ e]; exact g2, by rw [hj.2.2, up_n _ _ e]; exact g3, by rw [up_n _ _ e]; exact g4⟩) _ _ hP hD hS _ (lv_sub hl [0, 2, 3, 4] rfl)
              · refine lv_bipush (v := (nI 10)) hx hb dX6_lays_147 (by decide) ?_
                refine lv_goto (tgt := 167) hx hb dX6_lays_149 (by decide) ?_
                refine n_iast (i := i) (x := (nI 10)) (g := aN (va_up xax i 10)) (ws' := (wR kA qr cc ac co ad rc nm st an svm cnt tx len th xfy xty xsy (va_up xax i 10) xw xc xk xp pt wr xm mny)) hx hb hK hP hD hS 7 0 rfl rfl (by omega) (Nat.le_of_ble_eq_true rfl) (aN_up _ _ _) rfl dX6_lays_167 (fun H locs hP hD hS => ?_)
                refine lv_iinc (v := (nI (i + 1))) (lv' := [(3, .int (nI (i + 1))), (4, .int (nI k)), (2, .int (nI (prodF ac cc))), (0, .ref (qr 0)), (1, .int (oI none))]) hx hb dX6_lays_168 hl (k := 1) rfl (nI_inc _) (by decide) rfl (fun ls hl => ?_)
                refine lv_goto (tgt := 7) hx hb dX6_lays_171 (by decide) ?_
                exact ih7 (i + 1) xfy xty xsy (va_up xax i 10) (by omega) (by first | assumption | omega) (fun c hc => by
      by_cases e : c = i
      · subst e; refine ⟨hfe, by rw [hj.2.1, up_s, e9], by rw [hj.2.2, up_s, e9], ?_⟩
        rw [up_s]; unfold axN; rw [← hfe, c144]; rfl
      · obtain ⟨g1, g2, g3, g4⟩ := hl9 c (by omega)
        exact ⟨by rw [hj.1, up_n _ _ e]; exact g1, by rw [hj.2.1, up_n _ _ e]; exact g2, by rw [hj.2.2, up_n _ _ e]; exact g3, by rw [up_n _ _ e]; exact g4⟩) _ _ hP hD hS _ (lv_sub hl [0, 2, 3, 4] rfl)
            · refine lv_iload hx hb dX6_lays_47 (lv_at hl 0 rfl) ?_
              refine lv_iload_n hx hb dX6_lays_49 rfl (lv_at hl 4 rfl) ?_
              refine lv_icmp_eq (tgt := 126) hx hb dX6_lays_50 (by decide) (fun h => absurd h.symm (onone_ne (by omega))) (fun _ => ?_)
              refine lv_aload_n hx hb dX6_lays_53 rfl (lv_at hl 3 rfl) ?_
              refine lv_iload hx hb dX6_lays_54 (lv_at hl 0 rfl) ?_
              refine lv_iload_n hx hb dX6_lays_56 rfl (lv_at hl 1 rfl) ?_
              refine n_cV (b := qr 0) (As := [.int (nI k), .int (nI i)]) (rest := []) (wc := (wR kA qr cc ac co ad rc nm st an svm cnt tx len th xfy xty xsy xax xw xc xk xp pt wr xm mny)) hS0 (c_X6_tells lQ D kA qr cc ac co ad rc nm st an svm cnt tx len th xfy xty xsy xax xw xc xk xp pt wr xm mny k i (by first | assumption | omega) (by first | assumption | omega) (by first | assumption | omega) (hst _ (by omega)) (by first | assumption | omega)) (cwV 2 hts gX6_lays_X6_tells rfl rfl rfl (by decide +kernel) ⟨Nat.le_of_ble_eq_true rfl, Nat.le_of_ble_eq_true rfl⟩) hP hK (q0 := 0) rfl rfl rfl rfl rfl hl.1 (Nat.le_of_ble_eq_true rfl) dX6_lays_57 ⟨Nat.le_refl _, Nat.le_refl _⟩ (fun r57 h57 => ?_)
              subst h57
              refine n_ifb_eq (b := tlW st (bitC ac i cc) k) (tgt := 126) hx hb dX6_lays_60 (by decide) (fun c60 => ?_) (fun c60 => ?_)
              · refine lv_iinc (v := (nI (k + 1))) (lv' := [(4, .int (nI (k + 1))), (3, .int (nI i)), (2, .int (nI (prodF ac cc))), (0, .ref (qr 0)), (1, .int (oI none))]) hx hb dX6_lays_126 hl (k := 0) rfl (nI_inc _) (by decide) rfl (fun ls hl => ?_)
                refine lv_goto (tgt := 36) hx hb dX6_lays_129 (by decide) ?_
                exact ih36 (k + 1) xfy xty xsy (by omega) (by first | assumption | omega) (by first | exact kskip hj c60 | (have h9 := kstep hj c60; first | (rw [if_pos c74, if_pos c101] at h9; exact h9) | (rw [if_pos c74, if_neg c101] at h9; exact h9) | (rw [if_neg (show ¬ xty i = 0 by omega), if_pos c101] at h9; exact h9) | (rw [if_neg (show ¬ xty i = 0 by omega), if_neg c101] at h9; exact h9))) _ _ hP hD hS _ (lv_sub hl [0, 1, 2, 3, 4] rfl)
              · refine lv_aload_n hx hb dX6_lays_63 rfl (lv_at hl 3 rfl) ?_
                refine n_get (ci := 6) (v := .ref (qr 4)) (C := RX6) (T := TX6) (N := 18) hx hb hts hinX6 hown hK hP 0 rfl rfl 6 rfl ⟨rfl, rfl, rfl⟩ f19 rfl dX6_lays_64 ?_
                refine lv_iload_n hx hb dX6_lays_67 rfl (lv_at hl 1 rfl) ?_
                refine lv_aload_n hx hb dX6_lays_68 rfl (lv_at hl 3 rfl) ?_
                refine n_get (ci := 6) (v := .ref (qr 5)) (C := RX6) (T := TX6) (N := 18) hx hb hts hinX6 hown hK hP 0 rfl rfl 7 rfl ⟨rfl, rfl, rfl⟩ f22 rfl dX6_lays_69 ?_
                refine lv_iload_n hx hb dX6_lays_72 rfl (lv_at hl 1 rfl) ?_
                refine n_iald (i := i) (v := (nI (xty i))) hx hb hK hP 5 0 rfl rfl (by omega) (Nat.le_of_ble_eq_true rfl) rfl dX6_lays_73 ?_
                refine n_if_ne (a := xty i) (tgt := 82) hx hb (by rw [hj.2.1, up_s]; have := cntB_le (tlW st (bitC ac i cc)) k; omega) dX6_lays_74 (by decide) (fun c74 => ?_) (fun c74 => ?_)
                · refine lv_aload_n hx hb dX6_lays_82 rfl (lv_at hl 3 rfl) ?_
                  refine n_get (ci := 6) (v := .ref (qr 4)) (C := RX6) (T := TX6) (N := 18) hx hb hts hinX6 hown hK hP 0 rfl rfl 6 rfl ⟨rfl, rfl, rfl⟩ f19 rfl dX6_lays_83 ?_
                  refine lv_iload_n hx hb dX6_lays_86 rfl (lv_at hl 1 rfl) ?_
                  refine n_iald (i := i) (v := (oI (xfy i))) hx hb hK hP 4 0 rfl rfl (by omega) (Nat.le_of_ble_eq_true rfl) rfl dX6_lays_87 ?_
                  refine n_iast (i := i) (x := (oI (xfy i))) (g := aO (va_up xfy i (xfy i))) (ws' := (wR kA qr cc ac co ad rc nm st an svm cnt tx len th (va_up xfy i (xfy i)) xty xsy xax xw xc xk xp pt wr xm mny)) hx hb hK hP hD hS 4 0 rfl rfl (by omega) (Nat.le_of_ble_eq_true rfl) (aO_up _ _ _) rfl dX6_lays_88 (fun H locs hP hD hS => ?_)
                  refine lv_aload_n hx hb dX6_lays_89 rfl (lv_at hl 3 rfl) ?_
                  refine n_get (ci := 6) (v := .ref (qr 6)) (C := RX6) (T := TX6) (N := 18) hx hb hts hinX6 hown hK hP 0 rfl rfl 8 rfl ⟨rfl, rfl, rfl⟩ f25 rfl dX6_lays_90 ?_
                  refine lv_iload_n hx hb dX6_lays_93 rfl (lv_at hl 1 rfl) ?_
                  refine lv_aload_n hx hb dX6_lays_94 rfl (lv_at hl 3 rfl) ?_
                  refine n_get (ci := 6) (v := .ref (qr 5)) (C := RX6) (T := TX6) (N := 18) hx hb hts hinX6 hown hK hP 0 rfl rfl 7 rfl ⟨rfl, rfl, rfl⟩ f22 rfl dX6_lays_95 ?_
                  refine lv_iload_n hx hb dX6_lays_98 rfl (lv_at hl 1 rfl) ?_
                  refine n_iald (i := i) (v := (nI (xty i))) hx hb hK hP 5 0 rfl rfl (by omega) (Nat.le_of_ble_eq_true rfl) rfl dX6_lays_99 ?_
                  refine lv_iconst (v := (nI 1)) hx hb dX6_lays_100 (by decide) ?_
                  refine n_icmp_ne (a := xty i) (b := 1) (tgt := 109) hx hb (by rw [hj.2.1, up_s]; have := cntB_le (tlW st (bitC ac i cc)) k; omega) (by decide) dX6_lays_101 (by decide) (fun c101 => ?_) (fun c101 => ?_)
                  · refine lv_aload_n hx hb dX6_lays_109 rfl (lv_at hl 3 rfl) ?_
                    refine n_get (ci := 6) (v := .ref (qr 6)) (C := RX6) (T := TX6) (N := 18) hx hb hts hinX6 hown hK hP 0 rfl rfl 8 rfl ⟨rfl, rfl, rfl⟩ f25 rfl dX6_lays_110 ?_
                    refine lv_iload_n hx hb dX6_lays_113 rfl (lv_at hl 1 rfl) ?_
                    refine n_iald (i := i) (v := (oI (xsy i))) hx hb hK hP 6 0 rfl rfl (by omega) (Nat.le_of_ble_eq_true rfl) rfl dX6_lays_114 ?_
                    refine n_iast (i := i) (x := (oI (xsy i))) (g := aO (va_up xsy i (xsy i))) (ws' := (wR kA qr cc ac co ad rc nm st an svm cnt tx len th (va_up xfy i (xfy i)) xty (va_up xsy i (xsy i)) xax xw xc xk xp pt wr xm mny)) hx hb hK hP hD hS 6 0 rfl rfl (by omega) (Nat.le_of_ble_eq_true rfl) (aO_up _ _ _) rfl dX6_lays_115 (fun H locs hP hD hS => ?_)
                    refine lv_aload_n hx hb dX6_lays_116 rfl (lv_at hl 3 rfl) ?_
                    refine n_get (ci := 6) (v := .ref (qr 5)) (C := RX6) (T := TX6) (N := 18) hx hb hts hinX6 hown hK hP 0 rfl rfl 7 rfl ⟨rfl, rfl, rfl⟩ f22 rfl dX6_lays_117 ?_
                    refine lv_iload_n hx hb dX6_lays_120 rfl (lv_at hl 1 rfl) ?_
                    refine lv_dup2_11 hx hb dX6_lays_121 rfl rfl ?_
                    refine n_iald (i := i) (v := (nI (xty i))) hx hb hK hP 5 0 rfl rfl (by omega) (Nat.le_of_ble_eq_true rfl) rfl dX6_lays_122 ?_
                    refine lv_iconst (v := (nI 1)) hx hb dX6_lays_123 (by decide) ?_
                    refine n_iadd (v := (nI (xty i + 1))) hx hb (nI_add _ _) dX6_lays_124 ?_
                    refine n_iast (i := i) (x := (nI (xty i + 1))) (g := aN (va_up xty i (xty i + 1))) (ws' := (wR kA qr cc ac co ad rc nm st an svm cnt tx len th (va_up xfy i (xfy i)) (va_up xty i (xty i + 1)) (va_up xsy i (xsy i)) xax xw xc xk xp pt wr xm mny)) hx hb hK hP hD hS 5 0 rfl rfl (by omega) (Nat.le_of_ble_eq_true rfl) (aN_up _ _ _) rfl dX6_lays_125 (fun H locs hP hD hS => ?_)
                    refine lv_iinc (v := (nI (k + 1))) (lv' := [(4, .int (nI (k + 1))), (3, .int (nI i)), (2, .int (nI (prodF ac cc))), (0, .ref (qr 0)), (1, .int (oI none))]) hx hb dX6_lays_126 hl (k := 0) rfl (nI_inc _) (by decide) rfl (fun ls hl => ?_)
                    refine lv_goto (tgt := 36) hx hb dX6_lays_129 (by decide) ?_
                    exact ih36 (k + 1) (va_up xfy i (xfy i)) (va_up xty i (xty i + 1)) (va_up xsy i (xsy i)) (by omega) (by first | assumption | omega) (by first | exact kskip hj c60 | (have h9 := kstep hj c60; first | (rw [if_pos c74, if_pos c101] at h9; exact h9) | (rw [if_pos c74, if_neg c101] at h9; exact h9) | (rw [if_neg (show ¬ xty i = 0 by omega), if_pos c101] at h9; exact h9) | (rw [if_neg (show ¬ xty i = 0 by omega), if_neg c101] at h9; exact h9))) _ _ hP hD hS _ (lv_sub hl [0, 1, 2, 3, 4] rfl)
                  · refine lv_iload hx hb dX6_lays_104 (lv_at hl 0 rfl) ?_
                    refine lv_goto (tgt := 115) hx hb dX6_lays_106 (by decide) ?_
                    refine n_iast (i := i) (x := (oI (some k))) (g := aO (va_up xsy i (some k))) (ws' := (wR kA qr cc ac co ad rc nm st an svm cnt tx len th (va_up xfy i (xfy i)) xty (va_up xsy i (some k)) xax xw xc xk xp pt wr xm mny)) hx hb hK hP hD hS 6 0 rfl rfl (by omega) (Nat.le_of_ble_eq_true rfl) (aO_up _ _ _) rfl dX6_lays_115 (fun H locs hP hD hS => ?_)
                    refine lv_aload_n hx hb dX6_lays_116 rfl (lv_at hl 3 rfl) ?_
                    refine n_get (ci := 6) (v := .ref (qr 5)) (C := RX6) (T := TX6) (N := 18) hx hb hts hinX6 hown hK hP 0 rfl rfl 7 rfl ⟨rfl, rfl, rfl⟩ f22 rfl dX6_lays_117 ?_
                    refine lv_iload_n hx hb dX6_lays_120 rfl (lv_at hl 1 rfl) ?_
                    refine lv_dup2_11 hx hb dX6_lays_121 rfl rfl ?_
                    refine n_iald (i := i) (v := (nI (xty i))) hx hb hK hP 5 0 rfl rfl (by omega) (Nat.le_of_ble_eq_true rfl) rfl dX6_lays_122 ?_
                    refine lv_iconst (v := (nI 1)) hx hb dX6_lays_123 (by decide) ?_
                    refine n_iadd (v := (nI (xty i + 1))) hx hb (nI_add _ _) dX6_lays_124 ?_
                    refine n_iast (i := i) (x := (nI (xty i + 1))) (g := aN (va_up xty i (xty i + 1))) (ws' := (wR kA qr cc ac co ad rc nm st an svm cnt tx len th (va_up xfy i (xfy i)) (va_up xty i (xty i + 1)) (va_up xsy i (some k)) xax xw xc xk xp pt wr xm mny)) hx hb hK hP hD hS 5 0 rfl rfl (by omega) (Nat.le_of_ble_eq_true rfl) (aN_up _ _ _) rfl dX6_lays_125 (fun H locs hP hD hS => ?_)
                    refine lv_iinc (v := (nI (k + 1))) (lv' := [(4, .int (nI (k + 1))), (3, .int (nI i)), (2, .int (nI (prodF ac cc))), (0, .ref (qr 0)), (1, .int (oI none))]) hx hb dX6_lays_126 hl (k := 0) rfl (nI_inc _) (by decide) rfl (fun ls hl => ?_)
                    refine lv_goto (tgt := 36) hx hb dX6_lays_129 (by decide) ?_
                    exact ih36 (k + 1) (va_up xfy i (xfy i)) (va_up xty i (xty i + 1)) (va_up xsy i (some k)) (by omega) (by first | assumption | omega) (by first | exact kskip hj c60 | (have h9 := kstep hj c60; first | (rw [if_pos c74, if_pos c101] at h9; exact h9) | (rw [if_pos c74, if_neg c101] at h9; exact h9) | (rw [if_neg (show ¬ xty i = 0 by omega), if_pos c101] at h9; exact h9) | (rw [if_neg (show ¬ xty i = 0 by omega), if_neg c101] at h9; exact h9))) _ _ hP hD hS _ (lv_sub hl [0, 1, 2, 3, 4] rfl)
                · refine lv_iload hx hb dX6_lays_77 (lv_at hl 0 rfl) ?_
                  refine lv_goto (tgt := 88) hx hb dX6_lays_79 (by decide) ?_
                  refine n_iast (i := i) (x := (oI (some k))) (g := aO (va_up xfy i (some k))) (ws' := (wR kA qr cc ac co ad rc nm st an svm cnt tx len th (va_up xfy i (some k)) xty xsy xax xw xc xk xp pt wr xm mny)) hx hb hK hP hD hS 4 0 rfl rfl (by omega) (Nat.le_of_ble_eq_true rfl) (aO_up _ _ _) rfl dX6_lays_88 (fun H locs hP hD hS => ?_)
                  refine lv_aload_n hx hb dX6_lays_89 rfl (lv_at hl 3 rfl) ?_
                  refine n_get (ci := 6) (v := .ref (qr 6)) (C := RX6) (T := TX6) (N := 18) hx hb hts hinX6 hown hK hP 0 rfl rfl 8 rfl ⟨rfl, rfl, rfl⟩ f25 rfl dX6_lays_90 ?_
                  refine lv_iload_n hx hb dX6_lays_93 rfl (lv_at hl 1 rfl) ?_
                  refine lv_aload_n hx hb dX6_lays_94 rfl (lv_at hl 3 rfl) ?_
                  refine n_get (ci := 6) (v := .ref (qr 5)) (C := RX6) (T := TX6) (N := 18) hx hb hts hinX6 hown hK hP 0 rfl rfl 7 rfl ⟨rfl, rfl, rfl⟩ f22 rfl dX6_lays_95 ?_
                  refine lv_iload_n hx hb dX6_lays_98 rfl (lv_at hl 1 rfl) ?_
                  refine n_iald (i := i) (v := (nI (xty i))) hx hb hK hP 5 0 rfl rfl (by omega) (Nat.le_of_ble_eq_true rfl) rfl dX6_lays_99 ?_
                  refine lv_iconst (v := (nI 1)) hx hb dX6_lays_100 (by decide) ?_
                  refine n_icmp_ne (a := xty i) (b := 1) (tgt := 109) hx hb (by rw [hj.2.1, up_s]; have := cntB_le (tlW st (bitC ac i cc)) k; omega) (by decide) dX6_lays_101 (by decide) (fun c101 => ?_) (fun c101 => ?_)
                  · refine lv_aload_n hx hb dX6_lays_109 rfl (lv_at hl 3 rfl) ?_
                    refine n_get (ci := 6) (v := .ref (qr 6)) (C := RX6) (T := TX6) (N := 18) hx hb hts hinX6 hown hK hP 0 rfl rfl 8 rfl ⟨rfl, rfl, rfl⟩ f25 rfl dX6_lays_110 ?_
                    refine lv_iload_n hx hb dX6_lays_113 rfl (lv_at hl 1 rfl) ?_
                    refine n_iald (i := i) (v := (oI (xsy i))) hx hb hK hP 6 0 rfl rfl (by omega) (Nat.le_of_ble_eq_true rfl) rfl dX6_lays_114 ?_
                    refine n_iast (i := i) (x := (oI (xsy i))) (g := aO (va_up xsy i (xsy i))) (ws' := (wR kA qr cc ac co ad rc nm st an svm cnt tx len th (va_up xfy i (some k)) xty (va_up xsy i (xsy i)) xax xw xc xk xp pt wr xm mny)) hx hb hK hP hD hS 6 0 rfl rfl (by omega) (Nat.le_of_ble_eq_true rfl) (aO_up _ _ _) rfl dX6_lays_115 (fun H locs hP hD hS => ?_)
                    refine lv_aload_n hx hb dX6_lays_116 rfl (lv_at hl 3 rfl) ?_
                    refine n_get (ci := 6) (v := .ref (qr 5)) (C := RX6) (T := TX6) (N := 18) hx hb hts hinX6 hown hK hP 0 rfl rfl 7 rfl ⟨rfl, rfl, rfl⟩ f22 rfl dX6_lays_117 ?_
                    refine lv_iload_n hx hb dX6_lays_120 rfl (lv_at hl 1 rfl) ?_
                    refine lv_dup2_11 hx hb dX6_lays_121 rfl rfl ?_
                    refine n_iald (i := i) (v := (nI (xty i))) hx hb hK hP 5 0 rfl rfl (by omega) (Nat.le_of_ble_eq_true rfl) rfl dX6_lays_122 ?_
                    refine lv_iconst (v := (nI 1)) hx hb dX6_lays_123 (by decide) ?_
                    refine n_iadd (v := (nI (xty i + 1))) hx hb (nI_add _ _) dX6_lays_124 ?_
                    refine n_iast (i := i) (x := (nI (xty i + 1))) (g := aN (va_up xty i (xty i + 1))) (ws' := (wR kA qr cc ac co ad rc nm st an svm cnt tx len th (va_up xfy i (some k)) (va_up xty i (xty i + 1)) (va_up xsy i (xsy i)) xax xw xc xk xp pt wr xm mny)) hx hb hK hP hD hS 5 0 rfl rfl (by omega) (Nat.le_of_ble_eq_true rfl) (aN_up _ _ _) rfl dX6_lays_125 (fun H locs hP hD hS => ?_)
                    refine lv_iinc (v := (nI (k + 1))) (lv' := [(4, .int (nI (k + 1))), (3, .int (nI i)), (2, .int (nI (prodF ac cc))), (0, .ref (qr 0)), (1, .int (oI none))]) hx hb dX6_lays_126 hl (k := 0) rfl (nI_inc _) (by decide) rfl (fun ls hl => ?_)
                    refine lv_goto (tgt := 36) hx hb dX6_lays_129 (by decide) ?_
                    exact ih36 (k + 1) (va_up xfy i (some k)) (va_up xty i (xty i + 1)) (va_up xsy i (xsy i)) (by omega) (by first | assumption | omega) (by first | exact kskip hj c60 | (have h9 := kstep hj c60; first | (rw [if_pos c74, if_pos c101] at h9; exact h9) | (rw [if_pos c74, if_neg c101] at h9; exact h9) | (rw [if_neg (show ¬ xty i = 0 by omega), if_pos c101] at h9; exact h9) | (rw [if_neg (show ¬ xty i = 0 by omega), if_neg c101] at h9; exact h9))) _ _ hP hD hS _ (lv_sub hl [0, 1, 2, 3, 4] rfl)
                  · refine lv_iload hx hb dX6_lays_104 (lv_at hl 0 rfl) ?_
                    refine lv_goto (tgt := 115) hx hb dX6_lays_106 (by decide) ?_
                    refine n_iast (i := i) (x := (oI (some k))) (g := aO (va_up xsy i (some k))) (ws' := (wR kA qr cc ac co ad rc nm st an svm cnt tx len th (va_up xfy i (some k)) xty (va_up xsy i (some k)) xax xw xc xk xp pt wr xm mny)) hx hb hK hP hD hS 6 0 rfl rfl (by omega) (Nat.le_of_ble_eq_true rfl) (aO_up _ _ _) rfl dX6_lays_115 (fun H locs hP hD hS => ?_)
                    refine lv_aload_n hx hb dX6_lays_116 rfl (lv_at hl 3 rfl) ?_
                    refine n_get (ci := 6) (v := .ref (qr 5)) (C := RX6) (T := TX6) (N := 18) hx hb hts hinX6 hown hK hP 0 rfl rfl 7 rfl ⟨rfl, rfl, rfl⟩ f22 rfl dX6_lays_117 ?_
                    refine lv_iload_n hx hb dX6_lays_120 rfl (lv_at hl 1 rfl) ?_
                    refine lv_dup2_11 hx hb dX6_lays_121 rfl rfl ?_
                    refine n_iald (i := i) (v := (nI (xty i))) hx hb hK hP 5 0 rfl rfl (by omega) (Nat.le_of_ble_eq_true rfl) rfl dX6_lays_122 ?_
                    refine lv_iconst (v := (nI 1)) hx hb dX6_lays_123 (by decide) ?_
                    refine n_iadd (v := (nI (xty i + 1))) hx hb (nI_add _ _) dX6_lays_124 ?_
                    refine n_iast (i := i) (x := (nI (xty i + 1))) (g := aN (va_up xty i (xty i + 1))) (ws' := (wR kA qr cc ac co ad rc nm st an svm cnt tx len th (va_up xfy i (some k)) (va_up xty i (xty i + 1)) (va_up xsy i (some k)) xax xw xc xk xp pt wr xm mny)) hx hb hK hP hD hS 5 0 rfl rfl (by omega) (Nat.le_of_ble_eq_true rfl) (aN_up _ _ _) rfl dX6_lays_125 (fun H locs hP hD hS => ?_)
                    refine lv_iinc (v := (nI (k + 1))) (lv' := [(4, .int (nI (k + 1))), (3, .int (nI i)), (2, .int (nI (prodF ac cc))), (0, .ref (qr 0)), (1, .int (oI none))]) hx hb dX6_lays_126 hl (k := 0) rfl (nI_inc _) (by decide) rfl (fun ls hl => ?_)
                    refine lv_goto (tgt := 36) hx hb dX6_lays_129 (by decide) ?_
                    exact ih36 (k + 1) (va_up xfy i (some k)) (va_up xty i (xty i + 1)) (va_up xsy i (some k)) (by omega) (by first | assumption | omega) (by first | exact kskip hj c60 | (have h9 := kstep hj c60; first | (rw [if_pos c74, if_pos c101] at h9; exact h9) | (rw [if_pos c74, if_neg c101] at h9; exact h9) | (rw [if_neg (show ¬ xty i = 0 by omega), if_pos c101] at h9; exact h9) | (rw [if_neg (show ¬ xty i = 0 by omega), if_neg c101] at h9; exact h9))) _ _ hP hD hS _ (lv_sub hl [0, 1, 2, 3, 4] rfl)
        exact L36 ((rc - 0) + 1) 0 (va_up xfx i none) (va_up xtx i 0) (va_up xsx i none) (Nat.lt_succ_self _) (by first | assumption | omega) ⟨rfl, rfl, rfl⟩ _ _ hP hD hS _ (lv_sub hl [0, 1, 2, 3, 4] rfl)
  exact L7 ((prodF ac cc - 0) + 1) 0 xf xt xs xa (Nat.lt_succ_self _) (Nat.zero_le _) (fun c hc => absurd hc (Nat.not_lt_zero _)) _ _ hP hD hS _ (lv_sub hl [0, 1, 2, 3] rfl)

set_option maxHeartbeats 4000000 in
set_option maxRecDepth 100000 in
theorem c_X6_ownOf (lQ : Launch) (D : va_G) (kA : Nat → ClassId) (qr : Nat → Nat) (cc : Nat) (ac : Nat → Nat) (co : Nat → Nat) (ad : Nat) (rc : Nat) (nm : Nat → Nat) (st : Nat → Nat) (an : Nat → Nat) (svm : Nat → TCt) (cnt : Nat) (tx : Nat → Nat) (len : Nat) (th : Nat) (xf : Nat → Option Nat) (xt : Nat → Nat) (xs : Nat → Option Nat) (xa : Nat → Nat) (xw : Nat → Nat) (xc : Nat → Nat) (xk : Nat → Option Nat) (xp : Nat → Nat) (pt : Nat) (wr : Option Nat) (xm : Nat → Nat) (mny : Nat) (p : Nat) (n : Nat) (hp : p < 20) (hn2 : n ≤ 1024) (hxf : ∀ c q, c < n → xf c = some q → q < 20) : Met lQ yX6_ownOf wsX6_ownOf (rmN 0 0) (rd_Pc D vwCl [.ref (qr 0), .int (nI p), .int (nI n)] (wR kA qr cc ac co ad rc nm st an svm cnt tx len th xf xt xs xa xw xc xk xp pt wr xm mny) (tyK kA)) (vp_Si (fun r : Int32 => r = (nI (cntB (fun c => decide (xf c = some p)) n)))) 0 0 (fun _ => False) := by
  refine Met.ofW (cc := cX6_ownOf) (maxL := 5) (ret := (some .int)) (by decide) rfl ?_
  intro pQ eQ s mQ args below meth cQ s₁ B hml hv
  obtain ⟨rfl, hP, hK⟩ := hv
  have hx := B.exec
  have hb := B.bytes
  have hr := B.returns
  have hts := atoms_spec (ws := wsX6_ownOf) B.pre
  have hown : s.vm.findClass RX6 = some mQ.cls := findClass_of_methodNamed B.named
  have hlocks : meth.locks = false := B.notSynchronized
  have hS0 : CallFix pQ mQ cQ cX6_ownOf 5 s ([.ref (qr 0), .int (nI p), .int (nI n)] : List Value).toArray wsX6_ownOf RX6 := ⟨hx, hb, hml, hown, hts⟩
  have f19 : (Cond.fieldLink RX6 19 "AskedRulesModel" "firsts" "[I").before ([.ref (qr 0), .int (nI p), .int (nI n)] : List Value).toArray s = true := hts _ (by decide +kernel)
  have hinX6 : ∀ w ∈ wsX60, w ∈ wsX6_ownOf := by decide +kernel
  have hl := lv_entry ([.ref (qr 0), .int (nI p), .int (nI n)]) (n := 5) (Nat.le_of_ble_eq_true rfl)
  rw [lg_entry_eq]
  generalize (lg_sl ([.ref (qr 0), .int (nI p), .int (nI n)]) ++ List.replicate (5 - (lg_sl ([.ref (qr 0), .int (nI p), .int (nI n)])).length) Slot.unset).toArray = ls at hl ⊢
  have hl : lv_has ls 5 [(0, .ref (qr 0)), (1, .int (nI p)), (2, .int (nI n))] := hl
  have hP : va_P D vwCl (wR kA qr cc ac co ad rc nm st an svm cnt tx len th xf xt xs xa xw xc xk xp pt wr xm mny) s.heap := hP
  refine lv_iconst (v := (nI 0)) hx hb dX6_ownOf_0 (by decide) ?_
  refine lv_istore_n (lv' := [(3, .int (nI 0)), (0, .ref (qr 0)), (1, .int (nI p)), (2, .int (nI n))]) hx hb dX6_ownOf_1 rfl hl (by decide) rfl (fun ls hl => ?_)
  refine lv_iconst (v := (nI 0)) hx hb dX6_ownOf_2 (by decide) ?_
  refine lv_istore (lv' := [(4, .int (nI 0)), (3, .int (nI 0)), (0, .ref (qr 0)), (1, .int (nI p)), (2, .int (nI n))]) hx hb dX6_ownOf_3 hl (by decide) rfl (fun ls hl => ?_)
  have L5 : ∀ (nQ : Nat) (i : Nat) (u : Nat), n - i < nQ → (i ≤ n) → (u = cntB (fun c => decide (xf c = some p)) i) → ∀ (ls : Array Slot), lv_has ls 5 [(4, .int (nI i)), (3, .int (nI u)), (0, .ref (qr 0)), (1, .int (nI p)), (2, .int (nI n))] → W pQ lQ eQ (headSpec wsX6_ownOf (rmN 0 0)).room s mQ ([.ref (qr 0), .int (nI p), .int (nI n)] : List Value).toArray below meth cQ s.heap [] 0 0 (MQ below (vp_Si (fun r : Int32 => r = (nI (cntB (fun c => decide (xf c = some p)) n)))) ([.ref (qr 0), .int (nI p), .int (nI n)] : List Value).toArray s 0 0 (fun _ => False)) (F0 mQ 5 ls []) := by
    intro nQ
    induction nQ with
    | zero => intro i u hn; exact absurd hn (Nat.not_lt_zero _)
    | succ nQ ih5 =>
      intro i u hm5 hi hu ls hl
      refine lv_iload hx hb dX6_ownOf_5 (lv_at hl 0 rfl) ?_
      refine lv_iload_n hx hb dX6_ownOf_7 rfl (lv_at hl 4 rfl) ?_
      refine n_icmp_ge (a := i) (b := n) (tgt := 36) hx hb (by omega) (by omega) dX6_ownOf_8 (by decide) (fun c8 => ?_) (fun c8 => ?_)
      · refine lv_iload_n hx hb dX6_ownOf_36 rfl (lv_at hl 1 rfl) ?_
        have e9 : n = i := by omega
        exact n_reti hx hb hr hlocks (post := fun r : Int32 => r = (nI (cntB (fun c => decide (xf c = some p)) n))) (by rw [hu, e9]) rfl dX6_ownOf_37
      · refine lv_iload_n hx hb dX6_ownOf_11 rfl (lv_at hl 1 rfl) ?_
        refine lv_aload_n hx hb dX6_ownOf_12 rfl (lv_at hl 2 rfl) ?_
        refine n_get (ci := 6) (v := .ref (qr 4)) (C := RX6) (T := TX6) (N := 18) hx hb hts hinX6 hown hK hP 0 rfl rfl 6 rfl ⟨rfl, rfl, rfl⟩ f19 rfl dX6_ownOf_13 ?_
        refine lv_iload hx hb dX6_ownOf_16 (lv_at hl 0 rfl) ?_
        refine n_iald (i := i) (v := (oI (xf i))) hx hb hK hP 4 0 rfl rfl (by omega) (Nat.le_of_ble_eq_true rfl) rfl dX6_ownOf_18 ?_
        refine lv_iload_n hx hb dX6_ownOf_19 rfl (lv_at hl 3 rfl) ?_
        refine lv_icmp_ne (tgt := 27) hx hb dX6_ownOf_20 (by decide) (fun c20 => ?_) (fun c20 => ?_)
        · refine lv_iconst (v := (nI 0)) hx hb dX6_ownOf_27 (by decide) ?_
          refine n_iadd (v := (nI u)) hx hb (nI_add _ _) dX6_ownOf_28 ?_
          refine lv_istore_n (lv' := [(3, .int (nI u)), (4, .int (nI i)), (0, .ref (qr 0)), (1, .int (nI p)), (2, .int (nI n))]) hx hb dX6_ownOf_29 rfl hl (by decide) rfl (fun ls hl => ?_)
          refine lv_iinc (v := (nI (i + 1))) (lv' := [(4, .int (nI (i + 1))), (3, .int (nI u)), (0, .ref (qr 0)), (1, .int (nI p)), (2, .int (nI n))]) hx hb dX6_ownOf_30 hl (k := 1) rfl (nI_inc _) (by decide) rfl (fun ls hl => ?_)
          refine lv_goto (tgt := 5) hx hb dX6_ownOf_33 (by decide) ?_
          have hoN : oI (xf i) = nI p ↔ xf i = some p := oI_N (fun q h => by have := hxf i q (by omega) h; omega) (by omega)
          exact ih5 (i + 1) u (by omega) (by first | assumption | omega) (by first | (rw [cntB_st (f := fun c => decide (xf c = some p)) (decide_eq_true (hoN.mp c20)), ← hu]; done) | (rw [cntB_sf (f := fun c => decide (xf c = some p)) (decide_eq_false (fun h => c20 (hoN.mpr h))), ← hu])) _ (lv_sub hl [0, 1, 2, 3, 4] rfl)
        · refine lv_iconst (v := (nI 1)) hx hb dX6_ownOf_23 (by decide) ?_
          refine lv_goto (tgt := 28) hx hb dX6_ownOf_24 (by decide) ?_
          refine n_iadd (v := (nI (u + 1))) hx hb (nI_add _ _) dX6_ownOf_28 ?_
          refine lv_istore_n (lv' := [(3, .int (nI (u + 1))), (4, .int (nI i)), (0, .ref (qr 0)), (1, .int (nI p)), (2, .int (nI n))]) hx hb dX6_ownOf_29 rfl hl (by decide) rfl (fun ls hl => ?_)
          refine lv_iinc (v := (nI (i + 1))) (lv' := [(4, .int (nI (i + 1))), (3, .int (nI (u + 1))), (0, .ref (qr 0)), (1, .int (nI p)), (2, .int (nI n))]) hx hb dX6_ownOf_30 hl (k := 1) rfl (nI_inc _) (by decide) rfl (fun ls hl => ?_)
          refine lv_goto (tgt := 5) hx hb dX6_ownOf_33 (by decide) ?_
          have hoN : oI (xf i) = nI p ↔ xf i = some p := oI_N (fun q h => by have := hxf i q (by omega) h; omega) (by omega)
          exact ih5 (i + 1) (u + 1) (by omega) (by first | assumption | omega) (by first | (rw [cntB_st (f := fun c => decide (xf c = some p)) (decide_eq_true (hoN.mp c20)), ← hu]; done) | (rw [cntB_sf (f := fun c => decide (xf c = some p)) (decide_eq_false (fun h => c20 (hoN.mpr h))), ← hu])) _ (lv_sub hl [0, 1, 2, 3, 4] rfl)
  exact L5 ((n - 0) + 1) 0 0 (Nat.lt_succ_self _) (by first | assumption | omega) rfl _ (lv_sub hl [0, 1, 2, 3, 4] rfl)

set_option maxHeartbeats 4000000 in
set_option maxRecDepth 100000 in
theorem c_X6_matters (lQ : Launch) (D : va_G) (kA : Nat → ClassId) (qr : Nat → Nat) (cc : Nat) (ac : Nat → Nat) (co : Nat → Nat) (ad : Nat) (rc : Nat) (nm : Nat → Nat) (st : Nat → Nat) (an : Nat → Nat) (svm : Nat → TCt) (cnt : Nat) (tx : Nat → Nat) (len : Nat) (th : Nat) (xf : Nat → Option Nat) (xt : Nat → Nat) (xs : Nat → Option Nat) (xa : Nat → Nat) (xw : Nat → Nat) (xc : Nat → Nat) (xk : Nat → Option Nat) (xp : Nat → Nat) (pt : Nat) (wr : Option Nat) (xm : Nat → Nat) (mny : Nat) (k : Nat) (hcc : cc ≤ 5) (hac : ∀ k, k < cc → 2 ≤ ac k ∧ ac k ≤ 4) (han : ∀ j, j < rc → an j < 11) (hl9 : laid cc ac rc st an xf xt xs xa (prodF ac cc)) (hk : k < cc) : Met lQ yX6_matters wsX6_matters (rmN 2 45) (rd_Pc D vwCl [.ref (qr 0), .int (nI k)] (wR kA qr cc ac co ad rc nm st an svm cnt tx len th xf xt xs xa xw xc xk xp pt wr xm mny) (tyK kA)) (vp_Si (fun r : Int32 => r = (bI (matF cc ac rc st an k)))) 0 0 (fun _ => False) := by
  refine Met.ofW (cc := cX6_matters) (maxL := 5) (ret := (some .boolean)) (by decide) rfl ?_
  intro pQ eQ s mQ args below meth cQ s₁ B hml hv
  obtain ⟨rfl, hP, hK⟩ := hv
  have hx := B.exec
  have hb := B.bytes
  have hr := B.returns
  have hts := atoms_spec (ws := wsX6_matters) B.pre
  have hown : s.vm.findClass RX6 = some mQ.cls := findClass_of_methodNamed B.named
  have hlocks : meth.locks = false := B.notSynchronized
  have hS0 : CallFix pQ mQ cQ cX6_matters 5 s ([.ref (qr 0), .int (nI k)] : List Value).toArray wsX6_matters RX6 := ⟨hx, hb, hml, hown, hts⟩
  have f28 : (Cond.fieldLink RX6 28 "AskedRulesModel" "actions" "[I").before ([.ref (qr 0), .int (nI k)] : List Value).toArray s = true := hts _ (by decide +kernel)
  have hinX6 : ∀ w ∈ wsX60, w ∈ wsX6_matters := by decide +kernel
  have hl := lv_entry ([.ref (qr 0), .int (nI k)]) (n := 5) (Nat.le_of_ble_eq_true rfl)
  rw [lg_entry_eq]
  generalize (lg_sl ([.ref (qr 0), .int (nI k)]) ++ List.replicate (5 - (lg_sl ([.ref (qr 0), .int (nI k)])).length) Slot.unset).toArray = ls at hl ⊢
  have hl : lv_has ls 5 [(0, .ref (qr 0)), (1, .int (nI k))] := hl
  have hP : va_P D vwCl (wR kA qr cc ac co ad rc nm st an svm cnt tx len th xf xt xs xa xw xc xk xp pt wr xm mny) s.heap := hP
  have hP10 := prodF_1024 hcc hac
  have hax9 : ∀ c, c < prodF ac cc → xa c = axN cc ac rc st an c := fun c hc => (hl9 c hc).2.2.2
  refine lv_iconst (v := (nI 1)) hx hb dX6_matters_0 (by decide) ?_
  refine lv_istore_n (lv' := [(2, .int (nI 1)), (0, .ref (qr 0)), (1, .int (nI k))]) hx hb dX6_matters_1 rfl hl (by decide) rfl (fun ls hl => ?_)
  refine lv_iconst (v := (nI 0)) hx hb dX6_matters_2 (by decide) ?_
  refine lv_istore_n (lv' := [(3, .int (nI 0)), (2, .int (nI 1)), (0, .ref (qr 0)), (1, .int (nI k))]) hx hb dX6_matters_3 rfl hl (by decide) rfl (fun ls hl => ?_)
  have L4 : ∀ (nQ : Nat) (i : Nat) (u : Nat), k - i < nQ → (i ≤ k) → (u = prodF ac i) → ∀ (ls : Array Slot), lv_has ls 5 [(3, .int (nI i)), (2, .int (nI u)), (0, .ref (qr 0)), (1, .int (nI k))] → W pQ lQ eQ (headSpec wsX6_matters (rmN 2 45)).room s mQ ([.ref (qr 0), .int (nI k)] : List Value).toArray below meth cQ s.heap [] 0 0 (MQ below (vp_Si (fun r : Int32 => r = (bI (matF cc ac rc st an k)))) ([.ref (qr 0), .int (nI k)] : List Value).toArray s 0 0 (fun _ => False)) (F0 mQ 4 ls []) := by
    intro nQ
    induction nQ with
    | zero => intro i u hn; exact absurd hn (Nat.not_lt_zero _)
    | succ nQ ih4 =>
      intro i u hm4 hi hu ls hl
      refine lv_iload_n hx hb dX6_matters_4 rfl (lv_at hl 0 rfl) ?_
      refine lv_iload_n hx hb dX6_matters_5 rfl (lv_at hl 3 rfl) ?_
      refine n_icmp_ge (a := i) (b := k) (tgt := 23) hx hb (by omega) (by omega) dX6_matters_6 (by decide) (fun c6 => ?_) (fun c6 => ?_)
      · refine lv_iconst (v := (nI 0)) hx hb dX6_matters_23 (by decide) ?_
        refine lv_istore_n (lv' := [(3, .int (nI 0)), (2, .int (nI u)), (0, .ref (qr 0)), (1, .int (nI k))]) hx hb dX6_matters_24 rfl hl (by decide) rfl (fun ls hl => ?_)
        refine lv_iconst (v := (nI 0)) hx hb dX6_matters_25 (by decide) ?_
        refine lv_istore (lv' := [(4, .int (nI 0)), (3, .int (nI 0)), (2, .int (nI u)), (0, .ref (qr 0)), (1, .int (nI k))]) hx hb dX6_matters_26 hl (by decide) rfl (fun ls hl => ?_)
        have L28 : ∀ (nQ : Nat) (j : Nat) (b : Bool), prodF ac cc - j < nQ → (j ≤ prodF ac cc) → (b = (firstF (fun c => decide (0 < digF ac k c) && decide (xa c ≠ xa (c - prodF ac k))) j).isSome) → ∀ (ls : Array Slot), lv_has ls 5 [(4, .int (nI j)), (3, .int (bI b)), (2, .int (nI u)), (0, .ref (qr 0)), (1, .int (nI k))] → W pQ lQ eQ (headSpec wsX6_matters (rmN 2 45)).room s mQ ([.ref (qr 0), .int (nI k)] : List Value).toArray below meth cQ s.heap [] 0 0 (MQ below (vp_Si (fun r : Int32 => r = (bI (matF cc ac rc st an k)))) ([.ref (qr 0), .int (nI k)] : List Value).toArray s 0 0 (fun _ => False)) (F0 mQ 28 ls []) := by
          intro nQ
          induction nQ with
          | zero => intro j b hn; exact absurd hn (Nat.not_lt_zero _)
          | succ nQ ih28 =>
            intro j b hm28 hj hb9 ls hl
            refine lv_iload hx hb dX6_matters_28 (lv_at hl 0 rfl) ?_
            refine lv_aload_n hx hb dX6_matters_30 rfl (lv_at hl 3 rfl) ?_
            refine n_cV (b := qr 0) (As := []) (rest := [.int (nI j)]) (wc := (wR kA qr cc ac co ad rc nm st an svm cnt tx len th xf xt xs xa xw xc xk xp pt wr xm mny)) hS0 (c_X6_cases lQ D kA qr cc ac co ad rc nm st an svm cnt tx len th xf xt xs xa xw xc xk xp pt wr xm mny (by first | assumption | omega)) (cwV 0 hts gX6_matters_X6_cases rfl rfl rfl (by decide +kernel) ⟨Nat.le_of_ble_eq_true rfl, Nat.le_of_ble_eq_true rfl⟩) hP hK (q0 := 0) rfl rfl rfl rfl rfl hl.1 (Nat.le_of_ble_eq_true rfl) dX6_matters_31 ⟨Nat.le_refl _, Nat.le_refl _⟩ (fun r31 h31 => ?_)
            subst h31
            refine n_icmp_ge (a := j) (b := prodF ac cc) (tgt := 82) hx hb (by omega) (by omega) dX6_matters_34 (by decide) (fun c34 => ?_) (fun c34 => ?_)
            · refine lv_iload_n hx hb dX6_matters_82 rfl (lv_at hl 1 rfl) ?_
              exact n_retz hx hb hr hlocks (post := fun r : Int32 => r = (bI (matF cc ac rc st an k))) (narrow_bI _) (by rw [← mat_eq hac hk hax9, hb9, show j = prodF ac cc by omega]) rfl dX6_matters_83
            · refine lv_iload_n hx hb dX6_matters_37 rfl (lv_at hl 1 rfl) ?_
              refine n_ifb_ne (b := b) (tgt := 70) hx hb dX6_matters_38 (by decide) (fun c38 => ?_) (fun c38 => ?_)
              · refine lv_iconst (v := (nI 1)) hx hb dX6_matters_70 (by decide) ?_
                refine lv_goto (tgt := 75) hx hb dX6_matters_71 (by decide) ?_
                refine lv_istore_n (lv' := [(3, .int (nI 1)), (4, .int (nI j)), (2, .int (nI u)), (0, .ref (qr 0)), (1, .int (nI k))]) hx hb dX6_matters_75 rfl hl (by decide) rfl (fun ls hl => ?_)
                refine lv_iinc (v := (nI (j + 1))) (lv' := [(4, .int (nI (j + 1))), (3, .int (nI 1)), (2, .int (nI u)), (0, .ref (qr 0)), (1, .int (nI k))]) hx hb dX6_matters_76 hl (k := 1) rfl (nI_inc _) (by decide) rfl (fun ls hl => ?_)
                refine lv_goto (tgt := 28) hx hb dX6_matters_79 (by decide) ?_
                have huk : u = prodF ac k := by rw [hu, show i = k by omega]
                exact ih28 (j + 1) true (by omega) (by first | assumption | omega) (by rw [some_s, ← hb9]; first | (rw [c38]; rfl) | (rw [c38]; show _ = (false || (decide (0 < digF ac k j) && decide (xa j ≠ xa (j - prodF ac k)))); first | (rw [decide_eq_false (p := 0 < digF ac k j) (by omega)]; rfl) | (rw [← huk, decide_eq_false (p := xa j ≠ xa (j - u)) (fun h => h c67), Bool.and_false]; rfl) | (rw [decide_eq_true (p := 0 < digF ac k j) c48, ← huk, decide_eq_true (p := xa j ≠ xa (j - u)) c67]; rfl))) _ (lv_sub hl [0, 1, 2, 3, 4] rfl)
              · refine lv_aload_n hx hb dX6_matters_41 rfl (lv_at hl 3 rfl) ?_
                refine lv_iload hx hb dX6_matters_42 (lv_at hl 0 rfl) ?_
                refine lv_iload_n hx hb dX6_matters_44 rfl (lv_at hl 4 rfl) ?_
                refine n_cV (b := qr 0) (As := [.int (nI j), .int (nI k)]) (rest := []) (wc := (wR kA qr cc ac co ad rc nm st an svm cnt tx len th xf xt xs xa xw xc xk xp pt wr xm mny)) hS0 (c_X6_answer lQ D kA qr cc ac co ad rc nm st an svm cnt tx len th xf xt xs xa xw xc xk xp pt wr xm mny j k (by first | assumption | omega) (by first | assumption | omega) (by first | assumption | omega) (by first | assumption | omega)) (cwV 2 hts gX6_matters_X6_answer rfl rfl rfl (by decide +kernel) ⟨Nat.le_of_ble_eq_true rfl, Nat.le_of_ble_eq_true rfl⟩) hP hK (q0 := 0) rfl rfl rfl rfl rfl hl.1 (Nat.le_of_ble_eq_true rfl) dX6_matters_45 ⟨Nat.le_refl _, Nat.le_refl _⟩ (fun r45 h45 => ?_)
                subst h45
                refine n_if_le (a := digF ac k j) (tgt := 74) hx hb (by have := digF_lt (ac := ac) (k := k) (c := j) (by have := (hac k hk).1; omega); have := (hac k hk).2; omega) dX6_matters_48 (by decide) (fun c48 => ?_) (fun c48 => ?_)
                · refine lv_iconst (v := (nI 0)) hx hb dX6_matters_74 (by decide) ?_
                  refine lv_istore_n (lv' := [(3, .int (nI 0)), (4, .int (nI j)), (2, .int (nI u)), (0, .ref (qr 0)), (1, .int (nI k))]) hx hb dX6_matters_75 rfl hl (by decide) rfl (fun ls hl => ?_)
                  refine lv_iinc (v := (nI (j + 1))) (lv' := [(4, .int (nI (j + 1))), (3, .int (nI 0)), (2, .int (nI u)), (0, .ref (qr 0)), (1, .int (nI k))]) hx hb dX6_matters_76 hl (k := 1) rfl (nI_inc _) (by decide) rfl (fun ls hl => ?_)
                  refine lv_goto (tgt := 28) hx hb dX6_matters_79 (by decide) ?_
                  have huk : u = prodF ac k := by rw [hu, show i = k by omega]
                  exact ih28 (j + 1) false (by omega) (by first | assumption | omega) (by rw [some_s, ← hb9]; first | (rw [c38]; rfl) | (rw [c38]; show _ = (false || (decide (0 < digF ac k j) && decide (xa j ≠ xa (j - prodF ac k)))); first | (rw [decide_eq_false (p := 0 < digF ac k j) (by omega)]; rfl) | (rw [← huk, decide_eq_false (p := xa j ≠ xa (j - u)) (fun h => h c67), Bool.and_false]; rfl) | (rw [decide_eq_true (p := 0 < digF ac k j) c48, ← huk, decide_eq_true (p := xa j ≠ xa (j - u)) c67]; rfl))) _ (lv_sub hl [0, 1, 2, 3, 4] rfl)
                · refine lv_aload_n hx hb dX6_matters_51 rfl (lv_at hl 3 rfl) ?_
                  refine n_get (ci := 6) (v := .ref (qr 7)) (C := RX6) (T := TX6) (N := 18) hx hb hts hinX6 hown hK hP 0 rfl rfl 9 rfl ⟨rfl, rfl, rfl⟩ f28 rfl dX6_matters_52 ?_
                  refine lv_iload hx hb dX6_matters_55 (lv_at hl 0 rfl) ?_
                  refine n_iald (i := j) (v := (nI (xa j))) hx hb hK hP 7 0 rfl rfl (by omega) (Nat.le_of_ble_eq_true rfl) rfl dX6_matters_57 ?_
                  refine lv_aload_n hx hb dX6_matters_58 rfl (lv_at hl 3 rfl) ?_
                  refine n_get (ci := 6) (v := .ref (qr 7)) (C := RX6) (T := TX6) (N := 18) hx hb hts hinX6 hown hK hP 0 rfl rfl 9 rfl ⟨rfl, rfl, rfl⟩ f28 rfl dX6_matters_59 ?_
                  refine lv_iload hx hb dX6_matters_62 (lv_at hl 0 rfl) ?_
                  refine lv_iload_n hx hb dX6_matters_64 rfl (lv_at hl 2 rfl) ?_
                  refine n_isub (v := (nI (j - u))) hx hb (pk_sub (by rw [hu, show i = k by omega]; exact dig_ge c48)) dX6_matters_65 ?_
                  refine n_iald (i := j - u) (v := (nI (xa (j - u)))) hx hb hK hP 7 0 rfl rfl (by omega) (Nat.le_of_ble_eq_true rfl) rfl dX6_matters_66 ?_
                  refine n_icmp_eq (a := xa j) (b := xa (j - u)) (tgt := 74) hx hb (by rw [(hl9 _ (by omega)).2.2.2]; exact Nat.lt_trans (actO_lt han) (by decide)) (by rw [(hl9 _ (by omega)).2.2.2]; exact Nat.lt_trans (actO_lt han) (by decide)) dX6_matters_67 (by decide) (fun c67 => ?_) (fun c67 => ?_)
                  · refine lv_iconst (v := (nI 0)) hx hb dX6_matters_74 (by decide) ?_
                    refine lv_istore_n (lv' := [(3, .int (nI 0)), (4, .int (nI j)), (2, .int (nI u)), (0, .ref (qr 0)), (1, .int (nI k))]) hx hb dX6_matters_75 rfl hl (by decide) rfl (fun ls hl => ?_)
                    refine lv_iinc (v := (nI (j + 1))) (lv' := [(4, .int (nI (j + 1))), (3, .int (nI 0)), (2, .int (nI u)), (0, .ref (qr 0)), (1, .int (nI k))]) hx hb dX6_matters_76 hl (k := 1) rfl (nI_inc _) (by decide) rfl (fun ls hl => ?_)
                    refine lv_goto (tgt := 28) hx hb dX6_matters_79 (by decide) ?_
                    have huk : u = prodF ac k := by rw [hu, show i = k by omega]
                    exact ih28 (j + 1) false (by omega) (by first | assumption | omega) (by rw [some_s, ← hb9]; first | (rw [c38]; rfl) | (rw [c38]; show _ = (false || (decide (0 < digF ac k j) && decide (xa j ≠ xa (j - prodF ac k)))); first | (rw [decide_eq_false (p := 0 < digF ac k j) (by omega)]; rfl) | (rw [← huk, decide_eq_false (p := xa j ≠ xa (j - u)) (fun h => h c67), Bool.and_false]; rfl) | (rw [decide_eq_true (p := 0 < digF ac k j) c48, ← huk, decide_eq_true (p := xa j ≠ xa (j - u)) c67]; rfl))) _ (lv_sub hl [0, 1, 2, 3, 4] rfl)
                  · refine lv_iconst (v := (nI 1)) hx hb dX6_matters_70 (by decide) ?_
                    refine lv_goto (tgt := 75) hx hb dX6_matters_71 (by decide) ?_
                    refine lv_istore_n (lv' := [(3, .int (nI 1)), (4, .int (nI j)), (2, .int (nI u)), (0, .ref (qr 0)), (1, .int (nI k))]) hx hb dX6_matters_75 rfl hl (by decide) rfl (fun ls hl => ?_)
                    refine lv_iinc (v := (nI (j + 1))) (lv' := [(4, .int (nI (j + 1))), (3, .int (nI 1)), (2, .int (nI u)), (0, .ref (qr 0)), (1, .int (nI k))]) hx hb dX6_matters_76 hl (k := 1) rfl (nI_inc _) (by decide) rfl (fun ls hl => ?_)
                    refine lv_goto (tgt := 28) hx hb dX6_matters_79 (by decide) ?_
                    have huk : u = prodF ac k := by rw [hu, show i = k by omega]
                    exact ih28 (j + 1) true (by omega) (by first | assumption | omega) (by rw [some_s, ← hb9]; first | (rw [c38]; rfl) | (rw [c38]; show _ = (false || (decide (0 < digF ac k j) && decide (xa j ≠ xa (j - prodF ac k)))); first | (rw [decide_eq_false (p := 0 < digF ac k j) (by omega)]; rfl) | (rw [← huk, decide_eq_false (p := xa j ≠ xa (j - u)) (fun h => h c67), Bool.and_false]; rfl) | (rw [decide_eq_true (p := 0 < digF ac k j) c48, ← huk, decide_eq_true (p := xa j ≠ xa (j - u)) c67]; rfl))) _ (lv_sub hl [0, 1, 2, 3, 4] rfl)
        exact L28 ((prodF ac cc - 0) + 1) 0 false (Nat.lt_succ_self _) (Nat.zero_le _) rfl _ (lv_sub hl [0, 1, 2, 3, 4] rfl)
      · refine lv_iload_n hx hb dX6_matters_9 rfl (lv_at hl 1 rfl) ?_
        refine lv_aload_n hx hb dX6_matters_10 rfl (lv_at hl 2 rfl) ?_
        refine lv_iload_n hx hb dX6_matters_11 rfl (lv_at hl 0 rfl) ?_
        refine n_cV (b := qr 0) (As := [.int (nI i)]) (rest := [.int (nI u)]) (wc := (wR kA qr cc ac co ad rc nm st an svm cnt tx len th xf xt xs xa xw xc xk xp pt wr xm mny)) hS0 (c_X6_answersOf lQ D kA qr cc ac co ad rc nm st an svm cnt tx len th xf xt xs xa xw xc xk xp pt wr xm mny i (by first | assumption | omega)) (cwV 1 hts gX6_matters_X6_answersOf rfl rfl rfl (by decide +kernel) ⟨Nat.le_of_ble_eq_true rfl, Nat.le_of_ble_eq_true rfl⟩) hP hK (q0 := 0) rfl rfl rfl rfl rfl hl.1 (Nat.le_of_ble_eq_true rfl) dX6_matters_12 ⟨Nat.le_refl _, Nat.le_refl _⟩ (fun r12 h12 => ?_)
        subst h12
        refine n_imul (v := (nI (u * (ac i)))) hx hb (pk_mul _ _) dX6_matters_15 ?_
        refine lv_istore_n (lv' := [(2, .int (nI (u * (ac i)))), (3, .int (nI i)), (0, .ref (qr 0)), (1, .int (nI k))]) hx hb dX6_matters_16 rfl hl (by decide) rfl (fun ls hl => ?_)
        refine lv_iinc (v := (nI (i + 1))) (lv' := [(3, .int (nI (i + 1))), (2, .int (nI (u * (ac i)))), (0, .ref (qr 0)), (1, .int (nI k))]) hx hb dX6_matters_17 hl (k := 1) rfl (nI_inc _) (by decide) rfl (fun ls hl => ?_)
        refine lv_goto (tgt := 4) hx hb dX6_matters_20 (by decide) ?_
        exact ih4 (i + 1) (u * (ac i)) (by omega) (by first | assumption | omega) (by rw [hu]; rfl) _ (lv_sub hl [0, 1, 2, 3] rfl)
  exact L4 ((k - 0) + 1) 0 1 (Nat.lt_succ_self _) (by first | assumption | omega) rfl _ (lv_sub hl [0, 1, 2, 3] rfl)

set_option maxHeartbeats 4000000 in
set_option maxRecDepth 100000 in
theorem c_X6_conditionOf (lQ : Launch) (D : va_G) (kA : Nat → ClassId) (qr : Nat → Nat) (cc : Nat) (ac : Nat → Nat) (co : Nat → Nat) (ad : Nat) (rc : Nat) (nm : Nat → Nat) (st : Nat → Nat) (an : Nat → Nat) (svm : Nat → TCt) (cnt : Nat) (tx : Nat → Nat) (len : Nat) (th : Nat) (xf : Nat → Option Nat) (xt : Nat → Nat) (xs : Nat → Option Nat) (xa : Nat → Nat) (xw : Nat → Nat) (xc : Nat → Nat) (xk : Nat → Option Nat) (xp : Nat → Nat) (pt : Nat) (wr : Option Nat) (xm : Nat → Nat) (mny : Nat) (k : Nat) (w : Nat) (hcc : cc ≤ 5) (hac : ∀ k, k < cc → 2 ≤ ac k ∧ ac k ≤ 4) (han : ∀ j, j < rc → an j < 11) (hl9 : laid cc ac rc st an xf xt xs xa (prodF ac cc)) (hk : k < cc) (hw : w < 3) : Met lQ yX6_conditionOf wsX6_conditionOf (rmN 3 69) (rd_Pc D vwCl [.ref (qr 0), .int (nI k), .int (nI w)] (wR kA qr cc ac co ad rc nm st an svm cnt tx len th xf xt xs xa xw xc xk xp pt wr xm mny) (tyK kA)) (vp_Si (fun r : Int32 => r = (nI (cvF cc ac co rc st an k w)))) 0 0 (fun _ => False) := by
  refine Met.ofW (cc := cX6_conditionOf) (maxL := 3) (ret := (some .int)) (by decide) rfl ?_
  intro pQ eQ s mQ args below meth cQ s₁ B hml hv
  obtain ⟨rfl, hP, hK⟩ := hv
  have hx := B.exec
  have hb := B.bytes
  have hr := B.returns
  have hts := atoms_spec (ws := wsX6_conditionOf) B.pre
  have hown : s.vm.findClass RX6 = some mQ.cls := findClass_of_methodNamed B.named
  have hlocks : meth.locks = false := B.notSynchronized
  have hS0 : CallFix pQ mQ cQ cX6_conditionOf 3 s ([.ref (qr 0), .int (nI k), .int (nI w)] : List Value).toArray wsX6_conditionOf RX6 := ⟨hx, hb, hml, hown, hts⟩
  have f7 : (Cond.fieldLink RX6 7 "AskedRulesModel" "now" "[I").before ([.ref (qr 0), .int (nI k), .int (nI w)] : List Value).toArray s = true := hts _ (by decide +kernel)
  have hinX6 : ∀ w ∈ wsX60, w ∈ wsX6_conditionOf := by decide +kernel
  have hl := lv_entry ([.ref (qr 0), .int (nI k), .int (nI w)]) (n := 3) (Nat.le_of_ble_eq_true rfl)
  rw [lg_entry_eq]
  generalize (lg_sl ([.ref (qr 0), .int (nI k), .int (nI w)]) ++ List.replicate (3 - (lg_sl ([.ref (qr 0), .int (nI k), .int (nI w)])).length) Slot.unset).toArray = ls at hl ⊢
  have hl : lv_has ls 3 [(0, .ref (qr 0)), (1, .int (nI k)), (2, .int (nI w))] := hl
  have hP : va_P D vwCl (wR kA qr cc ac co ad rc nm st an svm cnt tx len th xf xt xs xa xw xc xk xp pt wr xm mny) s.heap := hP
  refine lv_iload_n hx hb dX6_conditionOf_0 rfl (lv_at hl 2 rfl) ?_
  refine n_if_ne (a := w) (tgt := 12) hx hb (by omega) dX6_conditionOf_1 (by decide) (fun c1 => ?_) (fun c1 => ?_)
  · refine lv_iload_n hx hb dX6_conditionOf_12 rfl (lv_at hl 2 rfl) ?_
    refine lv_iconst (v := (nI 1)) hx hb dX6_conditionOf_13 (by decide) ?_
    refine n_icmp_ne (a := w) (b := 1) (tgt := 29) hx hb (by omega) (by omega) dX6_conditionOf_14 (by decide) (fun c14 => ?_) (fun c14 => ?_)
    · refine lv_aload_n hx hb dX6_conditionOf_29 rfl (lv_at hl 0 rfl) ?_
      refine lv_iload_n hx hb dX6_conditionOf_30 rfl (lv_at hl 1 rfl) ?_
      refine n_cV (b := qr 0) (As := [.int (nI k)]) (rest := []) (wc := (wR kA qr cc ac co ad rc nm st an svm cnt tx len th xf xt xs xa xw xc xk xp pt wr xm mny)) hS0 (c_X6_matters lQ D kA qr cc ac co ad rc nm st an svm cnt tx len th xf xt xs xa xw xc xk xp pt wr xm mny k (by first | assumption | omega) (by first | assumption | omega) (by first | assumption | omega) (by first | assumption | omega) (by first | assumption | omega)) (cwV 1 hts gX6_conditionOf_X6_matters rfl rfl rfl (by decide +kernel) ⟨Nat.le_of_ble_eq_true rfl, Nat.le_of_ble_eq_true rfl⟩) hP hK (q0 := 0) rfl rfl rfl rfl rfl hl.1 (Nat.le_of_ble_eq_true rfl) dX6_conditionOf_31 ⟨Nat.le_refl _, Nat.le_refl _⟩ (fun r31 h31 => ?_)
      subst h31
      refine n_ifb_eq (b := matF cc ac rc st an k) (tgt := 41) hx hb dX6_conditionOf_34 (by decide) (fun c34 => ?_) (fun c34 => ?_)
      · refine lv_iconst (v := (nI 0)) hx hb dX6_conditionOf_41 (by decide) ?_
        exact n_reti hx hb hr hlocks (post := fun r : Int32 => r = (nI (cvF cc ac co rc st an k w))) (by unfold cvF; first | (rw [if_pos c1]) | (rw [if_neg (by omega), if_pos c14]) | (rw [if_neg (by omega), if_neg c14, c34]; rfl)) rfl dX6_conditionOf_42
      · refine lv_iconst (v := (nI 1)) hx hb dX6_conditionOf_37 (by decide) ?_
        refine lv_goto (tgt := 42) hx hb dX6_conditionOf_38 (by decide) ?_
        exact n_reti hx hb hr hlocks (post := fun r : Int32 => r = (nI (cvF cc ac co rc st an k w))) (by unfold cvF; first | (rw [if_pos c1]) | (rw [if_neg (by omega), if_pos c14]) | (rw [if_neg (by omega), if_neg c14, c34]; rfl)) rfl dX6_conditionOf_42
    · refine lv_aload_n hx hb dX6_conditionOf_17 rfl (lv_at hl 0 rfl) ?_
      refine n_get (ci := 6) (v := .ref (qr 1)) (C := RX6) (T := TX6) (N := 18) hx hb hts hinX6 hown hK hP 0 rfl rfl 0 rfl ⟨rfl, rfl, rfl⟩ f7 rfl dX6_conditionOf_18 ?_
      refine lv_bipush (v := (nI 8)) hx hb dX6_conditionOf_21 (by decide) ?_
      refine lv_iload_n hx hb dX6_conditionOf_23 rfl (lv_at hl 1 rfl) ?_
      refine n_iadd (v := (nI (8 + k))) hx hb (nI_add _ _) dX6_conditionOf_24 ?_
      refine n_iald (i := 8 + k) (v := (nI (co k))) hx hb hK hP 1 0 rfl rfl (by omega) (Nat.le_of_ble_eq_true rfl) (congrArg nI (tab_co (by omega))) dX6_conditionOf_25 ?_
      refine lv_goto (tgt := 42) hx hb dX6_conditionOf_26 (by decide) ?_
      exact n_reti hx hb hr hlocks (post := fun r : Int32 => r = (nI (cvF cc ac co rc st an k w))) (by unfold cvF; first | (rw [if_pos c1]) | (rw [if_neg (by omega), if_pos c14]) | (rw [if_neg (by omega), if_neg c14, c34]; rfl)) rfl dX6_conditionOf_42
  · refine lv_aload_n hx hb dX6_conditionOf_4 rfl (lv_at hl 0 rfl) ?_
    refine lv_iload_n hx hb dX6_conditionOf_5 rfl (lv_at hl 1 rfl) ?_
    refine n_cV (b := qr 0) (As := [.int (nI k)]) (rest := []) (wc := (wR kA qr cc ac co ad rc nm st an svm cnt tx len th xf xt xs xa xw xc xk xp pt wr xm mny)) hS0 (c_X6_answersOf lQ D kA qr cc ac co ad rc nm st an svm cnt tx len th xf xt xs xa xw xc xk xp pt wr xm mny k (by first | assumption | omega)) (cwV 1 hts gX6_conditionOf_X6_answersOf rfl rfl rfl (by decide +kernel) ⟨Nat.le_of_ble_eq_true rfl, Nat.le_of_ble_eq_true rfl⟩) hP hK (q0 := 0) rfl rfl rfl rfl rfl hl.1 (Nat.le_of_ble_eq_true rfl) dX6_conditionOf_6 ⟨Nat.le_refl _, Nat.le_refl _⟩ (fun r6 h6 => ?_)
    subst h6
    refine lv_goto (tgt := 42) hx hb dX6_conditionOf_9 (by decide) ?_
    exact n_reti hx hb hr hlocks (post := fun r : Int32 => r = (nI (cvF cc ac co rc st an k w))) (by unfold cvF; first | (rw [if_pos c1]) | (rw [if_neg (by omega), if_pos c14]) | (rw [if_neg (by omega), if_neg c14, c34]; rfl)) rfl dX6_conditionOf_42

set_option maxHeartbeats 4000000 in
set_option maxRecDepth 100000 in
theorem c_X6_told (lQ : Launch) (D : va_G) (kA : Nat → ClassId) (qr : Nat → Nat) (cc : Nat) (ac : Nat → Nat) (co : Nat → Nat) (ad : Nat) (rc : Nat) (nm : Nat → Nat) (st : Nat → Nat) (an : Nat → Nat) (svm : Nat → TCt) (cnt : Nat) (tx : Nat → Nat) (len : Nat) (th : Nat) (xf : Nat → Option Nat) (xt : Nat → Nat) (xs : Nat → Option Nat) (xa : Nat → Nat) (xw : Nat → Nat) (xc : Nat → Nat) (xk : Nat → Option Nat) (xp : Nat → Nat) (pt : Nat) (wr : Option Nat) (xm : Nat → Nat) (mny : Nat) (p : Nat) (hcc : cc ≤ 5) (hp : p < 20) (hs : st p < 1048576) : Met lQ yX6_told wsX6_told (rmN 2 43) (rd_Pc D vwCl [.ref (qr 0), .int (nI p)] (wR kA qr cc ac co ad rc nm st an svm cnt tx len th xf xt xs xa xw xc xk xp pt wr xm mny) (tyK kA)) (vp_Si (fun r : Int32 => r = (nI (prodF (fun k => bitsN (nibN (st p) k) 4) cc)))) 0 0 (fun _ => False) := by
  refine Met.ofW (cc := cX6_told) (maxL := 4) (ret := (some .int)) (by decide) rfl ?_
  intro pQ eQ s mQ args below meth cQ s₁ B hml hv
  obtain ⟨rfl, hP, hK⟩ := hv
  have hx := B.exec
  have hb := B.bytes
  have hr := B.returns
  have hts := atoms_spec (ws := wsX6_told) B.pre
  have hown : s.vm.findClass RX6 = some mQ.cls := findClass_of_methodNamed B.named
  have hlocks : meth.locks = false := B.notSynchronized
  have hS0 : CallFix pQ mQ cQ cX6_told 4 s ([.ref (qr 0), .int (nI p)] : List Value).toArray wsX6_told RX6 := ⟨hx, hb, hml, hown, hts⟩
  have f7 : (Cond.fieldLink RX6 7 "AskedRulesModel" "now" "[I").before ([.ref (qr 0), .int (nI p)] : List Value).toArray s = true := hts _ (by decide +kernel)
  have hinX6 : ∀ w ∈ wsX60, w ∈ wsX6_told := by decide +kernel
  have hl := lv_entry ([.ref (qr 0), .int (nI p)]) (n := 4) (Nat.le_of_ble_eq_true rfl)
  rw [lg_entry_eq]
  generalize (lg_sl ([.ref (qr 0), .int (nI p)]) ++ List.replicate (4 - (lg_sl ([.ref (qr 0), .int (nI p)])).length) Slot.unset).toArray = ls at hl ⊢
  have hl : lv_has ls 4 [(0, .ref (qr 0)), (1, .int (nI p))] := hl
  have hP : va_P D vwCl (wR kA qr cc ac co ad rc nm st an svm cnt tx len th xf xt xs xa xw xc xk xp pt wr xm mny) s.heap := hP
  refine lv_iconst (v := (nI 1)) hx hb dX6_told_0 (by decide) ?_
  refine lv_istore_n (lv' := [(2, .int (nI 1)), (0, .ref (qr 0)), (1, .int (nI p))]) hx hb dX6_told_1 rfl hl (by decide) rfl (fun ls hl => ?_)
  refine lv_iconst (v := (nI 0)) hx hb dX6_told_2 (by decide) ?_
  refine lv_istore_n (lv' := [(3, .int (nI 0)), (2, .int (nI 1)), (0, .ref (qr 0)), (1, .int (nI p))]) hx hb dX6_told_3 rfl hl (by decide) rfl (fun ls hl => ?_)
  have L4 : ∀ (nQ : Nat) (k : Nat) (u : Nat), cc - k < nQ → (k ≤ cc) → (u = prodF (fun k => bitsN (nibN (st p) k) 4) k) → ∀ (ls : Array Slot), lv_has ls 4 [(3, .int (nI k)), (2, .int (nI u)), (0, .ref (qr 0)), (1, .int (nI p))] → W pQ lQ eQ (headSpec wsX6_told (rmN 2 43)).room s mQ ([.ref (qr 0), .int (nI p)] : List Value).toArray below meth cQ s.heap [] 0 0 (MQ below (vp_Si (fun r : Int32 => r = (nI (prodF (fun k => bitsN (nibN (st p) k) 4) cc)))) ([.ref (qr 0), .int (nI p)] : List Value).toArray s 0 0 (fun _ => False)) (F0 mQ 4 ls []) := by
    intro nQ
    induction nQ with
    | zero => intro k u hn; exact absurd hn (Nat.not_lt_zero _)
    | succ nQ ih4 =>
      intro k u hm4 hk hu ls hl
      refine lv_iload_n hx hb dX6_told_4 rfl (lv_at hl 0 rfl) ?_
      refine lv_aload_n hx hb dX6_told_5 rfl (lv_at hl 2 rfl) ?_
      refine n_get (ci := 6) (v := .ref (qr 1)) (C := RX6) (T := TX6) (N := 18) hx hb hts hinX6 hown hK hP 0 rfl rfl 0 rfl ⟨rfl, rfl, rfl⟩ f7 rfl dX6_told_6 ?_
      refine lv_iconst (v := (nI 0)) hx hb dX6_told_9 (by decide) ?_
      refine n_iald (i := 0) (v := (nI cc)) hx hb hK hP 1 0 rfl rfl (by omega) (Nat.le_of_ble_eq_true rfl) rfl dX6_told_10 ?_
      refine n_icmp_ge (a := k) (b := cc) (tgt := 32) hx hb (by omega) (by omega) dX6_told_11 (by decide) (fun c11 => ?_) (fun c11 => ?_)
      · refine lv_iload_n hx hb dX6_told_32 rfl (lv_at hl 1 rfl) ?_
        have e9 : cc = k := by omega
        subst e9
        exact n_reti hx hb hr hlocks (post := fun r : Int32 => r = (nI (prodF (fun k => bitsN (nibN (st p) k) 4) cc))) (by rw [hu]) rfl dX6_told_33
      · refine lv_iload_n hx hb dX6_told_14 rfl (lv_at hl 1 rfl) ?_
        refine lv_aload_n hx hb dX6_told_15 rfl (lv_at hl 2 rfl) ?_
        refine lv_iload_n hx hb dX6_told_16 rfl (lv_at hl 3 rfl) ?_
        refine lv_iload_n hx hb dX6_told_17 rfl (lv_at hl 0 rfl) ?_
        refine n_cV (b := qr 0) (As := [.int (nI p), .int (nI k)]) (rest := [.int (nI u)]) (wc := (wR kA qr cc ac co ad rc nm st an svm cnt tx len th xf xt xs xa xw xc xk xp pt wr xm mny)) hS0 (c_X6_setOf lQ D kA qr cc ac co ad rc nm st an svm cnt tx len th xf xt xs xa xw xc xk xp pt wr xm mny p k (by first | assumption | omega) (by first | assumption | omega) (by first | assumption | omega)) (cwV 2 hts gX6_told_X6_setOf rfl rfl rfl (by decide +kernel) ⟨Nat.le_of_ble_eq_true rfl, Nat.le_of_ble_eq_true rfl⟩) hP hK (q0 := 0) rfl rfl rfl rfl rfl hl.1 (Nat.le_of_ble_eq_true rfl) dX6_told_18 ⟨Nat.le_refl _, Nat.le_refl _⟩ (fun r18 h18 => ?_)
        subst h18
        refine n_cS (As := [.int (nI (nibN (st p) k))]) (rest := [.int (nI u)]) (wc := []) hS0 (c_X6_bits lQ D kA (nibN (st p) k) (Nat.lt_trans (nibN_lt _ _) (by decide))) (va_cwS 1 hts gX6_told_X6_bits rfl rfl rfl (by decide +kernel) ⟨Nat.le_of_ble_eq_true rfl, Nat.le_of_ble_eq_true rfl⟩) (hP.mem (ws' := []) (fun qQ h => absurd h List.not_mem_nil)) hK rfl rfl hl.1 (Nat.le_of_ble_eq_true rfl) dX6_told_21 ⟨Nat.le_refl _, Nat.le_refl _⟩ (fun r21 h21 => ?_)
        subst h21
        refine n_imul (v := (nI (u * (bitsN (nibN (st p) k) 4)))) hx hb (pk_mul _ _) dX6_told_24 ?_
        refine lv_istore_n (lv' := [(2, .int (nI (u * (bitsN (nibN (st p) k) 4)))), (3, .int (nI k)), (0, .ref (qr 0)), (1, .int (nI p))]) hx hb dX6_told_25 rfl hl (by decide) rfl (fun ls hl => ?_)
        refine lv_iinc (v := (nI (k + 1))) (lv' := [(3, .int (nI (k + 1))), (2, .int (nI (u * (bitsN (nibN (st p) k) 4)))), (0, .ref (qr 0)), (1, .int (nI p))]) hx hb dX6_told_26 hl (k := 1) rfl (nI_inc _) (by decide) rfl (fun ls hl => ?_)
        refine lv_goto (tgt := 4) hx hb dX6_told_29 (by decide) ?_
        exact ih4 (k + 1) (u * (bitsN (nibN (st p) k) 4)) (by omega) (by first | assumption | omega) (by rw [hu]; rfl) _ (lv_sub hl [0, 1, 2, 3] rfl)
  exact L4 ((cc - 0) + 1) 0 1 (Nat.lt_succ_self _) (by first | assumption | omega) rfl _ (lv_sub hl [0, 1, 2, 3] rfl)

set_option maxHeartbeats 4000000 in
set_option maxRecDepth 100000 in
theorem c_X6_rowOf (lQ : Launch) (D : va_G) (kA : Nat → ClassId) (qr : Nat → Nat) (cc : Nat) (ac : Nat → Nat) (co : Nat → Nat) (ad : Nat) (rc : Nat) (nm : Nat → Nat) (st : Nat → Nat) (an : Nat → Nat) (svm : Nat → TCt) (cnt : Nat) (tx : Nat → Nat) (len : Nat) (th : Nat) (xf : Nat → Option Nat) (xt : Nat → Nat) (xs : Nat → Option Nat) (xa : Nat → Nat) (xw : Nat → Nat) (xc : Nat → Nat) (xk : Nat → Option Nat) (xp : Nat → Nat) (pt : Nat) (wr : Option Nat) (xm : Nat → Nat) (mny : Nat) (p : Nat) (w : Nat) (hcc : cc ≤ 5) (hac : ∀ k, k < cc → 2 ≤ ac k ∧ ac k ≤ 4) (hrc : rc ≤ 20) (han : ∀ j, j < rc → an j < 11) (hst : ∀ j, j < rc → st j < 1048576) (hl9 : laid cc ac rc st an xf xt xs xa (prodF ac cc)) (hp : p < rc) (hw : w < 6) : Met lQ yX6_rowOf wsX6_rowOf (rmN 3 66) (rd_Pc D vwCl [.ref (qr 0), .int (nI p), .int (nI w)] (wR kA qr cc ac co ad rc nm st an svm cnt tx len th xf xt xs xa xw xc xk xp pt wr xm mny) (tyK kA)) (vp_Si (fun r : Int32 => r = (nI (rvF cc ac rc st an p w)))) 0 0 (fun _ => False) := by
  refine Met.ofW (cc := cX6_rowOf) (maxL := 3) (ret := (some .int)) (by decide) rfl ?_
  intro pQ eQ s mQ args below meth cQ s₁ B hml hv
  obtain ⟨rfl, hP, hK⟩ := hv
  have hx := B.exec
  have hb := B.bytes
  have hr := B.returns
  have hts := atoms_spec (ws := wsX6_rowOf) B.pre
  have hown : s.vm.findClass RX6 = some mQ.cls := findClass_of_methodNamed B.named
  have hlocks : meth.locks = false := B.notSynchronized
  have hS0 : CallFix pQ mQ cQ cX6_rowOf 3 s ([.ref (qr 0), .int (nI p), .int (nI w)] : List Value).toArray wsX6_rowOf RX6 := ⟨hx, hb, hml, hown, hts⟩
  have f7 : (Cond.fieldLink RX6 7 "AskedRulesModel" "now" "[I").before ([.ref (qr 0), .int (nI p), .int (nI w)] : List Value).toArray s = true := hts _ (by decide +kernel)
  have hinX6 : ∀ w ∈ wsX60, w ∈ wsX6_rowOf := by decide +kernel
  have hl := lv_entry ([.ref (qr 0), .int (nI p), .int (nI w)]) (n := 3) (Nat.le_of_ble_eq_true rfl)
  rw [lg_entry_eq]
  generalize (lg_sl ([.ref (qr 0), .int (nI p), .int (nI w)]) ++ List.replicate (3 - (lg_sl ([.ref (qr 0), .int (nI p), .int (nI w)])).length) Slot.unset).toArray = ls at hl ⊢
  have hl : lv_has ls 3 [(0, .ref (qr 0)), (1, .int (nI p)), (2, .int (nI w))] := hl
  have hP : va_P D vwCl (wR kA qr cc ac co ad rc nm st an svm cnt tx len th xf xt xs xa xw xc xk xp pt wr xm mny) s.heap := hP
  have hP10 := prodF_1024 hcc hac
  have hxf9 : ∀ c q, c < prodF ac cc → xf c = some q → q < 20 := fun c q hc h => by rw [(hl9 c hc).1] at h; have := (firstF_spec h).1; omega
  have hown9 : ∀ p, cntB (fun c => decide (xf c = some p)) (prodF ac cc) = ownF cc ac rc st p := fun p => cntB_cong2 (fun c hc => by rw [(hl9 c hc).1])
  have hst9 := hst p hp
  refine lv_iload_n hx hb dX6_rowOf_0 rfl (lv_at hl 2 rfl) ?_
  have hsw1 : w < 6 := hw
  rcases (show w = 0 ∨ w = 1 ∨ w = 2 ∨ w = 3 ∨ w = 4 ∨ w = 5 by omega) with e1 | e1 | e1 | e1 | e1 | e1
  · refine lv_tableIn (tgt := 36) hx hb dX6_rowOf_1 (by rw [e1]; decide) (by rw [e1]; decide) (by rw [e1]; rfl) (by decide) ?_
    refine lv_iload_n hx hb dX6_rowOf_36 rfl (lv_at hl 1 rfl) ?_
    exact n_reti hx hb hr hlocks (post := fun r : Int32 => r = (nI (rvF cc ac rc st an p w))) (by rw [e1]; rfl) rfl dX6_rowOf_37
  · refine lv_tableIn (tgt := 38) hx hb dX6_rowOf_1 (by rw [e1]; decide) (by rw [e1]; decide) (by rw [e1]; rfl) (by decide) ?_
    refine lv_aload_n hx hb dX6_rowOf_38 rfl (lv_at hl 0 rfl) ?_
    refine n_get (ci := 6) (v := .ref (qr 1)) (C := RX6) (T := TX6) (N := 18) hx hb hts hinX6 hown hK hP 0 rfl rfl 0 rfl ⟨rfl, rfl, rfl⟩ f7 rfl dX6_rowOf_39 ?_
    refine lv_iload_n hx hb dX6_rowOf_42 rfl (lv_at hl 1 rfl) ?_
    refine lv_iconst (v := (nI 1)) hx hb dX6_rowOf_43 (by decide) ?_
    refine n_cS (As := [.int (nI p), .int (nI 1)]) (rest := [.ref (qr 1)]) (wc := []) hS0 (c_X6_r lQ D kA p 1 ) (va_cwS 2 hts gX6_rowOf_X6_r rfl rfl rfl (by decide +kernel) ⟨Nat.le_of_ble_eq_true rfl, Nat.le_of_ble_eq_true rfl⟩) (hP.mem (ws' := []) (fun qQ h => absurd h List.not_mem_nil)) hK rfl rfl hl.1 (Nat.le_of_ble_eq_true rfl) dX6_rowOf_44 ⟨Nat.le_refl _, Nat.le_refl _⟩ (fun r44 h44 => ?_)
    subst h44
    refine n_iald (i := 13 + 3 * p + 1) (v := (nI (an p))) hx hb hK hP 1 0 rfl rfl (by omega) (Nat.le_of_ble_eq_true rfl) (congrArg nI (tab_an )) dX6_rowOf_47 ?_
    exact n_reti hx hb hr hlocks (post := fun r : Int32 => r = (nI (rvF cc ac rc st an p w))) (by rw [e1]; rfl) rfl dX6_rowOf_48
  · refine lv_tableIn (tgt := 49) hx hb dX6_rowOf_1 (by rw [e1]; decide) (by rw [e1]; decide) (by rw [e1]; rfl) (by decide) ?_
    refine lv_aload_n hx hb dX6_rowOf_49 rfl (lv_at hl 0 rfl) ?_
    refine lv_iload_n hx hb dX6_rowOf_50 rfl (lv_at hl 1 rfl) ?_
    refine n_cV (b := qr 0) (As := [.int (nI p)]) (rest := []) (wc := (wR kA qr cc ac co ad rc nm st an svm cnt tx len th xf xt xs xa xw xc xk xp pt wr xm mny)) hS0 (c_X6_told lQ D kA qr cc ac co ad rc nm st an svm cnt tx len th xf xt xs xa xw xc xk xp pt wr xm mny p (by first | assumption | omega) (by first | assumption | omega) (by first | assumption | omega)) (cwV 1 hts gX6_rowOf_X6_told rfl rfl rfl (by decide +kernel) ⟨Nat.le_of_ble_eq_true rfl, Nat.le_of_ble_eq_true rfl⟩) hP hK (q0 := 0) rfl rfl rfl rfl rfl hl.1 (Nat.le_of_ble_eq_true rfl) dX6_rowOf_51 ⟨Nat.le_refl _, Nat.le_refl _⟩ (fun r51 h51 => ?_)
    subst h51
    exact n_reti hx hb hr hlocks (post := fun r : Int32 => r = (nI (rvF cc ac rc st an p w))) (by rw [e1]; rfl) rfl dX6_rowOf_54
  · refine lv_tableIn (tgt := 55) hx hb dX6_rowOf_1 (by rw [e1]; decide) (by rw [e1]; decide) (by rw [e1]; rfl) (by decide) ?_
    refine lv_aload_n hx hb dX6_rowOf_55 rfl (lv_at hl 0 rfl) ?_
    refine lv_iload_n hx hb dX6_rowOf_56 rfl (lv_at hl 1 rfl) ?_
    refine lv_aload_n hx hb dX6_rowOf_57 rfl (lv_at hl 0 rfl) ?_
    refine n_cV (b := qr 0) (As := []) (rest := [.int (nI p), .ref (qr 0)]) (wc := (wR kA qr cc ac co ad rc nm st an svm cnt tx len th xf xt xs xa xw xc xk xp pt wr xm mny)) hS0 (c_X6_cases lQ D kA qr cc ac co ad rc nm st an svm cnt tx len th xf xt xs xa xw xc xk xp pt wr xm mny (by first | assumption | omega)) (cwV 0 hts gX6_rowOf_X6_cases rfl rfl rfl (by decide +kernel) ⟨Nat.le_of_ble_eq_true rfl, Nat.le_of_ble_eq_true rfl⟩) hP hK (q0 := 0) rfl rfl rfl rfl rfl hl.1 (Nat.le_of_ble_eq_true rfl) dX6_rowOf_58 ⟨Nat.le_refl _, Nat.le_refl _⟩ (fun r58 h58 => ?_)
    subst h58
    refine n_cV (b := qr 0) (As := [.int (nI p), .int (nI (prodF ac cc))]) (rest := []) (wc := (wR kA qr cc ac co ad rc nm st an svm cnt tx len th xf xt xs xa xw xc xk xp pt wr xm mny)) hS0 (c_X6_ownOf lQ D kA qr cc ac co ad rc nm st an svm cnt tx len th xf xt xs xa xw xc xk xp pt wr xm mny p (prodF ac cc) (by first | assumption | omega) (by first | assumption | omega) hxf9) (cwV 2 hts gX6_rowOf_X6_ownOf rfl rfl rfl (by decide +kernel) ⟨Nat.le_of_ble_eq_true rfl, Nat.le_of_ble_eq_true rfl⟩) hP hK (q0 := 0) rfl rfl rfl rfl rfl hl.1 (Nat.le_of_ble_eq_true rfl) dX6_rowOf_61 ⟨Nat.le_refl _, Nat.le_refl _⟩ (fun r61 h61 => ?_)
    subst h61
    exact n_reti hx hb hr hlocks (post := fun r : Int32 => r = (nI (rvF cc ac rc st an p w))) (by rw [e1, hown9]; rfl) rfl dX6_rowOf_64
  · refine lv_tableIn (tgt := 65) hx hb dX6_rowOf_1 (by rw [e1]; decide) (by rw [e1]; decide) (by rw [e1]; rfl) (by decide) ?_
    refine lv_aload_n hx hb dX6_rowOf_65 rfl (lv_at hl 0 rfl) ?_
    refine lv_iload_n hx hb dX6_rowOf_66 rfl (lv_at hl 1 rfl) ?_
    refine lv_aload_n hx hb dX6_rowOf_67 rfl (lv_at hl 0 rfl) ?_
    refine n_cV (b := qr 0) (As := []) (rest := [.int (nI p), .ref (qr 0)]) (wc := (wR kA qr cc ac co ad rc nm st an svm cnt tx len th xf xt xs xa xw xc xk xp pt wr xm mny)) hS0 (c_X6_cases lQ D kA qr cc ac co ad rc nm st an svm cnt tx len th xf xt xs xa xw xc xk xp pt wr xm mny (by first | assumption | omega)) (cwV 0 hts gX6_rowOf_X6_cases rfl rfl rfl (by decide +kernel) ⟨Nat.le_of_ble_eq_true rfl, Nat.le_of_ble_eq_true rfl⟩) hP hK (q0 := 0) rfl rfl rfl rfl rfl hl.1 (Nat.le_of_ble_eq_true rfl) dX6_rowOf_68 ⟨Nat.le_refl _, Nat.le_refl _⟩ (fun r68 h68 => ?_)
    subst h68
    refine n_cV (b := qr 0) (As := [.int (nI p), .int (nI (prodF ac cc))]) (rest := []) (wc := (wR kA qr cc ac co ad rc nm st an svm cnt tx len th xf xt xs xa xw xc xk xp pt wr xm mny)) hS0 (c_X6_ownOf lQ D kA qr cc ac co ad rc nm st an svm cnt tx len th xf xt xs xa xw xc xk xp pt wr xm mny p (prodF ac cc) (by first | assumption | omega) (by first | assumption | omega) hxf9) (cwV 2 hts gX6_rowOf_X6_ownOf rfl rfl rfl (by decide +kernel) ⟨Nat.le_of_ble_eq_true rfl, Nat.le_of_ble_eq_true rfl⟩) hP hK (q0 := 0) rfl rfl rfl rfl rfl hl.1 (Nat.le_of_ble_eq_true rfl) dX6_rowOf_71 ⟨Nat.le_refl _, Nat.le_refl _⟩ (fun r71 h71 => ?_)
    subst h71
    refine n_if_le (a := cntB (fun c => decide (xf c = some p)) (prodF ac cc)) (tgt := 81) hx hb (Nat.lt_of_le_of_lt (cntB_le _ _) (by omega)) dX6_rowOf_74 (by decide) (fun c74 => ?_) (fun c74 => ?_)
    · refine lv_iconst (v := (nI 0)) hx hb dX6_rowOf_81 (by decide) ?_
      exact n_reti hx hb hr hlocks (post := fun r : Int32 => r = (nI (rvF cc ac rc st an p w))) (by rw [e1]; show _ = nI (b01 (decide (0 < ownF cc ac rc st p))); rw [← hown9]; first | (rw [decide_eq_true c74]; rfl) | (rw [decide_eq_false (by omega)]; rfl)) rfl dX6_rowOf_82
    · refine lv_iconst (v := (nI 1)) hx hb dX6_rowOf_77 (by decide) ?_
      refine lv_goto (tgt := 82) hx hb dX6_rowOf_78 (by decide) ?_
      exact n_reti hx hb hr hlocks (post := fun r : Int32 => r = (nI (rvF cc ac rc st an p w))) (by rw [e1]; show _ = nI (b01 (decide (0 < ownF cc ac rc st p))); rw [← hown9]; first | (rw [decide_eq_true c74]; rfl) | (rw [decide_eq_false (by omega)]; rfl)) rfl dX6_rowOf_82
  · refine lv_tableOut (tgt := 83) hx hb dX6_rowOf_1 (by rw [e1]; decide) (by decide) ?_
    refine lv_aload_n hx hb dX6_rowOf_83 rfl (lv_at hl 0 rfl) ?_
    refine n_get (ci := 6) (v := .ref (qr 1)) (C := RX6) (T := TX6) (N := 18) hx hb hts hinX6 hown hK hP 0 rfl rfl 0 rfl ⟨rfl, rfl, rfl⟩ f7 rfl dX6_rowOf_84 ?_
    refine lv_iload_n hx hb dX6_rowOf_87 rfl (lv_at hl 1 rfl) ?_
    refine lv_iconst (v := (nI 2)) hx hb dX6_rowOf_88 (by decide) ?_
    refine n_cS (As := [.int (nI p), .int (nI 2)]) (rest := [.ref (qr 1)]) (wc := []) hS0 (c_X6_r lQ D kA p 2 ) (va_cwS 2 hts gX6_rowOf_X6_r rfl rfl rfl (by decide +kernel) ⟨Nat.le_of_ble_eq_true rfl, Nat.le_of_ble_eq_true rfl⟩) (hP.mem (ws' := []) (fun qQ h => absurd h List.not_mem_nil)) hK rfl rfl hl.1 (Nat.le_of_ble_eq_true rfl) dX6_rowOf_89 ⟨Nat.le_refl _, Nat.le_refl _⟩ (fun r89 h89 => ?_)
    subst h89
    refine n_iald (i := 13 + 3 * p + 2) (v := (nI (st p))) hx hb hK hP 1 0 rfl rfl (by omega) (Nat.le_of_ble_eq_true rfl) (congrArg nI (tab_st )) dX6_rowOf_92 ?_
    exact n_reti hx hb hr hlocks (post := fun r : Int32 => r = (nI (rvF cc ac rc st an p w))) (by rw [e1]; rfl) rfl dX6_rowOf_93

set_option maxHeartbeats 4000000 in
set_option maxRecDepth 100000 in
theorem c_X6_isConflict (lQ : Launch) (D : va_G) (kA : Nat → ClassId) (qr : Nat → Nat) (cc : Nat) (ac : Nat → Nat) (co : Nat → Nat) (ad : Nat) (rc : Nat) (nm : Nat → Nat) (st : Nat → Nat) (an : Nat → Nat) (svm : Nat → TCt) (cnt : Nat) (tx : Nat → Nat) (len : Nat) (th : Nat) (xf : Nat → Option Nat) (xt : Nat → Nat) (xs : Nat → Option Nat) (xa : Nat → Nat) (xw : Nat → Nat) (xc : Nat → Nat) (xk : Nat → Option Nat) (xp : Nat → Nat) (pt : Nat) (wr : Option Nat) (xm : Nat → Nat) (mny : Nat) (c9 : Nat) (hcc : cc ≤ 5) (hac : ∀ k, k < cc → 2 ≤ ac k ∧ ac k ≤ 4) (hrc : rc ≤ 20) (han : ∀ j, j < rc → an j < 11) (hst : ∀ j, j < rc → st j < 1048576) (hl9 : laid cc ac rc st an xf xt xs xa (prodF ac cc)) (hc9 : c9 < prodF ac cc) : Met lQ yX6_isConflict wsX6_isConflict (rmN 3 67) (rd_Pc D vwCl [.ref (qr 0), .int (nI c9)] (wR kA qr cc ac co ad rc nm st an svm cnt tx len th xf xt xs xa xw xc xk xp pt wr xm mny) (tyK kA)) (vp_Si (fun r : Int32 => r = (bI (cfB (tlW st (bitC ac c9 cc)) an rc)))) 0 0 (fun _ => False) := by
  refine Met.ofW (cc := cX6_isConflict) (maxL := 4) (ret := (some .boolean)) (by decide) rfl ?_
  intro pQ eQ s mQ args below meth cQ s₁ B hml hv
  obtain ⟨rfl, hP, hK⟩ := hv
  have hx := B.exec
  have hb := B.bytes
  have hr := B.returns
  have hts := atoms_spec (ws := wsX6_isConflict) B.pre
  have hown : s.vm.findClass RX6 = some mQ.cls := findClass_of_methodNamed B.named
  have hlocks : meth.locks = false := B.notSynchronized
  have hS0 : CallFix pQ mQ cQ cX6_isConflict 4 s ([.ref (qr 0), .int (nI c9)] : List Value).toArray wsX6_isConflict RX6 := ⟨hx, hb, hml, hown, hts⟩
  have f7 : (Cond.fieldLink RX6 7 "AskedRulesModel" "now" "[I").before ([.ref (qr 0), .int (nI c9)] : List Value).toArray s = true := hts _ (by decide +kernel)
  have hinX6 : ∀ w ∈ wsX60, w ∈ wsX6_isConflict := by decide +kernel
  have f28 : (Cond.fieldLink RX6 28 "AskedRulesModel" "actions" "[I").before ([.ref (qr 0), .int (nI c9)] : List Value).toArray s = true := hts _ (by decide +kernel)
  have hl := lv_entry ([.ref (qr 0), .int (nI c9)]) (n := 4) (Nat.le_of_ble_eq_true rfl)
  rw [lg_entry_eq]
  generalize (lg_sl ([.ref (qr 0), .int (nI c9)]) ++ List.replicate (4 - (lg_sl ([.ref (qr 0), .int (nI c9)])).length) Slot.unset).toArray = ls at hl ⊢
  have hl : lv_has ls 4 [(0, .ref (qr 0)), (1, .int (nI c9))] := hl
  have hP : va_P D vwCl (wR kA qr cc ac co ad rc nm st an svm cnt tx len th xf xt xs xa xw xc xk xp pt wr xm mny) s.heap := hP
  have hP10 := prodF_1024 hcc hac
  have hx9 := (hl9 c9 hc9).2.2.2
  refine lv_iconst (v := (nI 0)) hx hb dX6_isConflict_0 (by decide) ?_
  refine lv_istore_n (lv' := [(2, .int (nI 0)), (0, .ref (qr 0)), (1, .int (nI c9))]) hx hb dX6_isConflict_1 rfl hl (by decide) rfl (fun ls hl => ?_)
  refine lv_iconst (v := (nI 0)) hx hb dX6_isConflict_2 (by decide) ?_
  refine lv_istore_n (lv' := [(3, .int (nI 0)), (2, .int (nI 0)), (0, .ref (qr 0)), (1, .int (nI c9))]) hx hb dX6_isConflict_3 rfl hl (by decide) rfl (fun ls hl => ?_)
  have L4 : ∀ (nQ : Nat) (i : Nat) (b : Bool), rc - i < nQ → (i ≤ rc) → (b = (firstF (fun k => tlW st (bitC ac c9 cc) k && decide (an k ≠ xa c9)) i).isSome) → ∀ (ls : Array Slot), lv_has ls 4 [(3, .int (nI i)), (2, .int (bI b)), (0, .ref (qr 0)), (1, .int (nI c9))] → W pQ lQ eQ (headSpec wsX6_isConflict (rmN 3 67)).room s mQ ([.ref (qr 0), .int (nI c9)] : List Value).toArray below meth cQ s.heap [] 0 0 (MQ below (vp_Si (fun r : Int32 => r = (bI (cfB (tlW st (bitC ac c9 cc)) an rc)))) ([.ref (qr 0), .int (nI c9)] : List Value).toArray s 0 0 (fun _ => False)) (F0 mQ 4 ls []) := by
    intro nQ
    induction nQ with
    | zero => intro i b hn; exact absurd hn (Nat.not_lt_zero _)
    | succ nQ ih4 =>
      intro i b hm4 hi hb9 ls hl
      refine lv_iload_n hx hb dX6_isConflict_4 rfl (lv_at hl 0 rfl) ?_
      refine lv_aload_n hx hb dX6_isConflict_5 rfl (lv_at hl 2 rfl) ?_
      refine n_get (ci := 6) (v := .ref (qr 1)) (C := RX6) (T := TX6) (N := 18) hx hb hts hinX6 hown hK hP 0 rfl rfl 0 rfl ⟨rfl, rfl, rfl⟩ f7 rfl dX6_isConflict_6 ?_
      refine lv_iconst (v := (nI 1)) hx hb dX6_isConflict_9 (by decide) ?_
      refine n_iald (i := 1) (v := (nI rc)) hx hb hK hP 1 0 rfl rfl (by omega) (Nat.le_of_ble_eq_true rfl) rfl dX6_isConflict_10 ?_
      refine n_icmp_ge (a := i) (b := rc) (tgt := 58) hx hb (by omega) (by omega) dX6_isConflict_11 (by decide) (fun c11 => ?_) (fun c11 => ?_)
      · refine lv_iload_n hx hb dX6_isConflict_58 rfl (lv_at hl 1 rfl) ?_
        exact n_retz hx hb hr hlocks (post := fun r : Int32 => r = (bI (cfB (tlW st (bitC ac c9 cc)) an rc))) (narrow_bI _) (by rw [← cf_eq hx9, hb9, show i = rc by omega]) rfl dX6_isConflict_59
      · refine lv_iload_n hx hb dX6_isConflict_14 rfl (lv_at hl 1 rfl) ?_
        refine n_ifb_ne (b := b) (tgt := 46) hx hb dX6_isConflict_15 (by decide) (fun c15 => ?_) (fun c15 => ?_)
        · refine lv_iconst (v := (nI 1)) hx hb dX6_isConflict_46 (by decide) ?_
          refine lv_goto (tgt := 51) hx hb dX6_isConflict_47 (by decide) ?_
          refine lv_istore_n (lv' := [(2, .int (nI 1)), (3, .int (nI i)), (0, .ref (qr 0)), (1, .int (nI c9))]) hx hb dX6_isConflict_51 rfl hl (by decide) rfl (fun ls hl => ?_)
          refine lv_iinc (v := (nI (i + 1))) (lv' := [(3, .int (nI (i + 1))), (2, .int (nI 1)), (0, .ref (qr 0)), (1, .int (nI c9))]) hx hb dX6_isConflict_52 hl (k := 1) rfl (nI_inc _) (by decide) rfl (fun ls hl => ?_)
          refine lv_goto (tgt := 4) hx hb dX6_isConflict_55 (by decide) ?_
          exact ih4 (i + 1) true (by omega) (by first | assumption | omega) (by rw [some_s, ← hb9]; first | (rw [c15]; rfl) | (rw [c15]; show _ = (false || (tlW st (bitC ac c9 cc) i && decide (an i ≠ xa c9))); first | (rw [c24]; rfl) | (rw [c24, decide_eq_false (p := an i ≠ xa c9) (fun h => h c43)]; rfl) | (rw [c24, decide_eq_true (p := an i ≠ xa c9) c43]; rfl))) _ (lv_sub hl [0, 1, 2, 3] rfl)
        · refine lv_aload_n hx hb dX6_isConflict_18 rfl (lv_at hl 2 rfl) ?_
          refine lv_iload_n hx hb dX6_isConflict_19 rfl (lv_at hl 0 rfl) ?_
          refine lv_iload_n hx hb dX6_isConflict_20 rfl (lv_at hl 3 rfl) ?_
          refine n_cV (b := qr 0) (As := [.int (nI i), .int (nI c9)]) (rest := []) (wc := (wR kA qr cc ac co ad rc nm st an svm cnt tx len th xf xt xs xa xw xc xk xp pt wr xm mny)) hS0 (c_X6_tells lQ D kA qr cc ac co ad rc nm st an svm cnt tx len th xf xt xs xa xw xc xk xp pt wr xm mny i c9 (by first | assumption | omega) (by first | assumption | omega) (by first | assumption | omega) (hst _ (by omega)) (by first | assumption | omega)) (cwV 2 hts gX6_isConflict_X6_tells rfl rfl rfl (by decide +kernel) ⟨Nat.le_of_ble_eq_true rfl, Nat.le_of_ble_eq_true rfl⟩) hP hK (q0 := 0) rfl rfl rfl rfl rfl hl.1 (Nat.le_of_ble_eq_true rfl) dX6_isConflict_21 ⟨Nat.le_refl _, Nat.le_refl _⟩ (fun r21 h21 => ?_)
          subst h21
          refine n_ifb_eq (b := tlW st (bitC ac c9 cc) i) (tgt := 50) hx hb dX6_isConflict_24 (by decide) (fun c24 => ?_) (fun c24 => ?_)
          · refine lv_iconst (v := (nI 0)) hx hb dX6_isConflict_50 (by decide) ?_
            refine lv_istore_n (lv' := [(2, .int (nI 0)), (3, .int (nI i)), (0, .ref (qr 0)), (1, .int (nI c9))]) hx hb dX6_isConflict_51 rfl hl (by decide) rfl (fun ls hl => ?_)
            refine lv_iinc (v := (nI (i + 1))) (lv' := [(3, .int (nI (i + 1))), (2, .int (nI 0)), (0, .ref (qr 0)), (1, .int (nI c9))]) hx hb dX6_isConflict_52 hl (k := 1) rfl (nI_inc _) (by decide) rfl (fun ls hl => ?_)
            refine lv_goto (tgt := 4) hx hb dX6_isConflict_55 (by decide) ?_
            exact ih4 (i + 1) false (by omega) (by first | assumption | omega) (by rw [some_s, ← hb9]; first | (rw [c15]; rfl) | (rw [c15]; show _ = (false || (tlW st (bitC ac c9 cc) i && decide (an i ≠ xa c9))); first | (rw [c24]; rfl) | (rw [c24, decide_eq_false (p := an i ≠ xa c9) (fun h => h c43)]; rfl) | (rw [c24, decide_eq_true (p := an i ≠ xa c9) c43]; rfl))) _ (lv_sub hl [0, 1, 2, 3] rfl)
          · refine lv_aload_n hx hb dX6_isConflict_27 rfl (lv_at hl 2 rfl) ?_
            refine n_get (ci := 6) (v := .ref (qr 1)) (C := RX6) (T := TX6) (N := 18) hx hb hts hinX6 hown hK hP 0 rfl rfl 0 rfl ⟨rfl, rfl, rfl⟩ f7 rfl dX6_isConflict_28 ?_
            refine lv_iload_n hx hb dX6_isConflict_31 rfl (lv_at hl 0 rfl) ?_
            refine lv_iconst (v := (nI 1)) hx hb dX6_isConflict_32 (by decide) ?_
            refine n_cS (As := [.int (nI i), .int (nI 1)]) (rest := [.ref (qr 1)]) (wc := []) hS0 (c_X6_r lQ D kA i 1 ) (va_cwS 2 hts gX6_isConflict_X6_r rfl rfl rfl (by decide +kernel) ⟨Nat.le_of_ble_eq_true rfl, Nat.le_of_ble_eq_true rfl⟩) (hP.mem (ws' := []) (fun qQ h => absurd h List.not_mem_nil)) hK rfl rfl hl.1 (Nat.le_of_ble_eq_true rfl) dX6_isConflict_33 ⟨Nat.le_refl _, Nat.le_refl _⟩ (fun r33 h33 => ?_)
            subst h33
            refine n_iald (i := 13 + 3 * i + 1) (v := (nI (an i))) hx hb hK hP 1 0 rfl rfl (by omega) (Nat.le_of_ble_eq_true rfl) (congrArg nI (tab_an )) dX6_isConflict_36 ?_
            refine lv_aload_n hx hb dX6_isConflict_37 rfl (lv_at hl 2 rfl) ?_
            refine n_get (ci := 6) (v := .ref (qr 7)) (C := RX6) (T := TX6) (N := 18) hx hb hts hinX6 hown hK hP 0 rfl rfl 9 rfl ⟨rfl, rfl, rfl⟩ f28 rfl dX6_isConflict_38 ?_
            refine lv_iload_n hx hb dX6_isConflict_41 rfl (lv_at hl 3 rfl) ?_
            refine n_iald (i := c9) (v := (nI (xa c9))) hx hb hK hP 7 0 rfl rfl (by omega) (Nat.le_of_ble_eq_true rfl) rfl dX6_isConflict_42 ?_
            refine n_icmp_eq (a := an i) (b := xa c9) (tgt := 50) hx hb (Nat.lt_trans (han _ (by omega)) (by decide)) (by rw [hx9]; exact Nat.lt_trans (actO_lt han) (by decide)) dX6_isConflict_43 (by decide) (fun c43 => ?_) (fun c43 => ?_)
            · refine lv_iconst (v := (nI 0)) hx hb dX6_isConflict_50 (by decide) ?_
              refine lv_istore_n (lv' := [(2, .int (nI 0)), (3, .int (nI i)), (0, .ref (qr 0)), (1, .int (nI c9))]) hx hb dX6_isConflict_51 rfl hl (by decide) rfl (fun ls hl => ?_)
              refine lv_iinc (v := (nI (i + 1))) (lv' := [(3, .int (nI (i + 1))), (2, .int (nI 0)), (0, .ref (qr 0)), (1, .int (nI c9))]) hx hb dX6_isConflict_52 hl (k := 1) rfl (nI_inc _) (by decide) rfl (fun ls hl => ?_)
              refine lv_goto (tgt := 4) hx hb dX6_isConflict_55 (by decide) ?_
              exact ih4 (i + 1) false (by omega) (by first | assumption | omega) (by rw [some_s, ← hb9]; first | (rw [c15]; rfl) | (rw [c15]; show _ = (false || (tlW st (bitC ac c9 cc) i && decide (an i ≠ xa c9))); first | (rw [c24]; rfl) | (rw [c24, decide_eq_false (p := an i ≠ xa c9) (fun h => h c43)]; rfl) | (rw [c24, decide_eq_true (p := an i ≠ xa c9) c43]; rfl))) _ (lv_sub hl [0, 1, 2, 3] rfl)
            · refine lv_iconst (v := (nI 1)) hx hb dX6_isConflict_46 (by decide) ?_
              refine lv_goto (tgt := 51) hx hb dX6_isConflict_47 (by decide) ?_
              refine lv_istore_n (lv' := [(2, .int (nI 1)), (3, .int (nI i)), (0, .ref (qr 0)), (1, .int (nI c9))]) hx hb dX6_isConflict_51 rfl hl (by decide) rfl (fun ls hl => ?_)
              refine lv_iinc (v := (nI (i + 1))) (lv' := [(3, .int (nI (i + 1))), (2, .int (nI 1)), (0, .ref (qr 0)), (1, .int (nI c9))]) hx hb dX6_isConflict_52 hl (k := 1) rfl (nI_inc _) (by decide) rfl (fun ls hl => ?_)
              refine lv_goto (tgt := 4) hx hb dX6_isConflict_55 (by decide) ?_
              exact ih4 (i + 1) true (by omega) (by first | assumption | omega) (by rw [some_s, ← hb9]; first | (rw [c15]; rfl) | (rw [c15]; show _ = (false || (tlW st (bitC ac c9 cc) i && decide (an i ≠ xa c9))); first | (rw [c24]; rfl) | (rw [c24, decide_eq_false (p := an i ≠ xa c9) (fun h => h c43)]; rfl) | (rw [c24, decide_eq_true (p := an i ≠ xa c9) c43]; rfl))) _ (lv_sub hl [0, 1, 2, 3] rfl)
  exact L4 ((rc - 0) + 1) 0 false (Nat.lt_succ_self _) (by first | assumption | omega) rfl _ (lv_sub hl [0, 1, 2, 3] rfl)

set_option maxHeartbeats 4000000 in
set_option maxRecDepth 100000 in
theorem c_X6_numberAt (lQ : Launch) (D : va_G) (kA : Nat → ClassId) (qr : Nat → Nat) (cc : Nat) (ac : Nat → Nat) (co : Nat → Nat) (ad : Nat) (rc : Nat) (nm : Nat → Nat) (st : Nat → Nat) (an : Nat → Nat) (svm : Nat → TCt) (cnt : Nat) (tx : Nat → Nat) (len : Nat) (th : Nat) (xf : Nat → Option Nat) (xt : Nat → Nat) (xs : Nat → Option Nat) (xa : Nat → Nat) (xw : Nat → Nat) (xc : Nat → Nat) (xk : Nat → Option Nat) (xp : Nat → Nat) (pt : Nat) (wr : Option Nat) (xm : Nat → Nat) (mny : Nat) (o : Option Nat) (hrc : rc ≤ 20) (ho9 : ∀ q, o = some q → q < rc) : Met lQ yX6_numberAt wsX6_numberAt (rmN 1 21) (rd_Pc D vwCl [.ref (qr 0), .int (oI o)] (wR kA qr cc ac co ad rc nm st an svm cnt tx len th xf xt xs xa xw xc xk xp pt wr xm mny) (tyK kA)) (vp_Si (fun r : Int32 => r = (oI (numF rc nm o)))) 0 0 (fun _ => False) := by
  refine Met.ofW (cc := cX6_numberAt) (maxL := 2) (ret := (some .int)) (by decide) rfl ?_
  intro pQ eQ s mQ args below meth cQ s₁ B hml hv
  obtain ⟨rfl, hP, hK⟩ := hv
  have hx := B.exec
  have hb := B.bytes
  have hr := B.returns
  have hts := atoms_spec (ws := wsX6_numberAt) B.pre
  have hown : s.vm.findClass RX6 = some mQ.cls := findClass_of_methodNamed B.named
  have hlocks : meth.locks = false := B.notSynchronized
  have hS0 : CallFix pQ mQ cQ cX6_numberAt 2 s ([.ref (qr 0), .int (oI o)] : List Value).toArray wsX6_numberAt RX6 := ⟨hx, hb, hml, hown, hts⟩
  have f7 : (Cond.fieldLink RX6 7 "AskedRulesModel" "now" "[I").before ([.ref (qr 0), .int (oI o)] : List Value).toArray s = true := hts _ (by decide +kernel)
  have hinX6 : ∀ w ∈ wsX60, w ∈ wsX6_numberAt := by decide +kernel
  have hl := lv_entry ([.ref (qr 0), .int (oI o)]) (n := 2) (Nat.le_of_ble_eq_true rfl)
  rw [lg_entry_eq]
  generalize (lg_sl ([.ref (qr 0), .int (oI o)]) ++ List.replicate (2 - (lg_sl ([.ref (qr 0), .int (oI o)])).length) Slot.unset).toArray = ls at hl ⊢
  have hl : lv_has ls 2 [(0, .ref (qr 0)), (1, .int (oI o))] := hl
  have hP : va_P D vwCl (wR kA qr cc ac co ad rc nm st an svm cnt tx len th xf xt xs xa xw xc xk xp pt wr xm mny) s.heap := hP
  refine lv_iload_n hx hb dX6_numberAt_0 rfl (lv_at hl 1 rfl) ?_
  refine lv_iconst (v := (oI none)) hx hb dX6_numberAt_1 (by decide) ?_
  refine n_icmpo_ne (o := o) (tgt := 9) hx hb (fun q h => by have := ho9 q h; omega) dX6_numberAt_2 (by decide) (fun q2 c2 => ?_) (fun c2 => ?_)
  · have hl : lv_has ls 2 [(0, .ref (qr 0)), (1, .int (nI q2))] := by rw [c2] at hl; exact hl
    have hq9 := ho9 _ c2
    refine lv_aload_n hx hb dX6_numberAt_9 rfl (lv_at hl 0 rfl) ?_
    refine n_get (ci := 6) (v := .ref (qr 1)) (C := RX6) (T := TX6) (N := 18) hx hb hts hinX6 hown hK hP 0 rfl rfl 0 rfl ⟨rfl, rfl, rfl⟩ f7 rfl dX6_numberAt_10 ?_
    refine lv_iload_n hx hb dX6_numberAt_13 rfl (lv_at hl 1 rfl) ?_
    refine lv_iconst (v := (nI 0)) hx hb dX6_numberAt_14 (by decide) ?_
    refine n_cS (As := [.int (nI q2), .int (nI 0)]) (rest := [.ref (qr 1)]) (wc := []) hS0 (c_X6_r lQ D kA q2 0 ) (va_cwS 2 hts gX6_numberAt_X6_r rfl rfl rfl (by decide +kernel) ⟨Nat.le_of_ble_eq_true rfl, Nat.le_of_ble_eq_true rfl⟩) (hP.mem (ws' := []) (fun qQ h => absurd h List.not_mem_nil)) hK rfl rfl hl.1 (Nat.le_of_ble_eq_true rfl) dX6_numberAt_15 ⟨Nat.le_refl _, Nat.le_refl _⟩ (fun r15 h15 => ?_)
    subst h15
    refine n_iald (i := 13 + 3 * q2 + 0) (v := (nI (nm q2))) hx hb hK hP 1 0 rfl rfl (by omega) (Nat.le_of_ble_eq_true rfl) (congrArg nI (tab_nm )) dX6_numberAt_18 ?_
    exact n_reti hx hb hr hlocks (post := fun r : Int32 => r = (oI (numF rc nm o))) (by unfold numF; first | (rw [c2]; done) | (rw [c2]; show _ = oI (if _ then _ else _); rw [if_pos hq9]; rfl)) rfl dX6_numberAt_19
  · have hl : lv_has ls 2 [(0, .ref (qr 0)), (1, .int (oI none))] := by rw [c2] at hl; exact hl
    refine lv_iconst (v := (oI none)) hx hb dX6_numberAt_5 (by decide) ?_
    refine lv_goto (tgt := 19) hx hb dX6_numberAt_6 (by decide) ?_
    exact n_reti hx hb hr hlocks (post := fun r : Int32 => r = (oI (numF rc nm o))) (by unfold numF; first | (rw [c2]; done) | (rw [c2]; show _ = oI (if _ then _ else _); rw [if_pos hq9]; rfl)) rfl dX6_numberAt_19

set_option maxHeartbeats 4000000 in
set_option maxRecDepth 100000 in
theorem c_X6_valueOf (lQ : Launch) (D : va_G) (kA : Nat → ClassId) (qr : Nat → Nat) (cc : Nat) (ac : Nat → Nat) (co : Nat → Nat) (ad : Nat) (rc : Nat) (nm : Nat → Nat) (st : Nat → Nat) (an : Nat → Nat) (svm : Nat → TCt) (cnt : Nat) (tx : Nat → Nat) (len : Nat) (th : Nat) (xf : Nat → Option Nat) (xt : Nat → Nat) (xs : Nat → Option Nat) (xa : Nat → Nat) (xw : Nat → Nat) (xc : Nat → Nat) (xk : Nat → Option Nat) (xp : Nat → Nat) (pt : Nat) (wr : Option Nat) (xm : Nat → Nat) (mny : Nat) (c9 : Nat) (w : Nat) (hcc : cc ≤ 5) (hac : ∀ k, k < cc → 2 ≤ ac k ∧ ac k ≤ 4) (hrc : rc ≤ 20) (han : ∀ j, j < rc → an j < 11) (hst : ∀ j, j < rc → st j < 1048576) (hl9 : laid cc ac rc st an xf xt xs xa (prodF ac cc)) (hc9 : c9 < prodF ac cc) (hw : w < 5) : Met lQ yX6_valueOf wsX6_valueOf (rmN 4 90) (rd_Pc D vwCl [.ref (qr 0), .int (nI c9), .int (nI w)] (wR kA qr cc ac co ad rc nm st an svm cnt tx len th xf xt xs xa xw xc xk xp pt wr xm mny) (tyK kA)) (vp_Si (fun r : Int32 => r = (oI (kvF cc ac rc nm st an c9 w)))) 0 0 (fun _ => False) := by
  refine Met.ofW (cc := cX6_valueOf) (maxL := 3) (ret := (some .int)) (by decide) rfl ?_
  intro pQ eQ s mQ args below meth cQ s₁ B hml hv
  obtain ⟨rfl, hP, hK⟩ := hv
  have hx := B.exec
  have hb := B.bytes
  have hr := B.returns
  have hts := atoms_spec (ws := wsX6_valueOf) B.pre
  have hown : s.vm.findClass RX6 = some mQ.cls := findClass_of_methodNamed B.named
  have hlocks : meth.locks = false := B.notSynchronized
  have hS0 : CallFix pQ mQ cQ cX6_valueOf 3 s ([.ref (qr 0), .int (nI c9), .int (nI w)] : List Value).toArray wsX6_valueOf RX6 := ⟨hx, hb, hml, hown, hts⟩
  have f19 : (Cond.fieldLink RX6 19 "AskedRulesModel" "firsts" "[I").before ([.ref (qr 0), .int (nI c9), .int (nI w)] : List Value).toArray s = true := hts _ (by decide +kernel)
  have hinX6 : ∀ w ∈ wsX60, w ∈ wsX6_valueOf := by decide +kernel
  have f28 : (Cond.fieldLink RX6 28 "AskedRulesModel" "actions" "[I").before ([.ref (qr 0), .int (nI c9), .int (nI w)] : List Value).toArray s = true := hts _ (by decide +kernel)
  have f22 : (Cond.fieldLink RX6 22 "AskedRulesModel" "tellers" "[I").before ([.ref (qr 0), .int (nI c9), .int (nI w)] : List Value).toArray s = true := hts _ (by decide +kernel)
  have f25 : (Cond.fieldLink RX6 25 "AskedRulesModel" "seconds" "[I").before ([.ref (qr 0), .int (nI c9), .int (nI w)] : List Value).toArray s = true := hts _ (by decide +kernel)
  have hl := lv_entry ([.ref (qr 0), .int (nI c9), .int (nI w)]) (n := 3) (Nat.le_of_ble_eq_true rfl)
  rw [lg_entry_eq]
  generalize (lg_sl ([.ref (qr 0), .int (nI c9), .int (nI w)]) ++ List.replicate (3 - (lg_sl ([.ref (qr 0), .int (nI c9), .int (nI w)])).length) Slot.unset).toArray = ls at hl ⊢
  have hl : lv_has ls 3 [(0, .ref (qr 0)), (1, .int (nI c9)), (2, .int (nI w))] := hl
  have hP : va_P D vwCl (wR kA qr cc ac co ad rc nm st an svm cnt tx len th xf xt xs xa xw xc xk xp pt wr xm mny) s.heap := hP
  have hP10 := prodF_1024 hcc hac
  obtain ⟨g1, g2, g3, g4⟩ := hl9 c9 hc9
  refine lv_iload_n hx hb dX6_valueOf_0 rfl (lv_at hl 2 rfl) ?_
  have hsw1 : w < 5 := hw
  rcases (show w = 0 ∨ w = 1 ∨ w = 2 ∨ w = 3 ∨ w = 4 by omega) with e1 | e1 | e1 | e1 | e1
  · refine lv_tableIn (tgt := 32) hx hb dX6_valueOf_1 (by rw [e1]; decide) (by rw [e1]; decide) (by rw [e1]; rfl) (by decide) ?_
    refine lv_aload_n hx hb dX6_valueOf_32 rfl (lv_at hl 0 rfl) ?_
    refine lv_aload_n hx hb dX6_valueOf_33 rfl (lv_at hl 0 rfl) ?_
    refine n_get (ci := 6) (v := .ref (qr 4)) (C := RX6) (T := TX6) (N := 18) hx hb hts hinX6 hown hK hP 0 rfl rfl 6 rfl ⟨rfl, rfl, rfl⟩ f19 rfl dX6_valueOf_34 ?_
    refine lv_iload_n hx hb dX6_valueOf_37 rfl (lv_at hl 1 rfl) ?_
    refine n_iald (i := c9) (v := (oI (xf c9))) hx hb hK hP 4 0 rfl rfl (by omega) (Nat.le_of_ble_eq_true rfl) rfl dX6_valueOf_38 ?_
    refine n_cV (b := qr 0) (As := [.int (oI (xf c9))]) (rest := []) (wc := (wR kA qr cc ac co ad rc nm st an svm cnt tx len th xf xt xs xa xw xc xk xp pt wr xm mny)) hS0 (c_X6_numberAt lQ D kA qr cc ac co ad rc nm st an svm cnt tx len th xf xt xs xa xw xc xk xp pt wr xm mny (xf c9) (by first | assumption | omega) (fun q h => by rw [g1] at h; exact (firstF_spec h).1)) (cwV 1 hts gX6_valueOf_X6_numberAt rfl rfl rfl (by decide +kernel) ⟨Nat.le_of_ble_eq_true rfl, Nat.le_of_ble_eq_true rfl⟩) hP hK (q0 := 0) rfl rfl rfl rfl rfl hl.1 (Nat.le_of_ble_eq_true rfl) dX6_valueOf_39 ⟨Nat.le_refl _, Nat.le_refl _⟩ (fun r39 h39 => ?_)
    subst h39
    exact n_reti hx hb hr hlocks (post := fun r : Int32 => r = (oI (kvF cc ac rc nm st an c9 w))) (by rw [e1, g1]; rfl) rfl dX6_valueOf_42
  · refine lv_tableIn (tgt := 43) hx hb dX6_valueOf_1 (by rw [e1]; decide) (by rw [e1]; decide) (by rw [e1]; rfl) (by decide) ?_
    refine lv_aload_n hx hb dX6_valueOf_43 rfl (lv_at hl 0 rfl) ?_
    refine n_get (ci := 6) (v := .ref (qr 7)) (C := RX6) (T := TX6) (N := 18) hx hb hts hinX6 hown hK hP 0 rfl rfl 9 rfl ⟨rfl, rfl, rfl⟩ f28 rfl dX6_valueOf_44 ?_
    refine lv_iload_n hx hb dX6_valueOf_47 rfl (lv_at hl 1 rfl) ?_
    refine n_iald (i := c9) (v := (nI (xa c9))) hx hb hK hP 7 0 rfl rfl (by omega) (Nat.le_of_ble_eq_true rfl) rfl dX6_valueOf_48 ?_
    exact n_reti hx hb hr hlocks (post := fun r : Int32 => r = (oI (kvF cc ac rc nm st an c9 w))) (by rw [e1, g4]; rfl) rfl dX6_valueOf_49
  · refine lv_tableIn (tgt := 50) hx hb dX6_valueOf_1 (by rw [e1]; decide) (by rw [e1]; decide) (by rw [e1]; rfl) (by decide) ?_
    refine lv_aload_n hx hb dX6_valueOf_50 rfl (lv_at hl 0 rfl) ?_
    refine n_get (ci := 6) (v := .ref (qr 5)) (C := RX6) (T := TX6) (N := 18) hx hb hts hinX6 hown hK hP 0 rfl rfl 7 rfl ⟨rfl, rfl, rfl⟩ f22 rfl dX6_valueOf_51 ?_
    refine lv_iload_n hx hb dX6_valueOf_54 rfl (lv_at hl 1 rfl) ?_
    refine n_iald (i := c9) (v := (nI (xt c9))) hx hb hK hP 5 0 rfl rfl (by omega) (Nat.le_of_ble_eq_true rfl) rfl dX6_valueOf_55 ?_
    exact n_reti hx hb hr hlocks (post := fun r : Int32 => r = (oI (kvF cc ac rc nm st an c9 w))) (by rw [e1, g2]; rfl) rfl dX6_valueOf_56
  · refine lv_tableIn (tgt := 57) hx hb dX6_valueOf_1 (by rw [e1]; decide) (by rw [e1]; decide) (by rw [e1]; rfl) (by decide) ?_
    refine lv_aload_n hx hb dX6_valueOf_57 rfl (lv_at hl 0 rfl) ?_
    refine lv_iload_n hx hb dX6_valueOf_58 rfl (lv_at hl 1 rfl) ?_
    refine n_cV (b := qr 0) (As := [.int (nI c9)]) (rest := []) (wc := (wR kA qr cc ac co ad rc nm st an svm cnt tx len th xf xt xs xa xw xc xk xp pt wr xm mny)) hS0 (c_X6_isConflict lQ D kA qr cc ac co ad rc nm st an svm cnt tx len th xf xt xs xa xw xc xk xp pt wr xm mny c9 (by first | assumption | omega) (by first | assumption | omega) (by first | assumption | omega) (by first | assumption | omega) (by first | assumption | omega) (by first | assumption | omega) (by first | assumption | omega)) (cwV 1 hts gX6_valueOf_X6_isConflict rfl rfl rfl (by decide +kernel) ⟨Nat.le_of_ble_eq_true rfl, Nat.le_of_ble_eq_true rfl⟩) hP hK (q0 := 0) rfl rfl rfl rfl rfl hl.1 (Nat.le_of_ble_eq_true rfl) dX6_valueOf_59 ⟨Nat.le_refl _, Nat.le_refl _⟩ (fun r59 h59 => ?_)
    subst h59
    refine n_ifb_eq (b := cfB (tlW st (bitC ac c9 cc)) an rc) (tgt := 69) hx hb dX6_valueOf_62 (by decide) (fun c62 => ?_) (fun c62 => ?_)
    · refine lv_iconst (v := (nI 0)) hx hb dX6_valueOf_69 (by decide) ?_
      exact n_reti hx hb hr hlocks (post := fun r : Int32 => r = (oI (kvF cc ac rc nm st an c9 w))) (by rw [e1]; show _ = oI (some (b01 (cfB (tlW st (bitC ac c9 cc)) an rc))); rw [c62]; rfl) rfl dX6_valueOf_70
    · refine lv_iconst (v := (nI 1)) hx hb dX6_valueOf_65 (by decide) ?_
      refine lv_goto (tgt := 70) hx hb dX6_valueOf_66 (by decide) ?_
      exact n_reti hx hb hr hlocks (post := fun r : Int32 => r = (oI (kvF cc ac rc nm st an c9 w))) (by rw [e1]; show _ = oI (some (b01 (cfB (tlW st (bitC ac c9 cc)) an rc))); rw [c62]; rfl) rfl dX6_valueOf_70
  · refine lv_tableOut (tgt := 71) hx hb dX6_valueOf_1 (by rw [e1]; decide) (by decide) ?_
    refine lv_aload_n hx hb dX6_valueOf_71 rfl (lv_at hl 0 rfl) ?_
    refine lv_aload_n hx hb dX6_valueOf_72 rfl (lv_at hl 0 rfl) ?_
    refine n_get (ci := 6) (v := .ref (qr 6)) (C := RX6) (T := TX6) (N := 18) hx hb hts hinX6 hown hK hP 0 rfl rfl 8 rfl ⟨rfl, rfl, rfl⟩ f25 rfl dX6_valueOf_73 ?_
    refine lv_iload_n hx hb dX6_valueOf_76 rfl (lv_at hl 1 rfl) ?_
    refine n_iald (i := c9) (v := (oI (xs c9))) hx hb hK hP 6 0 rfl rfl (by omega) (Nat.le_of_ble_eq_true rfl) rfl dX6_valueOf_77 ?_
    refine n_cV (b := qr 0) (As := [.int (oI (xs c9))]) (rest := []) (wc := (wR kA qr cc ac co ad rc nm st an svm cnt tx len th xf xt xs xa xw xc xk xp pt wr xm mny)) hS0 (c_X6_numberAt lQ D kA qr cc ac co ad rc nm st an svm cnt tx len th xf xt xs xa xw xc xk xp pt wr xm mny (xs c9) (by first | assumption | omega) (fun q h => by rw [g3] at h; exact secF_lt9 h)) (cwV 1 hts gX6_valueOf_X6_numberAt rfl rfl rfl (by decide +kernel) ⟨Nat.le_of_ble_eq_true rfl, Nat.le_of_ble_eq_true rfl⟩) hP hK (q0 := 0) rfl rfl rfl rfl rfl hl.1 (Nat.le_of_ble_eq_true rfl) dX6_valueOf_78 ⟨Nat.le_refl _, Nat.le_refl _⟩ (fun r78 h78 => ?_)
    subst h78
    exact n_reti hx hb hr hlocks (post := fun r : Int32 => r = (oI (kvF cc ac rc nm st an c9 w))) (by rw [e1, g3]; rfl) rfl dX6_valueOf_81

set_option maxHeartbeats 4000000 in
set_option maxRecDepth 100000 in
theorem c_X6_casesOf (lQ : Launch) (D : va_G) (kA : Nat → ClassId) (qr : Nat → Nat) (cc : Nat) (ac : Nat → Nat) (co : Nat → Nat) (ad : Nat) (rc : Nat) (nm : Nat → Nat) (st : Nat → Nat) (an : Nat → Nat) (svm : Nat → TCt) (cnt : Nat) (tx : Nat → Nat) (len : Nat) (th : Nat) (xf : Nat → Option Nat) (xt : Nat → Nat) (xs : Nat → Option Nat) (xa : Nat → Nat) (xw : Nat → Nat) (xc : Nat → Nat) (xk : Nat → Option Nat) (xp : Nat → Nat) (pt : Nat) (wr : Option Nat) (xm : Nat → Nat) (mny : Nat) (w : Nat) (hcc : cc ≤ 5) (hac : ∀ k, k < cc → 2 ≤ ac k ∧ ac k ≤ 4) (hrc : rc ≤ 20) (han : ∀ j, j < rc → an j < 11) (hst : ∀ j, j < rc → st j < 1048576) (hl9 : laid cc ac rc st an xf xt xs xa (prodF ac cc)) (hw1 : 3 ≤ w) (hw : w < 6) : Met lQ yX6_casesOf wsX6_casesOf (rmN 4 90) (rd_Pc D vwCl [.ref (qr 0), .int (nI w)] (wR kA qr cc ac co ad rc nm st an svm cnt tx len th xf xt xs xa xw xc xk xp pt wr xm mny) (tyK kA)) (vp_Si (fun r : Int32 => r = (nI (cntB (csG cc ac rc st an w) (prodF ac cc))))) 0 0 (fun _ => False) := by
  refine Met.ofW (cc := cX6_casesOf) (maxL := 5) (ret := (some .int)) (by decide) rfl ?_
  intro pQ eQ s mQ args below meth cQ s₁ B hml hv
  obtain ⟨rfl, hP, hK⟩ := hv
  have hx := B.exec
  have hb := B.bytes
  have hr := B.returns
  have hts := atoms_spec (ws := wsX6_casesOf) B.pre
  have hown : s.vm.findClass RX6 = some mQ.cls := findClass_of_methodNamed B.named
  have hlocks : meth.locks = false := B.notSynchronized
  have hS0 : CallFix pQ mQ cQ cX6_casesOf 5 s ([.ref (qr 0), .int (nI w)] : List Value).toArray wsX6_casesOf RX6 := ⟨hx, hb, hml, hown, hts⟩
  have f22 : (Cond.fieldLink RX6 22 "AskedRulesModel" "tellers" "[I").before ([.ref (qr 0), .int (nI w)] : List Value).toArray s = true := hts _ (by decide +kernel)
  have hinX6 : ∀ w ∈ wsX60, w ∈ wsX6_casesOf := by decide +kernel
  have hl := lv_entry ([.ref (qr 0), .int (nI w)]) (n := 5) (Nat.le_of_ble_eq_true rfl)
  rw [lg_entry_eq]
  generalize (lg_sl ([.ref (qr 0), .int (nI w)]) ++ List.replicate (5 - (lg_sl ([.ref (qr 0), .int (nI w)])).length) Slot.unset).toArray = ls at hl ⊢
  have hl : lv_has ls 5 [(0, .ref (qr 0)), (1, .int (nI w))] := hl
  have hP : va_P D vwCl (wR kA qr cc ac co ad rc nm st an svm cnt tx len th xf xt xs xa xw xc xk xp pt wr xm mny) s.heap := hP
  have hP10 := prodF_1024 hcc hac
  refine lv_iconst (v := (nI 0)) hx hb dX6_casesOf_0 (by decide) ?_
  refine lv_istore_n (lv' := [(2, .int (nI 0)), (0, .ref (qr 0)), (1, .int (nI w))]) hx hb dX6_casesOf_1 rfl hl (by decide) rfl (fun ls hl => ?_)
  refine lv_iconst (v := (nI 0)) hx hb dX6_casesOf_2 (by decide) ?_
  refine lv_istore_n (lv' := [(3, .int (nI 0)), (2, .int (nI 0)), (0, .ref (qr 0)), (1, .int (nI w))]) hx hb dX6_casesOf_3 rfl hl (by decide) rfl (fun ls hl => ?_)
  have L4 : ∀ (nQ : Nat) (i : Nat) (u : Nat), prodF ac cc - i < nQ → (i ≤ prodF ac cc) → (u = cntB (csG cc ac rc st an w) i) → ∀ (ls : Array Slot), lv_has ls 5 [(3, .int (nI i)), (2, .int (nI u)), (0, .ref (qr 0)), (1, .int (nI w))] → W pQ lQ eQ (headSpec wsX6_casesOf (rmN 4 90)).room s mQ ([.ref (qr 0), .int (nI w)] : List Value).toArray below meth cQ s.heap [] 0 0 (MQ below (vp_Si (fun r : Int32 => r = (nI (cntB (csG cc ac rc st an w) (prodF ac cc))))) ([.ref (qr 0), .int (nI w)] : List Value).toArray s 0 0 (fun _ => False)) (F0 mQ 4 ls []) := by
    intro nQ
    induction nQ with
    | zero => intro i u hn; exact absurd hn (Nat.not_lt_zero _)
    | succ nQ ih4 =>
      intro i u hm4 hi hu ls hl
      refine lv_iload_n hx hb dX6_casesOf_4 rfl (lv_at hl 0 rfl) ?_
      refine lv_aload_n hx hb dX6_casesOf_5 rfl (lv_at hl 2 rfl) ?_
      refine n_cV (b := qr 0) (As := []) (rest := [.int (nI i)]) (wc := (wR kA qr cc ac co ad rc nm st an svm cnt tx len th xf xt xs xa xw xc xk xp pt wr xm mny)) hS0 (c_X6_cases lQ D kA qr cc ac co ad rc nm st an svm cnt tx len th xf xt xs xa xw xc xk xp pt wr xm mny (by first | assumption | omega)) (cwV 0 hts gX6_casesOf_X6_cases rfl rfl rfl (by decide +kernel) ⟨Nat.le_of_ble_eq_true rfl, Nat.le_of_ble_eq_true rfl⟩) hP hK (q0 := 0) rfl rfl rfl rfl rfl hl.1 (Nat.le_of_ble_eq_true rfl) dX6_casesOf_6 ⟨Nat.le_refl _, Nat.le_refl _⟩ (fun r6 h6 => ?_)
      subst h6
      refine n_icmp_ge (a := i) (b := prodF ac cc) (tgt := 83) hx hb (by omega) (by omega) dX6_casesOf_9 (by decide) (fun c9 => ?_) (fun c9 => ?_)
      · refine lv_iload_n hx hb dX6_casesOf_83 rfl (lv_at hl 1 rfl) ?_
        exact n_reti hx hb hr hlocks (post := fun r : Int32 => r = (nI (cntB (csG cc ac rc st an w) (prodF ac cc)))) (by rw [hu, show i = prodF ac cc by omega]) rfl dX6_casesOf_84
      · refine lv_iload_n hx hb dX6_casesOf_12 rfl (lv_at hl 3 rfl) ?_
        refine lv_iconst (v := (nI 3)) hx hb dX6_casesOf_13 (by decide) ?_
        refine n_icmp_ne (a := w) (b := 3) (tgt := 34) hx hb (by omega) (by omega) dX6_casesOf_14 (by decide) (fun c14 => ?_) (fun c14 => ?_)
        · refine lv_aload_n hx hb dX6_casesOf_34 rfl (lv_at hl 2 rfl) ?_
          refine n_get (ci := 6) (v := .ref (qr 5)) (C := RX6) (T := TX6) (N := 18) hx hb hts hinX6 hown hK hP 0 rfl rfl 7 rfl ⟨rfl, rfl, rfl⟩ f22 rfl dX6_casesOf_35 ?_
          refine lv_iload_n hx hb dX6_casesOf_38 rfl (lv_at hl 0 rfl) ?_
          refine n_iald (i := i) (v := (nI (xt i))) hx hb hK hP 5 0 rfl rfl (by omega) (Nat.le_of_ble_eq_true rfl) rfl dX6_casesOf_39 ?_
          refine lv_iconst (v := (nI 1)) hx hb dX6_casesOf_40 (by decide) ?_
          refine n_icmp_le (a := xt i) (b := 1) (tgt := 61) hx hb (by rw [(hl9 _ (by omega)).2.1]; have := cntB_le (tlW st (bitC ac i cc)) rc; omega) (by decide) dX6_casesOf_41 (by decide) (fun c41 => ?_) (fun c41 => ?_)
          · refine lv_iconst (v := (nI 0)) hx hb dX6_casesOf_61 (by decide) ?_
            refine lv_istore (lv' := [(4, .int (nI 0)), (3, .int (nI i)), (2, .int (nI u)), (0, .ref (qr 0)), (1, .int (nI w))]) hx hb dX6_casesOf_62 hl (by decide) rfl (fun ls hl => ?_)
            refine lv_iload_n hx hb dX6_casesOf_64 rfl (lv_at hl 2 rfl) ?_
            refine lv_iload hx hb dX6_casesOf_65 (lv_at hl 0 rfl) ?_
            refine lv_if_eq (tgt := 74) hx hb dX6_casesOf_67 (by decide) (fun _ => ?_) (fun h => absurd (by decide) h)
            refine lv_iconst (v := (nI 0)) hx hb dX6_casesOf_74 (by decide) ?_
            refine n_iadd (v := (nI u)) hx hb (nI_add _ _) dX6_casesOf_75 ?_
            refine lv_istore_n (lv' := [(2, .int (nI u)), (4, .int (nI 0)), (3, .int (nI i)), (0, .ref (qr 0)), (1, .int (nI w))]) hx hb dX6_casesOf_76 rfl hl (by decide) rfl (fun ls hl => ?_)
            have hg2 := (hl9 i (by omega)).2.1
            have hg9 : csG cc ac rc st an w i = false := by
              unfold csG
              first
              | (rw [if_pos c14, decide_eq_true ((cnt_first _ _).mp (hg2.symm.trans c23))]; done)
              | (rw [if_pos c14, decide_eq_false (fun h => by have := hg2.trans ((cnt_first _ _).mpr h); omega)]; done)
              | (rw [if_neg c14, if_pos c46, decide_eq_true (by omega)]; done)
              | (rw [if_neg c14, if_neg c46, c54]; done)
              | (rw [if_neg c14]; by_cases h4 : w = 4; (rw [if_pos h4, decide_eq_false (by omega)]); rw [if_neg h4]; cases h5 : cfB (tlW st (bitC ac i cc)) an rc with | false => rfl | true => (have := cf_two h5; omega))
            refine lv_iinc (v := (nI (i + 1))) (lv' := [(3, .int (nI (i + 1))), (2, .int (nI u)), (4, .int (nI 0)), (0, .ref (qr 0)), (1, .int (nI w))]) hx hb dX6_casesOf_77 hl (k := 2) rfl (nI_inc _) (by decide) rfl (fun ls hl => ?_)
            refine lv_goto (tgt := 4) hx hb dX6_casesOf_80 (by decide) ?_
            exact ih4 (i + 1) u (by omega) (by first | assumption | omega) (by first | (rw [cntB_st hg9, ← hu]) | (rw [cntB_sf hg9, ← hu]; rfl) | (rw [cntB_sf hg9, ← hu])) _ (lv_sub hl [0, 1, 3, 4] rfl)
          · refine lv_iload_n hx hb dX6_casesOf_44 rfl (lv_at hl 3 rfl) ?_
            refine lv_iconst (v := (nI 4)) hx hb dX6_casesOf_45 (by decide) ?_
            refine n_icmp_eq (a := w) (b := 4) (tgt := 57) hx hb (by omega) (by omega) dX6_casesOf_46 (by decide) (fun c46 => ?_) (fun c46 => ?_)
            · refine lv_iconst (v := (nI 1)) hx hb dX6_casesOf_57 (by decide) ?_
              refine lv_goto (tgt := 62) hx hb dX6_casesOf_58 (by decide) ?_
              refine lv_istore (lv' := [(4, .int (nI 1)), (3, .int (nI i)), (2, .int (nI u)), (0, .ref (qr 0)), (1, .int (nI w))]) hx hb dX6_casesOf_62 hl (by decide) rfl (fun ls hl => ?_)
              refine lv_iload_n hx hb dX6_casesOf_64 rfl (lv_at hl 2 rfl) ?_
              refine lv_iload hx hb dX6_casesOf_65 (lv_at hl 0 rfl) ?_
              refine lv_if_eq (tgt := 74) hx hb dX6_casesOf_67 (by decide) (fun h => absurd h (by decide)) (fun _ => ?_)
              refine lv_iconst (v := (nI 1)) hx hb dX6_casesOf_70 (by decide) ?_
              refine lv_goto (tgt := 75) hx hb dX6_casesOf_71 (by decide) ?_
              refine n_iadd (v := (nI (u + 1))) hx hb (nI_add _ _) dX6_casesOf_75 ?_
              refine lv_istore_n (lv' := [(2, .int (nI (u + 1))), (4, .int (nI 1)), (3, .int (nI i)), (0, .ref (qr 0)), (1, .int (nI w))]) hx hb dX6_casesOf_76 rfl hl (by decide) rfl (fun ls hl => ?_)
              have hg2 := (hl9 i (by omega)).2.1
              have hg9 : csG cc ac rc st an w i = true := by
                unfold csG
                first
                | (rw [if_pos c14, decide_eq_true ((cnt_first _ _).mp (hg2.symm.trans c23))]; done)
                | (rw [if_pos c14, decide_eq_false (fun h => by have := hg2.trans ((cnt_first _ _).mpr h); omega)]; done)
                | (rw [if_neg c14, if_pos c46, decide_eq_true (by omega)]; done)
                | (rw [if_neg c14, if_neg c46, c54]; done)
                | (rw [if_neg c14]; by_cases h4 : w = 4; (rw [if_pos h4, decide_eq_false (by omega)]); rw [if_neg h4]; cases h5 : cfB (tlW st (bitC ac i cc)) an rc with | false => rfl | true => (have := cf_two h5; omega))
              refine lv_iinc (v := (nI (i + 1))) (lv' := [(3, .int (nI (i + 1))), (2, .int (nI (u + 1))), (4, .int (nI 1)), (0, .ref (qr 0)), (1, .int (nI w))]) hx hb dX6_casesOf_77 hl (k := 2) rfl (nI_inc _) (by decide) rfl (fun ls hl => ?_)
              refine lv_goto (tgt := 4) hx hb dX6_casesOf_80 (by decide) ?_
              exact ih4 (i + 1) (u + 1) (by omega) (by first | assumption | omega) (by first | (rw [cntB_st hg9, ← hu]) | (rw [cntB_sf hg9, ← hu]; rfl) | (rw [cntB_sf hg9, ← hu])) _ (lv_sub hl [0, 1, 3, 4] rfl)
            · refine lv_aload_n hx hb dX6_casesOf_49 rfl (lv_at hl 2 rfl) ?_
              refine lv_iload_n hx hb dX6_casesOf_50 rfl (lv_at hl 0 rfl) ?_
              refine n_cV (b := qr 0) (As := [.int (nI i)]) (rest := []) (wc := (wR kA qr cc ac co ad rc nm st an svm cnt tx len th xf xt xs xa xw xc xk xp pt wr xm mny)) hS0 (c_X6_isConflict lQ D kA qr cc ac co ad rc nm st an svm cnt tx len th xf xt xs xa xw xc xk xp pt wr xm mny i (by first | assumption | omega) (by first | assumption | omega) (by first | assumption | omega) (by first | assumption | omega) (by first | assumption | omega) (by first | assumption | omega) (by first | assumption | omega)) (cwV 1 hts gX6_casesOf_X6_isConflict rfl rfl rfl (by decide +kernel) ⟨Nat.le_of_ble_eq_true rfl, Nat.le_of_ble_eq_true rfl⟩) hP hK (q0 := 0) rfl rfl rfl rfl rfl hl.1 (Nat.le_of_ble_eq_true rfl) dX6_casesOf_51 ⟨Nat.le_refl _, Nat.le_refl _⟩ (fun r51 h51 => ?_)
              subst h51
              refine n_ifb_eq (b := cfB (tlW st (bitC ac i cc)) an rc) (tgt := 61) hx hb dX6_casesOf_54 (by decide) (fun c54 => ?_) (fun c54 => ?_)
              · refine lv_iconst (v := (nI 0)) hx hb dX6_casesOf_61 (by decide) ?_
                refine lv_istore (lv' := [(4, .int (nI 0)), (3, .int (nI i)), (2, .int (nI u)), (0, .ref (qr 0)), (1, .int (nI w))]) hx hb dX6_casesOf_62 hl (by decide) rfl (fun ls hl => ?_)
                refine lv_iload_n hx hb dX6_casesOf_64 rfl (lv_at hl 2 rfl) ?_
                refine lv_iload hx hb dX6_casesOf_65 (lv_at hl 0 rfl) ?_
                refine lv_if_eq (tgt := 74) hx hb dX6_casesOf_67 (by decide) (fun _ => ?_) (fun h => absurd (by decide) h)
                refine lv_iconst (v := (nI 0)) hx hb dX6_casesOf_74 (by decide) ?_
                refine n_iadd (v := (nI u)) hx hb (nI_add _ _) dX6_casesOf_75 ?_
                refine lv_istore_n (lv' := [(2, .int (nI u)), (4, .int (nI 0)), (3, .int (nI i)), (0, .ref (qr 0)), (1, .int (nI w))]) hx hb dX6_casesOf_76 rfl hl (by decide) rfl (fun ls hl => ?_)
                have hg2 := (hl9 i (by omega)).2.1
                have hg9 : csG cc ac rc st an w i = false := by
                  unfold csG
                  first
                  | (rw [if_pos c14, decide_eq_true ((cnt_first _ _).mp (hg2.symm.trans c23))]; done)
                  | (rw [if_pos c14, decide_eq_false (fun h => by have := hg2.trans ((cnt_first _ _).mpr h); omega)]; done)
                  | (rw [if_neg c14, if_pos c46, decide_eq_true (by omega)]; done)
                  | (rw [if_neg c14, if_neg c46, c54]; done)
                  | (rw [if_neg c14]; by_cases h4 : w = 4; (rw [if_pos h4, decide_eq_false (by omega)]); rw [if_neg h4]; cases h5 : cfB (tlW st (bitC ac i cc)) an rc with | false => rfl | true => (have := cf_two h5; omega))
                refine lv_iinc (v := (nI (i + 1))) (lv' := [(3, .int (nI (i + 1))), (2, .int (nI u)), (4, .int (nI 0)), (0, .ref (qr 0)), (1, .int (nI w))]) hx hb dX6_casesOf_77 hl (k := 2) rfl (nI_inc _) (by decide) rfl (fun ls hl => ?_)
                refine lv_goto (tgt := 4) hx hb dX6_casesOf_80 (by decide) ?_
                exact ih4 (i + 1) u (by omega) (by first | assumption | omega) (by first | (rw [cntB_st hg9, ← hu]) | (rw [cntB_sf hg9, ← hu]; rfl) | (rw [cntB_sf hg9, ← hu])) _ (lv_sub hl [0, 1, 3, 4] rfl)
              · refine lv_iconst (v := (nI 1)) hx hb dX6_casesOf_57 (by decide) ?_
                refine lv_goto (tgt := 62) hx hb dX6_casesOf_58 (by decide) ?_
                refine lv_istore (lv' := [(4, .int (nI 1)), (3, .int (nI i)), (2, .int (nI u)), (0, .ref (qr 0)), (1, .int (nI w))]) hx hb dX6_casesOf_62 hl (by decide) rfl (fun ls hl => ?_)
                refine lv_iload_n hx hb dX6_casesOf_64 rfl (lv_at hl 2 rfl) ?_
                refine lv_iload hx hb dX6_casesOf_65 (lv_at hl 0 rfl) ?_
                refine lv_if_eq (tgt := 74) hx hb dX6_casesOf_67 (by decide) (fun h => absurd h (by decide)) (fun _ => ?_)
                refine lv_iconst (v := (nI 1)) hx hb dX6_casesOf_70 (by decide) ?_
                refine lv_goto (tgt := 75) hx hb dX6_casesOf_71 (by decide) ?_
                refine n_iadd (v := (nI (u + 1))) hx hb (nI_add _ _) dX6_casesOf_75 ?_
                refine lv_istore_n (lv' := [(2, .int (nI (u + 1))), (4, .int (nI 1)), (3, .int (nI i)), (0, .ref (qr 0)), (1, .int (nI w))]) hx hb dX6_casesOf_76 rfl hl (by decide) rfl (fun ls hl => ?_)
                have hg2 := (hl9 i (by omega)).2.1
                have hg9 : csG cc ac rc st an w i = true := by
                  unfold csG
                  first
                  | (rw [if_pos c14, decide_eq_true ((cnt_first _ _).mp (hg2.symm.trans c23))]; done)
                  | (rw [if_pos c14, decide_eq_false (fun h => by have := hg2.trans ((cnt_first _ _).mpr h); omega)]; done)
                  | (rw [if_neg c14, if_pos c46, decide_eq_true (by omega)]; done)
                  | (rw [if_neg c14, if_neg c46, c54]; done)
                  | (rw [if_neg c14]; by_cases h4 : w = 4; (rw [if_pos h4, decide_eq_false (by omega)]); rw [if_neg h4]; cases h5 : cfB (tlW st (bitC ac i cc)) an rc with | false => rfl | true => (have := cf_two h5; omega))
                refine lv_iinc (v := (nI (i + 1))) (lv' := [(3, .int (nI (i + 1))), (2, .int (nI (u + 1))), (4, .int (nI 1)), (0, .ref (qr 0)), (1, .int (nI w))]) hx hb dX6_casesOf_77 hl (k := 2) rfl (nI_inc _) (by decide) rfl (fun ls hl => ?_)
                refine lv_goto (tgt := 4) hx hb dX6_casesOf_80 (by decide) ?_
                exact ih4 (i + 1) (u + 1) (by omega) (by first | assumption | omega) (by first | (rw [cntB_st hg9, ← hu]) | (rw [cntB_sf hg9, ← hu]; rfl) | (rw [cntB_sf hg9, ← hu])) _ (lv_sub hl [0, 1, 3, 4] rfl)
        · refine lv_aload_n hx hb dX6_casesOf_17 rfl (lv_at hl 2 rfl) ?_
          refine n_get (ci := 6) (v := .ref (qr 5)) (C := RX6) (T := TX6) (N := 18) hx hb hts hinX6 hown hK hP 0 rfl rfl 7 rfl ⟨rfl, rfl, rfl⟩ f22 rfl dX6_casesOf_18 ?_
          refine lv_iload_n hx hb dX6_casesOf_21 rfl (lv_at hl 0 rfl) ?_
          refine n_iald (i := i) (v := (nI (xt i))) hx hb hK hP 5 0 rfl rfl (by omega) (Nat.le_of_ble_eq_true rfl) rfl dX6_casesOf_22 ?_
          refine n_if_ne (a := xt i) (tgt := 30) hx hb (by rw [(hl9 _ (by omega)).2.1]; have := cntB_le (tlW st (bitC ac i cc)) rc; omega) dX6_casesOf_23 (by decide) (fun c23 => ?_) (fun c23 => ?_)
          · refine lv_iconst (v := (nI 0)) hx hb dX6_casesOf_30 (by decide) ?_
            refine lv_goto (tgt := 62) hx hb dX6_casesOf_31 (by decide) ?_
            refine lv_istore (lv' := [(4, .int (nI 0)), (3, .int (nI i)), (2, .int (nI u)), (0, .ref (qr 0)), (1, .int (nI w))]) hx hb dX6_casesOf_62 hl (by decide) rfl (fun ls hl => ?_)
            refine lv_iload_n hx hb dX6_casesOf_64 rfl (lv_at hl 2 rfl) ?_
            refine lv_iload hx hb dX6_casesOf_65 (lv_at hl 0 rfl) ?_
            refine lv_if_eq (tgt := 74) hx hb dX6_casesOf_67 (by decide) (fun _ => ?_) (fun h => absurd (by decide) h)
            refine lv_iconst (v := (nI 0)) hx hb dX6_casesOf_74 (by decide) ?_
            refine n_iadd (v := (nI u)) hx hb (nI_add _ _) dX6_casesOf_75 ?_
            refine lv_istore_n (lv' := [(2, .int (nI u)), (4, .int (nI 0)), (3, .int (nI i)), (0, .ref (qr 0)), (1, .int (nI w))]) hx hb dX6_casesOf_76 rfl hl (by decide) rfl (fun ls hl => ?_)
            have hg2 := (hl9 i (by omega)).2.1
            have hg9 : csG cc ac rc st an w i = false := by
              unfold csG
              first
              | (rw [if_pos c14, decide_eq_true ((cnt_first _ _).mp (hg2.symm.trans c23))]; done)
              | (rw [if_pos c14, decide_eq_false (fun h => by have := hg2.trans ((cnt_first _ _).mpr h); omega)]; done)
              | (rw [if_neg c14, if_pos c46, decide_eq_true (by omega)]; done)
              | (rw [if_neg c14, if_neg c46, c54]; done)
              | (rw [if_neg c14]; by_cases h4 : w = 4; (rw [if_pos h4, decide_eq_false (by omega)]); rw [if_neg h4]; cases h5 : cfB (tlW st (bitC ac i cc)) an rc with | false => rfl | true => (have := cf_two h5; omega))
            refine lv_iinc (v := (nI (i + 1))) (lv' := [(3, .int (nI (i + 1))), (2, .int (nI u)), (4, .int (nI 0)), (0, .ref (qr 0)), (1, .int (nI w))]) hx hb dX6_casesOf_77 hl (k := 2) rfl (nI_inc _) (by decide) rfl (fun ls hl => ?_)
            refine lv_goto (tgt := 4) hx hb dX6_casesOf_80 (by decide) ?_
            exact ih4 (i + 1) u (by omega) (by first | assumption | omega) (by first | (rw [cntB_st hg9, ← hu]) | (rw [cntB_sf hg9, ← hu]; rfl) | (rw [cntB_sf hg9, ← hu])) _ (lv_sub hl [0, 1, 3, 4] rfl)
          · refine lv_iconst (v := (nI 1)) hx hb dX6_casesOf_26 (by decide) ?_
            refine lv_goto (tgt := 62) hx hb dX6_casesOf_27 (by decide) ?_
            refine lv_istore (lv' := [(4, .int (nI 1)), (3, .int (nI i)), (2, .int (nI u)), (0, .ref (qr 0)), (1, .int (nI w))]) hx hb dX6_casesOf_62 hl (by decide) rfl (fun ls hl => ?_)
            refine lv_iload_n hx hb dX6_casesOf_64 rfl (lv_at hl 2 rfl) ?_
            refine lv_iload hx hb dX6_casesOf_65 (lv_at hl 0 rfl) ?_
            refine lv_if_eq (tgt := 74) hx hb dX6_casesOf_67 (by decide) (fun h => absurd h (by decide)) (fun _ => ?_)
            refine lv_iconst (v := (nI 1)) hx hb dX6_casesOf_70 (by decide) ?_
            refine lv_goto (tgt := 75) hx hb dX6_casesOf_71 (by decide) ?_
            refine n_iadd (v := (nI (u + 1))) hx hb (nI_add _ _) dX6_casesOf_75 ?_
            refine lv_istore_n (lv' := [(2, .int (nI (u + 1))), (4, .int (nI 1)), (3, .int (nI i)), (0, .ref (qr 0)), (1, .int (nI w))]) hx hb dX6_casesOf_76 rfl hl (by decide) rfl (fun ls hl => ?_)
            have hg2 := (hl9 i (by omega)).2.1
            have hg9 : csG cc ac rc st an w i = true := by
              unfold csG
              first
              | (rw [if_pos c14, decide_eq_true ((cnt_first _ _).mp (hg2.symm.trans c23))]; done)
              | (rw [if_pos c14, decide_eq_false (fun h => by have := hg2.trans ((cnt_first _ _).mpr h); omega)]; done)
              | (rw [if_neg c14, if_pos c46, decide_eq_true (by omega)]; done)
              | (rw [if_neg c14, if_neg c46, c54]; done)
              | (rw [if_neg c14]; by_cases h4 : w = 4; (rw [if_pos h4, decide_eq_false (by omega)]); rw [if_neg h4]; cases h5 : cfB (tlW st (bitC ac i cc)) an rc with | false => rfl | true => (have := cf_two h5; omega))
            refine lv_iinc (v := (nI (i + 1))) (lv' := [(3, .int (nI (i + 1))), (2, .int (nI (u + 1))), (4, .int (nI 1)), (0, .ref (qr 0)), (1, .int (nI w))]) hx hb dX6_casesOf_77 hl (k := 2) rfl (nI_inc _) (by decide) rfl (fun ls hl => ?_)
            refine lv_goto (tgt := 4) hx hb dX6_casesOf_80 (by decide) ?_
            exact ih4 (i + 1) (u + 1) (by omega) (by first | assumption | omega) (by first | (rw [cntB_st hg9, ← hu]) | (rw [cntB_sf hg9, ← hu]; rfl) | (rw [cntB_sf hg9, ← hu])) _ (lv_sub hl [0, 1, 3, 4] rfl)
  exact L4 ((prodF ac cc - 0) + 1) 0 0 (Nat.lt_succ_self _) (Nat.zero_le _) rfl _ (lv_sub hl [0, 1, 2, 3] rfl)

set_option maxHeartbeats 4000000 in
set_option maxRecDepth 100000 in
theorem c_X6_unlike (lQ : Launch) (D : va_G) (kA : Nat → ClassId) (qr : Nat → Nat) (cc : Nat) (ac : Nat → Nat) (co : Nat → Nat) (ad : Nat) (rc : Nat) (nm : Nat → Nat) (st : Nat → Nat) (an : Nat → Nat) (svm : Nat → TCt) (cnt : Nat) (tx : Nat → Nat) (len : Nat) (th : Nat) (xf : Nat → Option Nat) (xt : Nat → Nat) (xs : Nat → Option Nat) (xa : Nat → Nat) (xw : Nat → Nat) (xc : Nat → Nat) (xk : Nat → Option Nat) (xp : Nat → Nat) (pt : Nat) (wr : Option Nat) (xm : Nat → Nat) (mny : Nat) (hcc : cc ≤ 5) (hac : ∀ k, k < cc → 2 ≤ ac k ∧ ac k ≤ 4) (han : ∀ j, j < rc → an j < 11) (hl9 : laid cc ac rc st an xf xt xs xa (prodF ac cc)) : Met lQ yX6_unlike wsX6_unlike (rmN 2 43) (rd_Pc D vwCl [.ref (qr 0)] (wR kA qr cc ac co ad rc nm st an svm cnt tx len th xf xt xs xa xw xc xk xp pt wr xm mny) (tyK kA)) (vp_Si (fun r : Int32 => r = (nI (bitsN (orN (axN cc ac rc st an) (prodF ac cc)) 11)))) 0 0 (fun _ => False) := by
  refine Met.ofW (cc := cX6_unlike) (maxL := 4) (ret := (some .int)) (by decide) rfl ?_
  intro pQ eQ s mQ args below meth cQ s₁ B hml hv
  obtain ⟨rfl, hP, hK⟩ := hv
  have hx := B.exec
  have hb := B.bytes
  have hr := B.returns
  have hts := atoms_spec (ws := wsX6_unlike) B.pre
  have hown : s.vm.findClass RX6 = some mQ.cls := findClass_of_methodNamed B.named
  have hlocks : meth.locks = false := B.notSynchronized
  have hS0 : CallFix pQ mQ cQ cX6_unlike 4 s ([.ref (qr 0)] : List Value).toArray wsX6_unlike RX6 := ⟨hx, hb, hml, hown, hts⟩
  have f28 : (Cond.fieldLink RX6 28 "AskedRulesModel" "actions" "[I").before ([.ref (qr 0)] : List Value).toArray s = true := hts _ (by decide +kernel)
  have hinX6 : ∀ w ∈ wsX60, w ∈ wsX6_unlike := by decide +kernel
  have hl := lv_entry ([.ref (qr 0)]) (n := 4) (Nat.le_of_ble_eq_true rfl)
  rw [lg_entry_eq]
  generalize (lg_sl ([.ref (qr 0)]) ++ List.replicate (4 - (lg_sl ([.ref (qr 0)])).length) Slot.unset).toArray = ls at hl ⊢
  have hl : lv_has ls 4 [(0, .ref (qr 0))] := hl
  have hP : va_P D vwCl (wR kA qr cc ac co ad rc nm st an svm cnt tx len th xf xt xs xa xw xc xk xp pt wr xm mny) s.heap := hP
  have hP10 := prodF_1024 hcc hac
  have hax9 : ∀ c, c < prodF ac cc → xa c = axN cc ac rc st an c := fun c hc => (hl9 c hc).2.2.2
  have hxl9 : ∀ c, c < prodF ac cc → xa c < 11 := fun c hc => by rw [hax9 c hc]; exact actO_lt han
  refine lv_iconst (v := (nI 0)) hx hb dX6_unlike_0 (by decide) ?_
  refine lv_istore_n (lv' := [(1, .int (nI 0)), (0, .ref (qr 0))]) hx hb dX6_unlike_1 rfl hl (by decide) rfl (fun ls hl => ?_)
  refine lv_iconst (v := (nI 0)) hx hb dX6_unlike_2 (by decide) ?_
  refine lv_istore_n (lv' := [(2, .int (nI 0)), (1, .int (nI 0)), (0, .ref (qr 0))]) hx hb dX6_unlike_3 rfl hl (by decide) rfl (fun ls hl => ?_)
  have L4 : ∀ (nQ : Nat) (i : Nat) (u : Nat), prodF ac cc - i < nQ → (i ≤ prodF ac cc) → (u = orN xa i) → ∀ (ls : Array Slot), lv_has ls 4 [(2, .int (nI i)), (1, .int (nI u)), (0, .ref (qr 0))] → W pQ lQ eQ (headSpec wsX6_unlike (rmN 2 43)).room s mQ ([.ref (qr 0)] : List Value).toArray below meth cQ s.heap [] 0 0 (MQ below (vp_Si (fun r : Int32 => r = (nI (bitsN (orN (axN cc ac rc st an) (prodF ac cc)) 11)))) ([.ref (qr 0)] : List Value).toArray s 0 0 (fun _ => False)) (F0 mQ 4 ls []) := by
    intro nQ
    induction nQ with
    | zero => intro i u hn; exact absurd hn (Nat.not_lt_zero _)
    | succ nQ ih4 =>
      intro i u hm4 hi hu ls hl
      refine lv_iload_n hx hb dX6_unlike_4 rfl (lv_at hl 0 rfl) ?_
      refine lv_aload_n hx hb dX6_unlike_5 rfl (lv_at hl 2 rfl) ?_
      refine n_cV (b := qr 0) (As := []) (rest := [.int (nI i)]) (wc := (wR kA qr cc ac co ad rc nm st an svm cnt tx len th xf xt xs xa xw xc xk xp pt wr xm mny)) hS0 (c_X6_cases lQ D kA qr cc ac co ad rc nm st an svm cnt tx len th xf xt xs xa xw xc xk xp pt wr xm mny (by first | assumption | omega)) (cwV 0 hts gX6_unlike_X6_cases rfl rfl rfl (by decide +kernel) ⟨Nat.le_of_ble_eq_true rfl, Nat.le_of_ble_eq_true rfl⟩) hP hK (q0 := 0) rfl rfl rfl rfl rfl hl.1 (Nat.le_of_ble_eq_true rfl) dX6_unlike_6 ⟨Nat.le_refl _, Nat.le_refl _⟩ (fun r6 h6 => ?_)
      subst h6
      refine n_icmp_ge (a := i) (b := prodF ac cc) (tgt := 29) hx hb (by omega) (by omega) dX6_unlike_9 (by decide) (fun c9 => ?_) (fun c9 => ?_)
      · refine lv_iconst (v := (nI 0)) hx hb dX6_unlike_29 (by decide) ?_
        refine lv_istore_n (lv' := [(2, .int (nI 0)), (1, .int (nI u)), (0, .ref (qr 0))]) hx hb dX6_unlike_30 rfl hl (by decide) rfl (fun ls hl => ?_)
        refine lv_iconst (v := (nI 0)) hx hb dX6_unlike_31 (by decide) ?_
        refine lv_istore_n (lv' := [(3, .int (nI 0)), (2, .int (nI 0)), (1, .int (nI u)), (0, .ref (qr 0))]) hx hb dX6_unlike_32 rfl hl (by decide) rfl (fun ls hl => ?_)
        have L33 : ∀ (nQ : Nat) (j : Nat) (v : Nat), 11 - j < nQ → (j ≤ 11) → (v = bitsN u j) → ∀ (ls : Array Slot), lv_has ls 4 [(3, .int (nI j)), (2, .int (nI v)), (1, .int (nI u)), (0, .ref (qr 0))] → W pQ lQ eQ (headSpec wsX6_unlike (rmN 2 43)).room s mQ ([.ref (qr 0)] : List Value).toArray below meth cQ s.heap [] 0 0 (MQ below (vp_Si (fun r : Int32 => r = (nI (bitsN (orN (axN cc ac rc st an) (prodF ac cc)) 11)))) ([.ref (qr 0)] : List Value).toArray s 0 0 (fun _ => False)) (F0 mQ 33 ls []) := by
          intro nQ
          induction nQ with
          | zero => intro j v hn; exact absurd hn (Nat.not_lt_zero _)
          | succ nQ ih33 =>
            intro j v hm33 hj hv ls hl
            refine lv_iload_n hx hb dX6_unlike_33 rfl (lv_at hl 0 rfl) ?_
            refine lv_bipush (v := (nI 10)) hx hb dX6_unlike_34 (by decide) ?_
            refine n_icmp_gt (a := j) (b := 10) (tgt := 53) hx hb (by omega) (by omega) dX6_unlike_36 (by decide) (fun c36 => ?_) (fun c36 => ?_)
            · refine lv_iload_n hx hb dX6_unlike_53 rfl (lv_at hl 1 rfl) ?_
              exact n_reti hx hb hr hlocks (post := fun r : Int32 => r = (nI (bitsN (orN (axN cc ac rc st an) (prodF ac cc)) 11))) (by rw [hv, show j = 11 by omega, hu, show i = prodF ac cc by omega, orN_cong2 hax9]) rfl dX6_unlike_54
            · refine lv_iload_n hx hb dX6_unlike_39 rfl (lv_at hl 1 rfl) ?_
              refine lv_iload_n hx hb dX6_unlike_40 rfl (lv_at hl 2 rfl) ?_
              refine lv_iload_n hx hb dX6_unlike_41 rfl (lv_at hl 0 rfl) ?_
              refine n_ishr (v := (nI (u >>> j))) hx hb (nN_shr (by first | omega | (rw [hu]; exact Nat.lt_trans (orN_lt (fun j hj => hxl9 j (by omega))) (by decide))) (by first | omega | (rw [hu]; exact Nat.lt_trans (orN_lt (fun j hj => hxl9 j (by omega))) (by decide)))) dX6_unlike_42 ?_
              refine lv_iconst (v := (nI 1)) hx hb dX6_unlike_43 (by decide) ?_
              refine n_iand (v := (nI ((u >>> j) &&& 1))) hx hb (nN_and _ _) dX6_unlike_44 ?_
              refine n_iadd (v := (nI (v + ((u >>> j) &&& 1)))) hx hb (nI_add _ _) dX6_unlike_45 ?_
              refine lv_istore_n (lv' := [(2, .int (nI (v + ((u >>> j) &&& 1)))), (3, .int (nI j)), (1, .int (nI u)), (0, .ref (qr 0))]) hx hb dX6_unlike_46 rfl hl (by decide) rfl (fun ls hl => ?_)
              refine lv_iinc (v := (nI (j + 1))) (lv' := [(3, .int (nI (j + 1))), (2, .int (nI (v + ((u >>> j) &&& 1)))), (1, .int (nI u)), (0, .ref (qr 0))]) hx hb dX6_unlike_47 hl (k := 1) rfl (nI_inc _) (by decide) rfl (fun ls hl => ?_)
              refine lv_goto (tgt := 33) hx hb dX6_unlike_50 (by decide) ?_
              exact ih33 (j + 1) (v + ((u >>> j) &&& 1)) (by omega) (by first | assumption | omega) (by rw [hv]; rfl) _ (lv_sub hl [0, 1, 2, 3] rfl)
        exact L33 ((11 - 0) + 1) 0 0 (Nat.lt_succ_self _) (by first | assumption | omega) rfl _ (lv_sub hl [0, 1, 2, 3] rfl)
      · refine lv_iload_n hx hb dX6_unlike_12 rfl (lv_at hl 1 rfl) ?_
        refine lv_iconst (v := (nI 1)) hx hb dX6_unlike_13 (by decide) ?_
        refine lv_aload_n hx hb dX6_unlike_14 rfl (lv_at hl 2 rfl) ?_
        refine n_get (ci := 6) (v := .ref (qr 7)) (C := RX6) (T := TX6) (N := 18) hx hb hts hinX6 hown hK hP 0 rfl rfl 9 rfl ⟨rfl, rfl, rfl⟩ f28 rfl dX6_unlike_15 ?_
        refine lv_iload_n hx hb dX6_unlike_18 rfl (lv_at hl 0 rfl) ?_
        refine n_iald (i := i) (v := (nI (xa i))) hx hb hK hP 7 0 rfl rfl (by omega) (Nat.le_of_ble_eq_true rfl) rfl dX6_unlike_19 ?_
        refine n_ishl (v := (nI (1 <<< (xa i)))) hx hb (nN_shl _ (Nat.lt_trans (hxl9 _ (by omega)) (by decide))) dX6_unlike_20 ?_
        refine n_ior (v := (nI (u ||| (1 <<< (xa i))))) hx hb (nN_or _ _) dX6_unlike_21 ?_
        refine lv_istore_n (lv' := [(1, .int (nI (u ||| (1 <<< (xa i))))), (2, .int (nI i)), (0, .ref (qr 0))]) hx hb dX6_unlike_22 rfl hl (by decide) rfl (fun ls hl => ?_)
        refine lv_iinc (v := (nI (i + 1))) (lv' := [(2, .int (nI (i + 1))), (1, .int (nI (u ||| (1 <<< (xa i))))), (0, .ref (qr 0))]) hx hb dX6_unlike_23 hl (k := 1) rfl (nI_inc _) (by decide) rfl (fun ls hl => ?_)
        refine lv_goto (tgt := 4) hx hb dX6_unlike_26 (by decide) ?_
        exact ih4 (i + 1) (u ||| (1 <<< (xa i))) (by omega) (by first | assumption | omega) (by rw [hu]; rfl) _ (lv_sub hl [0, 1, 2] rfl)
  exact L4 ((prodF ac cc - 0) + 1) 0 0 (Nat.lt_succ_self _) (Nat.zero_le _) rfl _ (lv_sub hl [0, 1, 2] rfl)

set_option maxHeartbeats 4000000 in
set_option maxRecDepth 100000 in
theorem c_X6_needed (lQ : Launch) (D : va_G) (kA : Nat → ClassId) (qr : Nat → Nat) (cc : Nat) (ac : Nat → Nat) (co : Nat → Nat) (ad : Nat) (rc : Nat) (nm : Nat → Nat) (st : Nat → Nat) (an : Nat → Nat) (svm : Nat → TCt) (cnt : Nat) (tx : Nat → Nat) (len : Nat) (th : Nat) (xf : Nat → Option Nat) (xt : Nat → Nat) (xs : Nat → Option Nat) (xa : Nat → Nat) (xw : Nat → Nat) (xc : Nat → Nat) (xk : Nat → Option Nat) (xp : Nat → Nat) (pt : Nat) (wr : Option Nat) (xm : Nat → Nat) (mny : Nat) (hcc : cc ≤ 5) (hac : ∀ k, k < cc → 2 ≤ ac k ∧ ac k ≤ 4) (hrc : rc ≤ 20) (han : ∀ j, j < rc → an j < 11) (hst : ∀ j, j < rc → st j < 1048576) (hl9 : laid cc ac rc st an xf xt xs xa (prodF ac cc)) : Met lQ yX6_needed wsX6_needed (rmN 2 43) (rd_Pc D vwCl [.ref (qr 0)] (wR kA qr cc ac co ad rc nm st an svm cnt tx len th xf xt xs xa xw xc xk xp pt wr xm mny) (tyK kA)) (vp_Si (fun r : Int32 => r = (nI (cntB (fun p => decide (0 < ownF cc ac rc st p)) rc)))) 0 0 (fun _ => False) := by
  refine Met.ofW (cc := cX6_needed) (maxL := 3) (ret := (some .int)) (by decide) rfl ?_
  intro pQ eQ s mQ args below meth cQ s₁ B hml hv
  obtain ⟨rfl, hP, hK⟩ := hv
  have hx := B.exec
  have hb := B.bytes
  have hr := B.returns
  have hts := atoms_spec (ws := wsX6_needed) B.pre
  have hown : s.vm.findClass RX6 = some mQ.cls := findClass_of_methodNamed B.named
  have hlocks : meth.locks = false := B.notSynchronized
  have hS0 : CallFix pQ mQ cQ cX6_needed 3 s ([.ref (qr 0)] : List Value).toArray wsX6_needed RX6 := ⟨hx, hb, hml, hown, hts⟩
  have f7 : (Cond.fieldLink RX6 7 "AskedRulesModel" "now" "[I").before ([.ref (qr 0)] : List Value).toArray s = true := hts _ (by decide +kernel)
  have hinX6 : ∀ w ∈ wsX60, w ∈ wsX6_needed := by decide +kernel
  have hl := lv_entry ([.ref (qr 0)]) (n := 3) (Nat.le_of_ble_eq_true rfl)
  rw [lg_entry_eq]
  generalize (lg_sl ([.ref (qr 0)]) ++ List.replicate (3 - (lg_sl ([.ref (qr 0)])).length) Slot.unset).toArray = ls at hl ⊢
  have hl : lv_has ls 3 [(0, .ref (qr 0))] := hl
  have hP : va_P D vwCl (wR kA qr cc ac co ad rc nm st an svm cnt tx len th xf xt xs xa xw xc xk xp pt wr xm mny) s.heap := hP
  have hP10 := prodF_1024 hcc hac
  have hxf9 : ∀ c q, c < prodF ac cc → xf c = some q → q < 20 := fun c q hc h => by rw [(hl9 c hc).1] at h; have := (firstF_spec h).1; omega
  have hown9 : ∀ p, cntB (fun c => decide (xf c = some p)) (prodF ac cc) = ownF cc ac rc st p := fun p => cntB_cong2 (fun c hc => by rw [(hl9 c hc).1])
  refine lv_iconst (v := (nI 0)) hx hb dX6_needed_0 (by decide) ?_
  refine lv_istore_n (lv' := [(1, .int (nI 0)), (0, .ref (qr 0))]) hx hb dX6_needed_1 rfl hl (by decide) rfl (fun ls hl => ?_)
  refine lv_iconst (v := (nI 0)) hx hb dX6_needed_2 (by decide) ?_
  refine lv_istore_n (lv' := [(2, .int (nI 0)), (1, .int (nI 0)), (0, .ref (qr 0))]) hx hb dX6_needed_3 rfl hl (by decide) rfl (fun ls hl => ?_)
  have L4 : ∀ (nQ : Nat) (i : Nat) (u : Nat), rc - i < nQ → (i ≤ rc) → (u = cntB (fun p => decide (0 < ownF cc ac rc st p)) i) → ∀ (ls : Array Slot), lv_has ls 3 [(2, .int (nI i)), (1, .int (nI u)), (0, .ref (qr 0))] → W pQ lQ eQ (headSpec wsX6_needed (rmN 2 43)).room s mQ ([.ref (qr 0)] : List Value).toArray below meth cQ s.heap [] 0 0 (MQ below (vp_Si (fun r : Int32 => r = (nI (cntB (fun p => decide (0 < ownF cc ac rc st p)) rc)))) ([.ref (qr 0)] : List Value).toArray s 0 0 (fun _ => False)) (F0 mQ 4 ls []) := by
    intro nQ
    induction nQ with
    | zero => intro i u hn; exact absurd hn (Nat.not_lt_zero _)
    | succ nQ ih4 =>
      intro i u hm4 hi hu ls hl
      refine lv_iload_n hx hb dX6_needed_4 rfl (lv_at hl 0 rfl) ?_
      refine lv_aload_n hx hb dX6_needed_5 rfl (lv_at hl 2 rfl) ?_
      refine n_get (ci := 6) (v := .ref (qr 1)) (C := RX6) (T := TX6) (N := 18) hx hb hts hinX6 hown hK hP 0 rfl rfl 0 rfl ⟨rfl, rfl, rfl⟩ f7 rfl dX6_needed_6 ?_
      refine lv_iconst (v := (nI 1)) hx hb dX6_needed_9 (by decide) ?_
      refine n_iald (i := 1) (v := (nI rc)) hx hb hK hP 1 0 rfl rfl (by omega) (Nat.le_of_ble_eq_true rfl) rfl dX6_needed_10 ?_
      refine n_icmp_ge (a := i) (b := rc) (tgt := 40) hx hb (by omega) (by omega) dX6_needed_11 (by decide) (fun c11 => ?_) (fun c11 => ?_)
      · refine lv_iload_n hx hb dX6_needed_40 rfl (lv_at hl 1 rfl) ?_
        have e9 : rc = i := by omega
        exact n_reti hx hb hr hlocks (post := fun r : Int32 => r = (nI (cntB (fun p => decide (0 < ownF cc ac rc st p)) rc))) (by rw [hu, e9]) rfl dX6_needed_41
      · refine lv_iload_n hx hb dX6_needed_14 rfl (lv_at hl 1 rfl) ?_
        refine lv_aload_n hx hb dX6_needed_15 rfl (lv_at hl 2 rfl) ?_
        refine lv_iload_n hx hb dX6_needed_16 rfl (lv_at hl 0 rfl) ?_
        refine lv_aload_n hx hb dX6_needed_17 rfl (lv_at hl 2 rfl) ?_
        refine n_cV (b := qr 0) (As := []) (rest := [.int (nI i), .ref (qr 0), .int (nI u)]) (wc := (wR kA qr cc ac co ad rc nm st an svm cnt tx len th xf xt xs xa xw xc xk xp pt wr xm mny)) hS0 (c_X6_cases lQ D kA qr cc ac co ad rc nm st an svm cnt tx len th xf xt xs xa xw xc xk xp pt wr xm mny (by first | assumption | omega)) (cwV 0 hts gX6_needed_X6_cases rfl rfl rfl (by decide +kernel) ⟨Nat.le_of_ble_eq_true rfl, Nat.le_of_ble_eq_true rfl⟩) hP hK (q0 := 0) rfl rfl rfl rfl rfl hl.1 (Nat.le_of_ble_eq_true rfl) dX6_needed_18 ⟨Nat.le_refl _, Nat.le_refl _⟩ (fun r18 h18 => ?_)
        subst h18
        refine n_cV (b := qr 0) (As := [.int (nI i), .int (nI (prodF ac cc))]) (rest := [.int (nI u)]) (wc := (wR kA qr cc ac co ad rc nm st an svm cnt tx len th xf xt xs xa xw xc xk xp pt wr xm mny)) hS0 (c_X6_ownOf lQ D kA qr cc ac co ad rc nm st an svm cnt tx len th xf xt xs xa xw xc xk xp pt wr xm mny i (prodF ac cc) (by first | assumption | omega) (by first | assumption | omega) hxf9) (cwV 2 hts gX6_needed_X6_ownOf rfl rfl rfl (by decide +kernel) ⟨Nat.le_of_ble_eq_true rfl, Nat.le_of_ble_eq_true rfl⟩) hP hK (q0 := 0) rfl rfl rfl rfl rfl hl.1 (Nat.le_of_ble_eq_true rfl) dX6_needed_21 ⟨Nat.le_refl _, Nat.le_refl _⟩ (fun r21 h21 => ?_)
        subst h21
        refine n_if_le (a := cntB (fun c => decide (xf c = some i)) (prodF ac cc)) (tgt := 31) hx hb (Nat.lt_of_le_of_lt (cntB_le _ _) (by omega)) dX6_needed_24 (by decide) (fun c24 => ?_) (fun c24 => ?_)
        · rw [hown9] at c24
          refine lv_iconst (v := (nI 0)) hx hb dX6_needed_31 (by decide) ?_
          refine n_iadd (v := (nI u)) hx hb (nI_add _ _) dX6_needed_32 ?_
          refine lv_istore_n (lv' := [(1, .int (nI u)), (2, .int (nI i)), (0, .ref (qr 0))]) hx hb dX6_needed_33 rfl hl (by decide) rfl (fun ls hl => ?_)
          refine lv_iinc (v := (nI (i + 1))) (lv' := [(2, .int (nI (i + 1))), (1, .int (nI u)), (0, .ref (qr 0))]) hx hb dX6_needed_34 hl (k := 1) rfl (nI_inc _) (by decide) rfl (fun ls hl => ?_)
          refine lv_goto (tgt := 4) hx hb dX6_needed_37 (by decide) ?_
          exact ih4 (i + 1) u (by omega) (by first | assumption | omega) (by first | (rw [cntB_st (f := fun p => decide (0 < ownF cc ac rc st p)) (decide_eq_true c24), ← hu]) | (rw [cntB_sf (f := fun p => decide (0 < ownF cc ac rc st p)) (decide_eq_false (by omega)), ← hu]; done) | (rw [cntB_sf (f := fun p => decide (0 < ownF cc ac rc st p)) (decide_eq_false (by omega)), ← hu]; rfl)) _ (lv_sub hl [0, 1, 2] rfl)
        · rw [hown9] at c24
          refine lv_iconst (v := (nI 1)) hx hb dX6_needed_27 (by decide) ?_
          refine lv_goto (tgt := 32) hx hb dX6_needed_28 (by decide) ?_
          refine n_iadd (v := (nI (u + 1))) hx hb (nI_add _ _) dX6_needed_32 ?_
          refine lv_istore_n (lv' := [(1, .int (nI (u + 1))), (2, .int (nI i)), (0, .ref (qr 0))]) hx hb dX6_needed_33 rfl hl (by decide) rfl (fun ls hl => ?_)
          refine lv_iinc (v := (nI (i + 1))) (lv' := [(2, .int (nI (i + 1))), (1, .int (nI (u + 1))), (0, .ref (qr 0))]) hx hb dX6_needed_34 hl (k := 1) rfl (nI_inc _) (by decide) rfl (fun ls hl => ?_)
          refine lv_goto (tgt := 4) hx hb dX6_needed_37 (by decide) ?_
          exact ih4 (i + 1) (u + 1) (by omega) (by first | assumption | omega) (by first | (rw [cntB_st (f := fun p => decide (0 < ownF cc ac rc st p)) (decide_eq_true c24), ← hu]) | (rw [cntB_sf (f := fun p => decide (0 < ownF cc ac rc st p)) (decide_eq_false (by omega)), ← hu]; done) | (rw [cntB_sf (f := fun p => decide (0 < ownF cc ac rc st p)) (decide_eq_false (by omega)), ← hu]; rfl)) _ (lv_sub hl [0, 1, 2] rfl)
  exact L4 ((rc - 0) + 1) 0 0 (Nat.lt_succ_self _) (by first | assumption | omega) rfl _ (lv_sub hl [0, 1, 2] rfl)

