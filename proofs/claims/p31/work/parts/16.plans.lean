
/-- the cells of Plans -/
def wP (kA : Nat → ClassId) (qp tq2 cq : Nat → Nat) (cm wo dg : Nat → Nat) : va_W :=
  [(qp 0, .inr (2, [.ref (tq2 0), .ref (cq 0), .ref (qp 1), .ref (qp 2), .ref (qp 3)])), (qp 1, .inl (kA 0, 3125, .inl (aN cm))), (qp 2, .inl (kA 0, 3125, .inl (aN wo))), (qp 3, .inl (kA 0, 5, .inl (aN dg)))]
def sumF (f : Nat → Nat) : Nat → Nat
  | 0 => 0
  | n + 1 => sumF f n + f n
theorem sumF_s (f : Nat → Nat) (n : Nat) : sumF f (n + 1) = sumF f n + f n := rfl
theorem sumF_cong {f g : Nat → Nat} : ∀ {n : Nat}, (∀ j, j < n → f j = g j) → sumF f n = sumF g n
  | 0, _ => rfl
  | n + 1, h => by rw [sumF_s, sumF_s, sumF_cong (fun j hj => h j (by omega)), h n (by omega)]
def maxF (f : Nat → Nat) : Nat → Nat
  | 0 => 0
  | n + 1 => if maxF f n < f n then f n else maxF f n
theorem maxF_s (f : Nat → Nat) (n : Nat) : maxF f (n + 1) = if maxF f n < f n then f n else maxF f n := rfl
theorem maxF_le {f : Nat → Nat} {m : Nat} : ∀ {n : Nat}, (∀ j, j < n → f j ≤ m) → maxF f n ≤ m
  | 0, _ => Nat.zero_le _
  | n + 1, h => by
    rw [maxF_s]
    split
    · exact h n (by omega)
    · exact maxF_le (fun j hj => h j (by omega))
/-- the least of 100 and what is open -/
def lwF (f : Nat → Nat) (op : Nat → Bool) : Nat → Nat
  | 0 => 100
  | n + 1 => if op n = true then (if f n < lwF f op n then f n else lwF f op n) else lwF f op n
theorem lwF_s (f : Nat → Nat) (op : Nat → Bool) (n : Nat) : lwF f op (n + 1) = if op n = true then (if f n < lwF f op n then f n else lwF f op n) else lwF f op n := rfl
theorem lwF_le (f : Nat → Nat) (op : Nat → Bool) : ∀ n, lwF f op n ≤ 100
  | 0 => Nat.le_refl _
  | n + 1 => by
    rw [lwF_s]
    have := lwF_le f op n
    split
    · split <;> omega
    · exact this
/-- the action that all of the n states x + p, x + 2 p .. have, or 11 -/
def comA (cm : Nat → Nat) (x p n : Nat) : Nat := if allB (fun j => decide (cm (x + (j + 1) * p) = cm (x + p))) n = true then cm (x + p) else 11
/-- the digits of a state -/
def dg5 (x k : Nat) : Nat := x / 5 ^ k % 5
theorem dg5_lt (x k : Nat) : dg5 x k < 5 := Nat.mod_lt _ (by decide)
def valB (ac : Nat → Nat) (x cc : Nat) : Bool := allB (fun k => decide (dg5 x k ≤ ac k)) cc
/-- what it costs at most to ask for k in the state x -/
def askW (ac co wo : Nat → Nat) (x k : Nat) : Nat := co k + maxF (fun j => wo (x + (j + 1) * 5 ^ k)) (ac k)
/-- what a state's digits give: its action, its cost -/
def cmN (cc : Nat) (ac sd ax cm dg : Nat → Nat) (x : Nat) : Nat := match firstF (fun k => decide (dg k = 0)) cc with
  | none => ax (sumF (fun k => (dg k - 1) * sd k) cc)
  | some k => comA cm x (5 ^ k) (ac k)
def woN (cc : Nat) (ac co wo dg : Nat → Nat) (x c : Nat) : Nat := if c = 11 then lwF (fun k => askW ac co wo x k) (fun k => decide (dg k = 0)) cc else 0
theorem p5_le {a b : Nat} (h : a ≤ b) : 5 ^ a ≤ 5 ^ b := Nat.pow_le_pow_right (by decide) h
theorem p5_625 {k : Nat} (h : k < 5) : 5 ^ k ≤ 625 := Nat.le_trans (p5_le (show k ≤ 4 by omega)) (by decide)
theorem p5_3125 {k : Nat} (h : k ≤ 5) : 5 ^ k ≤ 3125 := Nat.le_trans (p5_le h) (by decide)
theorem ix_le {x p a : Nat} (h : x + 4 * p < 3125) (ha : a ≤ 4) : x + a * p < 3125 := by
  have : a * p ≤ 4 * p := Nat.mul_le_mul_right p ha
  omega
theorem div5 (x k : Nat) : x / 5 ^ k / 5 = x / 5 ^ (k + 1) := by rw [Nat.div_div_eq_div_mul, ← Nat.pow_succ]
/-- an open digit of a state below 5 ^ n -/
theorem dg5_open {x k : Nat} : ∀ {n : Nat}, x < 5 ^ n → k < n → dg5 x k = 0 → x + 4 * 5 ^ k < 5 ^ n := by
  intro n hx hk hd
  have h1 := Nat.div_add_mod x (5 ^ (k + 1))
  have hm : x % 5 ^ (k + 1) < 5 ^ k := by
    rw [Nat.pow_succ, Nat.mod_mul, show x / 5 ^ k % 5 = 0 from hd, Nat.mul_zero, Nat.add_zero]
    exact Nat.mod_lt _ (Nat.pow_pos (by decide))
  have hq : x / 5 ^ (k + 1) < 5 ^ (n - (k + 1)) := by
    refine Nat.div_lt_of_lt_mul ?_
    rw [← Nat.pow_add, show k + 1 + (n - (k + 1)) = n by omega]; exact hx
  have h2 : 5 ^ (k + 1) * (x / 5 ^ (k + 1) + 1) ≤ 5 ^ (k + 1) * 5 ^ (n - (k + 1)) := Nat.mul_le_mul_left _ hq
  rw [← Nat.pow_add, show k + 1 + (n - (k + 1)) = n by omega, Nat.mul_add, Nat.mul_one] at h2
  have h3 : 5 ^ (k + 1) = 5 * 5 ^ k := by rw [Nat.pow_succ, Nat.mul_comm]
  omega


/-- the state for known answers, or none if they are wrong -/
def staN (n cc : Nat) (ac : Nat → Nat) : Option Nat := if n >>> (4 * cc) = 0 ∧ allB (fun k => decide (nibN n k ≤ ac k)) cc = true then some (sumF (fun k => nibN n k * 5 ^ k) cc) else none
def staF (x : Int32) (cc : Nat) (ac : Nat → Nat) : Option Nat := if x < 0 then none else staN x.toNatClampNeg cc ac
theorem staF_n {x : Int32} {cc n : Nat} {ac : Nat → Nat} (hx : x = nI n) (hn : n < 2147483648) : staF x cc ac = staN n cc ac := by
  unfold staF; rw [hx, if_neg (nI_pos hn), nI_clamp hn]

set_option maxHeartbeats 4000000 in
set_option maxRecDepth 100000 in
theorem c_X2_readDigits (lQ : Launch) (D : va_G) (kA : Nat → ClassId) (qp : Nat → Nat) (cm : Nat → Nat) (wo : Nat → Nat) (dg : Nat → Nat) (qc : Nat → Nat) (cn : Nat) (sd : Nat → Nat) (bt : Nat → Nat) (fi : Nat → Option Nat) (se : Nat → Option Nat) (tl : Nat → Nat) (ax : Nat → Nat) (cf : Nat → Bool) (ow : Nat → Nat) (ho : Nat) (ov : Nat) (cs : Nat) (q : Nat → Nat) (cc : Nat) (ac : Nat → Nat) (co : Nat → Nat) (ad : Nat) (rc : Nat) (nm : Nat → Nat) (st : Nat → Nat) (an : Nat → Nat) (x : Nat) (sz : Nat) (hcc : cc ≤ 5) (hac : ∀ k, k < cc → 2 ≤ ac k ∧ ac k ≤ 4) (hx : x < 3125) : Met lQ yX2_readDigits wsX2_readDigits (rmN 0 0) (wr_Pc D vwCl [.ref (qp 0), .int (nI x)] ((wP kA qp q qc cm wo dg) ++ ((wC kA qc q cn sd bt fi se tl ax cf ow ho ov cs) ++ (wT kA q cc ac co ad rc nm st an))) (tyK kA) sz) (va_Qi (S := (Nat → Nat)) (fun (r : Int32) (u : (Nat → Nat)) => r = (bI (valB ac x cc)) ∧ (valB ac x cc = true → ∀ k, k < cc → u k = dg5 x k)) (wr_B D vwCl ((wP kA qp q qc cm wo dg) ++ ((wC kA qc q cn sd bt fi se tl ax cf ow ho ov cs) ++ (wT kA q cc ac co ad rc nm st an))) (tyK kA) sz (fun u => ((wP kA qp q qc cm wo u) ++ ((wC kA qc q cn sd bt fi se tl ax cf ow ho ov cs) ++ (wT kA q cc ac co ad rc nm st an))))) (va_A ((wP kA qp q qc cm wo dg) ++ ((wC kA qc q cn sd bt fi se tl ax cf ow ho ov cs) ++ (wT kA q cc ac co ad rc nm st an))) sz)) 0 0 (va_A ((wP kA qp q qc cm wo dg) ++ ((wC kA qc q cn sd bt fi se tl ax cf ow ho ov cs) ++ (wT kA q cc ac co ad rc nm st an))) sz) := by
  refine Met.ofW (cc := cX2_readDigits) (maxL := 5) (ret := (some .boolean)) (by decide) rfl ?_
  intro pQ eQ s mQ args below meth cQ s₁ B hml hv
  obtain ⟨rfl, hsz, hP, hK, hD0⟩ := hv
  have hx := B.exec
  have hb := B.bytes
  have hr := B.returns
  have hts := atoms_spec (ws := wsX2_readDigits) B.pre
  have hown : s.vm.findClass RX2 = some mQ.cls := findClass_of_methodNamed B.named
  have hlocks : meth.locks = false := B.notSynchronized
  have hS0 : CallFix pQ mQ cQ cX2_readDigits 5 s ([.ref (qp 0), .int (nI x)] : List Value).toArray wsX2_readDigits RX2 := ⟨hx, hb, hml, hown, hts⟩
  subst hsz
  have hD := hD0.self (sz := s.heap.size)
  generalize hAe : va_A ((wP kA qp q qc cm wo dg) ++ ((wC kA qc q cn sd bt fi se tl ax cf ow ho ov cs) ++ (wT kA q cc ac co ad rc nm st an))) s.heap.size = A at hD ⊢
  have hA : ∀ q : Nat, s.heap.size ≤ q → A q := fun q h => by rw [← hAe]; exact Or.inr h
  have hS : va_S A s.heap s.heap [] := va_S.rf
  have f21 : (Cond.fieldLink RX2 21 "AskedRules$Plans" "table" "LAskedRules$Table;").before ([.ref (qp 0), .int (nI x)] : List Value).toArray s = true := hts _ (by decide +kernel)
  have hinX2 : ∀ w ∈ wsX20, w ∈ wsX2_readDigits := by decide +kernel
  have f29 : (Cond.fieldLink RX2 29 "AskedRules$Table" "conditionCount" "I").before ([.ref (qp 0), .int (nI x)] : List Value).toArray s = true := hts _ (by decide +kernel)
  have hinX4 : ∀ w ∈ wsX40, w ∈ wsX2_readDigits := by decide +kernel
  have f35 : (Cond.fieldLink RX2 35 "AskedRules$Table" "answerCount" "[I").before ([.ref (qp 0), .int (nI x)] : List Value).toArray s = true := hts _ (by decide +kernel)
  have f18 : (Cond.fieldLink RX2 18 "AskedRules$Plans" "digit" "[I").before ([.ref (qp 0), .int (nI x)] : List Value).toArray s = true := hts _ (by decide +kernel)
  have hl := lv_entry ([.ref (qp 0), .int (nI x)]) (n := 5) (Nat.le_of_ble_eq_true rfl)
  rw [lg_entry_eq]
  generalize (lg_sl ([.ref (qp 0), .int (nI x)]) ++ List.replicate (5 - (lg_sl ([.ref (qp 0), .int (nI x)])).length) Slot.unset).toArray = ls at hl ⊢
  have hl : lv_has ls 5 [(0, .ref (qp 0)), (1, .int (nI x))] := hl
  have hP : va_P D vwCl ((wP kA qp q qc cm wo dg) ++ ((wC kA qc q cn sd bt fi se tl ax cf ow ho ov cs) ++ (wT kA q cc ac co ad rc nm st an))) s.heap := hP
  have hD : va_D A ((wP kA qp q qc cm wo dg) ++ ((wC kA qc q cn sd bt fi se tl ax cf ow ho ov cs) ++ (wT kA q cc ac co ad rc nm st an))) := hD
  refine lv_iload_n hx hb dX2_readDigits_0 rfl (lv_at hl 1 rfl) ?_
  refine lv_istore_n (lv' := [(2, .int (nI x)), (0, .ref (qp 0)), (1, .int (nI x))]) hx hb dX2_readDigits_1 rfl hl (by decide) rfl (fun ls hl => ?_)
  refine lv_iconst (v := (nI 0)) hx hb dX2_readDigits_2 (by decide) ?_
  refine lv_istore_n (lv' := [(3, .int (nI 0)), (2, .int (nI x)), (0, .ref (qp 0)), (1, .int (nI x))]) hx hb dX2_readDigits_3 rfl hl (by decide) rfl (fun ls hl => ?_)
  have L4 : ∀ (nQ : Nat) (k : Nat) (u : Nat) (dgx : Nat → Nat), cc - k < nQ → (k ≤ cc) → (u = x / 5 ^ k) → (u ≤ 3125) → (∀ j, j < k → decide (dg5 x j ≤ ac j) = true) → (∀ j, j < k → dgx j = dg5 x j) → ∀ (H : Heap) (locs : List Loc), va_P D vwCl ((wP kA qp q qc cm wo dgx) ++ ((wC kA qc q cn sd bt fi se tl ax cf ow ho ov cs) ++ (wT kA q cc ac co ad rc nm st an))) H → va_D A ((wP kA qp q qc cm wo dgx) ++ ((wC kA qc q cn sd bt fi se tl ax cf ow ho ov cs) ++ (wT kA q cc ac co ad rc nm st an))) → va_S A s.heap H locs → ∀ (ls : Array Slot), lv_has ls 5 [(3, .int (nI k)), (2, .int (nI u)), (0, .ref (qp 0)), (1, .int (nI x))] → W pQ lQ eQ (headSpec wsX2_readDigits (rmN 0 0)).room s mQ ([.ref (qp 0), .int (nI x)] : List Value).toArray below meth cQ H locs 0 0 (MQ below (va_Qi (S := (Nat → Nat)) (fun (r : Int32) (u : (Nat → Nat)) => r = (bI (valB ac x cc)) ∧ (valB ac x cc = true → ∀ k, k < cc → u k = dg5 x k)) (wr_B D vwCl ((wP kA qp q qc cm wo dg) ++ ((wC kA qc q cn sd bt fi se tl ax cf ow ho ov cs) ++ (wT kA q cc ac co ad rc nm st an))) (tyK kA) s.heap.size (fun u => ((wP kA qp q qc cm wo u) ++ ((wC kA qc q cn sd bt fi se tl ax cf ow ho ov cs) ++ (wT kA q cc ac co ad rc nm st an))))) A) ([.ref (qp 0), .int (nI x)] : List Value).toArray s 0 0 A) (F0 mQ 4 ls []) := by
    intro nQ
    induction nQ with
    | zero => intro k u dgx hn; exact absurd hn (Nat.not_lt_zero _)
    | succ nQ ih4 =>
      intro k u dgx hm4 hk hu hr9 hn hg H locs hP hD hS ls hl
      refine lv_iload_n hx hb dX2_readDigits_4 rfl (lv_at hl 0 rfl) ?_
      refine lv_aload_n hx hb dX2_readDigits_5 rfl (lv_at hl 2 rfl) ?_
      refine n_get (ci := 2) (v := .ref (q 0)) (C := RX2) (T := TX2) (N := 5) hx hb hts hinX2 hown hK hP 0 rfl rfl 0 rfl ⟨rfl, rfl, rfl⟩ f21 rfl dX2_readDigits_6 ?_
      refine n_get (ci := 4) (v := .int (nI cc)) (C := RX4) (T := TX4) (N := 8) hx hb hts hinX4 hown hK hP 13 rfl rfl 0 rfl ⟨rfl, rfl, rfl⟩ f29 rfl dX2_readDigits_9 ?_
      refine n_icmp_ge (a := k) (b := cc) (tgt := 54) hx hb (by omega) (by omega) dX2_readDigits_12 (by decide) (fun c12 => ?_) (fun c12 => ?_)
      · refine lv_iconst (v := (nI 1)) hx hb dX2_readDigits_54 (by decide) ?_
        have e9 : cc = k := by omega
        have hv9 : valB ac x cc = true := allB_t (fun j hj => hn j (by omega))
        exact n_wretz hx hb hr hlocks (post := fun (r : Int32) (u : (Nat → Nat)) => r = (bI (valB ac x cc)) ∧ (valB ac x cc = true → ∀ k, k < cc → u k = dg5 x k)) (w1 := fun u => ((wP kA qp q qc cm wo u) ++ ((wC kA qc q cn sd bt fi se tl ax cf ow ho ov cs) ++ (wT kA q cc ac co ad rc nm st an)))) rfl dgx ⟨by rw [hv9]; rfl, fun _ j hj => hg j (by omega)⟩ hP hD hK hS hAe dX2_readDigits_55
      · refine lv_iload_n hx hb dX2_readDigits_15 rfl (lv_at hl 1 rfl) ?_
        refine lv_iconst (v := (nI 5)) hx hb dX2_readDigits_16 (by decide) ?_
        refine n_irem (v := (nI (u % 5))) hx hb (nI_ne0 (by omega) (by omega)) (pk_rem (by first | decide | exact Nat.lt_of_le_of_lt hr9 (by decide)) (by first | decide | exact Nat.lt_of_le_of_lt hr9 (by decide)) (by first | decide | exact Nat.lt_of_le_of_lt hr9 (by decide))) dX2_readDigits_17 ?_
        refine lv_istore (lv' := [(4, .int (nI (u % 5))), (3, .int (nI k)), (2, .int (nI u)), (0, .ref (qp 0)), (1, .int (nI x))]) hx hb dX2_readDigits_18 hl (by decide) rfl (fun ls hl => ?_)
        refine lv_iload hx hb dX2_readDigits_20 (lv_at hl 0 rfl) ?_
        refine lv_aload_n hx hb dX2_readDigits_22 rfl (lv_at hl 3 rfl) ?_
        refine n_get (ci := 2) (v := .ref (q 0)) (C := RX2) (T := TX2) (N := 5) hx hb hts hinX2 hown hK hP 0 rfl rfl 0 rfl ⟨rfl, rfl, rfl⟩ f21 rfl dX2_readDigits_23 ?_
        refine n_get (ci := 4) (v := .ref (q 1)) (C := RX4) (T := TX4) (N := 8) hx hb hts hinX4 hown hK hP 13 rfl rfl 1 rfl ⟨rfl, rfl, rfl⟩ f35 rfl dX2_readDigits_26 ?_
        refine lv_iload_n hx hb dX2_readDigits_29 rfl (lv_at hl 1 rfl) ?_
        refine n_iald (i := k) (v := (nI (ac k))) hx hb hK hP 14 0 rfl rfl (by omega) (Nat.le_of_ble_eq_true rfl) rfl dX2_readDigits_30 ?_
        refine n_icmp_le (a := u % 5) (b := ac k) (tgt := 36) hx hb (Nat.lt_trans (Nat.mod_lt _ (by decide)) (by decide)) (by have := (hac k (by omega)).2; omega) dX2_readDigits_31 (by decide) (fun c31 => ?_) (fun c31 => ?_)
        · refine lv_aload_n hx hb dX2_readDigits_36 rfl (lv_at hl 3 rfl) ?_
          refine n_get (ci := 2) (v := .ref (qp 3)) (C := RX2) (T := TX2) (N := 5) hx hb hts hinX2 hown hK hP 0 rfl rfl 4 rfl ⟨rfl, rfl, rfl⟩ f18 rfl dX2_readDigits_37 ?_
          refine lv_iload_n hx hb dX2_readDigits_40 rfl (lv_at hl 1 rfl) ?_
          refine lv_iload hx hb dX2_readDigits_41 (lv_at hl 0 rfl) ?_
          refine n_iast (i := k) (x := (nI (u % 5))) (g := aN (va_up dgx k (u % 5))) (ws' := ((wP kA qp q qc cm wo (va_up dgx k (u % 5))) ++ ((wC kA qc q cn sd bt fi se tl ax cf ow ho ov cs) ++ (wT kA q cc ac co ad rc nm st an)))) hx hb hK hP hD hS 3 0 rfl rfl (by omega) (Nat.le_of_ble_eq_true rfl) (aN_up _ _ _) rfl dX2_readDigits_43 (fun H locs hP hD hS => ?_)
          refine lv_iload_n hx hb dX2_readDigits_44 rfl (lv_at hl 2 rfl) ?_
          refine lv_iconst (v := (nI 5)) hx hb dX2_readDigits_45 (by decide) ?_
          refine n_idiv (v := (nI (u / 5))) hx hb (nI_ne0 (by omega) (by omega)) (pk_div (by first | decide | exact Nat.lt_of_le_of_lt hr9 (by decide)) (by first | decide | exact Nat.lt_of_le_of_lt hr9 (by decide)) (by first | decide | exact Nat.lt_of_le_of_lt hr9 (by decide))) dX2_readDigits_46 ?_
          refine lv_istore_n (lv' := [(2, .int (nI (u / 5))), (4, .int (nI (u % 5))), (3, .int (nI k)), (0, .ref (qp 0)), (1, .int (nI x))]) hx hb dX2_readDigits_47 rfl hl (by decide) rfl (fun ls hl => ?_)
          refine lv_iinc (v := (nI (k + 1))) (lv' := [(3, .int (nI (k + 1))), (2, .int (nI (u / 5))), (4, .int (nI (u % 5))), (0, .ref (qp 0)), (1, .int (nI x))]) hx hb dX2_readDigits_48 hl (k := 2) rfl (nI_inc _) (by decide) rfl (fun ls hl => ?_)
          refine lv_goto (tgt := 4) hx hb dX2_readDigits_51 (by decide) ?_
          exact ih4 (k + 1) (u / 5) (va_up dgx k (u % 5)) (by omega) (by first | assumption | omega) (by rw [hu, div5]) (Nat.le_trans (Nat.div_le_self _ _) hr9) (fun j hj => by by_cases e : j = k; (subst e; refine decide_eq_true ?_; show x / 5 ^ j % 5 ≤ ac j; rw [← hu]; exact c31); exact hn j (by omega)) (fun j hj => by by_cases e : j = k; (subst e; rw [up_s, hu]; rfl); rw [up_n _ _ e]; exact hg j (by omega)) _ _ hP hD hS _ (lv_sub hl [0, 1, 3, 4] rfl)
        · refine lv_iconst (v := (nI 0)) hx hb dX2_readDigits_34 (by decide) ?_
          have hv9 : valB ac x cc = false := allB_f (p := k) (by refine decide_eq_false ?_; show ¬ x / 5 ^ k % 5 ≤ ac k; rw [← hu]; omega) (by omega)
          exact n_wretz hx hb hr hlocks (post := fun (r : Int32) (u : (Nat → Nat)) => r = (bI (valB ac x cc)) ∧ (valB ac x cc = true → ∀ k, k < cc → u k = dg5 x k)) (w1 := fun u => ((wP kA qp q qc cm wo u) ++ ((wC kA qc q cn sd bt fi se tl ax cf ow ho ov cs) ++ (wT kA q cc ac co ad rc nm st an)))) rfl dgx ⟨by rw [hv9]; rfl, fun h => by rw [hv9] at h; cases h⟩ hP hD hK hS hAe dX2_readDigits_35
  exact L4 ((cc - 0) + 1) 0 x dg (Nat.lt_succ_self _) (by first | assumption | omega) (by rw [Nat.pow_zero, Nat.div_one]) (by first | assumption | omega) (fun j hj => absurd hj (Nat.not_lt_zero _)) (fun j hj => absurd hj (Nat.not_lt_zero _)) _ _ hP hD hS _ (lv_sub hl [0, 1, 2, 3] rfl)

set_option maxHeartbeats 4000000 in
set_option maxRecDepth 100000 in
theorem c_X2_firstOpen (lQ : Launch) (D : va_G) (kA : Nat → ClassId) (qp : Nat → Nat) (cm : Nat → Nat) (wo : Nat → Nat) (dg : Nat → Nat) (qc : Nat → Nat) (cn : Nat) (sd : Nat → Nat) (bt : Nat → Nat) (fi : Nat → Option Nat) (se : Nat → Option Nat) (tl : Nat → Nat) (ax : Nat → Nat) (cf : Nat → Bool) (ow : Nat → Nat) (ho : Nat) (ov : Nat) (cs : Nat) (q : Nat → Nat) (cc : Nat) (ac : Nat → Nat) (co : Nat → Nat) (ad : Nat) (rc : Nat) (nm : Nat → Nat) (st : Nat → Nat) (an : Nat → Nat) (hcc : cc ≤ 5) (hdg : ∀ k, k < cc → dg k < 5) : Met lQ yX2_firstOpen wsX2_firstOpen (rmN 0 0) (rd_Pc D vwCl [.ref (qp 0)] ((wP kA qp q qc cm wo dg) ++ ((wC kA qc q cn sd bt fi se tl ax cf ow ho ov cs) ++ (wT kA q cc ac co ad rc nm st an))) (tyK kA)) (vp_Si (fun r : Int32 => r = (oI (firstF (fun k => decide (dg k = 0)) cc)))) 0 0 (fun _ => False) := by
  refine Met.ofW (cc := cX2_firstOpen) (maxL := 2) (ret := (some .int)) (by decide) rfl ?_
  intro pQ eQ s mQ args below meth cQ s₁ B hml hv
  obtain ⟨rfl, hP, hK⟩ := hv
  have hx := B.exec
  have hb := B.bytes
  have hr := B.returns
  have hts := atoms_spec (ws := wsX2_firstOpen) B.pre
  have hown : s.vm.findClass RX2 = some mQ.cls := findClass_of_methodNamed B.named
  have hlocks : meth.locks = false := B.notSynchronized
  have hS0 : CallFix pQ mQ cQ cX2_firstOpen 2 s ([.ref (qp 0)] : List Value).toArray wsX2_firstOpen RX2 := ⟨hx, hb, hml, hown, hts⟩
  have f21 : (Cond.fieldLink RX2 21 "AskedRules$Plans" "table" "LAskedRules$Table;").before ([.ref (qp 0)] : List Value).toArray s = true := hts _ (by decide +kernel)
  have hinX2 : ∀ w ∈ wsX20, w ∈ wsX2_firstOpen := by decide +kernel
  have f29 : (Cond.fieldLink RX2 29 "AskedRules$Table" "conditionCount" "I").before ([.ref (qp 0)] : List Value).toArray s = true := hts _ (by decide +kernel)
  have hinX4 : ∀ w ∈ wsX40, w ∈ wsX2_firstOpen := by decide +kernel
  have f18 : (Cond.fieldLink RX2 18 "AskedRules$Plans" "digit" "[I").before ([.ref (qp 0)] : List Value).toArray s = true := hts _ (by decide +kernel)
  have hl := lv_entry ([.ref (qp 0)]) (n := 2) (Nat.le_of_ble_eq_true rfl)
  rw [lg_entry_eq]
  generalize (lg_sl ([.ref (qp 0)]) ++ List.replicate (2 - (lg_sl ([.ref (qp 0)])).length) Slot.unset).toArray = ls at hl ⊢
  have hl : lv_has ls 2 [(0, .ref (qp 0))] := hl
  have hP : va_P D vwCl ((wP kA qp q qc cm wo dg) ++ ((wC kA qc q cn sd bt fi se tl ax cf ow ho ov cs) ++ (wT kA q cc ac co ad rc nm st an))) s.heap := hP
  refine lv_iconst (v := (nI 0)) hx hb dX2_firstOpen_0 (by decide) ?_
  refine lv_istore_n (lv' := [(1, .int (nI 0)), (0, .ref (qp 0))]) hx hb dX2_firstOpen_1 rfl hl (by decide) rfl (fun ls hl => ?_)
  have L2 : ∀ (nQ : Nat) (k : Nat), cc - k < nQ → (k ≤ cc) → (∀ j, j < k → decide (dg j = 0) = false) → ∀ (ls : Array Slot), lv_has ls 2 [(1, .int (nI k)), (0, .ref (qp 0))] → W pQ lQ eQ (headSpec wsX2_firstOpen (rmN 0 0)).room s mQ ([.ref (qp 0)] : List Value).toArray below meth cQ s.heap [] 0 0 (MQ below (vp_Si (fun r : Int32 => r = (oI (firstF (fun k => decide (dg k = 0)) cc)))) ([.ref (qp 0)] : List Value).toArray s 0 0 (fun _ => False)) (F0 mQ 2 ls []) := by
    intro nQ
    induction nQ with
    | zero => intro k hn; exact absurd hn (Nat.not_lt_zero _)
    | succ nQ ih2 =>
      intro k hm2 hk hn ls hl
      refine lv_iload_n hx hb dX2_firstOpen_2 rfl (lv_at hl 0 rfl) ?_
      refine lv_aload_n hx hb dX2_firstOpen_3 rfl (lv_at hl 1 rfl) ?_
      refine n_get (ci := 2) (v := .ref (q 0)) (C := RX2) (T := TX2) (N := 5) hx hb hts hinX2 hown hK hP 0 rfl rfl 0 rfl ⟨rfl, rfl, rfl⟩ f21 rfl dX2_firstOpen_4 ?_
      refine n_get (ci := 4) (v := .int (nI cc)) (C := RX4) (T := TX4) (N := 8) hx hb hts hinX4 hown hK hP 13 rfl rfl 0 rfl ⟨rfl, rfl, rfl⟩ f29 rfl dX2_firstOpen_7 ?_
      refine n_icmp_ge (a := k) (b := cc) (tgt := 30) hx hb (by omega) (by omega) dX2_firstOpen_10 (by decide) (fun c10 => ?_) (fun c10 => ?_)
      · refine lv_iconst (v := (oI none)) hx hb dX2_firstOpen_30 (by decide) ?_
        exact n_reti hx hb hr hlocks (post := fun r : Int32 => r = (oI (firstF (fun k => decide (dg k = 0)) cc))) (by rw [firstF_none (fun j hj => hn j (by omega))]) rfl dX2_firstOpen_31
      · refine lv_aload_n hx hb dX2_firstOpen_13 rfl (lv_at hl 1 rfl) ?_
        refine n_get (ci := 2) (v := .ref (qp 3)) (C := RX2) (T := TX2) (N := 5) hx hb hts hinX2 hown hK hP 0 rfl rfl 4 rfl ⟨rfl, rfl, rfl⟩ f18 rfl dX2_firstOpen_14 ?_
        refine lv_iload_n hx hb dX2_firstOpen_17 rfl (lv_at hl 0 rfl) ?_
        refine n_iald (i := k) (v := (nI (dg k))) hx hb hK hP 3 0 rfl rfl (by omega) (Nat.le_of_ble_eq_true rfl) rfl dX2_firstOpen_18 ?_
        refine n_if_ne (a := dg k) (tgt := 24) hx hb (Nat.lt_trans (hdg _ (by omega)) (by decide)) dX2_firstOpen_19 (by decide) (fun c19 => ?_) (fun c19 => ?_)
        · refine lv_iinc (v := (nI (k + 1))) (lv' := [(1, .int (nI (k + 1))), (0, .ref (qp 0))]) hx hb dX2_firstOpen_24 hl (k := 0) rfl (nI_inc _) (by decide) rfl (fun ls hl => ?_)
          refine lv_goto (tgt := 2) hx hb dX2_firstOpen_27 (by decide) ?_
          exact ih2 (k + 1) (by omega) (by first | assumption | omega) (fun j hj => by by_cases e : j = k; (subst e; exact decide_eq_false (by omega)); exact hn j (by omega)) _ (lv_sub hl [0, 1] rfl)
        · refine lv_iload_n hx hb dX2_firstOpen_22 rfl (lv_at hl 0 rfl) ?_
          exact n_reti hx hb hr hlocks (post := fun r : Int32 => r = (oI (firstF (fun k => decide (dg k = 0)) cc))) (by rw [firstF_some hn (decide_eq_true c19) (by omega)]; rfl) rfl dX2_firstOpen_23
  exact L2 ((cc - 0) + 1) 0 (Nat.lt_succ_self _) (by first | assumption | omega) (fun j hj => absurd hj (Nat.not_lt_zero _)) _ (lv_sub hl [0, 1] rfl)

set_option maxHeartbeats 4000000 in
set_option maxRecDepth 100000 in
theorem c_X2_caseOfDigits (lQ : Launch) (D : va_G) (kA : Nat → ClassId) (qp : Nat → Nat) (cm : Nat → Nat) (wo : Nat → Nat) (dg : Nat → Nat) (qc : Nat → Nat) (cn : Nat) (sd : Nat → Nat) (bt : Nat → Nat) (fi : Nat → Option Nat) (se : Nat → Option Nat) (tl : Nat → Nat) (ax : Nat → Nat) (cf : Nat → Bool) (ow : Nat → Nat) (ho : Nat) (ov : Nat) (cs : Nat) (q : Nat → Nat) (cc : Nat) (ac : Nat → Nat) (co : Nat → Nat) (ad : Nat) (rc : Nat) (nm : Nat → Nat) (st : Nat → Nat) (an : Nat → Nat) (hcc : cc ≤ 5) (hdg : ∀ k, k < cc → 1 ≤ dg k) : Met lQ yX2_caseOfDigits wsX2_caseOfDigits (rmN 0 0) (rd_Pc D vwCl [.ref (qp 0)] ((wP kA qp q qc cm wo dg) ++ ((wC kA qc q cn sd bt fi se tl ax cf ow ho ov cs) ++ (wT kA q cc ac co ad rc nm st an))) (tyK kA)) (vp_Si (fun r : Int32 => r = (nI (sumF (fun k => (dg k - 1) * sd k) cc)))) 0 0 (fun _ => False) := by
  refine Met.ofW (cc := cX2_caseOfDigits) (maxL := 3) (ret := (some .int)) (by decide) rfl ?_
  intro pQ eQ s mQ args below meth cQ s₁ B hml hv
  obtain ⟨rfl, hP, hK⟩ := hv
  have hx := B.exec
  have hb := B.bytes
  have hr := B.returns
  have hts := atoms_spec (ws := wsX2_caseOfDigits) B.pre
  have hown : s.vm.findClass RX2 = some mQ.cls := findClass_of_methodNamed B.named
  have hlocks : meth.locks = false := B.notSynchronized
  have hS0 : CallFix pQ mQ cQ cX2_caseOfDigits 3 s ([.ref (qp 0)] : List Value).toArray wsX2_caseOfDigits RX2 := ⟨hx, hb, hml, hown, hts⟩
  have f21 : (Cond.fieldLink RX2 21 "AskedRules$Plans" "table" "LAskedRules$Table;").before ([.ref (qp 0)] : List Value).toArray s = true := hts _ (by decide +kernel)
  have hinX2 : ∀ w ∈ wsX20, w ∈ wsX2_caseOfDigits := by decide +kernel
  have f29 : (Cond.fieldLink RX2 29 "AskedRules$Table" "conditionCount" "I").before ([.ref (qp 0)] : List Value).toArray s = true := hts _ (by decide +kernel)
  have hinX4 : ∀ w ∈ wsX40, w ∈ wsX2_caseOfDigits := by decide +kernel
  have f18 : (Cond.fieldLink RX2 18 "AskedRules$Plans" "digit" "[I").before ([.ref (qp 0)] : List Value).toArray s = true := hts _ (by decide +kernel)
  have f25 : (Cond.fieldLink RX2 25 "AskedRules$Plans" "cases" "LAskedRules$Cases;").before ([.ref (qp 0)] : List Value).toArray s = true := hts _ (by decide +kernel)
  have f69 : (Cond.fieldLink RX2 69 "AskedRules$Cases" "stride" "[I").before ([.ref (qp 0)] : List Value).toArray s = true := hts _ (by decide +kernel)
  have hinX0 : ∀ w ∈ wsX00, w ∈ wsX2_caseOfDigits := by decide +kernel
  have hl := lv_entry ([.ref (qp 0)]) (n := 3) (Nat.le_of_ble_eq_true rfl)
  rw [lg_entry_eq]
  generalize (lg_sl ([.ref (qp 0)]) ++ List.replicate (3 - (lg_sl ([.ref (qp 0)])).length) Slot.unset).toArray = ls at hl ⊢
  have hl : lv_has ls 3 [(0, .ref (qp 0))] := hl
  have hP : va_P D vwCl ((wP kA qp q qc cm wo dg) ++ ((wC kA qc q cn sd bt fi se tl ax cf ow ho ov cs) ++ (wT kA q cc ac co ad rc nm st an))) s.heap := hP
  refine lv_iconst (v := (nI 0)) hx hb dX2_caseOfDigits_0 (by decide) ?_
  refine lv_istore_n (lv' := [(1, .int (nI 0)), (0, .ref (qp 0))]) hx hb dX2_caseOfDigits_1 rfl hl (by decide) rfl (fun ls hl => ?_)
  refine lv_iconst (v := (nI 0)) hx hb dX2_caseOfDigits_2 (by decide) ?_
  refine lv_istore_n (lv' := [(2, .int (nI 0)), (1, .int (nI 0)), (0, .ref (qp 0))]) hx hb dX2_caseOfDigits_3 rfl hl (by decide) rfl (fun ls hl => ?_)
  have L4 : ∀ (nQ : Nat) (k : Nat) (u : Nat), cc - k < nQ → (k ≤ cc) → (u = sumF (fun k => (dg k - 1) * sd k) k) → ∀ (ls : Array Slot), lv_has ls 3 [(2, .int (nI k)), (1, .int (nI u)), (0, .ref (qp 0))] → W pQ lQ eQ (headSpec wsX2_caseOfDigits (rmN 0 0)).room s mQ ([.ref (qp 0)] : List Value).toArray below meth cQ s.heap [] 0 0 (MQ below (vp_Si (fun r : Int32 => r = (nI (sumF (fun k => (dg k - 1) * sd k) cc)))) ([.ref (qp 0)] : List Value).toArray s 0 0 (fun _ => False)) (F0 mQ 4 ls []) := by
    intro nQ
    induction nQ with
    | zero => intro k u hn; exact absurd hn (Nat.not_lt_zero _)
    | succ nQ ih4 =>
      intro k u hm4 hk hu ls hl
      refine lv_iload_n hx hb dX2_caseOfDigits_4 rfl (lv_at hl 0 rfl) ?_
      refine lv_aload_n hx hb dX2_caseOfDigits_5 rfl (lv_at hl 2 rfl) ?_
      refine n_get (ci := 2) (v := .ref (q 0)) (C := RX2) (T := TX2) (N := 5) hx hb hts hinX2 hown hK hP 0 rfl rfl 0 rfl ⟨rfl, rfl, rfl⟩ f21 rfl dX2_caseOfDigits_6 ?_
      refine n_get (ci := 4) (v := .int (nI cc)) (C := RX4) (T := TX4) (N := 8) hx hb hts hinX4 hown hK hP 13 rfl rfl 0 rfl ⟨rfl, rfl, rfl⟩ f29 rfl dX2_caseOfDigits_9 ?_
      refine n_icmp_ge (a := k) (b := cc) (tgt := 42) hx hb (by omega) (by omega) dX2_caseOfDigits_12 (by decide) (fun c12 => ?_) (fun c12 => ?_)
      · refine lv_iload_n hx hb dX2_caseOfDigits_42 rfl (lv_at hl 1 rfl) ?_
        have e9 : cc = k := by omega
        exact n_reti hx hb hr hlocks (post := fun r : Int32 => r = (nI (sumF (fun k => (dg k - 1) * sd k) cc))) (by rw [hu, e9]) rfl dX2_caseOfDigits_43
      · refine lv_iload_n hx hb dX2_caseOfDigits_15 rfl (lv_at hl 1 rfl) ?_
        refine lv_aload_n hx hb dX2_caseOfDigits_16 rfl (lv_at hl 2 rfl) ?_
        refine n_get (ci := 2) (v := .ref (qp 3)) (C := RX2) (T := TX2) (N := 5) hx hb hts hinX2 hown hK hP 0 rfl rfl 4 rfl ⟨rfl, rfl, rfl⟩ f18 rfl dX2_caseOfDigits_17 ?_
        refine lv_iload_n hx hb dX2_caseOfDigits_20 rfl (lv_at hl 0 rfl) ?_
        refine n_iald (i := k) (v := (nI (dg k))) hx hb hK hP 3 0 rfl rfl (by omega) (Nat.le_of_ble_eq_true rfl) rfl dX2_caseOfDigits_21 ?_
        refine lv_iconst (v := (nI 1)) hx hb dX2_caseOfDigits_22 (by decide) ?_
        refine n_isub (v := (nI ((dg k) - 1))) hx hb (pk_sub (hdg _ (by omega))) dX2_caseOfDigits_23 ?_
        refine lv_aload_n hx hb dX2_caseOfDigits_24 rfl (lv_at hl 2 rfl) ?_
        refine n_get (ci := 2) (v := .ref (qc 0)) (C := RX2) (T := TX2) (N := 5) hx hb hts hinX2 hown hK hP 0 rfl rfl 1 rfl ⟨rfl, rfl, rfl⟩ f25 rfl dX2_caseOfDigits_25 ?_
        refine n_get (ci := 0) (v := .ref (qc 1)) (C := RX0) (T := TX0) (N := 13) hx hb hts hinX0 hown hK hP 4 rfl rfl 2 rfl ⟨rfl, rfl, rfl⟩ f69 rfl dX2_caseOfDigits_28 ?_
        refine lv_iload_n hx hb dX2_caseOfDigits_31 rfl (lv_at hl 0 rfl) ?_
        refine n_iald (i := k) (v := (nI (sd k))) hx hb hK hP 5 0 rfl rfl (by omega) (Nat.le_of_ble_eq_true rfl) rfl dX2_caseOfDigits_32 ?_
        refine n_imul (v := (nI (((dg k) - 1) * (sd k)))) hx hb (pk_mul _ _) dX2_caseOfDigits_33 ?_
        refine n_iadd (v := (nI (u + (((dg k) - 1) * (sd k))))) hx hb (nI_add _ _) dX2_caseOfDigits_34 ?_
        refine lv_istore_n (lv' := [(1, .int (nI (u + (((dg k) - 1) * (sd k))))), (2, .int (nI k)), (0, .ref (qp 0))]) hx hb dX2_caseOfDigits_35 rfl hl (by decide) rfl (fun ls hl => ?_)
        refine lv_iinc (v := (nI (k + 1))) (lv' := [(2, .int (nI (k + 1))), (1, .int (nI (u + (((dg k) - 1) * (sd k))))), (0, .ref (qp 0))]) hx hb dX2_caseOfDigits_36 hl (k := 1) rfl (nI_inc _) (by decide) rfl (fun ls hl => ?_)
        refine lv_goto (tgt := 4) hx hb dX2_caseOfDigits_39 (by decide) ?_
        exact ih4 (k + 1) (u + (((dg k) - 1) * (sd k))) (by omega) (by first | assumption | omega) (by rw [hu]; rfl) _ (lv_sub hl [0, 1, 2] rfl)
  exact L4 ((cc - 0) + 1) 0 0 (Nat.lt_succ_self _) (by first | assumption | omega) rfl _ (lv_sub hl [0, 1, 2] rfl)

set_option maxHeartbeats 4000000 in
set_option maxRecDepth 100000 in
theorem c_X2_commonAfter (lQ : Launch) (D : va_G) (kA : Nat → ClassId) (adK adV : Nat → Nat) (qp : Nat → Nat) (cm : Nat → Nat) (wo : Nat → Nat) (dg : Nat → Nat) (qc : Nat → Nat) (cn : Nat) (sd : Nat → Nat) (bt : Nat → Nat) (fi : Nat → Option Nat) (se : Nat → Option Nat) (tl : Nat → Nat) (ax : Nat → Nat) (cf : Nat → Bool) (ow : Nat → Nat) (ho : Nat) (ov : Nat) (cs : Nat) (q : Nat → Nat) (cc : Nat) (ac : Nat → Nat) (co : Nat → Nat) (ad : Nat) (rc : Nat) (nm : Nat → Nat) (st : Nat → Nat) (an : Nat → Nat) (x : Nat) (k : Nat) (hk : k < 5) (hx4 : x + 4 * 5 ^ k < 3125) (hak : 2 ≤ ac k ∧ ac k ≤ 4) (hcm : ∀ y, y < 3125 → cm y < 12) : Met lQ yX2_commonAfter wsX2_commonAfter (rmN 0 0) (rdE_Pc D vwCl adK adV [.ref (qp 0), .int (nI x), .int (nI k)] ((wP kA qp q qc cm wo dg) ++ ((wC kA qc q cn sd bt fi se tl ax cf ow ho ov cs) ++ (wT kA q cc ac co ad rc nm st an))) (tyK kA)) (vp_Si (fun r : Int32 => r = (nI (comA cm x (5 ^ k) (ac k))))) 0 0 (fun _ => False) := by
  refine Met.ofW (cc := cX2_commonAfter) (maxL := 5) (ret := (some .int)) (by decide) rfl ?_
  intro pQ eQ s mQ args below meth cQ s₁ B hml hv
  obtain ⟨rfl, hP, hK, hE⟩ := hv
  have hx := B.exec
  have hb := B.bytes
  have hr := B.returns
  have hts := atoms_spec (ws := wsX2_commonAfter) B.pre
  have hown : s.vm.findClass RX2 = some mQ.cls := findClass_of_methodNamed B.named
  have hlocks : meth.locks = false := B.notSynchronized
  have hS0 : CallFix pQ mQ cQ cX2_commonAfter 5 s ([.ref (qp 0), .int (nI x), .int (nI k)] : List Value).toArray wsX2_commonAfter RX2 := ⟨hx, hb, hml, hown, hts⟩
  have f11 : (Cond.fieldLink RX2 11 "AskedRules$Plans" "common" "[I").before ([.ref (qp 0), .int (nI x), .int (nI k)] : List Value).toArray s = true := hts _ (by decide +kernel)
  have hinX2 : ∀ w ∈ wsX20, w ∈ wsX2_commonAfter := by decide +kernel
  have f38 : (Cond.fieldLink RX2 38 "AskedRules$Plans" "POWER" "[I").before ([.ref (qp 0), .int (nI x), .int (nI k)] : List Value).toArray s = true := hts _ (by decide +kernel)
  have f21 : (Cond.fieldLink RX2 21 "AskedRules$Plans" "table" "LAskedRules$Table;").before ([.ref (qp 0), .int (nI x), .int (nI k)] : List Value).toArray s = true := hts _ (by decide +kernel)
  have f35 : (Cond.fieldLink RX2 35 "AskedRules$Table" "answerCount" "[I").before ([.ref (qp 0), .int (nI x), .int (nI k)] : List Value).toArray s = true := hts _ (by decide +kernel)
  have hinX4 : ∀ w ∈ wsX40, w ∈ wsX2_commonAfter := by decide +kernel
  have hl := lv_entry ([.ref (qp 0), .int (nI x), .int (nI k)]) (n := 5) (Nat.le_of_ble_eq_true rfl)
  rw [lg_entry_eq]
  generalize (lg_sl ([.ref (qp 0), .int (nI x), .int (nI k)]) ++ List.replicate (5 - (lg_sl ([.ref (qp 0), .int (nI x), .int (nI k)])).length) Slot.unset).toArray = ls at hl ⊢
  have hl : lv_has ls 5 [(0, .ref (qp 0)), (1, .int (nI x)), (2, .int (nI k))] := hl
  have hP : va_P D vwCl ((wP kA qp q qc cm wo dg) ++ ((wC kA qc q cn sd bt fi se tl ax cf ow ho ov cs) ++ (wT kA q cc ac co ad rc nm st an))) s.heap := hP
  obtain ⟨tP, hZP, hTP⟩ := hE.1
  refine lv_aload_n hx hb dX2_commonAfter_0 rfl (lv_at hl 0 rfl) ?_
  refine n_get (ci := 2) (v := .ref (qp 1)) (C := RX2) (T := TX2) (N := 5) hx hb hts hinX2 hown hK hP 0 rfl rfl 2 rfl ⟨rfl, rfl, rfl⟩ f11 rfl dX2_commonAfter_1 ?_
  refine lv_iload_n hx hb dX2_commonAfter_4 rfl (lv_at hl 1 rfl) ?_
  refine va_gets (C := "AskedRules$Plans") hx hb hZP va_S.rf hown f38 (fun _ h9 => h9) dX2_commonAfter_5 ?_
  refine lv_iload_n hx hb dX2_commonAfter_8 rfl (lv_at hl 2 rfl) ?_
  refine n_tald (i := k) hx hb hTP va_S.rf (by omega) dX2_commonAfter_9 ?_
  refine n_iadd (v := (nI (x + (5 ^ k)))) hx hb (nI_add _ _) dX2_commonAfter_10 ?_
  refine n_iald (i := x + (5 ^ k)) (v := (nI (cm (x + (5 ^ k))))) hx hb hK hP 1 0 rfl rfl (by have := ix_le hx4 (a := 1) (by decide); omega) (Nat.le_of_ble_eq_true rfl) rfl dX2_commonAfter_11 ?_
  refine lv_istore_n (lv' := [(3, .int (nI (cm (x + (5 ^ k))))), (0, .ref (qp 0)), (1, .int (nI x)), (2, .int (nI k))]) hx hb dX2_commonAfter_12 rfl hl (by decide) rfl (fun ls hl => ?_)
  refine lv_iconst (v := (nI 2)) hx hb dX2_commonAfter_13 (by decide) ?_
  refine lv_istore (lv' := [(4, .int (nI 2)), (3, .int (nI (cm (x + (5 ^ k))))), (0, .ref (qp 0)), (1, .int (nI x)), (2, .int (nI k))]) hx hb dX2_commonAfter_14 hl (by decide) rfl (fun ls hl => ?_)
  have L16 : ∀ (nQ : Nat) (i : Nat), ac k + 1 - i < nQ → (2 ≤ i) → (i ≤ ac k + 1) → (∀ j, j + 1 < i → decide (cm (x + (j + 1) * 5 ^ k) = cm (x + 5 ^ k)) = true) → ∀ (ls : Array Slot), lv_has ls 5 [(4, .int (nI i)), (3, .int (nI (cm (x + (5 ^ k))))), (0, .ref (qp 0)), (1, .int (nI x)), (2, .int (nI k))] → W pQ lQ eQ (headSpec wsX2_commonAfter (rmN 0 0)).room s mQ ([.ref (qp 0), .int (nI x), .int (nI k)] : List Value).toArray below meth cQ s.heap [] 0 0 (MQ below (vp_Si (fun r : Int32 => r = (nI (comA cm x (5 ^ k) (ac k))))) ([.ref (qp 0), .int (nI x), .int (nI k)] : List Value).toArray s 0 0 (fun _ => False)) (F0 mQ 16 ls []) := by
    intro nQ
    induction nQ with
    | zero => intro i hn; exact absurd hn (Nat.not_lt_zero _)
    | succ nQ ih16 =>
      intro i hm16 hi hi2 hn ls hl
      refine lv_iload hx hb dX2_commonAfter_16 (lv_at hl 0 rfl) ?_
      refine lv_aload_n hx hb dX2_commonAfter_18 rfl (lv_at hl 2 rfl) ?_
      refine n_get (ci := 2) (v := .ref (q 0)) (C := RX2) (T := TX2) (N := 5) hx hb hts hinX2 hown hK hP 0 rfl rfl 0 rfl ⟨rfl, rfl, rfl⟩ f21 rfl dX2_commonAfter_19 ?_
      refine n_get (ci := 4) (v := .ref (q 1)) (C := RX4) (T := TX4) (N := 8) hx hb hts hinX4 hown hK hP 13 rfl rfl 1 rfl ⟨rfl, rfl, rfl⟩ f35 rfl dX2_commonAfter_22 ?_
      refine lv_iload_n hx hb dX2_commonAfter_25 rfl (lv_at hl 4 rfl) ?_
      refine n_iald (i := k) (v := (nI (ac k))) hx hb hK hP 14 0 rfl rfl (by omega) (Nat.le_of_ble_eq_true rfl) rfl dX2_commonAfter_26 ?_
      refine n_icmp_gt (a := i) (b := ac k) (tgt := 58) hx hb (by omega) (by omega) dX2_commonAfter_27 (by decide) (fun c27 => ?_) (fun c27 => ?_)
      · refine lv_iload_n hx hb dX2_commonAfter_58 rfl (lv_at hl 1 rfl) ?_
        exact n_reti hx hb hr hlocks (post := fun r : Int32 => r = (nI (comA cm x (5 ^ k) (ac k)))) (by unfold comA; rw [if_pos (allB_t (fun j hj => hn j (by omega)))]) rfl dX2_commonAfter_59
      · refine lv_aload_n hx hb dX2_commonAfter_30 rfl (lv_at hl 2 rfl) ?_
        refine n_get (ci := 2) (v := .ref (qp 1)) (C := RX2) (T := TX2) (N := 5) hx hb hts hinX2 hown hK hP 0 rfl rfl 2 rfl ⟨rfl, rfl, rfl⟩ f11 rfl dX2_commonAfter_31 ?_
        refine lv_iload_n hx hb dX2_commonAfter_34 rfl (lv_at hl 3 rfl) ?_
        refine lv_iload hx hb dX2_commonAfter_35 (lv_at hl 0 rfl) ?_
        refine va_gets (C := "AskedRules$Plans") hx hb hZP va_S.rf hown f38 (fun _ h9 => h9) dX2_commonAfter_37 ?_
        refine lv_iload_n hx hb dX2_commonAfter_40 rfl (lv_at hl 4 rfl) ?_
        refine n_tald (i := k) hx hb hTP va_S.rf (by omega) dX2_commonAfter_41 ?_
        refine n_imul (v := (nI (i * (5 ^ k)))) hx hb (pk_mul _ _) dX2_commonAfter_42 ?_
        refine n_iadd (v := (nI (x + (i * (5 ^ k))))) hx hb (nI_add _ _) dX2_commonAfter_43 ?_
        refine n_iald (i := x + (i * (5 ^ k))) (v := (nI (cm (x + (i * (5 ^ k)))))) hx hb hK hP 1 0 rfl rfl (ix_le hx4 (by omega)) (Nat.le_of_ble_eq_true rfl) rfl dX2_commonAfter_44 ?_
        refine lv_iload_n hx hb dX2_commonAfter_45 rfl (lv_at hl 1 rfl) ?_
        refine n_icmp_eq (a := cm (x + (i * (5 ^ k)))) (b := cm (x + (5 ^ k))) (tgt := 52) hx hb (Nat.lt_trans (hcm _ (ix_le hx4 (by omega))) (by decide)) (Nat.lt_trans (hcm _ (by have := ix_le hx4 (a := 1) (by decide); omega)) (by decide)) dX2_commonAfter_46 (by decide) (fun c46 => ?_) (fun c46 => ?_)
        · refine lv_iinc (v := (nI (i + 1))) (lv' := [(4, .int (nI (i + 1))), (3, .int (nI (cm (x + (5 ^ k))))), (0, .ref (qp 0)), (1, .int (nI x)), (2, .int (nI k))]) hx hb dX2_commonAfter_52 hl (k := 0) rfl (nI_inc _) (by decide) rfl (fun ls hl => ?_)
          refine lv_goto (tgt := 16) hx hb dX2_commonAfter_55 (by decide) ?_
          exact ih16 (i + 1) (by omega) (by first | assumption | omega) (by first | assumption | omega) (fun j hj => by by_cases e : j + 1 = i; (subst e; exact decide_eq_true c46); exact hn j (by omega)) _ (lv_sub hl [0, 1, 2, 3, 4] rfl)
        · refine lv_bipush (v := (nI 11)) hx hb dX2_commonAfter_49 (by decide) ?_
          exact n_reti hx hb hr hlocks (post := fun r : Int32 => r = (nI (comA cm x (5 ^ k) (ac k)))) (by unfold comA; rw [if_neg (by rw [allB_f (p := i - 1) (by rw [show i - 1 + 1 = i by omega]; exact decide_eq_false c46) (by omega)]; decide)]) rfl dX2_commonAfter_51
  exact L16 ((ac k + 1 - 2) + 1) 2 (Nat.lt_succ_self _) (by first | assumption | omega) (by first | assumption | omega) (fun j hj => by have e : j = 0 := (by omega); subst e; rw [Nat.zero_add, Nat.one_mul]; exact decide_eq_true rfl) _ (lv_sub hl [0, 1, 2, 3, 4] rfl)

set_option maxHeartbeats 4000000 in
set_option maxRecDepth 100000 in
theorem c_X2_worstAsking (lQ : Launch) (D : va_G) (kA : Nat → ClassId) (adK adV : Nat → Nat) (qp : Nat → Nat) (cm : Nat → Nat) (wo : Nat → Nat) (dg : Nat → Nat) (qc : Nat → Nat) (cn : Nat) (sd : Nat → Nat) (bt : Nat → Nat) (fi : Nat → Option Nat) (se : Nat → Option Nat) (tl : Nat → Nat) (ax : Nat → Nat) (cf : Nat → Bool) (ow : Nat → Nat) (ho : Nat) (ov : Nat) (cs : Nat) (q : Nat → Nat) (cc : Nat) (ac : Nat → Nat) (co : Nat → Nat) (ad : Nat) (rc : Nat) (nm : Nat → Nat) (st : Nat → Nat) (an : Nat → Nat) (x : Nat) (k : Nat) (hk : k < 5) (hx4 : x + 4 * 5 ^ k < 3125) (hak : 2 ≤ ac k ∧ ac k ≤ 4) (hwo : ∀ y, y < 3125 → wo y ≤ 100) : Met lQ yX2_worstAsking wsX2_worstAsking (rmN 0 0) (rdE_Pc D vwCl adK adV [.ref (qp 0), .int (nI x), .int (nI k)] ((wP kA qp q qc cm wo dg) ++ ((wC kA qc q cn sd bt fi se tl ax cf ow ho ov cs) ++ (wT kA q cc ac co ad rc nm st an))) (tyK kA)) (vp_Si (fun r : Int32 => r = (nI (askW ac co wo x k)))) 0 0 (fun _ => False) := by
  refine Met.ofW (cc := cX2_worstAsking) (maxL := 6) (ret := (some .int)) (by decide) rfl ?_
  intro pQ eQ s mQ args below meth cQ s₁ B hml hv
  obtain ⟨rfl, hP, hK, hE⟩ := hv
  have hx := B.exec
  have hb := B.bytes
  have hr := B.returns
  have hts := atoms_spec (ws := wsX2_worstAsking) B.pre
  have hown : s.vm.findClass RX2 = some mQ.cls := findClass_of_methodNamed B.named
  have hlocks : meth.locks = false := B.notSynchronized
  have hS0 : CallFix pQ mQ cQ cX2_worstAsking 6 s ([.ref (qp 0), .int (nI x), .int (nI k)] : List Value).toArray wsX2_worstAsking RX2 := ⟨hx, hb, hml, hown, hts⟩
  have f21 : (Cond.fieldLink RX2 21 "AskedRules$Plans" "table" "LAskedRules$Table;").before ([.ref (qp 0), .int (nI x), .int (nI k)] : List Value).toArray s = true := hts _ (by decide +kernel)
  have hinX2 : ∀ w ∈ wsX20, w ∈ wsX2_worstAsking := by decide +kernel
  have f35 : (Cond.fieldLink RX2 35 "AskedRules$Table" "answerCount" "[I").before ([.ref (qp 0), .int (nI x), .int (nI k)] : List Value).toArray s = true := hts _ (by decide +kernel)
  have hinX4 : ∀ w ∈ wsX40, w ∈ wsX2_worstAsking := by decide +kernel
  have f75 : (Cond.fieldLink RX2 75 "AskedRules$Table" "cost" "[I").before ([.ref (qp 0), .int (nI x), .int (nI k)] : List Value).toArray s = true := hts _ (by decide +kernel)
  have f15 : (Cond.fieldLink RX2 15 "AskedRules$Plans" "worst" "[I").before ([.ref (qp 0), .int (nI x), .int (nI k)] : List Value).toArray s = true := hts _ (by decide +kernel)
  have f38 : (Cond.fieldLink RX2 38 "AskedRules$Plans" "POWER" "[I").before ([.ref (qp 0), .int (nI x), .int (nI k)] : List Value).toArray s = true := hts _ (by decide +kernel)
  have hl := lv_entry ([.ref (qp 0), .int (nI x), .int (nI k)]) (n := 6) (Nat.le_of_ble_eq_true rfl)
  rw [lg_entry_eq]
  generalize (lg_sl ([.ref (qp 0), .int (nI x), .int (nI k)]) ++ List.replicate (6 - (lg_sl ([.ref (qp 0), .int (nI x), .int (nI k)])).length) Slot.unset).toArray = ls at hl ⊢
  have hl : lv_has ls 6 [(0, .ref (qp 0)), (1, .int (nI x)), (2, .int (nI k))] := hl
  have hP : va_P D vwCl ((wP kA qp q qc cm wo dg) ++ ((wC kA qc q cn sd bt fi se tl ax cf ow ho ov cs) ++ (wT kA q cc ac co ad rc nm st an))) s.heap := hP
  obtain ⟨tP, hZP, hTP⟩ := hE.1
  refine lv_iconst (v := (nI 0)) hx hb dX2_worstAsking_0 (by decide) ?_
  refine lv_istore_n (lv' := [(3, .int (nI 0)), (0, .ref (qp 0)), (1, .int (nI x)), (2, .int (nI k))]) hx hb dX2_worstAsking_1 rfl hl (by decide) rfl (fun ls hl => ?_)
  refine lv_iconst (v := (nI 1)) hx hb dX2_worstAsking_2 (by decide) ?_
  refine lv_istore (lv' := [(4, .int (nI 1)), (3, .int (nI 0)), (0, .ref (qp 0)), (1, .int (nI x)), (2, .int (nI k))]) hx hb dX2_worstAsking_3 hl (by decide) rfl (fun ls hl => ?_)
  have L5 : ∀ (nQ : Nat) (i : Nat) (u : Nat), ac k + 1 - i < nQ → (1 ≤ i) → (i ≤ ac k + 1) → (u ≤ 100) → (u = maxF (fun j => wo (x + (j + 1) * 5 ^ k)) (i - 1)) → ∀ (ls : Array Slot), lv_has ls 6 [(4, .int (nI i)), (3, .int (nI u)), (0, .ref (qp 0)), (1, .int (nI x)), (2, .int (nI k))] → W pQ lQ eQ (headSpec wsX2_worstAsking (rmN 0 0)).room s mQ ([.ref (qp 0), .int (nI x), .int (nI k)] : List Value).toArray below meth cQ s.heap [] 0 0 (MQ below (vp_Si (fun r : Int32 => r = (nI (askW ac co wo x k)))) ([.ref (qp 0), .int (nI x), .int (nI k)] : List Value).toArray s 0 0 (fun _ => False)) (F0 mQ 5 ls []) := by
    intro nQ
    induction nQ with
    | zero => intro i u hn; exact absurd hn (Nat.not_lt_zero _)
    | succ nQ ih5 =>
      intro i u hm5 hi hi2 hu9 hu ls hl
      refine lv_iload hx hb dX2_worstAsking_5 (lv_at hl 0 rfl) ?_
      refine lv_aload_n hx hb dX2_worstAsking_7 rfl (lv_at hl 2 rfl) ?_
      refine n_get (ci := 2) (v := .ref (q 0)) (C := RX2) (T := TX2) (N := 5) hx hb hts hinX2 hown hK hP 0 rfl rfl 0 rfl ⟨rfl, rfl, rfl⟩ f21 rfl dX2_worstAsking_8 ?_
      refine n_get (ci := 4) (v := .ref (q 1)) (C := RX4) (T := TX4) (N := 8) hx hb hts hinX4 hown hK hP 13 rfl rfl 1 rfl ⟨rfl, rfl, rfl⟩ f35 rfl dX2_worstAsking_11 ?_
      refine lv_iload_n hx hb dX2_worstAsking_14 rfl (lv_at hl 4 rfl) ?_
      refine n_iald (i := k) (v := (nI (ac k))) hx hb hK hP 14 0 rfl rfl (by omega) (Nat.le_of_ble_eq_true rfl) rfl dX2_worstAsking_15 ?_
      refine n_icmp_gt (a := i) (b := ac k) (tgt := 55) hx hb (by omega) (by omega) dX2_worstAsking_16 (by decide) (fun c16 => ?_) (fun c16 => ?_)
      · refine lv_aload_n hx hb dX2_worstAsking_55 rfl (lv_at hl 2 rfl) ?_
        refine n_get (ci := 2) (v := .ref (q 0)) (C := RX2) (T := TX2) (N := 5) hx hb hts hinX2 hown hK hP 0 rfl rfl 0 rfl ⟨rfl, rfl, rfl⟩ f21 rfl dX2_worstAsking_56 ?_
        refine n_get (ci := 4) (v := .ref (q 2)) (C := RX4) (T := TX4) (N := 8) hx hb hts hinX4 hown hK hP 13 rfl rfl 2 rfl ⟨rfl, rfl, rfl⟩ f75 rfl dX2_worstAsking_59 ?_
        refine lv_iload_n hx hb dX2_worstAsking_62 rfl (lv_at hl 4 rfl) ?_
        refine n_iald (i := k) (v := (nI (co k))) hx hb hK hP 15 0 rfl rfl (by omega) (Nat.le_of_ble_eq_true rfl) rfl dX2_worstAsking_63 ?_
        refine lv_iload_n hx hb dX2_worstAsking_64 rfl (lv_at hl 1 rfl) ?_
        refine n_iadd (v := (nI (co k + u))) hx hb (nI_add _ _) dX2_worstAsking_65 ?_
        have e9 : i - 1 = ac k := by omega
        exact n_reti hx hb hr hlocks (post := fun r : Int32 => r = (nI (askW ac co wo x k))) (by rw [hu, e9]; rfl) rfl dX2_worstAsking_66
      · refine lv_aload_n hx hb dX2_worstAsking_19 rfl (lv_at hl 2 rfl) ?_
        refine n_get (ci := 2) (v := .ref (qp 2)) (C := RX2) (T := TX2) (N := 5) hx hb hts hinX2 hown hK hP 0 rfl rfl 3 rfl ⟨rfl, rfl, rfl⟩ f15 rfl dX2_worstAsking_20 ?_
        refine lv_iload_n hx hb dX2_worstAsking_23 rfl (lv_at hl 3 rfl) ?_
        refine lv_iload hx hb dX2_worstAsking_24 (lv_at hl 0 rfl) ?_
        refine va_gets (C := "AskedRules$Plans") hx hb hZP va_S.rf hown f38 (fun _ h9 => h9) dX2_worstAsking_26 ?_
        refine lv_iload_n hx hb dX2_worstAsking_29 rfl (lv_at hl 4 rfl) ?_
        refine n_tald (i := k) hx hb hTP va_S.rf (by omega) dX2_worstAsking_30 ?_
        refine n_imul (v := (nI (i * (5 ^ k)))) hx hb (pk_mul _ _) dX2_worstAsking_31 ?_
        refine n_iadd (v := (nI (x + (i * (5 ^ k))))) hx hb (nI_add _ _) dX2_worstAsking_32 ?_
        refine n_iald (i := x + (i * (5 ^ k))) (v := (nI (wo (x + (i * (5 ^ k)))))) hx hb hK hP 2 0 rfl rfl (ix_le hx4 (by omega)) (Nat.le_of_ble_eq_true rfl) rfl dX2_worstAsking_33 ?_
        refine lv_istore (lv' := [(5, .int (nI (wo (x + (i * (5 ^ k)))))), (4, .int (nI i)), (3, .int (nI u)), (0, .ref (qp 0)), (1, .int (nI x)), (2, .int (nI k))]) hx hb dX2_worstAsking_34 hl (by decide) rfl (fun ls hl => ?_)
        refine lv_iload hx hb dX2_worstAsking_36 (lv_at hl 0 rfl) ?_
        refine lv_iload_n hx hb dX2_worstAsking_38 rfl (lv_at hl 2 rfl) ?_
        refine n_icmp_le (a := wo (x + (i * (5 ^ k)))) (b := u) (tgt := 47) hx hb (Nat.lt_of_le_of_lt (hwo _ (ix_le hx4 (by omega))) (by decide)) (Nat.lt_of_le_of_lt hu9 (by decide)) dX2_worstAsking_39 (by decide) (fun c39 => ?_) (fun c39 => ?_)
        · refine lv_iload_n hx hb dX2_worstAsking_47 rfl (lv_at hl 2 rfl) ?_
          refine lv_istore_n (lv' := [(3, .int (nI u)), (5, .int (nI (wo (x + (i * (5 ^ k)))))), (4, .int (nI i)), (0, .ref (qp 0)), (1, .int (nI x)), (2, .int (nI k))]) hx hb dX2_worstAsking_48 rfl hl (by decide) rfl (fun ls hl => ?_)
          refine lv_iinc (v := (nI (i + 1))) (lv' := [(4, .int (nI (i + 1))), (3, .int (nI u)), (5, .int (nI (wo (x + (i * (5 ^ k)))))), (0, .ref (qp 0)), (1, .int (nI x)), (2, .int (nI k))]) hx hb dX2_worstAsking_49 hl (k := 2) rfl (nI_inc _) (by decide) rfl (fun ls hl => ?_)
          refine lv_goto (tgt := 5) hx hb dX2_worstAsking_52 (by decide) ?_
          exact ih5 (i + 1) u (by omega) (by first | assumption | omega) (by first | assumption | omega) (by first | exact hu9 | exact hwo _ (ix_le hx4 (by omega))) (by rw [show i + 1 - 1 = (i - 1) + 1 by omega, maxF_s, ← hu, show i - 1 + 1 = i by omega]; first | rw [if_pos c39] | rw [if_neg (by omega)]) _ (lv_sub hl [0, 1, 3, 4, 5] rfl)
        · refine lv_iload hx hb dX2_worstAsking_42 (lv_at hl 0 rfl) ?_
          refine lv_goto (tgt := 48) hx hb dX2_worstAsking_44 (by decide) ?_
          refine lv_istore_n (lv' := [(3, .int (nI (wo (x + (i * (5 ^ k)))))), (5, .int (nI (wo (x + (i * (5 ^ k)))))), (4, .int (nI i)), (0, .ref (qp 0)), (1, .int (nI x)), (2, .int (nI k))]) hx hb dX2_worstAsking_48 rfl hl (by decide) rfl (fun ls hl => ?_)
          refine lv_iinc (v := (nI (i + 1))) (lv' := [(4, .int (nI (i + 1))), (3, .int (nI (wo (x + (i * (5 ^ k)))))), (5, .int (nI (wo (x + (i * (5 ^ k)))))), (0, .ref (qp 0)), (1, .int (nI x)), (2, .int (nI k))]) hx hb dX2_worstAsking_49 hl (k := 2) rfl (nI_inc _) (by decide) rfl (fun ls hl => ?_)
          refine lv_goto (tgt := 5) hx hb dX2_worstAsking_52 (by decide) ?_
          exact ih5 (i + 1) (wo (x + (i * (5 ^ k)))) (by omega) (by first | assumption | omega) (by first | assumption | omega) (by first | exact hu9 | exact hwo _ (ix_le hx4 (by omega))) (by rw [show i + 1 - 1 = (i - 1) + 1 by omega, maxF_s, ← hu, show i - 1 + 1 = i by omega]; first | rw [if_pos c39] | rw [if_neg (by omega)]) _ (lv_sub hl [0, 1, 3, 4, 5] rfl)
  exact L5 ((ac k + 1 - 1) + 1) 1 0 (Nat.lt_succ_self _) (by first | assumption | omega) (by first | assumption | omega) (by first | assumption | omega) rfl _ (lv_sub hl [0, 1, 2, 3, 4] rfl)

theorem askW_le {ac co wo : Nat → Nat} {x k : Nat} (h1 : co k < 10) (h2 : ac k ≤ 4) (hwo : ∀ y, y < 3125 → wo y ≤ 100) (hx : x + 4 * 5 ^ k < 3125) : askW ac co wo x k ≤ 110 := by
  unfold askW
  have := maxF_le (f := fun j => wo (x + (j + 1) * 5 ^ k)) (n := ac k) (fun j hj => hwo _ (ix_le hx (show j + 1 ≤ 4 by omega)))
  omega

set_option maxHeartbeats 4000000 in
set_option maxRecDepth 100000 in
theorem c_X2_leastWorst (lQ : Launch) (D : va_G) (kA : Nat → ClassId) (adK adV : Nat → Nat) (qp : Nat → Nat) (cm : Nat → Nat) (wo : Nat → Nat) (dg : Nat → Nat) (qc : Nat → Nat) (cn : Nat) (sd : Nat → Nat) (bt : Nat → Nat) (fi : Nat → Option Nat) (se : Nat → Option Nat) (tl : Nat → Nat) (ax : Nat → Nat) (cf : Nat → Bool) (ow : Nat → Nat) (ho : Nat) (ov : Nat) (cs : Nat) (q : Nat → Nat) (cc : Nat) (ac : Nat → Nat) (co : Nat → Nat) (ad : Nat) (rc : Nat) (nm : Nat → Nat) (st : Nat → Nat) (an : Nat → Nat) (x : Nat) (hcc : cc ≤ 5) (hac : ∀ k, k < cc → 2 ≤ ac k ∧ ac k ≤ 4) (hdg : ∀ k, k < cc → dg k < 5) (hx4 : ∀ k, k < cc → dg k = 0 → x + 4 * 5 ^ k < 3125) (hco : ∀ k, k < cc → co k < 10) (hwo : ∀ y, y < 3125 → wo y ≤ 100) : Met lQ yX2_leastWorst wsX2_leastWorst (rmN 1 25) (rdE_Pc D vwCl adK adV [.ref (qp 0), .int (nI x)] ((wP kA qp q qc cm wo dg) ++ ((wC kA qc q cn sd bt fi se tl ax cf ow ho ov cs) ++ (wT kA q cc ac co ad rc nm st an))) (tyK kA)) (vp_Si (fun r : Int32 => r = (nI (lwF (fun k => askW ac co wo x k) (fun k => decide (dg k = 0)) cc)))) 0 0 (fun _ => False) := by
  refine Met.ofW (cc := cX2_leastWorst) (maxL := 5) (ret := (some .int)) (by decide) rfl ?_
  intro pQ eQ s mQ args below meth cQ s₁ B hml hv
  obtain ⟨rfl, hP, hK, hE⟩ := hv
  have hx := B.exec
  have hb := B.bytes
  have hr := B.returns
  have hts := atoms_spec (ws := wsX2_leastWorst) B.pre
  have hown : s.vm.findClass RX2 = some mQ.cls := findClass_of_methodNamed B.named
  have hlocks : meth.locks = false := B.notSynchronized
  have hS0 : CallFix pQ mQ cQ cX2_leastWorst 5 s ([.ref (qp 0), .int (nI x)] : List Value).toArray wsX2_leastWorst RX2 := ⟨hx, hb, hml, hown, hts⟩
  have f21 : (Cond.fieldLink RX2 21 "AskedRules$Plans" "table" "LAskedRules$Table;").before ([.ref (qp 0), .int (nI x)] : List Value).toArray s = true := hts _ (by decide +kernel)
  have hinX2 : ∀ w ∈ wsX20, w ∈ wsX2_leastWorst := by decide +kernel
  have f29 : (Cond.fieldLink RX2 29 "AskedRules$Table" "conditionCount" "I").before ([.ref (qp 0), .int (nI x)] : List Value).toArray s = true := hts _ (by decide +kernel)
  have hinX4 : ∀ w ∈ wsX40, w ∈ wsX2_leastWorst := by decide +kernel
  have f18 : (Cond.fieldLink RX2 18 "AskedRules$Plans" "digit" "[I").before ([.ref (qp 0), .int (nI x)] : List Value).toArray s = true := hts _ (by decide +kernel)
  have hl := lv_entry ([.ref (qp 0), .int (nI x)]) (n := 5) (Nat.le_of_ble_eq_true rfl)
  rw [lg_entry_eq]
  generalize (lg_sl ([.ref (qp 0), .int (nI x)]) ++ List.replicate (5 - (lg_sl ([.ref (qp 0), .int (nI x)])).length) Slot.unset).toArray = ls at hl ⊢
  have hl : lv_has ls 5 [(0, .ref (qp 0)), (1, .int (nI x))] := hl
  have hP : va_P D vwCl ((wP kA qp q qc cm wo dg) ++ ((wC kA qc q cn sd bt fi se tl ax cf ow ho ov cs) ++ (wT kA q cc ac co ad rc nm st an))) s.heap := hP
  obtain ⟨tP, hZP, hTP⟩ := hE.1
  refine lv_bipush (v := (nI 100)) hx hb dX2_leastWorst_0 (by decide) ?_
  refine lv_istore_n (lv' := [(2, .int (nI 100)), (0, .ref (qp 0)), (1, .int (nI x))]) hx hb dX2_leastWorst_2 rfl hl (by decide) rfl (fun ls hl => ?_)
  refine lv_iconst (v := (nI 0)) hx hb dX2_leastWorst_3 (by decide) ?_
  refine lv_istore_n (lv' := [(3, .int (nI 0)), (2, .int (nI 100)), (0, .ref (qp 0)), (1, .int (nI x))]) hx hb dX2_leastWorst_4 rfl hl (by decide) rfl (fun ls hl => ?_)
  have L5 : ∀ (nQ : Nat) (k : Nat) (u : Nat), cc - k < nQ → (k ≤ cc) → (u ≤ 100) → (u = lwF (fun k => askW ac co wo x k) (fun k => decide (dg k = 0)) k) → ∀ (ls : Array Slot), lv_has ls 5 [(3, .int (nI k)), (2, .int (nI u)), (0, .ref (qp 0)), (1, .int (nI x))] → W pQ lQ eQ (headSpec wsX2_leastWorst (rmN 1 25)).room s mQ ([.ref (qp 0), .int (nI x)] : List Value).toArray below meth cQ s.heap [] 0 0 (MQ below (vp_Si (fun r : Int32 => r = (nI (lwF (fun k => askW ac co wo x k) (fun k => decide (dg k = 0)) cc)))) ([.ref (qp 0), .int (nI x)] : List Value).toArray s 0 0 (fun _ => False)) (F0 mQ 5 ls []) := by
    intro nQ
    induction nQ with
    | zero => intro k u hn; exact absurd hn (Nat.not_lt_zero _)
    | succ nQ ih5 =>
      intro k u hm5 hk hu9 hu ls hl
      refine lv_iload_n hx hb dX2_leastWorst_5 rfl (lv_at hl 0 rfl) ?_
      refine lv_aload_n hx hb dX2_leastWorst_6 rfl (lv_at hl 2 rfl) ?_
      refine n_get (ci := 2) (v := .ref (q 0)) (C := RX2) (T := TX2) (N := 5) hx hb hts hinX2 hown hK hP 0 rfl rfl 0 rfl ⟨rfl, rfl, rfl⟩ f21 rfl dX2_leastWorst_7 ?_
      refine n_get (ci := 4) (v := .int (nI cc)) (C := RX4) (T := TX4) (N := 8) hx hb hts hinX4 hown hK hP 13 rfl rfl 0 rfl ⟨rfl, rfl, rfl⟩ f29 rfl dX2_leastWorst_10 ?_
      refine n_icmp_ge (a := k) (b := cc) (tgt := 52) hx hb (by omega) (by omega) dX2_leastWorst_13 (by decide) (fun c13 => ?_) (fun c13 => ?_)
      · refine lv_iload_n hx hb dX2_leastWorst_52 rfl (lv_at hl 1 rfl) ?_
        have e9 : cc = k := by omega
        exact n_reti hx hb hr hlocks (post := fun r : Int32 => r = (nI (lwF (fun k => askW ac co wo x k) (fun k => decide (dg k = 0)) cc))) (by rw [hu, e9]) rfl dX2_leastWorst_53
      · refine lv_aload_n hx hb dX2_leastWorst_16 rfl (lv_at hl 2 rfl) ?_
        refine n_get (ci := 2) (v := .ref (qp 3)) (C := RX2) (T := TX2) (N := 5) hx hb hts hinX2 hown hK hP 0 rfl rfl 4 rfl ⟨rfl, rfl, rfl⟩ f18 rfl dX2_leastWorst_17 ?_
        refine lv_iload_n hx hb dX2_leastWorst_20 rfl (lv_at hl 0 rfl) ?_
        refine n_iald (i := k) (v := (nI (dg k))) hx hb hK hP 3 0 rfl rfl (by omega) (Nat.le_of_ble_eq_true rfl) rfl dX2_leastWorst_21 ?_
        refine n_if_ne (a := dg k) (tgt := 46) hx hb (Nat.lt_trans (hdg _ (by omega)) (by decide)) dX2_leastWorst_22 (by decide) (fun c22 => ?_) (fun c22 => ?_)
        · refine lv_iinc (v := (nI (k + 1))) (lv' := [(3, .int (nI (k + 1))), (2, .int (nI u)), (0, .ref (qp 0)), (1, .int (nI x))]) hx hb dX2_leastWorst_46 hl (k := 0) rfl (nI_inc _) (by decide) rfl (fun ls hl => ?_)
          refine lv_goto (tgt := 5) hx hb dX2_leastWorst_49 (by decide) ?_
          exact ih5 (k + 1) u (by omega) (by first | assumption | omega) (by first | assumption | omega) (by rw [lwF_s, ← hu]; first | rw [if_pos (decide_eq_true c22), if_pos c36] | rw [if_pos (decide_eq_true c22), if_neg (by omega)] | rw [if_neg (by rw [decide_eq_false (by omega)]; decide)]) _ (lv_sub hl [0, 1, 2, 3] rfl)
        · refine lv_aload_n hx hb dX2_leastWorst_25 rfl (lv_at hl 2 rfl) ?_
          refine lv_iload_n hx hb dX2_leastWorst_26 rfl (lv_at hl 3 rfl) ?_
          refine lv_iload_n hx hb dX2_leastWorst_27 rfl (lv_at hl 0 rfl) ?_
          refine n_cVE (b := qp 0) (As := [.int (nI x), .int (nI k)]) (rest := []) (wc := ((wP kA qp q qc cm wo dg) ++ ((wC kA qc q cn sd bt fi se tl ax cf ow ho ov cs) ++ (wT kA q cc ac co ad rc nm st an)))) hS0 (c_X2_worstAsking lQ D kA adK adV qp cm wo dg qc cn sd bt fi se tl ax cf ow ho ov cs q cc ac co ad rc nm st an x k (by first | assumption | omega) (hx4 _ c13 c22) (hac _ c13) (by first | assumption | omega)) (cwV 2 hts gX2_leastWorst_X2_worstAsking rfl rfl rfl (by decide +kernel) ⟨Nat.le_of_ble_eq_true rfl, Nat.le_of_ble_eq_true rfl⟩) hP hK (q0 := 0) rfl rfl rfl hE va_S.rf rfl rfl hl.1 (Nat.le_of_ble_eq_true rfl) dX2_leastWorst_28 ⟨Nat.le_refl _, Nat.le_refl _⟩ (fun r28 h28 => ?_)
          subst h28
          refine lv_istore (lv' := [(4, .int (nI (askW ac co wo x k))), (3, .int (nI k)), (2, .int (nI u)), (0, .ref (qp 0)), (1, .int (nI x))]) hx hb dX2_leastWorst_31 hl (by decide) rfl (fun ls hl => ?_)
          refine lv_iload hx hb dX2_leastWorst_33 (lv_at hl 0 rfl) ?_
          refine lv_iload_n hx hb dX2_leastWorst_35 rfl (lv_at hl 2 rfl) ?_
          refine n_icmp_ge (a := askW ac co wo x k) (b := u) (tgt := 44) hx hb (Nat.lt_of_le_of_lt (askW_le (hco _ c13) (hac _ c13).2 hwo (hx4 _ c13 c22)) (by decide)) (by omega) dX2_leastWorst_36 (by decide) (fun c36 => ?_) (fun c36 => ?_)
          · refine lv_iload_n hx hb dX2_leastWorst_44 rfl (lv_at hl 2 rfl) ?_
            refine lv_istore_n (lv' := [(2, .int (nI u)), (4, .int (nI (askW ac co wo x k))), (3, .int (nI k)), (0, .ref (qp 0)), (1, .int (nI x))]) hx hb dX2_leastWorst_45 rfl hl (by decide) rfl (fun ls hl => ?_)
            refine lv_iinc (v := (nI (k + 1))) (lv' := [(3, .int (nI (k + 1))), (2, .int (nI u)), (4, .int (nI (askW ac co wo x k))), (0, .ref (qp 0)), (1, .int (nI x))]) hx hb dX2_leastWorst_46 hl (k := 2) rfl (nI_inc _) (by decide) rfl (fun ls hl => ?_)
            refine lv_goto (tgt := 5) hx hb dX2_leastWorst_49 (by decide) ?_
            exact ih5 (k + 1) u (by omega) (by first | assumption | omega) (by first | assumption | omega) (by rw [lwF_s, ← hu]; first | rw [if_pos (decide_eq_true c22), if_pos c36] | rw [if_pos (decide_eq_true c22), if_neg (by omega)] | rw [if_neg (by rw [decide_eq_false (by omega)]; decide)]) _ (lv_sub hl [0, 1, 3, 4] rfl)
          · refine lv_iload hx hb dX2_leastWorst_39 (lv_at hl 0 rfl) ?_
            refine lv_goto (tgt := 45) hx hb dX2_leastWorst_41 (by decide) ?_
            refine lv_istore_n (lv' := [(2, .int (nI (askW ac co wo x k))), (4, .int (nI (askW ac co wo x k))), (3, .int (nI k)), (0, .ref (qp 0)), (1, .int (nI x))]) hx hb dX2_leastWorst_45 rfl hl (by decide) rfl (fun ls hl => ?_)
            refine lv_iinc (v := (nI (k + 1))) (lv' := [(3, .int (nI (k + 1))), (2, .int (nI (askW ac co wo x k))), (4, .int (nI (askW ac co wo x k))), (0, .ref (qp 0)), (1, .int (nI x))]) hx hb dX2_leastWorst_46 hl (k := 2) rfl (nI_inc _) (by decide) rfl (fun ls hl => ?_)
            refine lv_goto (tgt := 5) hx hb dX2_leastWorst_49 (by decide) ?_
            exact ih5 (k + 1) (askW ac co wo x k) (by omega) (by first | assumption | omega) (by first | assumption | omega) (by rw [lwF_s, ← hu]; first | rw [if_pos (decide_eq_true c22), if_pos c36] | rw [if_pos (decide_eq_true c22), if_neg (by omega)] | rw [if_neg (by rw [decide_eq_false (by omega)]; decide)]) _ (lv_sub hl [0, 1, 3, 4] rfl)
  exact L5 ((cc - 0) + 1) 0 100 (Nat.lt_succ_self _) (by first | assumption | omega) (by first | assumption | omega) rfl _ (lv_sub hl [0, 1, 2, 3] rfl)
